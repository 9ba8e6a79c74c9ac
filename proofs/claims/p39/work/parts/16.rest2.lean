/-! ===== rest2 ===== -/
set_option maxRecDepth 100000 in
theorem m_35 : Cond.selects RX2 yX2_isSuspect yX2_isSuspect ∈ tb := tb_in 35 (by decide +kernel) rfl
set_option maxRecDepth 100000 in
theorem m_36 : Cond.selects RX2 yX2_agreeWithout yX2_agreeWithout ∈ tb := tb_in 36 (by decide +kernel) rfl
set_option maxRecDepth 100000 in
theorem m_37 : Cond.selects RX2 yX2_listLook yX2_listLook ∈ tb := tb_in 37 (by decide +kernel) rfl
set_option maxRecDepth 100000 in
theorem m_38 : Cond.selects RX2 yX2_takeSome yX2_takeSome ∈ tb := tb_in 38 (by decide +kernel) rfl
theorem m_306 : Cond.fieldLink RX2 20 "SilkHouse$Doubts" "first" "[I" ∈ tb := mb_1_5 _ (List.mem_of_getElem? (i := 19) rfl)
theorem m_310 : Cond.fieldLink RX2 34 "SilkHouse$Doubts" "ways" "I" ∈ tb := mb_1_5 _ (List.mem_of_getElem? (i := 23) rfl)
theorem m_311 : Cond.fieldLink RX2 37 "SilkHouse$Doubts" "far" "I" ∈ tb := mb_1_6 _ (List.mem_of_getElem? (i := 0) rfl)
theorem m_904 : Cond.methodLink RX2 86 yX2_isSuspect ∈ tb := mb_4_4 _ (List.mem_of_getElem? (i := 4) rfl)
theorem m_906 : Cond.instanceMethod yX2_isSuspect ∈ tb := mb_4_4 _ (List.mem_of_getElem? (i := 5) rfl)
theorem m_907 : Cond.code yX2_isSuspect cX2_isSuspect 2 (some .boolean) ∈ tb := mb_4_4 _ (List.mem_of_getElem? (i := 6) rfl)
theorem m_909 : Cond.methodLink RX2 89 yX2_agreeWithout ∈ tb := mb_4_4 _ (List.mem_of_getElem? (i := 7) rfl)
theorem m_911 : Cond.instanceMethod yX2_agreeWithout ∈ tb := mb_4_4 _ (List.mem_of_getElem? (i := 8) rfl)
theorem m_912 : Cond.code yX2_agreeWithout cX2_agreeWithout 4 (some .boolean) ∈ tb := mb_4_4 _ (List.mem_of_getElem? (i := 9) rfl)
theorem m_921 : Cond.methodLink RX2 95 yX2_listLook ∈ tb := mb_4_4 _ (List.mem_of_getElem? (i := 18) rfl)
theorem m_923 : Cond.instanceMethod yX2_listLook ∈ tb := mb_4_4 _ (List.mem_of_getElem? (i := 19) rfl)
theorem m_924 : Cond.code yX2_listLook cX2_listLook 4 (some .int) ∈ tb := mb_4_4 _ (List.mem_of_getElem? (i := 20) rfl)
theorem m_933 : Cond.methodLink RX2 99 yX2_takeSome ∈ tb := mb_4_5 _ (List.mem_of_getElem? (i := 5) rfl)
theorem m_935 : Cond.instanceMethod yX2_takeSome ∈ tb := mb_4_5 _ (List.mem_of_getElem? (i := 6) rfl)
theorem m_936 : Cond.code yX2_takeSome cX2_takeSome 6 none ∈ tb := mb_4_5 _ (List.mem_of_getElem? (i := 7) rfl)
theorem m_937 : Cond.methodLink RX2 102 yX7_remove ∈ tb := mb_4_5 _ (List.mem_of_getElem? (i := 8) rfl)
theorem m_938 : Cond.instanceMethod yX7_remove ∈ tb := mb_4_5 _ (List.mem_of_getElem? (i := 9) rfl)
theorem m_939 : Cond.selects RX7 yX7_remove yX7_remove ∈ tb := mb_4_5 _ (List.mem_of_getElem? (i := 10) rfl)
theorem m_940 : Cond.code yX7_remove cX7_remove 4 none ∈ tb := mb_4_5 _ (List.mem_of_getElem? (i := 11) rfl)
theorem hd_X2_agreeWithout_v : yX2_agreeWithout.cls = RX2 ∧ yX2_agreeWithout.cls ≠ "java/lang/invoke/MethodHandle" ∧ yX2_agreeWithout.cls ≠ "java/lang/invoke/VarHandle" ∧ (parseMethodDescriptor yX2_agreeWithout.desc).map (fun d => d.parameters.length) = some 1 := by decide +kernel
theorem hd_X2_isSuspect_v : yX2_isSuspect.cls = RX2 ∧ yX2_isSuspect.cls ≠ "java/lang/invoke/MethodHandle" ∧ yX2_isSuspect.cls ≠ "java/lang/invoke/VarHandle" ∧ (parseMethodDescriptor yX2_isSuspect.desc).map (fun d => d.parameters.length) = some 1 := by decide +kernel
theorem hd_X2_listLook_v : yX2_listLook.cls = RX2 ∧ yX2_listLook.cls ≠ "java/lang/invoke/MethodHandle" ∧ yX2_listLook.cls ≠ "java/lang/invoke/VarHandle" ∧ (parseMethodDescriptor yX2_listLook.desc).map (fun d => d.parameters.length) = some 1 := by decide +kernel
theorem hd_X2_takeSome_v : yX2_takeSome.cls = RX2 ∧ yX2_takeSome.cls ≠ "java/lang/invoke/MethodHandle" ∧ yX2_takeSome.cls ≠ "java/lang/invoke/VarHandle" ∧ (parseMethodDescriptor yX2_takeSome.desc).map (fun d => d.parameters.length) = some 3 := by decide +kernel
theorem hd_X7_remove_v : yX7_remove.cls = RX7 ∧ yX7_remove.cls ≠ "java/lang/invoke/MethodHandle" ∧ yX7_remove.cls ≠ "java/lang/invoke/VarHandle" ∧ (parseMethodDescriptor yX7_remove.desc).map (fun d => d.parameters.length) = some 3 := by decide +kernel
set_option maxRecDepth 100000 in
theorem dvX2_agreeWithout_0 : ([(0, .iconst 2, 1), (1, .istore_n 3, 1), (2, .iload_n 1, 1), (3, .bipush 10, 2), (5, .if_icmp .ge 13, 3), (8, .aload_n 0, 1), (9, .iconst 5, 1), (10, .iload_n 1, 1), (11, .invokevirtual 44, 3), (14, .istore_n 2, 1), (15, .goto 36, 3), (18, .iload_n 1, 1), (19, .bipush 100, 2), (21, .if_icmp .ge 17, 3), (24, .aload_n 0, 1), (25, .bipush 6, 2), (27, .iload_n 1, 1), (28, .bipush 10, 2), (30, .isub, 1), (31, .invokevirtual 44, 3), (34, .istore_n 2, 1), (35, .goto 16, 3), (38, .aload_n 0, 1), (39, .bipush 9, 2)] : List (Nat × Instr × Nat)).all (fun q => decide (decode cX2_agreeWithout q.1 = .ok (q.2.1, q.2.2))) = true := by decide +kernel
theorem dX2_agreeWithout_0 : decode cX2_agreeWithout 0 = .ok (.iconst 2, 1) := all_at dvX2_agreeWithout_0 0 rfl
theorem dX2_agreeWithout_1 : decode cX2_agreeWithout 1 = .ok (.istore_n 3, 1) := all_at dvX2_agreeWithout_0 1 rfl
theorem dX2_agreeWithout_2 : decode cX2_agreeWithout 2 = .ok (.iload_n 1, 1) := all_at dvX2_agreeWithout_0 2 rfl
theorem dX2_agreeWithout_3 : decode cX2_agreeWithout 3 = .ok (.bipush 10, 2) := all_at dvX2_agreeWithout_0 3 rfl
theorem dX2_agreeWithout_5 : decode cX2_agreeWithout 5 = .ok (.if_icmp .ge 13, 3) := all_at dvX2_agreeWithout_0 4 rfl
theorem dX2_agreeWithout_8 : decode cX2_agreeWithout 8 = .ok (.aload_n 0, 1) := all_at dvX2_agreeWithout_0 5 rfl
theorem dX2_agreeWithout_9 : decode cX2_agreeWithout 9 = .ok (.iconst 5, 1) := all_at dvX2_agreeWithout_0 6 rfl
theorem dX2_agreeWithout_10 : decode cX2_agreeWithout 10 = .ok (.iload_n 1, 1) := all_at dvX2_agreeWithout_0 7 rfl
theorem dX2_agreeWithout_11 : decode cX2_agreeWithout 11 = .ok (.invokevirtual 44, 3) := all_at dvX2_agreeWithout_0 8 rfl
theorem dX2_agreeWithout_14 : decode cX2_agreeWithout 14 = .ok (.istore_n 2, 1) := all_at dvX2_agreeWithout_0 9 rfl
theorem dX2_agreeWithout_15 : decode cX2_agreeWithout 15 = .ok (.goto 36, 3) := all_at dvX2_agreeWithout_0 10 rfl
theorem dX2_agreeWithout_18 : decode cX2_agreeWithout 18 = .ok (.iload_n 1, 1) := all_at dvX2_agreeWithout_0 11 rfl
theorem dX2_agreeWithout_19 : decode cX2_agreeWithout 19 = .ok (.bipush 100, 2) := all_at dvX2_agreeWithout_0 12 rfl
theorem dX2_agreeWithout_21 : decode cX2_agreeWithout 21 = .ok (.if_icmp .ge 17, 3) := all_at dvX2_agreeWithout_0 13 rfl
theorem dX2_agreeWithout_24 : decode cX2_agreeWithout 24 = .ok (.aload_n 0, 1) := all_at dvX2_agreeWithout_0 14 rfl
theorem dX2_agreeWithout_25 : decode cX2_agreeWithout 25 = .ok (.bipush 6, 2) := all_at dvX2_agreeWithout_0 15 rfl
theorem dX2_agreeWithout_27 : decode cX2_agreeWithout 27 = .ok (.iload_n 1, 1) := all_at dvX2_agreeWithout_0 16 rfl
theorem dX2_agreeWithout_28 : decode cX2_agreeWithout 28 = .ok (.bipush 10, 2) := all_at dvX2_agreeWithout_0 17 rfl
theorem dX2_agreeWithout_30 : decode cX2_agreeWithout 30 = .ok (.isub, 1) := all_at dvX2_agreeWithout_0 18 rfl
theorem dX2_agreeWithout_31 : decode cX2_agreeWithout 31 = .ok (.invokevirtual 44, 3) := all_at dvX2_agreeWithout_0 19 rfl
theorem dX2_agreeWithout_34 : decode cX2_agreeWithout 34 = .ok (.istore_n 2, 1) := all_at dvX2_agreeWithout_0 20 rfl
theorem dX2_agreeWithout_35 : decode cX2_agreeWithout 35 = .ok (.goto 16, 3) := all_at dvX2_agreeWithout_0 21 rfl
theorem dX2_agreeWithout_38 : decode cX2_agreeWithout 38 = .ok (.aload_n 0, 1) := all_at dvX2_agreeWithout_0 22 rfl
theorem dX2_agreeWithout_39 : decode cX2_agreeWithout 39 = .ok (.bipush 9, 2) := all_at dvX2_agreeWithout_0 23 rfl
set_option maxRecDepth 100000 in
theorem dvX2_agreeWithout_41 : ([(41, .iload_n 1, 1), (42, .bipush 100, 2), (44, .isub, 1), (45, .invokevirtual 44, 3), (48, .istore_n 2, 1), (49, .iconst 1, 1), (50, .istore_n 3, 1), (51, .iload_n 2, 1), (52, .iload_n 3, 1), (53, .if_icmp .lt 30, 3), (56, .aload_n 0, 1), (57, .invokevirtual 48, 3), (60, .ifCond .eq 23, 3), (63, .aload_n 0, 1), (64, .getfield 12, 3), (67, .iconst 0, 1), (68, .iconst 1, 1), (69, .aload_n 0, 1), (70, .getfield 31, 3), (73, .invokevirtual 52, 3), (76, .ifCond .ne 7, 3), (79, .iconst 1, 1), (80, .goto 4, 3), (83, .iconst 0, 1)] : List (Nat × Instr × Nat)).all (fun q => decide (decode cX2_agreeWithout q.1 = .ok (q.2.1, q.2.2))) = true := by decide +kernel
theorem dX2_agreeWithout_41 : decode cX2_agreeWithout 41 = .ok (.iload_n 1, 1) := all_at dvX2_agreeWithout_41 0 rfl
theorem dX2_agreeWithout_42 : decode cX2_agreeWithout 42 = .ok (.bipush 100, 2) := all_at dvX2_agreeWithout_41 1 rfl
theorem dX2_agreeWithout_44 : decode cX2_agreeWithout 44 = .ok (.isub, 1) := all_at dvX2_agreeWithout_41 2 rfl
theorem dX2_agreeWithout_45 : decode cX2_agreeWithout 45 = .ok (.invokevirtual 44, 3) := all_at dvX2_agreeWithout_41 3 rfl
theorem dX2_agreeWithout_48 : decode cX2_agreeWithout 48 = .ok (.istore_n 2, 1) := all_at dvX2_agreeWithout_41 4 rfl
theorem dX2_agreeWithout_49 : decode cX2_agreeWithout 49 = .ok (.iconst 1, 1) := all_at dvX2_agreeWithout_41 5 rfl
theorem dX2_agreeWithout_50 : decode cX2_agreeWithout 50 = .ok (.istore_n 3, 1) := all_at dvX2_agreeWithout_41 6 rfl
theorem dX2_agreeWithout_51 : decode cX2_agreeWithout 51 = .ok (.iload_n 2, 1) := all_at dvX2_agreeWithout_41 7 rfl
theorem dX2_agreeWithout_52 : decode cX2_agreeWithout 52 = .ok (.iload_n 3, 1) := all_at dvX2_agreeWithout_41 8 rfl
theorem dX2_agreeWithout_53 : decode cX2_agreeWithout 53 = .ok (.if_icmp .lt 30, 3) := all_at dvX2_agreeWithout_41 9 rfl
theorem dX2_agreeWithout_56 : decode cX2_agreeWithout 56 = .ok (.aload_n 0, 1) := all_at dvX2_agreeWithout_41 10 rfl
theorem dX2_agreeWithout_57 : decode cX2_agreeWithout 57 = .ok (.invokevirtual 48, 3) := all_at dvX2_agreeWithout_41 11 rfl
theorem dX2_agreeWithout_60 : decode cX2_agreeWithout 60 = .ok (.ifCond .eq 23, 3) := all_at dvX2_agreeWithout_41 12 rfl
theorem dX2_agreeWithout_63 : decode cX2_agreeWithout 63 = .ok (.aload_n 0, 1) := all_at dvX2_agreeWithout_41 13 rfl
theorem dX2_agreeWithout_64 : decode cX2_agreeWithout 64 = .ok (.getfield 12, 3) := all_at dvX2_agreeWithout_41 14 rfl
theorem dX2_agreeWithout_67 : decode cX2_agreeWithout 67 = .ok (.iconst 0, 1) := all_at dvX2_agreeWithout_41 15 rfl
theorem dX2_agreeWithout_68 : decode cX2_agreeWithout 68 = .ok (.iconst 1, 1) := all_at dvX2_agreeWithout_41 16 rfl
theorem dX2_agreeWithout_69 : decode cX2_agreeWithout 69 = .ok (.aload_n 0, 1) := all_at dvX2_agreeWithout_41 17 rfl
theorem dX2_agreeWithout_70 : decode cX2_agreeWithout 70 = .ok (.getfield 31, 3) := all_at dvX2_agreeWithout_41 18 rfl
theorem dX2_agreeWithout_73 : decode cX2_agreeWithout 73 = .ok (.invokevirtual 52, 3) := all_at dvX2_agreeWithout_41 19 rfl
theorem dX2_agreeWithout_76 : decode cX2_agreeWithout 76 = .ok (.ifCond .ne 7, 3) := all_at dvX2_agreeWithout_41 20 rfl
theorem dX2_agreeWithout_79 : decode cX2_agreeWithout 79 = .ok (.iconst 1, 1) := all_at dvX2_agreeWithout_41 21 rfl
theorem dX2_agreeWithout_80 : decode cX2_agreeWithout 80 = .ok (.goto 4, 3) := all_at dvX2_agreeWithout_41 22 rfl
theorem dX2_agreeWithout_83 : decode cX2_agreeWithout 83 = .ok (.iconst 0, 1) := all_at dvX2_agreeWithout_41 23 rfl
theorem dX2_agreeWithout_84 : decode cX2_agreeWithout 84 = .ok (.ireturn, 1) := by decide +kernel
set_option maxRecDepth 100000 in
theorem dvX2_culprit_0 : ([(0, .iconst 0, 1), (1, .istore_n 2, 1), (2, .iconst 0, 1), (3, .istore_n 3, 1), (4, .iload_n 3, 1), (5, .bipush 100, 2), (7, .aload_n 0, 1), (8, .getfield 40, 3), (11, .getfield 61, 3), (14, .iadd, 1), (15, .if_icmp .ge 35, 3), (18, .aload_n 0, 1), (19, .iload_n 3, 1), (20, .invokevirtual 86, 3), (23, .ifCond .eq 21, 3), (26, .aload_n 0, 1), (27, .iload_n 3, 1), (28, .invokevirtual 89, 3), (31, .ifCond .eq 13, 3), (34, .iload_n 2, 1), (35, .iload_n 1, 1), (36, .if_icmp .ne 5, 3), (39, .iload_n 3, 1), (40, .ireturn, 1)] : List (Nat × Instr × Nat)).all (fun q => decide (decode cX2_culprit q.1 = .ok (q.2.1, q.2.2))) = true := by decide +kernel
theorem dX2_culprit_0 : decode cX2_culprit 0 = .ok (.iconst 0, 1) := all_at dvX2_culprit_0 0 rfl
theorem dX2_culprit_1 : decode cX2_culprit 1 = .ok (.istore_n 2, 1) := all_at dvX2_culprit_0 1 rfl
theorem dX2_culprit_2 : decode cX2_culprit 2 = .ok (.iconst 0, 1) := all_at dvX2_culprit_0 2 rfl
theorem dX2_culprit_3 : decode cX2_culprit 3 = .ok (.istore_n 3, 1) := all_at dvX2_culprit_0 3 rfl
theorem dX2_culprit_4 : decode cX2_culprit 4 = .ok (.iload_n 3, 1) := all_at dvX2_culprit_0 4 rfl
theorem dX2_culprit_5 : decode cX2_culprit 5 = .ok (.bipush 100, 2) := all_at dvX2_culprit_0 5 rfl
theorem dX2_culprit_7 : decode cX2_culprit 7 = .ok (.aload_n 0, 1) := all_at dvX2_culprit_0 6 rfl
theorem dX2_culprit_8 : decode cX2_culprit 8 = .ok (.getfield 40, 3) := all_at dvX2_culprit_0 7 rfl
theorem dX2_culprit_11 : decode cX2_culprit 11 = .ok (.getfield 61, 3) := all_at dvX2_culprit_0 8 rfl
theorem dX2_culprit_14 : decode cX2_culprit 14 = .ok (.iadd, 1) := all_at dvX2_culprit_0 9 rfl
theorem dX2_culprit_15 : decode cX2_culprit 15 = .ok (.if_icmp .ge 35, 3) := all_at dvX2_culprit_0 10 rfl
theorem dX2_culprit_18 : decode cX2_culprit 18 = .ok (.aload_n 0, 1) := all_at dvX2_culprit_0 11 rfl
theorem dX2_culprit_19 : decode cX2_culprit 19 = .ok (.iload_n 3, 1) := all_at dvX2_culprit_0 12 rfl
theorem dX2_culprit_20 : decode cX2_culprit 20 = .ok (.invokevirtual 86, 3) := all_at dvX2_culprit_0 13 rfl
theorem dX2_culprit_23 : decode cX2_culprit 23 = .ok (.ifCond .eq 21, 3) := all_at dvX2_culprit_0 14 rfl
theorem dX2_culprit_26 : decode cX2_culprit 26 = .ok (.aload_n 0, 1) := all_at dvX2_culprit_0 15 rfl
theorem dX2_culprit_27 : decode cX2_culprit 27 = .ok (.iload_n 3, 1) := all_at dvX2_culprit_0 16 rfl
theorem dX2_culprit_28 : decode cX2_culprit 28 = .ok (.invokevirtual 89, 3) := all_at dvX2_culprit_0 17 rfl
theorem dX2_culprit_31 : decode cX2_culprit 31 = .ok (.ifCond .eq 13, 3) := all_at dvX2_culprit_0 18 rfl
theorem dX2_culprit_34 : decode cX2_culprit 34 = .ok (.iload_n 2, 1) := all_at dvX2_culprit_0 19 rfl
theorem dX2_culprit_35 : decode cX2_culprit 35 = .ok (.iload_n 1, 1) := all_at dvX2_culprit_0 20 rfl
theorem dX2_culprit_36 : decode cX2_culprit 36 = .ok (.if_icmp .ne 5, 3) := all_at dvX2_culprit_0 21 rfl
theorem dX2_culprit_39 : decode cX2_culprit 39 = .ok (.iload_n 3, 1) := all_at dvX2_culprit_0 22 rfl
theorem dX2_culprit_40 : decode cX2_culprit 40 = .ok (.ireturn, 1) := all_at dvX2_culprit_0 23 rfl
set_option maxRecDepth 100000 in
theorem dvX2_culprit_41 : ([(41, .iinc 2 1, 3), (44, .iinc 3 1, 3), (47, .goto (-43), 3), (50, .iload_n 1, 1), (51, .iconst (-1), 1), (52, .if_icmp .ne 7, 3), (55, .iload_n 2, 1), (56, .goto 4, 3), (59, .iconst (-1), 1), (60, .ireturn, 1)] : List (Nat × Instr × Nat)).all (fun q => decide (decode cX2_culprit q.1 = .ok (q.2.1, q.2.2))) = true := by decide +kernel
theorem dX2_culprit_41 : decode cX2_culprit 41 = .ok (.iinc 2 1, 3) := all_at dvX2_culprit_41 0 rfl
theorem dX2_culprit_44 : decode cX2_culprit 44 = .ok (.iinc 3 1, 3) := all_at dvX2_culprit_41 1 rfl
theorem dX2_culprit_47 : decode cX2_culprit 47 = .ok (.goto (-43), 3) := all_at dvX2_culprit_41 2 rfl
theorem dX2_culprit_50 : decode cX2_culprit 50 = .ok (.iload_n 1, 1) := all_at dvX2_culprit_41 3 rfl
theorem dX2_culprit_51 : decode cX2_culprit 51 = .ok (.iconst (-1), 1) := all_at dvX2_culprit_41 4 rfl
theorem dX2_culprit_52 : decode cX2_culprit 52 = .ok (.if_icmp .ne 7, 3) := all_at dvX2_culprit_41 5 rfl
theorem dX2_culprit_55 : decode cX2_culprit 55 = .ok (.iload_n 2, 1) := all_at dvX2_culprit_41 6 rfl
theorem dX2_culprit_56 : decode cX2_culprit 56 = .ok (.goto 4, 3) := all_at dvX2_culprit_41 7 rfl
theorem dX2_culprit_59 : decode cX2_culprit 59 = .ok (.iconst (-1), 1) := all_at dvX2_culprit_41 8 rfl
theorem dX2_culprit_60 : decode cX2_culprit 60 = .ok (.ireturn, 1) := all_at dvX2_culprit_41 9 rfl
set_option maxRecDepth 100000 in
theorem dvX2_fewest_0 : ([(0, .aload_n 0, 1), (1, .iconst 0, 1), (2, .invokevirtual 95, 3), (5, .istore_n 2, 1), (6, .aload_n 0, 1), (7, .getfield 12, 3), (10, .invokevirtual 58, 3), (13, .iconst 0, 1), (14, .istore_n 3, 1), (15, .iload_n 3, 1), (16, .iload_n 2, 1), (17, .if_icmp .ge 20, 3), (20, .aload_n 0, 1), (21, .iconst 0, 1), (22, .aload_n 0, 1), (23, .getfield 20, 3), (26, .iload_n 3, 1), (27, .iaload, 1), (28, .invokevirtual 71, 3), (31, .iinc 3 1, 3), (34, .goto (-19), 3), (37, .iconst 2, 1), (38, .istore_n 3, 1), (39, .iload_n 3, 1)] : List (Nat × Instr × Nat)).all (fun q => decide (decode cX2_fewest q.1 = .ok (q.2.1, q.2.2))) = true := by decide +kernel
theorem dX2_fewest_0 : decode cX2_fewest 0 = .ok (.aload_n 0, 1) := all_at dvX2_fewest_0 0 rfl
theorem dX2_fewest_1 : decode cX2_fewest 1 = .ok (.iconst 0, 1) := all_at dvX2_fewest_0 1 rfl
theorem dX2_fewest_2 : decode cX2_fewest 2 = .ok (.invokevirtual 95, 3) := all_at dvX2_fewest_0 2 rfl
theorem dX2_fewest_5 : decode cX2_fewest 5 = .ok (.istore_n 2, 1) := all_at dvX2_fewest_0 3 rfl
theorem dX2_fewest_6 : decode cX2_fewest 6 = .ok (.aload_n 0, 1) := all_at dvX2_fewest_0 4 rfl
theorem dX2_fewest_7 : decode cX2_fewest 7 = .ok (.getfield 12, 3) := all_at dvX2_fewest_0 5 rfl
theorem dX2_fewest_10 : decode cX2_fewest 10 = .ok (.invokevirtual 58, 3) := all_at dvX2_fewest_0 6 rfl
theorem dX2_fewest_13 : decode cX2_fewest 13 = .ok (.iconst 0, 1) := all_at dvX2_fewest_0 7 rfl
theorem dX2_fewest_14 : decode cX2_fewest 14 = .ok (.istore_n 3, 1) := all_at dvX2_fewest_0 8 rfl
theorem dX2_fewest_15 : decode cX2_fewest 15 = .ok (.iload_n 3, 1) := all_at dvX2_fewest_0 9 rfl
theorem dX2_fewest_16 : decode cX2_fewest 16 = .ok (.iload_n 2, 1) := all_at dvX2_fewest_0 10 rfl
theorem dX2_fewest_17 : decode cX2_fewest 17 = .ok (.if_icmp .ge 20, 3) := all_at dvX2_fewest_0 11 rfl
theorem dX2_fewest_20 : decode cX2_fewest 20 = .ok (.aload_n 0, 1) := all_at dvX2_fewest_0 12 rfl
theorem dX2_fewest_21 : decode cX2_fewest 21 = .ok (.iconst 0, 1) := all_at dvX2_fewest_0 13 rfl
theorem dX2_fewest_22 : decode cX2_fewest 22 = .ok (.aload_n 0, 1) := all_at dvX2_fewest_0 14 rfl
theorem dX2_fewest_23 : decode cX2_fewest 23 = .ok (.getfield 20, 3) := all_at dvX2_fewest_0 15 rfl
theorem dX2_fewest_26 : decode cX2_fewest 26 = .ok (.iload_n 3, 1) := all_at dvX2_fewest_0 16 rfl
theorem dX2_fewest_27 : decode cX2_fewest 27 = .ok (.iaload, 1) := all_at dvX2_fewest_0 17 rfl
theorem dX2_fewest_28 : decode cX2_fewest 28 = .ok (.invokevirtual 71, 3) := all_at dvX2_fewest_0 18 rfl
theorem dX2_fewest_31 : decode cX2_fewest 31 = .ok (.iinc 3 1, 3) := all_at dvX2_fewest_0 19 rfl
theorem dX2_fewest_34 : decode cX2_fewest 34 = .ok (.goto (-19), 3) := all_at dvX2_fewest_0 20 rfl
theorem dX2_fewest_37 : decode cX2_fewest 37 = .ok (.iconst 2, 1) := all_at dvX2_fewest_0 21 rfl
theorem dX2_fewest_38 : decode cX2_fewest 38 = .ok (.istore_n 3, 1) := all_at dvX2_fewest_0 22 rfl
theorem dX2_fewest_39 : decode cX2_fewest 39 = .ok (.iload_n 3, 1) := all_at dvX2_fewest_0 23 rfl
set_option maxRecDepth 100000 in
theorem dvX2_fewest_40 : ([(40, .iload_n 2, 1), (41, .if_icmp .gt 44, 3), (44, .aload_n 0, 1), (45, .iconst 0, 1), (46, .putfield 34, 3), (49, .aload_n 0, 1), (50, .iconst 0, 1), (51, .putfield 37, 3), (54, .aload_n 0, 1), (55, .iload_n 3, 1), (56, .iconst 0, 1), (57, .iload_n 2, 1), (58, .invokevirtual 99, 3), (61, .bipush 100, 2), (63, .aload_n 0, 1), (64, .getfield 37, 3), (67, .imul, 1), (68, .iload_n 1, 1), (69, .aload_n 0, 1), (70, .getfield 34, 3), (73, .imul, 1), (74, .if_icmp .gt 5, 3), (77, .iload_n 3, 1), (78, .ireturn, 1)] : List (Nat × Instr × Nat)).all (fun q => decide (decode cX2_fewest q.1 = .ok (q.2.1, q.2.2))) = true := by decide +kernel
theorem dX2_fewest_40 : decode cX2_fewest 40 = .ok (.iload_n 2, 1) := all_at dvX2_fewest_40 0 rfl
theorem dX2_fewest_41 : decode cX2_fewest 41 = .ok (.if_icmp .gt 44, 3) := all_at dvX2_fewest_40 1 rfl
theorem dX2_fewest_44 : decode cX2_fewest 44 = .ok (.aload_n 0, 1) := all_at dvX2_fewest_40 2 rfl
theorem dX2_fewest_45 : decode cX2_fewest 45 = .ok (.iconst 0, 1) := all_at dvX2_fewest_40 3 rfl
theorem dX2_fewest_46 : decode cX2_fewest 46 = .ok (.putfield 34, 3) := all_at dvX2_fewest_40 4 rfl
theorem dX2_fewest_49 : decode cX2_fewest 49 = .ok (.aload_n 0, 1) := all_at dvX2_fewest_40 5 rfl
theorem dX2_fewest_50 : decode cX2_fewest 50 = .ok (.iconst 0, 1) := all_at dvX2_fewest_40 6 rfl
theorem dX2_fewest_51 : decode cX2_fewest 51 = .ok (.putfield 37, 3) := all_at dvX2_fewest_40 7 rfl
theorem dX2_fewest_54 : decode cX2_fewest 54 = .ok (.aload_n 0, 1) := all_at dvX2_fewest_40 8 rfl
theorem dX2_fewest_55 : decode cX2_fewest 55 = .ok (.iload_n 3, 1) := all_at dvX2_fewest_40 9 rfl
theorem dX2_fewest_56 : decode cX2_fewest 56 = .ok (.iconst 0, 1) := all_at dvX2_fewest_40 10 rfl
theorem dX2_fewest_57 : decode cX2_fewest 57 = .ok (.iload_n 2, 1) := all_at dvX2_fewest_40 11 rfl
theorem dX2_fewest_58 : decode cX2_fewest 58 = .ok (.invokevirtual 99, 3) := all_at dvX2_fewest_40 12 rfl
theorem dX2_fewest_61 : decode cX2_fewest 61 = .ok (.bipush 100, 2) := all_at dvX2_fewest_40 13 rfl
theorem dX2_fewest_63 : decode cX2_fewest 63 = .ok (.aload_n 0, 1) := all_at dvX2_fewest_40 14 rfl
theorem dX2_fewest_64 : decode cX2_fewest 64 = .ok (.getfield 37, 3) := all_at dvX2_fewest_40 15 rfl
theorem dX2_fewest_67 : decode cX2_fewest 67 = .ok (.imul, 1) := all_at dvX2_fewest_40 16 rfl
theorem dX2_fewest_68 : decode cX2_fewest 68 = .ok (.iload_n 1, 1) := all_at dvX2_fewest_40 17 rfl
theorem dX2_fewest_69 : decode cX2_fewest 69 = .ok (.aload_n 0, 1) := all_at dvX2_fewest_40 18 rfl
theorem dX2_fewest_70 : decode cX2_fewest 70 = .ok (.getfield 34, 3) := all_at dvX2_fewest_40 19 rfl
theorem dX2_fewest_73 : decode cX2_fewest 73 = .ok (.imul, 1) := all_at dvX2_fewest_40 20 rfl
theorem dX2_fewest_74 : decode cX2_fewest 74 = .ok (.if_icmp .gt 5, 3) := all_at dvX2_fewest_40 21 rfl
theorem dX2_fewest_77 : decode cX2_fewest 77 = .ok (.iload_n 3, 1) := all_at dvX2_fewest_40 22 rfl
theorem dX2_fewest_78 : decode cX2_fewest 78 = .ok (.ireturn, 1) := all_at dvX2_fewest_40 23 rfl
set_option maxRecDepth 100000 in
theorem dvX2_fewest_79 : ([(79, .iinc 3 1, 3), (82, .goto (-43), 3), (85, .iconst (-1), 1), (86, .ireturn, 1)] : List (Nat × Instr × Nat)).all (fun q => decide (decode cX2_fewest q.1 = .ok (q.2.1, q.2.2))) = true := by decide +kernel
theorem dX2_fewest_79 : decode cX2_fewest 79 = .ok (.iinc 3 1, 3) := all_at dvX2_fewest_79 0 rfl
theorem dX2_fewest_82 : decode cX2_fewest 82 = .ok (.goto (-43), 3) := all_at dvX2_fewest_79 1 rfl
theorem dX2_fewest_85 : decode cX2_fewest 85 = .ok (.iconst (-1), 1) := all_at dvX2_fewest_79 2 rfl
theorem dX2_fewest_86 : decode cX2_fewest 86 = .ok (.ireturn, 1) := all_at dvX2_fewest_79 3 rfl
set_option maxRecDepth 100000 in
theorem dvX2_isSuspect_0 : ([(0, .iload_n 1, 1), (1, .bipush 100, 2), (3, .if_icmp .ge 29, 3), (6, .iload_n 1, 1), (7, .iconst 0, 1), (8, .iconst 3, 1), (9, .invokestatic 92, 3), (12, .ifCond .ne 14, 3), (15, .iload_n 1, 1), (16, .bipush 10, 2), (18, .bipush 17, 2), (20, .invokestatic 92, 3), (23, .ifCond .eq 7, 3), (26, .iconst 1, 1), (27, .goto 4, 3), (30, .iconst 0, 1), (31, .ireturn, 1), (32, .aload_n 0, 1), (33, .iload_n 1, 1), (34, .bipush 100, 2), (36, .isub, 1), (37, .invokevirtual 64, 3), (40, .ireturn, 1)] : List (Nat × Instr × Nat)).all (fun q => decide (decode cX2_isSuspect q.1 = .ok (q.2.1, q.2.2))) = true := by decide +kernel
theorem dX2_isSuspect_0 : decode cX2_isSuspect 0 = .ok (.iload_n 1, 1) := all_at dvX2_isSuspect_0 0 rfl
theorem dX2_isSuspect_1 : decode cX2_isSuspect 1 = .ok (.bipush 100, 2) := all_at dvX2_isSuspect_0 1 rfl
theorem dX2_isSuspect_3 : decode cX2_isSuspect 3 = .ok (.if_icmp .ge 29, 3) := all_at dvX2_isSuspect_0 2 rfl
theorem dX2_isSuspect_6 : decode cX2_isSuspect 6 = .ok (.iload_n 1, 1) := all_at dvX2_isSuspect_0 3 rfl
theorem dX2_isSuspect_7 : decode cX2_isSuspect 7 = .ok (.iconst 0, 1) := all_at dvX2_isSuspect_0 4 rfl
theorem dX2_isSuspect_8 : decode cX2_isSuspect 8 = .ok (.iconst 3, 1) := all_at dvX2_isSuspect_0 5 rfl
theorem dX2_isSuspect_9 : decode cX2_isSuspect 9 = .ok (.invokestatic 92, 3) := all_at dvX2_isSuspect_0 6 rfl
theorem dX2_isSuspect_12 : decode cX2_isSuspect 12 = .ok (.ifCond .ne 14, 3) := all_at dvX2_isSuspect_0 7 rfl
theorem dX2_isSuspect_15 : decode cX2_isSuspect 15 = .ok (.iload_n 1, 1) := all_at dvX2_isSuspect_0 8 rfl
theorem dX2_isSuspect_16 : decode cX2_isSuspect 16 = .ok (.bipush 10, 2) := all_at dvX2_isSuspect_0 9 rfl
theorem dX2_isSuspect_18 : decode cX2_isSuspect 18 = .ok (.bipush 17, 2) := all_at dvX2_isSuspect_0 10 rfl
theorem dX2_isSuspect_20 : decode cX2_isSuspect 20 = .ok (.invokestatic 92, 3) := all_at dvX2_isSuspect_0 11 rfl
theorem dX2_isSuspect_23 : decode cX2_isSuspect 23 = .ok (.ifCond .eq 7, 3) := all_at dvX2_isSuspect_0 12 rfl
theorem dX2_isSuspect_26 : decode cX2_isSuspect 26 = .ok (.iconst 1, 1) := all_at dvX2_isSuspect_0 13 rfl
theorem dX2_isSuspect_27 : decode cX2_isSuspect 27 = .ok (.goto 4, 3) := all_at dvX2_isSuspect_0 14 rfl
theorem dX2_isSuspect_30 : decode cX2_isSuspect 30 = .ok (.iconst 0, 1) := all_at dvX2_isSuspect_0 15 rfl
theorem dX2_isSuspect_31 : decode cX2_isSuspect 31 = .ok (.ireturn, 1) := all_at dvX2_isSuspect_0 16 rfl
theorem dX2_isSuspect_32 : decode cX2_isSuspect 32 = .ok (.aload_n 0, 1) := all_at dvX2_isSuspect_0 17 rfl
theorem dX2_isSuspect_33 : decode cX2_isSuspect 33 = .ok (.iload_n 1, 1) := all_at dvX2_isSuspect_0 18 rfl
theorem dX2_isSuspect_34 : decode cX2_isSuspect 34 = .ok (.bipush 100, 2) := all_at dvX2_isSuspect_0 19 rfl
theorem dX2_isSuspect_36 : decode cX2_isSuspect 36 = .ok (.isub, 1) := all_at dvX2_isSuspect_0 20 rfl
theorem dX2_isSuspect_37 : decode cX2_isSuspect 37 = .ok (.invokevirtual 64, 3) := all_at dvX2_isSuspect_0 21 rfl
theorem dX2_isSuspect_40 : decode cX2_isSuspect 40 = .ok (.ireturn, 1) := all_at dvX2_isSuspect_0 22 rfl
set_option maxRecDepth 100000 in
theorem dvX2_listLook_0 : ([(0, .iconst 0, 1), (1, .istore_n 2, 1), (2, .iconst 0, 1), (3, .istore_n 3, 1), (4, .iload_n 3, 1), (5, .aload_n 0, 1), (6, .getfield 40, 3), (9, .getfield 61, 3), (12, .if_icmp .ge 59, 3), (15, .iload_n 2, 1), (16, .aload_n 0, 1), (17, .getfield 20, 3), (20, .arraylength, 1), (21, .if_icmp .ge 50, 3), (24, .aload_n 0, 1), (25, .getfield 40, 3), (28, .iload_n 3, 1), (29, .aload_n 0, 1), (30, .getfield 24, 3), (33, .iload_n 1, 1), (34, .invokevirtual 75, 3), (37, .ifCond .eq 28, 3), (40, .aload_n 0, 1), (41, .getfield 40, 3)] : List (Nat × Instr × Nat)).all (fun q => decide (decode cX2_listLook q.1 = .ok (q.2.1, q.2.2))) = true := by decide +kernel
theorem dX2_listLook_0 : decode cX2_listLook 0 = .ok (.iconst 0, 1) := all_at dvX2_listLook_0 0 rfl
theorem dX2_listLook_1 : decode cX2_listLook 1 = .ok (.istore_n 2, 1) := all_at dvX2_listLook_0 1 rfl
theorem dX2_listLook_2 : decode cX2_listLook 2 = .ok (.iconst 0, 1) := all_at dvX2_listLook_0 2 rfl
theorem dX2_listLook_3 : decode cX2_listLook 3 = .ok (.istore_n 3, 1) := all_at dvX2_listLook_0 3 rfl
theorem dX2_listLook_4 : decode cX2_listLook 4 = .ok (.iload_n 3, 1) := all_at dvX2_listLook_0 4 rfl
theorem dX2_listLook_5 : decode cX2_listLook 5 = .ok (.aload_n 0, 1) := all_at dvX2_listLook_0 5 rfl
theorem dX2_listLook_6 : decode cX2_listLook 6 = .ok (.getfield 40, 3) := all_at dvX2_listLook_0 6 rfl
theorem dX2_listLook_9 : decode cX2_listLook 9 = .ok (.getfield 61, 3) := all_at dvX2_listLook_0 7 rfl
theorem dX2_listLook_12 : decode cX2_listLook 12 = .ok (.if_icmp .ge 59, 3) := all_at dvX2_listLook_0 8 rfl
theorem dX2_listLook_15 : decode cX2_listLook 15 = .ok (.iload_n 2, 1) := all_at dvX2_listLook_0 9 rfl
theorem dX2_listLook_16 : decode cX2_listLook 16 = .ok (.aload_n 0, 1) := all_at dvX2_listLook_0 10 rfl
theorem dX2_listLook_17 : decode cX2_listLook 17 = .ok (.getfield 20, 3) := all_at dvX2_listLook_0 11 rfl
theorem dX2_listLook_20 : decode cX2_listLook 20 = .ok (.arraylength, 1) := all_at dvX2_listLook_0 12 rfl
theorem dX2_listLook_21 : decode cX2_listLook 21 = .ok (.if_icmp .ge 50, 3) := all_at dvX2_listLook_0 13 rfl
theorem dX2_listLook_24 : decode cX2_listLook 24 = .ok (.aload_n 0, 1) := all_at dvX2_listLook_0 14 rfl
theorem dX2_listLook_25 : decode cX2_listLook 25 = .ok (.getfield 40, 3) := all_at dvX2_listLook_0 15 rfl
theorem dX2_listLook_28 : decode cX2_listLook 28 = .ok (.iload_n 3, 1) := all_at dvX2_listLook_0 16 rfl
theorem dX2_listLook_29 : decode cX2_listLook 29 = .ok (.aload_n 0, 1) := all_at dvX2_listLook_0 17 rfl
theorem dX2_listLook_30 : decode cX2_listLook 30 = .ok (.getfield 24, 3) := all_at dvX2_listLook_0 18 rfl
theorem dX2_listLook_33 : decode cX2_listLook 33 = .ok (.iload_n 1, 1) := all_at dvX2_listLook_0 19 rfl
theorem dX2_listLook_34 : decode cX2_listLook 34 = .ok (.invokevirtual 75, 3) := all_at dvX2_listLook_0 20 rfl
theorem dX2_listLook_37 : decode cX2_listLook 37 = .ok (.ifCond .eq 28, 3) := all_at dvX2_listLook_0 21 rfl
theorem dX2_listLook_40 : decode cX2_listLook 40 = .ok (.aload_n 0, 1) := all_at dvX2_listLook_0 22 rfl
theorem dX2_listLook_41 : decode cX2_listLook 41 = .ok (.getfield 40, 3) := all_at dvX2_listLook_0 23 rfl
set_option maxRecDepth 100000 in
theorem dvX2_listLook_44 : ([(44, .iload_n 3, 1), (45, .aload_n 0, 1), (46, .getfield 28, 3), (49, .invokevirtual 78, 3), (52, .ifCond .eq 13, 3), (55, .aload_n 0, 1), (56, .getfield 20, 3), (59, .iload_n 2, 1), (60, .iload_n 3, 1), (61, .iastore, 1), (62, .iinc 2 1, 3), (65, .iinc 3 1, 3), (68, .goto (-64), 3), (71, .iload_n 2, 1), (72, .ireturn, 1)] : List (Nat × Instr × Nat)).all (fun q => decide (decode cX2_listLook q.1 = .ok (q.2.1, q.2.2))) = true := by decide +kernel
theorem dX2_listLook_44 : decode cX2_listLook 44 = .ok (.iload_n 3, 1) := all_at dvX2_listLook_44 0 rfl
theorem dX2_listLook_45 : decode cX2_listLook 45 = .ok (.aload_n 0, 1) := all_at dvX2_listLook_44 1 rfl
theorem dX2_listLook_46 : decode cX2_listLook 46 = .ok (.getfield 28, 3) := all_at dvX2_listLook_44 2 rfl
theorem dX2_listLook_49 : decode cX2_listLook 49 = .ok (.invokevirtual 78, 3) := all_at dvX2_listLook_44 3 rfl
theorem dX2_listLook_52 : decode cX2_listLook 52 = .ok (.ifCond .eq 13, 3) := all_at dvX2_listLook_44 4 rfl
theorem dX2_listLook_55 : decode cX2_listLook 55 = .ok (.aload_n 0, 1) := all_at dvX2_listLook_44 5 rfl
theorem dX2_listLook_56 : decode cX2_listLook 56 = .ok (.getfield 20, 3) := all_at dvX2_listLook_44 6 rfl
theorem dX2_listLook_59 : decode cX2_listLook 59 = .ok (.iload_n 2, 1) := all_at dvX2_listLook_44 7 rfl
theorem dX2_listLook_60 : decode cX2_listLook 60 = .ok (.iload_n 3, 1) := all_at dvX2_listLook_44 8 rfl
theorem dX2_listLook_61 : decode cX2_listLook 61 = .ok (.iastore, 1) := all_at dvX2_listLook_44 9 rfl
theorem dX2_listLook_62 : decode cX2_listLook 62 = .ok (.iinc 2 1, 3) := all_at dvX2_listLook_44 10 rfl
theorem dX2_listLook_65 : decode cX2_listLook 65 = .ok (.iinc 3 1, 3) := all_at dvX2_listLook_44 11 rfl
theorem dX2_listLook_68 : decode cX2_listLook 68 = .ok (.goto (-64), 3) := all_at dvX2_listLook_44 12 rfl
theorem dX2_listLook_71 : decode cX2_listLook 71 = .ok (.iload_n 2, 1) := all_at dvX2_listLook_44 13 rfl
theorem dX2_listLook_72 : decode cX2_listLook 72 = .ok (.ireturn, 1) := all_at dvX2_listLook_44 14 rfl
set_option maxRecDepth 100000 in
theorem dvX2_oddPairs_0 : ([(0, .aload_n 0, 1), (1, .iload_n 1, 1), (2, .invokevirtual 95, 3), (5, .istore_n 2, 1), (6, .iconst 0, 1), (7, .istore_n 3, 1), (8, .iconst 0, 1), (9, .istore 4, 2), (11, .iload 4, 2), (13, .iload_n 2, 1), (14, .if_icmp .ge 77, 3), (17, .iload 4, 2), (19, .iconst 1, 1), (20, .iadd, 1), (21, .istore 5, 2), (23, .iload 5, 2), (25, .iload_n 2, 1), (26, .if_icmp .ge 59, 3), (29, .aload_n 0, 1), (30, .getfield 12, 3), (33, .invokevirtual 58, 3), (36, .aload_n 0, 1), (37, .iconst 0, 1), (38, .aload_n 0, 1)] : List (Nat × Instr × Nat)).all (fun q => decide (decode cX2_oddPairs q.1 = .ok (q.2.1, q.2.2))) = true := by decide +kernel
theorem dX2_oddPairs_0 : decode cX2_oddPairs 0 = .ok (.aload_n 0, 1) := all_at dvX2_oddPairs_0 0 rfl
theorem dX2_oddPairs_1 : decode cX2_oddPairs 1 = .ok (.iload_n 1, 1) := all_at dvX2_oddPairs_0 1 rfl
theorem dX2_oddPairs_2 : decode cX2_oddPairs 2 = .ok (.invokevirtual 95, 3) := all_at dvX2_oddPairs_0 2 rfl
theorem dX2_oddPairs_5 : decode cX2_oddPairs 5 = .ok (.istore_n 2, 1) := all_at dvX2_oddPairs_0 3 rfl
theorem dX2_oddPairs_6 : decode cX2_oddPairs 6 = .ok (.iconst 0, 1) := all_at dvX2_oddPairs_0 4 rfl
theorem dX2_oddPairs_7 : decode cX2_oddPairs 7 = .ok (.istore_n 3, 1) := all_at dvX2_oddPairs_0 5 rfl
theorem dX2_oddPairs_8 : decode cX2_oddPairs 8 = .ok (.iconst 0, 1) := all_at dvX2_oddPairs_0 6 rfl
theorem dX2_oddPairs_9 : decode cX2_oddPairs 9 = .ok (.istore 4, 2) := all_at dvX2_oddPairs_0 7 rfl
theorem dX2_oddPairs_11 : decode cX2_oddPairs 11 = .ok (.iload 4, 2) := all_at dvX2_oddPairs_0 8 rfl
theorem dX2_oddPairs_13 : decode cX2_oddPairs 13 = .ok (.iload_n 2, 1) := all_at dvX2_oddPairs_0 9 rfl
theorem dX2_oddPairs_14 : decode cX2_oddPairs 14 = .ok (.if_icmp .ge 77, 3) := all_at dvX2_oddPairs_0 10 rfl
theorem dX2_oddPairs_17 : decode cX2_oddPairs 17 = .ok (.iload 4, 2) := all_at dvX2_oddPairs_0 11 rfl
theorem dX2_oddPairs_19 : decode cX2_oddPairs 19 = .ok (.iconst 1, 1) := all_at dvX2_oddPairs_0 12 rfl
theorem dX2_oddPairs_20 : decode cX2_oddPairs 20 = .ok (.iadd, 1) := all_at dvX2_oddPairs_0 13 rfl
theorem dX2_oddPairs_21 : decode cX2_oddPairs 21 = .ok (.istore 5, 2) := all_at dvX2_oddPairs_0 14 rfl
theorem dX2_oddPairs_23 : decode cX2_oddPairs 23 = .ok (.iload 5, 2) := all_at dvX2_oddPairs_0 15 rfl
theorem dX2_oddPairs_25 : decode cX2_oddPairs 25 = .ok (.iload_n 2, 1) := all_at dvX2_oddPairs_0 16 rfl
theorem dX2_oddPairs_26 : decode cX2_oddPairs 26 = .ok (.if_icmp .ge 59, 3) := all_at dvX2_oddPairs_0 17 rfl
theorem dX2_oddPairs_29 : decode cX2_oddPairs 29 = .ok (.aload_n 0, 1) := all_at dvX2_oddPairs_0 18 rfl
theorem dX2_oddPairs_30 : decode cX2_oddPairs 30 = .ok (.getfield 12, 3) := all_at dvX2_oddPairs_0 19 rfl
theorem dX2_oddPairs_33 : decode cX2_oddPairs 33 = .ok (.invokevirtual 58, 3) := all_at dvX2_oddPairs_0 20 rfl
theorem dX2_oddPairs_36 : decode cX2_oddPairs 36 = .ok (.aload_n 0, 1) := all_at dvX2_oddPairs_0 21 rfl
theorem dX2_oddPairs_37 : decode cX2_oddPairs 37 = .ok (.iconst 0, 1) := all_at dvX2_oddPairs_0 22 rfl
theorem dX2_oddPairs_38 : decode cX2_oddPairs 38 = .ok (.aload_n 0, 1) := all_at dvX2_oddPairs_0 23 rfl
set_option maxRecDepth 100000 in
theorem dvX2_oddPairs_39 : ([(39, .getfield 20, 3), (42, .iload 4, 2), (44, .iaload, 1), (45, .invokevirtual 71, 3), (48, .aload_n 0, 1), (49, .iconst 1, 1), (50, .aload_n 0, 1), (51, .getfield 20, 3), (54, .iload 5, 2), (56, .iaload, 1), (57, .invokevirtual 71, 3), (60, .aload_n 0, 1), (61, .getfield 12, 3), (64, .iconst 0, 1), (65, .iconst 1, 1), (66, .aload_n 0, 1), (67, .getfield 31, 3), (70, .invokevirtual 52, 3), (73, .ifCond .eq 6, 3), (76, .iinc 3 1, 3), (79, .iinc 5 1, 3), (82, .goto (-59), 3), (85, .iinc 4 1, 3), (88, .goto (-77), 3)] : List (Nat × Instr × Nat)).all (fun q => decide (decode cX2_oddPairs q.1 = .ok (q.2.1, q.2.2))) = true := by decide +kernel
theorem dX2_oddPairs_39 : decode cX2_oddPairs 39 = .ok (.getfield 20, 3) := all_at dvX2_oddPairs_39 0 rfl
theorem dX2_oddPairs_42 : decode cX2_oddPairs 42 = .ok (.iload 4, 2) := all_at dvX2_oddPairs_39 1 rfl
theorem dX2_oddPairs_44 : decode cX2_oddPairs 44 = .ok (.iaload, 1) := all_at dvX2_oddPairs_39 2 rfl
theorem dX2_oddPairs_45 : decode cX2_oddPairs 45 = .ok (.invokevirtual 71, 3) := all_at dvX2_oddPairs_39 3 rfl
theorem dX2_oddPairs_48 : decode cX2_oddPairs 48 = .ok (.aload_n 0, 1) := all_at dvX2_oddPairs_39 4 rfl
theorem dX2_oddPairs_49 : decode cX2_oddPairs 49 = .ok (.iconst 1, 1) := all_at dvX2_oddPairs_39 5 rfl
theorem dX2_oddPairs_50 : decode cX2_oddPairs 50 = .ok (.aload_n 0, 1) := all_at dvX2_oddPairs_39 6 rfl
theorem dX2_oddPairs_51 : decode cX2_oddPairs 51 = .ok (.getfield 20, 3) := all_at dvX2_oddPairs_39 7 rfl
theorem dX2_oddPairs_54 : decode cX2_oddPairs 54 = .ok (.iload 5, 2) := all_at dvX2_oddPairs_39 8 rfl
theorem dX2_oddPairs_56 : decode cX2_oddPairs 56 = .ok (.iaload, 1) := all_at dvX2_oddPairs_39 9 rfl
theorem dX2_oddPairs_57 : decode cX2_oddPairs 57 = .ok (.invokevirtual 71, 3) := all_at dvX2_oddPairs_39 10 rfl
theorem dX2_oddPairs_60 : decode cX2_oddPairs 60 = .ok (.aload_n 0, 1) := all_at dvX2_oddPairs_39 11 rfl
theorem dX2_oddPairs_61 : decode cX2_oddPairs 61 = .ok (.getfield 12, 3) := all_at dvX2_oddPairs_39 12 rfl
theorem dX2_oddPairs_64 : decode cX2_oddPairs 64 = .ok (.iconst 0, 1) := all_at dvX2_oddPairs_39 13 rfl
theorem dX2_oddPairs_65 : decode cX2_oddPairs 65 = .ok (.iconst 1, 1) := all_at dvX2_oddPairs_39 14 rfl
theorem dX2_oddPairs_66 : decode cX2_oddPairs 66 = .ok (.aload_n 0, 1) := all_at dvX2_oddPairs_39 15 rfl
theorem dX2_oddPairs_67 : decode cX2_oddPairs 67 = .ok (.getfield 31, 3) := all_at dvX2_oddPairs_39 16 rfl
theorem dX2_oddPairs_70 : decode cX2_oddPairs 70 = .ok (.invokevirtual 52, 3) := all_at dvX2_oddPairs_39 17 rfl
theorem dX2_oddPairs_73 : decode cX2_oddPairs 73 = .ok (.ifCond .eq 6, 3) := all_at dvX2_oddPairs_39 18 rfl
theorem dX2_oddPairs_76 : decode cX2_oddPairs 76 = .ok (.iinc 3 1, 3) := all_at dvX2_oddPairs_39 19 rfl
theorem dX2_oddPairs_79 : decode cX2_oddPairs 79 = .ok (.iinc 5 1, 3) := all_at dvX2_oddPairs_39 20 rfl
theorem dX2_oddPairs_82 : decode cX2_oddPairs 82 = .ok (.goto (-59), 3) := all_at dvX2_oddPairs_39 21 rfl
theorem dX2_oddPairs_85 : decode cX2_oddPairs 85 = .ok (.iinc 4 1, 3) := all_at dvX2_oddPairs_39 22 rfl
theorem dX2_oddPairs_88 : decode cX2_oddPairs 88 = .ok (.goto (-77), 3) := all_at dvX2_oddPairs_39 23 rfl
theorem dX2_oddPairs_91 : decode cX2_oddPairs 91 = .ok (.iload_n 3, 1) := by decide +kernel
theorem dX2_oddPairs_92 : decode cX2_oddPairs 92 = .ok (.ireturn, 1) := by decide +kernel
set_option maxRecDepth 100000 in
theorem dvX2_takeSome_0 : ([(0, .iload_n 1, 1), (1, .ifCond .gt 40, 3), (4, .aload_n 0, 1), (5, .dup, 1), (6, .getfield 34, 3), (9, .iconst 1, 1), (10, .iadd, 1), (11, .putfield 34, 3), (14, .aload_n 0, 1), (15, .getfield 12, 3), (18, .iconst 0, 1), (19, .iconst 1, 1), (20, .aload_n 0, 1), (21, .getfield 31, 3), (24, .invokevirtual 52, 3), (27, .ifCond .eq 13, 3), (30, .aload_n 0, 1), (31, .dup, 1), (32, .getfield 37, 3), (35, .iconst 1, 1), (36, .iadd, 1), (37, .putfield 37, 3), (40, .return_, 1), (41, .iload_n 2, 1)] : List (Nat × Instr × Nat)).all (fun q => decide (decode cX2_takeSome q.1 = .ok (q.2.1, q.2.2))) = true := by decide +kernel
theorem dX2_takeSome_0 : decode cX2_takeSome 0 = .ok (.iload_n 1, 1) := all_at dvX2_takeSome_0 0 rfl
theorem dX2_takeSome_1 : decode cX2_takeSome 1 = .ok (.ifCond .gt 40, 3) := all_at dvX2_takeSome_0 1 rfl
theorem dX2_takeSome_4 : decode cX2_takeSome 4 = .ok (.aload_n 0, 1) := all_at dvX2_takeSome_0 2 rfl
theorem dX2_takeSome_5 : decode cX2_takeSome 5 = .ok (.dup, 1) := all_at dvX2_takeSome_0 3 rfl
theorem dX2_takeSome_6 : decode cX2_takeSome 6 = .ok (.getfield 34, 3) := all_at dvX2_takeSome_0 4 rfl
theorem dX2_takeSome_9 : decode cX2_takeSome 9 = .ok (.iconst 1, 1) := all_at dvX2_takeSome_0 5 rfl
theorem dX2_takeSome_10 : decode cX2_takeSome 10 = .ok (.iadd, 1) := all_at dvX2_takeSome_0 6 rfl
theorem dX2_takeSome_11 : decode cX2_takeSome 11 = .ok (.putfield 34, 3) := all_at dvX2_takeSome_0 7 rfl
theorem dX2_takeSome_14 : decode cX2_takeSome 14 = .ok (.aload_n 0, 1) := all_at dvX2_takeSome_0 8 rfl
theorem dX2_takeSome_15 : decode cX2_takeSome 15 = .ok (.getfield 12, 3) := all_at dvX2_takeSome_0 9 rfl
theorem dX2_takeSome_18 : decode cX2_takeSome 18 = .ok (.iconst 0, 1) := all_at dvX2_takeSome_0 10 rfl
theorem dX2_takeSome_19 : decode cX2_takeSome 19 = .ok (.iconst 1, 1) := all_at dvX2_takeSome_0 11 rfl
theorem dX2_takeSome_20 : decode cX2_takeSome 20 = .ok (.aload_n 0, 1) := all_at dvX2_takeSome_0 12 rfl
theorem dX2_takeSome_21 : decode cX2_takeSome 21 = .ok (.getfield 31, 3) := all_at dvX2_takeSome_0 13 rfl
theorem dX2_takeSome_24 : decode cX2_takeSome 24 = .ok (.invokevirtual 52, 3) := all_at dvX2_takeSome_0 14 rfl
theorem dX2_takeSome_27 : decode cX2_takeSome 27 = .ok (.ifCond .eq 13, 3) := all_at dvX2_takeSome_0 15 rfl
theorem dX2_takeSome_30 : decode cX2_takeSome 30 = .ok (.aload_n 0, 1) := all_at dvX2_takeSome_0 16 rfl
theorem dX2_takeSome_31 : decode cX2_takeSome 31 = .ok (.dup, 1) := all_at dvX2_takeSome_0 17 rfl
theorem dX2_takeSome_32 : decode cX2_takeSome 32 = .ok (.getfield 37, 3) := all_at dvX2_takeSome_0 18 rfl
theorem dX2_takeSome_35 : decode cX2_takeSome 35 = .ok (.iconst 1, 1) := all_at dvX2_takeSome_0 19 rfl
theorem dX2_takeSome_36 : decode cX2_takeSome 36 = .ok (.iadd, 1) := all_at dvX2_takeSome_0 20 rfl
theorem dX2_takeSome_37 : decode cX2_takeSome 37 = .ok (.putfield 37, 3) := all_at dvX2_takeSome_0 21 rfl
theorem dX2_takeSome_40 : decode cX2_takeSome 40 = .ok (.return_, 1) := all_at dvX2_takeSome_0 22 rfl
theorem dX2_takeSome_41 : decode cX2_takeSome 41 = .ok (.iload_n 2, 1) := all_at dvX2_takeSome_0 23 rfl
set_option maxRecDepth 100000 in
theorem dvX2_takeSome_42 : ([(42, .istore 4, 2), (44, .iload 4, 2), (46, .iload_n 3, 1), (47, .iload_n 1, 1), (48, .isub, 1), (49, .if_icmp .gt 65, 3), (52, .aload_n 0, 1), (53, .getfield 20, 3), (56, .iload 4, 2), (58, .iaload, 1), (59, .istore 5, 2), (61, .aload_n 0, 1), (62, .iconst 1, 1), (63, .iload 5, 2), (65, .invokevirtual 71, 3), (68, .aload_n 0, 1), (69, .iload_n 1, 1), (70, .iconst 1, 1), (71, .isub, 1), (72, .iload 4, 2), (74, .iconst 1, 1), (75, .iadd, 1), (76, .iload_n 3, 1), (77, .invokevirtual 99, 3)] : List (Nat × Instr × Nat)).all (fun q => decide (decode cX2_takeSome q.1 = .ok (q.2.1, q.2.2))) = true := by decide +kernel
theorem dX2_takeSome_42 : decode cX2_takeSome 42 = .ok (.istore 4, 2) := all_at dvX2_takeSome_42 0 rfl
theorem dX2_takeSome_44 : decode cX2_takeSome 44 = .ok (.iload 4, 2) := all_at dvX2_takeSome_42 1 rfl
theorem dX2_takeSome_46 : decode cX2_takeSome 46 = .ok (.iload_n 3, 1) := all_at dvX2_takeSome_42 2 rfl
theorem dX2_takeSome_47 : decode cX2_takeSome 47 = .ok (.iload_n 1, 1) := all_at dvX2_takeSome_42 3 rfl
theorem dX2_takeSome_48 : decode cX2_takeSome 48 = .ok (.isub, 1) := all_at dvX2_takeSome_42 4 rfl
theorem dX2_takeSome_49 : decode cX2_takeSome 49 = .ok (.if_icmp .gt 65, 3) := all_at dvX2_takeSome_42 5 rfl
theorem dX2_takeSome_52 : decode cX2_takeSome 52 = .ok (.aload_n 0, 1) := all_at dvX2_takeSome_42 6 rfl
theorem dX2_takeSome_53 : decode cX2_takeSome 53 = .ok (.getfield 20, 3) := all_at dvX2_takeSome_42 7 rfl
theorem dX2_takeSome_56 : decode cX2_takeSome 56 = .ok (.iload 4, 2) := all_at dvX2_takeSome_42 8 rfl
theorem dX2_takeSome_58 : decode cX2_takeSome 58 = .ok (.iaload, 1) := all_at dvX2_takeSome_42 9 rfl
theorem dX2_takeSome_59 : decode cX2_takeSome 59 = .ok (.istore 5, 2) := all_at dvX2_takeSome_42 10 rfl
theorem dX2_takeSome_61 : decode cX2_takeSome 61 = .ok (.aload_n 0, 1) := all_at dvX2_takeSome_42 11 rfl
theorem dX2_takeSome_62 : decode cX2_takeSome 62 = .ok (.iconst 1, 1) := all_at dvX2_takeSome_42 12 rfl
theorem dX2_takeSome_63 : decode cX2_takeSome 63 = .ok (.iload 5, 2) := all_at dvX2_takeSome_42 13 rfl
theorem dX2_takeSome_65 : decode cX2_takeSome 65 = .ok (.invokevirtual 71, 3) := all_at dvX2_takeSome_42 14 rfl
theorem dX2_takeSome_68 : decode cX2_takeSome 68 = .ok (.aload_n 0, 1) := all_at dvX2_takeSome_42 15 rfl
theorem dX2_takeSome_69 : decode cX2_takeSome 69 = .ok (.iload_n 1, 1) := all_at dvX2_takeSome_42 16 rfl
theorem dX2_takeSome_70 : decode cX2_takeSome 70 = .ok (.iconst 1, 1) := all_at dvX2_takeSome_42 17 rfl
theorem dX2_takeSome_71 : decode cX2_takeSome 71 = .ok (.isub, 1) := all_at dvX2_takeSome_42 18 rfl
theorem dX2_takeSome_72 : decode cX2_takeSome 72 = .ok (.iload 4, 2) := all_at dvX2_takeSome_42 19 rfl
theorem dX2_takeSome_74 : decode cX2_takeSome 74 = .ok (.iconst 1, 1) := all_at dvX2_takeSome_42 20 rfl
theorem dX2_takeSome_75 : decode cX2_takeSome 75 = .ok (.iadd, 1) := all_at dvX2_takeSome_42 21 rfl
theorem dX2_takeSome_76 : decode cX2_takeSome 76 = .ok (.iload_n 3, 1) := all_at dvX2_takeSome_42 22 rfl
theorem dX2_takeSome_77 : decode cX2_takeSome 77 = .ok (.invokevirtual 99, 3) := all_at dvX2_takeSome_42 23 rfl
set_option maxRecDepth 100000 in
theorem dvX2_takeSome_80 : ([(80, .aload_n 0, 1), (81, .getfield 12, 3), (84, .iconst 1, 1), (85, .aload_n 0, 1), (86, .getfield 40, 3), (89, .iload 5, 2), (91, .iconst 3, 1), (92, .invokevirtual 68, 3), (95, .aload_n 0, 1), (96, .getfield 40, 3), (99, .iload 5, 2), (101, .iconst 4, 1), (102, .invokevirtual 68, 3), (105, .invokevirtual 102, 3), (108, .iinc 4 1, 3), (111, .goto (-67), 3), (114, .return_, 1)] : List (Nat × Instr × Nat)).all (fun q => decide (decode cX2_takeSome q.1 = .ok (q.2.1, q.2.2))) = true := by decide +kernel
theorem dX2_takeSome_80 : decode cX2_takeSome 80 = .ok (.aload_n 0, 1) := all_at dvX2_takeSome_80 0 rfl
theorem dX2_takeSome_81 : decode cX2_takeSome 81 = .ok (.getfield 12, 3) := all_at dvX2_takeSome_80 1 rfl
theorem dX2_takeSome_84 : decode cX2_takeSome 84 = .ok (.iconst 1, 1) := all_at dvX2_takeSome_80 2 rfl
theorem dX2_takeSome_85 : decode cX2_takeSome 85 = .ok (.aload_n 0, 1) := all_at dvX2_takeSome_80 3 rfl
theorem dX2_takeSome_86 : decode cX2_takeSome 86 = .ok (.getfield 40, 3) := all_at dvX2_takeSome_80 4 rfl
theorem dX2_takeSome_89 : decode cX2_takeSome 89 = .ok (.iload 5, 2) := all_at dvX2_takeSome_80 5 rfl
theorem dX2_takeSome_91 : decode cX2_takeSome 91 = .ok (.iconst 3, 1) := all_at dvX2_takeSome_80 6 rfl
theorem dX2_takeSome_92 : decode cX2_takeSome 92 = .ok (.invokevirtual 68, 3) := all_at dvX2_takeSome_80 7 rfl
theorem dX2_takeSome_95 : decode cX2_takeSome 95 = .ok (.aload_n 0, 1) := all_at dvX2_takeSome_80 8 rfl
theorem dX2_takeSome_96 : decode cX2_takeSome 96 = .ok (.getfield 40, 3) := all_at dvX2_takeSome_80 9 rfl
theorem dX2_takeSome_99 : decode cX2_takeSome 99 = .ok (.iload 5, 2) := all_at dvX2_takeSome_80 10 rfl
theorem dX2_takeSome_101 : decode cX2_takeSome 101 = .ok (.iconst 4, 1) := all_at dvX2_takeSome_80 11 rfl
theorem dX2_takeSome_102 : decode cX2_takeSome 102 = .ok (.invokevirtual 68, 3) := all_at dvX2_takeSome_80 12 rfl
theorem dX2_takeSome_105 : decode cX2_takeSome 105 = .ok (.invokevirtual 102, 3) := all_at dvX2_takeSome_80 13 rfl
theorem dX2_takeSome_108 : decode cX2_takeSome 108 = .ok (.iinc 4 1, 3) := all_at dvX2_takeSome_80 14 rfl
theorem dX2_takeSome_111 : decode cX2_takeSome 111 = .ok (.goto (-67), 3) := all_at dvX2_takeSome_80 15 rfl
theorem dX2_takeSome_114 : decode cX2_takeSome 114 = .ok (.return_, 1) := all_at dvX2_takeSome_80 16 rfl
set_option maxHeartbeats 4000000 in
set_option maxRecDepth 100000 in
/-- X2_listLook -/
theorem c_X2_listLook (l : Launch) (dC : Nat → ClassId) (dI : Nat → Nat → Nat) (sz : Nat) (h : Nat) (g : Nat → Nat → Nat) (ca : Nat → Nat → ClassId) (iv : Nat → Nat → Int32) (lv : Nat → Nat → Int64) (fa : Nat → Nat → Nat → Int32) (la : Nat → Nat → Nat → Int64) (hI : IX iv fa) (a : Int32) : Met l yX2_listLook (wc yX2_listLook cX2_listLook 4 (some .int)) ({ frames := 2, cells := 0, slots := 0, locals := 45 } : Room) (pW (dC, dI) classes (WX h g ca iv lv fa la) (TX ca) sz [.ref (g 11 6), .int a]) (va_Qi (fun r (u : SS) => ∃ (na_2_2 : Nat → Int32), (∀ j, inb (bA 2 2 j) (na_2_2 j)) ∧ (0 ≤ r.toInt ∧ r.toInt ≤ 12) ∧ u = (iv, lv, (u2 fa 2 2 na_2_2), la)) (bX (dC, dI) h g ca (va_A (WX h g ca iv lv fa la) sz)) (va_A (WX h g ca iv lv fa la) sz)) 0 0 (va_A (WX h g ca iv lv fa la) sz) := by
  refine Met.ofW (cc := cX2_listLook) (maxL := 4) (ret := (some .int)) (by decide) rfl ?_
  intro p e s m args below meth c s₁ B hml hv
  obtain ⟨rfl, hsz, hP, hK, hD0⟩ := hv
  have hx := B.exec
  have hb := B.bytes
  have hr := B.returns
  have ht := tb_tl (atoms_spec (ws := wc yX2_listLook cX2_listLook 4 (some .int)) B.pre)
  have hown : s.vm.findClass RX2 = some m.cls := findClass_of_methodNamed B.named
  have hlocks := B.notSynchronized
  subst hsz
  have hD := hD0.self (sz := s.heap.size)
  generalize hAe : va_A (WX h g ca iv lv fa la) s.heap.size = A at hD ⊢
  have hA : ∀ q : Nat, s.heap.size ≤ q → A q := fun q h => by rw [← hAe]; exact Or.inr h
  have hS : va_S A s.heap s.heap [] := va_S.rf
  have hl := lv_entry [.ref (g 11 6), .int a] (n := 4) (Nat.le_of_ble_eq_true rfl)
  rw [lg_entry_eq]
  generalize (lg_sl [.ref (g 11 6), .int a] ++ List.replicate (4 - (lg_sl [.ref (g 11 6), .int a]).length) Slot.unset).toArray = ls at hl ⊢
  have hl : lv_has ls 4 [(0, .ref (g 11 6)), (1, .int a)] := hl
  refine lv_iconst (v := 0) hx hb dX2_listLook_0 (by decide) ?_
  refine lv_istore_n (lv' := [(2, .int 0), (0, .ref (g 11 6)), (1, .int a)]) hx hb dX2_listLook_1 rfl hl (by decide) rfl (fun ls hl => ?_)
  refine lv_iconst (v := 0) hx hb dX2_listLook_2 (by decide) ?_
  refine lv_istore_n (lv' := [(3, .int 0), (2, .int 0), (0, .ref (g 11 6)), (1, .int a)]) hx hb dX2_listLook_3 rfl hl (by decide) rfl (fun ls hl => ?_)
  have lp266 : ∀ (nn266 : Nat) (x265_3 : Int32) (x265_2 : Int32) (w265_a_2_2 : Nat → Int32), 0 ≤ x265_3.toInt ∧ x265_3.toInt ≤ 60 → 0 ≤ x265_2.toInt ∧ x265_2.toInt ≤ 12 → (∀ j, inb (bA 2 2 j) (w265_a_2_2 j)) → 60 - x265_3.toInt < (nn266 : Int) → ∀ (H : Heap) (locs : List Loc), ∀ (ls : Array Slot), va_P (dC, dI) classes (WX h g ca iv lv (u2 fa 2 2 w265_a_2_2) la) H → va_D A (WX h g ca iv lv (u2 fa 2 2 w265_a_2_2) la) → va_S A s.heap H locs → lv_has ls 4 [(3, .int x265_3), (2, .int x265_2), (0, .ref (g 11 6)), (1, .int a)] → W p l e ({ frames := 2, cells := 0, slots := 0, locals := 45 } : Room) s m ([.ref (g 11 6), .int a] : List Value).toArray below meth c H locs 0 0 (MQ below (va_Qi (fun r (u : SS) => ∃ (na_2_2 : Nat → Int32), (∀ j, inb (bA 2 2 j) (na_2_2 j)) ∧ (0 ≤ r.toInt ∧ r.toInt ≤ 12) ∧ u = (iv, lv, (u2 fa 2 2 na_2_2), la)) (bX (dC, dI) h g ca A) A) ([.ref (g 11 6), .int a] : List Value).toArray s 0 0 A) (F0 m 4 ls []) := by
    intro nn266
    induction nn266 with
    | zero => intro x265_3 x265_2 w265_a_2_2 hx265_3 hx265_2 hw265_a_2_2 hm266; exfalso; omega
    | succ nn266 ih266 =>
      intro x265_3 x265_2 w265_a_2_2 hx265_3 hx265_2 hw265_a_2_2 hm266 H locs ls hP hD hS hl
      refine lv_iload_n hx hb dX2_listLook_4 rfl (lv_at hl 0 rfl) ?_
      refine lv_aload_n hx hb dX2_listLook_5 rfl (lv_at hl 2 rfl) ?_
      refine gX_2_0 hx hb ht hown hK hP m_304 dX2_listLook_6 ?_
      have i_10_1 : 0 ≤ (iv 10 1).toInt ∧ (iv 10 1).toInt ≤ 60 := hI.1 10 1
      refine gX_10_1 hx hb ht hown hK hP m_115 (v := (iv 10 1)) rfl dX2_listLook_9 ?_
      refine lv_icmp_ge (tgt := 71) hx hb dX2_listLook_12 (by decide) (fun c267 => ?_) (fun c267 => ?_)
      · have fc267 := z_le (rfl : ((iv 10 1)).toInt = _) (rfl : (x265_3).toInt = _) c267
        refine lv_iload_n hx hb dX2_listLook_71 rfl (lv_at hl 1 rfl) ?_
        have hP9 : va_P (dC, dI) classes (WX h g ca iv lv (u2 fa 2 2 w265_a_2_2) la) H := hP
        have hD9 : va_D A (WX h g ca iv lv (u2 fa 2 2 w265_a_2_2) la) := hD
        exact W.iret (v := x265_2) hx hb hr (fun t ht9 hW => ⟨⟨x265_2, (iv, lv, (u2 fa 2 2 w265_a_2_2), la), rfl, ⟨w265_a_2_2, hw265_a_2_2, ⟨by omega, by omega⟩, rfl⟩, by rw [ht9]; exact hP9, hD9⟩, hS.F ht9⟩) hS.2.2 dX2_listLook_72
      · have fc267 := z_nle (rfl : ((iv 10 1)).toInt = _) (rfl : (x265_3).toInt = _) c267
        refine lv_iload_n hx hb dX2_listLook_15 rfl (lv_at hl 1 rfl) ?_
        refine lv_aload_n hx hb dX2_listLook_16 rfl (lv_at hl 2 rfl) ?_
        refine gX_2_2 hx hb ht hown hK hP m_306 dX2_listLook_17 ?_
        refine va_alen (D := (dC, dI)) (v := 12) hx hb hK hP 32 19 rfl rfl rfl dX2_listLook_20 ?_
        refine lv_icmp_ge (tgt := 71) hx hb dX2_listLook_21 (by decide) (fun c268 => ?_) (fun c268 => ?_)
        · have fc268 := z_le (by decide : (12 : Int32).toInt = 12) (rfl : (x265_2).toInt = _) c268
          refine lv_iload_n hx hb dX2_listLook_71 rfl (lv_at hl 1 rfl) ?_
          have hP9 : va_P (dC, dI) classes (WX h g ca iv lv (u2 fa 2 2 w265_a_2_2) la) H := hP
          have hD9 : va_D A (WX h g ca iv lv (u2 fa 2 2 w265_a_2_2) la) := hD
          exact W.iret (v := x265_2) hx hb hr (fun t ht9 hW => ⟨⟨x265_2, (iv, lv, (u2 fa 2 2 w265_a_2_2), la), rfl, ⟨w265_a_2_2, hw265_a_2_2, ⟨by omega, by omega⟩, rfl⟩, by rw [ht9]; exact hP9, hD9⟩, hS.F ht9⟩) hS.2.2 dX2_listLook_72
        · have fc268 := z_nle (by decide : (12 : Int32).toInt = 12) (rfl : (x265_2).toInt = _) c268
          refine lv_aload_n hx hb dX2_listLook_24 rfl (lv_at hl 2 rfl) ?_
          refine gX_2_0 hx hb ht hown hK hP m_304 dX2_listLook_25 ?_
          refine lv_iload_n hx hb dX2_listLook_28 rfl (lv_at hl 0 rfl) ?_
          refine lv_aload_n hx hb dX2_listLook_29 rfl (lv_at hl 2 rfl) ?_
          refine gX_2_3 hx hb ht hown hK hP m_307 (v := (iv 2 3)) rfl dX2_listLook_30 ?_
          refine lv_iload_n hx hb dX2_listLook_33 rfl (lv_at hl 3 rfl) ?_
          refine vp_callSi (W.runV (As := [.int x265_3, .int (iv 2 3), .int a]) (rest := []) ⟨hx, hb, hml, hown, ht⟩ (c_X10_isOf l dC dI h g ca iv lv (u2 fa 2 2 w265_a_2_2) la (IX_a (c := 2) (k := 2) hI hw265_a_2_2) x265_3 (iv 2 3) a ⟨by omega, by omega⟩) (kV 3 ht m_887 m_482 m_483 m_78 m_484 rfl rfl hd_X10_isOf_v ⟨Nat.le_of_ble_eq_true rfl, Nat.le_of_ble_eq_true rfl⟩) (vR hP hK (rX_10 hK hP)) rfl rfl hl.1 rfl (lv_room (Nat.le_of_ble_eq_true rfl)) dX2_listLook_34 ⟨Nat.le_of_ble_eq_true rfl, Nat.le_of_ble_eq_true rfl⟩) (fun r269 hr269 => ?_)
          refine lv_if_eq (tgt := 65) hx hb dX2_listLook_37 (by decide) (fun c270 => ?_) (fun c270 => ?_)
          · have fc270 := z_eq (rfl : (r269).toInt = _) (by decide : (0 : Int32).toInt = 0) c270
            obtain ⟨v271, ev271⟩ : ∃ y : Int32, y = x265_3 + 1 := ⟨_, rfl⟩
            have tv271 := z_add ev271 rfl (by decide : (1 : Int32).toInt = 1) (by omega) (by omega)
            refine lv_iinc (v := v271) (lv' := [(3, .int v271), (2, .int x265_2), (0, .ref (g 11 6)), (1, .int a)]) hx hb dX2_listLook_65 hl (k := 0) rfl (by rw [ev271]; rfl) (by decide) rfl (fun ls hl => ?_)
            refine lv_goto (tgt := 4) hx hb dX2_listLook_68 (by decide) ?_
            exact ih266 v271 x265_2 w265_a_2_2 ⟨by omega, by omega⟩ ⟨by omega, by omega⟩ hw265_a_2_2 (by omega) _ _ ls hP hD hS (lv_sub hl [0, 1, 2, 3] rfl)
          · have fc270 := z_ne (rfl : (r269).toInt = _) (by decide : (0 : Int32).toInt = 0) c270
            refine lv_aload_n hx hb dX2_listLook_40 rfl (lv_at hl 2 rfl) ?_
            refine gX_2_0 hx hb ht hown hK hP m_304 dX2_listLook_41 ?_
            refine lv_iload_n hx hb dX2_listLook_44 rfl (lv_at hl 0 rfl) ?_
            refine lv_aload_n hx hb dX2_listLook_45 rfl (lv_at hl 2 rfl) ?_
            refine gX_2_4 hx hb ht hown hK hP m_308 (v := (iv 2 4)) rfl dX2_listLook_46 ?_
            refine vp_callSi (W.runV (As := [.int x265_3, .int (iv 2 4)]) (rest := []) ⟨hx, hb, hml, hown, ht⟩ (c_X10_counts l dC dI h g ca iv lv (u2 fa 2 2 w265_a_2_2) la (IX_a (c := 2) (k := 2) hI hw265_a_2_2) x265_3 (iv 2 4) ⟨by omega, by omega⟩) (kV 2 ht m_888 m_574 m_575 m_78 m_576 rfl rfl hd_X10_counts_v ⟨Nat.le_of_ble_eq_true rfl, Nat.le_of_ble_eq_true rfl⟩) (vR hP hK (rX_10 hK hP)) rfl rfl hl.1 rfl (lv_room (Nat.le_of_ble_eq_true rfl)) dX2_listLook_49 ⟨Nat.le_of_ble_eq_true rfl, Nat.le_of_ble_eq_true rfl⟩) (fun r272 hr272 => ?_)
            refine lv_if_eq (tgt := 65) hx hb dX2_listLook_52 (by decide) (fun c273 => ?_) (fun c273 => ?_)
            · have fc273 := z_eq (rfl : (r272).toInt = _) (by decide : (0 : Int32).toInt = 0) c273
              obtain ⟨v274, ev274⟩ : ∃ y : Int32, y = x265_3 + 1 := ⟨_, rfl⟩
              have tv274 := z_add ev274 rfl (by decide : (1 : Int32).toInt = 1) (by omega) (by omega)
              refine lv_iinc (v := v274) (lv' := [(3, .int v274), (2, .int x265_2), (0, .ref (g 11 6)), (1, .int a)]) hx hb dX2_listLook_65 hl (k := 0) rfl (by rw [ev274]; rfl) (by decide) rfl (fun ls hl => ?_)
              refine lv_goto (tgt := 4) hx hb dX2_listLook_68 (by decide) ?_
              exact ih266 v274 x265_2 w265_a_2_2 ⟨by omega, by omega⟩ ⟨by omega, by omega⟩ hw265_a_2_2 (by omega) _ _ ls hP hD hS (lv_sub hl [0, 1, 2, 3] rfl)
            · have fc273 := z_ne (rfl : (r272).toInt = _) (by decide : (0 : Int32).toInt = 0) c273
              refine lv_aload_n hx hb dX2_listLook_55 rfl (lv_at hl 2 rfl) ?_
              refine gX_2_2 hx hb ht hown hK hP m_306 dX2_listLook_56 ?_
              refine lv_iload_n hx hb dX2_listLook_59 rfl (lv_at hl 1 rfl) ?_
              refine lv_iload_n hx hb dX2_listLook_60 rfl (lv_at hl 0 rfl) ?_
              refine tX_2_2 hx hb hK hP hD hS (f0 := w265_a_2_2) rfl (i := x265_2) (x := x265_3) (vp_in_iff.mpr ⟨by omega, by omega⟩) dX2_listLook_61 (fun f275 ef275 H locs hP hD hS => ?_)
              have hf275 : ∀ j, inb (bA 2 2 j) (f275 j) := by rw [ef275]; exact upd_b (b := bA 2 2) hw265_a_2_2 (show inb (0, 59) x265_3 from ⟨by omega, by omega⟩)
              have hP : va_P (dC, dI) classes (WX h g ca iv lv (u2 fa 2 2 f275) la) H := hP
              have hD : va_D A (WX h g ca iv lv (u2 fa 2 2 f275) la) := hD
              obtain ⟨v276, ev276⟩ : ∃ y : Int32, y = x265_2 + 1 := ⟨_, rfl⟩
              have tv276 := z_add ev276 rfl (by decide : (1 : Int32).toInt = 1) (by omega) (by omega)
              refine lv_iinc (v := v276) (lv' := [(2, .int v276), (3, .int x265_3), (0, .ref (g 11 6)), (1, .int a)]) hx hb dX2_listLook_62 hl (k := 1) rfl (by rw [ev276]; rfl) (by decide) rfl (fun ls hl => ?_)
              obtain ⟨v277, ev277⟩ : ∃ y : Int32, y = x265_3 + 1 := ⟨_, rfl⟩
              have tv277 := z_add ev277 rfl (by decide : (1 : Int32).toInt = 1) (by omega) (by omega)
              refine lv_iinc (v := v277) (lv' := [(3, .int v277), (2, .int v276), (0, .ref (g 11 6)), (1, .int a)]) hx hb dX2_listLook_65 hl (k := 1) rfl (by rw [ev277]; rfl) (by decide) rfl (fun ls hl => ?_)
              refine lv_goto (tgt := 4) hx hb dX2_listLook_68 (by decide) ?_
              exact ih266 v277 v276 f275 ⟨by omega, by omega⟩ ⟨by omega, by omega⟩ hf275 (by omega) _ _ ls hP hD hS (lv_sub hl [0, 1, 2, 3] rfl)
  exact lp266 61 0 0 (fa 2 2) ⟨by decide, by decide⟩ ⟨by decide, by decide⟩ (hI.2 2 2) (by first | decide | omega) _ _ ls hP hD hS (lv_sub hl [0, 1, 2, 3] rfl)
set_option maxHeartbeats 4000000 in
set_option maxRecDepth 100000 in
/-- X2_oddPairs -/
theorem c_X2_oddPairs (l : Launch) (dC : Nat → ClassId) (dI : Nat → Nat → Nat) (sz : Nat) (h : Nat) (g : Nat → Nat → Nat) (ca : Nat → Nat → ClassId) (iv : Nat → Nat → Int32) (lv : Nat → Nat → Int64) (fa : Nat → Nat → Nat → Int32) (la : Nat → Nat → Nat → Int64) (hI : IX iv fa) (a : Int32) : Met l yX2_oddPairs (wc yX2_oddPairs cX2_oddPairs 6 (some .int)) ({ frames := 3, cells := 0, slots := 0, locals := 68 } : Room) (pW (dC, dI) classes (WX h g ca iv lv fa la) (TX ca) sz [.ref (g 11 6), .int a]) (va_Qi (fun r (u : SS) => ∃ (na_2_2 : Nat → Int32) (na_20_2 : Nat → Int32) (nb_20_0 : Nat → Int64) (nb_20_1 : Nat → Int64), (∀ j, inb (bA 2 2 j) (na_2_2 j)) ∧ (True) ∧ u = (iv, lv, (u2 (u2 fa 2 2 na_2_2) 20 2 na_20_2), (u2 (u2 la 20 0 nb_20_0) 20 1 nb_20_1))) (bX (dC, dI) h g ca (va_A (WX h g ca iv lv fa la) sz)) (va_A (WX h g ca iv lv fa la) sz)) 0 0 (va_A (WX h g ca iv lv fa la) sz) := by
  refine Met.ofW (cc := cX2_oddPairs) (maxL := 6) (ret := (some .int)) (by decide) rfl ?_
  intro p e s m args below meth c s₁ B hml hv
  obtain ⟨rfl, hsz, hP, hK, hD0⟩ := hv
  have hx := B.exec
  have hb := B.bytes
  have hr := B.returns
  have ht := tb_tl (atoms_spec (ws := wc yX2_oddPairs cX2_oddPairs 6 (some .int)) B.pre)
  have hown : s.vm.findClass RX2 = some m.cls := findClass_of_methodNamed B.named
  have hlocks := B.notSynchronized
  subst hsz
  have hD := hD0.self (sz := s.heap.size)
  generalize hAe : va_A (WX h g ca iv lv fa la) s.heap.size = A at hD ⊢
  have hA : ∀ q : Nat, s.heap.size ≤ q → A q := fun q h => by rw [← hAe]; exact Or.inr h
  have hS : va_S A s.heap s.heap [] := va_S.rf
  have hl := lv_entry [.ref (g 11 6), .int a] (n := 6) (Nat.le_of_ble_eq_true rfl)
  rw [lg_entry_eq]
  generalize (lg_sl [.ref (g 11 6), .int a] ++ List.replicate (6 - (lg_sl [.ref (g 11 6), .int a]).length) Slot.unset).toArray = ls at hl ⊢
  have hl : lv_has ls 6 [(0, .ref (g 11 6)), (1, .int a)] := hl
  refine lv_aload_n hx hb dX2_oddPairs_0 rfl (lv_at hl 0 rfl) ?_
  refine lv_iload_n hx hb dX2_oddPairs_1 rfl (lv_at hl 1 rfl) ?_
  have hFc := free_all hD hS hA
  refine va_calli (va_runV (As := [.int a]) (rest := []) ⟨hx, hb, hml, hown, ht⟩ (c_X2_listLook l dC dI s.heap.size h g ca iv lv fa la hI a) (kV 1 ht m_921 m_923 m_37 m_85 m_924 rfl rfl hd_X2_listLook_v ⟨Nat.le_of_ble_eq_true rfl, Nat.le_of_ble_eq_true rfl⟩) (vW hP hK hD (rX_2 hK hP)) rfl rfl hl.1 rfl (lv_room (Nat.le_of_ble_eq_true rfl)) dX2_oddPairs_2 ⟨Nat.le_of_ble_eq_true rfl, Nat.le_of_ble_eq_true rfl⟩) hS (fun q _ h => hFc q h) hFc (fun r1 u t H1 locs ht9 hvm hr1 hB hz1 hk1 hS => ?_)
  obtain ⟨n2, hn2, hr1, rfl⟩ := hr1
  obtain ⟨hP, hD⟩ := hB
  rw [ht9] at hP
  generalize H1 = H at hP hS ⊢
  have hP : va_P (dC, dI) classes (WX h g ca iv lv (u2 fa 2 2 n2) la) H := hP
  have hD : va_D A (WX h g ca iv lv (u2 fa 2 2 n2) la) := (show va_D _ (WX h g ca iv lv (u2 fa 2 2 n2) la) from hD).weaken (fun _ _ _ h => hFc _ h)
  refine lv_istore_n (lv' := [(2, .int r1), (0, .ref (g 11 6)), (1, .int a)]) hx hb dX2_oddPairs_5 rfl hl (by decide) rfl (fun ls hl => ?_)
  refine lv_iconst (v := 0) hx hb dX2_oddPairs_6 (by decide) ?_
  refine lv_istore_n (lv' := [(3, .int 0), (2, .int r1), (0, .ref (g 11 6)), (1, .int a)]) hx hb dX2_oddPairs_7 rfl hl (by decide) rfl (fun ls hl => ?_)
  refine lv_iconst (v := 0) hx hb dX2_oddPairs_8 (by decide) ?_
  refine lv_istore (lv' := [(4, .int 0), (3, .int 0), (2, .int r1), (0, .ref (g 11 6)), (1, .int a)]) hx hb dX2_oddPairs_9 hl (by decide) rfl (fun ls hl => ?_)
  have lp3004 : ∀ (nn3004 : Nat) (x3003_4 : Int32) (x3003_3 : Int32) (w3003_a_20_2 : Nat → Int32) (w3003_b_20_0 : Nat → Int64) (w3003_b_20_1 : Nat → Int64), 0 ≤ x3003_4.toInt ∧ x3003_4.toInt ≤ 12 → (∀ j, inb (bA 20 2 j) (w3003_a_20_2 j)) → 12 - x3003_4.toInt < (nn3004 : Int) → ∀ (H : Heap) (locs : List Loc), ∀ (ls : Array Slot), va_P (dC, dI) classes (WX h g ca iv lv (u2 (u2 fa 2 2 n2) 20 2 w3003_a_20_2) (u2 (u2 la 20 0 w3003_b_20_0) 20 1 w3003_b_20_1)) H → va_D A (WX h g ca iv lv (u2 (u2 fa 2 2 n2) 20 2 w3003_a_20_2) (u2 (u2 la 20 0 w3003_b_20_0) 20 1 w3003_b_20_1)) → va_S A s.heap H locs → lv_has ls 6 [(4, .int x3003_4), (3, .int x3003_3), (2, .int r1), (0, .ref (g 11 6)), (1, .int a)] → W p l e ({ frames := 3, cells := 0, slots := 0, locals := 68 } : Room) s m ([.ref (g 11 6), .int a] : List Value).toArray below meth c H locs 0 0 (MQ below (va_Qi (fun r (u : SS) => ∃ (na_2_2 : Nat → Int32) (na_20_2 : Nat → Int32) (nb_20_0 : Nat → Int64) (nb_20_1 : Nat → Int64), (∀ j, inb (bA 2 2 j) (na_2_2 j)) ∧ (True) ∧ u = (iv, lv, (u2 (u2 fa 2 2 na_2_2) 20 2 na_20_2), (u2 (u2 la 20 0 nb_20_0) 20 1 nb_20_1))) (bX (dC, dI) h g ca A) A) ([.ref (g 11 6), .int a] : List Value).toArray s 0 0 A) (F0 m 11 ls []) := by
    intro nn3004
    induction nn3004 with
    | zero => intro x3003_4 x3003_3 w3003_a_20_2 w3003_b_20_0 w3003_b_20_1 hx3003_4 hw3003_a_20_2 hm3004; exfalso; omega
    | succ nn3004 ih3004 =>
      intro x3003_4 x3003_3 w3003_a_20_2 w3003_b_20_0 w3003_b_20_1 hx3003_4 hw3003_a_20_2 hm3004 H locs ls hP hD hS hl
      refine lv_iload hx hb dX2_oddPairs_11 (lv_at hl 0 rfl) ?_
      refine lv_iload_n hx hb dX2_oddPairs_13 rfl (lv_at hl 2 rfl) ?_
      refine lv_icmp_ge (tgt := 91) hx hb dX2_oddPairs_14 (by decide) (fun c3005 => ?_) (fun c3005 => ?_)
      · have fc3005 := z_le (rfl : (r1).toInt = _) (rfl : (x3003_4).toInt = _) c3005
        refine lv_iload_n hx hb dX2_oddPairs_91 rfl (lv_at hl 1 rfl) ?_
        have hP9 : va_P (dC, dI) classes (WX h g ca iv lv (u2 (u2 fa 2 2 n2) 20 2 w3003_a_20_2) (u2 (u2 la 20 0 w3003_b_20_0) 20 1 w3003_b_20_1)) H := hP
        have hD9 : va_D A (WX h g ca iv lv (u2 (u2 fa 2 2 n2) 20 2 w3003_a_20_2) (u2 (u2 la 20 0 w3003_b_20_0) 20 1 w3003_b_20_1)) := hD
        exact W.iret (v := x3003_3) hx hb hr (fun t ht9 hW => ⟨⟨x3003_3, (iv, lv, (u2 (u2 fa 2 2 n2) 20 2 w3003_a_20_2), (u2 (u2 la 20 0 w3003_b_20_0) 20 1 w3003_b_20_1)), rfl, ⟨n2, w3003_a_20_2, w3003_b_20_0, w3003_b_20_1, hn2, trivial, rfl⟩, by rw [ht9]; exact hP9, hD9⟩, hS.F ht9⟩) hS.2.2 dX2_oddPairs_92
      · have fc3005 := z_nle (rfl : (r1).toInt = _) (rfl : (x3003_4).toInt = _) c3005
        refine lv_iload hx hb dX2_oddPairs_17 (lv_at hl 0 rfl) ?_
        refine lv_iconst (v := 1) hx hb dX2_oddPairs_19 (by decide) ?_
        refine lv_iadd hx hb dX2_oddPairs_20 ?_
        refine lv_topi (fun v3006 ev3006 => ?_)
        have tv3006 := z_add ev3006 (rfl : (x3003_4).toInt = _) (by decide : (1 : Int32).toInt = 1) (by omega) (by omega)
        refine lv_istore (lv' := [(5, .int v3006), (4, .int x3003_4), (3, .int x3003_3), (2, .int r1), (0, .ref (g 11 6)), (1, .int a)]) hx hb dX2_oddPairs_21 hl (by decide) rfl (fun ls hl => ?_)
        have lp3052 : ∀ (nn3052 : Nat) (x3051_5 : Int32) (x3051_3 : Int32) (w3051_a_20_2 : Nat → Int32) (w3051_b_20_0 : Nat → Int64) (w3051_b_20_1 : Nat → Int64), 1 ≤ x3051_5.toInt ∧ x3051_5.toInt ≤ 12 → (∀ j, inb (bA 20 2 j) (w3051_a_20_2 j)) → 12 - x3051_5.toInt < (nn3052 : Int) → ∀ (H : Heap) (locs : List Loc), ∀ (ls : Array Slot), va_P (dC, dI) classes (WX h g ca iv lv (u2 (u2 fa 2 2 n2) 20 2 w3051_a_20_2) (u2 (u2 la 20 0 w3051_b_20_0) 20 1 w3051_b_20_1)) H → va_D A (WX h g ca iv lv (u2 (u2 fa 2 2 n2) 20 2 w3051_a_20_2) (u2 (u2 la 20 0 w3051_b_20_0) 20 1 w3051_b_20_1)) → va_S A s.heap H locs → lv_has ls 6 [(5, .int x3051_5), (4, .int x3003_4), (3, .int x3051_3), (2, .int r1), (0, .ref (g 11 6)), (1, .int a)] → W p l e ({ frames := 3, cells := 0, slots := 0, locals := 68 } : Room) s m ([.ref (g 11 6), .int a] : List Value).toArray below meth c H locs 0 0 (MQ below (va_Qi (fun r (u : SS) => ∃ (na_2_2 : Nat → Int32) (na_20_2 : Nat → Int32) (nb_20_0 : Nat → Int64) (nb_20_1 : Nat → Int64), (∀ j, inb (bA 2 2 j) (na_2_2 j)) ∧ (True) ∧ u = (iv, lv, (u2 (u2 fa 2 2 na_2_2) 20 2 na_20_2), (u2 (u2 la 20 0 nb_20_0) 20 1 nb_20_1))) (bX (dC, dI) h g ca A) A) ([.ref (g 11 6), .int a] : List Value).toArray s 0 0 A) (F0 m 23 ls []) := by
          intro nn3052
          induction nn3052 with
          | zero => intro x3051_5 x3051_3 w3051_a_20_2 w3051_b_20_0 w3051_b_20_1 hx3051_5 hw3051_a_20_2 hm3052; exfalso; omega
          | succ nn3052 ih3052 =>
            intro x3051_5 x3051_3 w3051_a_20_2 w3051_b_20_0 w3051_b_20_1 hx3051_5 hw3051_a_20_2 hm3052 H locs ls hP hD hS hl
            refine lv_iload hx hb dX2_oddPairs_23 (lv_at hl 0 rfl) ?_
            refine lv_iload_n hx hb dX2_oddPairs_25 rfl (lv_at hl 3 rfl) ?_
            refine lv_icmp_ge (tgt := 85) hx hb dX2_oddPairs_26 (by decide) (fun c3053 => ?_) (fun c3053 => ?_)
            · have fc3053 := z_le (rfl : (r1).toInt = _) (rfl : (x3051_5).toInt = _) c3053
              obtain ⟨v3054, ev3054⟩ : ∃ y : Int32, y = x3003_4 + 1 := ⟨_, rfl⟩
              have tv3054 := z_add ev3054 rfl (by decide : (1 : Int32).toInt = 1) (by omega) (by omega)
              refine lv_iinc (v := v3054) (lv' := [(4, .int v3054), (5, .int x3051_5), (3, .int x3051_3), (2, .int r1), (0, .ref (g 11 6)), (1, .int a)]) hx hb dX2_oddPairs_85 hl (k := 1) rfl (by rw [ev3054]; rfl) (by decide) rfl (fun ls hl => ?_)
              refine lv_goto (tgt := 11) hx hb dX2_oddPairs_88 (by decide) ?_
              exact ih3004 v3054 x3051_3 w3051_a_20_2 w3051_b_20_0 w3051_b_20_1 ⟨by omega, by omega⟩ hw3051_a_20_2 (by omega) _ _ ls hP hD hS (lv_sub hl [0, 2, 3, 4, 5] rfl)
            · have fc3053 := z_nle (rfl : (r1).toInt = _) (rfl : (x3051_5).toInt = _) c3053
              refine lv_aload_n hx hb dX2_oddPairs_29 rfl (lv_at hl 4 rfl) ?_
              refine gX_2_1 hx hb ht hown hK hP m_305 dX2_oddPairs_30 ?_
              have hFc := free_all hD hS hA
              refine va_callv (va_runV (As := []) (rest := []) ⟨hx, hb, hml, hown, ht⟩ (c_X7_clear_20 l dC dI H.size h g ca iv lv (u2 (u2 fa 2 2 n2) 20 2 w3051_a_20_2) (u2 (u2 la 20 0 w3051_b_20_0) 20 1 w3051_b_20_1) (IX_a (c := 20) (k := 2) (IX_a (c := 2) (k := 2) hI hn2) hw3051_a_20_2)) (kV 0 ht m_882 m_569 m_570 m_84 m_571 rfl rfl hd_X7_clear_v ⟨Nat.le_of_ble_eq_true rfl, Nat.le_of_ble_eq_true rfl⟩) (vW hP hK hD (rX_20 hK hP)) rfl rfl hl.1 rfl (lv_room (Nat.le_of_ble_eq_true rfl)) dX2_oddPairs_33 ⟨Nat.le_of_ble_eq_true rfl, Nat.le_of_ble_eq_true rfl⟩) hS (fun q _ h => hFc q h) hFc (fun u t H1 locs ht9 hvm hr3055 hB hz1 hk1 hS => ?_)
              obtain ⟨n3056, n3057, n3058, rfl⟩ := hr3055
              have hn3056 : ∀ j, inb (bA 20 2 j) (n3056 j) := fun j => full_i _
              obtain ⟨hP, hD⟩ := hB
              rw [ht9] at hP
              generalize H1 = H at hP hS ⊢
              have hP : va_P (dC, dI) classes (WX h g ca iv lv (u2 (u2 fa 2 2 n2) 20 2 n3056) (u2 (u2 la 20 0 n3057) 20 1 n3058)) H := hP
              have hD : va_D A (WX h g ca iv lv (u2 (u2 fa 2 2 n2) 20 2 n3056) (u2 (u2 la 20 0 n3057) 20 1 n3058)) := (show va_D _ (WX h g ca iv lv (u2 (u2 fa 2 2 n2) 20 2 n3056) (u2 (u2 la 20 0 n3057) 20 1 n3058)) from hD).weaken (fun _ _ _ h => hFc _ h)
              refine lv_aload_n hx hb dX2_oddPairs_36 rfl (lv_at hl 4 rfl) ?_
              refine lv_iconst (v := 0) hx hb dX2_oddPairs_37 (by decide) ?_
              refine lv_aload_n hx hb dX2_oddPairs_38 rfl (lv_at hl 4 rfl) ?_
              refine gX_2_2 hx hb ht hown hK hP m_306 dX2_oddPairs_39 ?_
              refine lv_iload hx hb dX2_oddPairs_42 (lv_at hl 1 rfl) ?_
              refine lX_2_2 hx hb hK hP (f := n2) rfl (vp_in_iff.mpr ⟨by omega, by omega⟩) dX2_oddPairs_44 ?_
              refine lv_topi (fun v3059 ev3059 => ?_)
              have tv3059 : 0 ≤ v3059.toInt ∧ v3059.toInt ≤ 59 := by rw [ev3059]; exact hn2 _
              have hFc := free_all hD hS hA
              refine va_callv (va_runV (As := [.int 0, .int v3059]) (rest := []) ⟨hx, hb, hml, hown, ht⟩ (c_X2_heap l dC dI H.size h g ca iv lv (u2 (u2 fa 2 2 n2) 20 2 n3056) (u2 (u2 la 20 0 n3057) 20 1 n3058) (IX_a (c := 20) (k := 2) (IX_a (c := 2) (k := 2) hI hn2) hn3056) 0 v3059 ⟨by decide, by decide⟩ ⟨by omega, by omega⟩) (kV 2 ht m_890 m_892 m_33 m_85 m_893 rfl rfl hd_X2_heap_v ⟨Nat.le_of_ble_eq_true rfl, Nat.le_of_ble_eq_true rfl⟩) (vW hP hK hD (rX_2 hK hP)) rfl rfl hl.1 rfl (lv_room (Nat.le_of_ble_eq_true rfl)) dX2_oddPairs_45 ⟨Nat.le_of_ble_eq_true rfl, Nat.le_of_ble_eq_true rfl⟩) hS (fun q _ h => hFc q h) hFc (fun u t H1 locs ht9 hvm hr3060 hB hz1 hk1 hS => ?_)
              obtain ⟨n3061, n3062, n3063, rfl⟩ := hr3060
              have hn3061 : ∀ j, inb (bA 20 2 j) (n3061 j) := fun j => full_i _
              obtain ⟨hP, hD⟩ := hB
              rw [ht9] at hP
              generalize H1 = H at hP hS ⊢
              have hP : va_P (dC, dI) classes (WX h g ca iv lv (u2 (u2 fa 2 2 n2) 20 2 n3061) (u2 (u2 la 20 0 n3062) 20 1 n3063)) H := hP
              have hD : va_D A (WX h g ca iv lv (u2 (u2 fa 2 2 n2) 20 2 n3061) (u2 (u2 la 20 0 n3062) 20 1 n3063)) := (show va_D _ (WX h g ca iv lv (u2 (u2 fa 2 2 n2) 20 2 n3061) (u2 (u2 la 20 0 n3062) 20 1 n3063)) from hD).weaken (fun _ _ _ h => hFc _ h)
              refine lv_aload_n hx hb dX2_oddPairs_48 rfl (lv_at hl 4 rfl) ?_
              refine lv_iconst (v := 1) hx hb dX2_oddPairs_49 (by decide) ?_
              refine lv_aload_n hx hb dX2_oddPairs_50 rfl (lv_at hl 4 rfl) ?_
              refine gX_2_2 hx hb ht hown hK hP m_306 dX2_oddPairs_51 ?_
              refine lv_iload hx hb dX2_oddPairs_54 (lv_at hl 0 rfl) ?_
              refine lX_2_2 hx hb hK hP (f := n2) rfl (vp_in_iff.mpr ⟨by omega, by omega⟩) dX2_oddPairs_56 ?_
              refine lv_topi (fun v3064 ev3064 => ?_)
              have tv3064 : 0 ≤ v3064.toInt ∧ v3064.toInt ≤ 59 := by rw [ev3064]; exact hn2 _
              have hFc := free_all hD hS hA
              refine va_callv (va_runV (As := [.int 1, .int v3064]) (rest := []) ⟨hx, hb, hml, hown, ht⟩ (c_X2_heap l dC dI H.size h g ca iv lv (u2 (u2 fa 2 2 n2) 20 2 n3061) (u2 (u2 la 20 0 n3062) 20 1 n3063) (IX_a (c := 20) (k := 2) (IX_a (c := 2) (k := 2) hI hn2) hn3061) 1 v3064 ⟨by decide, by decide⟩ ⟨by omega, by omega⟩) (kV 2 ht m_890 m_892 m_33 m_85 m_893 rfl rfl hd_X2_heap_v ⟨Nat.le_of_ble_eq_true rfl, Nat.le_of_ble_eq_true rfl⟩) (vW hP hK hD (rX_2 hK hP)) rfl rfl hl.1 rfl (lv_room (Nat.le_of_ble_eq_true rfl)) dX2_oddPairs_57 ⟨Nat.le_of_ble_eq_true rfl, Nat.le_of_ble_eq_true rfl⟩) hS (fun q _ h => hFc q h) hFc (fun u t H1 locs ht9 hvm hr3065 hB hz1 hk1 hS => ?_)
              obtain ⟨n3066, n3067, n3068, rfl⟩ := hr3065
              have hn3066 : ∀ j, inb (bA 20 2 j) (n3066 j) := fun j => full_i _
              obtain ⟨hP, hD⟩ := hB
              rw [ht9] at hP
              generalize H1 = H at hP hS ⊢
              have hP : va_P (dC, dI) classes (WX h g ca iv lv (u2 (u2 fa 2 2 n2) 20 2 n3066) (u2 (u2 la 20 0 n3067) 20 1 n3068)) H := hP
              have hD : va_D A (WX h g ca iv lv (u2 (u2 fa 2 2 n2) 20 2 n3066) (u2 (u2 la 20 0 n3067) 20 1 n3068)) := (show va_D _ (WX h g ca iv lv (u2 (u2 fa 2 2 n2) 20 2 n3066) (u2 (u2 la 20 0 n3067) 20 1 n3068)) from hD).weaken (fun _ _ _ h => hFc _ h)
              refine lv_aload_n hx hb dX2_oddPairs_60 rfl (lv_at hl 4 rfl) ?_
              refine gX_2_1 hx hb ht hown hK hP m_305 dX2_oddPairs_61 ?_
              refine lv_iconst (v := 0) hx hb dX2_oddPairs_64 (by decide) ?_
              refine lv_iconst (v := 1) hx hb dX2_oddPairs_65 (by decide) ?_
              refine lv_aload_n hx hb dX2_oddPairs_66 rfl (lv_at hl 4 rfl) ?_
              refine gX_2_5 hx hb ht hown hK hP m_309 (v := (iv 2 5)) rfl dX2_oddPairs_67 ?_
              refine vp_callSi (W.runV (As := [.int 0, .int 1, .int (iv 2 5)]) (rest := []) ⟨hx, hb, hml, hown, ht⟩ (c_X7_differ_20 l dC dI h g ca iv lv (u2 (u2 fa 2 2 n2) 20 2 n3066) (u2 (u2 la 20 0 n3067) 20 1 n3068) (IX_a (c := 20) (k := 2) (IX_a (c := 2) (k := 2) hI hn2) hn3066) 0 1 (iv 2 5) ⟨by decide, by decide⟩ ⟨by decide, by decide⟩) (kV 3 ht m_899 m_627 m_628 m_84 m_629 rfl rfl hd_X7_differ_v ⟨Nat.le_of_ble_eq_true rfl, Nat.le_of_ble_eq_true rfl⟩) (vR hP hK (rX_20 hK hP)) rfl rfl hl.1 rfl (lv_room (Nat.le_of_ble_eq_true rfl)) dX2_oddPairs_70 ⟨Nat.le_of_ble_eq_true rfl, Nat.le_of_ble_eq_true rfl⟩) (fun r3069 hr3069 => ?_)
              refine lv_if_eq (tgt := 79) hx hb dX2_oddPairs_73 (by decide) (fun c3070 => ?_) (fun c3070 => ?_)
              · have fc3070 := z_eq (rfl : (r3069).toInt = _) (by decide : (0 : Int32).toInt = 0) c3070
                obtain ⟨v3071, ev3071⟩ : ∃ y : Int32, y = x3051_5 + 1 := ⟨_, rfl⟩
                have tv3071 := z_add ev3071 rfl (by decide : (1 : Int32).toInt = 1) (by omega) (by omega)
                refine lv_iinc (v := v3071) (lv' := [(5, .int v3071), (4, .int x3003_4), (3, .int x3051_3), (2, .int r1), (0, .ref (g 11 6)), (1, .int a)]) hx hb dX2_oddPairs_79 hl (k := 0) rfl (by rw [ev3071]; rfl) (by decide) rfl (fun ls hl => ?_)
                refine lv_goto (tgt := 23) hx hb dX2_oddPairs_82 (by decide) ?_
                exact ih3052 v3071 x3051_3 n3066 n3067 n3068 ⟨by omega, by omega⟩ hn3066 (by omega) _ _ ls hP hD hS (lv_sub hl [0, 1, 2, 3, 4, 5] rfl)
              · have fc3070 := z_ne (rfl : (r3069).toInt = _) (by decide : (0 : Int32).toInt = 0) c3070
                obtain ⟨v3072, ev3072⟩ : ∃ y : Int32, y = x3051_3 + 1 := ⟨_, rfl⟩
                refine lv_iinc (v := v3072) (lv' := [(3, .int v3072), (5, .int x3051_5), (4, .int x3003_4), (2, .int r1), (0, .ref (g 11 6)), (1, .int a)]) hx hb dX2_oddPairs_76 hl (k := 2) rfl (by rw [ev3072]; rfl) (by decide) rfl (fun ls hl => ?_)
                obtain ⟨v3073, ev3073⟩ : ∃ y : Int32, y = x3051_5 + 1 := ⟨_, rfl⟩
                have tv3073 := z_add ev3073 rfl (by decide : (1 : Int32).toInt = 1) (by omega) (by omega)
                refine lv_iinc (v := v3073) (lv' := [(5, .int v3073), (3, .int v3072), (4, .int x3003_4), (2, .int r1), (0, .ref (g 11 6)), (1, .int a)]) hx hb dX2_oddPairs_79 hl (k := 1) rfl (by rw [ev3073]; rfl) (by decide) rfl (fun ls hl => ?_)
                refine lv_goto (tgt := 23) hx hb dX2_oddPairs_82 (by decide) ?_
                exact ih3052 v3073 v3072 n3066 n3067 n3068 ⟨by omega, by omega⟩ hn3066 (by omega) _ _ ls hP hD hS (lv_sub hl [0, 2, 1, 3, 4, 5] rfl)
        exact lp3052 12 v3006 x3003_3 w3003_a_20_2 w3003_b_20_0 w3003_b_20_1 ⟨by omega, by omega⟩ hw3003_a_20_2 (by first | decide | omega) _ _ ls hP hD hS (lv_sub hl [0, 1, 2, 3, 4, 5] rfl)
  exact lp3004 13 0 0 (fa 20 2) (la 20 0) (la 20 1) ⟨by decide, by decide⟩ (hI.2 20 2) (by first | decide | omega) _ _ ls hP hD hS (lv_sub hl [0, 1, 2, 3, 4] rfl)
set_option maxHeartbeats 4000000 in
set_option maxRecDepth 100000 in
/-- X2_isSuspect -/
theorem c_X2_isSuspect (l : Launch) (dC : Nat → ClassId) (dI : Nat → Nat → Nat) (ak av : Nat → Nat) (h : Nat) (g : Nat → Nat → Nat) (ca : Nat → Nat → ClassId) (iv : Nat → Nat → Int32) (lv : Nat → Nat → Int64) (fa : Nat → Nat → Nat → Int32) (la : Nat → Nat → Nat → Int64) (hI : IX iv fa) (a : Int32) (h_a : 0 ≤ a.toInt ∧ a.toInt ≤ 159) : Met l yX2_isSuspect (wc yX2_isSuspect cX2_isSuspect 2 (some .boolean)) ({ frames := 3, cells := 0, slots := 0, locals := 66 } : Room) (pRZ ak av (dC, dI) classes (WX h g ca iv lv fa la) (TX ca) [.ref (g 11 6), .int a]) (vp_Si (fun r => 0 ≤ r.toInt ∧ r.toInt ≤ 1)) 0 0 (fun _ => False) := by
  refine Met.ofW (cc := cX2_isSuspect) (maxL := 2) (ret := (some .boolean)) (by decide) rfl ?_
  intro p e s m args below meth c s₁ B hml hv
  obtain ⟨rfl, hP, hK, hZ⟩ := hv
  have hx := B.exec
  have hb := B.bytes
  have hr := B.returns
  have ht := tb_tl (atoms_spec (ws := wc yX2_isSuspect cX2_isSuspect 2 (some .boolean)) B.pre)
  have hown : s.vm.findClass RX2 = some m.cls := findClass_of_methodNamed B.named
  have hlocks := B.notSynchronized
  have hl := lv_entry [.ref (g 11 6), .int a] (n := 2) (Nat.le_of_ble_eq_true rfl)
  rw [lg_entry_eq]
  generalize (lg_sl [.ref (g 11 6), .int a] ++ List.replicate (2 - (lg_sl [.ref (g 11 6), .int a]).length) Slot.unset).toArray = ls at hl ⊢
  have hl : lv_has ls 2 [(0, .ref (g 11 6)), (1, .int a)] := hl
  refine lv_iload_n hx hb dX2_isSuspect_0 rfl (lv_at hl 1 rfl) ?_
  refine lv_bipush (v := 100) hx hb dX2_isSuspect_1 (by decide) ?_
  refine lv_icmp_ge (tgt := 32) hx hb dX2_isSuspect_3 (by decide) (fun c1 => ?_) (fun c1 => ?_)
  · have fc1 := z_le (by decide : (100 : Int32).toInt = 100) (rfl : (a).toInt = _) c1
    refine lv_aload_n hx hb dX2_isSuspect_32 rfl (lv_at hl 0 rfl) ?_
    refine lv_iload_n hx hb dX2_isSuspect_33 rfl (lv_at hl 1 rfl) ?_
    refine lv_bipush (v := 100) hx hb dX2_isSuspect_34 (by decide) ?_
    refine lv_isub hx hb dX2_isSuspect_36 ?_
    refine lv_topi (fun v2 ev2 => ?_)
    have tv2 := z_sub ev2 (rfl : (a).toInt = _) (by decide : (100 : Int32).toInt = 100) (by omega) (by omega)
    refine vp_callSi (W.runV (As := [.int v2]) (rest := []) ⟨hx, hb, hml, hown, ht⟩ (c_X2_isInDoubt l dC dI h g ca iv lv fa la hI v2 ⟨by omega, by omega⟩) (kV 1 ht m_883 m_885 m_32 m_85 m_886 rfl rfl hd_X2_isInDoubt_v ⟨Nat.le_of_ble_eq_true rfl, Nat.le_of_ble_eq_true rfl⟩) (vR hP hK (rX_2 hK hP)) rfl rfl hl.1 rfl (lv_room (Nat.le_of_ble_eq_true rfl)) dX2_isSuspect_37 ⟨Nat.le_of_ble_eq_true rfl, Nat.le_of_ble_eq_true rfl⟩) (fun r3 hr3 => ?_)
    exact W.zret (v := r3) hx hb hr (nar01 ⟨by omega, by omega⟩) (fun t ht9 hW => ⟨r3, rfl, ⟨by omega, by omega⟩, ht9⟩) (fun q hq => by cases hq) dX2_isSuspect_40
  · have fc1 := z_nle (by decide : (100 : Int32).toInt = 100) (rfl : (a).toInt = _) c1
    refine lv_iload_n hx hb dX2_isSuspect_6 rfl (lv_at hl 1 rfl) ?_
    refine lv_iconst (v := 0) hx hb dX2_isSuspect_7 (by decide) ?_
    refine lv_iconst (v := 3) hx hb dX2_isSuspect_8 (by decide) ?_
    refine vp_callSi (run_of (va_runSN (As := [.int a, .int 0, .int 3]) (rest := []) ⟨hx, hb, hml, hown, ht⟩ (c_X11_within l dC dI a 0 3 (a.toInt) (0) (3) (rfl : (a).toInt = _) (by decide : (0 : Int32).toInt = 0) (by decide : (3 : Int32).toInt = 3)) ⟨va_cnB 3 ht (tb_wc m_455) rfl rfl rfl hZ.2.2.2.2.2.2 (ht _ m_77) hd_X11_within_i ⟨Nat.le_of_ble_eq_true rfl, Nat.le_of_ble_eq_true rfl⟩, ht _ m_454, trivial⟩ (sR noP (hK.sub (tys' := []) [] rfl)) rfl rfl hl.1 rfl (lv_room (Nat.le_of_ble_eq_true rfl)) dX2_isSuspect_9 ⟨Nat.le_of_ble_eq_true rfl, Nat.le_of_ble_eq_true rfl⟩)) (fun r4 hr4 => ?_)
    rcases hr4 with ⟨rfl, fr4⟩ | ⟨rfl, fr4⟩
    · skip
      refine lv_if_ne (tgt := 26) hx hb dX2_isSuspect_12 (by decide) (fun c5 => ?_) (fun c5 => ?_)
      · skip
        refine lv_iconst (v := 1) hx hb dX2_isSuspect_26 (by decide) ?_
        refine lv_goto (tgt := 31) hx hb dX2_isSuspect_27 (by decide) ?_
        exact W.zret (v := 1) hx hb hr rfl (fun t ht9 hW => ⟨1, rfl, ⟨by decide, by decide⟩, ht9⟩) (fun q hq => by cases hq) dX2_isSuspect_31
      · exact absurd c5 (by decide)
    · skip
      refine lv_if_ne (tgt := 26) hx hb dX2_isSuspect_12 (by decide) (fun c6 => ?_) (fun c6 => ?_)
      · exact absurd rfl c6
      · skip
        refine lv_iload_n hx hb dX2_isSuspect_15 rfl (lv_at hl 1 rfl) ?_
        refine lv_bipush (v := 10) hx hb dX2_isSuspect_16 (by decide) ?_
        refine lv_bipush (v := 17) hx hb dX2_isSuspect_18 (by decide) ?_
        refine vp_callSi (run_of (va_runSN (As := [.int a, .int 10, .int 17]) (rest := []) ⟨hx, hb, hml, hown, ht⟩ (c_X11_within l dC dI a 10 17 (a.toInt) (10) (17) (rfl : (a).toInt = _) (by decide : (10 : Int32).toInt = 10) (by decide : (17 : Int32).toInt = 17)) ⟨va_cnB 3 ht (tb_wc m_455) rfl rfl rfl hZ.2.2.2.2.2.2 (ht _ m_77) hd_X11_within_i ⟨Nat.le_of_ble_eq_true rfl, Nat.le_of_ble_eq_true rfl⟩, ht _ m_454, trivial⟩ (sR noP (hK.sub (tys' := []) [] rfl)) rfl rfl hl.1 rfl (lv_room (Nat.le_of_ble_eq_true rfl)) dX2_isSuspect_20 ⟨Nat.le_of_ble_eq_true rfl, Nat.le_of_ble_eq_true rfl⟩)) (fun r7 hr7 => ?_)
        rcases hr7 with ⟨rfl, fr7⟩ | ⟨rfl, fr7⟩
        · skip
          refine lv_if_eq (tgt := 30) hx hb dX2_isSuspect_23 (by decide) (fun c8 => ?_) (fun c8 => ?_)
          · exact absurd c8 (by decide)
          · skip
            refine lv_iconst (v := 1) hx hb dX2_isSuspect_26 (by decide) ?_
            refine lv_goto (tgt := 31) hx hb dX2_isSuspect_27 (by decide) ?_
            exact W.zret (v := 1) hx hb hr rfl (fun t ht9 hW => ⟨1, rfl, ⟨by decide, by decide⟩, ht9⟩) (fun q hq => by cases hq) dX2_isSuspect_31
        · skip
          refine lv_if_eq (tgt := 30) hx hb dX2_isSuspect_23 (by decide) (fun c9 => ?_) (fun c9 => ?_)
          · skip
            refine lv_iconst (v := 0) hx hb dX2_isSuspect_30 (by decide) ?_
            exact W.zret (v := 0) hx hb hr rfl (fun t ht9 hW => ⟨0, rfl, ⟨by decide, by decide⟩, ht9⟩) (fun q hq => by cases hq) dX2_isSuspect_31
          · exact absurd rfl c9
set_option maxHeartbeats 4000000 in
set_option maxRecDepth 100000 in
/-- X2_agreeWithout -/
theorem c_X2_agreeWithout (l : Launch) (dC : Nat → ClassId) (dI : Nat → Nat → Nat) (sz : Nat) (h : Nat) (g : Nat → Nat → Nat) (ca : Nat → Nat → ClassId) (iv : Nat → Nat → Int32) (lv : Nat → Nat → Int64) (fa : Nat → Nat → Nat → Int32) (la : Nat → Nat → Nat → Int64) (hI : IX iv fa) (a : Int32) (h_a : 0 ≤ a.toInt ∧ a.toInt ≤ 159) : Met l yX2_agreeWithout (wc yX2_agreeWithout cX2_agreeWithout 4 (some .boolean)) ({ frames := 4, cells := 0, slots := 0, locals := 91 } : Room) (pW (dC, dI) classes (WX h g ca iv lv fa la) (TX ca) sz [.ref (g 11 6), .int a]) (va_Qi (fun r (u : SS) => ∃ (na_20_2 : Nat → Int32) (nb_20_0 : Nat → Int64) (nb_20_1 : Nat → Int64), (0 ≤ r.toInt ∧ r.toInt ≤ 1) ∧ u = (iv, lv, (u2 fa 20 2 na_20_2), (u2 (u2 la 20 0 nb_20_0) 20 1 nb_20_1))) (bX (dC, dI) h g ca (va_A (WX h g ca iv lv fa la) sz)) (va_A (WX h g ca iv lv fa la) sz)) 0 0 (va_A (WX h g ca iv lv fa la) sz) := by
  refine Met.ofW (cc := cX2_agreeWithout) (maxL := 4) (ret := (some .boolean)) (by decide) rfl ?_
  intro p e s m args below meth c s₁ B hml hv
  obtain ⟨rfl, hsz, hP, hK, hD0⟩ := hv
  have hx := B.exec
  have hb := B.bytes
  have hr := B.returns
  have ht := tb_tl (atoms_spec (ws := wc yX2_agreeWithout cX2_agreeWithout 4 (some .boolean)) B.pre)
  have hown : s.vm.findClass RX2 = some m.cls := findClass_of_methodNamed B.named
  have hlocks := B.notSynchronized
  subst hsz
  have hD := hD0.self (sz := s.heap.size)
  generalize hAe : va_A (WX h g ca iv lv fa la) s.heap.size = A at hD ⊢
  have hA : ∀ q : Nat, s.heap.size ≤ q → A q := fun q h => by rw [← hAe]; exact Or.inr h
  have hS : va_S A s.heap s.heap [] := va_S.rf
  have hl := lv_entry [.ref (g 11 6), .int a] (n := 4) (Nat.le_of_ble_eq_true rfl)
  rw [lg_entry_eq]
  generalize (lg_sl [.ref (g 11 6), .int a] ++ List.replicate (4 - (lg_sl [.ref (g 11 6), .int a]).length) Slot.unset).toArray = ls at hl ⊢
  have hl : lv_has ls 4 [(0, .ref (g 11 6)), (1, .int a)] := hl
  refine lv_iconst (v := 2) hx hb dX2_agreeWithout_0 (by decide) ?_
  refine lv_istore_n (lv' := [(3, .int 2), (0, .ref (g 11 6)), (1, .int a)]) hx hb dX2_agreeWithout_1 rfl hl (by decide) rfl (fun ls hl => ?_)
  refine lv_iload_n hx hb dX2_agreeWithout_2 rfl (lv_at hl 2 rfl) ?_
  refine lv_bipush (v := 10) hx hb dX2_agreeWithout_3 (by decide) ?_
  refine lv_icmp_ge (tgt := 18) hx hb dX2_agreeWithout_5 (by decide) (fun c1 => ?_) (fun c1 => ?_)
  · have fc1 := z_le (by decide : (10 : Int32).toInt = 10) (rfl : (a).toInt = _) c1
    refine lv_iload_n hx hb dX2_agreeWithout_18 rfl (lv_at hl 2 rfl) ?_
    refine lv_bipush (v := 100) hx hb dX2_agreeWithout_19 (by decide) ?_
    refine lv_icmp_ge (tgt := 38) hx hb dX2_agreeWithout_21 (by decide) (fun c2 => ?_) (fun c2 => ?_)
    · have fc2 := z_le (by decide : (100 : Int32).toInt = 100) (rfl : (a).toInt = _) c2
      refine lv_aload_n hx hb dX2_agreeWithout_38 rfl (lv_at hl 1 rfl) ?_
      refine lv_bipush (v := 9) hx hb dX2_agreeWithout_39 (by decide) ?_
      refine lv_iload_n hx hb dX2_agreeWithout_41 rfl (lv_at hl 2 rfl) ?_
      refine lv_bipush (v := 100) hx hb dX2_agreeWithout_42 (by decide) ?_
      refine lv_isub hx hb dX2_agreeWithout_44 ?_
      refine lv_topi (fun v3 ev3 => ?_)
      have tv3 := z_sub ev3 (rfl : (a).toInt = _) (by decide : (100 : Int32).toInt = 100) (by omega) (by omega)
      have hFc := free_all hD hS hA
      refine va_calli (va_runV (As := [.int 9, .int v3]) (rest := []) ⟨hx, hb, hml, hown, ht⟩ (c_X2_gatherWithout l dC dI s.heap.size h g ca iv lv fa la hI 9 v3 ⟨by decide, by decide⟩) (kV 2 ht m_878 m_880 m_31 m_85 m_881 rfl rfl hd_X2_gatherWithout_v ⟨Nat.le_of_ble_eq_true rfl, Nat.le_of_ble_eq_true rfl⟩) (vW hP hK hD (rX_2 hK hP)) rfl rfl hl.1 rfl (lv_room (Nat.le_of_ble_eq_true rfl)) dX2_agreeWithout_45 ⟨Nat.le_of_ble_eq_true rfl, Nat.le_of_ble_eq_true rfl⟩) hS (fun q _ h => hFc q h) hFc (fun r4 u t H1 locs ht9 hvm hr4 hB hz1 hk1 hS => ?_)
      obtain ⟨n5, n6, n7, hr4, rfl⟩ := hr4
      have hn5 : ∀ j, inb (bA 20 2 j) (n5 j) := fun j => full_i _
      obtain ⟨hP, hD⟩ := hB
      rw [ht9] at hP
      generalize H1 = H at hP hS ⊢
      have hP : va_P (dC, dI) classes (WX h g ca iv lv (u2 fa 20 2 n5) (u2 (u2 la 20 0 n6) 20 1 n7)) H := hP
      have hD : va_D A (WX h g ca iv lv (u2 fa 20 2 n5) (u2 (u2 la 20 0 n6) 20 1 n7)) := (show va_D _ (WX h g ca iv lv (u2 fa 20 2 n5) (u2 (u2 la 20 0 n6) 20 1 n7)) from hD).weaken (fun _ _ _ h => hFc _ h)
      refine lv_istore_n (lv' := [(2, .int r4), (3, .int 2), (0, .ref (g 11 6)), (1, .int a)]) hx hb dX2_agreeWithout_48 rfl hl (by decide) rfl (fun ls hl => ?_)
      refine lv_iconst (v := 1) hx hb dX2_agreeWithout_49 (by decide) ?_
      refine lv_istore_n (lv' := [(3, .int 1), (2, .int r4), (0, .ref (g 11 6)), (1, .int a)]) hx hb dX2_agreeWithout_50 rfl hl (by decide) rfl (fun ls hl => ?_)
      refine lv_iload_n hx hb dX2_agreeWithout_51 rfl (lv_at hl 1 rfl) ?_
      refine lv_iload_n hx hb dX2_agreeWithout_52 rfl (lv_at hl 0 rfl) ?_
      refine lv_icmp_lt (tgt := 83) hx hb dX2_agreeWithout_53 (by decide) (fun c8 => ?_) (fun c8 => ?_)
      · have fc8 := z_lt (rfl : (r4).toInt = _) (by decide : (1 : Int32).toInt = 1) c8
        refine lv_iconst (v := 0) hx hb dX2_agreeWithout_83 (by decide) ?_
        have hP9 : va_P (dC, dI) classes (WX h g ca iv lv (u2 fa 20 2 n5) (u2 (u2 la 20 0 n6) 20 1 n7)) H := hP
        have hD9 : va_D A (WX h g ca iv lv (u2 fa 20 2 n5) (u2 (u2 la 20 0 n6) 20 1 n7)) := hD
        exact W.zret (v := 0) hx hb hr rfl (fun t ht9 hW => ⟨⟨0, (iv, lv, (u2 fa 20 2 n5), (u2 (u2 la 20 0 n6) 20 1 n7)), rfl, ⟨n5, n6, n7, ⟨by decide, by decide⟩, rfl⟩, by rw [ht9]; exact hP9, hD9⟩, hS.F ht9⟩) hS.2.2 dX2_agreeWithout_84
      · have fc8 := z_nlt (rfl : (r4).toInt = _) (by decide : (1 : Int32).toInt = 1) c8
        refine lv_aload_n hx hb dX2_agreeWithout_56 rfl (lv_at hl 2 rfl) ?_
        refine vp_callSi (W.runV (As := []) (rest := []) ⟨hx, hb, hml, hown, ht⟩ (c_X2_bothLeft l dC dI h g ca iv lv (u2 fa 20 2 n5) (u2 (u2 la 20 0 n6) 20 1 n7) (IX_a (c := 20) (k := 2) hI hn5)) (kV 0 ht m_895 m_897 m_34 m_85 m_898 rfl rfl hd_X2_bothLeft_v ⟨Nat.le_of_ble_eq_true rfl, Nat.le_of_ble_eq_true rfl⟩) (vR hP hK (rX_2 hK hP)) rfl rfl hl.1 rfl (lv_room (Nat.le_of_ble_eq_true rfl)) dX2_agreeWithout_57 ⟨Nat.le_of_ble_eq_true rfl, Nat.le_of_ble_eq_true rfl⟩) (fun r9 hr9 => ?_)
        refine lv_if_eq (tgt := 83) hx hb dX2_agreeWithout_60 (by decide) (fun c10 => ?_) (fun c10 => ?_)
        · have fc10 := z_eq (rfl : (r9).toInt = _) (by decide : (0 : Int32).toInt = 0) c10
          refine lv_iconst (v := 0) hx hb dX2_agreeWithout_83 (by decide) ?_
          have hP9 : va_P (dC, dI) classes (WX h g ca iv lv (u2 fa 20 2 n5) (u2 (u2 la 20 0 n6) 20 1 n7)) H := hP
          have hD9 : va_D A (WX h g ca iv lv (u2 fa 20 2 n5) (u2 (u2 la 20 0 n6) 20 1 n7)) := hD
          exact W.zret (v := 0) hx hb hr rfl (fun t ht9 hW => ⟨⟨0, (iv, lv, (u2 fa 20 2 n5), (u2 (u2 la 20 0 n6) 20 1 n7)), rfl, ⟨n5, n6, n7, ⟨by decide, by decide⟩, rfl⟩, by rw [ht9]; exact hP9, hD9⟩, hS.F ht9⟩) hS.2.2 dX2_agreeWithout_84
        · have fc10 := z_ne (rfl : (r9).toInt = _) (by decide : (0 : Int32).toInt = 0) c10
          refine lv_aload_n hx hb dX2_agreeWithout_63 rfl (lv_at hl 2 rfl) ?_
          refine gX_2_1 hx hb ht hown hK hP m_305 dX2_agreeWithout_64 ?_
          refine lv_iconst (v := 0) hx hb dX2_agreeWithout_67 (by decide) ?_
          refine lv_iconst (v := 1) hx hb dX2_agreeWithout_68 (by decide) ?_
          refine lv_aload_n hx hb dX2_agreeWithout_69 rfl (lv_at hl 2 rfl) ?_
          refine gX_2_5 hx hb ht hown hK hP m_309 (v := (iv 2 5)) rfl dX2_agreeWithout_70 ?_
          refine vp_callSi (W.runV (As := [.int 0, .int 1, .int (iv 2 5)]) (rest := []) ⟨hx, hb, hml, hown, ht⟩ (c_X7_differ_20 l dC dI h g ca iv lv (u2 fa 20 2 n5) (u2 (u2 la 20 0 n6) 20 1 n7) (IX_a (c := 20) (k := 2) hI hn5) 0 1 (iv 2 5) ⟨by decide, by decide⟩ ⟨by decide, by decide⟩) (kV 3 ht m_899 m_627 m_628 m_84 m_629 rfl rfl hd_X7_differ_v ⟨Nat.le_of_ble_eq_true rfl, Nat.le_of_ble_eq_true rfl⟩) (vR hP hK (rX_20 hK hP)) rfl rfl hl.1 rfl (lv_room (Nat.le_of_ble_eq_true rfl)) dX2_agreeWithout_73 ⟨Nat.le_of_ble_eq_true rfl, Nat.le_of_ble_eq_true rfl⟩) (fun r11 hr11 => ?_)
          refine lv_if_ne (tgt := 83) hx hb dX2_agreeWithout_76 (by decide) (fun c12 => ?_) (fun c12 => ?_)
          · have fc12 := z_ne (rfl : (r11).toInt = _) (by decide : (0 : Int32).toInt = 0) c12
            refine lv_iconst (v := 0) hx hb dX2_agreeWithout_83 (by decide) ?_
            have hP9 : va_P (dC, dI) classes (WX h g ca iv lv (u2 fa 20 2 n5) (u2 (u2 la 20 0 n6) 20 1 n7)) H := hP
            have hD9 : va_D A (WX h g ca iv lv (u2 fa 20 2 n5) (u2 (u2 la 20 0 n6) 20 1 n7)) := hD
            exact W.zret (v := 0) hx hb hr rfl (fun t ht9 hW => ⟨⟨0, (iv, lv, (u2 fa 20 2 n5), (u2 (u2 la 20 0 n6) 20 1 n7)), rfl, ⟨n5, n6, n7, ⟨by decide, by decide⟩, rfl⟩, by rw [ht9]; exact hP9, hD9⟩, hS.F ht9⟩) hS.2.2 dX2_agreeWithout_84
          · have fc12 := z_eq (rfl : (r11).toInt = _) (by decide : (0 : Int32).toInt = 0) c12
            refine lv_iconst (v := 1) hx hb dX2_agreeWithout_79 (by decide) ?_
            refine lv_goto (tgt := 84) hx hb dX2_agreeWithout_80 (by decide) ?_
            have hP9 : va_P (dC, dI) classes (WX h g ca iv lv (u2 fa 20 2 n5) (u2 (u2 la 20 0 n6) 20 1 n7)) H := hP
            have hD9 : va_D A (WX h g ca iv lv (u2 fa 20 2 n5) (u2 (u2 la 20 0 n6) 20 1 n7)) := hD
            exact W.zret (v := 1) hx hb hr rfl (fun t ht9 hW => ⟨⟨1, (iv, lv, (u2 fa 20 2 n5), (u2 (u2 la 20 0 n6) 20 1 n7)), rfl, ⟨n5, n6, n7, ⟨by decide, by decide⟩, rfl⟩, by rw [ht9]; exact hP9, hD9⟩, hS.F ht9⟩) hS.2.2 dX2_agreeWithout_84
    · have fc2 := z_nle (by decide : (100 : Int32).toInt = 100) (rfl : (a).toInt = _) c2
      refine lv_aload_n hx hb dX2_agreeWithout_24 rfl (lv_at hl 1 rfl) ?_
      refine lv_bipush (v := 6) hx hb dX2_agreeWithout_25 (by decide) ?_
      refine lv_iload_n hx hb dX2_agreeWithout_27 rfl (lv_at hl 2 rfl) ?_
      refine lv_bipush (v := 10) hx hb dX2_agreeWithout_28 (by decide) ?_
      refine lv_isub hx hb dX2_agreeWithout_30 ?_
      refine lv_topi (fun v13 ev13 => ?_)
      have tv13 := z_sub ev13 (rfl : (a).toInt = _) (by decide : (10 : Int32).toInt = 10) (by omega) (by omega)
      have hFc := free_all hD hS hA
      refine va_calli (va_runV (As := [.int 6, .int v13]) (rest := []) ⟨hx, hb, hml, hown, ht⟩ (c_X2_gatherWithout l dC dI s.heap.size h g ca iv lv fa la hI 6 v13 ⟨by decide, by decide⟩) (kV 2 ht m_878 m_880 m_31 m_85 m_881 rfl rfl hd_X2_gatherWithout_v ⟨Nat.le_of_ble_eq_true rfl, Nat.le_of_ble_eq_true rfl⟩) (vW hP hK hD (rX_2 hK hP)) rfl rfl hl.1 rfl (lv_room (Nat.le_of_ble_eq_true rfl)) dX2_agreeWithout_31 ⟨Nat.le_of_ble_eq_true rfl, Nat.le_of_ble_eq_true rfl⟩) hS (fun q _ h => hFc q h) hFc (fun r14 u t H1 locs ht9 hvm hr14 hB hz1 hk1 hS => ?_)
      obtain ⟨n15, n16, n17, hr14, rfl⟩ := hr14
      have hn15 : ∀ j, inb (bA 20 2 j) (n15 j) := fun j => full_i _
      obtain ⟨hP, hD⟩ := hB
      rw [ht9] at hP
      generalize H1 = H at hP hS ⊢
      have hP : va_P (dC, dI) classes (WX h g ca iv lv (u2 fa 20 2 n15) (u2 (u2 la 20 0 n16) 20 1 n17)) H := hP
      have hD : va_D A (WX h g ca iv lv (u2 fa 20 2 n15) (u2 (u2 la 20 0 n16) 20 1 n17)) := (show va_D _ (WX h g ca iv lv (u2 fa 20 2 n15) (u2 (u2 la 20 0 n16) 20 1 n17)) from hD).weaken (fun _ _ _ h => hFc _ h)
      refine lv_istore_n (lv' := [(2, .int r14), (3, .int 2), (0, .ref (g 11 6)), (1, .int a)]) hx hb dX2_agreeWithout_34 rfl hl (by decide) rfl (fun ls hl => ?_)
      refine lv_goto (tgt := 51) hx hb dX2_agreeWithout_35 (by decide) ?_
      refine lv_iload_n hx hb dX2_agreeWithout_51 rfl (lv_at hl 0 rfl) ?_
      refine lv_iload_n hx hb dX2_agreeWithout_52 rfl (lv_at hl 1 rfl) ?_
      refine lv_icmp_lt (tgt := 83) hx hb dX2_agreeWithout_53 (by decide) (fun c18 => ?_) (fun c18 => ?_)
      · have fc18 := z_lt (rfl : (r14).toInt = _) (by decide : (2 : Int32).toInt = 2) c18
        refine lv_iconst (v := 0) hx hb dX2_agreeWithout_83 (by decide) ?_
        have hP9 : va_P (dC, dI) classes (WX h g ca iv lv (u2 fa 20 2 n15) (u2 (u2 la 20 0 n16) 20 1 n17)) H := hP
        have hD9 : va_D A (WX h g ca iv lv (u2 fa 20 2 n15) (u2 (u2 la 20 0 n16) 20 1 n17)) := hD
        exact W.zret (v := 0) hx hb hr rfl (fun t ht9 hW => ⟨⟨0, (iv, lv, (u2 fa 20 2 n15), (u2 (u2 la 20 0 n16) 20 1 n17)), rfl, ⟨n15, n16, n17, ⟨by decide, by decide⟩, rfl⟩, by rw [ht9]; exact hP9, hD9⟩, hS.F ht9⟩) hS.2.2 dX2_agreeWithout_84
      · have fc18 := z_nlt (rfl : (r14).toInt = _) (by decide : (2 : Int32).toInt = 2) c18
        refine lv_aload_n hx hb dX2_agreeWithout_56 rfl (lv_at hl 2 rfl) ?_
        refine vp_callSi (W.runV (As := []) (rest := []) ⟨hx, hb, hml, hown, ht⟩ (c_X2_bothLeft l dC dI h g ca iv lv (u2 fa 20 2 n15) (u2 (u2 la 20 0 n16) 20 1 n17) (IX_a (c := 20) (k := 2) hI hn15)) (kV 0 ht m_895 m_897 m_34 m_85 m_898 rfl rfl hd_X2_bothLeft_v ⟨Nat.le_of_ble_eq_true rfl, Nat.le_of_ble_eq_true rfl⟩) (vR hP hK (rX_2 hK hP)) rfl rfl hl.1 rfl (lv_room (Nat.le_of_ble_eq_true rfl)) dX2_agreeWithout_57 ⟨Nat.le_of_ble_eq_true rfl, Nat.le_of_ble_eq_true rfl⟩) (fun r19 hr19 => ?_)
        refine lv_if_eq (tgt := 83) hx hb dX2_agreeWithout_60 (by decide) (fun c20 => ?_) (fun c20 => ?_)
        · have fc20 := z_eq (rfl : (r19).toInt = _) (by decide : (0 : Int32).toInt = 0) c20
          refine lv_iconst (v := 0) hx hb dX2_agreeWithout_83 (by decide) ?_
          have hP9 : va_P (dC, dI) classes (WX h g ca iv lv (u2 fa 20 2 n15) (u2 (u2 la 20 0 n16) 20 1 n17)) H := hP
          have hD9 : va_D A (WX h g ca iv lv (u2 fa 20 2 n15) (u2 (u2 la 20 0 n16) 20 1 n17)) := hD
          exact W.zret (v := 0) hx hb hr rfl (fun t ht9 hW => ⟨⟨0, (iv, lv, (u2 fa 20 2 n15), (u2 (u2 la 20 0 n16) 20 1 n17)), rfl, ⟨n15, n16, n17, ⟨by decide, by decide⟩, rfl⟩, by rw [ht9]; exact hP9, hD9⟩, hS.F ht9⟩) hS.2.2 dX2_agreeWithout_84
        · have fc20 := z_ne (rfl : (r19).toInt = _) (by decide : (0 : Int32).toInt = 0) c20
          refine lv_aload_n hx hb dX2_agreeWithout_63 rfl (lv_at hl 2 rfl) ?_
          refine gX_2_1 hx hb ht hown hK hP m_305 dX2_agreeWithout_64 ?_
          refine lv_iconst (v := 0) hx hb dX2_agreeWithout_67 (by decide) ?_
          refine lv_iconst (v := 1) hx hb dX2_agreeWithout_68 (by decide) ?_
          refine lv_aload_n hx hb dX2_agreeWithout_69 rfl (lv_at hl 2 rfl) ?_
          refine gX_2_5 hx hb ht hown hK hP m_309 (v := (iv 2 5)) rfl dX2_agreeWithout_70 ?_
          refine vp_callSi (W.runV (As := [.int 0, .int 1, .int (iv 2 5)]) (rest := []) ⟨hx, hb, hml, hown, ht⟩ (c_X7_differ_20 l dC dI h g ca iv lv (u2 fa 20 2 n15) (u2 (u2 la 20 0 n16) 20 1 n17) (IX_a (c := 20) (k := 2) hI hn15) 0 1 (iv 2 5) ⟨by decide, by decide⟩ ⟨by decide, by decide⟩) (kV 3 ht m_899 m_627 m_628 m_84 m_629 rfl rfl hd_X7_differ_v ⟨Nat.le_of_ble_eq_true rfl, Nat.le_of_ble_eq_true rfl⟩) (vR hP hK (rX_20 hK hP)) rfl rfl hl.1 rfl (lv_room (Nat.le_of_ble_eq_true rfl)) dX2_agreeWithout_73 ⟨Nat.le_of_ble_eq_true rfl, Nat.le_of_ble_eq_true rfl⟩) (fun r21 hr21 => ?_)
          refine lv_if_ne (tgt := 83) hx hb dX2_agreeWithout_76 (by decide) (fun c22 => ?_) (fun c22 => ?_)
          · have fc22 := z_ne (rfl : (r21).toInt = _) (by decide : (0 : Int32).toInt = 0) c22
            refine lv_iconst (v := 0) hx hb dX2_agreeWithout_83 (by decide) ?_
            have hP9 : va_P (dC, dI) classes (WX h g ca iv lv (u2 fa 20 2 n15) (u2 (u2 la 20 0 n16) 20 1 n17)) H := hP
            have hD9 : va_D A (WX h g ca iv lv (u2 fa 20 2 n15) (u2 (u2 la 20 0 n16) 20 1 n17)) := hD
            exact W.zret (v := 0) hx hb hr rfl (fun t ht9 hW => ⟨⟨0, (iv, lv, (u2 fa 20 2 n15), (u2 (u2 la 20 0 n16) 20 1 n17)), rfl, ⟨n15, n16, n17, ⟨by decide, by decide⟩, rfl⟩, by rw [ht9]; exact hP9, hD9⟩, hS.F ht9⟩) hS.2.2 dX2_agreeWithout_84
          · have fc22 := z_eq (rfl : (r21).toInt = _) (by decide : (0 : Int32).toInt = 0) c22
            refine lv_iconst (v := 1) hx hb dX2_agreeWithout_79 (by decide) ?_
            refine lv_goto (tgt := 84) hx hb dX2_agreeWithout_80 (by decide) ?_
            have hP9 : va_P (dC, dI) classes (WX h g ca iv lv (u2 fa 20 2 n15) (u2 (u2 la 20 0 n16) 20 1 n17)) H := hP
            have hD9 : va_D A (WX h g ca iv lv (u2 fa 20 2 n15) (u2 (u2 la 20 0 n16) 20 1 n17)) := hD
            exact W.zret (v := 1) hx hb hr rfl (fun t ht9 hW => ⟨⟨1, (iv, lv, (u2 fa 20 2 n15), (u2 (u2 la 20 0 n16) 20 1 n17)), rfl, ⟨n15, n16, n17, ⟨by decide, by decide⟩, rfl⟩, by rw [ht9]; exact hP9, hD9⟩, hS.F ht9⟩) hS.2.2 dX2_agreeWithout_84
  · have fc1 := z_nle (by decide : (10 : Int32).toInt = 10) (rfl : (a).toInt = _) c1
    refine lv_aload_n hx hb dX2_agreeWithout_8 rfl (lv_at hl 1 rfl) ?_
    refine lv_iconst (v := 5) hx hb dX2_agreeWithout_9 (by decide) ?_
    refine lv_iload_n hx hb dX2_agreeWithout_10 rfl (lv_at hl 2 rfl) ?_
    have hFc := free_all hD hS hA
    refine va_calli (va_runV (As := [.int 5, .int a]) (rest := []) ⟨hx, hb, hml, hown, ht⟩ (c_X2_gatherWithout l dC dI s.heap.size h g ca iv lv fa la hI 5 a ⟨by decide, by decide⟩) (kV 2 ht m_878 m_880 m_31 m_85 m_881 rfl rfl hd_X2_gatherWithout_v ⟨Nat.le_of_ble_eq_true rfl, Nat.le_of_ble_eq_true rfl⟩) (vW hP hK hD (rX_2 hK hP)) rfl rfl hl.1 rfl (lv_room (Nat.le_of_ble_eq_true rfl)) dX2_agreeWithout_11 ⟨Nat.le_of_ble_eq_true rfl, Nat.le_of_ble_eq_true rfl⟩) hS (fun q _ h => hFc q h) hFc (fun r23 u t H1 locs ht9 hvm hr23 hB hz1 hk1 hS => ?_)
    obtain ⟨n24, n25, n26, hr23, rfl⟩ := hr23
    have hn24 : ∀ j, inb (bA 20 2 j) (n24 j) := fun j => full_i _
    obtain ⟨hP, hD⟩ := hB
    rw [ht9] at hP
    generalize H1 = H at hP hS ⊢
    have hP : va_P (dC, dI) classes (WX h g ca iv lv (u2 fa 20 2 n24) (u2 (u2 la 20 0 n25) 20 1 n26)) H := hP
    have hD : va_D A (WX h g ca iv lv (u2 fa 20 2 n24) (u2 (u2 la 20 0 n25) 20 1 n26)) := (show va_D _ (WX h g ca iv lv (u2 fa 20 2 n24) (u2 (u2 la 20 0 n25) 20 1 n26)) from hD).weaken (fun _ _ _ h => hFc _ h)
    refine lv_istore_n (lv' := [(2, .int r23), (3, .int 2), (0, .ref (g 11 6)), (1, .int a)]) hx hb dX2_agreeWithout_14 rfl hl (by decide) rfl (fun ls hl => ?_)
    refine lv_goto (tgt := 51) hx hb dX2_agreeWithout_15 (by decide) ?_
    refine lv_iload_n hx hb dX2_agreeWithout_51 rfl (lv_at hl 0 rfl) ?_
    refine lv_iload_n hx hb dX2_agreeWithout_52 rfl (lv_at hl 1 rfl) ?_
    refine lv_icmp_lt (tgt := 83) hx hb dX2_agreeWithout_53 (by decide) (fun c27 => ?_) (fun c27 => ?_)
    · have fc27 := z_lt (rfl : (r23).toInt = _) (by decide : (2 : Int32).toInt = 2) c27
      refine lv_iconst (v := 0) hx hb dX2_agreeWithout_83 (by decide) ?_
      have hP9 : va_P (dC, dI) classes (WX h g ca iv lv (u2 fa 20 2 n24) (u2 (u2 la 20 0 n25) 20 1 n26)) H := hP
      have hD9 : va_D A (WX h g ca iv lv (u2 fa 20 2 n24) (u2 (u2 la 20 0 n25) 20 1 n26)) := hD
      exact W.zret (v := 0) hx hb hr rfl (fun t ht9 hW => ⟨⟨0, (iv, lv, (u2 fa 20 2 n24), (u2 (u2 la 20 0 n25) 20 1 n26)), rfl, ⟨n24, n25, n26, ⟨by decide, by decide⟩, rfl⟩, by rw [ht9]; exact hP9, hD9⟩, hS.F ht9⟩) hS.2.2 dX2_agreeWithout_84
    · have fc27 := z_nlt (rfl : (r23).toInt = _) (by decide : (2 : Int32).toInt = 2) c27
      refine lv_aload_n hx hb dX2_agreeWithout_56 rfl (lv_at hl 2 rfl) ?_
      refine vp_callSi (W.runV (As := []) (rest := []) ⟨hx, hb, hml, hown, ht⟩ (c_X2_bothLeft l dC dI h g ca iv lv (u2 fa 20 2 n24) (u2 (u2 la 20 0 n25) 20 1 n26) (IX_a (c := 20) (k := 2) hI hn24)) (kV 0 ht m_895 m_897 m_34 m_85 m_898 rfl rfl hd_X2_bothLeft_v ⟨Nat.le_of_ble_eq_true rfl, Nat.le_of_ble_eq_true rfl⟩) (vR hP hK (rX_2 hK hP)) rfl rfl hl.1 rfl (lv_room (Nat.le_of_ble_eq_true rfl)) dX2_agreeWithout_57 ⟨Nat.le_of_ble_eq_true rfl, Nat.le_of_ble_eq_true rfl⟩) (fun r28 hr28 => ?_)
      refine lv_if_eq (tgt := 83) hx hb dX2_agreeWithout_60 (by decide) (fun c29 => ?_) (fun c29 => ?_)
      · have fc29 := z_eq (rfl : (r28).toInt = _) (by decide : (0 : Int32).toInt = 0) c29
        refine lv_iconst (v := 0) hx hb dX2_agreeWithout_83 (by decide) ?_
        have hP9 : va_P (dC, dI) classes (WX h g ca iv lv (u2 fa 20 2 n24) (u2 (u2 la 20 0 n25) 20 1 n26)) H := hP
        have hD9 : va_D A (WX h g ca iv lv (u2 fa 20 2 n24) (u2 (u2 la 20 0 n25) 20 1 n26)) := hD
        exact W.zret (v := 0) hx hb hr rfl (fun t ht9 hW => ⟨⟨0, (iv, lv, (u2 fa 20 2 n24), (u2 (u2 la 20 0 n25) 20 1 n26)), rfl, ⟨n24, n25, n26, ⟨by decide, by decide⟩, rfl⟩, by rw [ht9]; exact hP9, hD9⟩, hS.F ht9⟩) hS.2.2 dX2_agreeWithout_84
      · have fc29 := z_ne (rfl : (r28).toInt = _) (by decide : (0 : Int32).toInt = 0) c29
        refine lv_aload_n hx hb dX2_agreeWithout_63 rfl (lv_at hl 2 rfl) ?_
        refine gX_2_1 hx hb ht hown hK hP m_305 dX2_agreeWithout_64 ?_
        refine lv_iconst (v := 0) hx hb dX2_agreeWithout_67 (by decide) ?_
        refine lv_iconst (v := 1) hx hb dX2_agreeWithout_68 (by decide) ?_
        refine lv_aload_n hx hb dX2_agreeWithout_69 rfl (lv_at hl 2 rfl) ?_
        refine gX_2_5 hx hb ht hown hK hP m_309 (v := (iv 2 5)) rfl dX2_agreeWithout_70 ?_
        refine vp_callSi (W.runV (As := [.int 0, .int 1, .int (iv 2 5)]) (rest := []) ⟨hx, hb, hml, hown, ht⟩ (c_X7_differ_20 l dC dI h g ca iv lv (u2 fa 20 2 n24) (u2 (u2 la 20 0 n25) 20 1 n26) (IX_a (c := 20) (k := 2) hI hn24) 0 1 (iv 2 5) ⟨by decide, by decide⟩ ⟨by decide, by decide⟩) (kV 3 ht m_899 m_627 m_628 m_84 m_629 rfl rfl hd_X7_differ_v ⟨Nat.le_of_ble_eq_true rfl, Nat.le_of_ble_eq_true rfl⟩) (vR hP hK (rX_20 hK hP)) rfl rfl hl.1 rfl (lv_room (Nat.le_of_ble_eq_true rfl)) dX2_agreeWithout_73 ⟨Nat.le_of_ble_eq_true rfl, Nat.le_of_ble_eq_true rfl⟩) (fun r30 hr30 => ?_)
        refine lv_if_ne (tgt := 83) hx hb dX2_agreeWithout_76 (by decide) (fun c31 => ?_) (fun c31 => ?_)
        · have fc31 := z_ne (rfl : (r30).toInt = _) (by decide : (0 : Int32).toInt = 0) c31
          refine lv_iconst (v := 0) hx hb dX2_agreeWithout_83 (by decide) ?_
          have hP9 : va_P (dC, dI) classes (WX h g ca iv lv (u2 fa 20 2 n24) (u2 (u2 la 20 0 n25) 20 1 n26)) H := hP
          have hD9 : va_D A (WX h g ca iv lv (u2 fa 20 2 n24) (u2 (u2 la 20 0 n25) 20 1 n26)) := hD
          exact W.zret (v := 0) hx hb hr rfl (fun t ht9 hW => ⟨⟨0, (iv, lv, (u2 fa 20 2 n24), (u2 (u2 la 20 0 n25) 20 1 n26)), rfl, ⟨n24, n25, n26, ⟨by decide, by decide⟩, rfl⟩, by rw [ht9]; exact hP9, hD9⟩, hS.F ht9⟩) hS.2.2 dX2_agreeWithout_84
        · have fc31 := z_eq (rfl : (r30).toInt = _) (by decide : (0 : Int32).toInt = 0) c31
          refine lv_iconst (v := 1) hx hb dX2_agreeWithout_79 (by decide) ?_
          refine lv_goto (tgt := 84) hx hb dX2_agreeWithout_80 (by decide) ?_
          have hP9 : va_P (dC, dI) classes (WX h g ca iv lv (u2 fa 20 2 n24) (u2 (u2 la 20 0 n25) 20 1 n26)) H := hP
          have hD9 : va_D A (WX h g ca iv lv (u2 fa 20 2 n24) (u2 (u2 la 20 0 n25) 20 1 n26)) := hD
          exact W.zret (v := 1) hx hb hr rfl (fun t ht9 hW => ⟨⟨1, (iv, lv, (u2 fa 20 2 n24), (u2 (u2 la 20 0 n25) 20 1 n26)), rfl, ⟨n24, n25, n26, ⟨by decide, by decide⟩, rfl⟩, by rw [ht9]; exact hP9, hD9⟩, hS.F ht9⟩) hS.2.2 dX2_agreeWithout_84
set_option maxHeartbeats 4000000 in
set_option maxRecDepth 100000 in
/-- X2_culprit -/
theorem c_X2_culprit (l : Launch) (dC : Nat → ClassId) (dI : Nat → Nat → Nat) (sz : Nat) (ak av : Nat → Nat) (h : Nat) (g : Nat → Nat → Nat) (ca : Nat → Nat → ClassId) (iv : Nat → Nat → Int32) (lv : Nat → Nat → Int64) (fa : Nat → Nat → Nat → Int32) (la : Nat → Nat → Nat → Int64) (hI : IX iv fa) (a : Int32) : Met l yX2_culprit (wc yX2_culprit cX2_culprit 4 (some .int)) ({ frames := 5, cells := 0, slots := 0, locals := 114 } : Room) (pWZ ak av (dC, dI) classes (WX h g ca iv lv fa la) (TX ca) sz [.ref (g 11 6), .int a]) (va_Qi (fun r (u : SS) => ∃ (na_20_2 : Nat → Int32) (nb_20_0 : Nat → Int64) (nb_20_1 : Nat → Int64), (True) ∧ u = (iv, lv, (u2 fa 20 2 na_20_2), (u2 (u2 la 20 0 nb_20_0) 20 1 nb_20_1))) (bX (dC, dI) h g ca (va_A (WX h g ca iv lv fa la) sz)) (va_A (WX h g ca iv lv fa la) sz)) 0 0 (va_A (WX h g ca iv lv fa la) sz) := by
  refine Met.ofW (cc := cX2_culprit) (maxL := 4) (ret := (some .int)) (by decide) rfl ?_
  intro p e s m args below meth c s₁ B hml hv
  obtain ⟨rfl, hsz, hP, hK, hD0, hZ⟩ := hv
  have hx := B.exec
  have hb := B.bytes
  have hr := B.returns
  have ht := tb_tl (atoms_spec (ws := wc yX2_culprit cX2_culprit 4 (some .int)) B.pre)
  have hown : s.vm.findClass RX2 = some m.cls := findClass_of_methodNamed B.named
  have hlocks := B.notSynchronized
  subst hsz
  have hD := hD0.self (sz := s.heap.size)
  generalize hAe : va_A (WX h g ca iv lv fa la) s.heap.size = A at hD hZ ⊢
  have hA : ∀ q : Nat, s.heap.size ≤ q → A q := fun q h => by rw [← hAe]; exact Or.inr h
  have hS : va_S A s.heap s.heap [] := va_S.rf
  have hl := lv_entry [.ref (g 11 6), .int a] (n := 4) (Nat.le_of_ble_eq_true rfl)
  rw [lg_entry_eq]
  generalize (lg_sl [.ref (g 11 6), .int a] ++ List.replicate (4 - (lg_sl [.ref (g 11 6), .int a]).length) Slot.unset).toArray = ls at hl ⊢
  have hl : lv_has ls 4 [(0, .ref (g 11 6)), (1, .int a)] := hl
  refine lv_iconst (v := 0) hx hb dX2_culprit_0 (by decide) ?_
  refine lv_istore_n (lv' := [(2, .int 0), (0, .ref (g 11 6)), (1, .int a)]) hx hb dX2_culprit_1 rfl hl (by decide) rfl (fun ls hl => ?_)
  refine lv_iconst (v := 0) hx hb dX2_culprit_2 (by decide) ?_
  refine lv_istore_n (lv' := [(3, .int 0), (2, .int 0), (0, .ref (g 11 6)), (1, .int a)]) hx hb dX2_culprit_3 rfl hl (by decide) rfl (fun ls hl => ?_)
  have lp807 : ∀ (nn807 : Nat) (x806_3 : Int32) (x806_2 : Int32) (w806_a_20_2 : Nat → Int32) (w806_b_20_0 : Nat → Int64) (w806_b_20_1 : Nat → Int64), 0 ≤ x806_3.toInt ∧ x806_3.toInt ≤ 199 → (∀ j, inb (bA 20 2 j) (w806_a_20_2 j)) → 199 - x806_3.toInt < (nn807 : Int) → ∀ (H : Heap) (locs : List Loc), ∀ (ls : Array Slot), va_P (dC, dI) classes (WX h g ca iv lv (u2 fa 20 2 w806_a_20_2) (u2 (u2 la 20 0 w806_b_20_0) 20 1 w806_b_20_1)) H → va_D A (WX h g ca iv lv (u2 fa 20 2 w806_a_20_2) (u2 (u2 la 20 0 w806_b_20_0) 20 1 w806_b_20_1)) → va_S A s.heap H locs → lv_has ls 4 [(3, .int x806_3), (2, .int x806_2), (0, .ref (g 11 6)), (1, .int a)] → W p l e ({ frames := 5, cells := 0, slots := 0, locals := 114 } : Room) s m ([.ref (g 11 6), .int a] : List Value).toArray below meth c H locs 0 0 (MQ below (va_Qi (fun r (u : SS) => ∃ (na_20_2 : Nat → Int32) (nb_20_0 : Nat → Int64) (nb_20_1 : Nat → Int64), (True) ∧ u = (iv, lv, (u2 fa 20 2 na_20_2), (u2 (u2 la 20 0 nb_20_0) 20 1 nb_20_1))) (bX (dC, dI) h g ca A) A) ([.ref (g 11 6), .int a] : List Value).toArray s 0 0 A) (F0 m 4 ls []) := by
    intro nn807
    induction nn807 with
    | zero => intro x806_3 x806_2 w806_a_20_2 w806_b_20_0 w806_b_20_1 hx806_3 hw806_a_20_2 hm807; exfalso; omega
    | succ nn807 ih807 =>
      intro x806_3 x806_2 w806_a_20_2 w806_b_20_0 w806_b_20_1 hx806_3 hw806_a_20_2 hm807 H locs ls hP hD hS hl
      refine lv_iload_n hx hb dX2_culprit_4 rfl (lv_at hl 0 rfl) ?_
      refine lv_bipush (v := 100) hx hb dX2_culprit_5 (by decide) ?_
      refine lv_aload_n hx hb dX2_culprit_7 rfl (lv_at hl 2 rfl) ?_
      refine gX_2_0 hx hb ht hown hK hP m_304 dX2_culprit_8 ?_
      have i_10_1 : 0 ≤ (iv 10 1).toInt ∧ (iv 10 1).toInt ≤ 60 := hI.1 10 1
      refine gX_10_1 hx hb ht hown hK hP m_115 (v := (iv 10 1)) rfl dX2_culprit_11 ?_
      refine lv_iadd hx hb dX2_culprit_14 ?_
      refine lv_topi (fun v808 ev808 => ?_)
      have tv808 := z_add ev808 (by decide : (100 : Int32).toInt = 100) (rfl : ((iv 10 1)).toInt = _) (by omega) (by omega)
      refine lv_icmp_ge (tgt := 50) hx hb dX2_culprit_15 (by decide) (fun c809 => ?_) (fun c809 => ?_)
      · have fc809 := z_le (rfl : (v808).toInt = _) (rfl : (x806_3).toInt = _) c809
        refine lv_iload_n hx hb dX2_culprit_50 rfl (lv_at hl 3 rfl) ?_
        refine lv_iconst (v := (-1)) hx hb dX2_culprit_51 (by decide) ?_
        refine lv_icmp_ne (tgt := 59) hx hb dX2_culprit_52 (by decide) (fun c810 => ?_) (fun c810 => ?_)
        · have fc810 := z_ne (rfl : (a).toInt = _) (by decide : ((-1) : Int32).toInt = (-1)) c810
          refine lv_iconst (v := (-1)) hx hb dX2_culprit_59 (by decide) ?_
          have hP9 : va_P (dC, dI) classes (WX h g ca iv lv (u2 fa 20 2 w806_a_20_2) (u2 (u2 la 20 0 w806_b_20_0) 20 1 w806_b_20_1)) H := hP
          have hD9 : va_D A (WX h g ca iv lv (u2 fa 20 2 w806_a_20_2) (u2 (u2 la 20 0 w806_b_20_0) 20 1 w806_b_20_1)) := hD
          exact W.iret (v := (-1)) hx hb hr (fun t ht9 hW => ⟨⟨(-1), (iv, lv, (u2 fa 20 2 w806_a_20_2), (u2 (u2 la 20 0 w806_b_20_0) 20 1 w806_b_20_1)), rfl, ⟨w806_a_20_2, w806_b_20_0, w806_b_20_1, trivial, rfl⟩, by rw [ht9]; exact hP9, hD9⟩, hS.F ht9⟩) hS.2.2 dX2_culprit_60
        · have fc810 := z_eq (rfl : (a).toInt = _) (by decide : ((-1) : Int32).toInt = (-1)) c810
          refine lv_iload_n hx hb dX2_culprit_55 rfl (lv_at hl 1 rfl) ?_
          refine lv_goto (tgt := 60) hx hb dX2_culprit_56 (by decide) ?_
          have hP9 : va_P (dC, dI) classes (WX h g ca iv lv (u2 fa 20 2 w806_a_20_2) (u2 (u2 la 20 0 w806_b_20_0) 20 1 w806_b_20_1)) H := hP
          have hD9 : va_D A (WX h g ca iv lv (u2 fa 20 2 w806_a_20_2) (u2 (u2 la 20 0 w806_b_20_0) 20 1 w806_b_20_1)) := hD
          exact W.iret (v := x806_2) hx hb hr (fun t ht9 hW => ⟨⟨x806_2, (iv, lv, (u2 fa 20 2 w806_a_20_2), (u2 (u2 la 20 0 w806_b_20_0) 20 1 w806_b_20_1)), rfl, ⟨w806_a_20_2, w806_b_20_0, w806_b_20_1, trivial, rfl⟩, by rw [ht9]; exact hP9, hD9⟩, hS.F ht9⟩) hS.2.2 dX2_culprit_60
      · have fc809 := z_nle (rfl : (v808).toInt = _) (rfl : (x806_3).toInt = _) c809
        refine lv_aload_n hx hb dX2_culprit_18 rfl (lv_at hl 2 rfl) ?_
        refine lv_iload_n hx hb dX2_culprit_19 rfl (lv_at hl 0 rfl) ?_
        refine vp_callSi (W.runV (As := [.int x806_3]) (rest := []) ⟨hx, hb, hml, hown, ht⟩ (c_X2_isSuspect l dC dI ak av h g ca iv lv (u2 fa 20 2 w806_a_20_2) (u2 (u2 la 20 0 w806_b_20_0) 20 1 w806_b_20_1) (IX_a (c := 20) (k := 2) hI hw806_a_20_2) x806_3 ⟨by omega, by omega⟩) (kV 1 ht m_904 m_906 m_35 m_85 m_907 rfl rfl hd_X2_isSuspect_v ⟨Nat.le_of_ble_eq_true rfl, Nat.le_of_ble_eq_true rfl⟩) (vRZ hP hK ((hZ.kept hS.2.1).narrow (fun _ h => h.elim)) (rX_2 hK hP)) rfl rfl hl.1 rfl (lv_room (Nat.le_of_ble_eq_true rfl)) dX2_culprit_20 ⟨Nat.le_of_ble_eq_true rfl, Nat.le_of_ble_eq_true rfl⟩) (fun r811 hr811 => ?_)
        refine lv_if_eq (tgt := 44) hx hb dX2_culprit_23 (by decide) (fun c812 => ?_) (fun c812 => ?_)
        · have fc812 := z_eq (rfl : (r811).toInt = _) (by decide : (0 : Int32).toInt = 0) c812
          obtain ⟨v813, ev813⟩ : ∃ y : Int32, y = x806_3 + 1 := ⟨_, rfl⟩
          have tv813 := z_add ev813 rfl (by decide : (1 : Int32).toInt = 1) (by omega) (by omega)
          refine lv_iinc (v := v813) (lv' := [(3, .int v813), (2, .int x806_2), (0, .ref (g 11 6)), (1, .int a)]) hx hb dX2_culprit_44 hl (k := 0) rfl (by rw [ev813]; rfl) (by decide) rfl (fun ls hl => ?_)
          refine lv_goto (tgt := 4) hx hb dX2_culprit_47 (by decide) ?_
          exact ih807 v813 x806_2 w806_a_20_2 w806_b_20_0 w806_b_20_1 ⟨by omega, by omega⟩ hw806_a_20_2 (by omega) _ _ ls hP hD hS (lv_sub hl [0, 1, 2, 3] rfl)
        · have fc812 := z_ne (rfl : (r811).toInt = _) (by decide : (0 : Int32).toInt = 0) c812
          refine lv_aload_n hx hb dX2_culprit_26 rfl (lv_at hl 2 rfl) ?_
          refine lv_iload_n hx hb dX2_culprit_27 rfl (lv_at hl 0 rfl) ?_
          have hFc := free_all hD hS hA
          refine va_calli (va_runV (As := [.int x806_3]) (rest := []) ⟨hx, hb, hml, hown, ht⟩ (c_X2_agreeWithout l dC dI H.size h g ca iv lv (u2 fa 20 2 w806_a_20_2) (u2 (u2 la 20 0 w806_b_20_0) 20 1 w806_b_20_1) (IX_a (c := 20) (k := 2) hI hw806_a_20_2) x806_3 ⟨by omega, by omega⟩) (kV 1 ht m_909 m_911 m_36 m_85 m_912 rfl rfl hd_X2_agreeWithout_v ⟨Nat.le_of_ble_eq_true rfl, Nat.le_of_ble_eq_true rfl⟩) (vW hP hK hD (rX_2 hK hP)) rfl rfl hl.1 rfl (lv_room (Nat.le_of_ble_eq_true rfl)) dX2_culprit_28 ⟨Nat.le_of_ble_eq_true rfl, Nat.le_of_ble_eq_true rfl⟩) hS (fun q _ h => hFc q h) hFc (fun r814 u t H1 locs ht9 hvm hr814 hB hz1 hk1 hS => ?_)
          obtain ⟨n815, n816, n817, hr814, rfl⟩ := hr814
          have hn815 : ∀ j, inb (bA 20 2 j) (n815 j) := fun j => full_i _
          obtain ⟨hP, hD⟩ := hB
          rw [ht9] at hP
          generalize H1 = H at hP hS ⊢
          have hP : va_P (dC, dI) classes (WX h g ca iv lv (u2 fa 20 2 n815) (u2 (u2 la 20 0 n816) 20 1 n817)) H := hP
          have hD : va_D A (WX h g ca iv lv (u2 fa 20 2 n815) (u2 (u2 la 20 0 n816) 20 1 n817)) := (show va_D _ (WX h g ca iv lv (u2 fa 20 2 n815) (u2 (u2 la 20 0 n816) 20 1 n817)) from hD).weaken (fun _ _ _ h => hFc _ h)
          refine lv_if_eq (tgt := 44) hx hb dX2_culprit_31 (by decide) (fun c818 => ?_) (fun c818 => ?_)
          · have fc818 := z_eq (rfl : (r814).toInt = _) (by decide : (0 : Int32).toInt = 0) c818
            obtain ⟨v819, ev819⟩ : ∃ y : Int32, y = x806_3 + 1 := ⟨_, rfl⟩
            have tv819 := z_add ev819 rfl (by decide : (1 : Int32).toInt = 1) (by omega) (by omega)
            refine lv_iinc (v := v819) (lv' := [(3, .int v819), (2, .int x806_2), (0, .ref (g 11 6)), (1, .int a)]) hx hb dX2_culprit_44 hl (k := 0) rfl (by rw [ev819]; rfl) (by decide) rfl (fun ls hl => ?_)
            refine lv_goto (tgt := 4) hx hb dX2_culprit_47 (by decide) ?_
            exact ih807 v819 x806_2 n815 n816 n817 ⟨by omega, by omega⟩ hn815 (by omega) _ _ ls hP hD hS (lv_sub hl [0, 1, 2, 3] rfl)
          · have fc818 := z_ne (rfl : (r814).toInt = _) (by decide : (0 : Int32).toInt = 0) c818
            refine lv_iload_n hx hb dX2_culprit_34 rfl (lv_at hl 1 rfl) ?_
            refine lv_iload_n hx hb dX2_culprit_35 rfl (lv_at hl 3 rfl) ?_
            refine lv_icmp_ne (tgt := 41) hx hb dX2_culprit_36 (by decide) (fun c820 => ?_) (fun c820 => ?_)
            · have fc820 := z_ne (rfl : (x806_2).toInt = _) (rfl : (a).toInt = _) c820
              obtain ⟨v821, ev821⟩ : ∃ y : Int32, y = x806_2 + 1 := ⟨_, rfl⟩
              refine lv_iinc (v := v821) (lv' := [(2, .int v821), (3, .int x806_3), (0, .ref (g 11 6)), (1, .int a)]) hx hb dX2_culprit_41 hl (k := 1) rfl (by rw [ev821]; rfl) (by decide) rfl (fun ls hl => ?_)
              obtain ⟨v822, ev822⟩ : ∃ y : Int32, y = x806_3 + 1 := ⟨_, rfl⟩
              have tv822 := z_add ev822 rfl (by decide : (1 : Int32).toInt = 1) (by omega) (by omega)
              refine lv_iinc (v := v822) (lv' := [(3, .int v822), (2, .int v821), (0, .ref (g 11 6)), (1, .int a)]) hx hb dX2_culprit_44 hl (k := 1) rfl (by rw [ev822]; rfl) (by decide) rfl (fun ls hl => ?_)
              refine lv_goto (tgt := 4) hx hb dX2_culprit_47 (by decide) ?_
              exact ih807 v822 v821 n815 n816 n817 ⟨by omega, by omega⟩ hn815 (by omega) _ _ ls hP hD hS (lv_sub hl [0, 1, 2, 3] rfl)
            · have fc820 := z_eq (rfl : (x806_2).toInt = _) (rfl : (a).toInt = _) c820
              refine lv_iload_n hx hb dX2_culprit_39 rfl (lv_at hl 0 rfl) ?_
              have hP9 : va_P (dC, dI) classes (WX h g ca iv lv (u2 fa 20 2 n815) (u2 (u2 la 20 0 n816) 20 1 n817)) H := hP
              have hD9 : va_D A (WX h g ca iv lv (u2 fa 20 2 n815) (u2 (u2 la 20 0 n816) 20 1 n817)) := hD
              exact W.iret (v := x806_3) hx hb hr (fun t ht9 hW => ⟨⟨x806_3, (iv, lv, (u2 fa 20 2 n815), (u2 (u2 la 20 0 n816) 20 1 n817)), rfl, ⟨n815, n816, n817, trivial, rfl⟩, by rw [ht9]; exact hP9, hD9⟩, hS.F ht9⟩) hS.2.2 dX2_culprit_40
  exact lp807 200 0 0 (fa 20 2) (la 20 0) (la 20 1) ⟨by decide, by decide⟩ (hI.2 20 2) (by first | decide | omega) _ _ ls hP hD hS (lv_sub hl [0, 1, 2, 3] rfl)
set_option maxHeartbeats 4000000 in
set_option maxRecDepth 100000 in
/-- X2_takeSome -/
theorem c_X2_takeSome_0 (l : Launch) (dC : Nat → ClassId) (dI : Nat → Nat → Nat) (sz : Nat) (h : Nat) (g : Nat → Nat → Nat) (ca : Nat → Nat → ClassId) (iv : Nat → Nat → Int32) (lv : Nat → Nat → Int64) (fa : Nat → Nat → Nat → Int32) (la : Nat → Nat → Nat → Int64) (hI : IX iv fa) (k : Int32) (n : Int32) (h_k : 0 ≤ k.toInt ∧ k.toInt ≤ 12) (h_n : 0 ≤ n.toInt ∧ n.toInt ≤ 12) : Met l yX2_takeSome (wc yX2_takeSome cX2_takeSome 6 none) ({ frames := 2, cells := 0, slots := 0, locals := 63 } : Room) (pW (dC, dI) classes (WX h g ca iv lv fa la) (TX ca) sz [.ref (g 11 6), .int 0, .int k, .int n]) (va_Qv (fun (u : SS) => ∃ (ni_2_6 : Int32) (ni_2_7 : Int32), u = ((u2 (u2 iv 2 6 ni_2_6) 2 7 ni_2_7), lv, fa, la)) (bX (dC, dI) h g ca (va_A (WX h g ca iv lv fa la) sz)) (va_A (WX h g ca iv lv fa la) sz)) 0 0 (va_A (WX h g ca iv lv fa la) sz) := by
  refine Met.ofW (cc := cX2_takeSome) (maxL := 6) (ret := none) (by decide) rfl ?_
  intro p e s m args below meth c s₁ B hml hv
  obtain ⟨rfl, hsz, hP, hK, hD0⟩ := hv
  have hx := B.exec
  have hb := B.bytes
  have hr := B.returns
  have ht := tb_tl (atoms_spec (ws := wc yX2_takeSome cX2_takeSome 6 none) B.pre)
  have hown : s.vm.findClass RX2 = some m.cls := findClass_of_methodNamed B.named
  have hlocks := B.notSynchronized
  subst hsz
  have hD := hD0.self (sz := s.heap.size)
  generalize hAe : va_A (WX h g ca iv lv fa la) s.heap.size = A at hD ⊢
  have hA : ∀ q : Nat, s.heap.size ≤ q → A q := fun q h => by rw [← hAe]; exact Or.inr h
  have hS : va_S A s.heap s.heap [] := va_S.rf
  have hl := lv_entry [.ref (g 11 6), .int 0, .int k, .int n] (n := 6) (Nat.le_of_ble_eq_true rfl)
  rw [lg_entry_eq]
  generalize (lg_sl [.ref (g 11 6), .int 0, .int k, .int n] ++ List.replicate (6 - (lg_sl [.ref (g 11 6), .int 0, .int k, .int n]).length) Slot.unset).toArray = ls at hl ⊢
  have hl : lv_has ls 6 [(0, .ref (g 11 6)), (1, .int 0), (2, .int k), (3, .int n)] := hl
  refine lv_iload_n hx hb dX2_takeSome_0 rfl (lv_at hl 1 rfl) ?_
  refine lv_if_gt (tgt := 41) hx hb dX2_takeSome_1 (by decide) (fun c1 => ?_) (fun c1 => ?_)
  · exact absurd c1 (by decide)
  · skip
    refine lv_aload_n hx hb dX2_takeSome_4 rfl (lv_at hl 0 rfl) ?_
    refine lv_dup hx hb dX2_takeSome_5 rfl ?_
    refine gX_2_6 hx hb ht hown hK hP m_310 (v := (iv 2 6)) rfl dX2_takeSome_6 ?_
    refine lv_iconst (v := 1) hx hb dX2_takeSome_9 (by decide) ?_
    refine lv_iadd hx hb dX2_takeSome_10 ?_
    refine lv_topi (fun v2 ev2 => ?_)
    refine pX_2_6 (v := v2) hx hb ht hown hK hP hD hS m_310 dX2_takeSome_11 (fun H locs hP hD hS => ?_)
    refine lv_aload_n hx hb dX2_takeSome_14 rfl (lv_at hl 0 rfl) ?_
    refine gX_2_1 hx hb ht hown hK hP m_305 dX2_takeSome_15 ?_
    refine lv_iconst (v := 0) hx hb dX2_takeSome_18 (by decide) ?_
    refine lv_iconst (v := 1) hx hb dX2_takeSome_19 (by decide) ?_
    refine lv_aload_n hx hb dX2_takeSome_20 rfl (lv_at hl 0 rfl) ?_
    refine gX_2_5 hx hb ht hown hK hP m_309 (v := (iv 2 5)) rfl dX2_takeSome_21 ?_
    refine vp_callSi (W.runV (As := [.int 0, .int 1, .int (iv 2 5)]) (rest := []) ⟨hx, hb, hml, hown, ht⟩ (c_X7_differ_20 l dC dI h g ca (u2 iv 2 6 v2) lv fa la (IX_i (c := 2) (k := 6) hI (full_i _)) 0 1 (iv 2 5) ⟨by decide, by decide⟩ ⟨by decide, by decide⟩) (kV 3 ht m_899 m_627 m_628 m_84 m_629 rfl rfl hd_X7_differ_v ⟨Nat.le_of_ble_eq_true rfl, Nat.le_of_ble_eq_true rfl⟩) (vR hP hK (rX_20 hK hP)) rfl rfl hl.1 rfl (lv_room (Nat.le_of_ble_eq_true rfl)) dX2_takeSome_24 ⟨Nat.le_of_ble_eq_true rfl, Nat.le_of_ble_eq_true rfl⟩) (fun r3 hr3 => ?_)
    refine lv_if_eq (tgt := 40) hx hb dX2_takeSome_27 (by decide) (fun c4 => ?_) (fun c4 => ?_)
    · have fc4 := z_eq (rfl : (r3).toInt = _) (by decide : (0 : Int32).toInt = 0) c4
      have hP9 : va_P (dC, dI) classes (WX h g ca (u2 (u2 iv 2 6 v2) 2 7 (iv 2 7)) lv fa la) H := hP
      have hD9 : va_D A (WX h g ca (u2 (u2 iv 2 6 v2) 2 7 (iv 2 7)) lv fa la) := hD
      exact W.vret hx hb hr (fun t ht9 hW => ⟨⟨((u2 (u2 iv 2 6 v2) 2 7 (iv 2 7)), lv, fa, la), rfl, ⟨v2, (iv 2 7), rfl⟩, by rw [ht9]; exact hP9, hD9⟩, hS.F ht9⟩) hS.2.2 dX2_takeSome_40
    · have fc4 := z_ne (rfl : (r3).toInt = _) (by decide : (0 : Int32).toInt = 0) c4
      refine lv_aload_n hx hb dX2_takeSome_30 rfl (lv_at hl 0 rfl) ?_
      refine lv_dup hx hb dX2_takeSome_31 rfl ?_
      refine gX_2_7 hx hb ht hown hK hP m_311 (v := (iv 2 7)) rfl dX2_takeSome_32 ?_
      refine lv_iconst (v := 1) hx hb dX2_takeSome_35 (by decide) ?_
      refine lv_iadd hx hb dX2_takeSome_36 ?_
      refine lv_topi (fun v5 ev5 => ?_)
      refine pX_2_7 (v := v5) hx hb ht hown hK hP hD hS m_311 dX2_takeSome_37 (fun H locs hP hD hS => ?_)
      have hP9 : va_P (dC, dI) classes (WX h g ca (u2 (u2 iv 2 6 v2) 2 7 v5) lv fa la) H := hP
      have hD9 : va_D A (WX h g ca (u2 (u2 iv 2 6 v2) 2 7 v5) lv fa la) := hD
      exact W.vret hx hb hr (fun t ht9 hW => ⟨⟨((u2 (u2 iv 2 6 v2) 2 7 v5), lv, fa, la), rfl, ⟨v2, v5, rfl⟩, by rw [ht9]; exact hP9, hD9⟩, hS.F ht9⟩) hS.2.2 dX2_takeSome_40
set_option maxHeartbeats 4000000 in
set_option maxRecDepth 100000 in
/-- X2_takeSome -/
theorem c_X2_takeSome_1 (l : Launch) (dC : Nat → ClassId) (dI : Nat → Nat → Nat) (sz : Nat) (h : Nat) (g : Nat → Nat → Nat) (ca : Nat → Nat → ClassId) (iv : Nat → Nat → Int32) (lv : Nat → Nat → Int64) (fa : Nat → Nat → Nat → Int32) (la : Nat → Nat → Nat → Int64) (hI : IX iv fa) (k : Int32) (n : Int32) (h_k : 0 ≤ k.toInt ∧ k.toInt ≤ 12) (h_n : 0 ≤ n.toInt ∧ n.toInt ≤ 12) : Met l yX2_takeSome (wc yX2_takeSome cX2_takeSome 6 none) ({ frames := 3, cells := 0, slots := 0, locals := 88 } : Room) (pW (dC, dI) classes (WX h g ca iv lv fa la) (TX ca) sz [.ref (g 11 6), .int 1, .int k, .int n]) (va_Qv (fun (u : SS) => ∃ (na_20_2 : Nat → Int32) (nb_20_0 : Nat → Int64) (nb_20_1 : Nat → Int64) (ni_2_6 : Int32) (ni_2_7 : Int32), u = ((u2 (u2 iv 2 6 ni_2_6) 2 7 ni_2_7), lv, (u2 fa 20 2 na_20_2), (u2 (u2 la 20 0 nb_20_0) 20 1 nb_20_1))) (bX (dC, dI) h g ca (va_A (WX h g ca iv lv fa la) sz)) (va_A (WX h g ca iv lv fa la) sz)) 0 0 (va_A (WX h g ca iv lv fa la) sz) := by
  refine Met.ofW (cc := cX2_takeSome) (maxL := 6) (ret := none) (by decide) rfl ?_
  intro p e s m args below meth c s₁ B hml hv
  obtain ⟨rfl, hsz, hP, hK, hD0⟩ := hv
  have hx := B.exec
  have hb := B.bytes
  have hr := B.returns
  have ht := tb_tl (atoms_spec (ws := wc yX2_takeSome cX2_takeSome 6 none) B.pre)
  have hown : s.vm.findClass RX2 = some m.cls := findClass_of_methodNamed B.named
  have hlocks := B.notSynchronized
  subst hsz
  have hD := hD0.self (sz := s.heap.size)
  generalize hAe : va_A (WX h g ca iv lv fa la) s.heap.size = A at hD ⊢
  have hA : ∀ q : Nat, s.heap.size ≤ q → A q := fun q h => by rw [← hAe]; exact Or.inr h
  have hS : va_S A s.heap s.heap [] := va_S.rf
  have hl := lv_entry [.ref (g 11 6), .int 1, .int k, .int n] (n := 6) (Nat.le_of_ble_eq_true rfl)
  rw [lg_entry_eq]
  generalize (lg_sl [.ref (g 11 6), .int 1, .int k, .int n] ++ List.replicate (6 - (lg_sl [.ref (g 11 6), .int 1, .int k, .int n]).length) Slot.unset).toArray = ls at hl ⊢
  have hl : lv_has ls 6 [(0, .ref (g 11 6)), (1, .int 1), (2, .int k), (3, .int n)] := hl
  refine lv_iload_n hx hb dX2_takeSome_0 rfl (lv_at hl 1 rfl) ?_
  refine lv_if_gt (tgt := 41) hx hb dX2_takeSome_1 (by decide) (fun c1 => ?_) (fun c1 => ?_)
  · skip
    refine lv_iload_n hx hb dX2_takeSome_41 rfl (lv_at hl 2 rfl) ?_
    refine lv_istore (lv' := [(4, .int k), (0, .ref (g 11 6)), (1, .int 1), (2, .int k), (3, .int n)]) hx hb dX2_takeSome_42 hl (by decide) rfl (fun ls hl => ?_)
    have lp43 : ∀ (nn43 : Nat) (x42_4 : Int32) (w42_i_2_6 : Int32) (w42_i_2_7 : Int32) (w42_a_20_2 : Nat → Int32) (w42_b_20_0 : Nat → Int64) (w42_b_20_1 : Nat → Int64), 0 ≤ x42_4.toInt ∧ x42_4.toInt ≤ 12 → (∀ j, inb (bA 20 2 j) (w42_a_20_2 j)) → 12 - x42_4.toInt < (nn43 : Int) → ∀ (H : Heap) (locs : List Loc), ∀ (ls : Array Slot), va_P (dC, dI) classes (WX h g ca (u2 (u2 iv 2 6 w42_i_2_6) 2 7 w42_i_2_7) lv (u2 fa 20 2 w42_a_20_2) (u2 (u2 la 20 0 w42_b_20_0) 20 1 w42_b_20_1)) H → va_D A (WX h g ca (u2 (u2 iv 2 6 w42_i_2_6) 2 7 w42_i_2_7) lv (u2 fa 20 2 w42_a_20_2) (u2 (u2 la 20 0 w42_b_20_0) 20 1 w42_b_20_1)) → va_S A s.heap H locs → lv_has ls 6 [(4, .int x42_4), (0, .ref (g 11 6)), (1, .int 1), (2, .int k), (3, .int n)] → W p l e ({ frames := 3, cells := 0, slots := 0, locals := 88 } : Room) s m ([.ref (g 11 6), .int 1, .int k, .int n] : List Value).toArray below meth c H locs 0 0 (MQ below (va_Qv (fun (u : SS) => ∃ (na_20_2 : Nat → Int32) (nb_20_0 : Nat → Int64) (nb_20_1 : Nat → Int64) (ni_2_6 : Int32) (ni_2_7 : Int32), u = ((u2 (u2 iv 2 6 ni_2_6) 2 7 ni_2_7), lv, (u2 fa 20 2 na_20_2), (u2 (u2 la 20 0 nb_20_0) 20 1 nb_20_1))) (bX (dC, dI) h g ca A) A) ([.ref (g 11 6), .int 1, .int k, .int n] : List Value).toArray s 0 0 A) (F0 m 44 ls []) := by
      intro nn43
      induction nn43 with
      | zero => intro x42_4 w42_i_2_6 w42_i_2_7 w42_a_20_2 w42_b_20_0 w42_b_20_1 hx42_4 hw42_a_20_2 hm43; exfalso; omega
      | succ nn43 ih43 =>
        intro x42_4 w42_i_2_6 w42_i_2_7 w42_a_20_2 w42_b_20_0 w42_b_20_1 hx42_4 hw42_a_20_2 hm43 H locs ls hP hD hS hl
        refine lv_iload hx hb dX2_takeSome_44 (lv_at hl 0 rfl) ?_
        refine lv_iload_n hx hb dX2_takeSome_46 rfl (lv_at hl 4 rfl) ?_
        refine lv_iload_n hx hb dX2_takeSome_47 rfl (lv_at hl 2 rfl) ?_
        refine lv_isub hx hb dX2_takeSome_48 ?_
        refine lv_topi (fun v44 ev44 => ?_)
        have tv44 := z_sub ev44 (rfl : (n).toInt = _) (by decide : (1 : Int32).toInt = 1) (by omega) (by omega)
        refine lv_icmp_gt (tgt := 114) hx hb dX2_takeSome_49 (by decide) (fun c45 => ?_) (fun c45 => ?_)
        · have fc45 := z_lt (rfl : (v44).toInt = _) (rfl : (x42_4).toInt = _) c45
          have hP9 : va_P (dC, dI) classes (WX h g ca (u2 (u2 iv 2 6 w42_i_2_6) 2 7 w42_i_2_7) lv (u2 fa 20 2 w42_a_20_2) (u2 (u2 la 20 0 w42_b_20_0) 20 1 w42_b_20_1)) H := hP
          have hD9 : va_D A (WX h g ca (u2 (u2 iv 2 6 w42_i_2_6) 2 7 w42_i_2_7) lv (u2 fa 20 2 w42_a_20_2) (u2 (u2 la 20 0 w42_b_20_0) 20 1 w42_b_20_1)) := hD
          exact W.vret hx hb hr (fun t ht9 hW => ⟨⟨((u2 (u2 iv 2 6 w42_i_2_6) 2 7 w42_i_2_7), lv, (u2 fa 20 2 w42_a_20_2), (u2 (u2 la 20 0 w42_b_20_0) 20 1 w42_b_20_1)), rfl, ⟨w42_a_20_2, w42_b_20_0, w42_b_20_1, w42_i_2_6, w42_i_2_7, rfl⟩, by rw [ht9]; exact hP9, hD9⟩, hS.F ht9⟩) hS.2.2 dX2_takeSome_114
        · have fc45 := z_nlt (rfl : (v44).toInt = _) (rfl : (x42_4).toInt = _) c45
          refine lv_aload_n hx hb dX2_takeSome_52 rfl (lv_at hl 1 rfl) ?_
          refine gX_2_2 hx hb ht hown hK hP m_306 dX2_takeSome_53 ?_
          refine lv_iload hx hb dX2_takeSome_56 (lv_at hl 0 rfl) ?_
          refine lX_2_2 hx hb hK hP (f := (fa 2 2)) rfl (vp_in_iff.mpr ⟨by omega, by omega⟩) dX2_takeSome_58 ?_
          refine lv_topi (fun v46 ev46 => ?_)
          have tv46 : 0 ≤ v46.toInt ∧ v46.toInt ≤ 59 := by rw [ev46]; exact hI.2 2 2 _
          refine lv_istore (lv' := [(5, .int v46), (4, .int x42_4), (0, .ref (g 11 6)), (1, .int 1), (2, .int k), (3, .int n)]) hx hb dX2_takeSome_59 hl (by decide) rfl (fun ls hl => ?_)
          refine lv_aload_n hx hb dX2_takeSome_61 rfl (lv_at hl 2 rfl) ?_
          refine lv_iconst (v := 1) hx hb dX2_takeSome_62 (by decide) ?_
          refine lv_iload hx hb dX2_takeSome_63 (lv_at hl 0 rfl) ?_
          have hFc := free_all hD hS hA
          refine va_callv (va_runV (As := [.int 1, .int v46]) (rest := []) ⟨hx, hb, hml, hown, ht⟩ (c_X2_heap l dC dI H.size h g ca (u2 (u2 iv 2 6 w42_i_2_6) 2 7 w42_i_2_7) lv (u2 fa 20 2 w42_a_20_2) (u2 (u2 la 20 0 w42_b_20_0) 20 1 w42_b_20_1) (IX_a (c := 20) (k := 2) (IX_i (c := 2) (k := 7) (IX_i (c := 2) (k := 6) hI (full_i _)) (full_i _)) hw42_a_20_2) 1 v46 ⟨by decide, by decide⟩ ⟨by omega, by omega⟩) (kV 2 ht m_890 m_892 m_33 m_85 m_893 rfl rfl hd_X2_heap_v ⟨Nat.le_of_ble_eq_true rfl, Nat.le_of_ble_eq_true rfl⟩) (vW hP hK hD (rX_2 hK hP)) rfl rfl hl.1 rfl (lv_room (Nat.le_of_ble_eq_true rfl)) dX2_takeSome_65 ⟨Nat.le_of_ble_eq_true rfl, Nat.le_of_ble_eq_true rfl⟩) hS (fun q _ h => hFc q h) hFc (fun u t H1 locs ht9 hvm hr47 hB hz1 hk1 hS => ?_)
          obtain ⟨n48, n49, n50, rfl⟩ := hr47
          have hn48 : ∀ j, inb (bA 20 2 j) (n48 j) := fun j => full_i _
          obtain ⟨hP, hD⟩ := hB
          rw [ht9] at hP
          generalize H1 = H at hP hS ⊢
          have hP : va_P (dC, dI) classes (WX h g ca (u2 (u2 iv 2 6 w42_i_2_6) 2 7 w42_i_2_7) lv (u2 fa 20 2 n48) (u2 (u2 la 20 0 n49) 20 1 n50)) H := hP
          have hD : va_D A (WX h g ca (u2 (u2 iv 2 6 w42_i_2_6) 2 7 w42_i_2_7) lv (u2 fa 20 2 n48) (u2 (u2 la 20 0 n49) 20 1 n50)) := (show va_D _ (WX h g ca (u2 (u2 iv 2 6 w42_i_2_6) 2 7 w42_i_2_7) lv (u2 fa 20 2 n48) (u2 (u2 la 20 0 n49) 20 1 n50)) from hD).weaken (fun _ _ _ h => hFc _ h)
          refine lv_aload_n hx hb dX2_takeSome_68 rfl (lv_at hl 2 rfl) ?_
          refine lv_iload_n hx hb dX2_takeSome_69 rfl (lv_at hl 3 rfl) ?_
          refine lv_iconst (v := 1) hx hb dX2_takeSome_70 (by decide) ?_
          refine lv_isub hx hb dX2_takeSome_71 ?_
          refine lv_topi (fun v51 ev51 => ?_)
          obtain rfl : 0 = v51 := (ev51.trans (by decide)).symm
          refine lv_iload hx hb dX2_takeSome_72 (lv_at hl 1 rfl) ?_
          refine lv_iconst (v := 1) hx hb dX2_takeSome_74 (by decide) ?_
          refine lv_iadd hx hb dX2_takeSome_75 ?_
          refine lv_topi (fun v52 ev52 => ?_)
          have tv52 := z_add ev52 (rfl : (x42_4).toInt = _) (by decide : (1 : Int32).toInt = 1) (by omega) (by omega)
          refine lv_iload_n hx hb dX2_takeSome_76 rfl (lv_at hl 5 rfl) ?_
          have hFc := free_all hD hS hA
          refine va_callv (va_runV (As := [.int 0, .int v52, .int n]) (rest := []) ⟨hx, hb, hml, hown, ht⟩ (c_X2_takeSome_0 l dC dI H.size h g ca (u2 (u2 iv 2 6 w42_i_2_6) 2 7 w42_i_2_7) lv (u2 fa 20 2 n48) (u2 (u2 la 20 0 n49) 20 1 n50) (IX_a (c := 20) (k := 2) (IX_i (c := 2) (k := 7) (IX_i (c := 2) (k := 6) hI (full_i _)) (full_i _)) hn48) v52 n ⟨by omega, by omega⟩ ⟨by omega, by omega⟩) (kV 3 ht m_933 m_935 m_38 m_85 m_936 rfl rfl hd_X2_takeSome_v ⟨Nat.le_of_ble_eq_true rfl, Nat.le_of_ble_eq_true rfl⟩) (vW hP hK hD (rX_2 hK hP)) rfl rfl hl.1 rfl (lv_room (Nat.le_of_ble_eq_true rfl)) dX2_takeSome_77 ⟨Nat.le_of_ble_eq_true rfl, Nat.le_of_ble_eq_true rfl⟩) hS (fun q _ h => hFc q h) hFc (fun u t H1 locs ht9 hvm hr53 hB hz1 hk1 hS => ?_)
          obtain ⟨n54, n55, rfl⟩ := hr53
          obtain ⟨hP, hD⟩ := hB
          rw [ht9] at hP
          generalize H1 = H at hP hS ⊢
          have hP : va_P (dC, dI) classes (WX h g ca (u2 (u2 iv 2 6 n54) 2 7 n55) lv (u2 fa 20 2 n48) (u2 (u2 la 20 0 n49) 20 1 n50)) H := hP
          have hD : va_D A (WX h g ca (u2 (u2 iv 2 6 n54) 2 7 n55) lv (u2 fa 20 2 n48) (u2 (u2 la 20 0 n49) 20 1 n50)) := (show va_D _ (WX h g ca (u2 (u2 iv 2 6 n54) 2 7 n55) lv (u2 fa 20 2 n48) (u2 (u2 la 20 0 n49) 20 1 n50)) from hD).weaken (fun _ _ _ h => hFc _ h)
          refine lv_aload_n hx hb dX2_takeSome_80 rfl (lv_at hl 2 rfl) ?_
          refine gX_2_1 hx hb ht hown hK hP m_305 dX2_takeSome_81 ?_
          refine lv_iconst (v := 1) hx hb dX2_takeSome_84 (by decide) ?_
          refine lv_aload_n hx hb dX2_takeSome_85 rfl (lv_at hl 2 rfl) ?_
          refine gX_2_0 hx hb ht hown hK hP m_304 dX2_takeSome_86 ?_
          refine lv_iload hx hb dX2_takeSome_89 (lv_at hl 0 rfl) ?_
          refine lv_iconst (v := 3) hx hb dX2_takeSome_91 (by decide) ?_
          refine vp_callSi (W.runV (As := [.int v46, .int 3]) (rest := [.int 1, .ref (g 2 1)]) ⟨hx, hb, hml, hown, ht⟩ (c_X10_get l dC dI h g ca (u2 (u2 iv 2 6 n54) 2 7 n55) lv (u2 fa 20 2 n48) (u2 (u2 la 20 0 n49) 20 1 n50) (IX_a (c := 20) (k := 2) (IX_i (c := 2) (k := 7) (IX_i (c := 2) (k := 6) hI (full_i _)) (full_i _)) hn48) v46 3 ⟨by omega, by omega⟩ ⟨by decide, by decide⟩) (kV 2 ht m_889 m_486 m_487 m_78 m_488 rfl rfl hd_X10_get_v ⟨Nat.le_of_ble_eq_true rfl, Nat.le_of_ble_eq_true rfl⟩) (vR hP hK (rX_10 hK hP)) rfl rfl hl.1 rfl (lv_room (Nat.le_of_ble_eq_true rfl)) dX2_takeSome_92 ⟨Nat.le_of_ble_eq_true rfl, Nat.le_of_ble_eq_true rfl⟩) (fun r56 hr56 => ?_)
          refine lv_aload_n hx hb dX2_takeSome_95 rfl (lv_at hl 2 rfl) ?_
          refine gX_2_0 hx hb ht hown hK hP m_304 dX2_takeSome_96 ?_
          refine lv_iload hx hb dX2_takeSome_99 (lv_at hl 0 rfl) ?_
          refine lv_iconst (v := 4) hx hb dX2_takeSome_101 (by decide) ?_
          refine vp_callSi (W.runV (As := [.int v46, .int 4]) (rest := [.int r56, .int 1, .ref (g 2 1)]) ⟨hx, hb, hml, hown, ht⟩ (c_X10_get l dC dI h g ca (u2 (u2 iv 2 6 n54) 2 7 n55) lv (u2 fa 20 2 n48) (u2 (u2 la 20 0 n49) 20 1 n50) (IX_a (c := 20) (k := 2) (IX_i (c := 2) (k := 7) (IX_i (c := 2) (k := 6) hI (full_i _)) (full_i _)) hn48) v46 4 ⟨by omega, by omega⟩ ⟨by decide, by decide⟩) (kV 2 ht m_889 m_486 m_487 m_78 m_488 rfl rfl hd_X10_get_v ⟨Nat.le_of_ble_eq_true rfl, Nat.le_of_ble_eq_true rfl⟩) (vR hP hK (rX_10 hK hP)) rfl rfl hl.1 rfl (lv_room (Nat.le_of_ble_eq_true rfl)) dX2_takeSome_102 ⟨Nat.le_of_ble_eq_true rfl, Nat.le_of_ble_eq_true rfl⟩) (fun r57 hr57 => ?_)
          have hFc := free_all hD hS hA
          refine va_callv (va_runV (As := [.int 1, .int r56, .int r57]) (rest := []) ⟨hx, hb, hml, hown, ht⟩ (c_X7_remove_20 l dC dI H.size h g ca (u2 (u2 iv 2 6 n54) 2 7 n55) lv (u2 fa 20 2 n48) (u2 (u2 la 20 0 n49) 20 1 n50) (IX_a (c := 20) (k := 2) (IX_i (c := 2) (k := 7) (IX_i (c := 2) (k := 6) hI (full_i _)) (full_i _)) hn48) 1 r56 r57 ⟨by decide, by decide⟩) (kV 3 ht m_937 m_938 m_939 m_84 m_940 rfl rfl hd_X7_remove_v ⟨Nat.le_of_ble_eq_true rfl, Nat.le_of_ble_eq_true rfl⟩) (vW hP hK hD (rX_20 hK hP)) rfl rfl hl.1 rfl (lv_room (Nat.le_of_ble_eq_true rfl)) dX2_takeSome_105 ⟨Nat.le_of_ble_eq_true rfl, Nat.le_of_ble_eq_true rfl⟩) hS (fun q _ h => hFc q h) hFc (fun u t H1 locs ht9 hvm hr58 hB hz1 hk1 hS => ?_)
          obtain ⟨n59, n60, n61, rfl⟩ := hr58
          have hn59 : ∀ j, inb (bA 20 2 j) (n59 j) := fun j => full_i _
          obtain ⟨hP, hD⟩ := hB
          rw [ht9] at hP
          generalize H1 = H at hP hS ⊢
          have hP : va_P (dC, dI) classes (WX h g ca (u2 (u2 iv 2 6 n54) 2 7 n55) lv (u2 fa 20 2 n59) (u2 (u2 la 20 0 n60) 20 1 n61)) H := hP
          have hD : va_D A (WX h g ca (u2 (u2 iv 2 6 n54) 2 7 n55) lv (u2 fa 20 2 n59) (u2 (u2 la 20 0 n60) 20 1 n61)) := (show va_D _ (WX h g ca (u2 (u2 iv 2 6 n54) 2 7 n55) lv (u2 fa 20 2 n59) (u2 (u2 la 20 0 n60) 20 1 n61)) from hD).weaken (fun _ _ _ h => hFc _ h)
          obtain ⟨v62, ev62⟩ : ∃ y : Int32, y = x42_4 + 1 := ⟨_, rfl⟩
          have tv62 := z_add ev62 rfl (by decide : (1 : Int32).toInt = 1) (by omega) (by omega)
          refine lv_iinc (v := v62) (lv' := [(4, .int v62), (5, .int v46), (0, .ref (g 11 6)), (1, .int 1), (2, .int k), (3, .int n)]) hx hb dX2_takeSome_108 hl (k := 1) rfl (by rw [ev62]; rfl) (by decide) rfl (fun ls hl => ?_)
          refine lv_goto (tgt := 44) hx hb dX2_takeSome_111 (by decide) ?_
          exact ih43 v62 n54 n55 n59 n60 n61 ⟨by omega, by omega⟩ hn59 (by omega) _ _ ls hP hD hS (lv_sub hl [0, 2, 3, 4, 5] rfl)
    exact lp43 13 k (iv 2 6) (iv 2 7) (fa 20 2) (la 20 0) (la 20 1) ⟨by omega, by omega⟩ (hI.2 20 2) (by first | decide | omega) _ _ ls hP hD hS (lv_sub hl [0, 1, 2, 3, 4] rfl)
  · exact absurd c1 (by decide)
set_option maxHeartbeats 4000000 in
set_option maxRecDepth 100000 in
/-- X2_takeSome -/
theorem c_X2_takeSome_2 (l : Launch) (dC : Nat → ClassId) (dI : Nat → Nat → Nat) (sz : Nat) (h : Nat) (g : Nat → Nat → Nat) (ca : Nat → Nat → ClassId) (iv : Nat → Nat → Int32) (lv : Nat → Nat → Int64) (fa : Nat → Nat → Nat → Int32) (la : Nat → Nat → Nat → Int64) (hI : IX iv fa) (k : Int32) (n : Int32) (h_k : 0 ≤ k.toInt ∧ k.toInt ≤ 12) (h_n : 0 ≤ n.toInt ∧ n.toInt ≤ 12) : Met l yX2_takeSome (wc yX2_takeSome cX2_takeSome 6 none) ({ frames := 4, cells := 0, slots := 0, locals := 113 } : Room) (pW (dC, dI) classes (WX h g ca iv lv fa la) (TX ca) sz [.ref (g 11 6), .int 2, .int k, .int n]) (va_Qv (fun (u : SS) => ∃ (na_20_2 : Nat → Int32) (nb_20_0 : Nat → Int64) (nb_20_1 : Nat → Int64) (ni_2_6 : Int32) (ni_2_7 : Int32), u = ((u2 (u2 iv 2 6 ni_2_6) 2 7 ni_2_7), lv, (u2 fa 20 2 na_20_2), (u2 (u2 la 20 0 nb_20_0) 20 1 nb_20_1))) (bX (dC, dI) h g ca (va_A (WX h g ca iv lv fa la) sz)) (va_A (WX h g ca iv lv fa la) sz)) 0 0 (va_A (WX h g ca iv lv fa la) sz) := by
  refine Met.ofW (cc := cX2_takeSome) (maxL := 6) (ret := none) (by decide) rfl ?_
  intro p e s m args below meth c s₁ B hml hv
  obtain ⟨rfl, hsz, hP, hK, hD0⟩ := hv
  have hx := B.exec
  have hb := B.bytes
  have hr := B.returns
  have ht := tb_tl (atoms_spec (ws := wc yX2_takeSome cX2_takeSome 6 none) B.pre)
  have hown : s.vm.findClass RX2 = some m.cls := findClass_of_methodNamed B.named
  have hlocks := B.notSynchronized
  subst hsz
  have hD := hD0.self (sz := s.heap.size)
  generalize hAe : va_A (WX h g ca iv lv fa la) s.heap.size = A at hD ⊢
  have hA : ∀ q : Nat, s.heap.size ≤ q → A q := fun q h => by rw [← hAe]; exact Or.inr h
  have hS : va_S A s.heap s.heap [] := va_S.rf
  have hl := lv_entry [.ref (g 11 6), .int 2, .int k, .int n] (n := 6) (Nat.le_of_ble_eq_true rfl)
  rw [lg_entry_eq]
  generalize (lg_sl [.ref (g 11 6), .int 2, .int k, .int n] ++ List.replicate (6 - (lg_sl [.ref (g 11 6), .int 2, .int k, .int n]).length) Slot.unset).toArray = ls at hl ⊢
  have hl : lv_has ls 6 [(0, .ref (g 11 6)), (1, .int 2), (2, .int k), (3, .int n)] := hl
  refine lv_iload_n hx hb dX2_takeSome_0 rfl (lv_at hl 1 rfl) ?_
  refine lv_if_gt (tgt := 41) hx hb dX2_takeSome_1 (by decide) (fun c1 => ?_) (fun c1 => ?_)
  · skip
    refine lv_iload_n hx hb dX2_takeSome_41 rfl (lv_at hl 2 rfl) ?_
    refine lv_istore (lv' := [(4, .int k), (0, .ref (g 11 6)), (1, .int 2), (2, .int k), (3, .int n)]) hx hb dX2_takeSome_42 hl (by decide) rfl (fun ls hl => ?_)
    have lp49 : ∀ (nn49 : Nat) (x48_4 : Int32) (w48_i_2_6 : Int32) (w48_i_2_7 : Int32) (w48_a_20_2 : Nat → Int32) (w48_b_20_0 : Nat → Int64) (w48_b_20_1 : Nat → Int64), 0 ≤ x48_4.toInt ∧ x48_4.toInt ≤ 12 → (∀ j, inb (bA 20 2 j) (w48_a_20_2 j)) → 12 - x48_4.toInt < (nn49 : Int) → ∀ (H : Heap) (locs : List Loc), ∀ (ls : Array Slot), va_P (dC, dI) classes (WX h g ca (u2 (u2 iv 2 6 w48_i_2_6) 2 7 w48_i_2_7) lv (u2 fa 20 2 w48_a_20_2) (u2 (u2 la 20 0 w48_b_20_0) 20 1 w48_b_20_1)) H → va_D A (WX h g ca (u2 (u2 iv 2 6 w48_i_2_6) 2 7 w48_i_2_7) lv (u2 fa 20 2 w48_a_20_2) (u2 (u2 la 20 0 w48_b_20_0) 20 1 w48_b_20_1)) → va_S A s.heap H locs → lv_has ls 6 [(4, .int x48_4), (0, .ref (g 11 6)), (1, .int 2), (2, .int k), (3, .int n)] → W p l e ({ frames := 4, cells := 0, slots := 0, locals := 113 } : Room) s m ([.ref (g 11 6), .int 2, .int k, .int n] : List Value).toArray below meth c H locs 0 0 (MQ below (va_Qv (fun (u : SS) => ∃ (na_20_2 : Nat → Int32) (nb_20_0 : Nat → Int64) (nb_20_1 : Nat → Int64) (ni_2_6 : Int32) (ni_2_7 : Int32), u = ((u2 (u2 iv 2 6 ni_2_6) 2 7 ni_2_7), lv, (u2 fa 20 2 na_20_2), (u2 (u2 la 20 0 nb_20_0) 20 1 nb_20_1))) (bX (dC, dI) h g ca A) A) ([.ref (g 11 6), .int 2, .int k, .int n] : List Value).toArray s 0 0 A) (F0 m 44 ls []) := by
      intro nn49
      induction nn49 with
      | zero => intro x48_4 w48_i_2_6 w48_i_2_7 w48_a_20_2 w48_b_20_0 w48_b_20_1 hx48_4 hw48_a_20_2 hm49; exfalso; omega
      | succ nn49 ih49 =>
        intro x48_4 w48_i_2_6 w48_i_2_7 w48_a_20_2 w48_b_20_0 w48_b_20_1 hx48_4 hw48_a_20_2 hm49 H locs ls hP hD hS hl
        refine lv_iload hx hb dX2_takeSome_44 (lv_at hl 0 rfl) ?_
        refine lv_iload_n hx hb dX2_takeSome_46 rfl (lv_at hl 4 rfl) ?_
        refine lv_iload_n hx hb dX2_takeSome_47 rfl (lv_at hl 2 rfl) ?_
        refine lv_isub hx hb dX2_takeSome_48 ?_
        refine lv_topi (fun v50 ev50 => ?_)
        have tv50 := z_sub ev50 (rfl : (n).toInt = _) (by decide : (2 : Int32).toInt = 2) (by omega) (by omega)
        refine lv_icmp_gt (tgt := 114) hx hb dX2_takeSome_49 (by decide) (fun c51 => ?_) (fun c51 => ?_)
        · have fc51 := z_lt (rfl : (v50).toInt = _) (rfl : (x48_4).toInt = _) c51
          have hP9 : va_P (dC, dI) classes (WX h g ca (u2 (u2 iv 2 6 w48_i_2_6) 2 7 w48_i_2_7) lv (u2 fa 20 2 w48_a_20_2) (u2 (u2 la 20 0 w48_b_20_0) 20 1 w48_b_20_1)) H := hP
          have hD9 : va_D A (WX h g ca (u2 (u2 iv 2 6 w48_i_2_6) 2 7 w48_i_2_7) lv (u2 fa 20 2 w48_a_20_2) (u2 (u2 la 20 0 w48_b_20_0) 20 1 w48_b_20_1)) := hD
          exact W.vret hx hb hr (fun t ht9 hW => ⟨⟨((u2 (u2 iv 2 6 w48_i_2_6) 2 7 w48_i_2_7), lv, (u2 fa 20 2 w48_a_20_2), (u2 (u2 la 20 0 w48_b_20_0) 20 1 w48_b_20_1)), rfl, ⟨w48_a_20_2, w48_b_20_0, w48_b_20_1, w48_i_2_6, w48_i_2_7, rfl⟩, by rw [ht9]; exact hP9, hD9⟩, hS.F ht9⟩) hS.2.2 dX2_takeSome_114
        · have fc51 := z_nlt (rfl : (v50).toInt = _) (rfl : (x48_4).toInt = _) c51
          refine lv_aload_n hx hb dX2_takeSome_52 rfl (lv_at hl 1 rfl) ?_
          refine gX_2_2 hx hb ht hown hK hP m_306 dX2_takeSome_53 ?_
          refine lv_iload hx hb dX2_takeSome_56 (lv_at hl 0 rfl) ?_
          refine lX_2_2 hx hb hK hP (f := (fa 2 2)) rfl (vp_in_iff.mpr ⟨by omega, by omega⟩) dX2_takeSome_58 ?_
          refine lv_topi (fun v52 ev52 => ?_)
          have tv52 : 0 ≤ v52.toInt ∧ v52.toInt ≤ 59 := by rw [ev52]; exact hI.2 2 2 _
          refine lv_istore (lv' := [(5, .int v52), (4, .int x48_4), (0, .ref (g 11 6)), (1, .int 2), (2, .int k), (3, .int n)]) hx hb dX2_takeSome_59 hl (by decide) rfl (fun ls hl => ?_)
          refine lv_aload_n hx hb dX2_takeSome_61 rfl (lv_at hl 2 rfl) ?_
          refine lv_iconst (v := 1) hx hb dX2_takeSome_62 (by decide) ?_
          refine lv_iload hx hb dX2_takeSome_63 (lv_at hl 0 rfl) ?_
          have hFc := free_all hD hS hA
          refine va_callv (va_runV (As := [.int 1, .int v52]) (rest := []) ⟨hx, hb, hml, hown, ht⟩ (c_X2_heap l dC dI H.size h g ca (u2 (u2 iv 2 6 w48_i_2_6) 2 7 w48_i_2_7) lv (u2 fa 20 2 w48_a_20_2) (u2 (u2 la 20 0 w48_b_20_0) 20 1 w48_b_20_1) (IX_a (c := 20) (k := 2) (IX_i (c := 2) (k := 7) (IX_i (c := 2) (k := 6) hI (full_i _)) (full_i _)) hw48_a_20_2) 1 v52 ⟨by decide, by decide⟩ ⟨by omega, by omega⟩) (kV 2 ht m_890 m_892 m_33 m_85 m_893 rfl rfl hd_X2_heap_v ⟨Nat.le_of_ble_eq_true rfl, Nat.le_of_ble_eq_true rfl⟩) (vW hP hK hD (rX_2 hK hP)) rfl rfl hl.1 rfl (lv_room (Nat.le_of_ble_eq_true rfl)) dX2_takeSome_65 ⟨Nat.le_of_ble_eq_true rfl, Nat.le_of_ble_eq_true rfl⟩) hS (fun q _ h => hFc q h) hFc (fun u t H1 locs ht9 hvm hr53 hB hz1 hk1 hS => ?_)
          obtain ⟨n54, n55, n56, rfl⟩ := hr53
          have hn54 : ∀ j, inb (bA 20 2 j) (n54 j) := fun j => full_i _
          obtain ⟨hP, hD⟩ := hB
          rw [ht9] at hP
          generalize H1 = H at hP hS ⊢
          have hP : va_P (dC, dI) classes (WX h g ca (u2 (u2 iv 2 6 w48_i_2_6) 2 7 w48_i_2_7) lv (u2 fa 20 2 n54) (u2 (u2 la 20 0 n55) 20 1 n56)) H := hP
          have hD : va_D A (WX h g ca (u2 (u2 iv 2 6 w48_i_2_6) 2 7 w48_i_2_7) lv (u2 fa 20 2 n54) (u2 (u2 la 20 0 n55) 20 1 n56)) := (show va_D _ (WX h g ca (u2 (u2 iv 2 6 w48_i_2_6) 2 7 w48_i_2_7) lv (u2 fa 20 2 n54) (u2 (u2 la 20 0 n55) 20 1 n56)) from hD).weaken (fun _ _ _ h => hFc _ h)
          refine lv_aload_n hx hb dX2_takeSome_68 rfl (lv_at hl 2 rfl) ?_
          refine lv_iload_n hx hb dX2_takeSome_69 rfl (lv_at hl 3 rfl) ?_
          refine lv_iconst (v := 1) hx hb dX2_takeSome_70 (by decide) ?_
          refine lv_isub hx hb dX2_takeSome_71 ?_
          refine lv_topi (fun v57 ev57 => ?_)
          obtain rfl : 1 = v57 := (ev57.trans (by decide)).symm
          refine lv_iload hx hb dX2_takeSome_72 (lv_at hl 1 rfl) ?_
          refine lv_iconst (v := 1) hx hb dX2_takeSome_74 (by decide) ?_
          refine lv_iadd hx hb dX2_takeSome_75 ?_
          refine lv_topi (fun v58 ev58 => ?_)
          have tv58 := z_add ev58 (rfl : (x48_4).toInt = _) (by decide : (1 : Int32).toInt = 1) (by omega) (by omega)
          refine lv_iload_n hx hb dX2_takeSome_76 rfl (lv_at hl 5 rfl) ?_
          have hFc := free_all hD hS hA
          refine va_callv (va_runV (As := [.int 1, .int v58, .int n]) (rest := []) ⟨hx, hb, hml, hown, ht⟩ (c_X2_takeSome_1 l dC dI H.size h g ca (u2 (u2 iv 2 6 w48_i_2_6) 2 7 w48_i_2_7) lv (u2 fa 20 2 n54) (u2 (u2 la 20 0 n55) 20 1 n56) (IX_a (c := 20) (k := 2) (IX_i (c := 2) (k := 7) (IX_i (c := 2) (k := 6) hI (full_i _)) (full_i _)) hn54) v58 n ⟨by omega, by omega⟩ ⟨by omega, by omega⟩) (kV 3 ht m_933 m_935 m_38 m_85 m_936 rfl rfl hd_X2_takeSome_v ⟨Nat.le_of_ble_eq_true rfl, Nat.le_of_ble_eq_true rfl⟩) (vW hP hK hD (rX_2 hK hP)) rfl rfl hl.1 rfl (lv_room (Nat.le_of_ble_eq_true rfl)) dX2_takeSome_77 ⟨Nat.le_of_ble_eq_true rfl, Nat.le_of_ble_eq_true rfl⟩) hS (fun q _ h => hFc q h) hFc (fun u t H1 locs ht9 hvm hr59 hB hz1 hk1 hS => ?_)
          obtain ⟨n60, n61, n62, n63, n64, rfl⟩ := hr59
          have hn60 : ∀ j, inb (bA 20 2 j) (n60 j) := fun j => full_i _
          obtain ⟨hP, hD⟩ := hB
          rw [ht9] at hP
          generalize H1 = H at hP hS ⊢
          have hP : va_P (dC, dI) classes (WX h g ca (u2 (u2 iv 2 6 n63) 2 7 n64) lv (u2 fa 20 2 n60) (u2 (u2 la 20 0 n61) 20 1 n62)) H := hP
          have hD : va_D A (WX h g ca (u2 (u2 iv 2 6 n63) 2 7 n64) lv (u2 fa 20 2 n60) (u2 (u2 la 20 0 n61) 20 1 n62)) := (show va_D _ (WX h g ca (u2 (u2 iv 2 6 n63) 2 7 n64) lv (u2 fa 20 2 n60) (u2 (u2 la 20 0 n61) 20 1 n62)) from hD).weaken (fun _ _ _ h => hFc _ h)
          refine lv_aload_n hx hb dX2_takeSome_80 rfl (lv_at hl 2 rfl) ?_
          refine gX_2_1 hx hb ht hown hK hP m_305 dX2_takeSome_81 ?_
          refine lv_iconst (v := 1) hx hb dX2_takeSome_84 (by decide) ?_
          refine lv_aload_n hx hb dX2_takeSome_85 rfl (lv_at hl 2 rfl) ?_
          refine gX_2_0 hx hb ht hown hK hP m_304 dX2_takeSome_86 ?_
          refine lv_iload hx hb dX2_takeSome_89 (lv_at hl 0 rfl) ?_
          refine lv_iconst (v := 3) hx hb dX2_takeSome_91 (by decide) ?_
          refine vp_callSi (W.runV (As := [.int v52, .int 3]) (rest := [.int 1, .ref (g 2 1)]) ⟨hx, hb, hml, hown, ht⟩ (c_X10_get l dC dI h g ca (u2 (u2 iv 2 6 n63) 2 7 n64) lv (u2 fa 20 2 n60) (u2 (u2 la 20 0 n61) 20 1 n62) (IX_a (c := 20) (k := 2) (IX_i (c := 2) (k := 7) (IX_i (c := 2) (k := 6) hI (full_i _)) (full_i _)) hn60) v52 3 ⟨by omega, by omega⟩ ⟨by decide, by decide⟩) (kV 2 ht m_889 m_486 m_487 m_78 m_488 rfl rfl hd_X10_get_v ⟨Nat.le_of_ble_eq_true rfl, Nat.le_of_ble_eq_true rfl⟩) (vR hP hK (rX_10 hK hP)) rfl rfl hl.1 rfl (lv_room (Nat.le_of_ble_eq_true rfl)) dX2_takeSome_92 ⟨Nat.le_of_ble_eq_true rfl, Nat.le_of_ble_eq_true rfl⟩) (fun r65 hr65 => ?_)
          refine lv_aload_n hx hb dX2_takeSome_95 rfl (lv_at hl 2 rfl) ?_
          refine gX_2_0 hx hb ht hown hK hP m_304 dX2_takeSome_96 ?_
          refine lv_iload hx hb dX2_takeSome_99 (lv_at hl 0 rfl) ?_
          refine lv_iconst (v := 4) hx hb dX2_takeSome_101 (by decide) ?_
          refine vp_callSi (W.runV (As := [.int v52, .int 4]) (rest := [.int r65, .int 1, .ref (g 2 1)]) ⟨hx, hb, hml, hown, ht⟩ (c_X10_get l dC dI h g ca (u2 (u2 iv 2 6 n63) 2 7 n64) lv (u2 fa 20 2 n60) (u2 (u2 la 20 0 n61) 20 1 n62) (IX_a (c := 20) (k := 2) (IX_i (c := 2) (k := 7) (IX_i (c := 2) (k := 6) hI (full_i _)) (full_i _)) hn60) v52 4 ⟨by omega, by omega⟩ ⟨by decide, by decide⟩) (kV 2 ht m_889 m_486 m_487 m_78 m_488 rfl rfl hd_X10_get_v ⟨Nat.le_of_ble_eq_true rfl, Nat.le_of_ble_eq_true rfl⟩) (vR hP hK (rX_10 hK hP)) rfl rfl hl.1 rfl (lv_room (Nat.le_of_ble_eq_true rfl)) dX2_takeSome_102 ⟨Nat.le_of_ble_eq_true rfl, Nat.le_of_ble_eq_true rfl⟩) (fun r66 hr66 => ?_)
          have hFc := free_all hD hS hA
          refine va_callv (va_runV (As := [.int 1, .int r65, .int r66]) (rest := []) ⟨hx, hb, hml, hown, ht⟩ (c_X7_remove_20 l dC dI H.size h g ca (u2 (u2 iv 2 6 n63) 2 7 n64) lv (u2 fa 20 2 n60) (u2 (u2 la 20 0 n61) 20 1 n62) (IX_a (c := 20) (k := 2) (IX_i (c := 2) (k := 7) (IX_i (c := 2) (k := 6) hI (full_i _)) (full_i _)) hn60) 1 r65 r66 ⟨by decide, by decide⟩) (kV 3 ht m_937 m_938 m_939 m_84 m_940 rfl rfl hd_X7_remove_v ⟨Nat.le_of_ble_eq_true rfl, Nat.le_of_ble_eq_true rfl⟩) (vW hP hK hD (rX_20 hK hP)) rfl rfl hl.1 rfl (lv_room (Nat.le_of_ble_eq_true rfl)) dX2_takeSome_105 ⟨Nat.le_of_ble_eq_true rfl, Nat.le_of_ble_eq_true rfl⟩) hS (fun q _ h => hFc q h) hFc (fun u t H1 locs ht9 hvm hr67 hB hz1 hk1 hS => ?_)
          obtain ⟨n68, n69, n70, rfl⟩ := hr67
          have hn68 : ∀ j, inb (bA 20 2 j) (n68 j) := fun j => full_i _
          obtain ⟨hP, hD⟩ := hB
          rw [ht9] at hP
          generalize H1 = H at hP hS ⊢
          have hP : va_P (dC, dI) classes (WX h g ca (u2 (u2 iv 2 6 n63) 2 7 n64) lv (u2 fa 20 2 n68) (u2 (u2 la 20 0 n69) 20 1 n70)) H := hP
          have hD : va_D A (WX h g ca (u2 (u2 iv 2 6 n63) 2 7 n64) lv (u2 fa 20 2 n68) (u2 (u2 la 20 0 n69) 20 1 n70)) := (show va_D _ (WX h g ca (u2 (u2 iv 2 6 n63) 2 7 n64) lv (u2 fa 20 2 n68) (u2 (u2 la 20 0 n69) 20 1 n70)) from hD).weaken (fun _ _ _ h => hFc _ h)
          obtain ⟨v71, ev71⟩ : ∃ y : Int32, y = x48_4 + 1 := ⟨_, rfl⟩
          have tv71 := z_add ev71 rfl (by decide : (1 : Int32).toInt = 1) (by omega) (by omega)
          refine lv_iinc (v := v71) (lv' := [(4, .int v71), (5, .int v52), (0, .ref (g 11 6)), (1, .int 2), (2, .int k), (3, .int n)]) hx hb dX2_takeSome_108 hl (k := 1) rfl (by rw [ev71]; rfl) (by decide) rfl (fun ls hl => ?_)
          refine lv_goto (tgt := 44) hx hb dX2_takeSome_111 (by decide) ?_
          exact ih49 v71 n63 n64 n68 n69 n70 ⟨by omega, by omega⟩ hn68 (by omega) _ _ ls hP hD hS (lv_sub hl [0, 2, 3, 4, 5] rfl)
    exact lp49 13 k (iv 2 6) (iv 2 7) (fa 20 2) (la 20 0) (la 20 1) ⟨by omega, by omega⟩ (hI.2 20 2) (by first | decide | omega) _ _ ls hP hD hS (lv_sub hl [0, 1, 2, 3, 4] rfl)
  · exact absurd c1 (by decide)
set_option maxHeartbeats 4000000 in
set_option maxRecDepth 100000 in
/-- X2_takeSome -/
theorem c_X2_takeSome_3 (l : Launch) (dC : Nat → ClassId) (dI : Nat → Nat → Nat) (sz : Nat) (h : Nat) (g : Nat → Nat → Nat) (ca : Nat → Nat → ClassId) (iv : Nat → Nat → Int32) (lv : Nat → Nat → Int64) (fa : Nat → Nat → Nat → Int32) (la : Nat → Nat → Nat → Int64) (hI : IX iv fa) (k : Int32) (n : Int32) (h_k : 0 ≤ k.toInt ∧ k.toInt ≤ 12) (h_n : 0 ≤ n.toInt ∧ n.toInt ≤ 12) : Met l yX2_takeSome (wc yX2_takeSome cX2_takeSome 6 none) ({ frames := 5, cells := 0, slots := 0, locals := 138 } : Room) (pW (dC, dI) classes (WX h g ca iv lv fa la) (TX ca) sz [.ref (g 11 6), .int 3, .int k, .int n]) (va_Qv (fun (u : SS) => ∃ (na_20_2 : Nat → Int32) (nb_20_0 : Nat → Int64) (nb_20_1 : Nat → Int64) (ni_2_6 : Int32) (ni_2_7 : Int32), u = ((u2 (u2 iv 2 6 ni_2_6) 2 7 ni_2_7), lv, (u2 fa 20 2 na_20_2), (u2 (u2 la 20 0 nb_20_0) 20 1 nb_20_1))) (bX (dC, dI) h g ca (va_A (WX h g ca iv lv fa la) sz)) (va_A (WX h g ca iv lv fa la) sz)) 0 0 (va_A (WX h g ca iv lv fa la) sz) := by
  refine Met.ofW (cc := cX2_takeSome) (maxL := 6) (ret := none) (by decide) rfl ?_
  intro p e s m args below meth c s₁ B hml hv
  obtain ⟨rfl, hsz, hP, hK, hD0⟩ := hv
  have hx := B.exec
  have hb := B.bytes
  have hr := B.returns
  have ht := tb_tl (atoms_spec (ws := wc yX2_takeSome cX2_takeSome 6 none) B.pre)
  have hown : s.vm.findClass RX2 = some m.cls := findClass_of_methodNamed B.named
  have hlocks := B.notSynchronized
  subst hsz
  have hD := hD0.self (sz := s.heap.size)
  generalize hAe : va_A (WX h g ca iv lv fa la) s.heap.size = A at hD ⊢
  have hA : ∀ q : Nat, s.heap.size ≤ q → A q := fun q h => by rw [← hAe]; exact Or.inr h
  have hS : va_S A s.heap s.heap [] := va_S.rf
  have hl := lv_entry [.ref (g 11 6), .int 3, .int k, .int n] (n := 6) (Nat.le_of_ble_eq_true rfl)
  rw [lg_entry_eq]
  generalize (lg_sl [.ref (g 11 6), .int 3, .int k, .int n] ++ List.replicate (6 - (lg_sl [.ref (g 11 6), .int 3, .int k, .int n]).length) Slot.unset).toArray = ls at hl ⊢
  have hl : lv_has ls 6 [(0, .ref (g 11 6)), (1, .int 3), (2, .int k), (3, .int n)] := hl
  refine lv_iload_n hx hb dX2_takeSome_0 rfl (lv_at hl 1 rfl) ?_
  refine lv_if_gt (tgt := 41) hx hb dX2_takeSome_1 (by decide) (fun c1 => ?_) (fun c1 => ?_)
  · skip
    refine lv_iload_n hx hb dX2_takeSome_41 rfl (lv_at hl 2 rfl) ?_
    refine lv_istore (lv' := [(4, .int k), (0, .ref (g 11 6)), (1, .int 3), (2, .int k), (3, .int n)]) hx hb dX2_takeSome_42 hl (by decide) rfl (fun ls hl => ?_)
    have lp49 : ∀ (nn49 : Nat) (x48_4 : Int32) (w48_i_2_6 : Int32) (w48_i_2_7 : Int32) (w48_a_20_2 : Nat → Int32) (w48_b_20_0 : Nat → Int64) (w48_b_20_1 : Nat → Int64), 0 ≤ x48_4.toInt ∧ x48_4.toInt ≤ 12 → (∀ j, inb (bA 20 2 j) (w48_a_20_2 j)) → 12 - x48_4.toInt < (nn49 : Int) → ∀ (H : Heap) (locs : List Loc), ∀ (ls : Array Slot), va_P (dC, dI) classes (WX h g ca (u2 (u2 iv 2 6 w48_i_2_6) 2 7 w48_i_2_7) lv (u2 fa 20 2 w48_a_20_2) (u2 (u2 la 20 0 w48_b_20_0) 20 1 w48_b_20_1)) H → va_D A (WX h g ca (u2 (u2 iv 2 6 w48_i_2_6) 2 7 w48_i_2_7) lv (u2 fa 20 2 w48_a_20_2) (u2 (u2 la 20 0 w48_b_20_0) 20 1 w48_b_20_1)) → va_S A s.heap H locs → lv_has ls 6 [(4, .int x48_4), (0, .ref (g 11 6)), (1, .int 3), (2, .int k), (3, .int n)] → W p l e ({ frames := 5, cells := 0, slots := 0, locals := 138 } : Room) s m ([.ref (g 11 6), .int 3, .int k, .int n] : List Value).toArray below meth c H locs 0 0 (MQ below (va_Qv (fun (u : SS) => ∃ (na_20_2 : Nat → Int32) (nb_20_0 : Nat → Int64) (nb_20_1 : Nat → Int64) (ni_2_6 : Int32) (ni_2_7 : Int32), u = ((u2 (u2 iv 2 6 ni_2_6) 2 7 ni_2_7), lv, (u2 fa 20 2 na_20_2), (u2 (u2 la 20 0 nb_20_0) 20 1 nb_20_1))) (bX (dC, dI) h g ca A) A) ([.ref (g 11 6), .int 3, .int k, .int n] : List Value).toArray s 0 0 A) (F0 m 44 ls []) := by
      intro nn49
      induction nn49 with
      | zero => intro x48_4 w48_i_2_6 w48_i_2_7 w48_a_20_2 w48_b_20_0 w48_b_20_1 hx48_4 hw48_a_20_2 hm49; exfalso; omega
      | succ nn49 ih49 =>
        intro x48_4 w48_i_2_6 w48_i_2_7 w48_a_20_2 w48_b_20_0 w48_b_20_1 hx48_4 hw48_a_20_2 hm49 H locs ls hP hD hS hl
        refine lv_iload hx hb dX2_takeSome_44 (lv_at hl 0 rfl) ?_
        refine lv_iload_n hx hb dX2_takeSome_46 rfl (lv_at hl 4 rfl) ?_
        refine lv_iload_n hx hb dX2_takeSome_47 rfl (lv_at hl 2 rfl) ?_
        refine lv_isub hx hb dX2_takeSome_48 ?_
        refine lv_topi (fun v50 ev50 => ?_)
        have tv50 := z_sub ev50 (rfl : (n).toInt = _) (by decide : (3 : Int32).toInt = 3) (by omega) (by omega)
        refine lv_icmp_gt (tgt := 114) hx hb dX2_takeSome_49 (by decide) (fun c51 => ?_) (fun c51 => ?_)
        · have fc51 := z_lt (rfl : (v50).toInt = _) (rfl : (x48_4).toInt = _) c51
          have hP9 : va_P (dC, dI) classes (WX h g ca (u2 (u2 iv 2 6 w48_i_2_6) 2 7 w48_i_2_7) lv (u2 fa 20 2 w48_a_20_2) (u2 (u2 la 20 0 w48_b_20_0) 20 1 w48_b_20_1)) H := hP
          have hD9 : va_D A (WX h g ca (u2 (u2 iv 2 6 w48_i_2_6) 2 7 w48_i_2_7) lv (u2 fa 20 2 w48_a_20_2) (u2 (u2 la 20 0 w48_b_20_0) 20 1 w48_b_20_1)) := hD
          exact W.vret hx hb hr (fun t ht9 hW => ⟨⟨((u2 (u2 iv 2 6 w48_i_2_6) 2 7 w48_i_2_7), lv, (u2 fa 20 2 w48_a_20_2), (u2 (u2 la 20 0 w48_b_20_0) 20 1 w48_b_20_1)), rfl, ⟨w48_a_20_2, w48_b_20_0, w48_b_20_1, w48_i_2_6, w48_i_2_7, rfl⟩, by rw [ht9]; exact hP9, hD9⟩, hS.F ht9⟩) hS.2.2 dX2_takeSome_114
        · have fc51 := z_nlt (rfl : (v50).toInt = _) (rfl : (x48_4).toInt = _) c51
          refine lv_aload_n hx hb dX2_takeSome_52 rfl (lv_at hl 1 rfl) ?_
          refine gX_2_2 hx hb ht hown hK hP m_306 dX2_takeSome_53 ?_
          refine lv_iload hx hb dX2_takeSome_56 (lv_at hl 0 rfl) ?_
          refine lX_2_2 hx hb hK hP (f := (fa 2 2)) rfl (vp_in_iff.mpr ⟨by omega, by omega⟩) dX2_takeSome_58 ?_
          refine lv_topi (fun v52 ev52 => ?_)
          have tv52 : 0 ≤ v52.toInt ∧ v52.toInt ≤ 59 := by rw [ev52]; exact hI.2 2 2 _
          refine lv_istore (lv' := [(5, .int v52), (4, .int x48_4), (0, .ref (g 11 6)), (1, .int 3), (2, .int k), (3, .int n)]) hx hb dX2_takeSome_59 hl (by decide) rfl (fun ls hl => ?_)
          refine lv_aload_n hx hb dX2_takeSome_61 rfl (lv_at hl 2 rfl) ?_
          refine lv_iconst (v := 1) hx hb dX2_takeSome_62 (by decide) ?_
          refine lv_iload hx hb dX2_takeSome_63 (lv_at hl 0 rfl) ?_
          have hFc := free_all hD hS hA
          refine va_callv (va_runV (As := [.int 1, .int v52]) (rest := []) ⟨hx, hb, hml, hown, ht⟩ (c_X2_heap l dC dI H.size h g ca (u2 (u2 iv 2 6 w48_i_2_6) 2 7 w48_i_2_7) lv (u2 fa 20 2 w48_a_20_2) (u2 (u2 la 20 0 w48_b_20_0) 20 1 w48_b_20_1) (IX_a (c := 20) (k := 2) (IX_i (c := 2) (k := 7) (IX_i (c := 2) (k := 6) hI (full_i _)) (full_i _)) hw48_a_20_2) 1 v52 ⟨by decide, by decide⟩ ⟨by omega, by omega⟩) (kV 2 ht m_890 m_892 m_33 m_85 m_893 rfl rfl hd_X2_heap_v ⟨Nat.le_of_ble_eq_true rfl, Nat.le_of_ble_eq_true rfl⟩) (vW hP hK hD (rX_2 hK hP)) rfl rfl hl.1 rfl (lv_room (Nat.le_of_ble_eq_true rfl)) dX2_takeSome_65 ⟨Nat.le_of_ble_eq_true rfl, Nat.le_of_ble_eq_true rfl⟩) hS (fun q _ h => hFc q h) hFc (fun u t H1 locs ht9 hvm hr53 hB hz1 hk1 hS => ?_)
          obtain ⟨n54, n55, n56, rfl⟩ := hr53
          have hn54 : ∀ j, inb (bA 20 2 j) (n54 j) := fun j => full_i _
          obtain ⟨hP, hD⟩ := hB
          rw [ht9] at hP
          generalize H1 = H at hP hS ⊢
          have hP : va_P (dC, dI) classes (WX h g ca (u2 (u2 iv 2 6 w48_i_2_6) 2 7 w48_i_2_7) lv (u2 fa 20 2 n54) (u2 (u2 la 20 0 n55) 20 1 n56)) H := hP
          have hD : va_D A (WX h g ca (u2 (u2 iv 2 6 w48_i_2_6) 2 7 w48_i_2_7) lv (u2 fa 20 2 n54) (u2 (u2 la 20 0 n55) 20 1 n56)) := (show va_D _ (WX h g ca (u2 (u2 iv 2 6 w48_i_2_6) 2 7 w48_i_2_7) lv (u2 fa 20 2 n54) (u2 (u2 la 20 0 n55) 20 1 n56)) from hD).weaken (fun _ _ _ h => hFc _ h)
          refine lv_aload_n hx hb dX2_takeSome_68 rfl (lv_at hl 2 rfl) ?_
          refine lv_iload_n hx hb dX2_takeSome_69 rfl (lv_at hl 3 rfl) ?_
          refine lv_iconst (v := 1) hx hb dX2_takeSome_70 (by decide) ?_
          refine lv_isub hx hb dX2_takeSome_71 ?_
          refine lv_topi (fun v57 ev57 => ?_)
          obtain rfl : 2 = v57 := (ev57.trans (by decide)).symm
          refine lv_iload hx hb dX2_takeSome_72 (lv_at hl 1 rfl) ?_
          refine lv_iconst (v := 1) hx hb dX2_takeSome_74 (by decide) ?_
          refine lv_iadd hx hb dX2_takeSome_75 ?_
          refine lv_topi (fun v58 ev58 => ?_)
          have tv58 := z_add ev58 (rfl : (x48_4).toInt = _) (by decide : (1 : Int32).toInt = 1) (by omega) (by omega)
          refine lv_iload_n hx hb dX2_takeSome_76 rfl (lv_at hl 5 rfl) ?_
          have hFc := free_all hD hS hA
          refine va_callv (va_runV (As := [.int 2, .int v58, .int n]) (rest := []) ⟨hx, hb, hml, hown, ht⟩ (c_X2_takeSome_2 l dC dI H.size h g ca (u2 (u2 iv 2 6 w48_i_2_6) 2 7 w48_i_2_7) lv (u2 fa 20 2 n54) (u2 (u2 la 20 0 n55) 20 1 n56) (IX_a (c := 20) (k := 2) (IX_i (c := 2) (k := 7) (IX_i (c := 2) (k := 6) hI (full_i _)) (full_i _)) hn54) v58 n ⟨by omega, by omega⟩ ⟨by omega, by omega⟩) (kV 3 ht m_933 m_935 m_38 m_85 m_936 rfl rfl hd_X2_takeSome_v ⟨Nat.le_of_ble_eq_true rfl, Nat.le_of_ble_eq_true rfl⟩) (vW hP hK hD (rX_2 hK hP)) rfl rfl hl.1 rfl (lv_room (Nat.le_of_ble_eq_true rfl)) dX2_takeSome_77 ⟨Nat.le_of_ble_eq_true rfl, Nat.le_of_ble_eq_true rfl⟩) hS (fun q _ h => hFc q h) hFc (fun u t H1 locs ht9 hvm hr59 hB hz1 hk1 hS => ?_)
          obtain ⟨n60, n61, n62, n63, n64, rfl⟩ := hr59
          have hn60 : ∀ j, inb (bA 20 2 j) (n60 j) := fun j => full_i _
          obtain ⟨hP, hD⟩ := hB
          rw [ht9] at hP
          generalize H1 = H at hP hS ⊢
          have hP : va_P (dC, dI) classes (WX h g ca (u2 (u2 iv 2 6 n63) 2 7 n64) lv (u2 fa 20 2 n60) (u2 (u2 la 20 0 n61) 20 1 n62)) H := hP
          have hD : va_D A (WX h g ca (u2 (u2 iv 2 6 n63) 2 7 n64) lv (u2 fa 20 2 n60) (u2 (u2 la 20 0 n61) 20 1 n62)) := (show va_D _ (WX h g ca (u2 (u2 iv 2 6 n63) 2 7 n64) lv (u2 fa 20 2 n60) (u2 (u2 la 20 0 n61) 20 1 n62)) from hD).weaken (fun _ _ _ h => hFc _ h)
          refine lv_aload_n hx hb dX2_takeSome_80 rfl (lv_at hl 2 rfl) ?_
          refine gX_2_1 hx hb ht hown hK hP m_305 dX2_takeSome_81 ?_
          refine lv_iconst (v := 1) hx hb dX2_takeSome_84 (by decide) ?_
          refine lv_aload_n hx hb dX2_takeSome_85 rfl (lv_at hl 2 rfl) ?_
          refine gX_2_0 hx hb ht hown hK hP m_304 dX2_takeSome_86 ?_
          refine lv_iload hx hb dX2_takeSome_89 (lv_at hl 0 rfl) ?_
          refine lv_iconst (v := 3) hx hb dX2_takeSome_91 (by decide) ?_
          refine vp_callSi (W.runV (As := [.int v52, .int 3]) (rest := [.int 1, .ref (g 2 1)]) ⟨hx, hb, hml, hown, ht⟩ (c_X10_get l dC dI h g ca (u2 (u2 iv 2 6 n63) 2 7 n64) lv (u2 fa 20 2 n60) (u2 (u2 la 20 0 n61) 20 1 n62) (IX_a (c := 20) (k := 2) (IX_i (c := 2) (k := 7) (IX_i (c := 2) (k := 6) hI (full_i _)) (full_i _)) hn60) v52 3 ⟨by omega, by omega⟩ ⟨by decide, by decide⟩) (kV 2 ht m_889 m_486 m_487 m_78 m_488 rfl rfl hd_X10_get_v ⟨Nat.le_of_ble_eq_true rfl, Nat.le_of_ble_eq_true rfl⟩) (vR hP hK (rX_10 hK hP)) rfl rfl hl.1 rfl (lv_room (Nat.le_of_ble_eq_true rfl)) dX2_takeSome_92 ⟨Nat.le_of_ble_eq_true rfl, Nat.le_of_ble_eq_true rfl⟩) (fun r65 hr65 => ?_)
          refine lv_aload_n hx hb dX2_takeSome_95 rfl (lv_at hl 2 rfl) ?_
          refine gX_2_0 hx hb ht hown hK hP m_304 dX2_takeSome_96 ?_
          refine lv_iload hx hb dX2_takeSome_99 (lv_at hl 0 rfl) ?_
          refine lv_iconst (v := 4) hx hb dX2_takeSome_101 (by decide) ?_
          refine vp_callSi (W.runV (As := [.int v52, .int 4]) (rest := [.int r65, .int 1, .ref (g 2 1)]) ⟨hx, hb, hml, hown, ht⟩ (c_X10_get l dC dI h g ca (u2 (u2 iv 2 6 n63) 2 7 n64) lv (u2 fa 20 2 n60) (u2 (u2 la 20 0 n61) 20 1 n62) (IX_a (c := 20) (k := 2) (IX_i (c := 2) (k := 7) (IX_i (c := 2) (k := 6) hI (full_i _)) (full_i _)) hn60) v52 4 ⟨by omega, by omega⟩ ⟨by decide, by decide⟩) (kV 2 ht m_889 m_486 m_487 m_78 m_488 rfl rfl hd_X10_get_v ⟨Nat.le_of_ble_eq_true rfl, Nat.le_of_ble_eq_true rfl⟩) (vR hP hK (rX_10 hK hP)) rfl rfl hl.1 rfl (lv_room (Nat.le_of_ble_eq_true rfl)) dX2_takeSome_102 ⟨Nat.le_of_ble_eq_true rfl, Nat.le_of_ble_eq_true rfl⟩) (fun r66 hr66 => ?_)
          have hFc := free_all hD hS hA
          refine va_callv (va_runV (As := [.int 1, .int r65, .int r66]) (rest := []) ⟨hx, hb, hml, hown, ht⟩ (c_X7_remove_20 l dC dI H.size h g ca (u2 (u2 iv 2 6 n63) 2 7 n64) lv (u2 fa 20 2 n60) (u2 (u2 la 20 0 n61) 20 1 n62) (IX_a (c := 20) (k := 2) (IX_i (c := 2) (k := 7) (IX_i (c := 2) (k := 6) hI (full_i _)) (full_i _)) hn60) 1 r65 r66 ⟨by decide, by decide⟩) (kV 3 ht m_937 m_938 m_939 m_84 m_940 rfl rfl hd_X7_remove_v ⟨Nat.le_of_ble_eq_true rfl, Nat.le_of_ble_eq_true rfl⟩) (vW hP hK hD (rX_20 hK hP)) rfl rfl hl.1 rfl (lv_room (Nat.le_of_ble_eq_true rfl)) dX2_takeSome_105 ⟨Nat.le_of_ble_eq_true rfl, Nat.le_of_ble_eq_true rfl⟩) hS (fun q _ h => hFc q h) hFc (fun u t H1 locs ht9 hvm hr67 hB hz1 hk1 hS => ?_)
          obtain ⟨n68, n69, n70, rfl⟩ := hr67
          have hn68 : ∀ j, inb (bA 20 2 j) (n68 j) := fun j => full_i _
          obtain ⟨hP, hD⟩ := hB
          rw [ht9] at hP
          generalize H1 = H at hP hS ⊢
          have hP : va_P (dC, dI) classes (WX h g ca (u2 (u2 iv 2 6 n63) 2 7 n64) lv (u2 fa 20 2 n68) (u2 (u2 la 20 0 n69) 20 1 n70)) H := hP
          have hD : va_D A (WX h g ca (u2 (u2 iv 2 6 n63) 2 7 n64) lv (u2 fa 20 2 n68) (u2 (u2 la 20 0 n69) 20 1 n70)) := (show va_D _ (WX h g ca (u2 (u2 iv 2 6 n63) 2 7 n64) lv (u2 fa 20 2 n68) (u2 (u2 la 20 0 n69) 20 1 n70)) from hD).weaken (fun _ _ _ h => hFc _ h)
          obtain ⟨v71, ev71⟩ : ∃ y : Int32, y = x48_4 + 1 := ⟨_, rfl⟩
          have tv71 := z_add ev71 rfl (by decide : (1 : Int32).toInt = 1) (by omega) (by omega)
          refine lv_iinc (v := v71) (lv' := [(4, .int v71), (5, .int v52), (0, .ref (g 11 6)), (1, .int 3), (2, .int k), (3, .int n)]) hx hb dX2_takeSome_108 hl (k := 1) rfl (by rw [ev71]; rfl) (by decide) rfl (fun ls hl => ?_)
          refine lv_goto (tgt := 44) hx hb dX2_takeSome_111 (by decide) ?_
          exact ih49 v71 n63 n64 n68 n69 n70 ⟨by omega, by omega⟩ hn68 (by omega) _ _ ls hP hD hS (lv_sub hl [0, 2, 3, 4, 5] rfl)
    exact lp49 13 k (iv 2 6) (iv 2 7) (fa 20 2) (la 20 0) (la 20 1) ⟨by omega, by omega⟩ (hI.2 20 2) (by first | decide | omega) _ _ ls hP hD hS (lv_sub hl [0, 1, 2, 3, 4] rfl)
  · exact absurd c1 (by decide)
set_option maxHeartbeats 4000000 in
set_option maxRecDepth 100000 in
/-- X2_takeSome -/
theorem c_X2_takeSome_4 (l : Launch) (dC : Nat → ClassId) (dI : Nat → Nat → Nat) (sz : Nat) (h : Nat) (g : Nat → Nat → Nat) (ca : Nat → Nat → ClassId) (iv : Nat → Nat → Int32) (lv : Nat → Nat → Int64) (fa : Nat → Nat → Nat → Int32) (la : Nat → Nat → Nat → Int64) (hI : IX iv fa) (k : Int32) (n : Int32) (h_k : 0 ≤ k.toInt ∧ k.toInt ≤ 12) (h_n : 0 ≤ n.toInt ∧ n.toInt ≤ 12) : Met l yX2_takeSome (wc yX2_takeSome cX2_takeSome 6 none) ({ frames := 6, cells := 0, slots := 0, locals := 163 } : Room) (pW (dC, dI) classes (WX h g ca iv lv fa la) (TX ca) sz [.ref (g 11 6), .int 4, .int k, .int n]) (va_Qv (fun (u : SS) => ∃ (na_20_2 : Nat → Int32) (nb_20_0 : Nat → Int64) (nb_20_1 : Nat → Int64) (ni_2_6 : Int32) (ni_2_7 : Int32), u = ((u2 (u2 iv 2 6 ni_2_6) 2 7 ni_2_7), lv, (u2 fa 20 2 na_20_2), (u2 (u2 la 20 0 nb_20_0) 20 1 nb_20_1))) (bX (dC, dI) h g ca (va_A (WX h g ca iv lv fa la) sz)) (va_A (WX h g ca iv lv fa la) sz)) 0 0 (va_A (WX h g ca iv lv fa la) sz) := by
  refine Met.ofW (cc := cX2_takeSome) (maxL := 6) (ret := none) (by decide) rfl ?_
  intro p e s m args below meth c s₁ B hml hv
  obtain ⟨rfl, hsz, hP, hK, hD0⟩ := hv
  have hx := B.exec
  have hb := B.bytes
  have hr := B.returns
  have ht := tb_tl (atoms_spec (ws := wc yX2_takeSome cX2_takeSome 6 none) B.pre)
  have hown : s.vm.findClass RX2 = some m.cls := findClass_of_methodNamed B.named
  have hlocks := B.notSynchronized
  subst hsz
  have hD := hD0.self (sz := s.heap.size)
  generalize hAe : va_A (WX h g ca iv lv fa la) s.heap.size = A at hD ⊢
  have hA : ∀ q : Nat, s.heap.size ≤ q → A q := fun q h => by rw [← hAe]; exact Or.inr h
  have hS : va_S A s.heap s.heap [] := va_S.rf
  have hl := lv_entry [.ref (g 11 6), .int 4, .int k, .int n] (n := 6) (Nat.le_of_ble_eq_true rfl)
  rw [lg_entry_eq]
  generalize (lg_sl [.ref (g 11 6), .int 4, .int k, .int n] ++ List.replicate (6 - (lg_sl [.ref (g 11 6), .int 4, .int k, .int n]).length) Slot.unset).toArray = ls at hl ⊢
  have hl : lv_has ls 6 [(0, .ref (g 11 6)), (1, .int 4), (2, .int k), (3, .int n)] := hl
  refine lv_iload_n hx hb dX2_takeSome_0 rfl (lv_at hl 1 rfl) ?_
  refine lv_if_gt (tgt := 41) hx hb dX2_takeSome_1 (by decide) (fun c1 => ?_) (fun c1 => ?_)
  · skip
    refine lv_iload_n hx hb dX2_takeSome_41 rfl (lv_at hl 2 rfl) ?_
    refine lv_istore (lv' := [(4, .int k), (0, .ref (g 11 6)), (1, .int 4), (2, .int k), (3, .int n)]) hx hb dX2_takeSome_42 hl (by decide) rfl (fun ls hl => ?_)
    have lp49 : ∀ (nn49 : Nat) (x48_4 : Int32) (w48_i_2_6 : Int32) (w48_i_2_7 : Int32) (w48_a_20_2 : Nat → Int32) (w48_b_20_0 : Nat → Int64) (w48_b_20_1 : Nat → Int64), 0 ≤ x48_4.toInt ∧ x48_4.toInt ≤ 12 → (∀ j, inb (bA 20 2 j) (w48_a_20_2 j)) → 12 - x48_4.toInt < (nn49 : Int) → ∀ (H : Heap) (locs : List Loc), ∀ (ls : Array Slot), va_P (dC, dI) classes (WX h g ca (u2 (u2 iv 2 6 w48_i_2_6) 2 7 w48_i_2_7) lv (u2 fa 20 2 w48_a_20_2) (u2 (u2 la 20 0 w48_b_20_0) 20 1 w48_b_20_1)) H → va_D A (WX h g ca (u2 (u2 iv 2 6 w48_i_2_6) 2 7 w48_i_2_7) lv (u2 fa 20 2 w48_a_20_2) (u2 (u2 la 20 0 w48_b_20_0) 20 1 w48_b_20_1)) → va_S A s.heap H locs → lv_has ls 6 [(4, .int x48_4), (0, .ref (g 11 6)), (1, .int 4), (2, .int k), (3, .int n)] → W p l e ({ frames := 6, cells := 0, slots := 0, locals := 163 } : Room) s m ([.ref (g 11 6), .int 4, .int k, .int n] : List Value).toArray below meth c H locs 0 0 (MQ below (va_Qv (fun (u : SS) => ∃ (na_20_2 : Nat → Int32) (nb_20_0 : Nat → Int64) (nb_20_1 : Nat → Int64) (ni_2_6 : Int32) (ni_2_7 : Int32), u = ((u2 (u2 iv 2 6 ni_2_6) 2 7 ni_2_7), lv, (u2 fa 20 2 na_20_2), (u2 (u2 la 20 0 nb_20_0) 20 1 nb_20_1))) (bX (dC, dI) h g ca A) A) ([.ref (g 11 6), .int 4, .int k, .int n] : List Value).toArray s 0 0 A) (F0 m 44 ls []) := by
      intro nn49
      induction nn49 with
      | zero => intro x48_4 w48_i_2_6 w48_i_2_7 w48_a_20_2 w48_b_20_0 w48_b_20_1 hx48_4 hw48_a_20_2 hm49; exfalso; omega
      | succ nn49 ih49 =>
        intro x48_4 w48_i_2_6 w48_i_2_7 w48_a_20_2 w48_b_20_0 w48_b_20_1 hx48_4 hw48_a_20_2 hm49 H locs ls hP hD hS hl
        refine lv_iload hx hb dX2_takeSome_44 (lv_at hl 0 rfl) ?_
        refine lv_iload_n hx hb dX2_takeSome_46 rfl (lv_at hl 4 rfl) ?_
        refine lv_iload_n hx hb dX2_takeSome_47 rfl (lv_at hl 2 rfl) ?_
        refine lv_isub hx hb dX2_takeSome_48 ?_
        refine lv_topi (fun v50 ev50 => ?_)
        have tv50 := z_sub ev50 (rfl : (n).toInt = _) (by decide : (4 : Int32).toInt = 4) (by omega) (by omega)
        refine lv_icmp_gt (tgt := 114) hx hb dX2_takeSome_49 (by decide) (fun c51 => ?_) (fun c51 => ?_)
        · have fc51 := z_lt (rfl : (v50).toInt = _) (rfl : (x48_4).toInt = _) c51
          have hP9 : va_P (dC, dI) classes (WX h g ca (u2 (u2 iv 2 6 w48_i_2_6) 2 7 w48_i_2_7) lv (u2 fa 20 2 w48_a_20_2) (u2 (u2 la 20 0 w48_b_20_0) 20 1 w48_b_20_1)) H := hP
          have hD9 : va_D A (WX h g ca (u2 (u2 iv 2 6 w48_i_2_6) 2 7 w48_i_2_7) lv (u2 fa 20 2 w48_a_20_2) (u2 (u2 la 20 0 w48_b_20_0) 20 1 w48_b_20_1)) := hD
          exact W.vret hx hb hr (fun t ht9 hW => ⟨⟨((u2 (u2 iv 2 6 w48_i_2_6) 2 7 w48_i_2_7), lv, (u2 fa 20 2 w48_a_20_2), (u2 (u2 la 20 0 w48_b_20_0) 20 1 w48_b_20_1)), rfl, ⟨w48_a_20_2, w48_b_20_0, w48_b_20_1, w48_i_2_6, w48_i_2_7, rfl⟩, by rw [ht9]; exact hP9, hD9⟩, hS.F ht9⟩) hS.2.2 dX2_takeSome_114
        · have fc51 := z_nlt (rfl : (v50).toInt = _) (rfl : (x48_4).toInt = _) c51
          refine lv_aload_n hx hb dX2_takeSome_52 rfl (lv_at hl 1 rfl) ?_
          refine gX_2_2 hx hb ht hown hK hP m_306 dX2_takeSome_53 ?_
          refine lv_iload hx hb dX2_takeSome_56 (lv_at hl 0 rfl) ?_
          refine lX_2_2 hx hb hK hP (f := (fa 2 2)) rfl (vp_in_iff.mpr ⟨by omega, by omega⟩) dX2_takeSome_58 ?_
          refine lv_topi (fun v52 ev52 => ?_)
          have tv52 : 0 ≤ v52.toInt ∧ v52.toInt ≤ 59 := by rw [ev52]; exact hI.2 2 2 _
          refine lv_istore (lv' := [(5, .int v52), (4, .int x48_4), (0, .ref (g 11 6)), (1, .int 4), (2, .int k), (3, .int n)]) hx hb dX2_takeSome_59 hl (by decide) rfl (fun ls hl => ?_)
          refine lv_aload_n hx hb dX2_takeSome_61 rfl (lv_at hl 2 rfl) ?_
          refine lv_iconst (v := 1) hx hb dX2_takeSome_62 (by decide) ?_
          refine lv_iload hx hb dX2_takeSome_63 (lv_at hl 0 rfl) ?_
          have hFc := free_all hD hS hA
          refine va_callv (va_runV (As := [.int 1, .int v52]) (rest := []) ⟨hx, hb, hml, hown, ht⟩ (c_X2_heap l dC dI H.size h g ca (u2 (u2 iv 2 6 w48_i_2_6) 2 7 w48_i_2_7) lv (u2 fa 20 2 w48_a_20_2) (u2 (u2 la 20 0 w48_b_20_0) 20 1 w48_b_20_1) (IX_a (c := 20) (k := 2) (IX_i (c := 2) (k := 7) (IX_i (c := 2) (k := 6) hI (full_i _)) (full_i _)) hw48_a_20_2) 1 v52 ⟨by decide, by decide⟩ ⟨by omega, by omega⟩) (kV 2 ht m_890 m_892 m_33 m_85 m_893 rfl rfl hd_X2_heap_v ⟨Nat.le_of_ble_eq_true rfl, Nat.le_of_ble_eq_true rfl⟩) (vW hP hK hD (rX_2 hK hP)) rfl rfl hl.1 rfl (lv_room (Nat.le_of_ble_eq_true rfl)) dX2_takeSome_65 ⟨Nat.le_of_ble_eq_true rfl, Nat.le_of_ble_eq_true rfl⟩) hS (fun q _ h => hFc q h) hFc (fun u t H1 locs ht9 hvm hr53 hB hz1 hk1 hS => ?_)
          obtain ⟨n54, n55, n56, rfl⟩ := hr53
          have hn54 : ∀ j, inb (bA 20 2 j) (n54 j) := fun j => full_i _
          obtain ⟨hP, hD⟩ := hB
          rw [ht9] at hP
          generalize H1 = H at hP hS ⊢
          have hP : va_P (dC, dI) classes (WX h g ca (u2 (u2 iv 2 6 w48_i_2_6) 2 7 w48_i_2_7) lv (u2 fa 20 2 n54) (u2 (u2 la 20 0 n55) 20 1 n56)) H := hP
          have hD : va_D A (WX h g ca (u2 (u2 iv 2 6 w48_i_2_6) 2 7 w48_i_2_7) lv (u2 fa 20 2 n54) (u2 (u2 la 20 0 n55) 20 1 n56)) := (show va_D _ (WX h g ca (u2 (u2 iv 2 6 w48_i_2_6) 2 7 w48_i_2_7) lv (u2 fa 20 2 n54) (u2 (u2 la 20 0 n55) 20 1 n56)) from hD).weaken (fun _ _ _ h => hFc _ h)
          refine lv_aload_n hx hb dX2_takeSome_68 rfl (lv_at hl 2 rfl) ?_
          refine lv_iload_n hx hb dX2_takeSome_69 rfl (lv_at hl 3 rfl) ?_
          refine lv_iconst (v := 1) hx hb dX2_takeSome_70 (by decide) ?_
          refine lv_isub hx hb dX2_takeSome_71 ?_
          refine lv_topi (fun v57 ev57 => ?_)
          obtain rfl : 3 = v57 := (ev57.trans (by decide)).symm
          refine lv_iload hx hb dX2_takeSome_72 (lv_at hl 1 rfl) ?_
          refine lv_iconst (v := 1) hx hb dX2_takeSome_74 (by decide) ?_
          refine lv_iadd hx hb dX2_takeSome_75 ?_
          refine lv_topi (fun v58 ev58 => ?_)
          have tv58 := z_add ev58 (rfl : (x48_4).toInt = _) (by decide : (1 : Int32).toInt = 1) (by omega) (by omega)
          refine lv_iload_n hx hb dX2_takeSome_76 rfl (lv_at hl 5 rfl) ?_
          have hFc := free_all hD hS hA
          refine va_callv (va_runV (As := [.int 3, .int v58, .int n]) (rest := []) ⟨hx, hb, hml, hown, ht⟩ (c_X2_takeSome_3 l dC dI H.size h g ca (u2 (u2 iv 2 6 w48_i_2_6) 2 7 w48_i_2_7) lv (u2 fa 20 2 n54) (u2 (u2 la 20 0 n55) 20 1 n56) (IX_a (c := 20) (k := 2) (IX_i (c := 2) (k := 7) (IX_i (c := 2) (k := 6) hI (full_i _)) (full_i _)) hn54) v58 n ⟨by omega, by omega⟩ ⟨by omega, by omega⟩) (kV 3 ht m_933 m_935 m_38 m_85 m_936 rfl rfl hd_X2_takeSome_v ⟨Nat.le_of_ble_eq_true rfl, Nat.le_of_ble_eq_true rfl⟩) (vW hP hK hD (rX_2 hK hP)) rfl rfl hl.1 rfl (lv_room (Nat.le_of_ble_eq_true rfl)) dX2_takeSome_77 ⟨Nat.le_of_ble_eq_true rfl, Nat.le_of_ble_eq_true rfl⟩) hS (fun q _ h => hFc q h) hFc (fun u t H1 locs ht9 hvm hr59 hB hz1 hk1 hS => ?_)
          obtain ⟨n60, n61, n62, n63, n64, rfl⟩ := hr59
          have hn60 : ∀ j, inb (bA 20 2 j) (n60 j) := fun j => full_i _
          obtain ⟨hP, hD⟩ := hB
          rw [ht9] at hP
          generalize H1 = H at hP hS ⊢
          have hP : va_P (dC, dI) classes (WX h g ca (u2 (u2 iv 2 6 n63) 2 7 n64) lv (u2 fa 20 2 n60) (u2 (u2 la 20 0 n61) 20 1 n62)) H := hP
          have hD : va_D A (WX h g ca (u2 (u2 iv 2 6 n63) 2 7 n64) lv (u2 fa 20 2 n60) (u2 (u2 la 20 0 n61) 20 1 n62)) := (show va_D _ (WX h g ca (u2 (u2 iv 2 6 n63) 2 7 n64) lv (u2 fa 20 2 n60) (u2 (u2 la 20 0 n61) 20 1 n62)) from hD).weaken (fun _ _ _ h => hFc _ h)
          refine lv_aload_n hx hb dX2_takeSome_80 rfl (lv_at hl 2 rfl) ?_
          refine gX_2_1 hx hb ht hown hK hP m_305 dX2_takeSome_81 ?_
          refine lv_iconst (v := 1) hx hb dX2_takeSome_84 (by decide) ?_
          refine lv_aload_n hx hb dX2_takeSome_85 rfl (lv_at hl 2 rfl) ?_
          refine gX_2_0 hx hb ht hown hK hP m_304 dX2_takeSome_86 ?_
          refine lv_iload hx hb dX2_takeSome_89 (lv_at hl 0 rfl) ?_
          refine lv_iconst (v := 3) hx hb dX2_takeSome_91 (by decide) ?_
          refine vp_callSi (W.runV (As := [.int v52, .int 3]) (rest := [.int 1, .ref (g 2 1)]) ⟨hx, hb, hml, hown, ht⟩ (c_X10_get l dC dI h g ca (u2 (u2 iv 2 6 n63) 2 7 n64) lv (u2 fa 20 2 n60) (u2 (u2 la 20 0 n61) 20 1 n62) (IX_a (c := 20) (k := 2) (IX_i (c := 2) (k := 7) (IX_i (c := 2) (k := 6) hI (full_i _)) (full_i _)) hn60) v52 3 ⟨by omega, by omega⟩ ⟨by decide, by decide⟩) (kV 2 ht m_889 m_486 m_487 m_78 m_488 rfl rfl hd_X10_get_v ⟨Nat.le_of_ble_eq_true rfl, Nat.le_of_ble_eq_true rfl⟩) (vR hP hK (rX_10 hK hP)) rfl rfl hl.1 rfl (lv_room (Nat.le_of_ble_eq_true rfl)) dX2_takeSome_92 ⟨Nat.le_of_ble_eq_true rfl, Nat.le_of_ble_eq_true rfl⟩) (fun r65 hr65 => ?_)
          refine lv_aload_n hx hb dX2_takeSome_95 rfl (lv_at hl 2 rfl) ?_
          refine gX_2_0 hx hb ht hown hK hP m_304 dX2_takeSome_96 ?_
          refine lv_iload hx hb dX2_takeSome_99 (lv_at hl 0 rfl) ?_
          refine lv_iconst (v := 4) hx hb dX2_takeSome_101 (by decide) ?_
          refine vp_callSi (W.runV (As := [.int v52, .int 4]) (rest := [.int r65, .int 1, .ref (g 2 1)]) ⟨hx, hb, hml, hown, ht⟩ (c_X10_get l dC dI h g ca (u2 (u2 iv 2 6 n63) 2 7 n64) lv (u2 fa 20 2 n60) (u2 (u2 la 20 0 n61) 20 1 n62) (IX_a (c := 20) (k := 2) (IX_i (c := 2) (k := 7) (IX_i (c := 2) (k := 6) hI (full_i _)) (full_i _)) hn60) v52 4 ⟨by omega, by omega⟩ ⟨by decide, by decide⟩) (kV 2 ht m_889 m_486 m_487 m_78 m_488 rfl rfl hd_X10_get_v ⟨Nat.le_of_ble_eq_true rfl, Nat.le_of_ble_eq_true rfl⟩) (vR hP hK (rX_10 hK hP)) rfl rfl hl.1 rfl (lv_room (Nat.le_of_ble_eq_true rfl)) dX2_takeSome_102 ⟨Nat.le_of_ble_eq_true rfl, Nat.le_of_ble_eq_true rfl⟩) (fun r66 hr66 => ?_)
          have hFc := free_all hD hS hA
          refine va_callv (va_runV (As := [.int 1, .int r65, .int r66]) (rest := []) ⟨hx, hb, hml, hown, ht⟩ (c_X7_remove_20 l dC dI H.size h g ca (u2 (u2 iv 2 6 n63) 2 7 n64) lv (u2 fa 20 2 n60) (u2 (u2 la 20 0 n61) 20 1 n62) (IX_a (c := 20) (k := 2) (IX_i (c := 2) (k := 7) (IX_i (c := 2) (k := 6) hI (full_i _)) (full_i _)) hn60) 1 r65 r66 ⟨by decide, by decide⟩) (kV 3 ht m_937 m_938 m_939 m_84 m_940 rfl rfl hd_X7_remove_v ⟨Nat.le_of_ble_eq_true rfl, Nat.le_of_ble_eq_true rfl⟩) (vW hP hK hD (rX_20 hK hP)) rfl rfl hl.1 rfl (lv_room (Nat.le_of_ble_eq_true rfl)) dX2_takeSome_105 ⟨Nat.le_of_ble_eq_true rfl, Nat.le_of_ble_eq_true rfl⟩) hS (fun q _ h => hFc q h) hFc (fun u t H1 locs ht9 hvm hr67 hB hz1 hk1 hS => ?_)
          obtain ⟨n68, n69, n70, rfl⟩ := hr67
          have hn68 : ∀ j, inb (bA 20 2 j) (n68 j) := fun j => full_i _
          obtain ⟨hP, hD⟩ := hB
          rw [ht9] at hP
          generalize H1 = H at hP hS ⊢
          have hP : va_P (dC, dI) classes (WX h g ca (u2 (u2 iv 2 6 n63) 2 7 n64) lv (u2 fa 20 2 n68) (u2 (u2 la 20 0 n69) 20 1 n70)) H := hP
          have hD : va_D A (WX h g ca (u2 (u2 iv 2 6 n63) 2 7 n64) lv (u2 fa 20 2 n68) (u2 (u2 la 20 0 n69) 20 1 n70)) := (show va_D _ (WX h g ca (u2 (u2 iv 2 6 n63) 2 7 n64) lv (u2 fa 20 2 n68) (u2 (u2 la 20 0 n69) 20 1 n70)) from hD).weaken (fun _ _ _ h => hFc _ h)
          obtain ⟨v71, ev71⟩ : ∃ y : Int32, y = x48_4 + 1 := ⟨_, rfl⟩
          have tv71 := z_add ev71 rfl (by decide : (1 : Int32).toInt = 1) (by omega) (by omega)
          refine lv_iinc (v := v71) (lv' := [(4, .int v71), (5, .int v52), (0, .ref (g 11 6)), (1, .int 4), (2, .int k), (3, .int n)]) hx hb dX2_takeSome_108 hl (k := 1) rfl (by rw [ev71]; rfl) (by decide) rfl (fun ls hl => ?_)
          refine lv_goto (tgt := 44) hx hb dX2_takeSome_111 (by decide) ?_
          exact ih49 v71 n63 n64 n68 n69 n70 ⟨by omega, by omega⟩ hn68 (by omega) _ _ ls hP hD hS (lv_sub hl [0, 2, 3, 4, 5] rfl)
    exact lp49 13 k (iv 2 6) (iv 2 7) (fa 20 2) (la 20 0) (la 20 1) ⟨by omega, by omega⟩ (hI.2 20 2) (by first | decide | omega) _ _ ls hP hD hS (lv_sub hl [0, 1, 2, 3, 4] rfl)
  · exact absurd c1 (by decide)
set_option maxHeartbeats 4000000 in
set_option maxRecDepth 100000 in
/-- X2_takeSome -/
theorem c_X2_takeSome_5 (l : Launch) (dC : Nat → ClassId) (dI : Nat → Nat → Nat) (sz : Nat) (h : Nat) (g : Nat → Nat → Nat) (ca : Nat → Nat → ClassId) (iv : Nat → Nat → Int32) (lv : Nat → Nat → Int64) (fa : Nat → Nat → Nat → Int32) (la : Nat → Nat → Nat → Int64) (hI : IX iv fa) (k : Int32) (n : Int32) (h_k : 0 ≤ k.toInt ∧ k.toInt ≤ 12) (h_n : 0 ≤ n.toInt ∧ n.toInt ≤ 12) : Met l yX2_takeSome (wc yX2_takeSome cX2_takeSome 6 none) ({ frames := 7, cells := 0, slots := 0, locals := 188 } : Room) (pW (dC, dI) classes (WX h g ca iv lv fa la) (TX ca) sz [.ref (g 11 6), .int 5, .int k, .int n]) (va_Qv (fun (u : SS) => ∃ (na_20_2 : Nat → Int32) (nb_20_0 : Nat → Int64) (nb_20_1 : Nat → Int64) (ni_2_6 : Int32) (ni_2_7 : Int32), u = ((u2 (u2 iv 2 6 ni_2_6) 2 7 ni_2_7), lv, (u2 fa 20 2 na_20_2), (u2 (u2 la 20 0 nb_20_0) 20 1 nb_20_1))) (bX (dC, dI) h g ca (va_A (WX h g ca iv lv fa la) sz)) (va_A (WX h g ca iv lv fa la) sz)) 0 0 (va_A (WX h g ca iv lv fa la) sz) := by
  refine Met.ofW (cc := cX2_takeSome) (maxL := 6) (ret := none) (by decide) rfl ?_
  intro p e s m args below meth c s₁ B hml hv
  obtain ⟨rfl, hsz, hP, hK, hD0⟩ := hv
  have hx := B.exec
  have hb := B.bytes
  have hr := B.returns
  have ht := tb_tl (atoms_spec (ws := wc yX2_takeSome cX2_takeSome 6 none) B.pre)
  have hown : s.vm.findClass RX2 = some m.cls := findClass_of_methodNamed B.named
  have hlocks := B.notSynchronized
  subst hsz
  have hD := hD0.self (sz := s.heap.size)
  generalize hAe : va_A (WX h g ca iv lv fa la) s.heap.size = A at hD ⊢
  have hA : ∀ q : Nat, s.heap.size ≤ q → A q := fun q h => by rw [← hAe]; exact Or.inr h
  have hS : va_S A s.heap s.heap [] := va_S.rf
  have hl := lv_entry [.ref (g 11 6), .int 5, .int k, .int n] (n := 6) (Nat.le_of_ble_eq_true rfl)
  rw [lg_entry_eq]
  generalize (lg_sl [.ref (g 11 6), .int 5, .int k, .int n] ++ List.replicate (6 - (lg_sl [.ref (g 11 6), .int 5, .int k, .int n]).length) Slot.unset).toArray = ls at hl ⊢
  have hl : lv_has ls 6 [(0, .ref (g 11 6)), (1, .int 5), (2, .int k), (3, .int n)] := hl
  refine lv_iload_n hx hb dX2_takeSome_0 rfl (lv_at hl 1 rfl) ?_
  refine lv_if_gt (tgt := 41) hx hb dX2_takeSome_1 (by decide) (fun c1 => ?_) (fun c1 => ?_)
  · skip
    refine lv_iload_n hx hb dX2_takeSome_41 rfl (lv_at hl 2 rfl) ?_
    refine lv_istore (lv' := [(4, .int k), (0, .ref (g 11 6)), (1, .int 5), (2, .int k), (3, .int n)]) hx hb dX2_takeSome_42 hl (by decide) rfl (fun ls hl => ?_)
    have lp49 : ∀ (nn49 : Nat) (x48_4 : Int32) (w48_i_2_6 : Int32) (w48_i_2_7 : Int32) (w48_a_20_2 : Nat → Int32) (w48_b_20_0 : Nat → Int64) (w48_b_20_1 : Nat → Int64), 0 ≤ x48_4.toInt ∧ x48_4.toInt ≤ 12 → (∀ j, inb (bA 20 2 j) (w48_a_20_2 j)) → 12 - x48_4.toInt < (nn49 : Int) → ∀ (H : Heap) (locs : List Loc), ∀ (ls : Array Slot), va_P (dC, dI) classes (WX h g ca (u2 (u2 iv 2 6 w48_i_2_6) 2 7 w48_i_2_7) lv (u2 fa 20 2 w48_a_20_2) (u2 (u2 la 20 0 w48_b_20_0) 20 1 w48_b_20_1)) H → va_D A (WX h g ca (u2 (u2 iv 2 6 w48_i_2_6) 2 7 w48_i_2_7) lv (u2 fa 20 2 w48_a_20_2) (u2 (u2 la 20 0 w48_b_20_0) 20 1 w48_b_20_1)) → va_S A s.heap H locs → lv_has ls 6 [(4, .int x48_4), (0, .ref (g 11 6)), (1, .int 5), (2, .int k), (3, .int n)] → W p l e ({ frames := 7, cells := 0, slots := 0, locals := 188 } : Room) s m ([.ref (g 11 6), .int 5, .int k, .int n] : List Value).toArray below meth c H locs 0 0 (MQ below (va_Qv (fun (u : SS) => ∃ (na_20_2 : Nat → Int32) (nb_20_0 : Nat → Int64) (nb_20_1 : Nat → Int64) (ni_2_6 : Int32) (ni_2_7 : Int32), u = ((u2 (u2 iv 2 6 ni_2_6) 2 7 ni_2_7), lv, (u2 fa 20 2 na_20_2), (u2 (u2 la 20 0 nb_20_0) 20 1 nb_20_1))) (bX (dC, dI) h g ca A) A) ([.ref (g 11 6), .int 5, .int k, .int n] : List Value).toArray s 0 0 A) (F0 m 44 ls []) := by
      intro nn49
      induction nn49 with
      | zero => intro x48_4 w48_i_2_6 w48_i_2_7 w48_a_20_2 w48_b_20_0 w48_b_20_1 hx48_4 hw48_a_20_2 hm49; exfalso; omega
      | succ nn49 ih49 =>
        intro x48_4 w48_i_2_6 w48_i_2_7 w48_a_20_2 w48_b_20_0 w48_b_20_1 hx48_4 hw48_a_20_2 hm49 H locs ls hP hD hS hl
        refine lv_iload hx hb dX2_takeSome_44 (lv_at hl 0 rfl) ?_
        refine lv_iload_n hx hb dX2_takeSome_46 rfl (lv_at hl 4 rfl) ?_
        refine lv_iload_n hx hb dX2_takeSome_47 rfl (lv_at hl 2 rfl) ?_
        refine lv_isub hx hb dX2_takeSome_48 ?_
        refine lv_topi (fun v50 ev50 => ?_)
        have tv50 := z_sub ev50 (rfl : (n).toInt = _) (by decide : (5 : Int32).toInt = 5) (by omega) (by omega)
        refine lv_icmp_gt (tgt := 114) hx hb dX2_takeSome_49 (by decide) (fun c51 => ?_) (fun c51 => ?_)
        · have fc51 := z_lt (rfl : (v50).toInt = _) (rfl : (x48_4).toInt = _) c51
          have hP9 : va_P (dC, dI) classes (WX h g ca (u2 (u2 iv 2 6 w48_i_2_6) 2 7 w48_i_2_7) lv (u2 fa 20 2 w48_a_20_2) (u2 (u2 la 20 0 w48_b_20_0) 20 1 w48_b_20_1)) H := hP
          have hD9 : va_D A (WX h g ca (u2 (u2 iv 2 6 w48_i_2_6) 2 7 w48_i_2_7) lv (u2 fa 20 2 w48_a_20_2) (u2 (u2 la 20 0 w48_b_20_0) 20 1 w48_b_20_1)) := hD
          exact W.vret hx hb hr (fun t ht9 hW => ⟨⟨((u2 (u2 iv 2 6 w48_i_2_6) 2 7 w48_i_2_7), lv, (u2 fa 20 2 w48_a_20_2), (u2 (u2 la 20 0 w48_b_20_0) 20 1 w48_b_20_1)), rfl, ⟨w48_a_20_2, w48_b_20_0, w48_b_20_1, w48_i_2_6, w48_i_2_7, rfl⟩, by rw [ht9]; exact hP9, hD9⟩, hS.F ht9⟩) hS.2.2 dX2_takeSome_114
        · have fc51 := z_nlt (rfl : (v50).toInt = _) (rfl : (x48_4).toInt = _) c51
          refine lv_aload_n hx hb dX2_takeSome_52 rfl (lv_at hl 1 rfl) ?_
          refine gX_2_2 hx hb ht hown hK hP m_306 dX2_takeSome_53 ?_
          refine lv_iload hx hb dX2_takeSome_56 (lv_at hl 0 rfl) ?_
          refine lX_2_2 hx hb hK hP (f := (fa 2 2)) rfl (vp_in_iff.mpr ⟨by omega, by omega⟩) dX2_takeSome_58 ?_
          refine lv_topi (fun v52 ev52 => ?_)
          have tv52 : 0 ≤ v52.toInt ∧ v52.toInt ≤ 59 := by rw [ev52]; exact hI.2 2 2 _
          refine lv_istore (lv' := [(5, .int v52), (4, .int x48_4), (0, .ref (g 11 6)), (1, .int 5), (2, .int k), (3, .int n)]) hx hb dX2_takeSome_59 hl (by decide) rfl (fun ls hl => ?_)
          refine lv_aload_n hx hb dX2_takeSome_61 rfl (lv_at hl 2 rfl) ?_
          refine lv_iconst (v := 1) hx hb dX2_takeSome_62 (by decide) ?_
          refine lv_iload hx hb dX2_takeSome_63 (lv_at hl 0 rfl) ?_
          have hFc := free_all hD hS hA
          refine va_callv (va_runV (As := [.int 1, .int v52]) (rest := []) ⟨hx, hb, hml, hown, ht⟩ (c_X2_heap l dC dI H.size h g ca (u2 (u2 iv 2 6 w48_i_2_6) 2 7 w48_i_2_7) lv (u2 fa 20 2 w48_a_20_2) (u2 (u2 la 20 0 w48_b_20_0) 20 1 w48_b_20_1) (IX_a (c := 20) (k := 2) (IX_i (c := 2) (k := 7) (IX_i (c := 2) (k := 6) hI (full_i _)) (full_i _)) hw48_a_20_2) 1 v52 ⟨by decide, by decide⟩ ⟨by omega, by omega⟩) (kV 2 ht m_890 m_892 m_33 m_85 m_893 rfl rfl hd_X2_heap_v ⟨Nat.le_of_ble_eq_true rfl, Nat.le_of_ble_eq_true rfl⟩) (vW hP hK hD (rX_2 hK hP)) rfl rfl hl.1 rfl (lv_room (Nat.le_of_ble_eq_true rfl)) dX2_takeSome_65 ⟨Nat.le_of_ble_eq_true rfl, Nat.le_of_ble_eq_true rfl⟩) hS (fun q _ h => hFc q h) hFc (fun u t H1 locs ht9 hvm hr53 hB hz1 hk1 hS => ?_)
          obtain ⟨n54, n55, n56, rfl⟩ := hr53
          have hn54 : ∀ j, inb (bA 20 2 j) (n54 j) := fun j => full_i _
          obtain ⟨hP, hD⟩ := hB
          rw [ht9] at hP
          generalize H1 = H at hP hS ⊢
          have hP : va_P (dC, dI) classes (WX h g ca (u2 (u2 iv 2 6 w48_i_2_6) 2 7 w48_i_2_7) lv (u2 fa 20 2 n54) (u2 (u2 la 20 0 n55) 20 1 n56)) H := hP
          have hD : va_D A (WX h g ca (u2 (u2 iv 2 6 w48_i_2_6) 2 7 w48_i_2_7) lv (u2 fa 20 2 n54) (u2 (u2 la 20 0 n55) 20 1 n56)) := (show va_D _ (WX h g ca (u2 (u2 iv 2 6 w48_i_2_6) 2 7 w48_i_2_7) lv (u2 fa 20 2 n54) (u2 (u2 la 20 0 n55) 20 1 n56)) from hD).weaken (fun _ _ _ h => hFc _ h)
          refine lv_aload_n hx hb dX2_takeSome_68 rfl (lv_at hl 2 rfl) ?_
          refine lv_iload_n hx hb dX2_takeSome_69 rfl (lv_at hl 3 rfl) ?_
          refine lv_iconst (v := 1) hx hb dX2_takeSome_70 (by decide) ?_
          refine lv_isub hx hb dX2_takeSome_71 ?_
          refine lv_topi (fun v57 ev57 => ?_)
          obtain rfl : 4 = v57 := (ev57.trans (by decide)).symm
          refine lv_iload hx hb dX2_takeSome_72 (lv_at hl 1 rfl) ?_
          refine lv_iconst (v := 1) hx hb dX2_takeSome_74 (by decide) ?_
          refine lv_iadd hx hb dX2_takeSome_75 ?_
          refine lv_topi (fun v58 ev58 => ?_)
          have tv58 := z_add ev58 (rfl : (x48_4).toInt = _) (by decide : (1 : Int32).toInt = 1) (by omega) (by omega)
          refine lv_iload_n hx hb dX2_takeSome_76 rfl (lv_at hl 5 rfl) ?_
          have hFc := free_all hD hS hA
          refine va_callv (va_runV (As := [.int 4, .int v58, .int n]) (rest := []) ⟨hx, hb, hml, hown, ht⟩ (c_X2_takeSome_4 l dC dI H.size h g ca (u2 (u2 iv 2 6 w48_i_2_6) 2 7 w48_i_2_7) lv (u2 fa 20 2 n54) (u2 (u2 la 20 0 n55) 20 1 n56) (IX_a (c := 20) (k := 2) (IX_i (c := 2) (k := 7) (IX_i (c := 2) (k := 6) hI (full_i _)) (full_i _)) hn54) v58 n ⟨by omega, by omega⟩ ⟨by omega, by omega⟩) (kV 3 ht m_933 m_935 m_38 m_85 m_936 rfl rfl hd_X2_takeSome_v ⟨Nat.le_of_ble_eq_true rfl, Nat.le_of_ble_eq_true rfl⟩) (vW hP hK hD (rX_2 hK hP)) rfl rfl hl.1 rfl (lv_room (Nat.le_of_ble_eq_true rfl)) dX2_takeSome_77 ⟨Nat.le_of_ble_eq_true rfl, Nat.le_of_ble_eq_true rfl⟩) hS (fun q _ h => hFc q h) hFc (fun u t H1 locs ht9 hvm hr59 hB hz1 hk1 hS => ?_)
          obtain ⟨n60, n61, n62, n63, n64, rfl⟩ := hr59
          have hn60 : ∀ j, inb (bA 20 2 j) (n60 j) := fun j => full_i _
          obtain ⟨hP, hD⟩ := hB
          rw [ht9] at hP
          generalize H1 = H at hP hS ⊢
          have hP : va_P (dC, dI) classes (WX h g ca (u2 (u2 iv 2 6 n63) 2 7 n64) lv (u2 fa 20 2 n60) (u2 (u2 la 20 0 n61) 20 1 n62)) H := hP
          have hD : va_D A (WX h g ca (u2 (u2 iv 2 6 n63) 2 7 n64) lv (u2 fa 20 2 n60) (u2 (u2 la 20 0 n61) 20 1 n62)) := (show va_D _ (WX h g ca (u2 (u2 iv 2 6 n63) 2 7 n64) lv (u2 fa 20 2 n60) (u2 (u2 la 20 0 n61) 20 1 n62)) from hD).weaken (fun _ _ _ h => hFc _ h)
          refine lv_aload_n hx hb dX2_takeSome_80 rfl (lv_at hl 2 rfl) ?_
          refine gX_2_1 hx hb ht hown hK hP m_305 dX2_takeSome_81 ?_
          refine lv_iconst (v := 1) hx hb dX2_takeSome_84 (by decide) ?_
          refine lv_aload_n hx hb dX2_takeSome_85 rfl (lv_at hl 2 rfl) ?_
          refine gX_2_0 hx hb ht hown hK hP m_304 dX2_takeSome_86 ?_
          refine lv_iload hx hb dX2_takeSome_89 (lv_at hl 0 rfl) ?_
          refine lv_iconst (v := 3) hx hb dX2_takeSome_91 (by decide) ?_
          refine vp_callSi (W.runV (As := [.int v52, .int 3]) (rest := [.int 1, .ref (g 2 1)]) ⟨hx, hb, hml, hown, ht⟩ (c_X10_get l dC dI h g ca (u2 (u2 iv 2 6 n63) 2 7 n64) lv (u2 fa 20 2 n60) (u2 (u2 la 20 0 n61) 20 1 n62) (IX_a (c := 20) (k := 2) (IX_i (c := 2) (k := 7) (IX_i (c := 2) (k := 6) hI (full_i _)) (full_i _)) hn60) v52 3 ⟨by omega, by omega⟩ ⟨by decide, by decide⟩) (kV 2 ht m_889 m_486 m_487 m_78 m_488 rfl rfl hd_X10_get_v ⟨Nat.le_of_ble_eq_true rfl, Nat.le_of_ble_eq_true rfl⟩) (vR hP hK (rX_10 hK hP)) rfl rfl hl.1 rfl (lv_room (Nat.le_of_ble_eq_true rfl)) dX2_takeSome_92 ⟨Nat.le_of_ble_eq_true rfl, Nat.le_of_ble_eq_true rfl⟩) (fun r65 hr65 => ?_)
          refine lv_aload_n hx hb dX2_takeSome_95 rfl (lv_at hl 2 rfl) ?_
          refine gX_2_0 hx hb ht hown hK hP m_304 dX2_takeSome_96 ?_
          refine lv_iload hx hb dX2_takeSome_99 (lv_at hl 0 rfl) ?_
          refine lv_iconst (v := 4) hx hb dX2_takeSome_101 (by decide) ?_
          refine vp_callSi (W.runV (As := [.int v52, .int 4]) (rest := [.int r65, .int 1, .ref (g 2 1)]) ⟨hx, hb, hml, hown, ht⟩ (c_X10_get l dC dI h g ca (u2 (u2 iv 2 6 n63) 2 7 n64) lv (u2 fa 20 2 n60) (u2 (u2 la 20 0 n61) 20 1 n62) (IX_a (c := 20) (k := 2) (IX_i (c := 2) (k := 7) (IX_i (c := 2) (k := 6) hI (full_i _)) (full_i _)) hn60) v52 4 ⟨by omega, by omega⟩ ⟨by decide, by decide⟩) (kV 2 ht m_889 m_486 m_487 m_78 m_488 rfl rfl hd_X10_get_v ⟨Nat.le_of_ble_eq_true rfl, Nat.le_of_ble_eq_true rfl⟩) (vR hP hK (rX_10 hK hP)) rfl rfl hl.1 rfl (lv_room (Nat.le_of_ble_eq_true rfl)) dX2_takeSome_102 ⟨Nat.le_of_ble_eq_true rfl, Nat.le_of_ble_eq_true rfl⟩) (fun r66 hr66 => ?_)
          have hFc := free_all hD hS hA
          refine va_callv (va_runV (As := [.int 1, .int r65, .int r66]) (rest := []) ⟨hx, hb, hml, hown, ht⟩ (c_X7_remove_20 l dC dI H.size h g ca (u2 (u2 iv 2 6 n63) 2 7 n64) lv (u2 fa 20 2 n60) (u2 (u2 la 20 0 n61) 20 1 n62) (IX_a (c := 20) (k := 2) (IX_i (c := 2) (k := 7) (IX_i (c := 2) (k := 6) hI (full_i _)) (full_i _)) hn60) 1 r65 r66 ⟨by decide, by decide⟩) (kV 3 ht m_937 m_938 m_939 m_84 m_940 rfl rfl hd_X7_remove_v ⟨Nat.le_of_ble_eq_true rfl, Nat.le_of_ble_eq_true rfl⟩) (vW hP hK hD (rX_20 hK hP)) rfl rfl hl.1 rfl (lv_room (Nat.le_of_ble_eq_true rfl)) dX2_takeSome_105 ⟨Nat.le_of_ble_eq_true rfl, Nat.le_of_ble_eq_true rfl⟩) hS (fun q _ h => hFc q h) hFc (fun u t H1 locs ht9 hvm hr67 hB hz1 hk1 hS => ?_)
          obtain ⟨n68, n69, n70, rfl⟩ := hr67
          have hn68 : ∀ j, inb (bA 20 2 j) (n68 j) := fun j => full_i _
          obtain ⟨hP, hD⟩ := hB
          rw [ht9] at hP
          generalize H1 = H at hP hS ⊢
          have hP : va_P (dC, dI) classes (WX h g ca (u2 (u2 iv 2 6 n63) 2 7 n64) lv (u2 fa 20 2 n68) (u2 (u2 la 20 0 n69) 20 1 n70)) H := hP
          have hD : va_D A (WX h g ca (u2 (u2 iv 2 6 n63) 2 7 n64) lv (u2 fa 20 2 n68) (u2 (u2 la 20 0 n69) 20 1 n70)) := (show va_D _ (WX h g ca (u2 (u2 iv 2 6 n63) 2 7 n64) lv (u2 fa 20 2 n68) (u2 (u2 la 20 0 n69) 20 1 n70)) from hD).weaken (fun _ _ _ h => hFc _ h)
          obtain ⟨v71, ev71⟩ : ∃ y : Int32, y = x48_4 + 1 := ⟨_, rfl⟩
          have tv71 := z_add ev71 rfl (by decide : (1 : Int32).toInt = 1) (by omega) (by omega)
          refine lv_iinc (v := v71) (lv' := [(4, .int v71), (5, .int v52), (0, .ref (g 11 6)), (1, .int 5), (2, .int k), (3, .int n)]) hx hb dX2_takeSome_108 hl (k := 1) rfl (by rw [ev71]; rfl) (by decide) rfl (fun ls hl => ?_)
          refine lv_goto (tgt := 44) hx hb dX2_takeSome_111 (by decide) ?_
          exact ih49 v71 n63 n64 n68 n69 n70 ⟨by omega, by omega⟩ hn68 (by omega) _ _ ls hP hD hS (lv_sub hl [0, 2, 3, 4, 5] rfl)
    exact lp49 13 k (iv 2 6) (iv 2 7) (fa 20 2) (la 20 0) (la 20 1) ⟨by omega, by omega⟩ (hI.2 20 2) (by first | decide | omega) _ _ ls hP hD hS (lv_sub hl [0, 1, 2, 3, 4] rfl)
  · exact absurd c1 (by decide)
set_option maxHeartbeats 4000000 in
set_option maxRecDepth 100000 in
/-- X2_takeSome -/
theorem c_X2_takeSome_6 (l : Launch) (dC : Nat → ClassId) (dI : Nat → Nat → Nat) (sz : Nat) (h : Nat) (g : Nat → Nat → Nat) (ca : Nat → Nat → ClassId) (iv : Nat → Nat → Int32) (lv : Nat → Nat → Int64) (fa : Nat → Nat → Nat → Int32) (la : Nat → Nat → Nat → Int64) (hI : IX iv fa) (k : Int32) (n : Int32) (h_k : 0 ≤ k.toInt ∧ k.toInt ≤ 12) (h_n : 0 ≤ n.toInt ∧ n.toInt ≤ 12) : Met l yX2_takeSome (wc yX2_takeSome cX2_takeSome 6 none) ({ frames := 8, cells := 0, slots := 0, locals := 213 } : Room) (pW (dC, dI) classes (WX h g ca iv lv fa la) (TX ca) sz [.ref (g 11 6), .int 6, .int k, .int n]) (va_Qv (fun (u : SS) => ∃ (na_20_2 : Nat → Int32) (nb_20_0 : Nat → Int64) (nb_20_1 : Nat → Int64) (ni_2_6 : Int32) (ni_2_7 : Int32), u = ((u2 (u2 iv 2 6 ni_2_6) 2 7 ni_2_7), lv, (u2 fa 20 2 na_20_2), (u2 (u2 la 20 0 nb_20_0) 20 1 nb_20_1))) (bX (dC, dI) h g ca (va_A (WX h g ca iv lv fa la) sz)) (va_A (WX h g ca iv lv fa la) sz)) 0 0 (va_A (WX h g ca iv lv fa la) sz) := by
  refine Met.ofW (cc := cX2_takeSome) (maxL := 6) (ret := none) (by decide) rfl ?_
  intro p e s m args below meth c s₁ B hml hv
  obtain ⟨rfl, hsz, hP, hK, hD0⟩ := hv
  have hx := B.exec
  have hb := B.bytes
  have hr := B.returns
  have ht := tb_tl (atoms_spec (ws := wc yX2_takeSome cX2_takeSome 6 none) B.pre)
  have hown : s.vm.findClass RX2 = some m.cls := findClass_of_methodNamed B.named
  have hlocks := B.notSynchronized
  subst hsz
  have hD := hD0.self (sz := s.heap.size)
  generalize hAe : va_A (WX h g ca iv lv fa la) s.heap.size = A at hD ⊢
  have hA : ∀ q : Nat, s.heap.size ≤ q → A q := fun q h => by rw [← hAe]; exact Or.inr h
  have hS : va_S A s.heap s.heap [] := va_S.rf
  have hl := lv_entry [.ref (g 11 6), .int 6, .int k, .int n] (n := 6) (Nat.le_of_ble_eq_true rfl)
  rw [lg_entry_eq]
  generalize (lg_sl [.ref (g 11 6), .int 6, .int k, .int n] ++ List.replicate (6 - (lg_sl [.ref (g 11 6), .int 6, .int k, .int n]).length) Slot.unset).toArray = ls at hl ⊢
  have hl : lv_has ls 6 [(0, .ref (g 11 6)), (1, .int 6), (2, .int k), (3, .int n)] := hl
  refine lv_iload_n hx hb dX2_takeSome_0 rfl (lv_at hl 1 rfl) ?_
  refine lv_if_gt (tgt := 41) hx hb dX2_takeSome_1 (by decide) (fun c1 => ?_) (fun c1 => ?_)
  · skip
    refine lv_iload_n hx hb dX2_takeSome_41 rfl (lv_at hl 2 rfl) ?_
    refine lv_istore (lv' := [(4, .int k), (0, .ref (g 11 6)), (1, .int 6), (2, .int k), (3, .int n)]) hx hb dX2_takeSome_42 hl (by decide) rfl (fun ls hl => ?_)
    have lp49 : ∀ (nn49 : Nat) (x48_4 : Int32) (w48_i_2_6 : Int32) (w48_i_2_7 : Int32) (w48_a_20_2 : Nat → Int32) (w48_b_20_0 : Nat → Int64) (w48_b_20_1 : Nat → Int64), 0 ≤ x48_4.toInt ∧ x48_4.toInt ≤ 12 → (∀ j, inb (bA 20 2 j) (w48_a_20_2 j)) → 12 - x48_4.toInt < (nn49 : Int) → ∀ (H : Heap) (locs : List Loc), ∀ (ls : Array Slot), va_P (dC, dI) classes (WX h g ca (u2 (u2 iv 2 6 w48_i_2_6) 2 7 w48_i_2_7) lv (u2 fa 20 2 w48_a_20_2) (u2 (u2 la 20 0 w48_b_20_0) 20 1 w48_b_20_1)) H → va_D A (WX h g ca (u2 (u2 iv 2 6 w48_i_2_6) 2 7 w48_i_2_7) lv (u2 fa 20 2 w48_a_20_2) (u2 (u2 la 20 0 w48_b_20_0) 20 1 w48_b_20_1)) → va_S A s.heap H locs → lv_has ls 6 [(4, .int x48_4), (0, .ref (g 11 6)), (1, .int 6), (2, .int k), (3, .int n)] → W p l e ({ frames := 8, cells := 0, slots := 0, locals := 213 } : Room) s m ([.ref (g 11 6), .int 6, .int k, .int n] : List Value).toArray below meth c H locs 0 0 (MQ below (va_Qv (fun (u : SS) => ∃ (na_20_2 : Nat → Int32) (nb_20_0 : Nat → Int64) (nb_20_1 : Nat → Int64) (ni_2_6 : Int32) (ni_2_7 : Int32), u = ((u2 (u2 iv 2 6 ni_2_6) 2 7 ni_2_7), lv, (u2 fa 20 2 na_20_2), (u2 (u2 la 20 0 nb_20_0) 20 1 nb_20_1))) (bX (dC, dI) h g ca A) A) ([.ref (g 11 6), .int 6, .int k, .int n] : List Value).toArray s 0 0 A) (F0 m 44 ls []) := by
      intro nn49
      induction nn49 with
      | zero => intro x48_4 w48_i_2_6 w48_i_2_7 w48_a_20_2 w48_b_20_0 w48_b_20_1 hx48_4 hw48_a_20_2 hm49; exfalso; omega
      | succ nn49 ih49 =>
        intro x48_4 w48_i_2_6 w48_i_2_7 w48_a_20_2 w48_b_20_0 w48_b_20_1 hx48_4 hw48_a_20_2 hm49 H locs ls hP hD hS hl
        refine lv_iload hx hb dX2_takeSome_44 (lv_at hl 0 rfl) ?_
        refine lv_iload_n hx hb dX2_takeSome_46 rfl (lv_at hl 4 rfl) ?_
        refine lv_iload_n hx hb dX2_takeSome_47 rfl (lv_at hl 2 rfl) ?_
        refine lv_isub hx hb dX2_takeSome_48 ?_
        refine lv_topi (fun v50 ev50 => ?_)
        have tv50 := z_sub ev50 (rfl : (n).toInt = _) (by decide : (6 : Int32).toInt = 6) (by omega) (by omega)
        refine lv_icmp_gt (tgt := 114) hx hb dX2_takeSome_49 (by decide) (fun c51 => ?_) (fun c51 => ?_)
        · have fc51 := z_lt (rfl : (v50).toInt = _) (rfl : (x48_4).toInt = _) c51
          have hP9 : va_P (dC, dI) classes (WX h g ca (u2 (u2 iv 2 6 w48_i_2_6) 2 7 w48_i_2_7) lv (u2 fa 20 2 w48_a_20_2) (u2 (u2 la 20 0 w48_b_20_0) 20 1 w48_b_20_1)) H := hP
          have hD9 : va_D A (WX h g ca (u2 (u2 iv 2 6 w48_i_2_6) 2 7 w48_i_2_7) lv (u2 fa 20 2 w48_a_20_2) (u2 (u2 la 20 0 w48_b_20_0) 20 1 w48_b_20_1)) := hD
          exact W.vret hx hb hr (fun t ht9 hW => ⟨⟨((u2 (u2 iv 2 6 w48_i_2_6) 2 7 w48_i_2_7), lv, (u2 fa 20 2 w48_a_20_2), (u2 (u2 la 20 0 w48_b_20_0) 20 1 w48_b_20_1)), rfl, ⟨w48_a_20_2, w48_b_20_0, w48_b_20_1, w48_i_2_6, w48_i_2_7, rfl⟩, by rw [ht9]; exact hP9, hD9⟩, hS.F ht9⟩) hS.2.2 dX2_takeSome_114
        · have fc51 := z_nlt (rfl : (v50).toInt = _) (rfl : (x48_4).toInt = _) c51
          refine lv_aload_n hx hb dX2_takeSome_52 rfl (lv_at hl 1 rfl) ?_
          refine gX_2_2 hx hb ht hown hK hP m_306 dX2_takeSome_53 ?_
          refine lv_iload hx hb dX2_takeSome_56 (lv_at hl 0 rfl) ?_
          refine lX_2_2 hx hb hK hP (f := (fa 2 2)) rfl (vp_in_iff.mpr ⟨by omega, by omega⟩) dX2_takeSome_58 ?_
          refine lv_topi (fun v52 ev52 => ?_)
          have tv52 : 0 ≤ v52.toInt ∧ v52.toInt ≤ 59 := by rw [ev52]; exact hI.2 2 2 _
          refine lv_istore (lv' := [(5, .int v52), (4, .int x48_4), (0, .ref (g 11 6)), (1, .int 6), (2, .int k), (3, .int n)]) hx hb dX2_takeSome_59 hl (by decide) rfl (fun ls hl => ?_)
          refine lv_aload_n hx hb dX2_takeSome_61 rfl (lv_at hl 2 rfl) ?_
          refine lv_iconst (v := 1) hx hb dX2_takeSome_62 (by decide) ?_
          refine lv_iload hx hb dX2_takeSome_63 (lv_at hl 0 rfl) ?_
          have hFc := free_all hD hS hA
          refine va_callv (va_runV (As := [.int 1, .int v52]) (rest := []) ⟨hx, hb, hml, hown, ht⟩ (c_X2_heap l dC dI H.size h g ca (u2 (u2 iv 2 6 w48_i_2_6) 2 7 w48_i_2_7) lv (u2 fa 20 2 w48_a_20_2) (u2 (u2 la 20 0 w48_b_20_0) 20 1 w48_b_20_1) (IX_a (c := 20) (k := 2) (IX_i (c := 2) (k := 7) (IX_i (c := 2) (k := 6) hI (full_i _)) (full_i _)) hw48_a_20_2) 1 v52 ⟨by decide, by decide⟩ ⟨by omega, by omega⟩) (kV 2 ht m_890 m_892 m_33 m_85 m_893 rfl rfl hd_X2_heap_v ⟨Nat.le_of_ble_eq_true rfl, Nat.le_of_ble_eq_true rfl⟩) (vW hP hK hD (rX_2 hK hP)) rfl rfl hl.1 rfl (lv_room (Nat.le_of_ble_eq_true rfl)) dX2_takeSome_65 ⟨Nat.le_of_ble_eq_true rfl, Nat.le_of_ble_eq_true rfl⟩) hS (fun q _ h => hFc q h) hFc (fun u t H1 locs ht9 hvm hr53 hB hz1 hk1 hS => ?_)
          obtain ⟨n54, n55, n56, rfl⟩ := hr53
          have hn54 : ∀ j, inb (bA 20 2 j) (n54 j) := fun j => full_i _
          obtain ⟨hP, hD⟩ := hB
          rw [ht9] at hP
          generalize H1 = H at hP hS ⊢
          have hP : va_P (dC, dI) classes (WX h g ca (u2 (u2 iv 2 6 w48_i_2_6) 2 7 w48_i_2_7) lv (u2 fa 20 2 n54) (u2 (u2 la 20 0 n55) 20 1 n56)) H := hP
          have hD : va_D A (WX h g ca (u2 (u2 iv 2 6 w48_i_2_6) 2 7 w48_i_2_7) lv (u2 fa 20 2 n54) (u2 (u2 la 20 0 n55) 20 1 n56)) := (show va_D _ (WX h g ca (u2 (u2 iv 2 6 w48_i_2_6) 2 7 w48_i_2_7) lv (u2 fa 20 2 n54) (u2 (u2 la 20 0 n55) 20 1 n56)) from hD).weaken (fun _ _ _ h => hFc _ h)
          refine lv_aload_n hx hb dX2_takeSome_68 rfl (lv_at hl 2 rfl) ?_
          refine lv_iload_n hx hb dX2_takeSome_69 rfl (lv_at hl 3 rfl) ?_
          refine lv_iconst (v := 1) hx hb dX2_takeSome_70 (by decide) ?_
          refine lv_isub hx hb dX2_takeSome_71 ?_
          refine lv_topi (fun v57 ev57 => ?_)
          obtain rfl : 5 = v57 := (ev57.trans (by decide)).symm
          refine lv_iload hx hb dX2_takeSome_72 (lv_at hl 1 rfl) ?_
          refine lv_iconst (v := 1) hx hb dX2_takeSome_74 (by decide) ?_
          refine lv_iadd hx hb dX2_takeSome_75 ?_
          refine lv_topi (fun v58 ev58 => ?_)
          have tv58 := z_add ev58 (rfl : (x48_4).toInt = _) (by decide : (1 : Int32).toInt = 1) (by omega) (by omega)
          refine lv_iload_n hx hb dX2_takeSome_76 rfl (lv_at hl 5 rfl) ?_
          have hFc := free_all hD hS hA
          refine va_callv (va_runV (As := [.int 5, .int v58, .int n]) (rest := []) ⟨hx, hb, hml, hown, ht⟩ (c_X2_takeSome_5 l dC dI H.size h g ca (u2 (u2 iv 2 6 w48_i_2_6) 2 7 w48_i_2_7) lv (u2 fa 20 2 n54) (u2 (u2 la 20 0 n55) 20 1 n56) (IX_a (c := 20) (k := 2) (IX_i (c := 2) (k := 7) (IX_i (c := 2) (k := 6) hI (full_i _)) (full_i _)) hn54) v58 n ⟨by omega, by omega⟩ ⟨by omega, by omega⟩) (kV 3 ht m_933 m_935 m_38 m_85 m_936 rfl rfl hd_X2_takeSome_v ⟨Nat.le_of_ble_eq_true rfl, Nat.le_of_ble_eq_true rfl⟩) (vW hP hK hD (rX_2 hK hP)) rfl rfl hl.1 rfl (lv_room (Nat.le_of_ble_eq_true rfl)) dX2_takeSome_77 ⟨Nat.le_of_ble_eq_true rfl, Nat.le_of_ble_eq_true rfl⟩) hS (fun q _ h => hFc q h) hFc (fun u t H1 locs ht9 hvm hr59 hB hz1 hk1 hS => ?_)
          obtain ⟨n60, n61, n62, n63, n64, rfl⟩ := hr59
          have hn60 : ∀ j, inb (bA 20 2 j) (n60 j) := fun j => full_i _
          obtain ⟨hP, hD⟩ := hB
          rw [ht9] at hP
          generalize H1 = H at hP hS ⊢
          have hP : va_P (dC, dI) classes (WX h g ca (u2 (u2 iv 2 6 n63) 2 7 n64) lv (u2 fa 20 2 n60) (u2 (u2 la 20 0 n61) 20 1 n62)) H := hP
          have hD : va_D A (WX h g ca (u2 (u2 iv 2 6 n63) 2 7 n64) lv (u2 fa 20 2 n60) (u2 (u2 la 20 0 n61) 20 1 n62)) := (show va_D _ (WX h g ca (u2 (u2 iv 2 6 n63) 2 7 n64) lv (u2 fa 20 2 n60) (u2 (u2 la 20 0 n61) 20 1 n62)) from hD).weaken (fun _ _ _ h => hFc _ h)
          refine lv_aload_n hx hb dX2_takeSome_80 rfl (lv_at hl 2 rfl) ?_
          refine gX_2_1 hx hb ht hown hK hP m_305 dX2_takeSome_81 ?_
          refine lv_iconst (v := 1) hx hb dX2_takeSome_84 (by decide) ?_
          refine lv_aload_n hx hb dX2_takeSome_85 rfl (lv_at hl 2 rfl) ?_
          refine gX_2_0 hx hb ht hown hK hP m_304 dX2_takeSome_86 ?_
          refine lv_iload hx hb dX2_takeSome_89 (lv_at hl 0 rfl) ?_
          refine lv_iconst (v := 3) hx hb dX2_takeSome_91 (by decide) ?_
          refine vp_callSi (W.runV (As := [.int v52, .int 3]) (rest := [.int 1, .ref (g 2 1)]) ⟨hx, hb, hml, hown, ht⟩ (c_X10_get l dC dI h g ca (u2 (u2 iv 2 6 n63) 2 7 n64) lv (u2 fa 20 2 n60) (u2 (u2 la 20 0 n61) 20 1 n62) (IX_a (c := 20) (k := 2) (IX_i (c := 2) (k := 7) (IX_i (c := 2) (k := 6) hI (full_i _)) (full_i _)) hn60) v52 3 ⟨by omega, by omega⟩ ⟨by decide, by decide⟩) (kV 2 ht m_889 m_486 m_487 m_78 m_488 rfl rfl hd_X10_get_v ⟨Nat.le_of_ble_eq_true rfl, Nat.le_of_ble_eq_true rfl⟩) (vR hP hK (rX_10 hK hP)) rfl rfl hl.1 rfl (lv_room (Nat.le_of_ble_eq_true rfl)) dX2_takeSome_92 ⟨Nat.le_of_ble_eq_true rfl, Nat.le_of_ble_eq_true rfl⟩) (fun r65 hr65 => ?_)
          refine lv_aload_n hx hb dX2_takeSome_95 rfl (lv_at hl 2 rfl) ?_
          refine gX_2_0 hx hb ht hown hK hP m_304 dX2_takeSome_96 ?_
          refine lv_iload hx hb dX2_takeSome_99 (lv_at hl 0 rfl) ?_
          refine lv_iconst (v := 4) hx hb dX2_takeSome_101 (by decide) ?_
          refine vp_callSi (W.runV (As := [.int v52, .int 4]) (rest := [.int r65, .int 1, .ref (g 2 1)]) ⟨hx, hb, hml, hown, ht⟩ (c_X10_get l dC dI h g ca (u2 (u2 iv 2 6 n63) 2 7 n64) lv (u2 fa 20 2 n60) (u2 (u2 la 20 0 n61) 20 1 n62) (IX_a (c := 20) (k := 2) (IX_i (c := 2) (k := 7) (IX_i (c := 2) (k := 6) hI (full_i _)) (full_i _)) hn60) v52 4 ⟨by omega, by omega⟩ ⟨by decide, by decide⟩) (kV 2 ht m_889 m_486 m_487 m_78 m_488 rfl rfl hd_X10_get_v ⟨Nat.le_of_ble_eq_true rfl, Nat.le_of_ble_eq_true rfl⟩) (vR hP hK (rX_10 hK hP)) rfl rfl hl.1 rfl (lv_room (Nat.le_of_ble_eq_true rfl)) dX2_takeSome_102 ⟨Nat.le_of_ble_eq_true rfl, Nat.le_of_ble_eq_true rfl⟩) (fun r66 hr66 => ?_)
          have hFc := free_all hD hS hA
          refine va_callv (va_runV (As := [.int 1, .int r65, .int r66]) (rest := []) ⟨hx, hb, hml, hown, ht⟩ (c_X7_remove_20 l dC dI H.size h g ca (u2 (u2 iv 2 6 n63) 2 7 n64) lv (u2 fa 20 2 n60) (u2 (u2 la 20 0 n61) 20 1 n62) (IX_a (c := 20) (k := 2) (IX_i (c := 2) (k := 7) (IX_i (c := 2) (k := 6) hI (full_i _)) (full_i _)) hn60) 1 r65 r66 ⟨by decide, by decide⟩) (kV 3 ht m_937 m_938 m_939 m_84 m_940 rfl rfl hd_X7_remove_v ⟨Nat.le_of_ble_eq_true rfl, Nat.le_of_ble_eq_true rfl⟩) (vW hP hK hD (rX_20 hK hP)) rfl rfl hl.1 rfl (lv_room (Nat.le_of_ble_eq_true rfl)) dX2_takeSome_105 ⟨Nat.le_of_ble_eq_true rfl, Nat.le_of_ble_eq_true rfl⟩) hS (fun q _ h => hFc q h) hFc (fun u t H1 locs ht9 hvm hr67 hB hz1 hk1 hS => ?_)
          obtain ⟨n68, n69, n70, rfl⟩ := hr67
          have hn68 : ∀ j, inb (bA 20 2 j) (n68 j) := fun j => full_i _
          obtain ⟨hP, hD⟩ := hB
          rw [ht9] at hP
          generalize H1 = H at hP hS ⊢
          have hP : va_P (dC, dI) classes (WX h g ca (u2 (u2 iv 2 6 n63) 2 7 n64) lv (u2 fa 20 2 n68) (u2 (u2 la 20 0 n69) 20 1 n70)) H := hP
          have hD : va_D A (WX h g ca (u2 (u2 iv 2 6 n63) 2 7 n64) lv (u2 fa 20 2 n68) (u2 (u2 la 20 0 n69) 20 1 n70)) := (show va_D _ (WX h g ca (u2 (u2 iv 2 6 n63) 2 7 n64) lv (u2 fa 20 2 n68) (u2 (u2 la 20 0 n69) 20 1 n70)) from hD).weaken (fun _ _ _ h => hFc _ h)
          obtain ⟨v71, ev71⟩ : ∃ y : Int32, y = x48_4 + 1 := ⟨_, rfl⟩
          have tv71 := z_add ev71 rfl (by decide : (1 : Int32).toInt = 1) (by omega) (by omega)
          refine lv_iinc (v := v71) (lv' := [(4, .int v71), (5, .int v52), (0, .ref (g 11 6)), (1, .int 6), (2, .int k), (3, .int n)]) hx hb dX2_takeSome_108 hl (k := 1) rfl (by rw [ev71]; rfl) (by decide) rfl (fun ls hl => ?_)
          refine lv_goto (tgt := 44) hx hb dX2_takeSome_111 (by decide) ?_
          exact ih49 v71 n63 n64 n68 n69 n70 ⟨by omega, by omega⟩ hn68 (by omega) _ _ ls hP hD hS (lv_sub hl [0, 2, 3, 4, 5] rfl)
    exact lp49 13 k (iv 2 6) (iv 2 7) (fa 20 2) (la 20 0) (la 20 1) ⟨by omega, by omega⟩ (hI.2 20 2) (by first | decide | omega) _ _ ls hP hD hS (lv_sub hl [0, 1, 2, 3, 4] rfl)
  · exact absurd c1 (by decide)
set_option maxHeartbeats 4000000 in
set_option maxRecDepth 100000 in
/-- X2_takeSome -/
theorem c_X2_takeSome_7 (l : Launch) (dC : Nat → ClassId) (dI : Nat → Nat → Nat) (sz : Nat) (h : Nat) (g : Nat → Nat → Nat) (ca : Nat → Nat → ClassId) (iv : Nat → Nat → Int32) (lv : Nat → Nat → Int64) (fa : Nat → Nat → Nat → Int32) (la : Nat → Nat → Nat → Int64) (hI : IX iv fa) (k : Int32) (n : Int32) (h_k : 0 ≤ k.toInt ∧ k.toInt ≤ 12) (h_n : 0 ≤ n.toInt ∧ n.toInt ≤ 12) : Met l yX2_takeSome (wc yX2_takeSome cX2_takeSome 6 none) ({ frames := 9, cells := 0, slots := 0, locals := 238 } : Room) (pW (dC, dI) classes (WX h g ca iv lv fa la) (TX ca) sz [.ref (g 11 6), .int 7, .int k, .int n]) (va_Qv (fun (u : SS) => ∃ (na_20_2 : Nat → Int32) (nb_20_0 : Nat → Int64) (nb_20_1 : Nat → Int64) (ni_2_6 : Int32) (ni_2_7 : Int32), u = ((u2 (u2 iv 2 6 ni_2_6) 2 7 ni_2_7), lv, (u2 fa 20 2 na_20_2), (u2 (u2 la 20 0 nb_20_0) 20 1 nb_20_1))) (bX (dC, dI) h g ca (va_A (WX h g ca iv lv fa la) sz)) (va_A (WX h g ca iv lv fa la) sz)) 0 0 (va_A (WX h g ca iv lv fa la) sz) := by
  refine Met.ofW (cc := cX2_takeSome) (maxL := 6) (ret := none) (by decide) rfl ?_
  intro p e s m args below meth c s₁ B hml hv
  obtain ⟨rfl, hsz, hP, hK, hD0⟩ := hv
  have hx := B.exec
  have hb := B.bytes
  have hr := B.returns
  have ht := tb_tl (atoms_spec (ws := wc yX2_takeSome cX2_takeSome 6 none) B.pre)
  have hown : s.vm.findClass RX2 = some m.cls := findClass_of_methodNamed B.named
  have hlocks := B.notSynchronized
  subst hsz
  have hD := hD0.self (sz := s.heap.size)
  generalize hAe : va_A (WX h g ca iv lv fa la) s.heap.size = A at hD ⊢
  have hA : ∀ q : Nat, s.heap.size ≤ q → A q := fun q h => by rw [← hAe]; exact Or.inr h
  have hS : va_S A s.heap s.heap [] := va_S.rf
  have hl := lv_entry [.ref (g 11 6), .int 7, .int k, .int n] (n := 6) (Nat.le_of_ble_eq_true rfl)
  rw [lg_entry_eq]
  generalize (lg_sl [.ref (g 11 6), .int 7, .int k, .int n] ++ List.replicate (6 - (lg_sl [.ref (g 11 6), .int 7, .int k, .int n]).length) Slot.unset).toArray = ls at hl ⊢
  have hl : lv_has ls 6 [(0, .ref (g 11 6)), (1, .int 7), (2, .int k), (3, .int n)] := hl
  refine lv_iload_n hx hb dX2_takeSome_0 rfl (lv_at hl 1 rfl) ?_
  refine lv_if_gt (tgt := 41) hx hb dX2_takeSome_1 (by decide) (fun c1 => ?_) (fun c1 => ?_)
  · skip
    refine lv_iload_n hx hb dX2_takeSome_41 rfl (lv_at hl 2 rfl) ?_
    refine lv_istore (lv' := [(4, .int k), (0, .ref (g 11 6)), (1, .int 7), (2, .int k), (3, .int n)]) hx hb dX2_takeSome_42 hl (by decide) rfl (fun ls hl => ?_)
    have lp49 : ∀ (nn49 : Nat) (x48_4 : Int32) (w48_i_2_6 : Int32) (w48_i_2_7 : Int32) (w48_a_20_2 : Nat → Int32) (w48_b_20_0 : Nat → Int64) (w48_b_20_1 : Nat → Int64), 0 ≤ x48_4.toInt ∧ x48_4.toInt ≤ 12 → (∀ j, inb (bA 20 2 j) (w48_a_20_2 j)) → 12 - x48_4.toInt < (nn49 : Int) → ∀ (H : Heap) (locs : List Loc), ∀ (ls : Array Slot), va_P (dC, dI) classes (WX h g ca (u2 (u2 iv 2 6 w48_i_2_6) 2 7 w48_i_2_7) lv (u2 fa 20 2 w48_a_20_2) (u2 (u2 la 20 0 w48_b_20_0) 20 1 w48_b_20_1)) H → va_D A (WX h g ca (u2 (u2 iv 2 6 w48_i_2_6) 2 7 w48_i_2_7) lv (u2 fa 20 2 w48_a_20_2) (u2 (u2 la 20 0 w48_b_20_0) 20 1 w48_b_20_1)) → va_S A s.heap H locs → lv_has ls 6 [(4, .int x48_4), (0, .ref (g 11 6)), (1, .int 7), (2, .int k), (3, .int n)] → W p l e ({ frames := 9, cells := 0, slots := 0, locals := 238 } : Room) s m ([.ref (g 11 6), .int 7, .int k, .int n] : List Value).toArray below meth c H locs 0 0 (MQ below (va_Qv (fun (u : SS) => ∃ (na_20_2 : Nat → Int32) (nb_20_0 : Nat → Int64) (nb_20_1 : Nat → Int64) (ni_2_6 : Int32) (ni_2_7 : Int32), u = ((u2 (u2 iv 2 6 ni_2_6) 2 7 ni_2_7), lv, (u2 fa 20 2 na_20_2), (u2 (u2 la 20 0 nb_20_0) 20 1 nb_20_1))) (bX (dC, dI) h g ca A) A) ([.ref (g 11 6), .int 7, .int k, .int n] : List Value).toArray s 0 0 A) (F0 m 44 ls []) := by
      intro nn49
      induction nn49 with
      | zero => intro x48_4 w48_i_2_6 w48_i_2_7 w48_a_20_2 w48_b_20_0 w48_b_20_1 hx48_4 hw48_a_20_2 hm49; exfalso; omega
      | succ nn49 ih49 =>
        intro x48_4 w48_i_2_6 w48_i_2_7 w48_a_20_2 w48_b_20_0 w48_b_20_1 hx48_4 hw48_a_20_2 hm49 H locs ls hP hD hS hl
        refine lv_iload hx hb dX2_takeSome_44 (lv_at hl 0 rfl) ?_
        refine lv_iload_n hx hb dX2_takeSome_46 rfl (lv_at hl 4 rfl) ?_
        refine lv_iload_n hx hb dX2_takeSome_47 rfl (lv_at hl 2 rfl) ?_
        refine lv_isub hx hb dX2_takeSome_48 ?_
        refine lv_topi (fun v50 ev50 => ?_)
        have tv50 := z_sub ev50 (rfl : (n).toInt = _) (by decide : (7 : Int32).toInt = 7) (by omega) (by omega)
        refine lv_icmp_gt (tgt := 114) hx hb dX2_takeSome_49 (by decide) (fun c51 => ?_) (fun c51 => ?_)
        · have fc51 := z_lt (rfl : (v50).toInt = _) (rfl : (x48_4).toInt = _) c51
          have hP9 : va_P (dC, dI) classes (WX h g ca (u2 (u2 iv 2 6 w48_i_2_6) 2 7 w48_i_2_7) lv (u2 fa 20 2 w48_a_20_2) (u2 (u2 la 20 0 w48_b_20_0) 20 1 w48_b_20_1)) H := hP
          have hD9 : va_D A (WX h g ca (u2 (u2 iv 2 6 w48_i_2_6) 2 7 w48_i_2_7) lv (u2 fa 20 2 w48_a_20_2) (u2 (u2 la 20 0 w48_b_20_0) 20 1 w48_b_20_1)) := hD
          exact W.vret hx hb hr (fun t ht9 hW => ⟨⟨((u2 (u2 iv 2 6 w48_i_2_6) 2 7 w48_i_2_7), lv, (u2 fa 20 2 w48_a_20_2), (u2 (u2 la 20 0 w48_b_20_0) 20 1 w48_b_20_1)), rfl, ⟨w48_a_20_2, w48_b_20_0, w48_b_20_1, w48_i_2_6, w48_i_2_7, rfl⟩, by rw [ht9]; exact hP9, hD9⟩, hS.F ht9⟩) hS.2.2 dX2_takeSome_114
        · have fc51 := z_nlt (rfl : (v50).toInt = _) (rfl : (x48_4).toInt = _) c51
          refine lv_aload_n hx hb dX2_takeSome_52 rfl (lv_at hl 1 rfl) ?_
          refine gX_2_2 hx hb ht hown hK hP m_306 dX2_takeSome_53 ?_
          refine lv_iload hx hb dX2_takeSome_56 (lv_at hl 0 rfl) ?_
          refine lX_2_2 hx hb hK hP (f := (fa 2 2)) rfl (vp_in_iff.mpr ⟨by omega, by omega⟩) dX2_takeSome_58 ?_
          refine lv_topi (fun v52 ev52 => ?_)
          have tv52 : 0 ≤ v52.toInt ∧ v52.toInt ≤ 59 := by rw [ev52]; exact hI.2 2 2 _
          refine lv_istore (lv' := [(5, .int v52), (4, .int x48_4), (0, .ref (g 11 6)), (1, .int 7), (2, .int k), (3, .int n)]) hx hb dX2_takeSome_59 hl (by decide) rfl (fun ls hl => ?_)
          refine lv_aload_n hx hb dX2_takeSome_61 rfl (lv_at hl 2 rfl) ?_
          refine lv_iconst (v := 1) hx hb dX2_takeSome_62 (by decide) ?_
          refine lv_iload hx hb dX2_takeSome_63 (lv_at hl 0 rfl) ?_
          have hFc := free_all hD hS hA
          refine va_callv (va_runV (As := [.int 1, .int v52]) (rest := []) ⟨hx, hb, hml, hown, ht⟩ (c_X2_heap l dC dI H.size h g ca (u2 (u2 iv 2 6 w48_i_2_6) 2 7 w48_i_2_7) lv (u2 fa 20 2 w48_a_20_2) (u2 (u2 la 20 0 w48_b_20_0) 20 1 w48_b_20_1) (IX_a (c := 20) (k := 2) (IX_i (c := 2) (k := 7) (IX_i (c := 2) (k := 6) hI (full_i _)) (full_i _)) hw48_a_20_2) 1 v52 ⟨by decide, by decide⟩ ⟨by omega, by omega⟩) (kV 2 ht m_890 m_892 m_33 m_85 m_893 rfl rfl hd_X2_heap_v ⟨Nat.le_of_ble_eq_true rfl, Nat.le_of_ble_eq_true rfl⟩) (vW hP hK hD (rX_2 hK hP)) rfl rfl hl.1 rfl (lv_room (Nat.le_of_ble_eq_true rfl)) dX2_takeSome_65 ⟨Nat.le_of_ble_eq_true rfl, Nat.le_of_ble_eq_true rfl⟩) hS (fun q _ h => hFc q h) hFc (fun u t H1 locs ht9 hvm hr53 hB hz1 hk1 hS => ?_)
          obtain ⟨n54, n55, n56, rfl⟩ := hr53
          have hn54 : ∀ j, inb (bA 20 2 j) (n54 j) := fun j => full_i _
          obtain ⟨hP, hD⟩ := hB
          rw [ht9] at hP
          generalize H1 = H at hP hS ⊢
          have hP : va_P (dC, dI) classes (WX h g ca (u2 (u2 iv 2 6 w48_i_2_6) 2 7 w48_i_2_7) lv (u2 fa 20 2 n54) (u2 (u2 la 20 0 n55) 20 1 n56)) H := hP
          have hD : va_D A (WX h g ca (u2 (u2 iv 2 6 w48_i_2_6) 2 7 w48_i_2_7) lv (u2 fa 20 2 n54) (u2 (u2 la 20 0 n55) 20 1 n56)) := (show va_D _ (WX h g ca (u2 (u2 iv 2 6 w48_i_2_6) 2 7 w48_i_2_7) lv (u2 fa 20 2 n54) (u2 (u2 la 20 0 n55) 20 1 n56)) from hD).weaken (fun _ _ _ h => hFc _ h)
          refine lv_aload_n hx hb dX2_takeSome_68 rfl (lv_at hl 2 rfl) ?_
          refine lv_iload_n hx hb dX2_takeSome_69 rfl (lv_at hl 3 rfl) ?_
          refine lv_iconst (v := 1) hx hb dX2_takeSome_70 (by decide) ?_
          refine lv_isub hx hb dX2_takeSome_71 ?_
          refine lv_topi (fun v57 ev57 => ?_)
          obtain rfl : 6 = v57 := (ev57.trans (by decide)).symm
          refine lv_iload hx hb dX2_takeSome_72 (lv_at hl 1 rfl) ?_
          refine lv_iconst (v := 1) hx hb dX2_takeSome_74 (by decide) ?_
          refine lv_iadd hx hb dX2_takeSome_75 ?_
          refine lv_topi (fun v58 ev58 => ?_)
          have tv58 := z_add ev58 (rfl : (x48_4).toInt = _) (by decide : (1 : Int32).toInt = 1) (by omega) (by omega)
          refine lv_iload_n hx hb dX2_takeSome_76 rfl (lv_at hl 5 rfl) ?_
          have hFc := free_all hD hS hA
          refine va_callv (va_runV (As := [.int 6, .int v58, .int n]) (rest := []) ⟨hx, hb, hml, hown, ht⟩ (c_X2_takeSome_6 l dC dI H.size h g ca (u2 (u2 iv 2 6 w48_i_2_6) 2 7 w48_i_2_7) lv (u2 fa 20 2 n54) (u2 (u2 la 20 0 n55) 20 1 n56) (IX_a (c := 20) (k := 2) (IX_i (c := 2) (k := 7) (IX_i (c := 2) (k := 6) hI (full_i _)) (full_i _)) hn54) v58 n ⟨by omega, by omega⟩ ⟨by omega, by omega⟩) (kV 3 ht m_933 m_935 m_38 m_85 m_936 rfl rfl hd_X2_takeSome_v ⟨Nat.le_of_ble_eq_true rfl, Nat.le_of_ble_eq_true rfl⟩) (vW hP hK hD (rX_2 hK hP)) rfl rfl hl.1 rfl (lv_room (Nat.le_of_ble_eq_true rfl)) dX2_takeSome_77 ⟨Nat.le_of_ble_eq_true rfl, Nat.le_of_ble_eq_true rfl⟩) hS (fun q _ h => hFc q h) hFc (fun u t H1 locs ht9 hvm hr59 hB hz1 hk1 hS => ?_)
          obtain ⟨n60, n61, n62, n63, n64, rfl⟩ := hr59
          have hn60 : ∀ j, inb (bA 20 2 j) (n60 j) := fun j => full_i _
          obtain ⟨hP, hD⟩ := hB
          rw [ht9] at hP
          generalize H1 = H at hP hS ⊢
          have hP : va_P (dC, dI) classes (WX h g ca (u2 (u2 iv 2 6 n63) 2 7 n64) lv (u2 fa 20 2 n60) (u2 (u2 la 20 0 n61) 20 1 n62)) H := hP
          have hD : va_D A (WX h g ca (u2 (u2 iv 2 6 n63) 2 7 n64) lv (u2 fa 20 2 n60) (u2 (u2 la 20 0 n61) 20 1 n62)) := (show va_D _ (WX h g ca (u2 (u2 iv 2 6 n63) 2 7 n64) lv (u2 fa 20 2 n60) (u2 (u2 la 20 0 n61) 20 1 n62)) from hD).weaken (fun _ _ _ h => hFc _ h)
          refine lv_aload_n hx hb dX2_takeSome_80 rfl (lv_at hl 2 rfl) ?_
          refine gX_2_1 hx hb ht hown hK hP m_305 dX2_takeSome_81 ?_
          refine lv_iconst (v := 1) hx hb dX2_takeSome_84 (by decide) ?_
          refine lv_aload_n hx hb dX2_takeSome_85 rfl (lv_at hl 2 rfl) ?_
          refine gX_2_0 hx hb ht hown hK hP m_304 dX2_takeSome_86 ?_
          refine lv_iload hx hb dX2_takeSome_89 (lv_at hl 0 rfl) ?_
          refine lv_iconst (v := 3) hx hb dX2_takeSome_91 (by decide) ?_
          refine vp_callSi (W.runV (As := [.int v52, .int 3]) (rest := [.int 1, .ref (g 2 1)]) ⟨hx, hb, hml, hown, ht⟩ (c_X10_get l dC dI h g ca (u2 (u2 iv 2 6 n63) 2 7 n64) lv (u2 fa 20 2 n60) (u2 (u2 la 20 0 n61) 20 1 n62) (IX_a (c := 20) (k := 2) (IX_i (c := 2) (k := 7) (IX_i (c := 2) (k := 6) hI (full_i _)) (full_i _)) hn60) v52 3 ⟨by omega, by omega⟩ ⟨by decide, by decide⟩) (kV 2 ht m_889 m_486 m_487 m_78 m_488 rfl rfl hd_X10_get_v ⟨Nat.le_of_ble_eq_true rfl, Nat.le_of_ble_eq_true rfl⟩) (vR hP hK (rX_10 hK hP)) rfl rfl hl.1 rfl (lv_room (Nat.le_of_ble_eq_true rfl)) dX2_takeSome_92 ⟨Nat.le_of_ble_eq_true rfl, Nat.le_of_ble_eq_true rfl⟩) (fun r65 hr65 => ?_)
          refine lv_aload_n hx hb dX2_takeSome_95 rfl (lv_at hl 2 rfl) ?_
          refine gX_2_0 hx hb ht hown hK hP m_304 dX2_takeSome_96 ?_
          refine lv_iload hx hb dX2_takeSome_99 (lv_at hl 0 rfl) ?_
          refine lv_iconst (v := 4) hx hb dX2_takeSome_101 (by decide) ?_
          refine vp_callSi (W.runV (As := [.int v52, .int 4]) (rest := [.int r65, .int 1, .ref (g 2 1)]) ⟨hx, hb, hml, hown, ht⟩ (c_X10_get l dC dI h g ca (u2 (u2 iv 2 6 n63) 2 7 n64) lv (u2 fa 20 2 n60) (u2 (u2 la 20 0 n61) 20 1 n62) (IX_a (c := 20) (k := 2) (IX_i (c := 2) (k := 7) (IX_i (c := 2) (k := 6) hI (full_i _)) (full_i _)) hn60) v52 4 ⟨by omega, by omega⟩ ⟨by decide, by decide⟩) (kV 2 ht m_889 m_486 m_487 m_78 m_488 rfl rfl hd_X10_get_v ⟨Nat.le_of_ble_eq_true rfl, Nat.le_of_ble_eq_true rfl⟩) (vR hP hK (rX_10 hK hP)) rfl rfl hl.1 rfl (lv_room (Nat.le_of_ble_eq_true rfl)) dX2_takeSome_102 ⟨Nat.le_of_ble_eq_true rfl, Nat.le_of_ble_eq_true rfl⟩) (fun r66 hr66 => ?_)
          have hFc := free_all hD hS hA
          refine va_callv (va_runV (As := [.int 1, .int r65, .int r66]) (rest := []) ⟨hx, hb, hml, hown, ht⟩ (c_X7_remove_20 l dC dI H.size h g ca (u2 (u2 iv 2 6 n63) 2 7 n64) lv (u2 fa 20 2 n60) (u2 (u2 la 20 0 n61) 20 1 n62) (IX_a (c := 20) (k := 2) (IX_i (c := 2) (k := 7) (IX_i (c := 2) (k := 6) hI (full_i _)) (full_i _)) hn60) 1 r65 r66 ⟨by decide, by decide⟩) (kV 3 ht m_937 m_938 m_939 m_84 m_940 rfl rfl hd_X7_remove_v ⟨Nat.le_of_ble_eq_true rfl, Nat.le_of_ble_eq_true rfl⟩) (vW hP hK hD (rX_20 hK hP)) rfl rfl hl.1 rfl (lv_room (Nat.le_of_ble_eq_true rfl)) dX2_takeSome_105 ⟨Nat.le_of_ble_eq_true rfl, Nat.le_of_ble_eq_true rfl⟩) hS (fun q _ h => hFc q h) hFc (fun u t H1 locs ht9 hvm hr67 hB hz1 hk1 hS => ?_)
          obtain ⟨n68, n69, n70, rfl⟩ := hr67
          have hn68 : ∀ j, inb (bA 20 2 j) (n68 j) := fun j => full_i _
          obtain ⟨hP, hD⟩ := hB
          rw [ht9] at hP
          generalize H1 = H at hP hS ⊢
          have hP : va_P (dC, dI) classes (WX h g ca (u2 (u2 iv 2 6 n63) 2 7 n64) lv (u2 fa 20 2 n68) (u2 (u2 la 20 0 n69) 20 1 n70)) H := hP
          have hD : va_D A (WX h g ca (u2 (u2 iv 2 6 n63) 2 7 n64) lv (u2 fa 20 2 n68) (u2 (u2 la 20 0 n69) 20 1 n70)) := (show va_D _ (WX h g ca (u2 (u2 iv 2 6 n63) 2 7 n64) lv (u2 fa 20 2 n68) (u2 (u2 la 20 0 n69) 20 1 n70)) from hD).weaken (fun _ _ _ h => hFc _ h)
          obtain ⟨v71, ev71⟩ : ∃ y : Int32, y = x48_4 + 1 := ⟨_, rfl⟩
          have tv71 := z_add ev71 rfl (by decide : (1 : Int32).toInt = 1) (by omega) (by omega)
          refine lv_iinc (v := v71) (lv' := [(4, .int v71), (5, .int v52), (0, .ref (g 11 6)), (1, .int 7), (2, .int k), (3, .int n)]) hx hb dX2_takeSome_108 hl (k := 1) rfl (by rw [ev71]; rfl) (by decide) rfl (fun ls hl => ?_)
          refine lv_goto (tgt := 44) hx hb dX2_takeSome_111 (by decide) ?_
          exact ih49 v71 n63 n64 n68 n69 n70 ⟨by omega, by omega⟩ hn68 (by omega) _ _ ls hP hD hS (lv_sub hl [0, 2, 3, 4, 5] rfl)
    exact lp49 13 k (iv 2 6) (iv 2 7) (fa 20 2) (la 20 0) (la 20 1) ⟨by omega, by omega⟩ (hI.2 20 2) (by first | decide | omega) _ _ ls hP hD hS (lv_sub hl [0, 1, 2, 3, 4] rfl)
  · exact absurd c1 (by decide)
set_option maxHeartbeats 4000000 in
set_option maxRecDepth 100000 in
/-- X2_takeSome -/
theorem c_X2_takeSome_8 (l : Launch) (dC : Nat → ClassId) (dI : Nat → Nat → Nat) (sz : Nat) (h : Nat) (g : Nat → Nat → Nat) (ca : Nat → Nat → ClassId) (iv : Nat → Nat → Int32) (lv : Nat → Nat → Int64) (fa : Nat → Nat → Nat → Int32) (la : Nat → Nat → Nat → Int64) (hI : IX iv fa) (k : Int32) (n : Int32) (h_k : 0 ≤ k.toInt ∧ k.toInt ≤ 12) (h_n : 0 ≤ n.toInt ∧ n.toInt ≤ 12) : Met l yX2_takeSome (wc yX2_takeSome cX2_takeSome 6 none) ({ frames := 10, cells := 0, slots := 0, locals := 263 } : Room) (pW (dC, dI) classes (WX h g ca iv lv fa la) (TX ca) sz [.ref (g 11 6), .int 8, .int k, .int n]) (va_Qv (fun (u : SS) => ∃ (na_20_2 : Nat → Int32) (nb_20_0 : Nat → Int64) (nb_20_1 : Nat → Int64) (ni_2_6 : Int32) (ni_2_7 : Int32), u = ((u2 (u2 iv 2 6 ni_2_6) 2 7 ni_2_7), lv, (u2 fa 20 2 na_20_2), (u2 (u2 la 20 0 nb_20_0) 20 1 nb_20_1))) (bX (dC, dI) h g ca (va_A (WX h g ca iv lv fa la) sz)) (va_A (WX h g ca iv lv fa la) sz)) 0 0 (va_A (WX h g ca iv lv fa la) sz) := by
  refine Met.ofW (cc := cX2_takeSome) (maxL := 6) (ret := none) (by decide) rfl ?_
  intro p e s m args below meth c s₁ B hml hv
  obtain ⟨rfl, hsz, hP, hK, hD0⟩ := hv
  have hx := B.exec
  have hb := B.bytes
  have hr := B.returns
  have ht := tb_tl (atoms_spec (ws := wc yX2_takeSome cX2_takeSome 6 none) B.pre)
  have hown : s.vm.findClass RX2 = some m.cls := findClass_of_methodNamed B.named
  have hlocks := B.notSynchronized
  subst hsz
  have hD := hD0.self (sz := s.heap.size)
  generalize hAe : va_A (WX h g ca iv lv fa la) s.heap.size = A at hD ⊢
  have hA : ∀ q : Nat, s.heap.size ≤ q → A q := fun q h => by rw [← hAe]; exact Or.inr h
  have hS : va_S A s.heap s.heap [] := va_S.rf
  have hl := lv_entry [.ref (g 11 6), .int 8, .int k, .int n] (n := 6) (Nat.le_of_ble_eq_true rfl)
  rw [lg_entry_eq]
  generalize (lg_sl [.ref (g 11 6), .int 8, .int k, .int n] ++ List.replicate (6 - (lg_sl [.ref (g 11 6), .int 8, .int k, .int n]).length) Slot.unset).toArray = ls at hl ⊢
  have hl : lv_has ls 6 [(0, .ref (g 11 6)), (1, .int 8), (2, .int k), (3, .int n)] := hl
  refine lv_iload_n hx hb dX2_takeSome_0 rfl (lv_at hl 1 rfl) ?_
  refine lv_if_gt (tgt := 41) hx hb dX2_takeSome_1 (by decide) (fun c1 => ?_) (fun c1 => ?_)
  · skip
    refine lv_iload_n hx hb dX2_takeSome_41 rfl (lv_at hl 2 rfl) ?_
    refine lv_istore (lv' := [(4, .int k), (0, .ref (g 11 6)), (1, .int 8), (2, .int k), (3, .int n)]) hx hb dX2_takeSome_42 hl (by decide) rfl (fun ls hl => ?_)
    have lp49 : ∀ (nn49 : Nat) (x48_4 : Int32) (w48_i_2_6 : Int32) (w48_i_2_7 : Int32) (w48_a_20_2 : Nat → Int32) (w48_b_20_0 : Nat → Int64) (w48_b_20_1 : Nat → Int64), 0 ≤ x48_4.toInt ∧ x48_4.toInt ≤ 12 → (∀ j, inb (bA 20 2 j) (w48_a_20_2 j)) → 12 - x48_4.toInt < (nn49 : Int) → ∀ (H : Heap) (locs : List Loc), ∀ (ls : Array Slot), va_P (dC, dI) classes (WX h g ca (u2 (u2 iv 2 6 w48_i_2_6) 2 7 w48_i_2_7) lv (u2 fa 20 2 w48_a_20_2) (u2 (u2 la 20 0 w48_b_20_0) 20 1 w48_b_20_1)) H → va_D A (WX h g ca (u2 (u2 iv 2 6 w48_i_2_6) 2 7 w48_i_2_7) lv (u2 fa 20 2 w48_a_20_2) (u2 (u2 la 20 0 w48_b_20_0) 20 1 w48_b_20_1)) → va_S A s.heap H locs → lv_has ls 6 [(4, .int x48_4), (0, .ref (g 11 6)), (1, .int 8), (2, .int k), (3, .int n)] → W p l e ({ frames := 10, cells := 0, slots := 0, locals := 263 } : Room) s m ([.ref (g 11 6), .int 8, .int k, .int n] : List Value).toArray below meth c H locs 0 0 (MQ below (va_Qv (fun (u : SS) => ∃ (na_20_2 : Nat → Int32) (nb_20_0 : Nat → Int64) (nb_20_1 : Nat → Int64) (ni_2_6 : Int32) (ni_2_7 : Int32), u = ((u2 (u2 iv 2 6 ni_2_6) 2 7 ni_2_7), lv, (u2 fa 20 2 na_20_2), (u2 (u2 la 20 0 nb_20_0) 20 1 nb_20_1))) (bX (dC, dI) h g ca A) A) ([.ref (g 11 6), .int 8, .int k, .int n] : List Value).toArray s 0 0 A) (F0 m 44 ls []) := by
      intro nn49
      induction nn49 with
      | zero => intro x48_4 w48_i_2_6 w48_i_2_7 w48_a_20_2 w48_b_20_0 w48_b_20_1 hx48_4 hw48_a_20_2 hm49; exfalso; omega
      | succ nn49 ih49 =>
        intro x48_4 w48_i_2_6 w48_i_2_7 w48_a_20_2 w48_b_20_0 w48_b_20_1 hx48_4 hw48_a_20_2 hm49 H locs ls hP hD hS hl
        refine lv_iload hx hb dX2_takeSome_44 (lv_at hl 0 rfl) ?_
        refine lv_iload_n hx hb dX2_takeSome_46 rfl (lv_at hl 4 rfl) ?_
        refine lv_iload_n hx hb dX2_takeSome_47 rfl (lv_at hl 2 rfl) ?_
        refine lv_isub hx hb dX2_takeSome_48 ?_
        refine lv_topi (fun v50 ev50 => ?_)
        have tv50 := z_sub ev50 (rfl : (n).toInt = _) (by decide : (8 : Int32).toInt = 8) (by omega) (by omega)
        refine lv_icmp_gt (tgt := 114) hx hb dX2_takeSome_49 (by decide) (fun c51 => ?_) (fun c51 => ?_)
        · have fc51 := z_lt (rfl : (v50).toInt = _) (rfl : (x48_4).toInt = _) c51
          have hP9 : va_P (dC, dI) classes (WX h g ca (u2 (u2 iv 2 6 w48_i_2_6) 2 7 w48_i_2_7) lv (u2 fa 20 2 w48_a_20_2) (u2 (u2 la 20 0 w48_b_20_0) 20 1 w48_b_20_1)) H := hP
          have hD9 : va_D A (WX h g ca (u2 (u2 iv 2 6 w48_i_2_6) 2 7 w48_i_2_7) lv (u2 fa 20 2 w48_a_20_2) (u2 (u2 la 20 0 w48_b_20_0) 20 1 w48_b_20_1)) := hD
          exact W.vret hx hb hr (fun t ht9 hW => ⟨⟨((u2 (u2 iv 2 6 w48_i_2_6) 2 7 w48_i_2_7), lv, (u2 fa 20 2 w48_a_20_2), (u2 (u2 la 20 0 w48_b_20_0) 20 1 w48_b_20_1)), rfl, ⟨w48_a_20_2, w48_b_20_0, w48_b_20_1, w48_i_2_6, w48_i_2_7, rfl⟩, by rw [ht9]; exact hP9, hD9⟩, hS.F ht9⟩) hS.2.2 dX2_takeSome_114
        · have fc51 := z_nlt (rfl : (v50).toInt = _) (rfl : (x48_4).toInt = _) c51
          refine lv_aload_n hx hb dX2_takeSome_52 rfl (lv_at hl 1 rfl) ?_
          refine gX_2_2 hx hb ht hown hK hP m_306 dX2_takeSome_53 ?_
          refine lv_iload hx hb dX2_takeSome_56 (lv_at hl 0 rfl) ?_
          refine lX_2_2 hx hb hK hP (f := (fa 2 2)) rfl (vp_in_iff.mpr ⟨by omega, by omega⟩) dX2_takeSome_58 ?_
          refine lv_topi (fun v52 ev52 => ?_)
          have tv52 : 0 ≤ v52.toInt ∧ v52.toInt ≤ 59 := by rw [ev52]; exact hI.2 2 2 _
          refine lv_istore (lv' := [(5, .int v52), (4, .int x48_4), (0, .ref (g 11 6)), (1, .int 8), (2, .int k), (3, .int n)]) hx hb dX2_takeSome_59 hl (by decide) rfl (fun ls hl => ?_)
          refine lv_aload_n hx hb dX2_takeSome_61 rfl (lv_at hl 2 rfl) ?_
          refine lv_iconst (v := 1) hx hb dX2_takeSome_62 (by decide) ?_
          refine lv_iload hx hb dX2_takeSome_63 (lv_at hl 0 rfl) ?_
          have hFc := free_all hD hS hA
          refine va_callv (va_runV (As := [.int 1, .int v52]) (rest := []) ⟨hx, hb, hml, hown, ht⟩ (c_X2_heap l dC dI H.size h g ca (u2 (u2 iv 2 6 w48_i_2_6) 2 7 w48_i_2_7) lv (u2 fa 20 2 w48_a_20_2) (u2 (u2 la 20 0 w48_b_20_0) 20 1 w48_b_20_1) (IX_a (c := 20) (k := 2) (IX_i (c := 2) (k := 7) (IX_i (c := 2) (k := 6) hI (full_i _)) (full_i _)) hw48_a_20_2) 1 v52 ⟨by decide, by decide⟩ ⟨by omega, by omega⟩) (kV 2 ht m_890 m_892 m_33 m_85 m_893 rfl rfl hd_X2_heap_v ⟨Nat.le_of_ble_eq_true rfl, Nat.le_of_ble_eq_true rfl⟩) (vW hP hK hD (rX_2 hK hP)) rfl rfl hl.1 rfl (lv_room (Nat.le_of_ble_eq_true rfl)) dX2_takeSome_65 ⟨Nat.le_of_ble_eq_true rfl, Nat.le_of_ble_eq_true rfl⟩) hS (fun q _ h => hFc q h) hFc (fun u t H1 locs ht9 hvm hr53 hB hz1 hk1 hS => ?_)
          obtain ⟨n54, n55, n56, rfl⟩ := hr53
          have hn54 : ∀ j, inb (bA 20 2 j) (n54 j) := fun j => full_i _
          obtain ⟨hP, hD⟩ := hB
          rw [ht9] at hP
          generalize H1 = H at hP hS ⊢
          have hP : va_P (dC, dI) classes (WX h g ca (u2 (u2 iv 2 6 w48_i_2_6) 2 7 w48_i_2_7) lv (u2 fa 20 2 n54) (u2 (u2 la 20 0 n55) 20 1 n56)) H := hP
          have hD : va_D A (WX h g ca (u2 (u2 iv 2 6 w48_i_2_6) 2 7 w48_i_2_7) lv (u2 fa 20 2 n54) (u2 (u2 la 20 0 n55) 20 1 n56)) := (show va_D _ (WX h g ca (u2 (u2 iv 2 6 w48_i_2_6) 2 7 w48_i_2_7) lv (u2 fa 20 2 n54) (u2 (u2 la 20 0 n55) 20 1 n56)) from hD).weaken (fun _ _ _ h => hFc _ h)
          refine lv_aload_n hx hb dX2_takeSome_68 rfl (lv_at hl 2 rfl) ?_
          refine lv_iload_n hx hb dX2_takeSome_69 rfl (lv_at hl 3 rfl) ?_
          refine lv_iconst (v := 1) hx hb dX2_takeSome_70 (by decide) ?_
          refine lv_isub hx hb dX2_takeSome_71 ?_
          refine lv_topi (fun v57 ev57 => ?_)
          obtain rfl : 7 = v57 := (ev57.trans (by decide)).symm
          refine lv_iload hx hb dX2_takeSome_72 (lv_at hl 1 rfl) ?_
          refine lv_iconst (v := 1) hx hb dX2_takeSome_74 (by decide) ?_
          refine lv_iadd hx hb dX2_takeSome_75 ?_
          refine lv_topi (fun v58 ev58 => ?_)
          have tv58 := z_add ev58 (rfl : (x48_4).toInt = _) (by decide : (1 : Int32).toInt = 1) (by omega) (by omega)
          refine lv_iload_n hx hb dX2_takeSome_76 rfl (lv_at hl 5 rfl) ?_
          have hFc := free_all hD hS hA
          refine va_callv (va_runV (As := [.int 7, .int v58, .int n]) (rest := []) ⟨hx, hb, hml, hown, ht⟩ (c_X2_takeSome_7 l dC dI H.size h g ca (u2 (u2 iv 2 6 w48_i_2_6) 2 7 w48_i_2_7) lv (u2 fa 20 2 n54) (u2 (u2 la 20 0 n55) 20 1 n56) (IX_a (c := 20) (k := 2) (IX_i (c := 2) (k := 7) (IX_i (c := 2) (k := 6) hI (full_i _)) (full_i _)) hn54) v58 n ⟨by omega, by omega⟩ ⟨by omega, by omega⟩) (kV 3 ht m_933 m_935 m_38 m_85 m_936 rfl rfl hd_X2_takeSome_v ⟨Nat.le_of_ble_eq_true rfl, Nat.le_of_ble_eq_true rfl⟩) (vW hP hK hD (rX_2 hK hP)) rfl rfl hl.1 rfl (lv_room (Nat.le_of_ble_eq_true rfl)) dX2_takeSome_77 ⟨Nat.le_of_ble_eq_true rfl, Nat.le_of_ble_eq_true rfl⟩) hS (fun q _ h => hFc q h) hFc (fun u t H1 locs ht9 hvm hr59 hB hz1 hk1 hS => ?_)
          obtain ⟨n60, n61, n62, n63, n64, rfl⟩ := hr59
          have hn60 : ∀ j, inb (bA 20 2 j) (n60 j) := fun j => full_i _
          obtain ⟨hP, hD⟩ := hB
          rw [ht9] at hP
          generalize H1 = H at hP hS ⊢
          have hP : va_P (dC, dI) classes (WX h g ca (u2 (u2 iv 2 6 n63) 2 7 n64) lv (u2 fa 20 2 n60) (u2 (u2 la 20 0 n61) 20 1 n62)) H := hP
          have hD : va_D A (WX h g ca (u2 (u2 iv 2 6 n63) 2 7 n64) lv (u2 fa 20 2 n60) (u2 (u2 la 20 0 n61) 20 1 n62)) := (show va_D _ (WX h g ca (u2 (u2 iv 2 6 n63) 2 7 n64) lv (u2 fa 20 2 n60) (u2 (u2 la 20 0 n61) 20 1 n62)) from hD).weaken (fun _ _ _ h => hFc _ h)
          refine lv_aload_n hx hb dX2_takeSome_80 rfl (lv_at hl 2 rfl) ?_
          refine gX_2_1 hx hb ht hown hK hP m_305 dX2_takeSome_81 ?_
          refine lv_iconst (v := 1) hx hb dX2_takeSome_84 (by decide) ?_
          refine lv_aload_n hx hb dX2_takeSome_85 rfl (lv_at hl 2 rfl) ?_
          refine gX_2_0 hx hb ht hown hK hP m_304 dX2_takeSome_86 ?_
          refine lv_iload hx hb dX2_takeSome_89 (lv_at hl 0 rfl) ?_
          refine lv_iconst (v := 3) hx hb dX2_takeSome_91 (by decide) ?_
          refine vp_callSi (W.runV (As := [.int v52, .int 3]) (rest := [.int 1, .ref (g 2 1)]) ⟨hx, hb, hml, hown, ht⟩ (c_X10_get l dC dI h g ca (u2 (u2 iv 2 6 n63) 2 7 n64) lv (u2 fa 20 2 n60) (u2 (u2 la 20 0 n61) 20 1 n62) (IX_a (c := 20) (k := 2) (IX_i (c := 2) (k := 7) (IX_i (c := 2) (k := 6) hI (full_i _)) (full_i _)) hn60) v52 3 ⟨by omega, by omega⟩ ⟨by decide, by decide⟩) (kV 2 ht m_889 m_486 m_487 m_78 m_488 rfl rfl hd_X10_get_v ⟨Nat.le_of_ble_eq_true rfl, Nat.le_of_ble_eq_true rfl⟩) (vR hP hK (rX_10 hK hP)) rfl rfl hl.1 rfl (lv_room (Nat.le_of_ble_eq_true rfl)) dX2_takeSome_92 ⟨Nat.le_of_ble_eq_true rfl, Nat.le_of_ble_eq_true rfl⟩) (fun r65 hr65 => ?_)
          refine lv_aload_n hx hb dX2_takeSome_95 rfl (lv_at hl 2 rfl) ?_
          refine gX_2_0 hx hb ht hown hK hP m_304 dX2_takeSome_96 ?_
          refine lv_iload hx hb dX2_takeSome_99 (lv_at hl 0 rfl) ?_
          refine lv_iconst (v := 4) hx hb dX2_takeSome_101 (by decide) ?_
          refine vp_callSi (W.runV (As := [.int v52, .int 4]) (rest := [.int r65, .int 1, .ref (g 2 1)]) ⟨hx, hb, hml, hown, ht⟩ (c_X10_get l dC dI h g ca (u2 (u2 iv 2 6 n63) 2 7 n64) lv (u2 fa 20 2 n60) (u2 (u2 la 20 0 n61) 20 1 n62) (IX_a (c := 20) (k := 2) (IX_i (c := 2) (k := 7) (IX_i (c := 2) (k := 6) hI (full_i _)) (full_i _)) hn60) v52 4 ⟨by omega, by omega⟩ ⟨by decide, by decide⟩) (kV 2 ht m_889 m_486 m_487 m_78 m_488 rfl rfl hd_X10_get_v ⟨Nat.le_of_ble_eq_true rfl, Nat.le_of_ble_eq_true rfl⟩) (vR hP hK (rX_10 hK hP)) rfl rfl hl.1 rfl (lv_room (Nat.le_of_ble_eq_true rfl)) dX2_takeSome_102 ⟨Nat.le_of_ble_eq_true rfl, Nat.le_of_ble_eq_true rfl⟩) (fun r66 hr66 => ?_)
          have hFc := free_all hD hS hA
          refine va_callv (va_runV (As := [.int 1, .int r65, .int r66]) (rest := []) ⟨hx, hb, hml, hown, ht⟩ (c_X7_remove_20 l dC dI H.size h g ca (u2 (u2 iv 2 6 n63) 2 7 n64) lv (u2 fa 20 2 n60) (u2 (u2 la 20 0 n61) 20 1 n62) (IX_a (c := 20) (k := 2) (IX_i (c := 2) (k := 7) (IX_i (c := 2) (k := 6) hI (full_i _)) (full_i _)) hn60) 1 r65 r66 ⟨by decide, by decide⟩) (kV 3 ht m_937 m_938 m_939 m_84 m_940 rfl rfl hd_X7_remove_v ⟨Nat.le_of_ble_eq_true rfl, Nat.le_of_ble_eq_true rfl⟩) (vW hP hK hD (rX_20 hK hP)) rfl rfl hl.1 rfl (lv_room (Nat.le_of_ble_eq_true rfl)) dX2_takeSome_105 ⟨Nat.le_of_ble_eq_true rfl, Nat.le_of_ble_eq_true rfl⟩) hS (fun q _ h => hFc q h) hFc (fun u t H1 locs ht9 hvm hr67 hB hz1 hk1 hS => ?_)
          obtain ⟨n68, n69, n70, rfl⟩ := hr67
          have hn68 : ∀ j, inb (bA 20 2 j) (n68 j) := fun j => full_i _
          obtain ⟨hP, hD⟩ := hB
          rw [ht9] at hP
          generalize H1 = H at hP hS ⊢
          have hP : va_P (dC, dI) classes (WX h g ca (u2 (u2 iv 2 6 n63) 2 7 n64) lv (u2 fa 20 2 n68) (u2 (u2 la 20 0 n69) 20 1 n70)) H := hP
          have hD : va_D A (WX h g ca (u2 (u2 iv 2 6 n63) 2 7 n64) lv (u2 fa 20 2 n68) (u2 (u2 la 20 0 n69) 20 1 n70)) := (show va_D _ (WX h g ca (u2 (u2 iv 2 6 n63) 2 7 n64) lv (u2 fa 20 2 n68) (u2 (u2 la 20 0 n69) 20 1 n70)) from hD).weaken (fun _ _ _ h => hFc _ h)
          obtain ⟨v71, ev71⟩ : ∃ y : Int32, y = x48_4 + 1 := ⟨_, rfl⟩
          have tv71 := z_add ev71 rfl (by decide : (1 : Int32).toInt = 1) (by omega) (by omega)
          refine lv_iinc (v := v71) (lv' := [(4, .int v71), (5, .int v52), (0, .ref (g 11 6)), (1, .int 8), (2, .int k), (3, .int n)]) hx hb dX2_takeSome_108 hl (k := 1) rfl (by rw [ev71]; rfl) (by decide) rfl (fun ls hl => ?_)
          refine lv_goto (tgt := 44) hx hb dX2_takeSome_111 (by decide) ?_
          exact ih49 v71 n63 n64 n68 n69 n70 ⟨by omega, by omega⟩ hn68 (by omega) _ _ ls hP hD hS (lv_sub hl [0, 2, 3, 4, 5] rfl)
    exact lp49 13 k (iv 2 6) (iv 2 7) (fa 20 2) (la 20 0) (la 20 1) ⟨by omega, by omega⟩ (hI.2 20 2) (by first | decide | omega) _ _ ls hP hD hS (lv_sub hl [0, 1, 2, 3, 4] rfl)
  · exact absurd c1 (by decide)
set_option maxHeartbeats 4000000 in
set_option maxRecDepth 100000 in
/-- X2_takeSome -/
theorem c_X2_takeSome_9 (l : Launch) (dC : Nat → ClassId) (dI : Nat → Nat → Nat) (sz : Nat) (h : Nat) (g : Nat → Nat → Nat) (ca : Nat → Nat → ClassId) (iv : Nat → Nat → Int32) (lv : Nat → Nat → Int64) (fa : Nat → Nat → Nat → Int32) (la : Nat → Nat → Nat → Int64) (hI : IX iv fa) (k : Int32) (n : Int32) (h_k : 0 ≤ k.toInt ∧ k.toInt ≤ 12) (h_n : 0 ≤ n.toInt ∧ n.toInt ≤ 12) : Met l yX2_takeSome (wc yX2_takeSome cX2_takeSome 6 none) ({ frames := 11, cells := 0, slots := 0, locals := 288 } : Room) (pW (dC, dI) classes (WX h g ca iv lv fa la) (TX ca) sz [.ref (g 11 6), .int 9, .int k, .int n]) (va_Qv (fun (u : SS) => ∃ (na_20_2 : Nat → Int32) (nb_20_0 : Nat → Int64) (nb_20_1 : Nat → Int64) (ni_2_6 : Int32) (ni_2_7 : Int32), u = ((u2 (u2 iv 2 6 ni_2_6) 2 7 ni_2_7), lv, (u2 fa 20 2 na_20_2), (u2 (u2 la 20 0 nb_20_0) 20 1 nb_20_1))) (bX (dC, dI) h g ca (va_A (WX h g ca iv lv fa la) sz)) (va_A (WX h g ca iv lv fa la) sz)) 0 0 (va_A (WX h g ca iv lv fa la) sz) := by
  refine Met.ofW (cc := cX2_takeSome) (maxL := 6) (ret := none) (by decide) rfl ?_
  intro p e s m args below meth c s₁ B hml hv
  obtain ⟨rfl, hsz, hP, hK, hD0⟩ := hv
  have hx := B.exec
  have hb := B.bytes
  have hr := B.returns
  have ht := tb_tl (atoms_spec (ws := wc yX2_takeSome cX2_takeSome 6 none) B.pre)
  have hown : s.vm.findClass RX2 = some m.cls := findClass_of_methodNamed B.named
  have hlocks := B.notSynchronized
  subst hsz
  have hD := hD0.self (sz := s.heap.size)
  generalize hAe : va_A (WX h g ca iv lv fa la) s.heap.size = A at hD ⊢
  have hA : ∀ q : Nat, s.heap.size ≤ q → A q := fun q h => by rw [← hAe]; exact Or.inr h
  have hS : va_S A s.heap s.heap [] := va_S.rf
  have hl := lv_entry [.ref (g 11 6), .int 9, .int k, .int n] (n := 6) (Nat.le_of_ble_eq_true rfl)
  rw [lg_entry_eq]
  generalize (lg_sl [.ref (g 11 6), .int 9, .int k, .int n] ++ List.replicate (6 - (lg_sl [.ref (g 11 6), .int 9, .int k, .int n]).length) Slot.unset).toArray = ls at hl ⊢
  have hl : lv_has ls 6 [(0, .ref (g 11 6)), (1, .int 9), (2, .int k), (3, .int n)] := hl
  refine lv_iload_n hx hb dX2_takeSome_0 rfl (lv_at hl 1 rfl) ?_
  refine lv_if_gt (tgt := 41) hx hb dX2_takeSome_1 (by decide) (fun c1 => ?_) (fun c1 => ?_)
  · skip
    refine lv_iload_n hx hb dX2_takeSome_41 rfl (lv_at hl 2 rfl) ?_
    refine lv_istore (lv' := [(4, .int k), (0, .ref (g 11 6)), (1, .int 9), (2, .int k), (3, .int n)]) hx hb dX2_takeSome_42 hl (by decide) rfl (fun ls hl => ?_)
    have lp49 : ∀ (nn49 : Nat) (x48_4 : Int32) (w48_i_2_6 : Int32) (w48_i_2_7 : Int32) (w48_a_20_2 : Nat → Int32) (w48_b_20_0 : Nat → Int64) (w48_b_20_1 : Nat → Int64), 0 ≤ x48_4.toInt ∧ x48_4.toInt ≤ 12 → (∀ j, inb (bA 20 2 j) (w48_a_20_2 j)) → 12 - x48_4.toInt < (nn49 : Int) → ∀ (H : Heap) (locs : List Loc), ∀ (ls : Array Slot), va_P (dC, dI) classes (WX h g ca (u2 (u2 iv 2 6 w48_i_2_6) 2 7 w48_i_2_7) lv (u2 fa 20 2 w48_a_20_2) (u2 (u2 la 20 0 w48_b_20_0) 20 1 w48_b_20_1)) H → va_D A (WX h g ca (u2 (u2 iv 2 6 w48_i_2_6) 2 7 w48_i_2_7) lv (u2 fa 20 2 w48_a_20_2) (u2 (u2 la 20 0 w48_b_20_0) 20 1 w48_b_20_1)) → va_S A s.heap H locs → lv_has ls 6 [(4, .int x48_4), (0, .ref (g 11 6)), (1, .int 9), (2, .int k), (3, .int n)] → W p l e ({ frames := 11, cells := 0, slots := 0, locals := 288 } : Room) s m ([.ref (g 11 6), .int 9, .int k, .int n] : List Value).toArray below meth c H locs 0 0 (MQ below (va_Qv (fun (u : SS) => ∃ (na_20_2 : Nat → Int32) (nb_20_0 : Nat → Int64) (nb_20_1 : Nat → Int64) (ni_2_6 : Int32) (ni_2_7 : Int32), u = ((u2 (u2 iv 2 6 ni_2_6) 2 7 ni_2_7), lv, (u2 fa 20 2 na_20_2), (u2 (u2 la 20 0 nb_20_0) 20 1 nb_20_1))) (bX (dC, dI) h g ca A) A) ([.ref (g 11 6), .int 9, .int k, .int n] : List Value).toArray s 0 0 A) (F0 m 44 ls []) := by
      intro nn49
      induction nn49 with
      | zero => intro x48_4 w48_i_2_6 w48_i_2_7 w48_a_20_2 w48_b_20_0 w48_b_20_1 hx48_4 hw48_a_20_2 hm49; exfalso; omega
      | succ nn49 ih49 =>
        intro x48_4 w48_i_2_6 w48_i_2_7 w48_a_20_2 w48_b_20_0 w48_b_20_1 hx48_4 hw48_a_20_2 hm49 H locs ls hP hD hS hl
        refine lv_iload hx hb dX2_takeSome_44 (lv_at hl 0 rfl) ?_
        refine lv_iload_n hx hb dX2_takeSome_46 rfl (lv_at hl 4 rfl) ?_
        refine lv_iload_n hx hb dX2_takeSome_47 rfl (lv_at hl 2 rfl) ?_
        refine lv_isub hx hb dX2_takeSome_48 ?_
        refine lv_topi (fun v50 ev50 => ?_)
        have tv50 := z_sub ev50 (rfl : (n).toInt = _) (by decide : (9 : Int32).toInt = 9) (by omega) (by omega)
        refine lv_icmp_gt (tgt := 114) hx hb dX2_takeSome_49 (by decide) (fun c51 => ?_) (fun c51 => ?_)
        · have fc51 := z_lt (rfl : (v50).toInt = _) (rfl : (x48_4).toInt = _) c51
          have hP9 : va_P (dC, dI) classes (WX h g ca (u2 (u2 iv 2 6 w48_i_2_6) 2 7 w48_i_2_7) lv (u2 fa 20 2 w48_a_20_2) (u2 (u2 la 20 0 w48_b_20_0) 20 1 w48_b_20_1)) H := hP
          have hD9 : va_D A (WX h g ca (u2 (u2 iv 2 6 w48_i_2_6) 2 7 w48_i_2_7) lv (u2 fa 20 2 w48_a_20_2) (u2 (u2 la 20 0 w48_b_20_0) 20 1 w48_b_20_1)) := hD
          exact W.vret hx hb hr (fun t ht9 hW => ⟨⟨((u2 (u2 iv 2 6 w48_i_2_6) 2 7 w48_i_2_7), lv, (u2 fa 20 2 w48_a_20_2), (u2 (u2 la 20 0 w48_b_20_0) 20 1 w48_b_20_1)), rfl, ⟨w48_a_20_2, w48_b_20_0, w48_b_20_1, w48_i_2_6, w48_i_2_7, rfl⟩, by rw [ht9]; exact hP9, hD9⟩, hS.F ht9⟩) hS.2.2 dX2_takeSome_114
        · have fc51 := z_nlt (rfl : (v50).toInt = _) (rfl : (x48_4).toInt = _) c51
          refine lv_aload_n hx hb dX2_takeSome_52 rfl (lv_at hl 1 rfl) ?_
          refine gX_2_2 hx hb ht hown hK hP m_306 dX2_takeSome_53 ?_
          refine lv_iload hx hb dX2_takeSome_56 (lv_at hl 0 rfl) ?_
          refine lX_2_2 hx hb hK hP (f := (fa 2 2)) rfl (vp_in_iff.mpr ⟨by omega, by omega⟩) dX2_takeSome_58 ?_
          refine lv_topi (fun v52 ev52 => ?_)
          have tv52 : 0 ≤ v52.toInt ∧ v52.toInt ≤ 59 := by rw [ev52]; exact hI.2 2 2 _
          refine lv_istore (lv' := [(5, .int v52), (4, .int x48_4), (0, .ref (g 11 6)), (1, .int 9), (2, .int k), (3, .int n)]) hx hb dX2_takeSome_59 hl (by decide) rfl (fun ls hl => ?_)
          refine lv_aload_n hx hb dX2_takeSome_61 rfl (lv_at hl 2 rfl) ?_
          refine lv_iconst (v := 1) hx hb dX2_takeSome_62 (by decide) ?_
          refine lv_iload hx hb dX2_takeSome_63 (lv_at hl 0 rfl) ?_
          have hFc := free_all hD hS hA
          refine va_callv (va_runV (As := [.int 1, .int v52]) (rest := []) ⟨hx, hb, hml, hown, ht⟩ (c_X2_heap l dC dI H.size h g ca (u2 (u2 iv 2 6 w48_i_2_6) 2 7 w48_i_2_7) lv (u2 fa 20 2 w48_a_20_2) (u2 (u2 la 20 0 w48_b_20_0) 20 1 w48_b_20_1) (IX_a (c := 20) (k := 2) (IX_i (c := 2) (k := 7) (IX_i (c := 2) (k := 6) hI (full_i _)) (full_i _)) hw48_a_20_2) 1 v52 ⟨by decide, by decide⟩ ⟨by omega, by omega⟩) (kV 2 ht m_890 m_892 m_33 m_85 m_893 rfl rfl hd_X2_heap_v ⟨Nat.le_of_ble_eq_true rfl, Nat.le_of_ble_eq_true rfl⟩) (vW hP hK hD (rX_2 hK hP)) rfl rfl hl.1 rfl (lv_room (Nat.le_of_ble_eq_true rfl)) dX2_takeSome_65 ⟨Nat.le_of_ble_eq_true rfl, Nat.le_of_ble_eq_true rfl⟩) hS (fun q _ h => hFc q h) hFc (fun u t H1 locs ht9 hvm hr53 hB hz1 hk1 hS => ?_)
          obtain ⟨n54, n55, n56, rfl⟩ := hr53
          have hn54 : ∀ j, inb (bA 20 2 j) (n54 j) := fun j => full_i _
          obtain ⟨hP, hD⟩ := hB
          rw [ht9] at hP
          generalize H1 = H at hP hS ⊢
          have hP : va_P (dC, dI) classes (WX h g ca (u2 (u2 iv 2 6 w48_i_2_6) 2 7 w48_i_2_7) lv (u2 fa 20 2 n54) (u2 (u2 la 20 0 n55) 20 1 n56)) H := hP
          have hD : va_D A (WX h g ca (u2 (u2 iv 2 6 w48_i_2_6) 2 7 w48_i_2_7) lv (u2 fa 20 2 n54) (u2 (u2 la 20 0 n55) 20 1 n56)) := (show va_D _ (WX h g ca (u2 (u2 iv 2 6 w48_i_2_6) 2 7 w48_i_2_7) lv (u2 fa 20 2 n54) (u2 (u2 la 20 0 n55) 20 1 n56)) from hD).weaken (fun _ _ _ h => hFc _ h)
          refine lv_aload_n hx hb dX2_takeSome_68 rfl (lv_at hl 2 rfl) ?_
          refine lv_iload_n hx hb dX2_takeSome_69 rfl (lv_at hl 3 rfl) ?_
          refine lv_iconst (v := 1) hx hb dX2_takeSome_70 (by decide) ?_
          refine lv_isub hx hb dX2_takeSome_71 ?_
          refine lv_topi (fun v57 ev57 => ?_)
          obtain rfl : 8 = v57 := (ev57.trans (by decide)).symm
          refine lv_iload hx hb dX2_takeSome_72 (lv_at hl 1 rfl) ?_
          refine lv_iconst (v := 1) hx hb dX2_takeSome_74 (by decide) ?_
          refine lv_iadd hx hb dX2_takeSome_75 ?_
          refine lv_topi (fun v58 ev58 => ?_)
          have tv58 := z_add ev58 (rfl : (x48_4).toInt = _) (by decide : (1 : Int32).toInt = 1) (by omega) (by omega)
          refine lv_iload_n hx hb dX2_takeSome_76 rfl (lv_at hl 5 rfl) ?_
          have hFc := free_all hD hS hA
          refine va_callv (va_runV (As := [.int 8, .int v58, .int n]) (rest := []) ⟨hx, hb, hml, hown, ht⟩ (c_X2_takeSome_8 l dC dI H.size h g ca (u2 (u2 iv 2 6 w48_i_2_6) 2 7 w48_i_2_7) lv (u2 fa 20 2 n54) (u2 (u2 la 20 0 n55) 20 1 n56) (IX_a (c := 20) (k := 2) (IX_i (c := 2) (k := 7) (IX_i (c := 2) (k := 6) hI (full_i _)) (full_i _)) hn54) v58 n ⟨by omega, by omega⟩ ⟨by omega, by omega⟩) (kV 3 ht m_933 m_935 m_38 m_85 m_936 rfl rfl hd_X2_takeSome_v ⟨Nat.le_of_ble_eq_true rfl, Nat.le_of_ble_eq_true rfl⟩) (vW hP hK hD (rX_2 hK hP)) rfl rfl hl.1 rfl (lv_room (Nat.le_of_ble_eq_true rfl)) dX2_takeSome_77 ⟨Nat.le_of_ble_eq_true rfl, Nat.le_of_ble_eq_true rfl⟩) hS (fun q _ h => hFc q h) hFc (fun u t H1 locs ht9 hvm hr59 hB hz1 hk1 hS => ?_)
          obtain ⟨n60, n61, n62, n63, n64, rfl⟩ := hr59
          have hn60 : ∀ j, inb (bA 20 2 j) (n60 j) := fun j => full_i _
          obtain ⟨hP, hD⟩ := hB
          rw [ht9] at hP
          generalize H1 = H at hP hS ⊢
          have hP : va_P (dC, dI) classes (WX h g ca (u2 (u2 iv 2 6 n63) 2 7 n64) lv (u2 fa 20 2 n60) (u2 (u2 la 20 0 n61) 20 1 n62)) H := hP
          have hD : va_D A (WX h g ca (u2 (u2 iv 2 6 n63) 2 7 n64) lv (u2 fa 20 2 n60) (u2 (u2 la 20 0 n61) 20 1 n62)) := (show va_D _ (WX h g ca (u2 (u2 iv 2 6 n63) 2 7 n64) lv (u2 fa 20 2 n60) (u2 (u2 la 20 0 n61) 20 1 n62)) from hD).weaken (fun _ _ _ h => hFc _ h)
          refine lv_aload_n hx hb dX2_takeSome_80 rfl (lv_at hl 2 rfl) ?_
          refine gX_2_1 hx hb ht hown hK hP m_305 dX2_takeSome_81 ?_
          refine lv_iconst (v := 1) hx hb dX2_takeSome_84 (by decide) ?_
          refine lv_aload_n hx hb dX2_takeSome_85 rfl (lv_at hl 2 rfl) ?_
          refine gX_2_0 hx hb ht hown hK hP m_304 dX2_takeSome_86 ?_
          refine lv_iload hx hb dX2_takeSome_89 (lv_at hl 0 rfl) ?_
          refine lv_iconst (v := 3) hx hb dX2_takeSome_91 (by decide) ?_
          refine vp_callSi (W.runV (As := [.int v52, .int 3]) (rest := [.int 1, .ref (g 2 1)]) ⟨hx, hb, hml, hown, ht⟩ (c_X10_get l dC dI h g ca (u2 (u2 iv 2 6 n63) 2 7 n64) lv (u2 fa 20 2 n60) (u2 (u2 la 20 0 n61) 20 1 n62) (IX_a (c := 20) (k := 2) (IX_i (c := 2) (k := 7) (IX_i (c := 2) (k := 6) hI (full_i _)) (full_i _)) hn60) v52 3 ⟨by omega, by omega⟩ ⟨by decide, by decide⟩) (kV 2 ht m_889 m_486 m_487 m_78 m_488 rfl rfl hd_X10_get_v ⟨Nat.le_of_ble_eq_true rfl, Nat.le_of_ble_eq_true rfl⟩) (vR hP hK (rX_10 hK hP)) rfl rfl hl.1 rfl (lv_room (Nat.le_of_ble_eq_true rfl)) dX2_takeSome_92 ⟨Nat.le_of_ble_eq_true rfl, Nat.le_of_ble_eq_true rfl⟩) (fun r65 hr65 => ?_)
          refine lv_aload_n hx hb dX2_takeSome_95 rfl (lv_at hl 2 rfl) ?_
          refine gX_2_0 hx hb ht hown hK hP m_304 dX2_takeSome_96 ?_
          refine lv_iload hx hb dX2_takeSome_99 (lv_at hl 0 rfl) ?_
          refine lv_iconst (v := 4) hx hb dX2_takeSome_101 (by decide) ?_
          refine vp_callSi (W.runV (As := [.int v52, .int 4]) (rest := [.int r65, .int 1, .ref (g 2 1)]) ⟨hx, hb, hml, hown, ht⟩ (c_X10_get l dC dI h g ca (u2 (u2 iv 2 6 n63) 2 7 n64) lv (u2 fa 20 2 n60) (u2 (u2 la 20 0 n61) 20 1 n62) (IX_a (c := 20) (k := 2) (IX_i (c := 2) (k := 7) (IX_i (c := 2) (k := 6) hI (full_i _)) (full_i _)) hn60) v52 4 ⟨by omega, by omega⟩ ⟨by decide, by decide⟩) (kV 2 ht m_889 m_486 m_487 m_78 m_488 rfl rfl hd_X10_get_v ⟨Nat.le_of_ble_eq_true rfl, Nat.le_of_ble_eq_true rfl⟩) (vR hP hK (rX_10 hK hP)) rfl rfl hl.1 rfl (lv_room (Nat.le_of_ble_eq_true rfl)) dX2_takeSome_102 ⟨Nat.le_of_ble_eq_true rfl, Nat.le_of_ble_eq_true rfl⟩) (fun r66 hr66 => ?_)
          have hFc := free_all hD hS hA
          refine va_callv (va_runV (As := [.int 1, .int r65, .int r66]) (rest := []) ⟨hx, hb, hml, hown, ht⟩ (c_X7_remove_20 l dC dI H.size h g ca (u2 (u2 iv 2 6 n63) 2 7 n64) lv (u2 fa 20 2 n60) (u2 (u2 la 20 0 n61) 20 1 n62) (IX_a (c := 20) (k := 2) (IX_i (c := 2) (k := 7) (IX_i (c := 2) (k := 6) hI (full_i _)) (full_i _)) hn60) 1 r65 r66 ⟨by decide, by decide⟩) (kV 3 ht m_937 m_938 m_939 m_84 m_940 rfl rfl hd_X7_remove_v ⟨Nat.le_of_ble_eq_true rfl, Nat.le_of_ble_eq_true rfl⟩) (vW hP hK hD (rX_20 hK hP)) rfl rfl hl.1 rfl (lv_room (Nat.le_of_ble_eq_true rfl)) dX2_takeSome_105 ⟨Nat.le_of_ble_eq_true rfl, Nat.le_of_ble_eq_true rfl⟩) hS (fun q _ h => hFc q h) hFc (fun u t H1 locs ht9 hvm hr67 hB hz1 hk1 hS => ?_)
          obtain ⟨n68, n69, n70, rfl⟩ := hr67
          have hn68 : ∀ j, inb (bA 20 2 j) (n68 j) := fun j => full_i _
          obtain ⟨hP, hD⟩ := hB
          rw [ht9] at hP
          generalize H1 = H at hP hS ⊢
          have hP : va_P (dC, dI) classes (WX h g ca (u2 (u2 iv 2 6 n63) 2 7 n64) lv (u2 fa 20 2 n68) (u2 (u2 la 20 0 n69) 20 1 n70)) H := hP
          have hD : va_D A (WX h g ca (u2 (u2 iv 2 6 n63) 2 7 n64) lv (u2 fa 20 2 n68) (u2 (u2 la 20 0 n69) 20 1 n70)) := (show va_D _ (WX h g ca (u2 (u2 iv 2 6 n63) 2 7 n64) lv (u2 fa 20 2 n68) (u2 (u2 la 20 0 n69) 20 1 n70)) from hD).weaken (fun _ _ _ h => hFc _ h)
          obtain ⟨v71, ev71⟩ : ∃ y : Int32, y = x48_4 + 1 := ⟨_, rfl⟩
          have tv71 := z_add ev71 rfl (by decide : (1 : Int32).toInt = 1) (by omega) (by omega)
          refine lv_iinc (v := v71) (lv' := [(4, .int v71), (5, .int v52), (0, .ref (g 11 6)), (1, .int 9), (2, .int k), (3, .int n)]) hx hb dX2_takeSome_108 hl (k := 1) rfl (by rw [ev71]; rfl) (by decide) rfl (fun ls hl => ?_)
          refine lv_goto (tgt := 44) hx hb dX2_takeSome_111 (by decide) ?_
          exact ih49 v71 n63 n64 n68 n69 n70 ⟨by omega, by omega⟩ hn68 (by omega) _ _ ls hP hD hS (lv_sub hl [0, 2, 3, 4, 5] rfl)
    exact lp49 13 k (iv 2 6) (iv 2 7) (fa 20 2) (la 20 0) (la 20 1) ⟨by omega, by omega⟩ (hI.2 20 2) (by first | decide | omega) _ _ ls hP hD hS (lv_sub hl [0, 1, 2, 3, 4] rfl)
  · exact absurd c1 (by decide)
set_option maxHeartbeats 4000000 in
set_option maxRecDepth 100000 in
/-- X2_takeSome -/
theorem c_X2_takeSome_10 (l : Launch) (dC : Nat → ClassId) (dI : Nat → Nat → Nat) (sz : Nat) (h : Nat) (g : Nat → Nat → Nat) (ca : Nat → Nat → ClassId) (iv : Nat → Nat → Int32) (lv : Nat → Nat → Int64) (fa : Nat → Nat → Nat → Int32) (la : Nat → Nat → Nat → Int64) (hI : IX iv fa) (k : Int32) (n : Int32) (h_k : 0 ≤ k.toInt ∧ k.toInt ≤ 12) (h_n : 0 ≤ n.toInt ∧ n.toInt ≤ 12) : Met l yX2_takeSome (wc yX2_takeSome cX2_takeSome 6 none) ({ frames := 12, cells := 0, slots := 0, locals := 313 } : Room) (pW (dC, dI) classes (WX h g ca iv lv fa la) (TX ca) sz [.ref (g 11 6), .int 10, .int k, .int n]) (va_Qv (fun (u : SS) => ∃ (na_20_2 : Nat → Int32) (nb_20_0 : Nat → Int64) (nb_20_1 : Nat → Int64) (ni_2_6 : Int32) (ni_2_7 : Int32), u = ((u2 (u2 iv 2 6 ni_2_6) 2 7 ni_2_7), lv, (u2 fa 20 2 na_20_2), (u2 (u2 la 20 0 nb_20_0) 20 1 nb_20_1))) (bX (dC, dI) h g ca (va_A (WX h g ca iv lv fa la) sz)) (va_A (WX h g ca iv lv fa la) sz)) 0 0 (va_A (WX h g ca iv lv fa la) sz) := by
  refine Met.ofW (cc := cX2_takeSome) (maxL := 6) (ret := none) (by decide) rfl ?_
  intro p e s m args below meth c s₁ B hml hv
  obtain ⟨rfl, hsz, hP, hK, hD0⟩ := hv
  have hx := B.exec
  have hb := B.bytes
  have hr := B.returns
  have ht := tb_tl (atoms_spec (ws := wc yX2_takeSome cX2_takeSome 6 none) B.pre)
  have hown : s.vm.findClass RX2 = some m.cls := findClass_of_methodNamed B.named
  have hlocks := B.notSynchronized
  subst hsz
  have hD := hD0.self (sz := s.heap.size)
  generalize hAe : va_A (WX h g ca iv lv fa la) s.heap.size = A at hD ⊢
  have hA : ∀ q : Nat, s.heap.size ≤ q → A q := fun q h => by rw [← hAe]; exact Or.inr h
  have hS : va_S A s.heap s.heap [] := va_S.rf
  have hl := lv_entry [.ref (g 11 6), .int 10, .int k, .int n] (n := 6) (Nat.le_of_ble_eq_true rfl)
  rw [lg_entry_eq]
  generalize (lg_sl [.ref (g 11 6), .int 10, .int k, .int n] ++ List.replicate (6 - (lg_sl [.ref (g 11 6), .int 10, .int k, .int n]).length) Slot.unset).toArray = ls at hl ⊢
  have hl : lv_has ls 6 [(0, .ref (g 11 6)), (1, .int 10), (2, .int k), (3, .int n)] := hl
  refine lv_iload_n hx hb dX2_takeSome_0 rfl (lv_at hl 1 rfl) ?_
  refine lv_if_gt (tgt := 41) hx hb dX2_takeSome_1 (by decide) (fun c1 => ?_) (fun c1 => ?_)
  · skip
    refine lv_iload_n hx hb dX2_takeSome_41 rfl (lv_at hl 2 rfl) ?_
    refine lv_istore (lv' := [(4, .int k), (0, .ref (g 11 6)), (1, .int 10), (2, .int k), (3, .int n)]) hx hb dX2_takeSome_42 hl (by decide) rfl (fun ls hl => ?_)
    have lp49 : ∀ (nn49 : Nat) (x48_4 : Int32) (w48_i_2_6 : Int32) (w48_i_2_7 : Int32) (w48_a_20_2 : Nat → Int32) (w48_b_20_0 : Nat → Int64) (w48_b_20_1 : Nat → Int64), 0 ≤ x48_4.toInt ∧ x48_4.toInt ≤ 12 → (∀ j, inb (bA 20 2 j) (w48_a_20_2 j)) → 12 - x48_4.toInt < (nn49 : Int) → ∀ (H : Heap) (locs : List Loc), ∀ (ls : Array Slot), va_P (dC, dI) classes (WX h g ca (u2 (u2 iv 2 6 w48_i_2_6) 2 7 w48_i_2_7) lv (u2 fa 20 2 w48_a_20_2) (u2 (u2 la 20 0 w48_b_20_0) 20 1 w48_b_20_1)) H → va_D A (WX h g ca (u2 (u2 iv 2 6 w48_i_2_6) 2 7 w48_i_2_7) lv (u2 fa 20 2 w48_a_20_2) (u2 (u2 la 20 0 w48_b_20_0) 20 1 w48_b_20_1)) → va_S A s.heap H locs → lv_has ls 6 [(4, .int x48_4), (0, .ref (g 11 6)), (1, .int 10), (2, .int k), (3, .int n)] → W p l e ({ frames := 12, cells := 0, slots := 0, locals := 313 } : Room) s m ([.ref (g 11 6), .int 10, .int k, .int n] : List Value).toArray below meth c H locs 0 0 (MQ below (va_Qv (fun (u : SS) => ∃ (na_20_2 : Nat → Int32) (nb_20_0 : Nat → Int64) (nb_20_1 : Nat → Int64) (ni_2_6 : Int32) (ni_2_7 : Int32), u = ((u2 (u2 iv 2 6 ni_2_6) 2 7 ni_2_7), lv, (u2 fa 20 2 na_20_2), (u2 (u2 la 20 0 nb_20_0) 20 1 nb_20_1))) (bX (dC, dI) h g ca A) A) ([.ref (g 11 6), .int 10, .int k, .int n] : List Value).toArray s 0 0 A) (F0 m 44 ls []) := by
      intro nn49
      induction nn49 with
      | zero => intro x48_4 w48_i_2_6 w48_i_2_7 w48_a_20_2 w48_b_20_0 w48_b_20_1 hx48_4 hw48_a_20_2 hm49; exfalso; omega
      | succ nn49 ih49 =>
        intro x48_4 w48_i_2_6 w48_i_2_7 w48_a_20_2 w48_b_20_0 w48_b_20_1 hx48_4 hw48_a_20_2 hm49 H locs ls hP hD hS hl
        refine lv_iload hx hb dX2_takeSome_44 (lv_at hl 0 rfl) ?_
        refine lv_iload_n hx hb dX2_takeSome_46 rfl (lv_at hl 4 rfl) ?_
        refine lv_iload_n hx hb dX2_takeSome_47 rfl (lv_at hl 2 rfl) ?_
        refine lv_isub hx hb dX2_takeSome_48 ?_
        refine lv_topi (fun v50 ev50 => ?_)
        have tv50 := z_sub ev50 (rfl : (n).toInt = _) (by decide : (10 : Int32).toInt = 10) (by omega) (by omega)
        refine lv_icmp_gt (tgt := 114) hx hb dX2_takeSome_49 (by decide) (fun c51 => ?_) (fun c51 => ?_)
        · have fc51 := z_lt (rfl : (v50).toInt = _) (rfl : (x48_4).toInt = _) c51
          have hP9 : va_P (dC, dI) classes (WX h g ca (u2 (u2 iv 2 6 w48_i_2_6) 2 7 w48_i_2_7) lv (u2 fa 20 2 w48_a_20_2) (u2 (u2 la 20 0 w48_b_20_0) 20 1 w48_b_20_1)) H := hP
          have hD9 : va_D A (WX h g ca (u2 (u2 iv 2 6 w48_i_2_6) 2 7 w48_i_2_7) lv (u2 fa 20 2 w48_a_20_2) (u2 (u2 la 20 0 w48_b_20_0) 20 1 w48_b_20_1)) := hD
          exact W.vret hx hb hr (fun t ht9 hW => ⟨⟨((u2 (u2 iv 2 6 w48_i_2_6) 2 7 w48_i_2_7), lv, (u2 fa 20 2 w48_a_20_2), (u2 (u2 la 20 0 w48_b_20_0) 20 1 w48_b_20_1)), rfl, ⟨w48_a_20_2, w48_b_20_0, w48_b_20_1, w48_i_2_6, w48_i_2_7, rfl⟩, by rw [ht9]; exact hP9, hD9⟩, hS.F ht9⟩) hS.2.2 dX2_takeSome_114
        · have fc51 := z_nlt (rfl : (v50).toInt = _) (rfl : (x48_4).toInt = _) c51
          refine lv_aload_n hx hb dX2_takeSome_52 rfl (lv_at hl 1 rfl) ?_
          refine gX_2_2 hx hb ht hown hK hP m_306 dX2_takeSome_53 ?_
          refine lv_iload hx hb dX2_takeSome_56 (lv_at hl 0 rfl) ?_
          refine lX_2_2 hx hb hK hP (f := (fa 2 2)) rfl (vp_in_iff.mpr ⟨by omega, by omega⟩) dX2_takeSome_58 ?_
          refine lv_topi (fun v52 ev52 => ?_)
          have tv52 : 0 ≤ v52.toInt ∧ v52.toInt ≤ 59 := by rw [ev52]; exact hI.2 2 2 _
          refine lv_istore (lv' := [(5, .int v52), (4, .int x48_4), (0, .ref (g 11 6)), (1, .int 10), (2, .int k), (3, .int n)]) hx hb dX2_takeSome_59 hl (by decide) rfl (fun ls hl => ?_)
          refine lv_aload_n hx hb dX2_takeSome_61 rfl (lv_at hl 2 rfl) ?_
          refine lv_iconst (v := 1) hx hb dX2_takeSome_62 (by decide) ?_
          refine lv_iload hx hb dX2_takeSome_63 (lv_at hl 0 rfl) ?_
          have hFc := free_all hD hS hA
          refine va_callv (va_runV (As := [.int 1, .int v52]) (rest := []) ⟨hx, hb, hml, hown, ht⟩ (c_X2_heap l dC dI H.size h g ca (u2 (u2 iv 2 6 w48_i_2_6) 2 7 w48_i_2_7) lv (u2 fa 20 2 w48_a_20_2) (u2 (u2 la 20 0 w48_b_20_0) 20 1 w48_b_20_1) (IX_a (c := 20) (k := 2) (IX_i (c := 2) (k := 7) (IX_i (c := 2) (k := 6) hI (full_i _)) (full_i _)) hw48_a_20_2) 1 v52 ⟨by decide, by decide⟩ ⟨by omega, by omega⟩) (kV 2 ht m_890 m_892 m_33 m_85 m_893 rfl rfl hd_X2_heap_v ⟨Nat.le_of_ble_eq_true rfl, Nat.le_of_ble_eq_true rfl⟩) (vW hP hK hD (rX_2 hK hP)) rfl rfl hl.1 rfl (lv_room (Nat.le_of_ble_eq_true rfl)) dX2_takeSome_65 ⟨Nat.le_of_ble_eq_true rfl, Nat.le_of_ble_eq_true rfl⟩) hS (fun q _ h => hFc q h) hFc (fun u t H1 locs ht9 hvm hr53 hB hz1 hk1 hS => ?_)
          obtain ⟨n54, n55, n56, rfl⟩ := hr53
          have hn54 : ∀ j, inb (bA 20 2 j) (n54 j) := fun j => full_i _
          obtain ⟨hP, hD⟩ := hB
          rw [ht9] at hP
          generalize H1 = H at hP hS ⊢
          have hP : va_P (dC, dI) classes (WX h g ca (u2 (u2 iv 2 6 w48_i_2_6) 2 7 w48_i_2_7) lv (u2 fa 20 2 n54) (u2 (u2 la 20 0 n55) 20 1 n56)) H := hP
          have hD : va_D A (WX h g ca (u2 (u2 iv 2 6 w48_i_2_6) 2 7 w48_i_2_7) lv (u2 fa 20 2 n54) (u2 (u2 la 20 0 n55) 20 1 n56)) := (show va_D _ (WX h g ca (u2 (u2 iv 2 6 w48_i_2_6) 2 7 w48_i_2_7) lv (u2 fa 20 2 n54) (u2 (u2 la 20 0 n55) 20 1 n56)) from hD).weaken (fun _ _ _ h => hFc _ h)
          refine lv_aload_n hx hb dX2_takeSome_68 rfl (lv_at hl 2 rfl) ?_
          refine lv_iload_n hx hb dX2_takeSome_69 rfl (lv_at hl 3 rfl) ?_
          refine lv_iconst (v := 1) hx hb dX2_takeSome_70 (by decide) ?_
          refine lv_isub hx hb dX2_takeSome_71 ?_
          refine lv_topi (fun v57 ev57 => ?_)
          obtain rfl : 9 = v57 := (ev57.trans (by decide)).symm
          refine lv_iload hx hb dX2_takeSome_72 (lv_at hl 1 rfl) ?_
          refine lv_iconst (v := 1) hx hb dX2_takeSome_74 (by decide) ?_
          refine lv_iadd hx hb dX2_takeSome_75 ?_
          refine lv_topi (fun v58 ev58 => ?_)
          have tv58 := z_add ev58 (rfl : (x48_4).toInt = _) (by decide : (1 : Int32).toInt = 1) (by omega) (by omega)
          refine lv_iload_n hx hb dX2_takeSome_76 rfl (lv_at hl 5 rfl) ?_
          have hFc := free_all hD hS hA
          refine va_callv (va_runV (As := [.int 9, .int v58, .int n]) (rest := []) ⟨hx, hb, hml, hown, ht⟩ (c_X2_takeSome_9 l dC dI H.size h g ca (u2 (u2 iv 2 6 w48_i_2_6) 2 7 w48_i_2_7) lv (u2 fa 20 2 n54) (u2 (u2 la 20 0 n55) 20 1 n56) (IX_a (c := 20) (k := 2) (IX_i (c := 2) (k := 7) (IX_i (c := 2) (k := 6) hI (full_i _)) (full_i _)) hn54) v58 n ⟨by omega, by omega⟩ ⟨by omega, by omega⟩) (kV 3 ht m_933 m_935 m_38 m_85 m_936 rfl rfl hd_X2_takeSome_v ⟨Nat.le_of_ble_eq_true rfl, Nat.le_of_ble_eq_true rfl⟩) (vW hP hK hD (rX_2 hK hP)) rfl rfl hl.1 rfl (lv_room (Nat.le_of_ble_eq_true rfl)) dX2_takeSome_77 ⟨Nat.le_of_ble_eq_true rfl, Nat.le_of_ble_eq_true rfl⟩) hS (fun q _ h => hFc q h) hFc (fun u t H1 locs ht9 hvm hr59 hB hz1 hk1 hS => ?_)
          obtain ⟨n60, n61, n62, n63, n64, rfl⟩ := hr59
          have hn60 : ∀ j, inb (bA 20 2 j) (n60 j) := fun j => full_i _
          obtain ⟨hP, hD⟩ := hB
          rw [ht9] at hP
          generalize H1 = H at hP hS ⊢
          have hP : va_P (dC, dI) classes (WX h g ca (u2 (u2 iv 2 6 n63) 2 7 n64) lv (u2 fa 20 2 n60) (u2 (u2 la 20 0 n61) 20 1 n62)) H := hP
          have hD : va_D A (WX h g ca (u2 (u2 iv 2 6 n63) 2 7 n64) lv (u2 fa 20 2 n60) (u2 (u2 la 20 0 n61) 20 1 n62)) := (show va_D _ (WX h g ca (u2 (u2 iv 2 6 n63) 2 7 n64) lv (u2 fa 20 2 n60) (u2 (u2 la 20 0 n61) 20 1 n62)) from hD).weaken (fun _ _ _ h => hFc _ h)
          refine lv_aload_n hx hb dX2_takeSome_80 rfl (lv_at hl 2 rfl) ?_
          refine gX_2_1 hx hb ht hown hK hP m_305 dX2_takeSome_81 ?_
          refine lv_iconst (v := 1) hx hb dX2_takeSome_84 (by decide) ?_
          refine lv_aload_n hx hb dX2_takeSome_85 rfl (lv_at hl 2 rfl) ?_
          refine gX_2_0 hx hb ht hown hK hP m_304 dX2_takeSome_86 ?_
          refine lv_iload hx hb dX2_takeSome_89 (lv_at hl 0 rfl) ?_
          refine lv_iconst (v := 3) hx hb dX2_takeSome_91 (by decide) ?_
          refine vp_callSi (W.runV (As := [.int v52, .int 3]) (rest := [.int 1, .ref (g 2 1)]) ⟨hx, hb, hml, hown, ht⟩ (c_X10_get l dC dI h g ca (u2 (u2 iv 2 6 n63) 2 7 n64) lv (u2 fa 20 2 n60) (u2 (u2 la 20 0 n61) 20 1 n62) (IX_a (c := 20) (k := 2) (IX_i (c := 2) (k := 7) (IX_i (c := 2) (k := 6) hI (full_i _)) (full_i _)) hn60) v52 3 ⟨by omega, by omega⟩ ⟨by decide, by decide⟩) (kV 2 ht m_889 m_486 m_487 m_78 m_488 rfl rfl hd_X10_get_v ⟨Nat.le_of_ble_eq_true rfl, Nat.le_of_ble_eq_true rfl⟩) (vR hP hK (rX_10 hK hP)) rfl rfl hl.1 rfl (lv_room (Nat.le_of_ble_eq_true rfl)) dX2_takeSome_92 ⟨Nat.le_of_ble_eq_true rfl, Nat.le_of_ble_eq_true rfl⟩) (fun r65 hr65 => ?_)
          refine lv_aload_n hx hb dX2_takeSome_95 rfl (lv_at hl 2 rfl) ?_
          refine gX_2_0 hx hb ht hown hK hP m_304 dX2_takeSome_96 ?_
          refine lv_iload hx hb dX2_takeSome_99 (lv_at hl 0 rfl) ?_
          refine lv_iconst (v := 4) hx hb dX2_takeSome_101 (by decide) ?_
          refine vp_callSi (W.runV (As := [.int v52, .int 4]) (rest := [.int r65, .int 1, .ref (g 2 1)]) ⟨hx, hb, hml, hown, ht⟩ (c_X10_get l dC dI h g ca (u2 (u2 iv 2 6 n63) 2 7 n64) lv (u2 fa 20 2 n60) (u2 (u2 la 20 0 n61) 20 1 n62) (IX_a (c := 20) (k := 2) (IX_i (c := 2) (k := 7) (IX_i (c := 2) (k := 6) hI (full_i _)) (full_i _)) hn60) v52 4 ⟨by omega, by omega⟩ ⟨by decide, by decide⟩) (kV 2 ht m_889 m_486 m_487 m_78 m_488 rfl rfl hd_X10_get_v ⟨Nat.le_of_ble_eq_true rfl, Nat.le_of_ble_eq_true rfl⟩) (vR hP hK (rX_10 hK hP)) rfl rfl hl.1 rfl (lv_room (Nat.le_of_ble_eq_true rfl)) dX2_takeSome_102 ⟨Nat.le_of_ble_eq_true rfl, Nat.le_of_ble_eq_true rfl⟩) (fun r66 hr66 => ?_)
          have hFc := free_all hD hS hA
          refine va_callv (va_runV (As := [.int 1, .int r65, .int r66]) (rest := []) ⟨hx, hb, hml, hown, ht⟩ (c_X7_remove_20 l dC dI H.size h g ca (u2 (u2 iv 2 6 n63) 2 7 n64) lv (u2 fa 20 2 n60) (u2 (u2 la 20 0 n61) 20 1 n62) (IX_a (c := 20) (k := 2) (IX_i (c := 2) (k := 7) (IX_i (c := 2) (k := 6) hI (full_i _)) (full_i _)) hn60) 1 r65 r66 ⟨by decide, by decide⟩) (kV 3 ht m_937 m_938 m_939 m_84 m_940 rfl rfl hd_X7_remove_v ⟨Nat.le_of_ble_eq_true rfl, Nat.le_of_ble_eq_true rfl⟩) (vW hP hK hD (rX_20 hK hP)) rfl rfl hl.1 rfl (lv_room (Nat.le_of_ble_eq_true rfl)) dX2_takeSome_105 ⟨Nat.le_of_ble_eq_true rfl, Nat.le_of_ble_eq_true rfl⟩) hS (fun q _ h => hFc q h) hFc (fun u t H1 locs ht9 hvm hr67 hB hz1 hk1 hS => ?_)
          obtain ⟨n68, n69, n70, rfl⟩ := hr67
          have hn68 : ∀ j, inb (bA 20 2 j) (n68 j) := fun j => full_i _
          obtain ⟨hP, hD⟩ := hB
          rw [ht9] at hP
          generalize H1 = H at hP hS ⊢
          have hP : va_P (dC, dI) classes (WX h g ca (u2 (u2 iv 2 6 n63) 2 7 n64) lv (u2 fa 20 2 n68) (u2 (u2 la 20 0 n69) 20 1 n70)) H := hP
          have hD : va_D A (WX h g ca (u2 (u2 iv 2 6 n63) 2 7 n64) lv (u2 fa 20 2 n68) (u2 (u2 la 20 0 n69) 20 1 n70)) := (show va_D _ (WX h g ca (u2 (u2 iv 2 6 n63) 2 7 n64) lv (u2 fa 20 2 n68) (u2 (u2 la 20 0 n69) 20 1 n70)) from hD).weaken (fun _ _ _ h => hFc _ h)
          obtain ⟨v71, ev71⟩ : ∃ y : Int32, y = x48_4 + 1 := ⟨_, rfl⟩
          have tv71 := z_add ev71 rfl (by decide : (1 : Int32).toInt = 1) (by omega) (by omega)
          refine lv_iinc (v := v71) (lv' := [(4, .int v71), (5, .int v52), (0, .ref (g 11 6)), (1, .int 10), (2, .int k), (3, .int n)]) hx hb dX2_takeSome_108 hl (k := 1) rfl (by rw [ev71]; rfl) (by decide) rfl (fun ls hl => ?_)
          refine lv_goto (tgt := 44) hx hb dX2_takeSome_111 (by decide) ?_
          exact ih49 v71 n63 n64 n68 n69 n70 ⟨by omega, by omega⟩ hn68 (by omega) _ _ ls hP hD hS (lv_sub hl [0, 2, 3, 4, 5] rfl)
    exact lp49 13 k (iv 2 6) (iv 2 7) (fa 20 2) (la 20 0) (la 20 1) ⟨by omega, by omega⟩ (hI.2 20 2) (by first | decide | omega) _ _ ls hP hD hS (lv_sub hl [0, 1, 2, 3, 4] rfl)
  · exact absurd c1 (by decide)
set_option maxHeartbeats 4000000 in
set_option maxRecDepth 100000 in
/-- X2_takeSome -/
theorem c_X2_takeSome_11 (l : Launch) (dC : Nat → ClassId) (dI : Nat → Nat → Nat) (sz : Nat) (h : Nat) (g : Nat → Nat → Nat) (ca : Nat → Nat → ClassId) (iv : Nat → Nat → Int32) (lv : Nat → Nat → Int64) (fa : Nat → Nat → Nat → Int32) (la : Nat → Nat → Nat → Int64) (hI : IX iv fa) (k : Int32) (n : Int32) (h_k : 0 ≤ k.toInt ∧ k.toInt ≤ 12) (h_n : 0 ≤ n.toInt ∧ n.toInt ≤ 12) : Met l yX2_takeSome (wc yX2_takeSome cX2_takeSome 6 none) ({ frames := 13, cells := 0, slots := 0, locals := 338 } : Room) (pW (dC, dI) classes (WX h g ca iv lv fa la) (TX ca) sz [.ref (g 11 6), .int 11, .int k, .int n]) (va_Qv (fun (u : SS) => ∃ (na_20_2 : Nat → Int32) (nb_20_0 : Nat → Int64) (nb_20_1 : Nat → Int64) (ni_2_6 : Int32) (ni_2_7 : Int32), u = ((u2 (u2 iv 2 6 ni_2_6) 2 7 ni_2_7), lv, (u2 fa 20 2 na_20_2), (u2 (u2 la 20 0 nb_20_0) 20 1 nb_20_1))) (bX (dC, dI) h g ca (va_A (WX h g ca iv lv fa la) sz)) (va_A (WX h g ca iv lv fa la) sz)) 0 0 (va_A (WX h g ca iv lv fa la) sz) := by
  refine Met.ofW (cc := cX2_takeSome) (maxL := 6) (ret := none) (by decide) rfl ?_
  intro p e s m args below meth c s₁ B hml hv
  obtain ⟨rfl, hsz, hP, hK, hD0⟩ := hv
  have hx := B.exec
  have hb := B.bytes
  have hr := B.returns
  have ht := tb_tl (atoms_spec (ws := wc yX2_takeSome cX2_takeSome 6 none) B.pre)
  have hown : s.vm.findClass RX2 = some m.cls := findClass_of_methodNamed B.named
  have hlocks := B.notSynchronized
  subst hsz
  have hD := hD0.self (sz := s.heap.size)
  generalize hAe : va_A (WX h g ca iv lv fa la) s.heap.size = A at hD ⊢
  have hA : ∀ q : Nat, s.heap.size ≤ q → A q := fun q h => by rw [← hAe]; exact Or.inr h
  have hS : va_S A s.heap s.heap [] := va_S.rf
  have hl := lv_entry [.ref (g 11 6), .int 11, .int k, .int n] (n := 6) (Nat.le_of_ble_eq_true rfl)
  rw [lg_entry_eq]
  generalize (lg_sl [.ref (g 11 6), .int 11, .int k, .int n] ++ List.replicate (6 - (lg_sl [.ref (g 11 6), .int 11, .int k, .int n]).length) Slot.unset).toArray = ls at hl ⊢
  have hl : lv_has ls 6 [(0, .ref (g 11 6)), (1, .int 11), (2, .int k), (3, .int n)] := hl
  refine lv_iload_n hx hb dX2_takeSome_0 rfl (lv_at hl 1 rfl) ?_
  refine lv_if_gt (tgt := 41) hx hb dX2_takeSome_1 (by decide) (fun c1 => ?_) (fun c1 => ?_)
  · skip
    refine lv_iload_n hx hb dX2_takeSome_41 rfl (lv_at hl 2 rfl) ?_
    refine lv_istore (lv' := [(4, .int k), (0, .ref (g 11 6)), (1, .int 11), (2, .int k), (3, .int n)]) hx hb dX2_takeSome_42 hl (by decide) rfl (fun ls hl => ?_)
    have lp49 : ∀ (nn49 : Nat) (x48_4 : Int32) (w48_i_2_6 : Int32) (w48_i_2_7 : Int32) (w48_a_20_2 : Nat → Int32) (w48_b_20_0 : Nat → Int64) (w48_b_20_1 : Nat → Int64), 0 ≤ x48_4.toInt ∧ x48_4.toInt ≤ 12 → (∀ j, inb (bA 20 2 j) (w48_a_20_2 j)) → 12 - x48_4.toInt < (nn49 : Int) → ∀ (H : Heap) (locs : List Loc), ∀ (ls : Array Slot), va_P (dC, dI) classes (WX h g ca (u2 (u2 iv 2 6 w48_i_2_6) 2 7 w48_i_2_7) lv (u2 fa 20 2 w48_a_20_2) (u2 (u2 la 20 0 w48_b_20_0) 20 1 w48_b_20_1)) H → va_D A (WX h g ca (u2 (u2 iv 2 6 w48_i_2_6) 2 7 w48_i_2_7) lv (u2 fa 20 2 w48_a_20_2) (u2 (u2 la 20 0 w48_b_20_0) 20 1 w48_b_20_1)) → va_S A s.heap H locs → lv_has ls 6 [(4, .int x48_4), (0, .ref (g 11 6)), (1, .int 11), (2, .int k), (3, .int n)] → W p l e ({ frames := 13, cells := 0, slots := 0, locals := 338 } : Room) s m ([.ref (g 11 6), .int 11, .int k, .int n] : List Value).toArray below meth c H locs 0 0 (MQ below (va_Qv (fun (u : SS) => ∃ (na_20_2 : Nat → Int32) (nb_20_0 : Nat → Int64) (nb_20_1 : Nat → Int64) (ni_2_6 : Int32) (ni_2_7 : Int32), u = ((u2 (u2 iv 2 6 ni_2_6) 2 7 ni_2_7), lv, (u2 fa 20 2 na_20_2), (u2 (u2 la 20 0 nb_20_0) 20 1 nb_20_1))) (bX (dC, dI) h g ca A) A) ([.ref (g 11 6), .int 11, .int k, .int n] : List Value).toArray s 0 0 A) (F0 m 44 ls []) := by
      intro nn49
      induction nn49 with
      | zero => intro x48_4 w48_i_2_6 w48_i_2_7 w48_a_20_2 w48_b_20_0 w48_b_20_1 hx48_4 hw48_a_20_2 hm49; exfalso; omega
      | succ nn49 ih49 =>
        intro x48_4 w48_i_2_6 w48_i_2_7 w48_a_20_2 w48_b_20_0 w48_b_20_1 hx48_4 hw48_a_20_2 hm49 H locs ls hP hD hS hl
        refine lv_iload hx hb dX2_takeSome_44 (lv_at hl 0 rfl) ?_
        refine lv_iload_n hx hb dX2_takeSome_46 rfl (lv_at hl 4 rfl) ?_
        refine lv_iload_n hx hb dX2_takeSome_47 rfl (lv_at hl 2 rfl) ?_
        refine lv_isub hx hb dX2_takeSome_48 ?_
        refine lv_topi (fun v50 ev50 => ?_)
        have tv50 := z_sub ev50 (rfl : (n).toInt = _) (by decide : (11 : Int32).toInt = 11) (by omega) (by omega)
        refine lv_icmp_gt (tgt := 114) hx hb dX2_takeSome_49 (by decide) (fun c51 => ?_) (fun c51 => ?_)
        · have fc51 := z_lt (rfl : (v50).toInt = _) (rfl : (x48_4).toInt = _) c51
          have hP9 : va_P (dC, dI) classes (WX h g ca (u2 (u2 iv 2 6 w48_i_2_6) 2 7 w48_i_2_7) lv (u2 fa 20 2 w48_a_20_2) (u2 (u2 la 20 0 w48_b_20_0) 20 1 w48_b_20_1)) H := hP
          have hD9 : va_D A (WX h g ca (u2 (u2 iv 2 6 w48_i_2_6) 2 7 w48_i_2_7) lv (u2 fa 20 2 w48_a_20_2) (u2 (u2 la 20 0 w48_b_20_0) 20 1 w48_b_20_1)) := hD
          exact W.vret hx hb hr (fun t ht9 hW => ⟨⟨((u2 (u2 iv 2 6 w48_i_2_6) 2 7 w48_i_2_7), lv, (u2 fa 20 2 w48_a_20_2), (u2 (u2 la 20 0 w48_b_20_0) 20 1 w48_b_20_1)), rfl, ⟨w48_a_20_2, w48_b_20_0, w48_b_20_1, w48_i_2_6, w48_i_2_7, rfl⟩, by rw [ht9]; exact hP9, hD9⟩, hS.F ht9⟩) hS.2.2 dX2_takeSome_114
        · have fc51 := z_nlt (rfl : (v50).toInt = _) (rfl : (x48_4).toInt = _) c51
          refine lv_aload_n hx hb dX2_takeSome_52 rfl (lv_at hl 1 rfl) ?_
          refine gX_2_2 hx hb ht hown hK hP m_306 dX2_takeSome_53 ?_
          refine lv_iload hx hb dX2_takeSome_56 (lv_at hl 0 rfl) ?_
          refine lX_2_2 hx hb hK hP (f := (fa 2 2)) rfl (vp_in_iff.mpr ⟨by omega, by omega⟩) dX2_takeSome_58 ?_
          refine lv_topi (fun v52 ev52 => ?_)
          have tv52 : 0 ≤ v52.toInt ∧ v52.toInt ≤ 59 := by rw [ev52]; exact hI.2 2 2 _
          refine lv_istore (lv' := [(5, .int v52), (4, .int x48_4), (0, .ref (g 11 6)), (1, .int 11), (2, .int k), (3, .int n)]) hx hb dX2_takeSome_59 hl (by decide) rfl (fun ls hl => ?_)
          refine lv_aload_n hx hb dX2_takeSome_61 rfl (lv_at hl 2 rfl) ?_
          refine lv_iconst (v := 1) hx hb dX2_takeSome_62 (by decide) ?_
          refine lv_iload hx hb dX2_takeSome_63 (lv_at hl 0 rfl) ?_
          have hFc := free_all hD hS hA
          refine va_callv (va_runV (As := [.int 1, .int v52]) (rest := []) ⟨hx, hb, hml, hown, ht⟩ (c_X2_heap l dC dI H.size h g ca (u2 (u2 iv 2 6 w48_i_2_6) 2 7 w48_i_2_7) lv (u2 fa 20 2 w48_a_20_2) (u2 (u2 la 20 0 w48_b_20_0) 20 1 w48_b_20_1) (IX_a (c := 20) (k := 2) (IX_i (c := 2) (k := 7) (IX_i (c := 2) (k := 6) hI (full_i _)) (full_i _)) hw48_a_20_2) 1 v52 ⟨by decide, by decide⟩ ⟨by omega, by omega⟩) (kV 2 ht m_890 m_892 m_33 m_85 m_893 rfl rfl hd_X2_heap_v ⟨Nat.le_of_ble_eq_true rfl, Nat.le_of_ble_eq_true rfl⟩) (vW hP hK hD (rX_2 hK hP)) rfl rfl hl.1 rfl (lv_room (Nat.le_of_ble_eq_true rfl)) dX2_takeSome_65 ⟨Nat.le_of_ble_eq_true rfl, Nat.le_of_ble_eq_true rfl⟩) hS (fun q _ h => hFc q h) hFc (fun u t H1 locs ht9 hvm hr53 hB hz1 hk1 hS => ?_)
          obtain ⟨n54, n55, n56, rfl⟩ := hr53
          have hn54 : ∀ j, inb (bA 20 2 j) (n54 j) := fun j => full_i _
          obtain ⟨hP, hD⟩ := hB
          rw [ht9] at hP
          generalize H1 = H at hP hS ⊢
          have hP : va_P (dC, dI) classes (WX h g ca (u2 (u2 iv 2 6 w48_i_2_6) 2 7 w48_i_2_7) lv (u2 fa 20 2 n54) (u2 (u2 la 20 0 n55) 20 1 n56)) H := hP
          have hD : va_D A (WX h g ca (u2 (u2 iv 2 6 w48_i_2_6) 2 7 w48_i_2_7) lv (u2 fa 20 2 n54) (u2 (u2 la 20 0 n55) 20 1 n56)) := (show va_D _ (WX h g ca (u2 (u2 iv 2 6 w48_i_2_6) 2 7 w48_i_2_7) lv (u2 fa 20 2 n54) (u2 (u2 la 20 0 n55) 20 1 n56)) from hD).weaken (fun _ _ _ h => hFc _ h)
          refine lv_aload_n hx hb dX2_takeSome_68 rfl (lv_at hl 2 rfl) ?_
          refine lv_iload_n hx hb dX2_takeSome_69 rfl (lv_at hl 3 rfl) ?_
          refine lv_iconst (v := 1) hx hb dX2_takeSome_70 (by decide) ?_
          refine lv_isub hx hb dX2_takeSome_71 ?_
          refine lv_topi (fun v57 ev57 => ?_)
          obtain rfl : 10 = v57 := (ev57.trans (by decide)).symm
          refine lv_iload hx hb dX2_takeSome_72 (lv_at hl 1 rfl) ?_
          refine lv_iconst (v := 1) hx hb dX2_takeSome_74 (by decide) ?_
          refine lv_iadd hx hb dX2_takeSome_75 ?_
          refine lv_topi (fun v58 ev58 => ?_)
          have tv58 := z_add ev58 (rfl : (x48_4).toInt = _) (by decide : (1 : Int32).toInt = 1) (by omega) (by omega)
          refine lv_iload_n hx hb dX2_takeSome_76 rfl (lv_at hl 5 rfl) ?_
          have hFc := free_all hD hS hA
          refine va_callv (va_runV (As := [.int 10, .int v58, .int n]) (rest := []) ⟨hx, hb, hml, hown, ht⟩ (c_X2_takeSome_10 l dC dI H.size h g ca (u2 (u2 iv 2 6 w48_i_2_6) 2 7 w48_i_2_7) lv (u2 fa 20 2 n54) (u2 (u2 la 20 0 n55) 20 1 n56) (IX_a (c := 20) (k := 2) (IX_i (c := 2) (k := 7) (IX_i (c := 2) (k := 6) hI (full_i _)) (full_i _)) hn54) v58 n ⟨by omega, by omega⟩ ⟨by omega, by omega⟩) (kV 3 ht m_933 m_935 m_38 m_85 m_936 rfl rfl hd_X2_takeSome_v ⟨Nat.le_of_ble_eq_true rfl, Nat.le_of_ble_eq_true rfl⟩) (vW hP hK hD (rX_2 hK hP)) rfl rfl hl.1 rfl (lv_room (Nat.le_of_ble_eq_true rfl)) dX2_takeSome_77 ⟨Nat.le_of_ble_eq_true rfl, Nat.le_of_ble_eq_true rfl⟩) hS (fun q _ h => hFc q h) hFc (fun u t H1 locs ht9 hvm hr59 hB hz1 hk1 hS => ?_)
          obtain ⟨n60, n61, n62, n63, n64, rfl⟩ := hr59
          have hn60 : ∀ j, inb (bA 20 2 j) (n60 j) := fun j => full_i _
          obtain ⟨hP, hD⟩ := hB
          rw [ht9] at hP
          generalize H1 = H at hP hS ⊢
          have hP : va_P (dC, dI) classes (WX h g ca (u2 (u2 iv 2 6 n63) 2 7 n64) lv (u2 fa 20 2 n60) (u2 (u2 la 20 0 n61) 20 1 n62)) H := hP
          have hD : va_D A (WX h g ca (u2 (u2 iv 2 6 n63) 2 7 n64) lv (u2 fa 20 2 n60) (u2 (u2 la 20 0 n61) 20 1 n62)) := (show va_D _ (WX h g ca (u2 (u2 iv 2 6 n63) 2 7 n64) lv (u2 fa 20 2 n60) (u2 (u2 la 20 0 n61) 20 1 n62)) from hD).weaken (fun _ _ _ h => hFc _ h)
          refine lv_aload_n hx hb dX2_takeSome_80 rfl (lv_at hl 2 rfl) ?_
          refine gX_2_1 hx hb ht hown hK hP m_305 dX2_takeSome_81 ?_
          refine lv_iconst (v := 1) hx hb dX2_takeSome_84 (by decide) ?_
          refine lv_aload_n hx hb dX2_takeSome_85 rfl (lv_at hl 2 rfl) ?_
          refine gX_2_0 hx hb ht hown hK hP m_304 dX2_takeSome_86 ?_
          refine lv_iload hx hb dX2_takeSome_89 (lv_at hl 0 rfl) ?_
          refine lv_iconst (v := 3) hx hb dX2_takeSome_91 (by decide) ?_
          refine vp_callSi (W.runV (As := [.int v52, .int 3]) (rest := [.int 1, .ref (g 2 1)]) ⟨hx, hb, hml, hown, ht⟩ (c_X10_get l dC dI h g ca (u2 (u2 iv 2 6 n63) 2 7 n64) lv (u2 fa 20 2 n60) (u2 (u2 la 20 0 n61) 20 1 n62) (IX_a (c := 20) (k := 2) (IX_i (c := 2) (k := 7) (IX_i (c := 2) (k := 6) hI (full_i _)) (full_i _)) hn60) v52 3 ⟨by omega, by omega⟩ ⟨by decide, by decide⟩) (kV 2 ht m_889 m_486 m_487 m_78 m_488 rfl rfl hd_X10_get_v ⟨Nat.le_of_ble_eq_true rfl, Nat.le_of_ble_eq_true rfl⟩) (vR hP hK (rX_10 hK hP)) rfl rfl hl.1 rfl (lv_room (Nat.le_of_ble_eq_true rfl)) dX2_takeSome_92 ⟨Nat.le_of_ble_eq_true rfl, Nat.le_of_ble_eq_true rfl⟩) (fun r65 hr65 => ?_)
          refine lv_aload_n hx hb dX2_takeSome_95 rfl (lv_at hl 2 rfl) ?_
          refine gX_2_0 hx hb ht hown hK hP m_304 dX2_takeSome_96 ?_
          refine lv_iload hx hb dX2_takeSome_99 (lv_at hl 0 rfl) ?_
          refine lv_iconst (v := 4) hx hb dX2_takeSome_101 (by decide) ?_
          refine vp_callSi (W.runV (As := [.int v52, .int 4]) (rest := [.int r65, .int 1, .ref (g 2 1)]) ⟨hx, hb, hml, hown, ht⟩ (c_X10_get l dC dI h g ca (u2 (u2 iv 2 6 n63) 2 7 n64) lv (u2 fa 20 2 n60) (u2 (u2 la 20 0 n61) 20 1 n62) (IX_a (c := 20) (k := 2) (IX_i (c := 2) (k := 7) (IX_i (c := 2) (k := 6) hI (full_i _)) (full_i _)) hn60) v52 4 ⟨by omega, by omega⟩ ⟨by decide, by decide⟩) (kV 2 ht m_889 m_486 m_487 m_78 m_488 rfl rfl hd_X10_get_v ⟨Nat.le_of_ble_eq_true rfl, Nat.le_of_ble_eq_true rfl⟩) (vR hP hK (rX_10 hK hP)) rfl rfl hl.1 rfl (lv_room (Nat.le_of_ble_eq_true rfl)) dX2_takeSome_102 ⟨Nat.le_of_ble_eq_true rfl, Nat.le_of_ble_eq_true rfl⟩) (fun r66 hr66 => ?_)
          have hFc := free_all hD hS hA
          refine va_callv (va_runV (As := [.int 1, .int r65, .int r66]) (rest := []) ⟨hx, hb, hml, hown, ht⟩ (c_X7_remove_20 l dC dI H.size h g ca (u2 (u2 iv 2 6 n63) 2 7 n64) lv (u2 fa 20 2 n60) (u2 (u2 la 20 0 n61) 20 1 n62) (IX_a (c := 20) (k := 2) (IX_i (c := 2) (k := 7) (IX_i (c := 2) (k := 6) hI (full_i _)) (full_i _)) hn60) 1 r65 r66 ⟨by decide, by decide⟩) (kV 3 ht m_937 m_938 m_939 m_84 m_940 rfl rfl hd_X7_remove_v ⟨Nat.le_of_ble_eq_true rfl, Nat.le_of_ble_eq_true rfl⟩) (vW hP hK hD (rX_20 hK hP)) rfl rfl hl.1 rfl (lv_room (Nat.le_of_ble_eq_true rfl)) dX2_takeSome_105 ⟨Nat.le_of_ble_eq_true rfl, Nat.le_of_ble_eq_true rfl⟩) hS (fun q _ h => hFc q h) hFc (fun u t H1 locs ht9 hvm hr67 hB hz1 hk1 hS => ?_)
          obtain ⟨n68, n69, n70, rfl⟩ := hr67
          have hn68 : ∀ j, inb (bA 20 2 j) (n68 j) := fun j => full_i _
          obtain ⟨hP, hD⟩ := hB
          rw [ht9] at hP
          generalize H1 = H at hP hS ⊢
          have hP : va_P (dC, dI) classes (WX h g ca (u2 (u2 iv 2 6 n63) 2 7 n64) lv (u2 fa 20 2 n68) (u2 (u2 la 20 0 n69) 20 1 n70)) H := hP
          have hD : va_D A (WX h g ca (u2 (u2 iv 2 6 n63) 2 7 n64) lv (u2 fa 20 2 n68) (u2 (u2 la 20 0 n69) 20 1 n70)) := (show va_D _ (WX h g ca (u2 (u2 iv 2 6 n63) 2 7 n64) lv (u2 fa 20 2 n68) (u2 (u2 la 20 0 n69) 20 1 n70)) from hD).weaken (fun _ _ _ h => hFc _ h)
          obtain ⟨v71, ev71⟩ : ∃ y : Int32, y = x48_4 + 1 := ⟨_, rfl⟩
          have tv71 := z_add ev71 rfl (by decide : (1 : Int32).toInt = 1) (by omega) (by omega)
          refine lv_iinc (v := v71) (lv' := [(4, .int v71), (5, .int v52), (0, .ref (g 11 6)), (1, .int 11), (2, .int k), (3, .int n)]) hx hb dX2_takeSome_108 hl (k := 1) rfl (by rw [ev71]; rfl) (by decide) rfl (fun ls hl => ?_)
          refine lv_goto (tgt := 44) hx hb dX2_takeSome_111 (by decide) ?_
          exact ih49 v71 n63 n64 n68 n69 n70 ⟨by omega, by omega⟩ hn68 (by omega) _ _ ls hP hD hS (lv_sub hl [0, 2, 3, 4, 5] rfl)
    exact lp49 13 k (iv 2 6) (iv 2 7) (fa 20 2) (la 20 0) (la 20 1) ⟨by omega, by omega⟩ (hI.2 20 2) (by first | decide | omega) _ _ ls hP hD hS (lv_sub hl [0, 1, 2, 3, 4] rfl)
  · exact absurd c1 (by decide)
set_option maxHeartbeats 4000000 in
set_option maxRecDepth 100000 in
/-- X2_takeSome -/
theorem c_X2_takeSome_12 (l : Launch) (dC : Nat → ClassId) (dI : Nat → Nat → Nat) (sz : Nat) (h : Nat) (g : Nat → Nat → Nat) (ca : Nat → Nat → ClassId) (iv : Nat → Nat → Int32) (lv : Nat → Nat → Int64) (fa : Nat → Nat → Nat → Int32) (la : Nat → Nat → Nat → Int64) (hI : IX iv fa) (k : Int32) (n : Int32) (h_k : 0 ≤ k.toInt ∧ k.toInt ≤ 12) (h_n : 0 ≤ n.toInt ∧ n.toInt ≤ 12) : Met l yX2_takeSome (wc yX2_takeSome cX2_takeSome 6 none) ({ frames := 14, cells := 0, slots := 0, locals := 363 } : Room) (pW (dC, dI) classes (WX h g ca iv lv fa la) (TX ca) sz [.ref (g 11 6), .int 12, .int k, .int n]) (va_Qv (fun (u : SS) => ∃ (na_20_2 : Nat → Int32) (nb_20_0 : Nat → Int64) (nb_20_1 : Nat → Int64) (ni_2_6 : Int32) (ni_2_7 : Int32), u = ((u2 (u2 iv 2 6 ni_2_6) 2 7 ni_2_7), lv, (u2 fa 20 2 na_20_2), (u2 (u2 la 20 0 nb_20_0) 20 1 nb_20_1))) (bX (dC, dI) h g ca (va_A (WX h g ca iv lv fa la) sz)) (va_A (WX h g ca iv lv fa la) sz)) 0 0 (va_A (WX h g ca iv lv fa la) sz) := by
  refine Met.ofW (cc := cX2_takeSome) (maxL := 6) (ret := none) (by decide) rfl ?_
  intro p e s m args below meth c s₁ B hml hv
  obtain ⟨rfl, hsz, hP, hK, hD0⟩ := hv
  have hx := B.exec
  have hb := B.bytes
  have hr := B.returns
  have ht := tb_tl (atoms_spec (ws := wc yX2_takeSome cX2_takeSome 6 none) B.pre)
  have hown : s.vm.findClass RX2 = some m.cls := findClass_of_methodNamed B.named
  have hlocks := B.notSynchronized
  subst hsz
  have hD := hD0.self (sz := s.heap.size)
  generalize hAe : va_A (WX h g ca iv lv fa la) s.heap.size = A at hD ⊢
  have hA : ∀ q : Nat, s.heap.size ≤ q → A q := fun q h => by rw [← hAe]; exact Or.inr h
  have hS : va_S A s.heap s.heap [] := va_S.rf
  have hl := lv_entry [.ref (g 11 6), .int 12, .int k, .int n] (n := 6) (Nat.le_of_ble_eq_true rfl)
  rw [lg_entry_eq]
  generalize (lg_sl [.ref (g 11 6), .int 12, .int k, .int n] ++ List.replicate (6 - (lg_sl [.ref (g 11 6), .int 12, .int k, .int n]).length) Slot.unset).toArray = ls at hl ⊢
  have hl : lv_has ls 6 [(0, .ref (g 11 6)), (1, .int 12), (2, .int k), (3, .int n)] := hl
  refine lv_iload_n hx hb dX2_takeSome_0 rfl (lv_at hl 1 rfl) ?_
  refine lv_if_gt (tgt := 41) hx hb dX2_takeSome_1 (by decide) (fun c1 => ?_) (fun c1 => ?_)
  · skip
    refine lv_iload_n hx hb dX2_takeSome_41 rfl (lv_at hl 2 rfl) ?_
    refine lv_istore (lv' := [(4, .int k), (0, .ref (g 11 6)), (1, .int 12), (2, .int k), (3, .int n)]) hx hb dX2_takeSome_42 hl (by decide) rfl (fun ls hl => ?_)
    have lp49 : ∀ (nn49 : Nat) (x48_4 : Int32) (w48_i_2_6 : Int32) (w48_i_2_7 : Int32) (w48_a_20_2 : Nat → Int32) (w48_b_20_0 : Nat → Int64) (w48_b_20_1 : Nat → Int64), 0 ≤ x48_4.toInt ∧ x48_4.toInt ≤ 12 → (∀ j, inb (bA 20 2 j) (w48_a_20_2 j)) → 12 - x48_4.toInt < (nn49 : Int) → ∀ (H : Heap) (locs : List Loc), ∀ (ls : Array Slot), va_P (dC, dI) classes (WX h g ca (u2 (u2 iv 2 6 w48_i_2_6) 2 7 w48_i_2_7) lv (u2 fa 20 2 w48_a_20_2) (u2 (u2 la 20 0 w48_b_20_0) 20 1 w48_b_20_1)) H → va_D A (WX h g ca (u2 (u2 iv 2 6 w48_i_2_6) 2 7 w48_i_2_7) lv (u2 fa 20 2 w48_a_20_2) (u2 (u2 la 20 0 w48_b_20_0) 20 1 w48_b_20_1)) → va_S A s.heap H locs → lv_has ls 6 [(4, .int x48_4), (0, .ref (g 11 6)), (1, .int 12), (2, .int k), (3, .int n)] → W p l e ({ frames := 14, cells := 0, slots := 0, locals := 363 } : Room) s m ([.ref (g 11 6), .int 12, .int k, .int n] : List Value).toArray below meth c H locs 0 0 (MQ below (va_Qv (fun (u : SS) => ∃ (na_20_2 : Nat → Int32) (nb_20_0 : Nat → Int64) (nb_20_1 : Nat → Int64) (ni_2_6 : Int32) (ni_2_7 : Int32), u = ((u2 (u2 iv 2 6 ni_2_6) 2 7 ni_2_7), lv, (u2 fa 20 2 na_20_2), (u2 (u2 la 20 0 nb_20_0) 20 1 nb_20_1))) (bX (dC, dI) h g ca A) A) ([.ref (g 11 6), .int 12, .int k, .int n] : List Value).toArray s 0 0 A) (F0 m 44 ls []) := by
      intro nn49
      induction nn49 with
      | zero => intro x48_4 w48_i_2_6 w48_i_2_7 w48_a_20_2 w48_b_20_0 w48_b_20_1 hx48_4 hw48_a_20_2 hm49; exfalso; omega
      | succ nn49 ih49 =>
        intro x48_4 w48_i_2_6 w48_i_2_7 w48_a_20_2 w48_b_20_0 w48_b_20_1 hx48_4 hw48_a_20_2 hm49 H locs ls hP hD hS hl
        refine lv_iload hx hb dX2_takeSome_44 (lv_at hl 0 rfl) ?_
        refine lv_iload_n hx hb dX2_takeSome_46 rfl (lv_at hl 4 rfl) ?_
        refine lv_iload_n hx hb dX2_takeSome_47 rfl (lv_at hl 2 rfl) ?_
        refine lv_isub hx hb dX2_takeSome_48 ?_
        refine lv_topi (fun v50 ev50 => ?_)
        have tv50 := z_sub ev50 (rfl : (n).toInt = _) (by decide : (12 : Int32).toInt = 12) (by omega) (by omega)
        refine lv_icmp_gt (tgt := 114) hx hb dX2_takeSome_49 (by decide) (fun c51 => ?_) (fun c51 => ?_)
        · have fc51 := z_lt (rfl : (v50).toInt = _) (rfl : (x48_4).toInt = _) c51
          have hP9 : va_P (dC, dI) classes (WX h g ca (u2 (u2 iv 2 6 w48_i_2_6) 2 7 w48_i_2_7) lv (u2 fa 20 2 w48_a_20_2) (u2 (u2 la 20 0 w48_b_20_0) 20 1 w48_b_20_1)) H := hP
          have hD9 : va_D A (WX h g ca (u2 (u2 iv 2 6 w48_i_2_6) 2 7 w48_i_2_7) lv (u2 fa 20 2 w48_a_20_2) (u2 (u2 la 20 0 w48_b_20_0) 20 1 w48_b_20_1)) := hD
          exact W.vret hx hb hr (fun t ht9 hW => ⟨⟨((u2 (u2 iv 2 6 w48_i_2_6) 2 7 w48_i_2_7), lv, (u2 fa 20 2 w48_a_20_2), (u2 (u2 la 20 0 w48_b_20_0) 20 1 w48_b_20_1)), rfl, ⟨w48_a_20_2, w48_b_20_0, w48_b_20_1, w48_i_2_6, w48_i_2_7, rfl⟩, by rw [ht9]; exact hP9, hD9⟩, hS.F ht9⟩) hS.2.2 dX2_takeSome_114
        · have fc51 := z_nlt (rfl : (v50).toInt = _) (rfl : (x48_4).toInt = _) c51
          refine lv_aload_n hx hb dX2_takeSome_52 rfl (lv_at hl 1 rfl) ?_
          refine gX_2_2 hx hb ht hown hK hP m_306 dX2_takeSome_53 ?_
          refine lv_iload hx hb dX2_takeSome_56 (lv_at hl 0 rfl) ?_
          refine lX_2_2 hx hb hK hP (f := (fa 2 2)) rfl (vp_in_iff.mpr ⟨by omega, by omega⟩) dX2_takeSome_58 ?_
          refine lv_topi (fun v52 ev52 => ?_)
          have tv52 : 0 ≤ v52.toInt ∧ v52.toInt ≤ 59 := by rw [ev52]; exact hI.2 2 2 _
          refine lv_istore (lv' := [(5, .int v52), (4, .int x48_4), (0, .ref (g 11 6)), (1, .int 12), (2, .int k), (3, .int n)]) hx hb dX2_takeSome_59 hl (by decide) rfl (fun ls hl => ?_)
          refine lv_aload_n hx hb dX2_takeSome_61 rfl (lv_at hl 2 rfl) ?_
          refine lv_iconst (v := 1) hx hb dX2_takeSome_62 (by decide) ?_
          refine lv_iload hx hb dX2_takeSome_63 (lv_at hl 0 rfl) ?_
          have hFc := free_all hD hS hA
          refine va_callv (va_runV (As := [.int 1, .int v52]) (rest := []) ⟨hx, hb, hml, hown, ht⟩ (c_X2_heap l dC dI H.size h g ca (u2 (u2 iv 2 6 w48_i_2_6) 2 7 w48_i_2_7) lv (u2 fa 20 2 w48_a_20_2) (u2 (u2 la 20 0 w48_b_20_0) 20 1 w48_b_20_1) (IX_a (c := 20) (k := 2) (IX_i (c := 2) (k := 7) (IX_i (c := 2) (k := 6) hI (full_i _)) (full_i _)) hw48_a_20_2) 1 v52 ⟨by decide, by decide⟩ ⟨by omega, by omega⟩) (kV 2 ht m_890 m_892 m_33 m_85 m_893 rfl rfl hd_X2_heap_v ⟨Nat.le_of_ble_eq_true rfl, Nat.le_of_ble_eq_true rfl⟩) (vW hP hK hD (rX_2 hK hP)) rfl rfl hl.1 rfl (lv_room (Nat.le_of_ble_eq_true rfl)) dX2_takeSome_65 ⟨Nat.le_of_ble_eq_true rfl, Nat.le_of_ble_eq_true rfl⟩) hS (fun q _ h => hFc q h) hFc (fun u t H1 locs ht9 hvm hr53 hB hz1 hk1 hS => ?_)
          obtain ⟨n54, n55, n56, rfl⟩ := hr53
          have hn54 : ∀ j, inb (bA 20 2 j) (n54 j) := fun j => full_i _
          obtain ⟨hP, hD⟩ := hB
          rw [ht9] at hP
          generalize H1 = H at hP hS ⊢
          have hP : va_P (dC, dI) classes (WX h g ca (u2 (u2 iv 2 6 w48_i_2_6) 2 7 w48_i_2_7) lv (u2 fa 20 2 n54) (u2 (u2 la 20 0 n55) 20 1 n56)) H := hP
          have hD : va_D A (WX h g ca (u2 (u2 iv 2 6 w48_i_2_6) 2 7 w48_i_2_7) lv (u2 fa 20 2 n54) (u2 (u2 la 20 0 n55) 20 1 n56)) := (show va_D _ (WX h g ca (u2 (u2 iv 2 6 w48_i_2_6) 2 7 w48_i_2_7) lv (u2 fa 20 2 n54) (u2 (u2 la 20 0 n55) 20 1 n56)) from hD).weaken (fun _ _ _ h => hFc _ h)
          refine lv_aload_n hx hb dX2_takeSome_68 rfl (lv_at hl 2 rfl) ?_
          refine lv_iload_n hx hb dX2_takeSome_69 rfl (lv_at hl 3 rfl) ?_
          refine lv_iconst (v := 1) hx hb dX2_takeSome_70 (by decide) ?_
          refine lv_isub hx hb dX2_takeSome_71 ?_
          refine lv_topi (fun v57 ev57 => ?_)
          obtain rfl : 11 = v57 := (ev57.trans (by decide)).symm
          refine lv_iload hx hb dX2_takeSome_72 (lv_at hl 1 rfl) ?_
          refine lv_iconst (v := 1) hx hb dX2_takeSome_74 (by decide) ?_
          refine lv_iadd hx hb dX2_takeSome_75 ?_
          refine lv_topi (fun v58 ev58 => ?_)
          have tv58 := z_add ev58 (rfl : (x48_4).toInt = _) (by decide : (1 : Int32).toInt = 1) (by omega) (by omega)
          refine lv_iload_n hx hb dX2_takeSome_76 rfl (lv_at hl 5 rfl) ?_
          have hFc := free_all hD hS hA
          refine va_callv (va_runV (As := [.int 11, .int v58, .int n]) (rest := []) ⟨hx, hb, hml, hown, ht⟩ (c_X2_takeSome_11 l dC dI H.size h g ca (u2 (u2 iv 2 6 w48_i_2_6) 2 7 w48_i_2_7) lv (u2 fa 20 2 n54) (u2 (u2 la 20 0 n55) 20 1 n56) (IX_a (c := 20) (k := 2) (IX_i (c := 2) (k := 7) (IX_i (c := 2) (k := 6) hI (full_i _)) (full_i _)) hn54) v58 n ⟨by omega, by omega⟩ ⟨by omega, by omega⟩) (kV 3 ht m_933 m_935 m_38 m_85 m_936 rfl rfl hd_X2_takeSome_v ⟨Nat.le_of_ble_eq_true rfl, Nat.le_of_ble_eq_true rfl⟩) (vW hP hK hD (rX_2 hK hP)) rfl rfl hl.1 rfl (lv_room (Nat.le_of_ble_eq_true rfl)) dX2_takeSome_77 ⟨Nat.le_of_ble_eq_true rfl, Nat.le_of_ble_eq_true rfl⟩) hS (fun q _ h => hFc q h) hFc (fun u t H1 locs ht9 hvm hr59 hB hz1 hk1 hS => ?_)
          obtain ⟨n60, n61, n62, n63, n64, rfl⟩ := hr59
          have hn60 : ∀ j, inb (bA 20 2 j) (n60 j) := fun j => full_i _
          obtain ⟨hP, hD⟩ := hB
          rw [ht9] at hP
          generalize H1 = H at hP hS ⊢
          have hP : va_P (dC, dI) classes (WX h g ca (u2 (u2 iv 2 6 n63) 2 7 n64) lv (u2 fa 20 2 n60) (u2 (u2 la 20 0 n61) 20 1 n62)) H := hP
          have hD : va_D A (WX h g ca (u2 (u2 iv 2 6 n63) 2 7 n64) lv (u2 fa 20 2 n60) (u2 (u2 la 20 0 n61) 20 1 n62)) := (show va_D _ (WX h g ca (u2 (u2 iv 2 6 n63) 2 7 n64) lv (u2 fa 20 2 n60) (u2 (u2 la 20 0 n61) 20 1 n62)) from hD).weaken (fun _ _ _ h => hFc _ h)
          refine lv_aload_n hx hb dX2_takeSome_80 rfl (lv_at hl 2 rfl) ?_
          refine gX_2_1 hx hb ht hown hK hP m_305 dX2_takeSome_81 ?_
          refine lv_iconst (v := 1) hx hb dX2_takeSome_84 (by decide) ?_
          refine lv_aload_n hx hb dX2_takeSome_85 rfl (lv_at hl 2 rfl) ?_
          refine gX_2_0 hx hb ht hown hK hP m_304 dX2_takeSome_86 ?_
          refine lv_iload hx hb dX2_takeSome_89 (lv_at hl 0 rfl) ?_
          refine lv_iconst (v := 3) hx hb dX2_takeSome_91 (by decide) ?_
          refine vp_callSi (W.runV (As := [.int v52, .int 3]) (rest := [.int 1, .ref (g 2 1)]) ⟨hx, hb, hml, hown, ht⟩ (c_X10_get l dC dI h g ca (u2 (u2 iv 2 6 n63) 2 7 n64) lv (u2 fa 20 2 n60) (u2 (u2 la 20 0 n61) 20 1 n62) (IX_a (c := 20) (k := 2) (IX_i (c := 2) (k := 7) (IX_i (c := 2) (k := 6) hI (full_i _)) (full_i _)) hn60) v52 3 ⟨by omega, by omega⟩ ⟨by decide, by decide⟩) (kV 2 ht m_889 m_486 m_487 m_78 m_488 rfl rfl hd_X10_get_v ⟨Nat.le_of_ble_eq_true rfl, Nat.le_of_ble_eq_true rfl⟩) (vR hP hK (rX_10 hK hP)) rfl rfl hl.1 rfl (lv_room (Nat.le_of_ble_eq_true rfl)) dX2_takeSome_92 ⟨Nat.le_of_ble_eq_true rfl, Nat.le_of_ble_eq_true rfl⟩) (fun r65 hr65 => ?_)
          refine lv_aload_n hx hb dX2_takeSome_95 rfl (lv_at hl 2 rfl) ?_
          refine gX_2_0 hx hb ht hown hK hP m_304 dX2_takeSome_96 ?_
          refine lv_iload hx hb dX2_takeSome_99 (lv_at hl 0 rfl) ?_
          refine lv_iconst (v := 4) hx hb dX2_takeSome_101 (by decide) ?_
          refine vp_callSi (W.runV (As := [.int v52, .int 4]) (rest := [.int r65, .int 1, .ref (g 2 1)]) ⟨hx, hb, hml, hown, ht⟩ (c_X10_get l dC dI h g ca (u2 (u2 iv 2 6 n63) 2 7 n64) lv (u2 fa 20 2 n60) (u2 (u2 la 20 0 n61) 20 1 n62) (IX_a (c := 20) (k := 2) (IX_i (c := 2) (k := 7) (IX_i (c := 2) (k := 6) hI (full_i _)) (full_i _)) hn60) v52 4 ⟨by omega, by omega⟩ ⟨by decide, by decide⟩) (kV 2 ht m_889 m_486 m_487 m_78 m_488 rfl rfl hd_X10_get_v ⟨Nat.le_of_ble_eq_true rfl, Nat.le_of_ble_eq_true rfl⟩) (vR hP hK (rX_10 hK hP)) rfl rfl hl.1 rfl (lv_room (Nat.le_of_ble_eq_true rfl)) dX2_takeSome_102 ⟨Nat.le_of_ble_eq_true rfl, Nat.le_of_ble_eq_true rfl⟩) (fun r66 hr66 => ?_)
          have hFc := free_all hD hS hA
          refine va_callv (va_runV (As := [.int 1, .int r65, .int r66]) (rest := []) ⟨hx, hb, hml, hown, ht⟩ (c_X7_remove_20 l dC dI H.size h g ca (u2 (u2 iv 2 6 n63) 2 7 n64) lv (u2 fa 20 2 n60) (u2 (u2 la 20 0 n61) 20 1 n62) (IX_a (c := 20) (k := 2) (IX_i (c := 2) (k := 7) (IX_i (c := 2) (k := 6) hI (full_i _)) (full_i _)) hn60) 1 r65 r66 ⟨by decide, by decide⟩) (kV 3 ht m_937 m_938 m_939 m_84 m_940 rfl rfl hd_X7_remove_v ⟨Nat.le_of_ble_eq_true rfl, Nat.le_of_ble_eq_true rfl⟩) (vW hP hK hD (rX_20 hK hP)) rfl rfl hl.1 rfl (lv_room (Nat.le_of_ble_eq_true rfl)) dX2_takeSome_105 ⟨Nat.le_of_ble_eq_true rfl, Nat.le_of_ble_eq_true rfl⟩) hS (fun q _ h => hFc q h) hFc (fun u t H1 locs ht9 hvm hr67 hB hz1 hk1 hS => ?_)
          obtain ⟨n68, n69, n70, rfl⟩ := hr67
          have hn68 : ∀ j, inb (bA 20 2 j) (n68 j) := fun j => full_i _
          obtain ⟨hP, hD⟩ := hB
          rw [ht9] at hP
          generalize H1 = H at hP hS ⊢
          have hP : va_P (dC, dI) classes (WX h g ca (u2 (u2 iv 2 6 n63) 2 7 n64) lv (u2 fa 20 2 n68) (u2 (u2 la 20 0 n69) 20 1 n70)) H := hP
          have hD : va_D A (WX h g ca (u2 (u2 iv 2 6 n63) 2 7 n64) lv (u2 fa 20 2 n68) (u2 (u2 la 20 0 n69) 20 1 n70)) := (show va_D _ (WX h g ca (u2 (u2 iv 2 6 n63) 2 7 n64) lv (u2 fa 20 2 n68) (u2 (u2 la 20 0 n69) 20 1 n70)) from hD).weaken (fun _ _ _ h => hFc _ h)
          obtain ⟨v71, ev71⟩ : ∃ y : Int32, y = x48_4 + 1 := ⟨_, rfl⟩
          have tv71 := z_add ev71 rfl (by decide : (1 : Int32).toInt = 1) (by omega) (by omega)
          refine lv_iinc (v := v71) (lv' := [(4, .int v71), (5, .int v52), (0, .ref (g 11 6)), (1, .int 12), (2, .int k), (3, .int n)]) hx hb dX2_takeSome_108 hl (k := 1) rfl (by rw [ev71]; rfl) (by decide) rfl (fun ls hl => ?_)
          refine lv_goto (tgt := 44) hx hb dX2_takeSome_111 (by decide) ?_
          exact ih49 v71 n63 n64 n68 n69 n70 ⟨by omega, by omega⟩ hn68 (by omega) _ _ ls hP hD hS (lv_sub hl [0, 2, 3, 4, 5] rfl)
    exact lp49 13 k (iv 2 6) (iv 2 7) (fa 20 2) (la 20 0) (la 20 1) ⟨by omega, by omega⟩ (hI.2 20 2) (by first | decide | omega) _ _ ls hP hD hS (lv_sub hl [0, 1, 2, 3, 4] rfl)
  · exact absurd c1 (by decide)
set_option maxHeartbeats 4000000 in
set_option maxRecDepth 100000 in
/-- X2_fewest -/
theorem c_X2_fewest (l : Launch) (dC : Nat → ClassId) (dI : Nat → Nat → Nat) (sz : Nat) (h : Nat) (g : Nat → Nat → Nat) (ca : Nat → Nat → ClassId) (iv : Nat → Nat → Int32) (lv : Nat → Nat → Int64) (fa : Nat → Nat → Nat → Int32) (la : Nat → Nat → Nat → Int64) (hI : IX iv fa) (a : Int32) : Met l yX2_fewest (wc yX2_fewest cX2_fewest 4 (some .int)) ({ frames := 15, cells := 0, slots := 0, locals := 388 } : Room) (pW (dC, dI) classes (WX h g ca iv lv fa la) (TX ca) sz [.ref (g 11 6), .int a]) (va_Qi (fun r (u : SS) => ∃ (na_2_2 : Nat → Int32) (na_20_2 : Nat → Int32) (nb_20_0 : Nat → Int64) (nb_20_1 : Nat → Int64) (ni_2_6 : Int32) (ni_2_7 : Int32), (∀ j, inb (bA 2 2 j) (na_2_2 j)) ∧ ((-1) ≤ r.toInt ∧ r.toInt ≤ 12) ∧ u = ((u2 (u2 iv 2 6 ni_2_6) 2 7 ni_2_7), lv, (u2 (u2 fa 2 2 na_2_2) 20 2 na_20_2), (u2 (u2 la 20 0 nb_20_0) 20 1 nb_20_1))) (bX (dC, dI) h g ca (va_A (WX h g ca iv lv fa la) sz)) (va_A (WX h g ca iv lv fa la) sz)) 0 0 (va_A (WX h g ca iv lv fa la) sz) := by
  refine Met.ofW (cc := cX2_fewest) (maxL := 4) (ret := (some .int)) (by decide) rfl ?_
  intro p e s m args below meth c s₁ B hml hv
  obtain ⟨rfl, hsz, hP, hK, hD0⟩ := hv
  have hx := B.exec
  have hb := B.bytes
  have hr := B.returns
  have ht := tb_tl (atoms_spec (ws := wc yX2_fewest cX2_fewest 4 (some .int)) B.pre)
  have hown : s.vm.findClass RX2 = some m.cls := findClass_of_methodNamed B.named
  have hlocks := B.notSynchronized
  subst hsz
  have hD := hD0.self (sz := s.heap.size)
  generalize hAe : va_A (WX h g ca iv lv fa la) s.heap.size = A at hD ⊢
  have hA : ∀ q : Nat, s.heap.size ≤ q → A q := fun q h => by rw [← hAe]; exact Or.inr h
  have hS : va_S A s.heap s.heap [] := va_S.rf
  have hl := lv_entry [.ref (g 11 6), .int a] (n := 4) (Nat.le_of_ble_eq_true rfl)
  rw [lg_entry_eq]
  generalize (lg_sl [.ref (g 11 6), .int a] ++ List.replicate (4 - (lg_sl [.ref (g 11 6), .int a]).length) Slot.unset).toArray = ls at hl ⊢
  have hl : lv_has ls 4 [(0, .ref (g 11 6)), (1, .int a)] := hl
  refine lv_aload_n hx hb dX2_fewest_0 rfl (lv_at hl 0 rfl) ?_
  refine lv_iconst (v := 0) hx hb dX2_fewest_1 (by decide) ?_
  have hFc := free_all hD hS hA
  refine va_calli (va_runV (As := [.int 0]) (rest := []) ⟨hx, hb, hml, hown, ht⟩ (c_X2_listLook l dC dI s.heap.size h g ca iv lv fa la hI 0) (kV 1 ht m_921 m_923 m_37 m_85 m_924 rfl rfl hd_X2_listLook_v ⟨Nat.le_of_ble_eq_true rfl, Nat.le_of_ble_eq_true rfl⟩) (vW hP hK hD (rX_2 hK hP)) rfl rfl hl.1 rfl (lv_room (Nat.le_of_ble_eq_true rfl)) dX2_fewest_2 ⟨Nat.le_of_ble_eq_true rfl, Nat.le_of_ble_eq_true rfl⟩) hS (fun q _ h => hFc q h) hFc (fun r1 u t H1 locs ht9 hvm hr1 hB hz1 hk1 hS => ?_)
  obtain ⟨n2, hn2, hr1, rfl⟩ := hr1
  obtain ⟨hP, hD⟩ := hB
  rw [ht9] at hP
  generalize H1 = H at hP hS ⊢
  have hP : va_P (dC, dI) classes (WX h g ca iv lv (u2 fa 2 2 n2) la) H := hP
  have hD : va_D A (WX h g ca iv lv (u2 fa 2 2 n2) la) := (show va_D _ (WX h g ca iv lv (u2 fa 2 2 n2) la) from hD).weaken (fun _ _ _ h => hFc _ h)
  refine lv_istore_n (lv' := [(2, .int r1), (0, .ref (g 11 6)), (1, .int a)]) hx hb dX2_fewest_5 rfl hl (by decide) rfl (fun ls hl => ?_)
  refine lv_aload_n hx hb dX2_fewest_6 rfl (lv_at hl 1 rfl) ?_
  refine gX_2_1 hx hb ht hown hK hP m_305 dX2_fewest_7 ?_
  have hFc := free_all hD hS hA
  refine va_callv (va_runV (As := []) (rest := []) ⟨hx, hb, hml, hown, ht⟩ (c_X7_clear_20 l dC dI H.size h g ca iv lv (u2 fa 2 2 n2) la (IX_a (c := 2) (k := 2) hI hn2)) (kV 0 ht m_882 m_569 m_570 m_84 m_571 rfl rfl hd_X7_clear_v ⟨Nat.le_of_ble_eq_true rfl, Nat.le_of_ble_eq_true rfl⟩) (vW hP hK hD (rX_20 hK hP)) rfl rfl hl.1 rfl (lv_room (Nat.le_of_ble_eq_true rfl)) dX2_fewest_10 ⟨Nat.le_of_ble_eq_true rfl, Nat.le_of_ble_eq_true rfl⟩) hS (fun q _ h => hFc q h) hFc (fun u t H1 locs ht9 hvm hr3 hB hz1 hk1 hS => ?_)
  obtain ⟨n4, n5, n6, rfl⟩ := hr3
  have hn4 : ∀ j, inb (bA 20 2 j) (n4 j) := fun j => full_i _
  obtain ⟨hP, hD⟩ := hB
  rw [ht9] at hP
  generalize H1 = H at hP hS ⊢
  have hP : va_P (dC, dI) classes (WX h g ca iv lv (u2 (u2 fa 2 2 n2) 20 2 n4) (u2 (u2 la 20 0 n5) 20 1 n6)) H := hP
  have hD : va_D A (WX h g ca iv lv (u2 (u2 fa 2 2 n2) 20 2 n4) (u2 (u2 la 20 0 n5) 20 1 n6)) := (show va_D _ (WX h g ca iv lv (u2 (u2 fa 2 2 n2) 20 2 n4) (u2 (u2 la 20 0 n5) 20 1 n6)) from hD).weaken (fun _ _ _ h => hFc _ h)
  refine lv_iconst (v := 0) hx hb dX2_fewest_13 (by decide) ?_
  refine lv_istore_n (lv' := [(3, .int 0), (2, .int r1), (0, .ref (g 11 6)), (1, .int a)]) hx hb dX2_fewest_14 rfl hl (by decide) rfl (fun ls hl => ?_)
  have lp4159 : ∀ (nn4159 : Nat) (x4158_3 : Int32) (w4158_a_20_2 : Nat → Int32) (w4158_b_20_0 : Nat → Int64) (w4158_b_20_1 : Nat → Int64), 0 ≤ x4158_3.toInt ∧ x4158_3.toInt ≤ 12 → (∀ j, inb (bA 20 2 j) (w4158_a_20_2 j)) → 12 - x4158_3.toInt < (nn4159 : Int) → ∀ (H : Heap) (locs : List Loc), ∀ (ls : Array Slot), va_P (dC, dI) classes (WX h g ca iv lv (u2 (u2 fa 2 2 n2) 20 2 w4158_a_20_2) (u2 (u2 la 20 0 w4158_b_20_0) 20 1 w4158_b_20_1)) H → va_D A (WX h g ca iv lv (u2 (u2 fa 2 2 n2) 20 2 w4158_a_20_2) (u2 (u2 la 20 0 w4158_b_20_0) 20 1 w4158_b_20_1)) → va_S A s.heap H locs → lv_has ls 4 [(3, .int x4158_3), (2, .int r1), (0, .ref (g 11 6)), (1, .int a)] → W p l e ({ frames := 15, cells := 0, slots := 0, locals := 388 } : Room) s m ([.ref (g 11 6), .int a] : List Value).toArray below meth c H locs 0 0 (MQ below (va_Qi (fun r (u : SS) => ∃ (na_2_2 : Nat → Int32) (na_20_2 : Nat → Int32) (nb_20_0 : Nat → Int64) (nb_20_1 : Nat → Int64) (ni_2_6 : Int32) (ni_2_7 : Int32), (∀ j, inb (bA 2 2 j) (na_2_2 j)) ∧ ((-1) ≤ r.toInt ∧ r.toInt ≤ 12) ∧ u = ((u2 (u2 iv 2 6 ni_2_6) 2 7 ni_2_7), lv, (u2 (u2 fa 2 2 na_2_2) 20 2 na_20_2), (u2 (u2 la 20 0 nb_20_0) 20 1 nb_20_1))) (bX (dC, dI) h g ca A) A) ([.ref (g 11 6), .int a] : List Value).toArray s 0 0 A) (F0 m 15 ls []) := by
    intro nn4159
    induction nn4159 with
    | zero => intro x4158_3 w4158_a_20_2 w4158_b_20_0 w4158_b_20_1 hx4158_3 hw4158_a_20_2 hm4159; exfalso; omega
    | succ nn4159 ih4159 =>
      intro x4158_3 w4158_a_20_2 w4158_b_20_0 w4158_b_20_1 hx4158_3 hw4158_a_20_2 hm4159 H locs ls hP hD hS hl
      refine lv_iload_n hx hb dX2_fewest_15 rfl (lv_at hl 0 rfl) ?_
      refine lv_iload_n hx hb dX2_fewest_16 rfl (lv_at hl 1 rfl) ?_
      refine lv_icmp_ge (tgt := 37) hx hb dX2_fewest_17 (by decide) (fun c4160 => ?_) (fun c4160 => ?_)
      · have fc4160 := z_le (rfl : (r1).toInt = _) (rfl : (x4158_3).toInt = _) c4160
        refine lv_iconst (v := 2) hx hb dX2_fewest_37 (by decide) ?_
        refine lv_istore_n (lv' := [(3, .int 2), (2, .int r1), (0, .ref (g 11 6)), (1, .int a)]) hx hb dX2_fewest_38 rfl hl (by decide) rfl (fun ls hl => ?_)
        have lp4891 : ∀ (nn4891 : Nat) (x4890_3 : Int32) (w4890_i_2_6 : Int32) (w4890_i_2_7 : Int32) (w4890_a_20_2 : Nat → Int32) (w4890_b_20_0 : Nat → Int64) (w4890_b_20_1 : Nat → Int64), 2 ≤ x4890_3.toInt ∧ x4890_3.toInt ≤ 13 → (∀ j, inb (bA 20 2 j) (w4890_a_20_2 j)) → 13 - (x4890_3 : Int32).toInt < (nn4891 : Int) → ∀ (H : Heap) (locs : List Loc), ∀ (ls : Array Slot), va_P (dC, dI) classes (WX h g ca (u2 (u2 iv 2 6 w4890_i_2_6) 2 7 w4890_i_2_7) lv (u2 (u2 fa 2 2 n2) 20 2 w4890_a_20_2) (u2 (u2 la 20 0 w4890_b_20_0) 20 1 w4890_b_20_1)) H → va_D A (WX h g ca (u2 (u2 iv 2 6 w4890_i_2_6) 2 7 w4890_i_2_7) lv (u2 (u2 fa 2 2 n2) 20 2 w4890_a_20_2) (u2 (u2 la 20 0 w4890_b_20_0) 20 1 w4890_b_20_1)) → va_S A s.heap H locs → lv_has ls 4 [(3, .int x4890_3), (2, .int r1), (0, .ref (g 11 6)), (1, .int a)] → W p l e ({ frames := 15, cells := 0, slots := 0, locals := 388 } : Room) s m ([.ref (g 11 6), .int a] : List Value).toArray below meth c H locs 0 0 (MQ below (va_Qi (fun r (u : SS) => ∃ (na_2_2 : Nat → Int32) (na_20_2 : Nat → Int32) (nb_20_0 : Nat → Int64) (nb_20_1 : Nat → Int64) (ni_2_6 : Int32) (ni_2_7 : Int32), (∀ j, inb (bA 2 2 j) (na_2_2 j)) ∧ ((-1) ≤ r.toInt ∧ r.toInt ≤ 12) ∧ u = ((u2 (u2 iv 2 6 ni_2_6) 2 7 ni_2_7), lv, (u2 (u2 fa 2 2 na_2_2) 20 2 na_20_2), (u2 (u2 la 20 0 nb_20_0) 20 1 nb_20_1))) (bX (dC, dI) h g ca A) A) ([.ref (g 11 6), .int a] : List Value).toArray s 0 0 A) (F0 m 39 ls []) := by
          intro nn4891
          induction nn4891 with
          | zero => intro x4890_3 w4890_i_2_6 w4890_i_2_7 w4890_a_20_2 w4890_b_20_0 w4890_b_20_1 hx4890_3 hw4890_a_20_2 hm4891; exfalso; omega
          | succ nn4891 ih4891 =>
            intro x4890_3 w4890_i_2_6 w4890_i_2_7 w4890_a_20_2 w4890_b_20_0 w4890_b_20_1 hx4890_3 hw4890_a_20_2 hm4891 H locs ls hP hD hS hl
            refine lv_iload_n hx hb dX2_fewest_39 rfl (lv_at hl 0 rfl) ?_
            refine lv_iload_n hx hb dX2_fewest_40 rfl (lv_at hl 1 rfl) ?_
            refine lv_icmp_gt (tgt := 85) hx hb dX2_fewest_41 (by decide) (fun c4892 => ?_) (fun c4892 => ?_)
            · have fc4892 := z_lt (rfl : (r1).toInt = _) (rfl : (x4890_3).toInt = _) c4892
              refine lv_iconst (v := (-1)) hx hb dX2_fewest_85 (by decide) ?_
              have hP9 : va_P (dC, dI) classes (WX h g ca (u2 (u2 iv 2 6 w4890_i_2_6) 2 7 w4890_i_2_7) lv (u2 (u2 fa 2 2 n2) 20 2 w4890_a_20_2) (u2 (u2 la 20 0 w4890_b_20_0) 20 1 w4890_b_20_1)) H := hP
              have hD9 : va_D A (WX h g ca (u2 (u2 iv 2 6 w4890_i_2_6) 2 7 w4890_i_2_7) lv (u2 (u2 fa 2 2 n2) 20 2 w4890_a_20_2) (u2 (u2 la 20 0 w4890_b_20_0) 20 1 w4890_b_20_1)) := hD
              exact W.iret (v := (-1)) hx hb hr (fun t ht9 hW => ⟨⟨(-1), ((u2 (u2 iv 2 6 w4890_i_2_6) 2 7 w4890_i_2_7), lv, (u2 (u2 fa 2 2 n2) 20 2 w4890_a_20_2), (u2 (u2 la 20 0 w4890_b_20_0) 20 1 w4890_b_20_1)), rfl, ⟨n2, w4890_a_20_2, w4890_b_20_0, w4890_b_20_1, w4890_i_2_6, w4890_i_2_7, hn2, ⟨by decide, by decide⟩, rfl⟩, by rw [ht9]; exact hP9, hD9⟩, hS.F ht9⟩) hS.2.2 dX2_fewest_86
            · have fc4892 := z_nlt (rfl : (r1).toInt = _) (rfl : (x4890_3).toInt = _) c4892
              refine lv_aload_n hx hb dX2_fewest_44 rfl (lv_at hl 2 rfl) ?_
              refine lv_iconst (v := 0) hx hb dX2_fewest_45 (by decide) ?_
              refine pX_2_6 (v := 0) hx hb ht hown hK hP hD hS m_310 dX2_fewest_46 (fun H locs hP hD hS => ?_)
              have hP : va_P (dC, dI) classes (WX h g ca (u2 (u2 iv 2 6 0) 2 7 w4890_i_2_7) lv (u2 (u2 fa 2 2 n2) 20 2 w4890_a_20_2) (u2 (u2 la 20 0 w4890_b_20_0) 20 1 w4890_b_20_1)) H := hP
              have hD : va_D A (WX h g ca (u2 (u2 iv 2 6 0) 2 7 w4890_i_2_7) lv (u2 (u2 fa 2 2 n2) 20 2 w4890_a_20_2) (u2 (u2 la 20 0 w4890_b_20_0) 20 1 w4890_b_20_1)) := hD
              refine lv_aload_n hx hb dX2_fewest_49 rfl (lv_at hl 2 rfl) ?_
              refine lv_iconst (v := 0) hx hb dX2_fewest_50 (by decide) ?_
              refine pX_2_7 (v := 0) hx hb ht hown hK hP hD hS m_311 dX2_fewest_51 (fun H locs hP hD hS => ?_)
              have hP : va_P (dC, dI) classes (WX h g ca (u2 (u2 iv 2 6 0) 2 7 0) lv (u2 (u2 fa 2 2 n2) 20 2 w4890_a_20_2) (u2 (u2 la 20 0 w4890_b_20_0) 20 1 w4890_b_20_1)) H := hP
              have hD : va_D A (WX h g ca (u2 (u2 iv 2 6 0) 2 7 0) lv (u2 (u2 fa 2 2 n2) 20 2 w4890_a_20_2) (u2 (u2 la 20 0 w4890_b_20_0) 20 1 w4890_b_20_1)) := hD
              refine lv_aload_n hx hb dX2_fewest_54 rfl (lv_at hl 2 rfl) ?_
              refine lv_iload_n hx hb dX2_fewest_55 rfl (lv_at hl 0 rfl) ?_
              refine lv_iconst (v := 0) hx hb dX2_fewest_56 (by decide) ?_
              refine lv_iload_n hx hb dX2_fewest_57 rfl (lv_at hl 1 rfl) ?_
              rcases (by omega : (x4890_3 : Int32).toInt = 2 ∨ (x4890_3 : Int32).toInt = 3 ∨ (x4890_3 : Int32).toInt = 4 ∨ (x4890_3 : Int32).toInt = 5 ∨ (x4890_3 : Int32).toInt = 6 ∨ (x4890_3 : Int32).toInt = 7 ∨ (x4890_3 : Int32).toInt = 8 ∨ (x4890_3 : Int32).toInt = 9 ∨ (x4890_3 : Int32).toInt = 10 ∨ (x4890_3 : Int32).toInt = 11 ∨ (x4890_3 : Int32).toInt = 12) with q4893 | q4893 | q4893 | q4893 | q4893 | q4893 | q4893 | q4893 | q4893 | q4893 | q4893
              · obtain rfl : x4890_3 = 2 := z_of (by decide) q4893
                have : (2 : Int32).toInt = 2 := by decide
                have hFc := free_all hD hS hA
                refine va_callv (va_runV (As := [.int 2, .int 0, .int r1]) (rest := []) ⟨hx, hb, hml, hown, ht⟩ (c_X2_takeSome_2 l dC dI H.size h g ca (u2 (u2 iv 2 6 0) 2 7 0) lv (u2 (u2 fa 2 2 n2) 20 2 w4890_a_20_2) (u2 (u2 la 20 0 w4890_b_20_0) 20 1 w4890_b_20_1) (IX_a (c := 20) (k := 2) (IX_a (c := 2) (k := 2) (IX_i (c := 2) (k := 7) (IX_i (c := 2) (k := 6) hI (full_i _)) (full_i _)) hn2) hw4890_a_20_2) 0 r1 ⟨by decide, by decide⟩ ⟨by omega, by omega⟩) (kV 3 ht m_933 m_935 m_38 m_85 m_936 rfl rfl hd_X2_takeSome_v ⟨Nat.le_of_ble_eq_true rfl, Nat.le_of_ble_eq_true rfl⟩) (vW hP hK hD (rX_2 hK hP)) rfl rfl hl.1 rfl (lv_room (Nat.le_of_ble_eq_true rfl)) dX2_fewest_58 ⟨Nat.le_of_ble_eq_true rfl, Nat.le_of_ble_eq_true rfl⟩) hS (fun q _ h => hFc q h) hFc (fun u t H1 locs ht9 hvm hr4894 hB hz1 hk1 hS => ?_)
                obtain ⟨n4895, n4896, n4897, n4898, n4899, rfl⟩ := hr4894
                have hn4895 : ∀ j, inb (bA 20 2 j) (n4895 j) := fun j => full_i _
                obtain ⟨hP, hD⟩ := hB
                rw [ht9] at hP
                generalize H1 = H at hP hS ⊢
                have hP : va_P (dC, dI) classes (WX h g ca (u2 (u2 iv 2 6 n4898) 2 7 n4899) lv (u2 (u2 fa 2 2 n2) 20 2 n4895) (u2 (u2 la 20 0 n4896) 20 1 n4897)) H := hP
                have hD : va_D A (WX h g ca (u2 (u2 iv 2 6 n4898) 2 7 n4899) lv (u2 (u2 fa 2 2 n2) 20 2 n4895) (u2 (u2 la 20 0 n4896) 20 1 n4897)) := (show va_D _ (WX h g ca (u2 (u2 iv 2 6 n4898) 2 7 n4899) lv (u2 (u2 fa 2 2 n2) 20 2 n4895) (u2 (u2 la 20 0 n4896) 20 1 n4897)) from hD).weaken (fun _ _ _ h => hFc _ h)
                refine lv_bipush (v := 100) hx hb dX2_fewest_61 (by decide) ?_
                refine lv_aload_n hx hb dX2_fewest_63 rfl (lv_at hl 2 rfl) ?_
                refine gX_2_7 hx hb ht hown hK hP m_311 (v := n4899) rfl dX2_fewest_64 ?_
                refine lv_imul hx hb dX2_fewest_67 ?_
                refine lv_topi (fun v4900 ev4900 => ?_)
                refine lv_iload_n hx hb dX2_fewest_68 rfl (lv_at hl 3 rfl) ?_
                refine lv_aload_n hx hb dX2_fewest_69 rfl (lv_at hl 2 rfl) ?_
                refine gX_2_6 hx hb ht hown hK hP m_310 (v := n4898) rfl dX2_fewest_70 ?_
                refine lv_imul hx hb dX2_fewest_73 ?_
                refine lv_topi (fun v4901 ev4901 => ?_)
                refine lv_icmp_gt (tgt := 79) hx hb dX2_fewest_74 (by decide) (fun c4902 => ?_) (fun c4902 => ?_)
                · have fc4902 := z_lt (rfl : (v4901).toInt = _) (rfl : (v4900).toInt = _) c4902
                  refine lv_iinc (v := 3) (lv' := [(3, .int 3), (2, .int r1), (0, .ref (g 11 6)), (1, .int a)]) hx hb dX2_fewest_79 hl (k := 0) rfl (by decide) (by decide) rfl (fun ls hl => ?_)
                  refine lv_goto (tgt := 39) hx hb dX2_fewest_82 (by decide) ?_
                  have : (3 : Int32).toInt = 3 := (by decide)
                  exact ih4891 3 n4898 n4899 n4895 n4896 n4897 ⟨by decide, by decide⟩ hn4895 (by omega) _ _ ls hP hD hS (lv_sub hl [0, 1, 2, 3] rfl)
                · have fc4902 := z_nlt (rfl : (v4901).toInt = _) (rfl : (v4900).toInt = _) c4902
                  refine lv_iload_n hx hb dX2_fewest_77 rfl (lv_at hl 0 rfl) ?_
                  have hP9 : va_P (dC, dI) classes (WX h g ca (u2 (u2 iv 2 6 n4898) 2 7 n4899) lv (u2 (u2 fa 2 2 n2) 20 2 n4895) (u2 (u2 la 20 0 n4896) 20 1 n4897)) H := hP
                  have hD9 : va_D A (WX h g ca (u2 (u2 iv 2 6 n4898) 2 7 n4899) lv (u2 (u2 fa 2 2 n2) 20 2 n4895) (u2 (u2 la 20 0 n4896) 20 1 n4897)) := hD
                  exact W.iret (v := 2) hx hb hr (fun t ht9 hW => ⟨⟨2, ((u2 (u2 iv 2 6 n4898) 2 7 n4899), lv, (u2 (u2 fa 2 2 n2) 20 2 n4895), (u2 (u2 la 20 0 n4896) 20 1 n4897)), rfl, ⟨n2, n4895, n4896, n4897, n4898, n4899, hn2, ⟨by decide, by decide⟩, rfl⟩, by rw [ht9]; exact hP9, hD9⟩, hS.F ht9⟩) hS.2.2 dX2_fewest_78
              · obtain rfl : x4890_3 = 3 := z_of (by decide) q4893
                have : (3 : Int32).toInt = 3 := by decide
                have hFc := free_all hD hS hA
                refine va_callv (va_runV (As := [.int 3, .int 0, .int r1]) (rest := []) ⟨hx, hb, hml, hown, ht⟩ (c_X2_takeSome_3 l dC dI H.size h g ca (u2 (u2 iv 2 6 0) 2 7 0) lv (u2 (u2 fa 2 2 n2) 20 2 w4890_a_20_2) (u2 (u2 la 20 0 w4890_b_20_0) 20 1 w4890_b_20_1) (IX_a (c := 20) (k := 2) (IX_a (c := 2) (k := 2) (IX_i (c := 2) (k := 7) (IX_i (c := 2) (k := 6) hI (full_i _)) (full_i _)) hn2) hw4890_a_20_2) 0 r1 ⟨by decide, by decide⟩ ⟨by omega, by omega⟩) (kV 3 ht m_933 m_935 m_38 m_85 m_936 rfl rfl hd_X2_takeSome_v ⟨Nat.le_of_ble_eq_true rfl, Nat.le_of_ble_eq_true rfl⟩) (vW hP hK hD (rX_2 hK hP)) rfl rfl hl.1 rfl (lv_room (Nat.le_of_ble_eq_true rfl)) dX2_fewest_58 ⟨Nat.le_of_ble_eq_true rfl, Nat.le_of_ble_eq_true rfl⟩) hS (fun q _ h => hFc q h) hFc (fun u t H1 locs ht9 hvm hr4903 hB hz1 hk1 hS => ?_)
                obtain ⟨n4904, n4905, n4906, n4907, n4908, rfl⟩ := hr4903
                have hn4904 : ∀ j, inb (bA 20 2 j) (n4904 j) := fun j => full_i _
                obtain ⟨hP, hD⟩ := hB
                rw [ht9] at hP
                generalize H1 = H at hP hS ⊢
                have hP : va_P (dC, dI) classes (WX h g ca (u2 (u2 iv 2 6 n4907) 2 7 n4908) lv (u2 (u2 fa 2 2 n2) 20 2 n4904) (u2 (u2 la 20 0 n4905) 20 1 n4906)) H := hP
                have hD : va_D A (WX h g ca (u2 (u2 iv 2 6 n4907) 2 7 n4908) lv (u2 (u2 fa 2 2 n2) 20 2 n4904) (u2 (u2 la 20 0 n4905) 20 1 n4906)) := (show va_D _ (WX h g ca (u2 (u2 iv 2 6 n4907) 2 7 n4908) lv (u2 (u2 fa 2 2 n2) 20 2 n4904) (u2 (u2 la 20 0 n4905) 20 1 n4906)) from hD).weaken (fun _ _ _ h => hFc _ h)
                refine lv_bipush (v := 100) hx hb dX2_fewest_61 (by decide) ?_
                refine lv_aload_n hx hb dX2_fewest_63 rfl (lv_at hl 2 rfl) ?_
                refine gX_2_7 hx hb ht hown hK hP m_311 (v := n4908) rfl dX2_fewest_64 ?_
                refine lv_imul hx hb dX2_fewest_67 ?_
                refine lv_topi (fun v4909 ev4909 => ?_)
                refine lv_iload_n hx hb dX2_fewest_68 rfl (lv_at hl 3 rfl) ?_
                refine lv_aload_n hx hb dX2_fewest_69 rfl (lv_at hl 2 rfl) ?_
                refine gX_2_6 hx hb ht hown hK hP m_310 (v := n4907) rfl dX2_fewest_70 ?_
                refine lv_imul hx hb dX2_fewest_73 ?_
                refine lv_topi (fun v4910 ev4910 => ?_)
                refine lv_icmp_gt (tgt := 79) hx hb dX2_fewest_74 (by decide) (fun c4911 => ?_) (fun c4911 => ?_)
                · have fc4911 := z_lt (rfl : (v4910).toInt = _) (rfl : (v4909).toInt = _) c4911
                  refine lv_iinc (v := 4) (lv' := [(3, .int 4), (2, .int r1), (0, .ref (g 11 6)), (1, .int a)]) hx hb dX2_fewest_79 hl (k := 0) rfl (by decide) (by decide) rfl (fun ls hl => ?_)
                  refine lv_goto (tgt := 39) hx hb dX2_fewest_82 (by decide) ?_
                  have : (4 : Int32).toInt = 4 := (by decide)
                  exact ih4891 4 n4907 n4908 n4904 n4905 n4906 ⟨by decide, by decide⟩ hn4904 (by omega) _ _ ls hP hD hS (lv_sub hl [0, 1, 2, 3] rfl)
                · have fc4911 := z_nlt (rfl : (v4910).toInt = _) (rfl : (v4909).toInt = _) c4911
                  refine lv_iload_n hx hb dX2_fewest_77 rfl (lv_at hl 0 rfl) ?_
                  have hP9 : va_P (dC, dI) classes (WX h g ca (u2 (u2 iv 2 6 n4907) 2 7 n4908) lv (u2 (u2 fa 2 2 n2) 20 2 n4904) (u2 (u2 la 20 0 n4905) 20 1 n4906)) H := hP
                  have hD9 : va_D A (WX h g ca (u2 (u2 iv 2 6 n4907) 2 7 n4908) lv (u2 (u2 fa 2 2 n2) 20 2 n4904) (u2 (u2 la 20 0 n4905) 20 1 n4906)) := hD
                  exact W.iret (v := 3) hx hb hr (fun t ht9 hW => ⟨⟨3, ((u2 (u2 iv 2 6 n4907) 2 7 n4908), lv, (u2 (u2 fa 2 2 n2) 20 2 n4904), (u2 (u2 la 20 0 n4905) 20 1 n4906)), rfl, ⟨n2, n4904, n4905, n4906, n4907, n4908, hn2, ⟨by decide, by decide⟩, rfl⟩, by rw [ht9]; exact hP9, hD9⟩, hS.F ht9⟩) hS.2.2 dX2_fewest_78
              · obtain rfl : x4890_3 = 4 := z_of (by decide) q4893
                have : (4 : Int32).toInt = 4 := by decide
                have hFc := free_all hD hS hA
                refine va_callv (va_runV (As := [.int 4, .int 0, .int r1]) (rest := []) ⟨hx, hb, hml, hown, ht⟩ (c_X2_takeSome_4 l dC dI H.size h g ca (u2 (u2 iv 2 6 0) 2 7 0) lv (u2 (u2 fa 2 2 n2) 20 2 w4890_a_20_2) (u2 (u2 la 20 0 w4890_b_20_0) 20 1 w4890_b_20_1) (IX_a (c := 20) (k := 2) (IX_a (c := 2) (k := 2) (IX_i (c := 2) (k := 7) (IX_i (c := 2) (k := 6) hI (full_i _)) (full_i _)) hn2) hw4890_a_20_2) 0 r1 ⟨by decide, by decide⟩ ⟨by omega, by omega⟩) (kV 3 ht m_933 m_935 m_38 m_85 m_936 rfl rfl hd_X2_takeSome_v ⟨Nat.le_of_ble_eq_true rfl, Nat.le_of_ble_eq_true rfl⟩) (vW hP hK hD (rX_2 hK hP)) rfl rfl hl.1 rfl (lv_room (Nat.le_of_ble_eq_true rfl)) dX2_fewest_58 ⟨Nat.le_of_ble_eq_true rfl, Nat.le_of_ble_eq_true rfl⟩) hS (fun q _ h => hFc q h) hFc (fun u t H1 locs ht9 hvm hr4912 hB hz1 hk1 hS => ?_)
                obtain ⟨n4913, n4914, n4915, n4916, n4917, rfl⟩ := hr4912
                have hn4913 : ∀ j, inb (bA 20 2 j) (n4913 j) := fun j => full_i _
                obtain ⟨hP, hD⟩ := hB
                rw [ht9] at hP
                generalize H1 = H at hP hS ⊢
                have hP : va_P (dC, dI) classes (WX h g ca (u2 (u2 iv 2 6 n4916) 2 7 n4917) lv (u2 (u2 fa 2 2 n2) 20 2 n4913) (u2 (u2 la 20 0 n4914) 20 1 n4915)) H := hP
                have hD : va_D A (WX h g ca (u2 (u2 iv 2 6 n4916) 2 7 n4917) lv (u2 (u2 fa 2 2 n2) 20 2 n4913) (u2 (u2 la 20 0 n4914) 20 1 n4915)) := (show va_D _ (WX h g ca (u2 (u2 iv 2 6 n4916) 2 7 n4917) lv (u2 (u2 fa 2 2 n2) 20 2 n4913) (u2 (u2 la 20 0 n4914) 20 1 n4915)) from hD).weaken (fun _ _ _ h => hFc _ h)
                refine lv_bipush (v := 100) hx hb dX2_fewest_61 (by decide) ?_
                refine lv_aload_n hx hb dX2_fewest_63 rfl (lv_at hl 2 rfl) ?_
                refine gX_2_7 hx hb ht hown hK hP m_311 (v := n4917) rfl dX2_fewest_64 ?_
                refine lv_imul hx hb dX2_fewest_67 ?_
                refine lv_topi (fun v4918 ev4918 => ?_)
                refine lv_iload_n hx hb dX2_fewest_68 rfl (lv_at hl 3 rfl) ?_
                refine lv_aload_n hx hb dX2_fewest_69 rfl (lv_at hl 2 rfl) ?_
                refine gX_2_6 hx hb ht hown hK hP m_310 (v := n4916) rfl dX2_fewest_70 ?_
                refine lv_imul hx hb dX2_fewest_73 ?_
                refine lv_topi (fun v4919 ev4919 => ?_)
                refine lv_icmp_gt (tgt := 79) hx hb dX2_fewest_74 (by decide) (fun c4920 => ?_) (fun c4920 => ?_)
                · have fc4920 := z_lt (rfl : (v4919).toInt = _) (rfl : (v4918).toInt = _) c4920
                  refine lv_iinc (v := 5) (lv' := [(3, .int 5), (2, .int r1), (0, .ref (g 11 6)), (1, .int a)]) hx hb dX2_fewest_79 hl (k := 0) rfl (by decide) (by decide) rfl (fun ls hl => ?_)
                  refine lv_goto (tgt := 39) hx hb dX2_fewest_82 (by decide) ?_
                  have : (5 : Int32).toInt = 5 := (by decide)
                  exact ih4891 5 n4916 n4917 n4913 n4914 n4915 ⟨by decide, by decide⟩ hn4913 (by omega) _ _ ls hP hD hS (lv_sub hl [0, 1, 2, 3] rfl)
                · have fc4920 := z_nlt (rfl : (v4919).toInt = _) (rfl : (v4918).toInt = _) c4920
                  refine lv_iload_n hx hb dX2_fewest_77 rfl (lv_at hl 0 rfl) ?_
                  have hP9 : va_P (dC, dI) classes (WX h g ca (u2 (u2 iv 2 6 n4916) 2 7 n4917) lv (u2 (u2 fa 2 2 n2) 20 2 n4913) (u2 (u2 la 20 0 n4914) 20 1 n4915)) H := hP
                  have hD9 : va_D A (WX h g ca (u2 (u2 iv 2 6 n4916) 2 7 n4917) lv (u2 (u2 fa 2 2 n2) 20 2 n4913) (u2 (u2 la 20 0 n4914) 20 1 n4915)) := hD
                  exact W.iret (v := 4) hx hb hr (fun t ht9 hW => ⟨⟨4, ((u2 (u2 iv 2 6 n4916) 2 7 n4917), lv, (u2 (u2 fa 2 2 n2) 20 2 n4913), (u2 (u2 la 20 0 n4914) 20 1 n4915)), rfl, ⟨n2, n4913, n4914, n4915, n4916, n4917, hn2, ⟨by decide, by decide⟩, rfl⟩, by rw [ht9]; exact hP9, hD9⟩, hS.F ht9⟩) hS.2.2 dX2_fewest_78
              · obtain rfl : x4890_3 = 5 := z_of (by decide) q4893
                have : (5 : Int32).toInt = 5 := by decide
                have hFc := free_all hD hS hA
                refine va_callv (va_runV (As := [.int 5, .int 0, .int r1]) (rest := []) ⟨hx, hb, hml, hown, ht⟩ (c_X2_takeSome_5 l dC dI H.size h g ca (u2 (u2 iv 2 6 0) 2 7 0) lv (u2 (u2 fa 2 2 n2) 20 2 w4890_a_20_2) (u2 (u2 la 20 0 w4890_b_20_0) 20 1 w4890_b_20_1) (IX_a (c := 20) (k := 2) (IX_a (c := 2) (k := 2) (IX_i (c := 2) (k := 7) (IX_i (c := 2) (k := 6) hI (full_i _)) (full_i _)) hn2) hw4890_a_20_2) 0 r1 ⟨by decide, by decide⟩ ⟨by omega, by omega⟩) (kV 3 ht m_933 m_935 m_38 m_85 m_936 rfl rfl hd_X2_takeSome_v ⟨Nat.le_of_ble_eq_true rfl, Nat.le_of_ble_eq_true rfl⟩) (vW hP hK hD (rX_2 hK hP)) rfl rfl hl.1 rfl (lv_room (Nat.le_of_ble_eq_true rfl)) dX2_fewest_58 ⟨Nat.le_of_ble_eq_true rfl, Nat.le_of_ble_eq_true rfl⟩) hS (fun q _ h => hFc q h) hFc (fun u t H1 locs ht9 hvm hr4921 hB hz1 hk1 hS => ?_)
                obtain ⟨n4922, n4923, n4924, n4925, n4926, rfl⟩ := hr4921
                have hn4922 : ∀ j, inb (bA 20 2 j) (n4922 j) := fun j => full_i _
                obtain ⟨hP, hD⟩ := hB
                rw [ht9] at hP
                generalize H1 = H at hP hS ⊢
                have hP : va_P (dC, dI) classes (WX h g ca (u2 (u2 iv 2 6 n4925) 2 7 n4926) lv (u2 (u2 fa 2 2 n2) 20 2 n4922) (u2 (u2 la 20 0 n4923) 20 1 n4924)) H := hP
                have hD : va_D A (WX h g ca (u2 (u2 iv 2 6 n4925) 2 7 n4926) lv (u2 (u2 fa 2 2 n2) 20 2 n4922) (u2 (u2 la 20 0 n4923) 20 1 n4924)) := (show va_D _ (WX h g ca (u2 (u2 iv 2 6 n4925) 2 7 n4926) lv (u2 (u2 fa 2 2 n2) 20 2 n4922) (u2 (u2 la 20 0 n4923) 20 1 n4924)) from hD).weaken (fun _ _ _ h => hFc _ h)
                refine lv_bipush (v := 100) hx hb dX2_fewest_61 (by decide) ?_
                refine lv_aload_n hx hb dX2_fewest_63 rfl (lv_at hl 2 rfl) ?_
                refine gX_2_7 hx hb ht hown hK hP m_311 (v := n4926) rfl dX2_fewest_64 ?_
                refine lv_imul hx hb dX2_fewest_67 ?_
                refine lv_topi (fun v4927 ev4927 => ?_)
                refine lv_iload_n hx hb dX2_fewest_68 rfl (lv_at hl 3 rfl) ?_
                refine lv_aload_n hx hb dX2_fewest_69 rfl (lv_at hl 2 rfl) ?_
                refine gX_2_6 hx hb ht hown hK hP m_310 (v := n4925) rfl dX2_fewest_70 ?_
                refine lv_imul hx hb dX2_fewest_73 ?_
                refine lv_topi (fun v4928 ev4928 => ?_)
                refine lv_icmp_gt (tgt := 79) hx hb dX2_fewest_74 (by decide) (fun c4929 => ?_) (fun c4929 => ?_)
                · have fc4929 := z_lt (rfl : (v4928).toInt = _) (rfl : (v4927).toInt = _) c4929
                  refine lv_iinc (v := 6) (lv' := [(3, .int 6), (2, .int r1), (0, .ref (g 11 6)), (1, .int a)]) hx hb dX2_fewest_79 hl (k := 0) rfl (by decide) (by decide) rfl (fun ls hl => ?_)
                  refine lv_goto (tgt := 39) hx hb dX2_fewest_82 (by decide) ?_
                  have : (6 : Int32).toInt = 6 := (by decide)
                  exact ih4891 6 n4925 n4926 n4922 n4923 n4924 ⟨by decide, by decide⟩ hn4922 (by omega) _ _ ls hP hD hS (lv_sub hl [0, 1, 2, 3] rfl)
                · have fc4929 := z_nlt (rfl : (v4928).toInt = _) (rfl : (v4927).toInt = _) c4929
                  refine lv_iload_n hx hb dX2_fewest_77 rfl (lv_at hl 0 rfl) ?_
                  have hP9 : va_P (dC, dI) classes (WX h g ca (u2 (u2 iv 2 6 n4925) 2 7 n4926) lv (u2 (u2 fa 2 2 n2) 20 2 n4922) (u2 (u2 la 20 0 n4923) 20 1 n4924)) H := hP
                  have hD9 : va_D A (WX h g ca (u2 (u2 iv 2 6 n4925) 2 7 n4926) lv (u2 (u2 fa 2 2 n2) 20 2 n4922) (u2 (u2 la 20 0 n4923) 20 1 n4924)) := hD
                  exact W.iret (v := 5) hx hb hr (fun t ht9 hW => ⟨⟨5, ((u2 (u2 iv 2 6 n4925) 2 7 n4926), lv, (u2 (u2 fa 2 2 n2) 20 2 n4922), (u2 (u2 la 20 0 n4923) 20 1 n4924)), rfl, ⟨n2, n4922, n4923, n4924, n4925, n4926, hn2, ⟨by decide, by decide⟩, rfl⟩, by rw [ht9]; exact hP9, hD9⟩, hS.F ht9⟩) hS.2.2 dX2_fewest_78
              · obtain rfl : x4890_3 = 6 := z_of (by decide) q4893
                have : (6 : Int32).toInt = 6 := by decide
                have hFc := free_all hD hS hA
                refine va_callv (va_runV (As := [.int 6, .int 0, .int r1]) (rest := []) ⟨hx, hb, hml, hown, ht⟩ (c_X2_takeSome_6 l dC dI H.size h g ca (u2 (u2 iv 2 6 0) 2 7 0) lv (u2 (u2 fa 2 2 n2) 20 2 w4890_a_20_2) (u2 (u2 la 20 0 w4890_b_20_0) 20 1 w4890_b_20_1) (IX_a (c := 20) (k := 2) (IX_a (c := 2) (k := 2) (IX_i (c := 2) (k := 7) (IX_i (c := 2) (k := 6) hI (full_i _)) (full_i _)) hn2) hw4890_a_20_2) 0 r1 ⟨by decide, by decide⟩ ⟨by omega, by omega⟩) (kV 3 ht m_933 m_935 m_38 m_85 m_936 rfl rfl hd_X2_takeSome_v ⟨Nat.le_of_ble_eq_true rfl, Nat.le_of_ble_eq_true rfl⟩) (vW hP hK hD (rX_2 hK hP)) rfl rfl hl.1 rfl (lv_room (Nat.le_of_ble_eq_true rfl)) dX2_fewest_58 ⟨Nat.le_of_ble_eq_true rfl, Nat.le_of_ble_eq_true rfl⟩) hS (fun q _ h => hFc q h) hFc (fun u t H1 locs ht9 hvm hr4930 hB hz1 hk1 hS => ?_)
                obtain ⟨n4931, n4932, n4933, n4934, n4935, rfl⟩ := hr4930
                have hn4931 : ∀ j, inb (bA 20 2 j) (n4931 j) := fun j => full_i _
                obtain ⟨hP, hD⟩ := hB
                rw [ht9] at hP
                generalize H1 = H at hP hS ⊢
                have hP : va_P (dC, dI) classes (WX h g ca (u2 (u2 iv 2 6 n4934) 2 7 n4935) lv (u2 (u2 fa 2 2 n2) 20 2 n4931) (u2 (u2 la 20 0 n4932) 20 1 n4933)) H := hP
                have hD : va_D A (WX h g ca (u2 (u2 iv 2 6 n4934) 2 7 n4935) lv (u2 (u2 fa 2 2 n2) 20 2 n4931) (u2 (u2 la 20 0 n4932) 20 1 n4933)) := (show va_D _ (WX h g ca (u2 (u2 iv 2 6 n4934) 2 7 n4935) lv (u2 (u2 fa 2 2 n2) 20 2 n4931) (u2 (u2 la 20 0 n4932) 20 1 n4933)) from hD).weaken (fun _ _ _ h => hFc _ h)
                refine lv_bipush (v := 100) hx hb dX2_fewest_61 (by decide) ?_
                refine lv_aload_n hx hb dX2_fewest_63 rfl (lv_at hl 2 rfl) ?_
                refine gX_2_7 hx hb ht hown hK hP m_311 (v := n4935) rfl dX2_fewest_64 ?_
                refine lv_imul hx hb dX2_fewest_67 ?_
                refine lv_topi (fun v4936 ev4936 => ?_)
                refine lv_iload_n hx hb dX2_fewest_68 rfl (lv_at hl 3 rfl) ?_
                refine lv_aload_n hx hb dX2_fewest_69 rfl (lv_at hl 2 rfl) ?_
                refine gX_2_6 hx hb ht hown hK hP m_310 (v := n4934) rfl dX2_fewest_70 ?_
                refine lv_imul hx hb dX2_fewest_73 ?_
                refine lv_topi (fun v4937 ev4937 => ?_)
                refine lv_icmp_gt (tgt := 79) hx hb dX2_fewest_74 (by decide) (fun c4938 => ?_) (fun c4938 => ?_)
                · have fc4938 := z_lt (rfl : (v4937).toInt = _) (rfl : (v4936).toInt = _) c4938
                  refine lv_iinc (v := 7) (lv' := [(3, .int 7), (2, .int r1), (0, .ref (g 11 6)), (1, .int a)]) hx hb dX2_fewest_79 hl (k := 0) rfl (by decide) (by decide) rfl (fun ls hl => ?_)
                  refine lv_goto (tgt := 39) hx hb dX2_fewest_82 (by decide) ?_
                  have : (7 : Int32).toInt = 7 := (by decide)
                  exact ih4891 7 n4934 n4935 n4931 n4932 n4933 ⟨by decide, by decide⟩ hn4931 (by omega) _ _ ls hP hD hS (lv_sub hl [0, 1, 2, 3] rfl)
                · have fc4938 := z_nlt (rfl : (v4937).toInt = _) (rfl : (v4936).toInt = _) c4938
                  refine lv_iload_n hx hb dX2_fewest_77 rfl (lv_at hl 0 rfl) ?_
                  have hP9 : va_P (dC, dI) classes (WX h g ca (u2 (u2 iv 2 6 n4934) 2 7 n4935) lv (u2 (u2 fa 2 2 n2) 20 2 n4931) (u2 (u2 la 20 0 n4932) 20 1 n4933)) H := hP
                  have hD9 : va_D A (WX h g ca (u2 (u2 iv 2 6 n4934) 2 7 n4935) lv (u2 (u2 fa 2 2 n2) 20 2 n4931) (u2 (u2 la 20 0 n4932) 20 1 n4933)) := hD
                  exact W.iret (v := 6) hx hb hr (fun t ht9 hW => ⟨⟨6, ((u2 (u2 iv 2 6 n4934) 2 7 n4935), lv, (u2 (u2 fa 2 2 n2) 20 2 n4931), (u2 (u2 la 20 0 n4932) 20 1 n4933)), rfl, ⟨n2, n4931, n4932, n4933, n4934, n4935, hn2, ⟨by decide, by decide⟩, rfl⟩, by rw [ht9]; exact hP9, hD9⟩, hS.F ht9⟩) hS.2.2 dX2_fewest_78
              · obtain rfl : x4890_3 = 7 := z_of (by decide) q4893
                have : (7 : Int32).toInt = 7 := by decide
                have hFc := free_all hD hS hA
                refine va_callv (va_runV (As := [.int 7, .int 0, .int r1]) (rest := []) ⟨hx, hb, hml, hown, ht⟩ (c_X2_takeSome_7 l dC dI H.size h g ca (u2 (u2 iv 2 6 0) 2 7 0) lv (u2 (u2 fa 2 2 n2) 20 2 w4890_a_20_2) (u2 (u2 la 20 0 w4890_b_20_0) 20 1 w4890_b_20_1) (IX_a (c := 20) (k := 2) (IX_a (c := 2) (k := 2) (IX_i (c := 2) (k := 7) (IX_i (c := 2) (k := 6) hI (full_i _)) (full_i _)) hn2) hw4890_a_20_2) 0 r1 ⟨by decide, by decide⟩ ⟨by omega, by omega⟩) (kV 3 ht m_933 m_935 m_38 m_85 m_936 rfl rfl hd_X2_takeSome_v ⟨Nat.le_of_ble_eq_true rfl, Nat.le_of_ble_eq_true rfl⟩) (vW hP hK hD (rX_2 hK hP)) rfl rfl hl.1 rfl (lv_room (Nat.le_of_ble_eq_true rfl)) dX2_fewest_58 ⟨Nat.le_of_ble_eq_true rfl, Nat.le_of_ble_eq_true rfl⟩) hS (fun q _ h => hFc q h) hFc (fun u t H1 locs ht9 hvm hr4939 hB hz1 hk1 hS => ?_)
                obtain ⟨n4940, n4941, n4942, n4943, n4944, rfl⟩ := hr4939
                have hn4940 : ∀ j, inb (bA 20 2 j) (n4940 j) := fun j => full_i _
                obtain ⟨hP, hD⟩ := hB
                rw [ht9] at hP
                generalize H1 = H at hP hS ⊢
                have hP : va_P (dC, dI) classes (WX h g ca (u2 (u2 iv 2 6 n4943) 2 7 n4944) lv (u2 (u2 fa 2 2 n2) 20 2 n4940) (u2 (u2 la 20 0 n4941) 20 1 n4942)) H := hP
                have hD : va_D A (WX h g ca (u2 (u2 iv 2 6 n4943) 2 7 n4944) lv (u2 (u2 fa 2 2 n2) 20 2 n4940) (u2 (u2 la 20 0 n4941) 20 1 n4942)) := (show va_D _ (WX h g ca (u2 (u2 iv 2 6 n4943) 2 7 n4944) lv (u2 (u2 fa 2 2 n2) 20 2 n4940) (u2 (u2 la 20 0 n4941) 20 1 n4942)) from hD).weaken (fun _ _ _ h => hFc _ h)
                refine lv_bipush (v := 100) hx hb dX2_fewest_61 (by decide) ?_
                refine lv_aload_n hx hb dX2_fewest_63 rfl (lv_at hl 2 rfl) ?_
                refine gX_2_7 hx hb ht hown hK hP m_311 (v := n4944) rfl dX2_fewest_64 ?_
                refine lv_imul hx hb dX2_fewest_67 ?_
                refine lv_topi (fun v4945 ev4945 => ?_)
                refine lv_iload_n hx hb dX2_fewest_68 rfl (lv_at hl 3 rfl) ?_
                refine lv_aload_n hx hb dX2_fewest_69 rfl (lv_at hl 2 rfl) ?_
                refine gX_2_6 hx hb ht hown hK hP m_310 (v := n4943) rfl dX2_fewest_70 ?_
                refine lv_imul hx hb dX2_fewest_73 ?_
                refine lv_topi (fun v4946 ev4946 => ?_)
                refine lv_icmp_gt (tgt := 79) hx hb dX2_fewest_74 (by decide) (fun c4947 => ?_) (fun c4947 => ?_)
                · have fc4947 := z_lt (rfl : (v4946).toInt = _) (rfl : (v4945).toInt = _) c4947
                  refine lv_iinc (v := 8) (lv' := [(3, .int 8), (2, .int r1), (0, .ref (g 11 6)), (1, .int a)]) hx hb dX2_fewest_79 hl (k := 0) rfl (by decide) (by decide) rfl (fun ls hl => ?_)
                  refine lv_goto (tgt := 39) hx hb dX2_fewest_82 (by decide) ?_
                  have : (8 : Int32).toInt = 8 := (by decide)
                  exact ih4891 8 n4943 n4944 n4940 n4941 n4942 ⟨by decide, by decide⟩ hn4940 (by omega) _ _ ls hP hD hS (lv_sub hl [0, 1, 2, 3] rfl)
                · have fc4947 := z_nlt (rfl : (v4946).toInt = _) (rfl : (v4945).toInt = _) c4947
                  refine lv_iload_n hx hb dX2_fewest_77 rfl (lv_at hl 0 rfl) ?_
                  have hP9 : va_P (dC, dI) classes (WX h g ca (u2 (u2 iv 2 6 n4943) 2 7 n4944) lv (u2 (u2 fa 2 2 n2) 20 2 n4940) (u2 (u2 la 20 0 n4941) 20 1 n4942)) H := hP
                  have hD9 : va_D A (WX h g ca (u2 (u2 iv 2 6 n4943) 2 7 n4944) lv (u2 (u2 fa 2 2 n2) 20 2 n4940) (u2 (u2 la 20 0 n4941) 20 1 n4942)) := hD
                  exact W.iret (v := 7) hx hb hr (fun t ht9 hW => ⟨⟨7, ((u2 (u2 iv 2 6 n4943) 2 7 n4944), lv, (u2 (u2 fa 2 2 n2) 20 2 n4940), (u2 (u2 la 20 0 n4941) 20 1 n4942)), rfl, ⟨n2, n4940, n4941, n4942, n4943, n4944, hn2, ⟨by decide, by decide⟩, rfl⟩, by rw [ht9]; exact hP9, hD9⟩, hS.F ht9⟩) hS.2.2 dX2_fewest_78
              · obtain rfl : x4890_3 = 8 := z_of (by decide) q4893
                have : (8 : Int32).toInt = 8 := by decide
                have hFc := free_all hD hS hA
                refine va_callv (va_runV (As := [.int 8, .int 0, .int r1]) (rest := []) ⟨hx, hb, hml, hown, ht⟩ (c_X2_takeSome_8 l dC dI H.size h g ca (u2 (u2 iv 2 6 0) 2 7 0) lv (u2 (u2 fa 2 2 n2) 20 2 w4890_a_20_2) (u2 (u2 la 20 0 w4890_b_20_0) 20 1 w4890_b_20_1) (IX_a (c := 20) (k := 2) (IX_a (c := 2) (k := 2) (IX_i (c := 2) (k := 7) (IX_i (c := 2) (k := 6) hI (full_i _)) (full_i _)) hn2) hw4890_a_20_2) 0 r1 ⟨by decide, by decide⟩ ⟨by omega, by omega⟩) (kV 3 ht m_933 m_935 m_38 m_85 m_936 rfl rfl hd_X2_takeSome_v ⟨Nat.le_of_ble_eq_true rfl, Nat.le_of_ble_eq_true rfl⟩) (vW hP hK hD (rX_2 hK hP)) rfl rfl hl.1 rfl (lv_room (Nat.le_of_ble_eq_true rfl)) dX2_fewest_58 ⟨Nat.le_of_ble_eq_true rfl, Nat.le_of_ble_eq_true rfl⟩) hS (fun q _ h => hFc q h) hFc (fun u t H1 locs ht9 hvm hr4948 hB hz1 hk1 hS => ?_)
                obtain ⟨n4949, n4950, n4951, n4952, n4953, rfl⟩ := hr4948
                have hn4949 : ∀ j, inb (bA 20 2 j) (n4949 j) := fun j => full_i _
                obtain ⟨hP, hD⟩ := hB
                rw [ht9] at hP
                generalize H1 = H at hP hS ⊢
                have hP : va_P (dC, dI) classes (WX h g ca (u2 (u2 iv 2 6 n4952) 2 7 n4953) lv (u2 (u2 fa 2 2 n2) 20 2 n4949) (u2 (u2 la 20 0 n4950) 20 1 n4951)) H := hP
                have hD : va_D A (WX h g ca (u2 (u2 iv 2 6 n4952) 2 7 n4953) lv (u2 (u2 fa 2 2 n2) 20 2 n4949) (u2 (u2 la 20 0 n4950) 20 1 n4951)) := (show va_D _ (WX h g ca (u2 (u2 iv 2 6 n4952) 2 7 n4953) lv (u2 (u2 fa 2 2 n2) 20 2 n4949) (u2 (u2 la 20 0 n4950) 20 1 n4951)) from hD).weaken (fun _ _ _ h => hFc _ h)
                refine lv_bipush (v := 100) hx hb dX2_fewest_61 (by decide) ?_
                refine lv_aload_n hx hb dX2_fewest_63 rfl (lv_at hl 2 rfl) ?_
                refine gX_2_7 hx hb ht hown hK hP m_311 (v := n4953) rfl dX2_fewest_64 ?_
                refine lv_imul hx hb dX2_fewest_67 ?_
                refine lv_topi (fun v4954 ev4954 => ?_)
                refine lv_iload_n hx hb dX2_fewest_68 rfl (lv_at hl 3 rfl) ?_
                refine lv_aload_n hx hb dX2_fewest_69 rfl (lv_at hl 2 rfl) ?_
                refine gX_2_6 hx hb ht hown hK hP m_310 (v := n4952) rfl dX2_fewest_70 ?_
                refine lv_imul hx hb dX2_fewest_73 ?_
                refine lv_topi (fun v4955 ev4955 => ?_)
                refine lv_icmp_gt (tgt := 79) hx hb dX2_fewest_74 (by decide) (fun c4956 => ?_) (fun c4956 => ?_)
                · have fc4956 := z_lt (rfl : (v4955).toInt = _) (rfl : (v4954).toInt = _) c4956
                  refine lv_iinc (v := 9) (lv' := [(3, .int 9), (2, .int r1), (0, .ref (g 11 6)), (1, .int a)]) hx hb dX2_fewest_79 hl (k := 0) rfl (by decide) (by decide) rfl (fun ls hl => ?_)
                  refine lv_goto (tgt := 39) hx hb dX2_fewest_82 (by decide) ?_
                  have : (9 : Int32).toInt = 9 := (by decide)
                  exact ih4891 9 n4952 n4953 n4949 n4950 n4951 ⟨by decide, by decide⟩ hn4949 (by omega) _ _ ls hP hD hS (lv_sub hl [0, 1, 2, 3] rfl)
                · have fc4956 := z_nlt (rfl : (v4955).toInt = _) (rfl : (v4954).toInt = _) c4956
                  refine lv_iload_n hx hb dX2_fewest_77 rfl (lv_at hl 0 rfl) ?_
                  have hP9 : va_P (dC, dI) classes (WX h g ca (u2 (u2 iv 2 6 n4952) 2 7 n4953) lv (u2 (u2 fa 2 2 n2) 20 2 n4949) (u2 (u2 la 20 0 n4950) 20 1 n4951)) H := hP
                  have hD9 : va_D A (WX h g ca (u2 (u2 iv 2 6 n4952) 2 7 n4953) lv (u2 (u2 fa 2 2 n2) 20 2 n4949) (u2 (u2 la 20 0 n4950) 20 1 n4951)) := hD
                  exact W.iret (v := 8) hx hb hr (fun t ht9 hW => ⟨⟨8, ((u2 (u2 iv 2 6 n4952) 2 7 n4953), lv, (u2 (u2 fa 2 2 n2) 20 2 n4949), (u2 (u2 la 20 0 n4950) 20 1 n4951)), rfl, ⟨n2, n4949, n4950, n4951, n4952, n4953, hn2, ⟨by decide, by decide⟩, rfl⟩, by rw [ht9]; exact hP9, hD9⟩, hS.F ht9⟩) hS.2.2 dX2_fewest_78
              · obtain rfl : x4890_3 = 9 := z_of (by decide) q4893
                have : (9 : Int32).toInt = 9 := by decide
                have hFc := free_all hD hS hA
                refine va_callv (va_runV (As := [.int 9, .int 0, .int r1]) (rest := []) ⟨hx, hb, hml, hown, ht⟩ (c_X2_takeSome_9 l dC dI H.size h g ca (u2 (u2 iv 2 6 0) 2 7 0) lv (u2 (u2 fa 2 2 n2) 20 2 w4890_a_20_2) (u2 (u2 la 20 0 w4890_b_20_0) 20 1 w4890_b_20_1) (IX_a (c := 20) (k := 2) (IX_a (c := 2) (k := 2) (IX_i (c := 2) (k := 7) (IX_i (c := 2) (k := 6) hI (full_i _)) (full_i _)) hn2) hw4890_a_20_2) 0 r1 ⟨by decide, by decide⟩ ⟨by omega, by omega⟩) (kV 3 ht m_933 m_935 m_38 m_85 m_936 rfl rfl hd_X2_takeSome_v ⟨Nat.le_of_ble_eq_true rfl, Nat.le_of_ble_eq_true rfl⟩) (vW hP hK hD (rX_2 hK hP)) rfl rfl hl.1 rfl (lv_room (Nat.le_of_ble_eq_true rfl)) dX2_fewest_58 ⟨Nat.le_of_ble_eq_true rfl, Nat.le_of_ble_eq_true rfl⟩) hS (fun q _ h => hFc q h) hFc (fun u t H1 locs ht9 hvm hr4957 hB hz1 hk1 hS => ?_)
                obtain ⟨n4958, n4959, n4960, n4961, n4962, rfl⟩ := hr4957
                have hn4958 : ∀ j, inb (bA 20 2 j) (n4958 j) := fun j => full_i _
                obtain ⟨hP, hD⟩ := hB
                rw [ht9] at hP
                generalize H1 = H at hP hS ⊢
                have hP : va_P (dC, dI) classes (WX h g ca (u2 (u2 iv 2 6 n4961) 2 7 n4962) lv (u2 (u2 fa 2 2 n2) 20 2 n4958) (u2 (u2 la 20 0 n4959) 20 1 n4960)) H := hP
                have hD : va_D A (WX h g ca (u2 (u2 iv 2 6 n4961) 2 7 n4962) lv (u2 (u2 fa 2 2 n2) 20 2 n4958) (u2 (u2 la 20 0 n4959) 20 1 n4960)) := (show va_D _ (WX h g ca (u2 (u2 iv 2 6 n4961) 2 7 n4962) lv (u2 (u2 fa 2 2 n2) 20 2 n4958) (u2 (u2 la 20 0 n4959) 20 1 n4960)) from hD).weaken (fun _ _ _ h => hFc _ h)
                refine lv_bipush (v := 100) hx hb dX2_fewest_61 (by decide) ?_
                refine lv_aload_n hx hb dX2_fewest_63 rfl (lv_at hl 2 rfl) ?_
                refine gX_2_7 hx hb ht hown hK hP m_311 (v := n4962) rfl dX2_fewest_64 ?_
                refine lv_imul hx hb dX2_fewest_67 ?_
                refine lv_topi (fun v4963 ev4963 => ?_)
                refine lv_iload_n hx hb dX2_fewest_68 rfl (lv_at hl 3 rfl) ?_
                refine lv_aload_n hx hb dX2_fewest_69 rfl (lv_at hl 2 rfl) ?_
                refine gX_2_6 hx hb ht hown hK hP m_310 (v := n4961) rfl dX2_fewest_70 ?_
                refine lv_imul hx hb dX2_fewest_73 ?_
                refine lv_topi (fun v4964 ev4964 => ?_)
                refine lv_icmp_gt (tgt := 79) hx hb dX2_fewest_74 (by decide) (fun c4965 => ?_) (fun c4965 => ?_)
                · have fc4965 := z_lt (rfl : (v4964).toInt = _) (rfl : (v4963).toInt = _) c4965
                  refine lv_iinc (v := 10) (lv' := [(3, .int 10), (2, .int r1), (0, .ref (g 11 6)), (1, .int a)]) hx hb dX2_fewest_79 hl (k := 0) rfl (by decide) (by decide) rfl (fun ls hl => ?_)
                  refine lv_goto (tgt := 39) hx hb dX2_fewest_82 (by decide) ?_
                  have : (10 : Int32).toInt = 10 := (by decide)
                  exact ih4891 10 n4961 n4962 n4958 n4959 n4960 ⟨by decide, by decide⟩ hn4958 (by omega) _ _ ls hP hD hS (lv_sub hl [0, 1, 2, 3] rfl)
                · have fc4965 := z_nlt (rfl : (v4964).toInt = _) (rfl : (v4963).toInt = _) c4965
                  refine lv_iload_n hx hb dX2_fewest_77 rfl (lv_at hl 0 rfl) ?_
                  have hP9 : va_P (dC, dI) classes (WX h g ca (u2 (u2 iv 2 6 n4961) 2 7 n4962) lv (u2 (u2 fa 2 2 n2) 20 2 n4958) (u2 (u2 la 20 0 n4959) 20 1 n4960)) H := hP
                  have hD9 : va_D A (WX h g ca (u2 (u2 iv 2 6 n4961) 2 7 n4962) lv (u2 (u2 fa 2 2 n2) 20 2 n4958) (u2 (u2 la 20 0 n4959) 20 1 n4960)) := hD
                  exact W.iret (v := 9) hx hb hr (fun t ht9 hW => ⟨⟨9, ((u2 (u2 iv 2 6 n4961) 2 7 n4962), lv, (u2 (u2 fa 2 2 n2) 20 2 n4958), (u2 (u2 la 20 0 n4959) 20 1 n4960)), rfl, ⟨n2, n4958, n4959, n4960, n4961, n4962, hn2, ⟨by decide, by decide⟩, rfl⟩, by rw [ht9]; exact hP9, hD9⟩, hS.F ht9⟩) hS.2.2 dX2_fewest_78
              · obtain rfl : x4890_3 = 10 := z_of (by decide) q4893
                have : (10 : Int32).toInt = 10 := by decide
                have hFc := free_all hD hS hA
                refine va_callv (va_runV (As := [.int 10, .int 0, .int r1]) (rest := []) ⟨hx, hb, hml, hown, ht⟩ (c_X2_takeSome_10 l dC dI H.size h g ca (u2 (u2 iv 2 6 0) 2 7 0) lv (u2 (u2 fa 2 2 n2) 20 2 w4890_a_20_2) (u2 (u2 la 20 0 w4890_b_20_0) 20 1 w4890_b_20_1) (IX_a (c := 20) (k := 2) (IX_a (c := 2) (k := 2) (IX_i (c := 2) (k := 7) (IX_i (c := 2) (k := 6) hI (full_i _)) (full_i _)) hn2) hw4890_a_20_2) 0 r1 ⟨by decide, by decide⟩ ⟨by omega, by omega⟩) (kV 3 ht m_933 m_935 m_38 m_85 m_936 rfl rfl hd_X2_takeSome_v ⟨Nat.le_of_ble_eq_true rfl, Nat.le_of_ble_eq_true rfl⟩) (vW hP hK hD (rX_2 hK hP)) rfl rfl hl.1 rfl (lv_room (Nat.le_of_ble_eq_true rfl)) dX2_fewest_58 ⟨Nat.le_of_ble_eq_true rfl, Nat.le_of_ble_eq_true rfl⟩) hS (fun q _ h => hFc q h) hFc (fun u t H1 locs ht9 hvm hr4966 hB hz1 hk1 hS => ?_)
                obtain ⟨n4967, n4968, n4969, n4970, n4971, rfl⟩ := hr4966
                have hn4967 : ∀ j, inb (bA 20 2 j) (n4967 j) := fun j => full_i _
                obtain ⟨hP, hD⟩ := hB
                rw [ht9] at hP
                generalize H1 = H at hP hS ⊢
                have hP : va_P (dC, dI) classes (WX h g ca (u2 (u2 iv 2 6 n4970) 2 7 n4971) lv (u2 (u2 fa 2 2 n2) 20 2 n4967) (u2 (u2 la 20 0 n4968) 20 1 n4969)) H := hP
                have hD : va_D A (WX h g ca (u2 (u2 iv 2 6 n4970) 2 7 n4971) lv (u2 (u2 fa 2 2 n2) 20 2 n4967) (u2 (u2 la 20 0 n4968) 20 1 n4969)) := (show va_D _ (WX h g ca (u2 (u2 iv 2 6 n4970) 2 7 n4971) lv (u2 (u2 fa 2 2 n2) 20 2 n4967) (u2 (u2 la 20 0 n4968) 20 1 n4969)) from hD).weaken (fun _ _ _ h => hFc _ h)
                refine lv_bipush (v := 100) hx hb dX2_fewest_61 (by decide) ?_
                refine lv_aload_n hx hb dX2_fewest_63 rfl (lv_at hl 2 rfl) ?_
                refine gX_2_7 hx hb ht hown hK hP m_311 (v := n4971) rfl dX2_fewest_64 ?_
                refine lv_imul hx hb dX2_fewest_67 ?_
                refine lv_topi (fun v4972 ev4972 => ?_)
                refine lv_iload_n hx hb dX2_fewest_68 rfl (lv_at hl 3 rfl) ?_
                refine lv_aload_n hx hb dX2_fewest_69 rfl (lv_at hl 2 rfl) ?_
                refine gX_2_6 hx hb ht hown hK hP m_310 (v := n4970) rfl dX2_fewest_70 ?_
                refine lv_imul hx hb dX2_fewest_73 ?_
                refine lv_topi (fun v4973 ev4973 => ?_)
                refine lv_icmp_gt (tgt := 79) hx hb dX2_fewest_74 (by decide) (fun c4974 => ?_) (fun c4974 => ?_)
                · have fc4974 := z_lt (rfl : (v4973).toInt = _) (rfl : (v4972).toInt = _) c4974
                  refine lv_iinc (v := 11) (lv' := [(3, .int 11), (2, .int r1), (0, .ref (g 11 6)), (1, .int a)]) hx hb dX2_fewest_79 hl (k := 0) rfl (by decide) (by decide) rfl (fun ls hl => ?_)
                  refine lv_goto (tgt := 39) hx hb dX2_fewest_82 (by decide) ?_
                  have : (11 : Int32).toInt = 11 := (by decide)
                  exact ih4891 11 n4970 n4971 n4967 n4968 n4969 ⟨by decide, by decide⟩ hn4967 (by omega) _ _ ls hP hD hS (lv_sub hl [0, 1, 2, 3] rfl)
                · have fc4974 := z_nlt (rfl : (v4973).toInt = _) (rfl : (v4972).toInt = _) c4974
                  refine lv_iload_n hx hb dX2_fewest_77 rfl (lv_at hl 0 rfl) ?_
                  have hP9 : va_P (dC, dI) classes (WX h g ca (u2 (u2 iv 2 6 n4970) 2 7 n4971) lv (u2 (u2 fa 2 2 n2) 20 2 n4967) (u2 (u2 la 20 0 n4968) 20 1 n4969)) H := hP
                  have hD9 : va_D A (WX h g ca (u2 (u2 iv 2 6 n4970) 2 7 n4971) lv (u2 (u2 fa 2 2 n2) 20 2 n4967) (u2 (u2 la 20 0 n4968) 20 1 n4969)) := hD
                  exact W.iret (v := 10) hx hb hr (fun t ht9 hW => ⟨⟨10, ((u2 (u2 iv 2 6 n4970) 2 7 n4971), lv, (u2 (u2 fa 2 2 n2) 20 2 n4967), (u2 (u2 la 20 0 n4968) 20 1 n4969)), rfl, ⟨n2, n4967, n4968, n4969, n4970, n4971, hn2, ⟨by decide, by decide⟩, rfl⟩, by rw [ht9]; exact hP9, hD9⟩, hS.F ht9⟩) hS.2.2 dX2_fewest_78
              · obtain rfl : x4890_3 = 11 := z_of (by decide) q4893
                have : (11 : Int32).toInt = 11 := by decide
                have hFc := free_all hD hS hA
                refine va_callv (va_runV (As := [.int 11, .int 0, .int r1]) (rest := []) ⟨hx, hb, hml, hown, ht⟩ (c_X2_takeSome_11 l dC dI H.size h g ca (u2 (u2 iv 2 6 0) 2 7 0) lv (u2 (u2 fa 2 2 n2) 20 2 w4890_a_20_2) (u2 (u2 la 20 0 w4890_b_20_0) 20 1 w4890_b_20_1) (IX_a (c := 20) (k := 2) (IX_a (c := 2) (k := 2) (IX_i (c := 2) (k := 7) (IX_i (c := 2) (k := 6) hI (full_i _)) (full_i _)) hn2) hw4890_a_20_2) 0 r1 ⟨by decide, by decide⟩ ⟨by omega, by omega⟩) (kV 3 ht m_933 m_935 m_38 m_85 m_936 rfl rfl hd_X2_takeSome_v ⟨Nat.le_of_ble_eq_true rfl, Nat.le_of_ble_eq_true rfl⟩) (vW hP hK hD (rX_2 hK hP)) rfl rfl hl.1 rfl (lv_room (Nat.le_of_ble_eq_true rfl)) dX2_fewest_58 ⟨Nat.le_of_ble_eq_true rfl, Nat.le_of_ble_eq_true rfl⟩) hS (fun q _ h => hFc q h) hFc (fun u t H1 locs ht9 hvm hr4975 hB hz1 hk1 hS => ?_)
                obtain ⟨n4976, n4977, n4978, n4979, n4980, rfl⟩ := hr4975
                have hn4976 : ∀ j, inb (bA 20 2 j) (n4976 j) := fun j => full_i _
                obtain ⟨hP, hD⟩ := hB
                rw [ht9] at hP
                generalize H1 = H at hP hS ⊢
                have hP : va_P (dC, dI) classes (WX h g ca (u2 (u2 iv 2 6 n4979) 2 7 n4980) lv (u2 (u2 fa 2 2 n2) 20 2 n4976) (u2 (u2 la 20 0 n4977) 20 1 n4978)) H := hP
                have hD : va_D A (WX h g ca (u2 (u2 iv 2 6 n4979) 2 7 n4980) lv (u2 (u2 fa 2 2 n2) 20 2 n4976) (u2 (u2 la 20 0 n4977) 20 1 n4978)) := (show va_D _ (WX h g ca (u2 (u2 iv 2 6 n4979) 2 7 n4980) lv (u2 (u2 fa 2 2 n2) 20 2 n4976) (u2 (u2 la 20 0 n4977) 20 1 n4978)) from hD).weaken (fun _ _ _ h => hFc _ h)
                refine lv_bipush (v := 100) hx hb dX2_fewest_61 (by decide) ?_
                refine lv_aload_n hx hb dX2_fewest_63 rfl (lv_at hl 2 rfl) ?_
                refine gX_2_7 hx hb ht hown hK hP m_311 (v := n4980) rfl dX2_fewest_64 ?_
                refine lv_imul hx hb dX2_fewest_67 ?_
                refine lv_topi (fun v4981 ev4981 => ?_)
                refine lv_iload_n hx hb dX2_fewest_68 rfl (lv_at hl 3 rfl) ?_
                refine lv_aload_n hx hb dX2_fewest_69 rfl (lv_at hl 2 rfl) ?_
                refine gX_2_6 hx hb ht hown hK hP m_310 (v := n4979) rfl dX2_fewest_70 ?_
                refine lv_imul hx hb dX2_fewest_73 ?_
                refine lv_topi (fun v4982 ev4982 => ?_)
                refine lv_icmp_gt (tgt := 79) hx hb dX2_fewest_74 (by decide) (fun c4983 => ?_) (fun c4983 => ?_)
                · have fc4983 := z_lt (rfl : (v4982).toInt = _) (rfl : (v4981).toInt = _) c4983
                  refine lv_iinc (v := 12) (lv' := [(3, .int 12), (2, .int r1), (0, .ref (g 11 6)), (1, .int a)]) hx hb dX2_fewest_79 hl (k := 0) rfl (by decide) (by decide) rfl (fun ls hl => ?_)
                  refine lv_goto (tgt := 39) hx hb dX2_fewest_82 (by decide) ?_
                  have : (12 : Int32).toInt = 12 := (by decide)
                  exact ih4891 12 n4979 n4980 n4976 n4977 n4978 ⟨by decide, by decide⟩ hn4976 (by omega) _ _ ls hP hD hS (lv_sub hl [0, 1, 2, 3] rfl)
                · have fc4983 := z_nlt (rfl : (v4982).toInt = _) (rfl : (v4981).toInt = _) c4983
                  refine lv_iload_n hx hb dX2_fewest_77 rfl (lv_at hl 0 rfl) ?_
                  have hP9 : va_P (dC, dI) classes (WX h g ca (u2 (u2 iv 2 6 n4979) 2 7 n4980) lv (u2 (u2 fa 2 2 n2) 20 2 n4976) (u2 (u2 la 20 0 n4977) 20 1 n4978)) H := hP
                  have hD9 : va_D A (WX h g ca (u2 (u2 iv 2 6 n4979) 2 7 n4980) lv (u2 (u2 fa 2 2 n2) 20 2 n4976) (u2 (u2 la 20 0 n4977) 20 1 n4978)) := hD
                  exact W.iret (v := 11) hx hb hr (fun t ht9 hW => ⟨⟨11, ((u2 (u2 iv 2 6 n4979) 2 7 n4980), lv, (u2 (u2 fa 2 2 n2) 20 2 n4976), (u2 (u2 la 20 0 n4977) 20 1 n4978)), rfl, ⟨n2, n4976, n4977, n4978, n4979, n4980, hn2, ⟨by decide, by decide⟩, rfl⟩, by rw [ht9]; exact hP9, hD9⟩, hS.F ht9⟩) hS.2.2 dX2_fewest_78
              · obtain rfl : x4890_3 = 12 := z_of (by decide) q4893
                have : (12 : Int32).toInt = 12 := by decide
                have hFc := free_all hD hS hA
                refine va_callv (va_runV (As := [.int 12, .int 0, .int r1]) (rest := []) ⟨hx, hb, hml, hown, ht⟩ (c_X2_takeSome_12 l dC dI H.size h g ca (u2 (u2 iv 2 6 0) 2 7 0) lv (u2 (u2 fa 2 2 n2) 20 2 w4890_a_20_2) (u2 (u2 la 20 0 w4890_b_20_0) 20 1 w4890_b_20_1) (IX_a (c := 20) (k := 2) (IX_a (c := 2) (k := 2) (IX_i (c := 2) (k := 7) (IX_i (c := 2) (k := 6) hI (full_i _)) (full_i _)) hn2) hw4890_a_20_2) 0 r1 ⟨by decide, by decide⟩ ⟨by omega, by omega⟩) (kV 3 ht m_933 m_935 m_38 m_85 m_936 rfl rfl hd_X2_takeSome_v ⟨Nat.le_of_ble_eq_true rfl, Nat.le_of_ble_eq_true rfl⟩) (vW hP hK hD (rX_2 hK hP)) rfl rfl hl.1 rfl (lv_room (Nat.le_of_ble_eq_true rfl)) dX2_fewest_58 ⟨Nat.le_of_ble_eq_true rfl, Nat.le_of_ble_eq_true rfl⟩) hS (fun q _ h => hFc q h) hFc (fun u t H1 locs ht9 hvm hr4984 hB hz1 hk1 hS => ?_)
                obtain ⟨n4985, n4986, n4987, n4988, n4989, rfl⟩ := hr4984
                have hn4985 : ∀ j, inb (bA 20 2 j) (n4985 j) := fun j => full_i _
                obtain ⟨hP, hD⟩ := hB
                rw [ht9] at hP
                generalize H1 = H at hP hS ⊢
                have hP : va_P (dC, dI) classes (WX h g ca (u2 (u2 iv 2 6 n4988) 2 7 n4989) lv (u2 (u2 fa 2 2 n2) 20 2 n4985) (u2 (u2 la 20 0 n4986) 20 1 n4987)) H := hP
                have hD : va_D A (WX h g ca (u2 (u2 iv 2 6 n4988) 2 7 n4989) lv (u2 (u2 fa 2 2 n2) 20 2 n4985) (u2 (u2 la 20 0 n4986) 20 1 n4987)) := (show va_D _ (WX h g ca (u2 (u2 iv 2 6 n4988) 2 7 n4989) lv (u2 (u2 fa 2 2 n2) 20 2 n4985) (u2 (u2 la 20 0 n4986) 20 1 n4987)) from hD).weaken (fun _ _ _ h => hFc _ h)
                refine lv_bipush (v := 100) hx hb dX2_fewest_61 (by decide) ?_
                refine lv_aload_n hx hb dX2_fewest_63 rfl (lv_at hl 2 rfl) ?_
                refine gX_2_7 hx hb ht hown hK hP m_311 (v := n4989) rfl dX2_fewest_64 ?_
                refine lv_imul hx hb dX2_fewest_67 ?_
                refine lv_topi (fun v4990 ev4990 => ?_)
                refine lv_iload_n hx hb dX2_fewest_68 rfl (lv_at hl 3 rfl) ?_
                refine lv_aload_n hx hb dX2_fewest_69 rfl (lv_at hl 2 rfl) ?_
                refine gX_2_6 hx hb ht hown hK hP m_310 (v := n4988) rfl dX2_fewest_70 ?_
                refine lv_imul hx hb dX2_fewest_73 ?_
                refine lv_topi (fun v4991 ev4991 => ?_)
                refine lv_icmp_gt (tgt := 79) hx hb dX2_fewest_74 (by decide) (fun c4992 => ?_) (fun c4992 => ?_)
                · have fc4992 := z_lt (rfl : (v4991).toInt = _) (rfl : (v4990).toInt = _) c4992
                  refine lv_iinc (v := 13) (lv' := [(3, .int 13), (2, .int r1), (0, .ref (g 11 6)), (1, .int a)]) hx hb dX2_fewest_79 hl (k := 0) rfl (by decide) (by decide) rfl (fun ls hl => ?_)
                  refine lv_goto (tgt := 39) hx hb dX2_fewest_82 (by decide) ?_
                  have : (13 : Int32).toInt = 13 := (by decide)
                  exact ih4891 13 n4988 n4989 n4985 n4986 n4987 ⟨by decide, by decide⟩ hn4985 (by omega) _ _ ls hP hD hS (lv_sub hl [0, 1, 2, 3] rfl)
                · have fc4992 := z_nlt (rfl : (v4991).toInt = _) (rfl : (v4990).toInt = _) c4992
                  refine lv_iload_n hx hb dX2_fewest_77 rfl (lv_at hl 0 rfl) ?_
                  have hP9 : va_P (dC, dI) classes (WX h g ca (u2 (u2 iv 2 6 n4988) 2 7 n4989) lv (u2 (u2 fa 2 2 n2) 20 2 n4985) (u2 (u2 la 20 0 n4986) 20 1 n4987)) H := hP
                  have hD9 : va_D A (WX h g ca (u2 (u2 iv 2 6 n4988) 2 7 n4989) lv (u2 (u2 fa 2 2 n2) 20 2 n4985) (u2 (u2 la 20 0 n4986) 20 1 n4987)) := hD
                  exact W.iret (v := 12) hx hb hr (fun t ht9 hW => ⟨⟨12, ((u2 (u2 iv 2 6 n4988) 2 7 n4989), lv, (u2 (u2 fa 2 2 n2) 20 2 n4985), (u2 (u2 la 20 0 n4986) 20 1 n4987)), rfl, ⟨n2, n4985, n4986, n4987, n4988, n4989, hn2, ⟨by decide, by decide⟩, rfl⟩, by rw [ht9]; exact hP9, hD9⟩, hS.F ht9⟩) hS.2.2 dX2_fewest_78
        have : (2 : Int32).toInt = 2 := (by decide)
        exact lp4891 12 2 (iv 2 6) (iv 2 7) w4158_a_20_2 w4158_b_20_0 w4158_b_20_1 ⟨by decide, by decide⟩ hw4158_a_20_2 (show 13 - (2 : Int32).toInt < _ from by omega) _ _ ls hP hD hS (lv_sub hl [0, 1, 2, 3] rfl)
      · have fc4160 := z_nle (rfl : (r1).toInt = _) (rfl : (x4158_3).toInt = _) c4160
        refine lv_aload_n hx hb dX2_fewest_20 rfl (lv_at hl 2 rfl) ?_
        refine lv_iconst (v := 0) hx hb dX2_fewest_21 (by decide) ?_
        refine lv_aload_n hx hb dX2_fewest_22 rfl (lv_at hl 2 rfl) ?_
        refine gX_2_2 hx hb ht hown hK hP m_306 dX2_fewest_23 ?_
        refine lv_iload_n hx hb dX2_fewest_26 rfl (lv_at hl 0 rfl) ?_
        refine lX_2_2 hx hb hK hP (f := n2) rfl (vp_in_iff.mpr ⟨by omega, by omega⟩) dX2_fewest_27 ?_
        refine lv_topi (fun v4993 ev4993 => ?_)
        have tv4993 : 0 ≤ v4993.toInt ∧ v4993.toInt ≤ 59 := by rw [ev4993]; exact hn2 _
        have hFc := free_all hD hS hA
        refine va_callv (va_runV (As := [.int 0, .int v4993]) (rest := []) ⟨hx, hb, hml, hown, ht⟩ (c_X2_heap l dC dI H.size h g ca iv lv (u2 (u2 fa 2 2 n2) 20 2 w4158_a_20_2) (u2 (u2 la 20 0 w4158_b_20_0) 20 1 w4158_b_20_1) (IX_a (c := 20) (k := 2) (IX_a (c := 2) (k := 2) hI hn2) hw4158_a_20_2) 0 v4993 ⟨by decide, by decide⟩ ⟨by omega, by omega⟩) (kV 2 ht m_890 m_892 m_33 m_85 m_893 rfl rfl hd_X2_heap_v ⟨Nat.le_of_ble_eq_true rfl, Nat.le_of_ble_eq_true rfl⟩) (vW hP hK hD (rX_2 hK hP)) rfl rfl hl.1 rfl (lv_room (Nat.le_of_ble_eq_true rfl)) dX2_fewest_28 ⟨Nat.le_of_ble_eq_true rfl, Nat.le_of_ble_eq_true rfl⟩) hS (fun q _ h => hFc q h) hFc (fun u t H1 locs ht9 hvm hr4994 hB hz1 hk1 hS => ?_)
        obtain ⟨n4995, n4996, n4997, rfl⟩ := hr4994
        have hn4995 : ∀ j, inb (bA 20 2 j) (n4995 j) := fun j => full_i _
        obtain ⟨hP, hD⟩ := hB
        rw [ht9] at hP
        generalize H1 = H at hP hS ⊢
        have hP : va_P (dC, dI) classes (WX h g ca iv lv (u2 (u2 fa 2 2 n2) 20 2 n4995) (u2 (u2 la 20 0 n4996) 20 1 n4997)) H := hP
        have hD : va_D A (WX h g ca iv lv (u2 (u2 fa 2 2 n2) 20 2 n4995) (u2 (u2 la 20 0 n4996) 20 1 n4997)) := (show va_D _ (WX h g ca iv lv (u2 (u2 fa 2 2 n2) 20 2 n4995) (u2 (u2 la 20 0 n4996) 20 1 n4997)) from hD).weaken (fun _ _ _ h => hFc _ h)
        obtain ⟨v4998, ev4998⟩ : ∃ y : Int32, y = x4158_3 + 1 := ⟨_, rfl⟩
        have tv4998 := z_add ev4998 rfl (by decide : (1 : Int32).toInt = 1) (by omega) (by omega)
        refine lv_iinc (v := v4998) (lv' := [(3, .int v4998), (2, .int r1), (0, .ref (g 11 6)), (1, .int a)]) hx hb dX2_fewest_31 hl (k := 0) rfl (by rw [ev4998]; rfl) (by decide) rfl (fun ls hl => ?_)
        refine lv_goto (tgt := 15) hx hb dX2_fewest_34 (by decide) ?_
        exact ih4159 v4998 n4995 n4996 n4997 ⟨by omega, by omega⟩ hn4995 (by omega) _ _ ls hP hD hS (lv_sub hl [0, 1, 2, 3] rfl)
  exact lp4159 13 0 n4 n5 n6 ⟨by decide, by decide⟩ hn4 (by first | decide | omega) _ _ ls hP hD hS (lv_sub hl [0, 1, 2, 3] rfl)
