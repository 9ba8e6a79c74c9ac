/-! ===== jdk ===== -/
set_option maxRecDepth 100000 in
theorem mbJ_3_0 : ∀ w ∈ ([Cond.methodLink RX8 107 yJ0_length_8abf5, Cond.instanceMethod yJ0_length_8abf5, Cond.selects "java/lang/String" yJ0_length_8abf5 yJ0_length_8abf5, Cond.code yJ0_length_8abf5 cJ0_length_8abf5 1 (some .int), Cond.methodLink "java/lang/String" 335 yJ0_coder_7d493, Cond.instanceMethod yJ0_coder_7d493, Cond.selects "java/lang/String" yJ0_coder_7d493 yJ0_coder_7d493, Cond.code yJ0_coder_7d493 cJ0_coder_7d493 1 (some .byte), Cond.methodLink RX8 112 yJ0_charAt_5068e, Cond.instanceMethod yJ0_charAt_5068e, Cond.selects "java/lang/String" yJ0_charAt_5068e yJ0_charAt_5068e, Cond.code yJ0_charAt_5068e cJ0_charAt_5068e 2 (some .char), Cond.methodLink "java/lang/String" 492 yJ0_isLatin1_aae02, Cond.instanceMethod yJ0_isLatin1_aae02, Cond.selects "java/lang/String" yJ0_isLatin1_aae02 yJ0_isLatin1_aae02, Cond.code yJ0_isLatin1_aae02 cJ0_isLatin1_aae02 1 (some .boolean), Cond.methodLink "java/lang/String" 495 yJ1_charAt_3b067, Cond.static yJ1_charAt_3b067, Cond.code yJ1_charAt_3b067 cJ1_charAt_3b067 2 (some .char), Cond.methodLink "java/lang/StringLatin1" 9 yJ0_checkIndex_df160, Cond.static yJ0_checkIndex_df160, Cond.code yJ0_checkIndex_df160 cJ0_checkIndex_df160 2 none, Cond.methodLink "java/lang/String" 1059 yJ3_checkIndex_8e157, Cond.static yJ3_checkIndex_8e157] : List Cond), w ∈ tb := in_pkL tbs_3 [149, 0, 0, 0, 0, 0, 0, 0, 2, 0, 0, 0, 0, 0, 0, 0, 0, 0, 0, 0, 0, 0, 2, 0] rfl (by decide +kernel)
set_option maxRecDepth 100000 in
theorem mbJ_3_1 : ∀ w ∈ ([Cond.code yJ3_checkIndex_8e157 cJ3_checkIndex_8e157 3 (some .int)] : List Cond), w ∈ tb := in_pkL tbs_3 [177] rfl (by decide +kernel)
set_option maxRecDepth 100000 in
theorem mbJ_5_0 : ∀ w ∈ ([Cond.methodLink RX4 31 yJ6_bitCount_0f7a4, Cond.static yJ6_bitCount_0f7a4, Cond.code yJ6_bitCount_0f7a4 cJ6_bitCount_0f7a4 1 (some .int)] : List Cond), w ∈ tb := in_pkL tbs_5 [14, 0, 0] rfl (by decide +kernel)
theorem m_91 : Cond.initialized "java/lang/String" ∈ tb := mb_1_0 _ (List.mem_of_getElem? (i := 14) rfl)
theorem m_92 : Cond.initialized "java/lang/StringLatin1" ∈ tb := mb_1_0 _ (List.mem_of_getElem? (i := 15) rfl)
theorem m_93 : Cond.initialized "jdk/internal/util/Preconditions" ∈ tb := mb_1_0 _ (List.mem_of_getElem? (i := 16) rfl)
theorem m_709 : Cond.methodLink "java/lang/String" 335 yJ0_coder_7d493 ∈ tb := mbJ_3_0 _ (List.mem_of_getElem? (i := 4) rfl)
theorem m_710 : Cond.instanceMethod yJ0_coder_7d493 ∈ tb := mbJ_3_0 _ (List.mem_of_getElem? (i := 5) rfl)
theorem m_711 : Cond.selects "java/lang/String" yJ0_coder_7d493 yJ0_coder_7d493 ∈ tb := mbJ_3_0 _ (List.mem_of_getElem? (i := 6) rfl)
theorem m_712 : Cond.code yJ0_coder_7d493 cJ0_coder_7d493 1 (some .byte) ∈ tb := mbJ_3_0 _ (List.mem_of_getElem? (i := 7) rfl)
theorem m_713 : Cond.fieldLink "java/lang/String" 38 "java/lang/String" "COMPACT_STRINGS" "Z" ∈ tb := mb_3_5 _ (List.mem_of_getElem? (i := 11) rfl)
theorem m_719 : Cond.methodLink "java/lang/String" 492 yJ0_isLatin1_aae02 ∈ tb := mbJ_3_0 _ (List.mem_of_getElem? (i := 12) rfl)
theorem m_720 : Cond.instanceMethod yJ0_isLatin1_aae02 ∈ tb := mbJ_3_0 _ (List.mem_of_getElem? (i := 13) rfl)
theorem m_721 : Cond.selects "java/lang/String" yJ0_isLatin1_aae02 yJ0_isLatin1_aae02 ∈ tb := mbJ_3_0 _ (List.mem_of_getElem? (i := 14) rfl)
theorem m_722 : Cond.code yJ0_isLatin1_aae02 cJ0_isLatin1_aae02 1 (some .boolean) ∈ tb := mbJ_3_0 _ (List.mem_of_getElem? (i := 15) rfl)
theorem m_723 : Cond.methodLink "java/lang/String" 495 yJ1_charAt_3b067 ∈ tb := mbJ_3_0 _ (List.mem_of_getElem? (i := 16) rfl)
theorem m_724 : Cond.static yJ1_charAt_3b067 ∈ tb := mbJ_3_0 _ (List.mem_of_getElem? (i := 17) rfl)
theorem m_725 : Cond.code yJ1_charAt_3b067 cJ1_charAt_3b067 2 (some .char) ∈ tb := mbJ_3_0 _ (List.mem_of_getElem? (i := 18) rfl)
theorem m_726 : Cond.methodLink "java/lang/StringLatin1" 9 yJ0_checkIndex_df160 ∈ tb := mbJ_3_0 _ (List.mem_of_getElem? (i := 19) rfl)
theorem m_727 : Cond.static yJ0_checkIndex_df160 ∈ tb := mbJ_3_0 _ (List.mem_of_getElem? (i := 20) rfl)
theorem m_728 : Cond.code yJ0_checkIndex_df160 cJ0_checkIndex_df160 2 none ∈ tb := mbJ_3_0 _ (List.mem_of_getElem? (i := 21) rfl)
theorem m_729 : Cond.fieldLink "java/lang/String" 1053 "jdk/internal/util/Preconditions" "SIOOBE_FORMATTER" "Ljava/util/function/BiFunction;" ∈ tb := mb_3_5 _ (List.mem_of_getElem? (i := 12) rfl)
theorem m_731 : Cond.methodLink "java/lang/String" 1059 yJ3_checkIndex_8e157 ∈ tb := mbJ_3_0 _ (List.mem_of_getElem? (i := 22) rfl)
theorem m_732 : Cond.static yJ3_checkIndex_8e157 ∈ tb := mbJ_3_0 _ (List.mem_of_getElem? (i := 23) rfl)
theorem m_733 : Cond.code yJ3_checkIndex_8e157 cJ3_checkIndex_8e157 3 (some .int) ∈ tb := mbJ_3_1 _ (List.mem_of_getElem? (i := 0) rfl)
theorem m_1053 : Cond.constant "java/lang/Integer" 265 (1431655765) ∈ tb := mb_5_0 _ (List.mem_of_getElem? (i := 14) rfl)
theorem m_1054 : Cond.constant "java/lang/Integer" 266 (858993459) ∈ tb := mb_5_0 _ (List.mem_of_getElem? (i := 15) rfl)
theorem m_1055 : Cond.constant "java/lang/Integer" 267 (252645135) ∈ tb := mb_5_0 _ (List.mem_of_getElem? (i := 16) rfl)
theorem m_1717 : Cond.fieldLink "java/lang/String" 9 "java/lang/String" "value" "[B" ∈ tb := mb_7_7 _ (List.mem_of_getElem? (i := 14) rfl)
theorem m_1718 : Cond.fieldLink "java/lang/String" 15 "java/lang/String" "coder" "B" ∈ tb := mb_7_7 _ (List.mem_of_getElem? (i := 15) rfl)
theorem hd_J0_checkIndex_df160_i : yJ0_checkIndex_df160.cls ≠ "java/lang/invoke/MethodHandle" ∧ yJ0_checkIndex_df160.cls ≠ "java/lang/invoke/VarHandle" ∧ (parseMethodDescriptor yJ0_checkIndex_df160.desc).map (fun d => d.parameters.length) = some 2 := by decide +kernel
theorem hd_J0_checkIndex_df160_v : yJ0_checkIndex_df160.cls = RJ0 ∧ yJ0_checkIndex_df160.cls ≠ "java/lang/invoke/MethodHandle" ∧ yJ0_checkIndex_df160.cls ≠ "java/lang/invoke/VarHandle" ∧ (parseMethodDescriptor yJ0_checkIndex_df160.desc).map (fun d => d.parameters.length) = some 2 := by decide +kernel
theorem hd_J0_coder_7d493_v : yJ0_coder_7d493.cls = RJ0 ∧ yJ0_coder_7d493.cls ≠ "java/lang/invoke/MethodHandle" ∧ yJ0_coder_7d493.cls ≠ "java/lang/invoke/VarHandle" ∧ (parseMethodDescriptor yJ0_coder_7d493.desc).map (fun d => d.parameters.length) = some 0 := by decide +kernel
theorem hd_J0_isLatin1_aae02_v : yJ0_isLatin1_aae02.cls = RJ0 ∧ yJ0_isLatin1_aae02.cls ≠ "java/lang/invoke/MethodHandle" ∧ yJ0_isLatin1_aae02.cls ≠ "java/lang/invoke/VarHandle" ∧ (parseMethodDescriptor yJ0_isLatin1_aae02.desc).map (fun d => d.parameters.length) = some 0 := by decide +kernel
theorem hd_J1_charAt_3b067_i : yJ1_charAt_3b067.cls ≠ "java/lang/invoke/MethodHandle" ∧ yJ1_charAt_3b067.cls ≠ "java/lang/invoke/VarHandle" ∧ (parseMethodDescriptor yJ1_charAt_3b067.desc).map (fun d => d.parameters.length) = some 2 := by decide +kernel
theorem hd_J1_charAt_3b067_v : yJ1_charAt_3b067.cls = RJ1 ∧ yJ1_charAt_3b067.cls ≠ "java/lang/invoke/MethodHandle" ∧ yJ1_charAt_3b067.cls ≠ "java/lang/invoke/VarHandle" ∧ (parseMethodDescriptor yJ1_charAt_3b067.desc).map (fun d => d.parameters.length) = some 2 := by decide +kernel
theorem hd_J3_checkIndex_8e157_i : yJ3_checkIndex_8e157.cls ≠ "java/lang/invoke/MethodHandle" ∧ yJ3_checkIndex_8e157.cls ≠ "java/lang/invoke/VarHandle" ∧ (parseMethodDescriptor yJ3_checkIndex_8e157.desc).map (fun d => d.parameters.length) = some 3 := by decide +kernel
theorem hd_J3_checkIndex_8e157_v : yJ3_checkIndex_8e157.cls = RJ3 ∧ yJ3_checkIndex_8e157.cls ≠ "java/lang/invoke/MethodHandle" ∧ yJ3_checkIndex_8e157.cls ≠ "java/lang/invoke/VarHandle" ∧ (parseMethodDescriptor yJ3_checkIndex_8e157.desc).map (fun d => d.parameters.length) = some 3 := by decide +kernel
set_option maxRecDepth 100000 in
theorem dvJ0_charAt_5068e_0 : ([(0, .aload_n 0, 1), (1, .invokevirtual 492, 3), (4, .ifCond .eq 12, 3), (7, .aload_n 0, 1), (8, .getfield 9, 3), (11, .iload_n 1, 1), (12, .invokestatic 495, 3), (15, .ireturn, 1)] : List (Nat × Instr × Nat)).all (fun q => decide (decode cJ0_charAt_5068e q.1 = .ok (q.2.1, q.2.2))) = true := by decide +kernel
theorem dJ0_charAt_5068e_0 : decode cJ0_charAt_5068e 0 = .ok (.aload_n 0, 1) := all_at dvJ0_charAt_5068e_0 0 rfl
theorem dJ0_charAt_5068e_1 : decode cJ0_charAt_5068e 1 = .ok (.invokevirtual 492, 3) := all_at dvJ0_charAt_5068e_0 1 rfl
theorem dJ0_charAt_5068e_4 : decode cJ0_charAt_5068e 4 = .ok (.ifCond .eq 12, 3) := all_at dvJ0_charAt_5068e_0 2 rfl
theorem dJ0_charAt_5068e_7 : decode cJ0_charAt_5068e 7 = .ok (.aload_n 0, 1) := all_at dvJ0_charAt_5068e_0 3 rfl
theorem dJ0_charAt_5068e_8 : decode cJ0_charAt_5068e 8 = .ok (.getfield 9, 3) := all_at dvJ0_charAt_5068e_0 4 rfl
theorem dJ0_charAt_5068e_11 : decode cJ0_charAt_5068e 11 = .ok (.iload_n 1, 1) := all_at dvJ0_charAt_5068e_0 5 rfl
theorem dJ0_charAt_5068e_12 : decode cJ0_charAt_5068e 12 = .ok (.invokestatic 495, 3) := all_at dvJ0_charAt_5068e_0 6 rfl
theorem dJ0_charAt_5068e_15 : decode cJ0_charAt_5068e 15 = .ok (.ireturn, 1) := all_at dvJ0_charAt_5068e_0 7 rfl
set_option maxRecDepth 100000 in
theorem dvJ0_checkIndex_df160_0 : ([(0, .iload_n 0, 1), (1, .iload_n 1, 1), (2, .getstatic 1053, 3), (5, .invokestatic 1059, 3), (8, .pop, 1), (9, .return_, 1)] : List (Nat × Instr × Nat)).all (fun q => decide (decode cJ0_checkIndex_df160 q.1 = .ok (q.2.1, q.2.2))) = true := by decide +kernel
theorem dJ0_checkIndex_df160_0 : decode cJ0_checkIndex_df160 0 = .ok (.iload_n 0, 1) := all_at dvJ0_checkIndex_df160_0 0 rfl
theorem dJ0_checkIndex_df160_1 : decode cJ0_checkIndex_df160 1 = .ok (.iload_n 1, 1) := all_at dvJ0_checkIndex_df160_0 1 rfl
theorem dJ0_checkIndex_df160_2 : decode cJ0_checkIndex_df160 2 = .ok (.getstatic 1053, 3) := all_at dvJ0_checkIndex_df160_0 2 rfl
theorem dJ0_checkIndex_df160_5 : decode cJ0_checkIndex_df160 5 = .ok (.invokestatic 1059, 3) := all_at dvJ0_checkIndex_df160_0 3 rfl
theorem dJ0_checkIndex_df160_8 : decode cJ0_checkIndex_df160 8 = .ok (.pop, 1) := all_at dvJ0_checkIndex_df160_0 4 rfl
theorem dJ0_checkIndex_df160_9 : decode cJ0_checkIndex_df160 9 = .ok (.return_, 1) := all_at dvJ0_checkIndex_df160_0 5 rfl
set_option maxRecDepth 100000 in
theorem dvJ0_coder_7d493_0 : ([(0, .getstatic 38, 3), (3, .ifCond .eq 10, 3), (6, .aload_n 0, 1), (7, .getfield 15, 3), (10, .goto 4, 3), (14, .ireturn, 1)] : List (Nat × Instr × Nat)).all (fun q => decide (decode cJ0_coder_7d493 q.1 = .ok (q.2.1, q.2.2))) = true := by decide +kernel
theorem dJ0_coder_7d493_0 : decode cJ0_coder_7d493 0 = .ok (.getstatic 38, 3) := all_at dvJ0_coder_7d493_0 0 rfl
theorem dJ0_coder_7d493_3 : decode cJ0_coder_7d493 3 = .ok (.ifCond .eq 10, 3) := all_at dvJ0_coder_7d493_0 1 rfl
theorem dJ0_coder_7d493_6 : decode cJ0_coder_7d493 6 = .ok (.aload_n 0, 1) := all_at dvJ0_coder_7d493_0 2 rfl
theorem dJ0_coder_7d493_7 : decode cJ0_coder_7d493 7 = .ok (.getfield 15, 3) := all_at dvJ0_coder_7d493_0 3 rfl
theorem dJ0_coder_7d493_10 : decode cJ0_coder_7d493 10 = .ok (.goto 4, 3) := all_at dvJ0_coder_7d493_0 4 rfl
theorem dJ0_coder_7d493_14 : decode cJ0_coder_7d493 14 = .ok (.ireturn, 1) := all_at dvJ0_coder_7d493_0 5 rfl
set_option maxRecDepth 100000 in
theorem dvJ0_isLatin1_aae02_0 : ([(0, .getstatic 38, 3), (3, .ifCond .eq 14, 3), (6, .aload_n 0, 1), (7, .getfield 15, 3), (10, .ifCond .ne 7, 3), (13, .iconst 1, 1), (14, .goto 4, 3), (18, .ireturn, 1)] : List (Nat × Instr × Nat)).all (fun q => decide (decode cJ0_isLatin1_aae02 q.1 = .ok (q.2.1, q.2.2))) = true := by decide +kernel
theorem dJ0_isLatin1_aae02_0 : decode cJ0_isLatin1_aae02 0 = .ok (.getstatic 38, 3) := all_at dvJ0_isLatin1_aae02_0 0 rfl
theorem dJ0_isLatin1_aae02_3 : decode cJ0_isLatin1_aae02 3 = .ok (.ifCond .eq 14, 3) := all_at dvJ0_isLatin1_aae02_0 1 rfl
theorem dJ0_isLatin1_aae02_6 : decode cJ0_isLatin1_aae02 6 = .ok (.aload_n 0, 1) := all_at dvJ0_isLatin1_aae02_0 2 rfl
theorem dJ0_isLatin1_aae02_7 : decode cJ0_isLatin1_aae02 7 = .ok (.getfield 15, 3) := all_at dvJ0_isLatin1_aae02_0 3 rfl
theorem dJ0_isLatin1_aae02_10 : decode cJ0_isLatin1_aae02 10 = .ok (.ifCond .ne 7, 3) := all_at dvJ0_isLatin1_aae02_0 4 rfl
theorem dJ0_isLatin1_aae02_13 : decode cJ0_isLatin1_aae02 13 = .ok (.iconst 1, 1) := all_at dvJ0_isLatin1_aae02_0 5 rfl
theorem dJ0_isLatin1_aae02_14 : decode cJ0_isLatin1_aae02 14 = .ok (.goto 4, 3) := all_at dvJ0_isLatin1_aae02_0 6 rfl
theorem dJ0_isLatin1_aae02_18 : decode cJ0_isLatin1_aae02 18 = .ok (.ireturn, 1) := all_at dvJ0_isLatin1_aae02_0 7 rfl
set_option maxRecDepth 100000 in
theorem dvJ0_length_8abf5_0 : ([(0, .aload_n 0, 1), (1, .getfield 9, 3), (4, .arraylength, 1), (5, .aload_n 0, 1), (6, .invokevirtual 335, 3), (9, .ishr, 1), (10, .ireturn, 1)] : List (Nat × Instr × Nat)).all (fun q => decide (decode cJ0_length_8abf5 q.1 = .ok (q.2.1, q.2.2))) = true := by decide +kernel
theorem dJ0_length_8abf5_0 : decode cJ0_length_8abf5 0 = .ok (.aload_n 0, 1) := all_at dvJ0_length_8abf5_0 0 rfl
theorem dJ0_length_8abf5_1 : decode cJ0_length_8abf5 1 = .ok (.getfield 9, 3) := all_at dvJ0_length_8abf5_0 1 rfl
theorem dJ0_length_8abf5_4 : decode cJ0_length_8abf5 4 = .ok (.arraylength, 1) := all_at dvJ0_length_8abf5_0 2 rfl
theorem dJ0_length_8abf5_5 : decode cJ0_length_8abf5 5 = .ok (.aload_n 0, 1) := all_at dvJ0_length_8abf5_0 3 rfl
theorem dJ0_length_8abf5_6 : decode cJ0_length_8abf5 6 = .ok (.invokevirtual 335, 3) := all_at dvJ0_length_8abf5_0 4 rfl
theorem dJ0_length_8abf5_9 : decode cJ0_length_8abf5 9 = .ok (.ishr, 1) := all_at dvJ0_length_8abf5_0 5 rfl
theorem dJ0_length_8abf5_10 : decode cJ0_length_8abf5 10 = .ok (.ireturn, 1) := all_at dvJ0_length_8abf5_0 6 rfl
set_option maxRecDepth 100000 in
theorem dvJ1_charAt_3b067_0 : ([(0, .iload_n 1, 1), (1, .aload_n 0, 1), (2, .arraylength, 1), (3, .invokestatic 9, 3), (6, .aload_n 0, 1), (7, .iload_n 1, 1), (8, .baload, 1), (9, .sipush 255, 3), (12, .iand, 1), (13, .i2c, 1), (14, .ireturn, 1)] : List (Nat × Instr × Nat)).all (fun q => decide (decode cJ1_charAt_3b067 q.1 = .ok (q.2.1, q.2.2))) = true := by decide +kernel
theorem dJ1_charAt_3b067_0 : decode cJ1_charAt_3b067 0 = .ok (.iload_n 1, 1) := all_at dvJ1_charAt_3b067_0 0 rfl
theorem dJ1_charAt_3b067_1 : decode cJ1_charAt_3b067 1 = .ok (.aload_n 0, 1) := all_at dvJ1_charAt_3b067_0 1 rfl
theorem dJ1_charAt_3b067_2 : decode cJ1_charAt_3b067 2 = .ok (.arraylength, 1) := all_at dvJ1_charAt_3b067_0 2 rfl
theorem dJ1_charAt_3b067_3 : decode cJ1_charAt_3b067 3 = .ok (.invokestatic 9, 3) := all_at dvJ1_charAt_3b067_0 3 rfl
theorem dJ1_charAt_3b067_6 : decode cJ1_charAt_3b067 6 = .ok (.aload_n 0, 1) := all_at dvJ1_charAt_3b067_0 4 rfl
theorem dJ1_charAt_3b067_7 : decode cJ1_charAt_3b067 7 = .ok (.iload_n 1, 1) := all_at dvJ1_charAt_3b067_0 5 rfl
theorem dJ1_charAt_3b067_8 : decode cJ1_charAt_3b067 8 = .ok (.baload, 1) := all_at dvJ1_charAt_3b067_0 6 rfl
theorem dJ1_charAt_3b067_9 : decode cJ1_charAt_3b067 9 = .ok (.sipush 255, 3) := all_at dvJ1_charAt_3b067_0 7 rfl
theorem dJ1_charAt_3b067_12 : decode cJ1_charAt_3b067 12 = .ok (.iand, 1) := all_at dvJ1_charAt_3b067_0 8 rfl
theorem dJ1_charAt_3b067_13 : decode cJ1_charAt_3b067 13 = .ok (.i2c, 1) := all_at dvJ1_charAt_3b067_0 9 rfl
theorem dJ1_charAt_3b067_14 : decode cJ1_charAt_3b067 14 = .ok (.ireturn, 1) := all_at dvJ1_charAt_3b067_0 10 rfl
set_option maxRecDepth 100000 in
theorem dvJ3_checkIndex_8e157_0 : ([(0, .iload_n 0, 1), (1, .ifCond .lt 8, 3), (4, .iload_n 0, 1), (5, .iload_n 1, 1), (6, .if_icmp .lt 10, 3), (16, .iload_n 0, 1), (17, .ireturn, 1)] : List (Nat × Instr × Nat)).all (fun q => decide (decode cJ3_checkIndex_8e157 q.1 = .ok (q.2.1, q.2.2))) = true := by decide +kernel
theorem dJ3_checkIndex_8e157_0 : decode cJ3_checkIndex_8e157 0 = .ok (.iload_n 0, 1) := all_at dvJ3_checkIndex_8e157_0 0 rfl
theorem dJ3_checkIndex_8e157_1 : decode cJ3_checkIndex_8e157 1 = .ok (.ifCond .lt 8, 3) := all_at dvJ3_checkIndex_8e157_0 1 rfl
theorem dJ3_checkIndex_8e157_4 : decode cJ3_checkIndex_8e157 4 = .ok (.iload_n 0, 1) := all_at dvJ3_checkIndex_8e157_0 2 rfl
theorem dJ3_checkIndex_8e157_5 : decode cJ3_checkIndex_8e157 5 = .ok (.iload_n 1, 1) := all_at dvJ3_checkIndex_8e157_0 3 rfl
theorem dJ3_checkIndex_8e157_6 : decode cJ3_checkIndex_8e157 6 = .ok (.if_icmp .lt 10, 3) := all_at dvJ3_checkIndex_8e157_0 4 rfl
theorem dJ3_checkIndex_8e157_16 : decode cJ3_checkIndex_8e157 16 = .ok (.iload_n 0, 1) := all_at dvJ3_checkIndex_8e157_0 5 rfl
theorem dJ3_checkIndex_8e157_17 : decode cJ3_checkIndex_8e157 17 = .ok (.ireturn, 1) := all_at dvJ3_checkIndex_8e157_0 6 rfl
set_option maxRecDepth 100000 in
theorem dvJ6_bitCount_0f7a4_0 : ([(0, .iload_n 0, 1), (1, .iload_n 0, 1), (2, .iconst 1, 1), (3, .iushr, 1), (4, .ldc_w 265, 3), (7, .iand, 1), (8, .isub, 1), (9, .istore_n 0, 1), (10, .iload_n 0, 1), (11, .ldc_w 266, 3), (14, .iand, 1), (15, .iload_n 0, 1), (16, .iconst 2, 1), (17, .iushr, 1), (18, .ldc_w 266, 3), (21, .iand, 1), (22, .iadd, 1), (23, .istore_n 0, 1), (24, .iload_n 0, 1), (25, .iload_n 0, 1), (26, .iconst 4, 1), (27, .iushr, 1), (28, .iadd, 1), (29, .ldc_w 267, 3)] : List (Nat × Instr × Nat)).all (fun q => decide (decode cJ6_bitCount_0f7a4 q.1 = .ok (q.2.1, q.2.2))) = true := by decide +kernel
theorem dJ6_bitCount_0f7a4_0 : decode cJ6_bitCount_0f7a4 0 = .ok (.iload_n 0, 1) := all_at dvJ6_bitCount_0f7a4_0 0 rfl
theorem dJ6_bitCount_0f7a4_1 : decode cJ6_bitCount_0f7a4 1 = .ok (.iload_n 0, 1) := all_at dvJ6_bitCount_0f7a4_0 1 rfl
theorem dJ6_bitCount_0f7a4_2 : decode cJ6_bitCount_0f7a4 2 = .ok (.iconst 1, 1) := all_at dvJ6_bitCount_0f7a4_0 2 rfl
theorem dJ6_bitCount_0f7a4_3 : decode cJ6_bitCount_0f7a4 3 = .ok (.iushr, 1) := all_at dvJ6_bitCount_0f7a4_0 3 rfl
theorem dJ6_bitCount_0f7a4_4 : decode cJ6_bitCount_0f7a4 4 = .ok (.ldc_w 265, 3) := all_at dvJ6_bitCount_0f7a4_0 4 rfl
theorem dJ6_bitCount_0f7a4_7 : decode cJ6_bitCount_0f7a4 7 = .ok (.iand, 1) := all_at dvJ6_bitCount_0f7a4_0 5 rfl
theorem dJ6_bitCount_0f7a4_8 : decode cJ6_bitCount_0f7a4 8 = .ok (.isub, 1) := all_at dvJ6_bitCount_0f7a4_0 6 rfl
theorem dJ6_bitCount_0f7a4_9 : decode cJ6_bitCount_0f7a4 9 = .ok (.istore_n 0, 1) := all_at dvJ6_bitCount_0f7a4_0 7 rfl
theorem dJ6_bitCount_0f7a4_10 : decode cJ6_bitCount_0f7a4 10 = .ok (.iload_n 0, 1) := all_at dvJ6_bitCount_0f7a4_0 8 rfl
theorem dJ6_bitCount_0f7a4_11 : decode cJ6_bitCount_0f7a4 11 = .ok (.ldc_w 266, 3) := all_at dvJ6_bitCount_0f7a4_0 9 rfl
theorem dJ6_bitCount_0f7a4_14 : decode cJ6_bitCount_0f7a4 14 = .ok (.iand, 1) := all_at dvJ6_bitCount_0f7a4_0 10 rfl
theorem dJ6_bitCount_0f7a4_15 : decode cJ6_bitCount_0f7a4 15 = .ok (.iload_n 0, 1) := all_at dvJ6_bitCount_0f7a4_0 11 rfl
theorem dJ6_bitCount_0f7a4_16 : decode cJ6_bitCount_0f7a4 16 = .ok (.iconst 2, 1) := all_at dvJ6_bitCount_0f7a4_0 12 rfl
theorem dJ6_bitCount_0f7a4_17 : decode cJ6_bitCount_0f7a4 17 = .ok (.iushr, 1) := all_at dvJ6_bitCount_0f7a4_0 13 rfl
theorem dJ6_bitCount_0f7a4_18 : decode cJ6_bitCount_0f7a4 18 = .ok (.ldc_w 266, 3) := all_at dvJ6_bitCount_0f7a4_0 14 rfl
theorem dJ6_bitCount_0f7a4_21 : decode cJ6_bitCount_0f7a4 21 = .ok (.iand, 1) := all_at dvJ6_bitCount_0f7a4_0 15 rfl
theorem dJ6_bitCount_0f7a4_22 : decode cJ6_bitCount_0f7a4 22 = .ok (.iadd, 1) := all_at dvJ6_bitCount_0f7a4_0 16 rfl
theorem dJ6_bitCount_0f7a4_23 : decode cJ6_bitCount_0f7a4 23 = .ok (.istore_n 0, 1) := all_at dvJ6_bitCount_0f7a4_0 17 rfl
theorem dJ6_bitCount_0f7a4_24 : decode cJ6_bitCount_0f7a4 24 = .ok (.iload_n 0, 1) := all_at dvJ6_bitCount_0f7a4_0 18 rfl
theorem dJ6_bitCount_0f7a4_25 : decode cJ6_bitCount_0f7a4 25 = .ok (.iload_n 0, 1) := all_at dvJ6_bitCount_0f7a4_0 19 rfl
theorem dJ6_bitCount_0f7a4_26 : decode cJ6_bitCount_0f7a4 26 = .ok (.iconst 4, 1) := all_at dvJ6_bitCount_0f7a4_0 20 rfl
theorem dJ6_bitCount_0f7a4_27 : decode cJ6_bitCount_0f7a4 27 = .ok (.iushr, 1) := all_at dvJ6_bitCount_0f7a4_0 21 rfl
theorem dJ6_bitCount_0f7a4_28 : decode cJ6_bitCount_0f7a4 28 = .ok (.iadd, 1) := all_at dvJ6_bitCount_0f7a4_0 22 rfl
theorem dJ6_bitCount_0f7a4_29 : decode cJ6_bitCount_0f7a4 29 = .ok (.ldc_w 267, 3) := all_at dvJ6_bitCount_0f7a4_0 23 rfl
set_option maxRecDepth 100000 in
theorem dvJ6_bitCount_0f7a4_32 : ([(32, .iand, 1), (33, .istore_n 0, 1), (34, .iload_n 0, 1), (35, .iload_n 0, 1), (36, .bipush 8, 2), (38, .iushr, 1), (39, .iadd, 1), (40, .istore_n 0, 1), (41, .iload_n 0, 1), (42, .iload_n 0, 1), (43, .bipush 16, 2), (45, .iushr, 1), (46, .iadd, 1), (47, .istore_n 0, 1), (48, .iload_n 0, 1), (49, .bipush 63, 2), (51, .iand, 1), (52, .ireturn, 1)] : List (Nat × Instr × Nat)).all (fun q => decide (decode cJ6_bitCount_0f7a4 q.1 = .ok (q.2.1, q.2.2))) = true := by decide +kernel
theorem dJ6_bitCount_0f7a4_32 : decode cJ6_bitCount_0f7a4 32 = .ok (.iand, 1) := all_at dvJ6_bitCount_0f7a4_32 0 rfl
theorem dJ6_bitCount_0f7a4_33 : decode cJ6_bitCount_0f7a4 33 = .ok (.istore_n 0, 1) := all_at dvJ6_bitCount_0f7a4_32 1 rfl
theorem dJ6_bitCount_0f7a4_34 : decode cJ6_bitCount_0f7a4 34 = .ok (.iload_n 0, 1) := all_at dvJ6_bitCount_0f7a4_32 2 rfl
theorem dJ6_bitCount_0f7a4_35 : decode cJ6_bitCount_0f7a4 35 = .ok (.iload_n 0, 1) := all_at dvJ6_bitCount_0f7a4_32 3 rfl
theorem dJ6_bitCount_0f7a4_36 : decode cJ6_bitCount_0f7a4 36 = .ok (.bipush 8, 2) := all_at dvJ6_bitCount_0f7a4_32 4 rfl
theorem dJ6_bitCount_0f7a4_38 : decode cJ6_bitCount_0f7a4 38 = .ok (.iushr, 1) := all_at dvJ6_bitCount_0f7a4_32 5 rfl
theorem dJ6_bitCount_0f7a4_39 : decode cJ6_bitCount_0f7a4 39 = .ok (.iadd, 1) := all_at dvJ6_bitCount_0f7a4_32 6 rfl
theorem dJ6_bitCount_0f7a4_40 : decode cJ6_bitCount_0f7a4 40 = .ok (.istore_n 0, 1) := all_at dvJ6_bitCount_0f7a4_32 7 rfl
theorem dJ6_bitCount_0f7a4_41 : decode cJ6_bitCount_0f7a4 41 = .ok (.iload_n 0, 1) := all_at dvJ6_bitCount_0f7a4_32 8 rfl
theorem dJ6_bitCount_0f7a4_42 : decode cJ6_bitCount_0f7a4 42 = .ok (.iload_n 0, 1) := all_at dvJ6_bitCount_0f7a4_32 9 rfl
theorem dJ6_bitCount_0f7a4_43 : decode cJ6_bitCount_0f7a4 43 = .ok (.bipush 16, 2) := all_at dvJ6_bitCount_0f7a4_32 10 rfl
theorem dJ6_bitCount_0f7a4_45 : decode cJ6_bitCount_0f7a4 45 = .ok (.iushr, 1) := all_at dvJ6_bitCount_0f7a4_32 11 rfl
theorem dJ6_bitCount_0f7a4_46 : decode cJ6_bitCount_0f7a4 46 = .ok (.iadd, 1) := all_at dvJ6_bitCount_0f7a4_32 12 rfl
theorem dJ6_bitCount_0f7a4_47 : decode cJ6_bitCount_0f7a4 47 = .ok (.istore_n 0, 1) := all_at dvJ6_bitCount_0f7a4_32 13 rfl
theorem dJ6_bitCount_0f7a4_48 : decode cJ6_bitCount_0f7a4 48 = .ok (.iload_n 0, 1) := all_at dvJ6_bitCount_0f7a4_32 14 rfl
theorem dJ6_bitCount_0f7a4_49 : decode cJ6_bitCount_0f7a4 49 = .ok (.bipush 63, 2) := all_at dvJ6_bitCount_0f7a4_32 15 rfl
theorem dJ6_bitCount_0f7a4_51 : decode cJ6_bitCount_0f7a4 51 = .ok (.iand, 1) := all_at dvJ6_bitCount_0f7a4_32 16 rfl
theorem dJ6_bitCount_0f7a4_52 : decode cJ6_bitCount_0f7a4 52 = .ok (.ireturn, 1) := all_at dvJ6_bitCount_0f7a4_32 17 rfl
def C_AF (j : Nat) : Int32 := ([110, 3, 5, 2, 10, 0] : List Int32).getD j 0
def C_LN (j : Nat) : Int32 := ([0, 1, 0, 1, 0] : List Int32).getD j 0
def C_MN (j : Nat) : Int32 := ([300, 9, 200, 2, 999] : List Int32).getD j 0
def S_len : List Nat := [21, 28, 18, 3]
def S_byt : List (List Int32) := [[108, 101, 116, 32, 116, 97, 107, 101, 32, 110, 97, 109, 101, 32, 115, 116, 114, 105, 107, 101, 32], [119, 97, 116, 101, 114, 32, 115, 107, 101, 105, 110, 115, 32, 112, 97, 114, 116, 32, 108, 111, 111, 107, 115, 32, 102, 101, 101, 32], [109, 101, 97, 110, 32, 108, 101, 97, 115, 116, 32, 109, 105, 100, 100, 108, 101, 32], [116, 111, 32]]
def zH (ak av : Nat → Nat) (A : Nat → Prop) (U : State) (H : Heap) : Prop := (∃ t : Nat, va_Z "SilkHouse$Book" "AT_FIRST" "[I" (.ref t) A U H ∧ va_T .int t 6 (fun j => .int (C_AF j)) A U H) ∧ (∃ t : Nat, va_Z "SilkHouse$Reader" "LEAST_OF_NAME" "[I" (.ref t) A U H ∧ va_T .int t 5 (fun j => .int (C_LN j)) A U H) ∧ (∃ t : Nat, va_Z "SilkHouse$Reader" "MOST_OF_NAME" "[I" (.ref t) A U H ∧ va_T .int t 5 (fun j => .int (C_MN j)) A U H) ∧ va_Z "java/lang/String" "COMPACT_STRINGS" "Z" (.int 1) A U H ∧ va_Zq "jdk/internal/util/Preconditions" "SIOOBE_FORMATTER" "Ljava/util/function/BiFunction;" A U H ∧ vk_S 4 S_len S_byt ak av A U H
def zV (ak : Nat → Nat) (U : State) : Prop := vk_R "SilkHouse$Reader" 44 "let take name strike " (ak 0) U ∧ vk_R "SilkHouse$Reader" 69 "water skeins part looks fee " (ak 1) U ∧ vk_R "SilkHouse$Reader" 89 "mean least middle " (ak 2) U ∧ vk_R "SilkHouse$Reader" 94 "to " (ak 3) U ∧ va_Nw (.methodLinkNest "SilkHouse$Reader" 120 yX11_within "SilkHouse") U ∧ va_Nw (.methodLinkNest "SilkHouse$Doubts" 92 yX11_within "SilkHouse") U
def zC (ak av : Nat → Nat) (A : Nat → Prop) (U : State) (H : Heap) : Prop := zH ak av A U H ∧ zV ak U
theorem zC.kept {ak av : Nat → Nat} {A : Nat → Prop} {U : State} {H H1 : Heap} (h : zC ak av A U H) (hq : ∀ a : Nat, a < H.size → ¬ A a → H1[a]? = H[a]?) : zC ak av A U H1 := by
  obtain ⟨⟨⟨t1, a1, b1⟩, ⟨t2, a2, b2⟩, ⟨t3, a3, b3⟩, h4, h5, h6⟩, hv⟩ := h
  exact ⟨⟨⟨t1, a1.kept hq, b1.kept hq⟩, ⟨t2, a2.kept hq, b2.kept hq⟩, ⟨t3, a3.kept hq, b3.kept hq⟩, h4.kept hq, h5.kept hq, h6.kept hq⟩, hv⟩
theorem zC.narrow {ak av : Nat → Nat} {A : Nat → Prop} {B : Nat → Prop} {U : State} {H : Heap} (h : zC ak av A U H) (hq : ∀ a : Nat, B a → A a) : zC ak av B U H := by
  obtain ⟨⟨⟨t1, a1, b1⟩, ⟨t2, a2, b2⟩, ⟨t3, a3, b3⟩, h4, h5, h6⟩, hv⟩ := h
  exact ⟨⟨⟨t1, a1.narrow hq, b1.narrow hq⟩, ⟨t2, a2.narrow hq, b2.narrow hq⟩, ⟨t3, a3.narrow hq, b3.narrow hq⟩, h4.narrow hq, h5.narrow hq, h6.narrow hq⟩, hv⟩
theorem zH.moved {ak av : Nat → Nat} {A : Nat → Prop} {u U : State} {H : Heap} (hvm : u.vm.Alike U.vm) (h : zH ak av A u H) : zH ak av A U H := by
  obtain ⟨⟨t1, a1, b1⟩, ⟨t2, a2, b2⟩, ⟨t3, a3, b3⟩, h4, h5, h6⟩ := h
  exact ⟨⟨t1, va_Z.moved hvm a1, va_T.moved hvm b1⟩, ⟨t2, va_Z.moved hvm a2, va_T.moved hvm b2⟩, ⟨t3, va_Z.moved hvm a3, va_T.moved hvm b3⟩, va_Z.moved hvm h4, va_Zq.moved hvm h5, vk_S.moved hvm h6⟩
theorem zC.call {ak av : Nat → Nat} {A : Nat → Prop} {u U : State} {H : Heap} (hv : U.vm = u.vm) (h : zC ak av A u H) : zC ak av A U H :=
  ⟨zH.moved (by rw [hv]; exact Vm.Alike.refl u.vm) h.1, h.2.1.same hv, h.2.2.1.same hv, h.2.2.2.1.same hv, h.2.2.2.2.1.same hv, va_Nw.same rfl hv.symm h.2.2.2.2.2.1, va_Nw.same rfl hv.symm h.2.2.2.2.2.2⟩
theorem zC.warm {ak av : Nat → Nat} {A : Nat → Prop} {s U : State} {H : Heap} (hW : s.WarmedH U.vm) (h : zC ak av A s H) : zC ak av A U H :=
  ⟨zH.moved hW.alike h.1, h.2.1.warm hW, h.2.2.1.warm hW, h.2.2.2.1.warm hW, h.2.2.2.2.1.warm hW, va_Nw.warmM hW h.2.2.2.2.2.1, va_Nw.warmM hW h.2.2.2.2.2.2⟩
def pRZ (ak av : Nat → Nat) (D : va_G) (cl : List vw_C) (ws : va_W) (tys : List (ClassId × FieldType)) (a : List Value) : Array Value → State → Prop := va_Pc a (fun U => va_P D cl ws U.heap ∧ va_K D cl tys U ∧ zC ak av (fun _ => False) U U.heap)
def pWZ (ak av : Nat → Nat) (D : va_G) (cl : List vw_C) (ws : va_W) (tys : List (ClassId × FieldType)) (sz : Nat) (a : List Value) : Array Value → State → Prop := va_Pc a (fun U => U.heap.size = sz ∧ va_P D cl ws U.heap ∧ va_K D cl tys U ∧ va_D (fun _ => True) ws ∧ zC ak av (va_A ws sz) U U.heap)
theorem pRZ_fb {ak av : Nat → Nat} {D : va_G} {cl : List vw_C} {ws : va_W} {tys : List (ClassId × FieldType)} {a : List Value} : FrameBlind (pRZ ak av D cl ws tys a) := fun b U g mk q => ⟨q.1, q.2.1, va_K.moved (u := U) (U := U.calling g mk b) (Vm.Alike.refl U.vm) q.2.2.1, zC.call (u := U) (U := U.calling g mk b) rfl q.2.2.2⟩
theorem pWZ_fb {ak av : Nat → Nat} {D : va_G} {cl : List vw_C} {ws : va_W} {tys : List (ClassId × FieldType)} {sz : Nat} {a : List Value} : FrameBlind (pWZ ak av D cl ws tys sz a) := fun b U g mk q => ⟨q.1, q.2.1, q.2.2.1, va_K.moved (u := U) (U := U.calling g mk b) (Vm.Alike.refl U.vm) q.2.2.2.1, q.2.2.2.2.1, zC.call (u := U) (U := U.calling g mk b) rfl q.2.2.2.2.2⟩
theorem vRZ {ak av : Nat → Nat} {D : va_G} {cl : List vw_C} {ws : va_W} {tys : List (ClassId × FieldType)} {s : State} {H : Heap} {C : String} {b : Addr} {As : List Value} (hP : va_P D cl ws H) (hK : va_K D cl tys s) (hZ : zC ak av (fun _ => False) s H) (hr : ∃ cell : Cell, H[b]? = some cell ∧ cell.vm.isStatics = false ∧ s.vm.findClass C = some cell.cls) : PreV s H C b (pRZ ak av D cl ws tys (.ref b :: As)) As := ⟨pRZ_fb, hr, fun U hU hW => ⟨rfl, by rw [hU]; exact hP, va_K.moved hW.alike hK, by rw [hU]; exact hZ.warm hW⟩⟩
theorem sRZ {ak av : Nat → Nat} {D : va_G} {cl : List vw_C} {ws : va_W} {tys : List (ClassId × FieldType)} {s : State} {H : Heap} {As : List Value} (hP : va_P D cl ws H) (hK : va_K D cl tys s) (hZ : zC ak av (fun _ => False) s H) : PreS s H (pRZ ak av D cl ws tys As) As := ⟨pRZ_fb, fun U hU hW => ⟨rfl, by rw [hU]; exact hP, va_K.moved hW.alike hK, by rw [hU]; exact hZ.warm hW⟩⟩
theorem vWZ {ak av : Nat → Nat} {D : va_G} {cl : List vw_C} {ws : va_W} {tys : List (ClassId × FieldType)} {A : Nat → Prop} {s : State} {H : Heap} {C : String} {b : Addr} {As : List Value} (hP : va_P D cl ws H) (hK : va_K D cl tys s) (hD : va_D A ws) (hZ : zC ak av (va_A ws H.size) s H) (hr : ∃ cell : Cell, H[b]? = some cell ∧ cell.vm.isStatics = false ∧ s.vm.findClass C = some cell.cls) : PreV s H C b (pWZ ak av D cl ws tys H.size (.ref b :: As)) As := ⟨pWZ_fb, hr, fun U hU hW => ⟨rfl, by rw [hU], by rw [hU]; exact hP, va_K.moved hW.alike hK, hD.weaken (fun _ _ _ _ => trivial), by rw [hU]; exact hZ.warm hW⟩⟩
theorem run_of {p : Program} {l : Launch} {e : Env} {R : Room} {s : State} {m : MethodId} {args : Array Value} {below : List Frame} {meth : Method} {c : Code} {H : Heap} {locs : List Loc} {cells slots mc ms : Nat} {g : JFrame} {rest : List Value} {Qa : State → Outcome → State → Prop} {free : Addr → Prop} (h : va_Run p l e R s m args below meth c H locs cells slots mc ms g rest Qa free) : CallRun p l e R s m args below meth c H locs cells slots mc ms g rest Qa free := fun T hT X => by
  obtain ⟨v, st₀, t, T', L, h0, X', hL, e1, e2, hq, st⟩ := h T hT X
  exact ⟨v, st₀, t, T', L, h0, X', hL, e1, hq, st⟩
theorem kS2 {R : Room} {s : State} {args : Array Value} {own : String} {index maxL mc ms : Nat} {y : MethodName} {bytes : ByteArray} {ret : Option FieldType} {rm : Room} (n : Nat) (ht : ∀ w ∈ tb, w.before args s = true) (h1 : Cond.methodLink own index y ∈ tb) (h2 : Cond.static y ∈ tb) (h4 : Cond.initialized y.cls ∈ tb) (hc : Cond.code y bytes maxL ret ∈ tb) (hrc : rm.cells = mc) (hrs : rm.slots = ms)
    (hd : y.cls ≠ "java/lang/invoke/MethodHandle" ∧ y.cls ≠ "java/lang/invoke/VarHandle" ∧ (parseMethodDescriptor y.desc).map (fun d => d.parameters.length) = some n) (hR : rm.frames + 1 ≤ R.frames ∧ 8 + (maxL + 11) + rm.locals ≤ R.locals) :
    CallB R s args own index y bytes maxL ret (wc y bytes maxL ret) rm mc ms n ∧ (Cond.static y).before args s = true :=
  va_cwS n ht (fun w hw => (List.mem_append.mp hw).elim (fun h => by
    simp only [List.mem_cons, List.not_mem_nil, or_false] at h
    rcases h with rfl | rfl | rfl
    · exact tb_self _ h1
    · exact tb_self _ h2
    · exact tb_self _ h4) (tb_wc hc w)) rfl hrc hrs hd hR
theorem nar_char {x v : Int32} (h : (x.toUInt32 % 65536).toInt32 = v) : narrow .char (.int v) = .int v := by
  subst h
  have h1 : ((x.toUInt32 % 65536).toInt32).toUInt32 = x.toUInt32 % 65536 := by simp
  have h2 : (x.toUInt32 % 65536) % 65536 = x.toUInt32 % 65536 := by
    apply UInt32.toNat_inj.mp
    simp
  show Value.int ((((x.toUInt32 % 65536).toInt32).toUInt32 % 65536).toInt32) = _
  rw [h1, h2]
theorem char_row : ∀ i : Nat, i < 4 → ∀ k : Nat, k < S_len.getD i 0 → ((((S_byt.getD i []).getD k 0) &&& 255).toUInt32 % 65536).toInt32 = (S_byt.getD i []).getD k 0 := by decide +kernel

theorem z_nz {a : Int32} {x : Int} (ha : a.toInt = x) (h : x ≠ 0) : ¬ a = 0 := fun q => h (by rw [← ha, q]; rfl)
theorem mul_b {x y a1 b1 a2 b2 : Int} (h1 : a1 ≤ x) (h2 : x ≤ b1) (h3 : a2 ≤ y) (h4 : y ≤ b2) (ha : 0 ≤ a1) (hb : 0 ≤ a2) : a1 * a2 ≤ x * y ∧ x * y ≤ b1 * b2 :=
  ⟨Int.mul_le_mul h1 h3 hb (Int.le_trans ha h1), Int.mul_le_mul h2 h4 (Int.le_trans hb h3) (Int.le_trans (Int.le_trans ha h1) h2)⟩
theorem z_mulb {a b c : Int32} {x y a1 b1 a2 b2 : Int} (h : c = a * b) (ha : a.toInt = x) (hb : b.toInt = y) (h1 : a1 ≤ x) (h2 : x ≤ b1) (h3 : a2 ≤ y) (h4 : y ≤ b2) (k1 : 0 ≤ a1) (k2 : 0 ≤ a2) (k3 : b1 * b2 < 2147483648) : a1 * a2 ≤ c.toInt ∧ c.toInt ≤ b1 * b2 := by
  have q := mul_b h1 h2 h3 h4 k1 k2
  have q0 : 0 ≤ a1 * a2 := Int.mul_nonneg k1 k2
  rw [z_mul h ha hb (by omega) (by omega)]; exact q
theorem l_mulb {a b c : Int64} {x y a1 b1 a2 b2 : Int} (h : c = a * b) (ha : a.toInt = x) (hb : b.toInt = y) (h1 : a1 ≤ x) (h2 : x ≤ b1) (h3 : a2 ≤ y) (h4 : y ≤ b2) (k1 : 0 ≤ a1) (k2 : 0 ≤ a2) (k3 : b1 * b2 < 9223372036854775808) : a1 * a2 ≤ c.toInt ∧ c.toInt ≤ b1 * b2 := by
  have q := mul_b h1 h2 h3 h4 k1 k2
  have q0 : 0 ≤ a1 * a2 := Int.mul_nonneg k1 k2
  have e : c.toInt = x * y := by
    rw [h, Int64.toInt_mul, ha, hb, Int.bmod_def]; omega
  rw [e]; exact q
theorem l_mulnz {a b c : Int64} (h : c = a * b) (h1 : a.toInt ≠ 0) (h2 : b.toInt ≠ 0) (h3 : a.toInt.natAbs ≤ 1000000000000) (h4 : b.toInt.natAbs ≤ 1000) : c.toInt ≠ 0 := by
  have q : (a.toInt * b.toInt).natAbs = a.toInt.natAbs * b.toInt.natAbs := Int.natAbs_mul ..
  have q2 : a.toInt.natAbs * b.toInt.natAbs ≤ 1000000000000 * 1000 := Nat.mul_le_mul h3 h4
  have q3 : 0 < a.toInt.natAbs * b.toInt.natAbs := Nat.mul_pos (by omega) (by omega)
  have e : c.toInt = a.toInt * b.toInt := by
    rw [h, Int64.toInt_mul, Int.bmod_def]; omega
  rw [e]; omega
theorem z_divb {a b c : Int32} {x y : Int} (h : c = a / b) (ha : a.toInt = x) (hb : b.toInt = y) (h0 : 0 ≤ x) (h1 : 0 < y) : 0 ≤ c.toInt ∧ c.toInt ≤ x := by
  have q := z_divp h ha hb h0 h1
  have q0 : 0 ≤ x / y := Int.ediv_nonneg h0 (Int.le_of_lt h1)
  have q1 : x / y ≤ x := Int.ediv_le_self y h0
  omega
theorem z_remb {a b c : Int32} {x y : Int} (h : c = a - a / b * b) (ha : a.toInt = x) (hb : b.toInt = y) (h0 : 0 ≤ x) (h1 : 0 < y) : 0 ≤ c.toInt ∧ c.toInt < y := by
  have q := z_remp h ha hb h0 h1
  have q0 : 0 ≤ x % y := Int.emod_nonneg x (by omega)
  have q1 : x % y < y := Int.emod_lt_of_pos x h1
  omega
theorem shl1c {n c : Int32} (h : c = 1 <<< (n &&& 31)) (hn : 0 ≤ n.toInt ∧ n.toInt ≤ 12) : 1 ≤ c.toInt ∧ c.toInt ≤ 4096 := by
  rcases (by omega : n.toInt = 0 ∨ n.toInt = 1 ∨ n.toInt = 2 ∨ n.toInt = 3 ∨ n.toInt = 4 ∨ n.toInt = 5 ∨ n.toInt = 6 ∨ n.toInt = 7 ∨ n.toInt = 8 ∨ n.toInt = 9 ∨ n.toInt = 10 ∨ n.toInt = 11 ∨ n.toInt = 12) with q | q | q | q | q | q | q | q | q | q | q | q | q
  · rw [h, show n = 0 from z_of (by decide) q]; decide
  · rw [h, show n = 1 from z_of (by decide) q]; decide
  · rw [h, show n = 2 from z_of (by decide) q]; decide
  · rw [h, show n = 3 from z_of (by decide) q]; decide
  · rw [h, show n = 4 from z_of (by decide) q]; decide
  · rw [h, show n = 5 from z_of (by decide) q]; decide
  · rw [h, show n = 6 from z_of (by decide) q]; decide
  · rw [h, show n = 7 from z_of (by decide) q]; decide
  · rw [h, show n = 8 from z_of (by decide) q]; decide
  · rw [h, show n = 9 from z_of (by decide) q]; decide
  · rw [h, show n = 10 from z_of (by decide) q]; decide
  · rw [h, show n = 11 from z_of (by decide) q]; decide
  · rw [h, show n = 12 from z_of (by decide) q]; decide
theorem l_add {a b c : Int64} {x y : Int} (h : c = a + b) (ha : a.toInt = x) (hb : b.toInt = y) (h1 : -9223372036854775808 ≤ x + y) (h2 : x + y < 9223372036854775808) : c.toInt = x + y := by
  rw [h, Int64.toInt_add, ha, hb, Int.bmod_def]; omega
theorem l_sub {a b c : Int64} {x y : Int} (h : c = a - b) (ha : a.toInt = x) (hb : b.toInt = y) (h1 : -9223372036854775808 ≤ x - y) (h2 : x - y < 9223372036854775808) : c.toInt = x - y := by
  rw [h, Int64.toInt_sub, ha, hb, Int.bmod_def]; omega
theorem l_mul {a b c : Int64} {x y : Int} (h : c = a * b) (ha : a.toInt = x) (hb : b.toInt = y) (h1 : -9223372036854775808 ≤ x * y) (h2 : x * y < 9223372036854775808) : c.toInt = x * y := by
  rw [h, Int64.toInt_mul, ha, hb, Int.bmod_def]; omega
theorem l_nz {a : Int64} {x : Int} (ha : a.toInt = x) (h : x ≠ 0) : ¬ a = 0 := fun q => h (by rw [← ha, q]; rfl)
theorem tdiv_abs {x y : Int} (hy : y ≠ 0) : (x.tdiv y).natAbs ≤ x.natAbs := by rw [Int.natAbs_tdiv]; exact Nat.div_le_self _ _
/-- a whole part: no larger than what is divided; not 0 where the divisor is no larger -/
theorem tdiv_in {x y : Int} (h1 : -9223372036854775808 ≤ x) (h2 : x < 9223372036854775808) (hy : y ≠ 0) (hm : ¬ (x = -9223372036854775808 ∧ y = -1)) : -9223372036854775808 ≤ x.tdiv y ∧ x.tdiv y < 9223372036854775808 := by
  have q : (x.tdiv y).natAbs = x.natAbs / y.natAbs := Int.natAbs_tdiv ..
  by_cases e1 : y = 1
  · rw [e1, Int.tdiv_one]; exact ⟨h1, h2⟩
  · by_cases e2 : y = -1
    · have : x.tdiv y = -x := by rw [e2, Int.tdiv_neg, Int.tdiv_one]
      omega
    · have q2 : x.natAbs / y.natAbs ≤ x.natAbs / 2 := Nat.div_le_div_left (by omega) (by decide)
      omega
/-- a whole part: no larger than what is divided; not 0 where the divisor is no larger -/
theorem l_div {a b c : Int64} {x y : Int} (h : c = a / b) (ha : a.toInt = x) (hb : b.toInt = y) (hy : y ≠ 0) : c.toInt.natAbs ≤ x.natAbs ∧ (x ≠ 0 → y.natAbs ≤ x.natAbs → c.toInt ≠ 0) := by
  have h1 := Int64.toInt_lt a
  have h0 := Int64.le_toInt a
  rw [ha] at h1 h0
  by_cases hm : x = -9223372036854775808 ∧ y = -1
  · have ea : a = -9223372036854775808 := Int64.toInt_inj.mp (by rw [ha, hm.1]; decide)
    have eb : b = -1 := Int64.toInt_inj.mp (by rw [hb, hm.2]; decide)
    rw [h, ea, eb, hm.1, hm.2]; exact ⟨by decide, fun _ _ => by decide⟩
  · have r := tdiv_in h0 h1 hy hm
    have e : c.toInt = x.tdiv y := by
      rw [h, Int64.toInt_div, ha, hb, Int.bmod_def]
      omega
    refine ⟨by rw [e]; exact tdiv_abs hy, fun h0 h2 => ?_⟩
    rw [e]
    have h3 : (x.tdiv y).natAbs = x.natAbs / y.natAbs := Int.natAbs_tdiv ..
    have h4 : 0 < x.natAbs / y.natAbs := Nat.div_pos h2 (by omega)
    omega
theorem l_rem {a b c : Int64} {x y : Int} (h : c = a - a / b * b) (ha : a.toInt = x) (hb : b.toInt = y) (hy : y ≠ 0) : c.toInt.natAbs < y.natAbs := by
  have h1 := Int64.toInt_lt a
  have h0 := Int64.le_toInt a
  rw [ha] at h1 h0
  by_cases hm : x = -9223372036854775808 ∧ y = -1
  · have ea : a = -9223372036854775808 := Int64.toInt_inj.mp (by rw [ha, hm.1]; decide)
    have eb : b = -1 := Int64.toInt_inj.mp (by rw [hb, hm.2]; decide)
    rw [h, ea, eb, hm.2]; decide
  · have r := tdiv_in h0 h1 hy hm
    have e : (a / b).toInt = x.tdiv y := by
      rw [Int64.toInt_div, ha, hb, Int.bmod_def]
      omega
    have e0 : x.tmod y + y * (x.tdiv y) = x := Int.tmod_add_mul_tdiv x y
    have e1 : x.tdiv y * y = x - x.tmod y := by rw [Int.mul_comm]; omega
    have e2 : (x.tmod y).natAbs ≤ x.natAbs := by rw [Int.natAbs_tmod]; exact Nat.mod_le _ _
    have e3 : (x.tmod y).natAbs < y.natAbs := by rw [Int.natAbs_tmod]; exact Nat.mod_lt _ (by omega)
    have e4 : 0 ≤ x → 0 ≤ x.tmod y := fun h => Int.tmod_nonneg y h
    have e5 : x ≤ 0 → x.tmod y ≤ 0 := fun h => by
      have := Int.tmod_nonneg (a := -x) y (by omega)
      rw [Int.neg_tmod] at this; omega
    have mm : (a / b * b).toInt = x - x.tmod y := by
      rw [Int64.toInt_mul, e, hb, e1, Int.bmod_def]
      omega
    have ss : c.toInt = x.tmod y := by
      rw [h, Int64.toInt_sub, ha, mm, Int.bmod_def]
      omega
    rw [ss]; exact e3
theorem l_neg0 {a c : Int64} (h : c = 0 - a) : c.toInt.natAbs = a.toInt.natAbs := by
  have h1 := Int64.toInt_lt a
  have h0 := Int64.le_toInt a
  have z0 : (0 : Int64).toInt = 0 := rfl
  rw [h, Int64.toInt_sub, z0, Int.bmod_def]
  omega
theorem nfw : nativeFrameWords "java/lang/System" "arraycopy" 5 = 7 := by decide +kernel
set_option maxHeartbeats 4000000 in
set_option maxRecDepth 100000 in
/-- J6_bitCount_0f7a4 -/
theorem c_J6_bitCount_0f7a4 (l : Launch) (dC : Nat → ClassId) (dI : Nat → Nat → Nat) (a : Int32) : Met l yJ6_bitCount_0f7a4 (wc yJ6_bitCount_0f7a4 cJ6_bitCount_0f7a4 1 (some .int)) ({ frames := 0, cells := 0, slots := 0, locals := 0 } : Room) (pR (dC, dI) classes [] [] [.int a]) (vp_Si (fun r => True)) 0 0 (fun _ => False) := by
  refine Met.ofW (cc := cJ6_bitCount_0f7a4) (maxL := 1) (ret := (some .int)) (by decide) rfl ?_
  intro p e s m args below meth c s₁ B hml hv
  obtain ⟨rfl, hP, hK⟩ := hv
  have hx := B.exec
  have hb := B.bytes
  have hr := B.returns
  have ht := tb_tl (atoms_spec (ws := wc yJ6_bitCount_0f7a4 cJ6_bitCount_0f7a4 1 (some .int)) B.pre)
  have hown : s.vm.findClass RJ6 = some m.cls := findClass_of_methodNamed B.named
  have hlocks := B.notSynchronized
  have hl := lv_entry [.int a] (n := 1) (Nat.le_of_ble_eq_true rfl)
  rw [lg_entry_eq]
  generalize (lg_sl [.int a] ++ List.replicate (1 - (lg_sl [.int a]).length) Slot.unset).toArray = ls at hl ⊢
  have hl : lv_has ls 1 [(0, .int a)] := hl
  refine lv_iload_n hx hb dJ6_bitCount_0f7a4_0 rfl (lv_at hl 0 rfl) ?_
  refine lv_iload_n hx hb dJ6_bitCount_0f7a4_1 rfl (lv_at hl 0 rfl) ?_
  refine lv_iconst (v := 1) hx hb dJ6_bitCount_0f7a4_2 (by decide) ?_
  obtain ⟨v1, ev1⟩ : ∃ y : Int32, ((a : Int32).toUInt32 >>> ((1 : Int32).toUInt32 &&& Int32.toUInt32 31)).toInt32 = y := ⟨_, rfl⟩
  refine lv_iushr (v := v1) hx hb dJ6_bitCount_0f7a4_3 ev1 ?_
  refine lv_ldcw hx hb hown (ht _ m_1053) dJ6_bitCount_0f7a4_4 ?_
  refine lv_iand hx hb dJ6_bitCount_0f7a4_7 ?_
  refine lv_topi (fun v2 ev2 => ?_)
  refine lv_isub hx hb dJ6_bitCount_0f7a4_8 ?_
  refine lv_topi (fun v3 ev3 => ?_)
  refine lv_istore_n (lv' := [(0, .int v3)]) hx hb dJ6_bitCount_0f7a4_9 rfl hl (by decide) rfl (fun ls hl => ?_)
  refine lv_iload_n hx hb dJ6_bitCount_0f7a4_10 rfl (lv_at hl 0 rfl) ?_
  refine lv_ldcw hx hb hown (ht _ m_1054) dJ6_bitCount_0f7a4_11 ?_
  refine lv_iand hx hb dJ6_bitCount_0f7a4_14 ?_
  refine lv_topi (fun v4 ev4 => ?_)
  refine lv_iload_n hx hb dJ6_bitCount_0f7a4_15 rfl (lv_at hl 0 rfl) ?_
  refine lv_iconst (v := 2) hx hb dJ6_bitCount_0f7a4_16 (by decide) ?_
  obtain ⟨v5, ev5⟩ : ∃ y : Int32, ((v3 : Int32).toUInt32 >>> ((2 : Int32).toUInt32 &&& Int32.toUInt32 31)).toInt32 = y := ⟨_, rfl⟩
  refine lv_iushr (v := v5) hx hb dJ6_bitCount_0f7a4_17 ev5 ?_
  refine lv_ldcw hx hb hown (ht _ m_1054) dJ6_bitCount_0f7a4_18 ?_
  refine lv_iand hx hb dJ6_bitCount_0f7a4_21 ?_
  refine lv_topi (fun v6 ev6 => ?_)
  refine lv_iadd hx hb dJ6_bitCount_0f7a4_22 ?_
  refine lv_topi (fun v7 ev7 => ?_)
  refine lv_istore_n (lv' := [(0, .int v7)]) hx hb dJ6_bitCount_0f7a4_23 rfl hl (by decide) rfl (fun ls hl => ?_)
  refine lv_iload_n hx hb dJ6_bitCount_0f7a4_24 rfl (lv_at hl 0 rfl) ?_
  refine lv_iload_n hx hb dJ6_bitCount_0f7a4_25 rfl (lv_at hl 0 rfl) ?_
  refine lv_iconst (v := 4) hx hb dJ6_bitCount_0f7a4_26 (by decide) ?_
  obtain ⟨v8, ev8⟩ : ∃ y : Int32, ((v7 : Int32).toUInt32 >>> ((4 : Int32).toUInt32 &&& Int32.toUInt32 31)).toInt32 = y := ⟨_, rfl⟩
  refine lv_iushr (v := v8) hx hb dJ6_bitCount_0f7a4_27 ev8 ?_
  refine lv_iadd hx hb dJ6_bitCount_0f7a4_28 ?_
  refine lv_topi (fun v9 ev9 => ?_)
  refine lv_ldcw hx hb hown (ht _ m_1055) dJ6_bitCount_0f7a4_29 ?_
  refine lv_iand hx hb dJ6_bitCount_0f7a4_32 ?_
  refine lv_topi (fun v10 ev10 => ?_)
  refine lv_istore_n (lv' := [(0, .int v10)]) hx hb dJ6_bitCount_0f7a4_33 rfl hl (by decide) rfl (fun ls hl => ?_)
  refine lv_iload_n hx hb dJ6_bitCount_0f7a4_34 rfl (lv_at hl 0 rfl) ?_
  refine lv_iload_n hx hb dJ6_bitCount_0f7a4_35 rfl (lv_at hl 0 rfl) ?_
  refine lv_bipush (v := 8) hx hb dJ6_bitCount_0f7a4_36 (by decide) ?_
  obtain ⟨v11, ev11⟩ : ∃ y : Int32, ((v10 : Int32).toUInt32 >>> ((8 : Int32).toUInt32 &&& Int32.toUInt32 31)).toInt32 = y := ⟨_, rfl⟩
  refine lv_iushr (v := v11) hx hb dJ6_bitCount_0f7a4_38 ev11 ?_
  refine lv_iadd hx hb dJ6_bitCount_0f7a4_39 ?_
  refine lv_topi (fun v12 ev12 => ?_)
  refine lv_istore_n (lv' := [(0, .int v12)]) hx hb dJ6_bitCount_0f7a4_40 rfl hl (by decide) rfl (fun ls hl => ?_)
  refine lv_iload_n hx hb dJ6_bitCount_0f7a4_41 rfl (lv_at hl 0 rfl) ?_
  refine lv_iload_n hx hb dJ6_bitCount_0f7a4_42 rfl (lv_at hl 0 rfl) ?_
  refine lv_bipush (v := 16) hx hb dJ6_bitCount_0f7a4_43 (by decide) ?_
  obtain ⟨v13, ev13⟩ : ∃ y : Int32, ((v12 : Int32).toUInt32 >>> ((16 : Int32).toUInt32 &&& Int32.toUInt32 31)).toInt32 = y := ⟨_, rfl⟩
  refine lv_iushr (v := v13) hx hb dJ6_bitCount_0f7a4_45 ev13 ?_
  refine lv_iadd hx hb dJ6_bitCount_0f7a4_46 ?_
  refine lv_topi (fun v14 ev14 => ?_)
  refine lv_istore_n (lv' := [(0, .int v14)]) hx hb dJ6_bitCount_0f7a4_47 rfl hl (by decide) rfl (fun ls hl => ?_)
  refine lv_iload_n hx hb dJ6_bitCount_0f7a4_48 rfl (lv_at hl 0 rfl) ?_
  refine lv_bipush (v := 63) hx hb dJ6_bitCount_0f7a4_49 (by decide) ?_
  refine lv_iand hx hb dJ6_bitCount_0f7a4_51 ?_
  refine lv_topi (fun v15 ev15 => ?_)
  exact W.iret (v := v15) hx hb hr (fun t ht9 hW => ⟨v15, rfl, trivial, ht9⟩) (fun q hq => by cases hq) dJ6_bitCount_0f7a4_52
set_option maxHeartbeats 4000000 in
set_option maxRecDepth 100000 in
/-- J3_checkIndex_8e157 -/
theorem c_J3_checkIndex_8e157_3 (l : Launch) (dC : Nat → ClassId) (dI : Nat → Nat → Nat) (a : Int32) (f : Nat) (h_a : 0 ≤ a.toInt ∧ a.toInt ≤ 2) : Met l yJ3_checkIndex_8e157 (wc yJ3_checkIndex_8e157 cJ3_checkIndex_8e157 3 (some .int)) ({ frames := 0, cells := 0, slots := 0, locals := 0 } : Room) (pR (dC, dI) classes [] [] [.int a, .int 3, .ref f]) (vp_Si (fun r => 0 ≤ r.toInt ∧ r.toInt ≤ 2)) 0 0 (fun _ => False) := by
  refine Met.ofW (cc := cJ3_checkIndex_8e157) (maxL := 3) (ret := (some .int)) (by decide) rfl ?_
  intro p e s m args below meth c s₁ B hml hv
  obtain ⟨rfl, hP, hK⟩ := hv
  have hx := B.exec
  have hb := B.bytes
  have hr := B.returns
  have ht := tb_tl (atoms_spec (ws := wc yJ3_checkIndex_8e157 cJ3_checkIndex_8e157 3 (some .int)) B.pre)
  have hown : s.vm.findClass RJ3 = some m.cls := findClass_of_methodNamed B.named
  have hlocks := B.notSynchronized
  have hl := lv_entry [.int a, .int 3, .ref f] (n := 3) (Nat.le_of_ble_eq_true rfl)
  rw [lg_entry_eq]
  generalize (lg_sl [.int a, .int 3, .ref f] ++ List.replicate (3 - (lg_sl [.int a, .int 3, .ref f]).length) Slot.unset).toArray = ls at hl ⊢
  have hl : lv_has ls 3 [(0, .int a), (1, .int 3), (2, .ref f)] := hl
  refine lv_iload_n hx hb dJ3_checkIndex_8e157_0 rfl (lv_at hl 0 rfl) ?_
  refine lv_if_lt (tgt := 9) hx hb dJ3_checkIndex_8e157_1 (by decide) (fun c1 => ?_) (fun c1 => ?_)
  · have fc1 := z_lt (rfl : (a).toInt = _) (by decide : (0 : Int32).toInt = 0) c1; exfalso; omega
  · skip
    refine lv_iload_n hx hb dJ3_checkIndex_8e157_4 rfl (lv_at hl 0 rfl) ?_
    refine lv_iload_n hx hb dJ3_checkIndex_8e157_5 rfl (lv_at hl 1 rfl) ?_
    refine lv_icmp_lt (tgt := 16) hx hb dJ3_checkIndex_8e157_6 (by decide) (fun c2 => ?_) (fun c2 => ?_)
    · skip
      refine lv_iload_n hx hb dJ3_checkIndex_8e157_16 rfl (lv_at hl 0 rfl) ?_
      exact W.iret (v := a) hx hb hr (fun t ht9 hW => ⟨a, rfl, ⟨by omega, by omega⟩, ht9⟩) (fun q hq => by cases hq) dJ3_checkIndex_8e157_17
    · have fc2 := z_nlt (rfl : (a).toInt = _) (by decide : (3 : Int32).toInt = 3) c2; exfalso; omega
set_option maxHeartbeats 4000000 in
set_option maxRecDepth 100000 in
/-- J3_checkIndex_8e157 -/
theorem c_J3_checkIndex_8e157_3z (l : Launch) (dC : Nat → ClassId) (dI : Nat → Nat → Nat) (a : Int32) (h_a : 0 ≤ a.toInt ∧ a.toInt ≤ 2) : Met l yJ3_checkIndex_8e157 (wc yJ3_checkIndex_8e157 cJ3_checkIndex_8e157 3 (some .int)) ({ frames := 0, cells := 0, slots := 0, locals := 0 } : Room) (pR (dC, dI) classes [] [] [.int a, .int 3, .null]) (vp_Si (fun r => 0 ≤ r.toInt ∧ r.toInt ≤ 2)) 0 0 (fun _ => False) := by
  refine Met.ofW (cc := cJ3_checkIndex_8e157) (maxL := 3) (ret := (some .int)) (by decide) rfl ?_
  intro p e s m args below meth c s₁ B hml hv
  obtain ⟨rfl, hP, hK⟩ := hv
  have hx := B.exec
  have hb := B.bytes
  have hr := B.returns
  have ht := tb_tl (atoms_spec (ws := wc yJ3_checkIndex_8e157 cJ3_checkIndex_8e157 3 (some .int)) B.pre)
  have hown : s.vm.findClass RJ3 = some m.cls := findClass_of_methodNamed B.named
  have hlocks := B.notSynchronized
  have hl := lv_entry [.int a, .int 3, .null] (n := 3) (Nat.le_of_ble_eq_true rfl)
  rw [lg_entry_eq]
  generalize (lg_sl [.int a, .int 3, .null] ++ List.replicate (3 - (lg_sl [.int a, .int 3, .null]).length) Slot.unset).toArray = ls at hl ⊢
  have hl : lv_has ls 3 [(0, .int a), (1, .int 3), (2, .null)] := hl
  refine lv_iload_n hx hb dJ3_checkIndex_8e157_0 rfl (lv_at hl 0 rfl) ?_
  refine lv_if_lt (tgt := 9) hx hb dJ3_checkIndex_8e157_1 (by decide) (fun c1 => ?_) (fun c1 => ?_)
  · have fc1 := z_lt (rfl : (a).toInt = _) (by decide : (0 : Int32).toInt = 0) c1; exfalso; omega
  · skip
    refine lv_iload_n hx hb dJ3_checkIndex_8e157_4 rfl (lv_at hl 0 rfl) ?_
    refine lv_iload_n hx hb dJ3_checkIndex_8e157_5 rfl (lv_at hl 1 rfl) ?_
    refine lv_icmp_lt (tgt := 16) hx hb dJ3_checkIndex_8e157_6 (by decide) (fun c2 => ?_) (fun c2 => ?_)
    · skip
      refine lv_iload_n hx hb dJ3_checkIndex_8e157_16 rfl (lv_at hl 0 rfl) ?_
      exact W.iret (v := a) hx hb hr (fun t ht9 hW => ⟨a, rfl, ⟨by omega, by omega⟩, ht9⟩) (fun q hq => by cases hq) dJ3_checkIndex_8e157_17
    · have fc2 := z_nlt (rfl : (a).toInt = _) (by decide : (3 : Int32).toInt = 3) c2; exfalso; omega
set_option maxHeartbeats 4000000 in
set_option maxRecDepth 100000 in
/-- J3_checkIndex_8e157 -/
theorem c_J3_checkIndex_8e157_18 (l : Launch) (dC : Nat → ClassId) (dI : Nat → Nat → Nat) (a : Int32) (f : Nat) (h_a : 0 ≤ a.toInt ∧ a.toInt ≤ 17) : Met l yJ3_checkIndex_8e157 (wc yJ3_checkIndex_8e157 cJ3_checkIndex_8e157 3 (some .int)) ({ frames := 0, cells := 0, slots := 0, locals := 0 } : Room) (pR (dC, dI) classes [] [] [.int a, .int 18, .ref f]) (vp_Si (fun r => 0 ≤ r.toInt ∧ r.toInt ≤ 17)) 0 0 (fun _ => False) := by
  refine Met.ofW (cc := cJ3_checkIndex_8e157) (maxL := 3) (ret := (some .int)) (by decide) rfl ?_
  intro p e s m args below meth c s₁ B hml hv
  obtain ⟨rfl, hP, hK⟩ := hv
  have hx := B.exec
  have hb := B.bytes
  have hr := B.returns
  have ht := tb_tl (atoms_spec (ws := wc yJ3_checkIndex_8e157 cJ3_checkIndex_8e157 3 (some .int)) B.pre)
  have hown : s.vm.findClass RJ3 = some m.cls := findClass_of_methodNamed B.named
  have hlocks := B.notSynchronized
  have hl := lv_entry [.int a, .int 18, .ref f] (n := 3) (Nat.le_of_ble_eq_true rfl)
  rw [lg_entry_eq]
  generalize (lg_sl [.int a, .int 18, .ref f] ++ List.replicate (3 - (lg_sl [.int a, .int 18, .ref f]).length) Slot.unset).toArray = ls at hl ⊢
  have hl : lv_has ls 3 [(0, .int a), (1, .int 18), (2, .ref f)] := hl
  refine lv_iload_n hx hb dJ3_checkIndex_8e157_0 rfl (lv_at hl 0 rfl) ?_
  refine lv_if_lt (tgt := 9) hx hb dJ3_checkIndex_8e157_1 (by decide) (fun c1 => ?_) (fun c1 => ?_)
  · have fc1 := z_lt (rfl : (a).toInt = _) (by decide : (0 : Int32).toInt = 0) c1; exfalso; omega
  · skip
    refine lv_iload_n hx hb dJ3_checkIndex_8e157_4 rfl (lv_at hl 0 rfl) ?_
    refine lv_iload_n hx hb dJ3_checkIndex_8e157_5 rfl (lv_at hl 1 rfl) ?_
    refine lv_icmp_lt (tgt := 16) hx hb dJ3_checkIndex_8e157_6 (by decide) (fun c2 => ?_) (fun c2 => ?_)
    · skip
      refine lv_iload_n hx hb dJ3_checkIndex_8e157_16 rfl (lv_at hl 0 rfl) ?_
      exact W.iret (v := a) hx hb hr (fun t ht9 hW => ⟨a, rfl, ⟨by omega, by omega⟩, ht9⟩) (fun q hq => by cases hq) dJ3_checkIndex_8e157_17
    · have fc2 := z_nlt (rfl : (a).toInt = _) (by decide : (18 : Int32).toInt = 18) c2; exfalso; omega
set_option maxHeartbeats 4000000 in
set_option maxRecDepth 100000 in
/-- J3_checkIndex_8e157 -/
theorem c_J3_checkIndex_8e157_18z (l : Launch) (dC : Nat → ClassId) (dI : Nat → Nat → Nat) (a : Int32) (h_a : 0 ≤ a.toInt ∧ a.toInt ≤ 17) : Met l yJ3_checkIndex_8e157 (wc yJ3_checkIndex_8e157 cJ3_checkIndex_8e157 3 (some .int)) ({ frames := 0, cells := 0, slots := 0, locals := 0 } : Room) (pR (dC, dI) classes [] [] [.int a, .int 18, .null]) (vp_Si (fun r => 0 ≤ r.toInt ∧ r.toInt ≤ 17)) 0 0 (fun _ => False) := by
  refine Met.ofW (cc := cJ3_checkIndex_8e157) (maxL := 3) (ret := (some .int)) (by decide) rfl ?_
  intro p e s m args below meth c s₁ B hml hv
  obtain ⟨rfl, hP, hK⟩ := hv
  have hx := B.exec
  have hb := B.bytes
  have hr := B.returns
  have ht := tb_tl (atoms_spec (ws := wc yJ3_checkIndex_8e157 cJ3_checkIndex_8e157 3 (some .int)) B.pre)
  have hown : s.vm.findClass RJ3 = some m.cls := findClass_of_methodNamed B.named
  have hlocks := B.notSynchronized
  have hl := lv_entry [.int a, .int 18, .null] (n := 3) (Nat.le_of_ble_eq_true rfl)
  rw [lg_entry_eq]
  generalize (lg_sl [.int a, .int 18, .null] ++ List.replicate (3 - (lg_sl [.int a, .int 18, .null]).length) Slot.unset).toArray = ls at hl ⊢
  have hl : lv_has ls 3 [(0, .int a), (1, .int 18), (2, .null)] := hl
  refine lv_iload_n hx hb dJ3_checkIndex_8e157_0 rfl (lv_at hl 0 rfl) ?_
  refine lv_if_lt (tgt := 9) hx hb dJ3_checkIndex_8e157_1 (by decide) (fun c1 => ?_) (fun c1 => ?_)
  · have fc1 := z_lt (rfl : (a).toInt = _) (by decide : (0 : Int32).toInt = 0) c1; exfalso; omega
  · skip
    refine lv_iload_n hx hb dJ3_checkIndex_8e157_4 rfl (lv_at hl 0 rfl) ?_
    refine lv_iload_n hx hb dJ3_checkIndex_8e157_5 rfl (lv_at hl 1 rfl) ?_
    refine lv_icmp_lt (tgt := 16) hx hb dJ3_checkIndex_8e157_6 (by decide) (fun c2 => ?_) (fun c2 => ?_)
    · skip
      refine lv_iload_n hx hb dJ3_checkIndex_8e157_16 rfl (lv_at hl 0 rfl) ?_
      exact W.iret (v := a) hx hb hr (fun t ht9 hW => ⟨a, rfl, ⟨by omega, by omega⟩, ht9⟩) (fun q hq => by cases hq) dJ3_checkIndex_8e157_17
    · have fc2 := z_nlt (rfl : (a).toInt = _) (by decide : (18 : Int32).toInt = 18) c2; exfalso; omega
set_option maxHeartbeats 4000000 in
set_option maxRecDepth 100000 in
/-- J3_checkIndex_8e157 -/
theorem c_J3_checkIndex_8e157_21 (l : Launch) (dC : Nat → ClassId) (dI : Nat → Nat → Nat) (a : Int32) (f : Nat) (h_a : 0 ≤ a.toInt ∧ a.toInt ≤ 20) : Met l yJ3_checkIndex_8e157 (wc yJ3_checkIndex_8e157 cJ3_checkIndex_8e157 3 (some .int)) ({ frames := 0, cells := 0, slots := 0, locals := 0 } : Room) (pR (dC, dI) classes [] [] [.int a, .int 21, .ref f]) (vp_Si (fun r => 0 ≤ r.toInt ∧ r.toInt ≤ 20)) 0 0 (fun _ => False) := by
  refine Met.ofW (cc := cJ3_checkIndex_8e157) (maxL := 3) (ret := (some .int)) (by decide) rfl ?_
  intro p e s m args below meth c s₁ B hml hv
  obtain ⟨rfl, hP, hK⟩ := hv
  have hx := B.exec
  have hb := B.bytes
  have hr := B.returns
  have ht := tb_tl (atoms_spec (ws := wc yJ3_checkIndex_8e157 cJ3_checkIndex_8e157 3 (some .int)) B.pre)
  have hown : s.vm.findClass RJ3 = some m.cls := findClass_of_methodNamed B.named
  have hlocks := B.notSynchronized
  have hl := lv_entry [.int a, .int 21, .ref f] (n := 3) (Nat.le_of_ble_eq_true rfl)
  rw [lg_entry_eq]
  generalize (lg_sl [.int a, .int 21, .ref f] ++ List.replicate (3 - (lg_sl [.int a, .int 21, .ref f]).length) Slot.unset).toArray = ls at hl ⊢
  have hl : lv_has ls 3 [(0, .int a), (1, .int 21), (2, .ref f)] := hl
  refine lv_iload_n hx hb dJ3_checkIndex_8e157_0 rfl (lv_at hl 0 rfl) ?_
  refine lv_if_lt (tgt := 9) hx hb dJ3_checkIndex_8e157_1 (by decide) (fun c1 => ?_) (fun c1 => ?_)
  · have fc1 := z_lt (rfl : (a).toInt = _) (by decide : (0 : Int32).toInt = 0) c1; exfalso; omega
  · skip
    refine lv_iload_n hx hb dJ3_checkIndex_8e157_4 rfl (lv_at hl 0 rfl) ?_
    refine lv_iload_n hx hb dJ3_checkIndex_8e157_5 rfl (lv_at hl 1 rfl) ?_
    refine lv_icmp_lt (tgt := 16) hx hb dJ3_checkIndex_8e157_6 (by decide) (fun c2 => ?_) (fun c2 => ?_)
    · skip
      refine lv_iload_n hx hb dJ3_checkIndex_8e157_16 rfl (lv_at hl 0 rfl) ?_
      exact W.iret (v := a) hx hb hr (fun t ht9 hW => ⟨a, rfl, ⟨by omega, by omega⟩, ht9⟩) (fun q hq => by cases hq) dJ3_checkIndex_8e157_17
    · have fc2 := z_nlt (rfl : (a).toInt = _) (by decide : (21 : Int32).toInt = 21) c2; exfalso; omega
set_option maxHeartbeats 4000000 in
set_option maxRecDepth 100000 in
/-- J3_checkIndex_8e157 -/
theorem c_J3_checkIndex_8e157_21z (l : Launch) (dC : Nat → ClassId) (dI : Nat → Nat → Nat) (a : Int32) (h_a : 0 ≤ a.toInt ∧ a.toInt ≤ 20) : Met l yJ3_checkIndex_8e157 (wc yJ3_checkIndex_8e157 cJ3_checkIndex_8e157 3 (some .int)) ({ frames := 0, cells := 0, slots := 0, locals := 0 } : Room) (pR (dC, dI) classes [] [] [.int a, .int 21, .null]) (vp_Si (fun r => 0 ≤ r.toInt ∧ r.toInt ≤ 20)) 0 0 (fun _ => False) := by
  refine Met.ofW (cc := cJ3_checkIndex_8e157) (maxL := 3) (ret := (some .int)) (by decide) rfl ?_
  intro p e s m args below meth c s₁ B hml hv
  obtain ⟨rfl, hP, hK⟩ := hv
  have hx := B.exec
  have hb := B.bytes
  have hr := B.returns
  have ht := tb_tl (atoms_spec (ws := wc yJ3_checkIndex_8e157 cJ3_checkIndex_8e157 3 (some .int)) B.pre)
  have hown : s.vm.findClass RJ3 = some m.cls := findClass_of_methodNamed B.named
  have hlocks := B.notSynchronized
  have hl := lv_entry [.int a, .int 21, .null] (n := 3) (Nat.le_of_ble_eq_true rfl)
  rw [lg_entry_eq]
  generalize (lg_sl [.int a, .int 21, .null] ++ List.replicate (3 - (lg_sl [.int a, .int 21, .null]).length) Slot.unset).toArray = ls at hl ⊢
  have hl : lv_has ls 3 [(0, .int a), (1, .int 21), (2, .null)] := hl
  refine lv_iload_n hx hb dJ3_checkIndex_8e157_0 rfl (lv_at hl 0 rfl) ?_
  refine lv_if_lt (tgt := 9) hx hb dJ3_checkIndex_8e157_1 (by decide) (fun c1 => ?_) (fun c1 => ?_)
  · have fc1 := z_lt (rfl : (a).toInt = _) (by decide : (0 : Int32).toInt = 0) c1; exfalso; omega
  · skip
    refine lv_iload_n hx hb dJ3_checkIndex_8e157_4 rfl (lv_at hl 0 rfl) ?_
    refine lv_iload_n hx hb dJ3_checkIndex_8e157_5 rfl (lv_at hl 1 rfl) ?_
    refine lv_icmp_lt (tgt := 16) hx hb dJ3_checkIndex_8e157_6 (by decide) (fun c2 => ?_) (fun c2 => ?_)
    · skip
      refine lv_iload_n hx hb dJ3_checkIndex_8e157_16 rfl (lv_at hl 0 rfl) ?_
      exact W.iret (v := a) hx hb hr (fun t ht9 hW => ⟨a, rfl, ⟨by omega, by omega⟩, ht9⟩) (fun q hq => by cases hq) dJ3_checkIndex_8e157_17
    · have fc2 := z_nlt (rfl : (a).toInt = _) (by decide : (21 : Int32).toInt = 21) c2; exfalso; omega
set_option maxHeartbeats 4000000 in
set_option maxRecDepth 100000 in
/-- J3_checkIndex_8e157 -/
theorem c_J3_checkIndex_8e157_28 (l : Launch) (dC : Nat → ClassId) (dI : Nat → Nat → Nat) (a : Int32) (f : Nat) (h_a : 0 ≤ a.toInt ∧ a.toInt ≤ 27) : Met l yJ3_checkIndex_8e157 (wc yJ3_checkIndex_8e157 cJ3_checkIndex_8e157 3 (some .int)) ({ frames := 0, cells := 0, slots := 0, locals := 0 } : Room) (pR (dC, dI) classes [] [] [.int a, .int 28, .ref f]) (vp_Si (fun r => 0 ≤ r.toInt ∧ r.toInt ≤ 27)) 0 0 (fun _ => False) := by
  refine Met.ofW (cc := cJ3_checkIndex_8e157) (maxL := 3) (ret := (some .int)) (by decide) rfl ?_
  intro p e s m args below meth c s₁ B hml hv
  obtain ⟨rfl, hP, hK⟩ := hv
  have hx := B.exec
  have hb := B.bytes
  have hr := B.returns
  have ht := tb_tl (atoms_spec (ws := wc yJ3_checkIndex_8e157 cJ3_checkIndex_8e157 3 (some .int)) B.pre)
  have hown : s.vm.findClass RJ3 = some m.cls := findClass_of_methodNamed B.named
  have hlocks := B.notSynchronized
  have hl := lv_entry [.int a, .int 28, .ref f] (n := 3) (Nat.le_of_ble_eq_true rfl)
  rw [lg_entry_eq]
  generalize (lg_sl [.int a, .int 28, .ref f] ++ List.replicate (3 - (lg_sl [.int a, .int 28, .ref f]).length) Slot.unset).toArray = ls at hl ⊢
  have hl : lv_has ls 3 [(0, .int a), (1, .int 28), (2, .ref f)] := hl
  refine lv_iload_n hx hb dJ3_checkIndex_8e157_0 rfl (lv_at hl 0 rfl) ?_
  refine lv_if_lt (tgt := 9) hx hb dJ3_checkIndex_8e157_1 (by decide) (fun c1 => ?_) (fun c1 => ?_)
  · have fc1 := z_lt (rfl : (a).toInt = _) (by decide : (0 : Int32).toInt = 0) c1; exfalso; omega
  · skip
    refine lv_iload_n hx hb dJ3_checkIndex_8e157_4 rfl (lv_at hl 0 rfl) ?_
    refine lv_iload_n hx hb dJ3_checkIndex_8e157_5 rfl (lv_at hl 1 rfl) ?_
    refine lv_icmp_lt (tgt := 16) hx hb dJ3_checkIndex_8e157_6 (by decide) (fun c2 => ?_) (fun c2 => ?_)
    · skip
      refine lv_iload_n hx hb dJ3_checkIndex_8e157_16 rfl (lv_at hl 0 rfl) ?_
      exact W.iret (v := a) hx hb hr (fun t ht9 hW => ⟨a, rfl, ⟨by omega, by omega⟩, ht9⟩) (fun q hq => by cases hq) dJ3_checkIndex_8e157_17
    · have fc2 := z_nlt (rfl : (a).toInt = _) (by decide : (28 : Int32).toInt = 28) c2; exfalso; omega
set_option maxHeartbeats 4000000 in
set_option maxRecDepth 100000 in
/-- J3_checkIndex_8e157 -/
theorem c_J3_checkIndex_8e157_28z (l : Launch) (dC : Nat → ClassId) (dI : Nat → Nat → Nat) (a : Int32) (h_a : 0 ≤ a.toInt ∧ a.toInt ≤ 27) : Met l yJ3_checkIndex_8e157 (wc yJ3_checkIndex_8e157 cJ3_checkIndex_8e157 3 (some .int)) ({ frames := 0, cells := 0, slots := 0, locals := 0 } : Room) (pR (dC, dI) classes [] [] [.int a, .int 28, .null]) (vp_Si (fun r => 0 ≤ r.toInt ∧ r.toInt ≤ 27)) 0 0 (fun _ => False) := by
  refine Met.ofW (cc := cJ3_checkIndex_8e157) (maxL := 3) (ret := (some .int)) (by decide) rfl ?_
  intro p e s m args below meth c s₁ B hml hv
  obtain ⟨rfl, hP, hK⟩ := hv
  have hx := B.exec
  have hb := B.bytes
  have hr := B.returns
  have ht := tb_tl (atoms_spec (ws := wc yJ3_checkIndex_8e157 cJ3_checkIndex_8e157 3 (some .int)) B.pre)
  have hown : s.vm.findClass RJ3 = some m.cls := findClass_of_methodNamed B.named
  have hlocks := B.notSynchronized
  have hl := lv_entry [.int a, .int 28, .null] (n := 3) (Nat.le_of_ble_eq_true rfl)
  rw [lg_entry_eq]
  generalize (lg_sl [.int a, .int 28, .null] ++ List.replicate (3 - (lg_sl [.int a, .int 28, .null]).length) Slot.unset).toArray = ls at hl ⊢
  have hl : lv_has ls 3 [(0, .int a), (1, .int 28), (2, .null)] := hl
  refine lv_iload_n hx hb dJ3_checkIndex_8e157_0 rfl (lv_at hl 0 rfl) ?_
  refine lv_if_lt (tgt := 9) hx hb dJ3_checkIndex_8e157_1 (by decide) (fun c1 => ?_) (fun c1 => ?_)
  · have fc1 := z_lt (rfl : (a).toInt = _) (by decide : (0 : Int32).toInt = 0) c1; exfalso; omega
  · skip
    refine lv_iload_n hx hb dJ3_checkIndex_8e157_4 rfl (lv_at hl 0 rfl) ?_
    refine lv_iload_n hx hb dJ3_checkIndex_8e157_5 rfl (lv_at hl 1 rfl) ?_
    refine lv_icmp_lt (tgt := 16) hx hb dJ3_checkIndex_8e157_6 (by decide) (fun c2 => ?_) (fun c2 => ?_)
    · skip
      refine lv_iload_n hx hb dJ3_checkIndex_8e157_16 rfl (lv_at hl 0 rfl) ?_
      exact W.iret (v := a) hx hb hr (fun t ht9 hW => ⟨a, rfl, ⟨by omega, by omega⟩, ht9⟩) (fun q hq => by cases hq) dJ3_checkIndex_8e157_17
    · have fc2 := z_nlt (rfl : (a).toInt = _) (by decide : (28 : Int32).toInt = 28) c2; exfalso; omega
set_option maxHeartbeats 4000000 in
set_option maxRecDepth 100000 in
/-- J0_checkIndex_df160 -/
theorem c_J0_checkIndex_df160_3 (l : Launch) (dC : Nat → ClassId) (dI : Nat → Nat → Nat) (ak av : Nat → Nat) (a : Int32) (h_a : 0 ≤ a.toInt ∧ a.toInt ≤ 2) : Met l yJ0_checkIndex_df160 (wc yJ0_checkIndex_df160 cJ0_checkIndex_df160 2 none) ({ frames := 1, cells := 0, slots := 0, locals := 22 } : Room) (pRZ ak av (dC, dI) classes [] [] [.int a, .int 3]) (va_Sv (fun _ => True)) 0 0 (fun _ => False) := by
  refine Met.ofW (cc := cJ0_checkIndex_df160) (maxL := 2) (ret := none) (by decide) rfl ?_
  intro p e s m args below meth c s₁ B hml hv
  obtain ⟨rfl, hP, hK, hZ⟩ := hv
  have hx := B.exec
  have hb := B.bytes
  have hr := B.returns
  have ht := tb_tl (atoms_spec (ws := wc yJ0_checkIndex_df160 cJ0_checkIndex_df160 2 none) B.pre)
  have hown : s.vm.findClass RJ0 = some m.cls := findClass_of_methodNamed B.named
  have hlocks := B.notSynchronized
  have hl := lv_entry [.int a, .int 3] (n := 2) (Nat.le_of_ble_eq_true rfl)
  rw [lg_entry_eq]
  generalize (lg_sl [.int a, .int 3] ++ List.replicate (2 - (lg_sl [.int a, .int 3]).length) Slot.unset).toArray = ls at hl ⊢
  have hl : lv_has ls 2 [(0, .int a), (1, .int 3)] := hl
  refine lv_iload_n hx hb dJ0_checkIndex_df160_0 rfl (lv_at hl 0 rfl) ?_
  refine lv_iload_n hx hb dJ0_checkIndex_df160_1 rfl (lv_at hl 1 rfl) ?_
  rcases hZ.1.2.2.2.2.1 with hq | ⟨tq, hq⟩
  · refine va_gets hx hb hq va_S.rf hown (ht _ m_729) (fun _ h9 => h9) dJ0_checkIndex_df160_2 ?_
    refine vp_callSi (W.runS (As := [.int a, .int 3, .null]) (rest := []) ⟨hx, hb, hml, hown, ht⟩ (c_J3_checkIndex_8e157_3z l dC dI a ⟨by omega, by omega⟩) (kS2 3 ht m_731 m_732 m_93 m_733 rfl rfl hd_J3_checkIndex_8e157_i ⟨Nat.le_of_ble_eq_true rfl, Nat.le_of_ble_eq_true rfl⟩) (sR noP (hK.sub (tys' := []) [] rfl)) rfl rfl hl.1 rfl (lv_room (Nat.le_of_ble_eq_true rfl)) dJ0_checkIndex_df160_5 ⟨Nat.le_of_ble_eq_true rfl, Nat.le_of_ble_eq_true rfl⟩) (fun r1 hr1 => ?_)
    refine lv_pop hx hb dJ0_checkIndex_df160_8 rfl ?_
    exact W.vret hx hb hr (fun t ht9 hW => ⟨rfl, trivial, ht9⟩) (fun q hq => by cases hq) dJ0_checkIndex_df160_9
  · refine va_gets hx hb hq va_S.rf hown (ht _ m_729) (fun _ h9 => h9) dJ0_checkIndex_df160_2 ?_
    refine vp_callSi (W.runS (As := [.int a, .int 3, .ref tq]) (rest := []) ⟨hx, hb, hml, hown, ht⟩ (c_J3_checkIndex_8e157_3 l dC dI a tq ⟨by omega, by omega⟩) (kS2 3 ht m_731 m_732 m_93 m_733 rfl rfl hd_J3_checkIndex_8e157_i ⟨Nat.le_of_ble_eq_true rfl, Nat.le_of_ble_eq_true rfl⟩) (sR noP (hK.sub (tys' := []) [] rfl)) rfl rfl hl.1 rfl (lv_room (Nat.le_of_ble_eq_true rfl)) dJ0_checkIndex_df160_5 ⟨Nat.le_of_ble_eq_true rfl, Nat.le_of_ble_eq_true rfl⟩) (fun r2 hr2 => ?_)
    refine lv_pop hx hb dJ0_checkIndex_df160_8 rfl ?_
    exact W.vret hx hb hr (fun t ht9 hW => ⟨rfl, trivial, ht9⟩) (fun q hq => by cases hq) dJ0_checkIndex_df160_9
set_option maxHeartbeats 4000000 in
set_option maxRecDepth 100000 in
/-- J0_checkIndex_df160 -/
theorem c_J0_checkIndex_df160_18 (l : Launch) (dC : Nat → ClassId) (dI : Nat → Nat → Nat) (ak av : Nat → Nat) (a : Int32) (h_a : 0 ≤ a.toInt ∧ a.toInt ≤ 17) : Met l yJ0_checkIndex_df160 (wc yJ0_checkIndex_df160 cJ0_checkIndex_df160 2 none) ({ frames := 1, cells := 0, slots := 0, locals := 22 } : Room) (pRZ ak av (dC, dI) classes [] [] [.int a, .int 18]) (va_Sv (fun _ => True)) 0 0 (fun _ => False) := by
  refine Met.ofW (cc := cJ0_checkIndex_df160) (maxL := 2) (ret := none) (by decide) rfl ?_
  intro p e s m args below meth c s₁ B hml hv
  obtain ⟨rfl, hP, hK, hZ⟩ := hv
  have hx := B.exec
  have hb := B.bytes
  have hr := B.returns
  have ht := tb_tl (atoms_spec (ws := wc yJ0_checkIndex_df160 cJ0_checkIndex_df160 2 none) B.pre)
  have hown : s.vm.findClass RJ0 = some m.cls := findClass_of_methodNamed B.named
  have hlocks := B.notSynchronized
  have hl := lv_entry [.int a, .int 18] (n := 2) (Nat.le_of_ble_eq_true rfl)
  rw [lg_entry_eq]
  generalize (lg_sl [.int a, .int 18] ++ List.replicate (2 - (lg_sl [.int a, .int 18]).length) Slot.unset).toArray = ls at hl ⊢
  have hl : lv_has ls 2 [(0, .int a), (1, .int 18)] := hl
  refine lv_iload_n hx hb dJ0_checkIndex_df160_0 rfl (lv_at hl 0 rfl) ?_
  refine lv_iload_n hx hb dJ0_checkIndex_df160_1 rfl (lv_at hl 1 rfl) ?_
  rcases hZ.1.2.2.2.2.1 with hq | ⟨tq, hq⟩
  · refine va_gets hx hb hq va_S.rf hown (ht _ m_729) (fun _ h9 => h9) dJ0_checkIndex_df160_2 ?_
    refine vp_callSi (W.runS (As := [.int a, .int 18, .null]) (rest := []) ⟨hx, hb, hml, hown, ht⟩ (c_J3_checkIndex_8e157_18z l dC dI a ⟨by omega, by omega⟩) (kS2 3 ht m_731 m_732 m_93 m_733 rfl rfl hd_J3_checkIndex_8e157_i ⟨Nat.le_of_ble_eq_true rfl, Nat.le_of_ble_eq_true rfl⟩) (sR noP (hK.sub (tys' := []) [] rfl)) rfl rfl hl.1 rfl (lv_room (Nat.le_of_ble_eq_true rfl)) dJ0_checkIndex_df160_5 ⟨Nat.le_of_ble_eq_true rfl, Nat.le_of_ble_eq_true rfl⟩) (fun r1 hr1 => ?_)
    refine lv_pop hx hb dJ0_checkIndex_df160_8 rfl ?_
    exact W.vret hx hb hr (fun t ht9 hW => ⟨rfl, trivial, ht9⟩) (fun q hq => by cases hq) dJ0_checkIndex_df160_9
  · refine va_gets hx hb hq va_S.rf hown (ht _ m_729) (fun _ h9 => h9) dJ0_checkIndex_df160_2 ?_
    refine vp_callSi (W.runS (As := [.int a, .int 18, .ref tq]) (rest := []) ⟨hx, hb, hml, hown, ht⟩ (c_J3_checkIndex_8e157_18 l dC dI a tq ⟨by omega, by omega⟩) (kS2 3 ht m_731 m_732 m_93 m_733 rfl rfl hd_J3_checkIndex_8e157_i ⟨Nat.le_of_ble_eq_true rfl, Nat.le_of_ble_eq_true rfl⟩) (sR noP (hK.sub (tys' := []) [] rfl)) rfl rfl hl.1 rfl (lv_room (Nat.le_of_ble_eq_true rfl)) dJ0_checkIndex_df160_5 ⟨Nat.le_of_ble_eq_true rfl, Nat.le_of_ble_eq_true rfl⟩) (fun r2 hr2 => ?_)
    refine lv_pop hx hb dJ0_checkIndex_df160_8 rfl ?_
    exact W.vret hx hb hr (fun t ht9 hW => ⟨rfl, trivial, ht9⟩) (fun q hq => by cases hq) dJ0_checkIndex_df160_9
set_option maxHeartbeats 4000000 in
set_option maxRecDepth 100000 in
/-- J0_checkIndex_df160 -/
theorem c_J0_checkIndex_df160_21 (l : Launch) (dC : Nat → ClassId) (dI : Nat → Nat → Nat) (ak av : Nat → Nat) (a : Int32) (h_a : 0 ≤ a.toInt ∧ a.toInt ≤ 20) : Met l yJ0_checkIndex_df160 (wc yJ0_checkIndex_df160 cJ0_checkIndex_df160 2 none) ({ frames := 1, cells := 0, slots := 0, locals := 22 } : Room) (pRZ ak av (dC, dI) classes [] [] [.int a, .int 21]) (va_Sv (fun _ => True)) 0 0 (fun _ => False) := by
  refine Met.ofW (cc := cJ0_checkIndex_df160) (maxL := 2) (ret := none) (by decide) rfl ?_
  intro p e s m args below meth c s₁ B hml hv
  obtain ⟨rfl, hP, hK, hZ⟩ := hv
  have hx := B.exec
  have hb := B.bytes
  have hr := B.returns
  have ht := tb_tl (atoms_spec (ws := wc yJ0_checkIndex_df160 cJ0_checkIndex_df160 2 none) B.pre)
  have hown : s.vm.findClass RJ0 = some m.cls := findClass_of_methodNamed B.named
  have hlocks := B.notSynchronized
  have hl := lv_entry [.int a, .int 21] (n := 2) (Nat.le_of_ble_eq_true rfl)
  rw [lg_entry_eq]
  generalize (lg_sl [.int a, .int 21] ++ List.replicate (2 - (lg_sl [.int a, .int 21]).length) Slot.unset).toArray = ls at hl ⊢
  have hl : lv_has ls 2 [(0, .int a), (1, .int 21)] := hl
  refine lv_iload_n hx hb dJ0_checkIndex_df160_0 rfl (lv_at hl 0 rfl) ?_
  refine lv_iload_n hx hb dJ0_checkIndex_df160_1 rfl (lv_at hl 1 rfl) ?_
  rcases hZ.1.2.2.2.2.1 with hq | ⟨tq, hq⟩
  · refine va_gets hx hb hq va_S.rf hown (ht _ m_729) (fun _ h9 => h9) dJ0_checkIndex_df160_2 ?_
    refine vp_callSi (W.runS (As := [.int a, .int 21, .null]) (rest := []) ⟨hx, hb, hml, hown, ht⟩ (c_J3_checkIndex_8e157_21z l dC dI a ⟨by omega, by omega⟩) (kS2 3 ht m_731 m_732 m_93 m_733 rfl rfl hd_J3_checkIndex_8e157_i ⟨Nat.le_of_ble_eq_true rfl, Nat.le_of_ble_eq_true rfl⟩) (sR noP (hK.sub (tys' := []) [] rfl)) rfl rfl hl.1 rfl (lv_room (Nat.le_of_ble_eq_true rfl)) dJ0_checkIndex_df160_5 ⟨Nat.le_of_ble_eq_true rfl, Nat.le_of_ble_eq_true rfl⟩) (fun r1 hr1 => ?_)
    refine lv_pop hx hb dJ0_checkIndex_df160_8 rfl ?_
    exact W.vret hx hb hr (fun t ht9 hW => ⟨rfl, trivial, ht9⟩) (fun q hq => by cases hq) dJ0_checkIndex_df160_9
  · refine va_gets hx hb hq va_S.rf hown (ht _ m_729) (fun _ h9 => h9) dJ0_checkIndex_df160_2 ?_
    refine vp_callSi (W.runS (As := [.int a, .int 21, .ref tq]) (rest := []) ⟨hx, hb, hml, hown, ht⟩ (c_J3_checkIndex_8e157_21 l dC dI a tq ⟨by omega, by omega⟩) (kS2 3 ht m_731 m_732 m_93 m_733 rfl rfl hd_J3_checkIndex_8e157_i ⟨Nat.le_of_ble_eq_true rfl, Nat.le_of_ble_eq_true rfl⟩) (sR noP (hK.sub (tys' := []) [] rfl)) rfl rfl hl.1 rfl (lv_room (Nat.le_of_ble_eq_true rfl)) dJ0_checkIndex_df160_5 ⟨Nat.le_of_ble_eq_true rfl, Nat.le_of_ble_eq_true rfl⟩) (fun r2 hr2 => ?_)
    refine lv_pop hx hb dJ0_checkIndex_df160_8 rfl ?_
    exact W.vret hx hb hr (fun t ht9 hW => ⟨rfl, trivial, ht9⟩) (fun q hq => by cases hq) dJ0_checkIndex_df160_9
set_option maxHeartbeats 4000000 in
set_option maxRecDepth 100000 in
/-- J0_checkIndex_df160 -/
theorem c_J0_checkIndex_df160_28 (l : Launch) (dC : Nat → ClassId) (dI : Nat → Nat → Nat) (ak av : Nat → Nat) (a : Int32) (h_a : 0 ≤ a.toInt ∧ a.toInt ≤ 27) : Met l yJ0_checkIndex_df160 (wc yJ0_checkIndex_df160 cJ0_checkIndex_df160 2 none) ({ frames := 1, cells := 0, slots := 0, locals := 22 } : Room) (pRZ ak av (dC, dI) classes [] [] [.int a, .int 28]) (va_Sv (fun _ => True)) 0 0 (fun _ => False) := by
  refine Met.ofW (cc := cJ0_checkIndex_df160) (maxL := 2) (ret := none) (by decide) rfl ?_
  intro p e s m args below meth c s₁ B hml hv
  obtain ⟨rfl, hP, hK, hZ⟩ := hv
  have hx := B.exec
  have hb := B.bytes
  have hr := B.returns
  have ht := tb_tl (atoms_spec (ws := wc yJ0_checkIndex_df160 cJ0_checkIndex_df160 2 none) B.pre)
  have hown : s.vm.findClass RJ0 = some m.cls := findClass_of_methodNamed B.named
  have hlocks := B.notSynchronized
  have hl := lv_entry [.int a, .int 28] (n := 2) (Nat.le_of_ble_eq_true rfl)
  rw [lg_entry_eq]
  generalize (lg_sl [.int a, .int 28] ++ List.replicate (2 - (lg_sl [.int a, .int 28]).length) Slot.unset).toArray = ls at hl ⊢
  have hl : lv_has ls 2 [(0, .int a), (1, .int 28)] := hl
  refine lv_iload_n hx hb dJ0_checkIndex_df160_0 rfl (lv_at hl 0 rfl) ?_
  refine lv_iload_n hx hb dJ0_checkIndex_df160_1 rfl (lv_at hl 1 rfl) ?_
  rcases hZ.1.2.2.2.2.1 with hq | ⟨tq, hq⟩
  · refine va_gets hx hb hq va_S.rf hown (ht _ m_729) (fun _ h9 => h9) dJ0_checkIndex_df160_2 ?_
    refine vp_callSi (W.runS (As := [.int a, .int 28, .null]) (rest := []) ⟨hx, hb, hml, hown, ht⟩ (c_J3_checkIndex_8e157_28z l dC dI a ⟨by omega, by omega⟩) (kS2 3 ht m_731 m_732 m_93 m_733 rfl rfl hd_J3_checkIndex_8e157_i ⟨Nat.le_of_ble_eq_true rfl, Nat.le_of_ble_eq_true rfl⟩) (sR noP (hK.sub (tys' := []) [] rfl)) rfl rfl hl.1 rfl (lv_room (Nat.le_of_ble_eq_true rfl)) dJ0_checkIndex_df160_5 ⟨Nat.le_of_ble_eq_true rfl, Nat.le_of_ble_eq_true rfl⟩) (fun r1 hr1 => ?_)
    refine lv_pop hx hb dJ0_checkIndex_df160_8 rfl ?_
    exact W.vret hx hb hr (fun t ht9 hW => ⟨rfl, trivial, ht9⟩) (fun q hq => by cases hq) dJ0_checkIndex_df160_9
  · refine va_gets hx hb hq va_S.rf hown (ht _ m_729) (fun _ h9 => h9) dJ0_checkIndex_df160_2 ?_
    refine vp_callSi (W.runS (As := [.int a, .int 28, .ref tq]) (rest := []) ⟨hx, hb, hml, hown, ht⟩ (c_J3_checkIndex_8e157_28 l dC dI a tq ⟨by omega, by omega⟩) (kS2 3 ht m_731 m_732 m_93 m_733 rfl rfl hd_J3_checkIndex_8e157_i ⟨Nat.le_of_ble_eq_true rfl, Nat.le_of_ble_eq_true rfl⟩) (sR noP (hK.sub (tys' := []) [] rfl)) rfl rfl hl.1 rfl (lv_room (Nat.le_of_ble_eq_true rfl)) dJ0_checkIndex_df160_5 ⟨Nat.le_of_ble_eq_true rfl, Nat.le_of_ble_eq_true rfl⟩) (fun r2 hr2 => ?_)
    refine lv_pop hx hb dJ0_checkIndex_df160_8 rfl ?_
    exact W.vret hx hb hr (fun t ht9 hW => ⟨rfl, trivial, ht9⟩) (fun q hq => by cases hq) dJ0_checkIndex_df160_9
set_option maxHeartbeats 4000000 in
set_option maxRecDepth 100000 in
/-- J0_coder_7d493 -/
theorem c_J0_coder_7d493_0 (l : Launch) (dC : Nat → ClassId) (dI : Nat → Nat → Nat) (ak av : Nat → Nat) : Met l yJ0_coder_7d493 (wc yJ0_coder_7d493 cJ0_coder_7d493 1 (some .byte)) ({ frames := 0, cells := 0, slots := 0, locals := 0 } : Room) (pRZ ak av (dC, dI) classes [] [] [.ref (ak 0)]) (vp_Si (fun r => r = 0)) 0 0 (fun _ => False) := by
  refine Met.ofW (cc := cJ0_coder_7d493) (maxL := 1) (ret := (some .byte)) (by decide) rfl ?_
  intro p e s m args below meth c s₁ B hml hv
  obtain ⟨rfl, hP, hK, hZ⟩ := hv
  have hx := B.exec
  have hb := B.bytes
  have hr := B.returns
  have ht := tb_tl (atoms_spec (ws := wc yJ0_coder_7d493 cJ0_coder_7d493 1 (some .byte)) B.pre)
  have hown : s.vm.findClass RJ0 = some m.cls := findClass_of_methodNamed B.named
  have hlocks := B.notSynchronized
  have hl := lv_entry [.ref (ak 0)] (n := 1) (Nat.le_of_ble_eq_true rfl)
  rw [lg_entry_eq]
  generalize (lg_sl [.ref (ak 0)] ++ List.replicate (1 - (lg_sl [.ref (ak 0)]).length) Slot.unset).toArray = ls at hl ⊢
  have hl : lv_has ls 1 [(0, .ref (ak 0))] := hl
  refine va_gets hx hb hZ.1.2.2.2.1 va_S.rf hown (ht _ m_713) (fun _ h9 => h9) dJ0_coder_7d493_0 ?_
  refine lv_if_eq (tgt := 13) hx hb dJ0_coder_7d493_3 (by decide) (fun c1 => ?_) (fun c1 => ?_)
  · exact absurd c1 (by decide)
  · skip
    refine lv_aload_n hx hb dJ0_coder_7d493_6 rfl (lv_at hl 0 rfl) ?_
    refine vk_getf (v := .int 0) hx hb (hZ.1.2.2.2.2.2.1 0 (by decide)).2.1 va_S.rf hown (ht _ m_1718) (fun _ h9 => h9) dJ0_coder_7d493_7 ?_
    refine lv_goto (tgt := 14) hx hb dJ0_coder_7d493_10 (by decide) ?_
    exact W.zret (v := 0) hx hb hr rfl (fun t ht9 hW => ⟨0, rfl, rfl, ht9⟩) (fun q hq => by cases hq) dJ0_coder_7d493_14
set_option maxHeartbeats 4000000 in
set_option maxRecDepth 100000 in
/-- J0_length_8abf5 -/
theorem c_J0_length_8abf5_0 (l : Launch) (dC : Nat → ClassId) (dI : Nat → Nat → Nat) (ak av : Nat → Nat) : Met l yJ0_length_8abf5 (wc yJ0_length_8abf5 cJ0_length_8abf5 1 (some .int)) ({ frames := 1, cells := 0, slots := 0, locals := 20 } : Room) (pRZ ak av (dC, dI) classes [] [] [.ref (ak 0)]) (vp_Si (fun r => r = 21)) 0 0 (fun _ => False) := by
  refine Met.ofW (cc := cJ0_length_8abf5) (maxL := 1) (ret := (some .int)) (by decide) rfl ?_
  intro p e s m args below meth c s₁ B hml hv
  obtain ⟨rfl, hP, hK, hZ⟩ := hv
  have hx := B.exec
  have hb := B.bytes
  have hr := B.returns
  have ht := tb_tl (atoms_spec (ws := wc yJ0_length_8abf5 cJ0_length_8abf5 1 (some .int)) B.pre)
  have hown : s.vm.findClass RJ0 = some m.cls := findClass_of_methodNamed B.named
  have hlocks := B.notSynchronized
  have hl := lv_entry [.ref (ak 0)] (n := 1) (Nat.le_of_ble_eq_true rfl)
  rw [lg_entry_eq]
  generalize (lg_sl [.ref (ak 0)] ++ List.replicate (1 - (lg_sl [.ref (ak 0)]).length) Slot.unset).toArray = ls at hl ⊢
  have hl : lv_has ls 1 [(0, .ref (ak 0))] := hl
  refine lv_aload_n hx hb dJ0_length_8abf5_0 rfl (lv_at hl 0 rfl) ?_
  refine vk_getf (v := .ref (av 0)) hx hb (hZ.1.2.2.2.2.2.1 0 (by decide)).2.2.1 va_S.rf hown (ht _ m_1717) (fun _ h9 => h9) dJ0_length_8abf5_1 ?_
  refine va_tlen (v := 21) hx hb (hZ.1.2.2.2.2.2.1 0 (by decide)).2.2.2 va_S.rf (by decide) dJ0_length_8abf5_4 ?_
  refine lv_aload_n hx hb dJ0_length_8abf5_5 rfl (lv_at hl 0 rfl) ?_
  refine vp_callSi (W.runV (As := []) (rest := [.int 21]) ⟨hx, hb, hml, hown, ht⟩ (c_J0_coder_7d493_0 l dC dI ak av) (kV 0 ht m_709 m_710 m_711 m_91 m_712 rfl rfl hd_J0_coder_7d493_v ⟨Nat.le_of_ble_eq_true rfl, Nat.le_of_ble_eq_true rfl⟩) (vRZ noP (hK.sub (tys' := []) [] rfl) hZ (vk_recv hZ.1.2.2.2.2.2 (i := 0) (by decide) va_S.rf)) rfl rfl hl.1 rfl (lv_room (Nat.le_of_ble_eq_true rfl)) dJ0_length_8abf5_6 ⟨Nat.le_of_ble_eq_true rfl, Nat.le_of_ble_eq_true rfl⟩) (fun r1 hr1 => ?_)
  obtain rfl : 0 = r1 := hr1.symm
  refine lv_ishr hx hb dJ0_length_8abf5_9 ?_
  refine lv_topi (fun v2 ev2 => ?_)
  obtain rfl : 21 = v2 := (ev2.trans (by decide)).symm
  exact W.iret (v := 21) hx hb hr (fun t ht9 hW => ⟨21, rfl, rfl, ht9⟩) (fun q hq => by cases hq) dJ0_length_8abf5_10
set_option maxHeartbeats 4000000 in
set_option maxRecDepth 100000 in
/-- J0_isLatin1_aae02 -/
theorem c_J0_isLatin1_aae02_0 (l : Launch) (dC : Nat → ClassId) (dI : Nat → Nat → Nat) (ak av : Nat → Nat) : Met l yJ0_isLatin1_aae02 (wc yJ0_isLatin1_aae02 cJ0_isLatin1_aae02 1 (some .boolean)) ({ frames := 0, cells := 0, slots := 0, locals := 0 } : Room) (pRZ ak av (dC, dI) classes [] [] [.ref (ak 0)]) (vp_Si (fun r => r = 1)) 0 0 (fun _ => False) := by
  refine Met.ofW (cc := cJ0_isLatin1_aae02) (maxL := 1) (ret := (some .boolean)) (by decide) rfl ?_
  intro p e s m args below meth c s₁ B hml hv
  obtain ⟨rfl, hP, hK, hZ⟩ := hv
  have hx := B.exec
  have hb := B.bytes
  have hr := B.returns
  have ht := tb_tl (atoms_spec (ws := wc yJ0_isLatin1_aae02 cJ0_isLatin1_aae02 1 (some .boolean)) B.pre)
  have hown : s.vm.findClass RJ0 = some m.cls := findClass_of_methodNamed B.named
  have hlocks := B.notSynchronized
  have hl := lv_entry [.ref (ak 0)] (n := 1) (Nat.le_of_ble_eq_true rfl)
  rw [lg_entry_eq]
  generalize (lg_sl [.ref (ak 0)] ++ List.replicate (1 - (lg_sl [.ref (ak 0)]).length) Slot.unset).toArray = ls at hl ⊢
  have hl : lv_has ls 1 [(0, .ref (ak 0))] := hl
  refine va_gets hx hb hZ.1.2.2.2.1 va_S.rf hown (ht _ m_713) (fun _ h9 => h9) dJ0_isLatin1_aae02_0 ?_
  refine lv_if_eq (tgt := 17) hx hb dJ0_isLatin1_aae02_3 (by decide) (fun c1 => ?_) (fun c1 => ?_)
  · exact absurd c1 (by decide)
  · skip
    refine lv_aload_n hx hb dJ0_isLatin1_aae02_6 rfl (lv_at hl 0 rfl) ?_
    refine vk_getf (v := .int 0) hx hb (hZ.1.2.2.2.2.2.1 0 (by decide)).2.1 va_S.rf hown (ht _ m_1718) (fun _ h9 => h9) dJ0_isLatin1_aae02_7 ?_
    refine lv_if_ne (tgt := 17) hx hb dJ0_isLatin1_aae02_10 (by decide) (fun c2 => ?_) (fun c2 => ?_)
    · exact absurd rfl c2
    · skip
      refine lv_iconst (v := 1) hx hb dJ0_isLatin1_aae02_13 (by decide) ?_
      refine lv_goto (tgt := 18) hx hb dJ0_isLatin1_aae02_14 (by decide) ?_
      exact W.zret (v := 1) hx hb hr rfl (fun t ht9 hW => ⟨1, rfl, rfl, ht9⟩) (fun q hq => by cases hq) dJ0_isLatin1_aae02_18
set_option maxHeartbeats 4000000 in
set_option maxRecDepth 100000 in
/-- J1_charAt_3b067 -/
theorem c_J1_charAt_3b067_0 (l : Launch) (dC : Nat → ClassId) (dI : Nat → Nat → Nat) (ak av : Nat → Nat) (k : Int32) (h_k : 0 ≤ k.toInt ∧ k.toInt ≤ 20) : Met l yJ1_charAt_3b067 (wc yJ1_charAt_3b067 cJ1_charAt_3b067 2 (some .char)) ({ frames := 2, cells := 0, slots := 0, locals := 43 } : Room) (pRZ ak av (dC, dI) classes [] [] [.ref (av 0), .int k]) (vp_Si (fun r => r = (S_byt.getD 0 []).getD k.toNatClampNeg 0)) 0 0 (fun _ => False) := by
  refine Met.ofW (cc := cJ1_charAt_3b067) (maxL := 2) (ret := (some .char)) (by decide) rfl ?_
  intro p e s m args below meth c s₁ B hml hv
  obtain ⟨rfl, hP, hK, hZ⟩ := hv
  have hx := B.exec
  have hb := B.bytes
  have hr := B.returns
  have ht := tb_tl (atoms_spec (ws := wc yJ1_charAt_3b067 cJ1_charAt_3b067 2 (some .char)) B.pre)
  have hown : s.vm.findClass RJ1 = some m.cls := findClass_of_methodNamed B.named
  have hlocks := B.notSynchronized
  have hl := lv_entry [.ref (av 0), .int k] (n := 2) (Nat.le_of_ble_eq_true rfl)
  rw [lg_entry_eq]
  generalize (lg_sl [.ref (av 0), .int k] ++ List.replicate (2 - (lg_sl [.ref (av 0), .int k]).length) Slot.unset).toArray = ls at hl ⊢
  have hl : lv_has ls 2 [(0, .ref (av 0)), (1, .int k)] := hl
  refine lv_iload_n hx hb dJ1_charAt_3b067_0 rfl (lv_at hl 1 rfl) ?_
  refine lv_aload_n hx hb dJ1_charAt_3b067_1 rfl (lv_at hl 0 rfl) ?_
  refine va_tlen (v := 21) hx hb (hZ.1.2.2.2.2.2.1 0 (by decide)).2.2.2 va_S.rf (by decide) dJ1_charAt_3b067_2 ?_
  refine va_csv (W.runS (As := [.int k, .int 21]) (rest := []) ⟨hx, hb, hml, hown, ht⟩ (c_J0_checkIndex_df160_21 l dC dI ak av k ⟨by omega, by omega⟩) (kS2 2 ht m_726 m_727 m_91 m_728 rfl rfl hd_J0_checkIndex_df160_i ⟨Nat.le_of_ble_eq_true rfl, Nat.le_of_ble_eq_true rfl⟩) (sRZ noP (hK.sub (tys' := []) [] rfl) hZ) rfl rfl hl.1 rfl (lv_room (Nat.le_of_ble_eq_true rfl)) dJ1_charAt_3b067_3 ⟨Nat.le_of_ble_eq_true rfl, Nat.le_of_ble_eq_true rfl⟩) (fun _ => ?_)
  refine lv_aload_n hx hb dJ1_charAt_3b067_6 rfl (lv_at hl 0 rfl) ?_
  refine lv_iload_n hx hb dJ1_charAt_3b067_7 rfl (lv_at hl 1 rfl) ?_
  refine va_tb (v := .int ((S_byt.getD 0 []).getD (k : Int32).toNatClampNeg 0)) hx hb (hZ.1.2.2.2.2.2.1 0 (by decide)).2.2.2 va_S.rf (show vp_in k 21 from (vp_in_iff.mpr ⟨by omega, by omega⟩)) rfl dJ1_charAt_3b067_8 ?_
  refine lv_topi (fun v2 ev2 => ?_)
  refine lv_sipush (v := 255) hx hb dJ1_charAt_3b067_9 (by decide) ?_
  refine lv_iand hx hb dJ1_charAt_3b067_12 ?_
  refine lv_topi (fun v3 ev3 => ?_)
  obtain ⟨v4, ev4⟩ : ∃ y : Int32, ((v3 : Int32).toUInt32 % 65536).toInt32 = y := ⟨_, rfl⟩
  refine lv_i2c (v := v4) hx hb dJ1_charAt_3b067_13 ev4 ?_
  exact W.zret (v := v4) hx hb hr (nar_char ev4) (fun t ht9 hW => ⟨v4, rfl, (by subst_vars; exact char_row 0 (by decide) _ (show k.toNatClampNeg < 21 from by show (k.toInt.toNat : Nat) < 21; omega)), ht9⟩) (fun q hq => by cases hq) dJ1_charAt_3b067_14
set_option maxHeartbeats 4000000 in
set_option maxRecDepth 100000 in
/-- J0_charAt_5068e -/
theorem c_J0_charAt_5068e_0 (l : Launch) (dC : Nat → ClassId) (dI : Nat → Nat → Nat) (ak av : Nat → Nat) (k : Int32) (h_k : 0 ≤ k.toInt ∧ k.toInt ≤ 20) : Met l yJ0_charAt_5068e (wc yJ0_charAt_5068e cJ0_charAt_5068e 2 (some .char)) ({ frames := 3, cells := 0, slots := 0, locals := 64 } : Room) (pRZ ak av (dC, dI) classes [] [] [.ref (ak 0), .int k]) (vp_Si (fun r => r = (S_byt.getD 0 []).getD k.toNatClampNeg 0)) 0 0 (fun _ => False) := by
  refine Met.ofW (cc := cJ0_charAt_5068e) (maxL := 2) (ret := (some .char)) (by decide) rfl ?_
  intro p e s m args below meth c s₁ B hml hv
  obtain ⟨rfl, hP, hK, hZ⟩ := hv
  have hx := B.exec
  have hb := B.bytes
  have hr := B.returns
  have ht := tb_tl (atoms_spec (ws := wc yJ0_charAt_5068e cJ0_charAt_5068e 2 (some .char)) B.pre)
  have hown : s.vm.findClass RJ0 = some m.cls := findClass_of_methodNamed B.named
  have hlocks := B.notSynchronized
  have hl := lv_entry [.ref (ak 0), .int k] (n := 2) (Nat.le_of_ble_eq_true rfl)
  rw [lg_entry_eq]
  generalize (lg_sl [.ref (ak 0), .int k] ++ List.replicate (2 - (lg_sl [.ref (ak 0), .int k]).length) Slot.unset).toArray = ls at hl ⊢
  have hl : lv_has ls 2 [(0, .ref (ak 0)), (1, .int k)] := hl
  refine lv_aload_n hx hb dJ0_charAt_5068e_0 rfl (lv_at hl 0 rfl) ?_
  refine vp_callSi (W.runV (As := []) (rest := []) ⟨hx, hb, hml, hown, ht⟩ (c_J0_isLatin1_aae02_0 l dC dI ak av) (kV 0 ht m_719 m_720 m_721 m_91 m_722 rfl rfl hd_J0_isLatin1_aae02_v ⟨Nat.le_of_ble_eq_true rfl, Nat.le_of_ble_eq_true rfl⟩) (vRZ noP (hK.sub (tys' := []) [] rfl) hZ (vk_recv hZ.1.2.2.2.2.2 (i := 0) (by decide) va_S.rf)) rfl rfl hl.1 rfl (lv_room (Nat.le_of_ble_eq_true rfl)) dJ0_charAt_5068e_1 ⟨Nat.le_of_ble_eq_true rfl, Nat.le_of_ble_eq_true rfl⟩) (fun r1 hr1 => ?_)
  obtain rfl : 1 = r1 := hr1.symm
  refine lv_if_eq (tgt := 16) hx hb dJ0_charAt_5068e_4 (by decide) (fun c2 => ?_) (fun c2 => ?_)
  · exact absurd c2 (by decide)
  · skip
    refine lv_aload_n hx hb dJ0_charAt_5068e_7 rfl (lv_at hl 0 rfl) ?_
    refine vk_getf (v := .ref (av 0)) hx hb (hZ.1.2.2.2.2.2.1 0 (by decide)).2.2.1 va_S.rf hown (ht _ m_1717) (fun _ h9 => h9) dJ0_charAt_5068e_8 ?_
    refine lv_iload_n hx hb dJ0_charAt_5068e_11 rfl (lv_at hl 1 rfl) ?_
    refine vp_callSi (W.runS (As := [.ref (av 0), .int k]) (rest := []) ⟨hx, hb, hml, hown, ht⟩ (c_J1_charAt_3b067_0 l dC dI ak av k ⟨by omega, by omega⟩) (kS2 2 ht m_723 m_724 m_92 m_725 rfl rfl hd_J1_charAt_3b067_i ⟨Nat.le_of_ble_eq_true rfl, Nat.le_of_ble_eq_true rfl⟩) (sRZ noP (hK.sub (tys' := []) [] rfl) hZ) rfl rfl hl.1 rfl (lv_room (Nat.le_of_ble_eq_true rfl)) dJ0_charAt_5068e_12 ⟨Nat.le_of_ble_eq_true rfl, Nat.le_of_ble_eq_true rfl⟩) (fun r3 hr3 => ?_)
    exact W.zret (v := r3) hx hb hr (by rw [hr3]; exact nar_char (char_row 0 (by decide) _ (show k.toNatClampNeg < 21 from by show (k.toInt.toNat : Nat) < 21; omega))) (fun t ht9 hW => ⟨r3, rfl, hr3, ht9⟩) (fun q hq => by cases hq) dJ0_charAt_5068e_15
set_option maxHeartbeats 4000000 in
set_option maxRecDepth 100000 in
/-- J0_coder_7d493 -/
theorem c_J0_coder_7d493_1 (l : Launch) (dC : Nat → ClassId) (dI : Nat → Nat → Nat) (ak av : Nat → Nat) : Met l yJ0_coder_7d493 (wc yJ0_coder_7d493 cJ0_coder_7d493 1 (some .byte)) ({ frames := 0, cells := 0, slots := 0, locals := 0 } : Room) (pRZ ak av (dC, dI) classes [] [] [.ref (ak 1)]) (vp_Si (fun r => r = 0)) 0 0 (fun _ => False) := by
  refine Met.ofW (cc := cJ0_coder_7d493) (maxL := 1) (ret := (some .byte)) (by decide) rfl ?_
  intro p e s m args below meth c s₁ B hml hv
  obtain ⟨rfl, hP, hK, hZ⟩ := hv
  have hx := B.exec
  have hb := B.bytes
  have hr := B.returns
  have ht := tb_tl (atoms_spec (ws := wc yJ0_coder_7d493 cJ0_coder_7d493 1 (some .byte)) B.pre)
  have hown : s.vm.findClass RJ0 = some m.cls := findClass_of_methodNamed B.named
  have hlocks := B.notSynchronized
  have hl := lv_entry [.ref (ak 1)] (n := 1) (Nat.le_of_ble_eq_true rfl)
  rw [lg_entry_eq]
  generalize (lg_sl [.ref (ak 1)] ++ List.replicate (1 - (lg_sl [.ref (ak 1)]).length) Slot.unset).toArray = ls at hl ⊢
  have hl : lv_has ls 1 [(0, .ref (ak 1))] := hl
  refine va_gets hx hb hZ.1.2.2.2.1 va_S.rf hown (ht _ m_713) (fun _ h9 => h9) dJ0_coder_7d493_0 ?_
  refine lv_if_eq (tgt := 13) hx hb dJ0_coder_7d493_3 (by decide) (fun c1 => ?_) (fun c1 => ?_)
  · exact absurd c1 (by decide)
  · skip
    refine lv_aload_n hx hb dJ0_coder_7d493_6 rfl (lv_at hl 0 rfl) ?_
    refine vk_getf (v := .int 0) hx hb (hZ.1.2.2.2.2.2.1 1 (by decide)).2.1 va_S.rf hown (ht _ m_1718) (fun _ h9 => h9) dJ0_coder_7d493_7 ?_
    refine lv_goto (tgt := 14) hx hb dJ0_coder_7d493_10 (by decide) ?_
    exact W.zret (v := 0) hx hb hr rfl (fun t ht9 hW => ⟨0, rfl, rfl, ht9⟩) (fun q hq => by cases hq) dJ0_coder_7d493_14
set_option maxHeartbeats 4000000 in
set_option maxRecDepth 100000 in
/-- J0_length_8abf5 -/
theorem c_J0_length_8abf5_1 (l : Launch) (dC : Nat → ClassId) (dI : Nat → Nat → Nat) (ak av : Nat → Nat) : Met l yJ0_length_8abf5 (wc yJ0_length_8abf5 cJ0_length_8abf5 1 (some .int)) ({ frames := 1, cells := 0, slots := 0, locals := 20 } : Room) (pRZ ak av (dC, dI) classes [] [] [.ref (ak 1)]) (vp_Si (fun r => r = 28)) 0 0 (fun _ => False) := by
  refine Met.ofW (cc := cJ0_length_8abf5) (maxL := 1) (ret := (some .int)) (by decide) rfl ?_
  intro p e s m args below meth c s₁ B hml hv
  obtain ⟨rfl, hP, hK, hZ⟩ := hv
  have hx := B.exec
  have hb := B.bytes
  have hr := B.returns
  have ht := tb_tl (atoms_spec (ws := wc yJ0_length_8abf5 cJ0_length_8abf5 1 (some .int)) B.pre)
  have hown : s.vm.findClass RJ0 = some m.cls := findClass_of_methodNamed B.named
  have hlocks := B.notSynchronized
  have hl := lv_entry [.ref (ak 1)] (n := 1) (Nat.le_of_ble_eq_true rfl)
  rw [lg_entry_eq]
  generalize (lg_sl [.ref (ak 1)] ++ List.replicate (1 - (lg_sl [.ref (ak 1)]).length) Slot.unset).toArray = ls at hl ⊢
  have hl : lv_has ls 1 [(0, .ref (ak 1))] := hl
  refine lv_aload_n hx hb dJ0_length_8abf5_0 rfl (lv_at hl 0 rfl) ?_
  refine vk_getf (v := .ref (av 1)) hx hb (hZ.1.2.2.2.2.2.1 1 (by decide)).2.2.1 va_S.rf hown (ht _ m_1717) (fun _ h9 => h9) dJ0_length_8abf5_1 ?_
  refine va_tlen (v := 28) hx hb (hZ.1.2.2.2.2.2.1 1 (by decide)).2.2.2 va_S.rf (by decide) dJ0_length_8abf5_4 ?_
  refine lv_aload_n hx hb dJ0_length_8abf5_5 rfl (lv_at hl 0 rfl) ?_
  refine vp_callSi (W.runV (As := []) (rest := [.int 28]) ⟨hx, hb, hml, hown, ht⟩ (c_J0_coder_7d493_1 l dC dI ak av) (kV 0 ht m_709 m_710 m_711 m_91 m_712 rfl rfl hd_J0_coder_7d493_v ⟨Nat.le_of_ble_eq_true rfl, Nat.le_of_ble_eq_true rfl⟩) (vRZ noP (hK.sub (tys' := []) [] rfl) hZ (vk_recv hZ.1.2.2.2.2.2 (i := 1) (by decide) va_S.rf)) rfl rfl hl.1 rfl (lv_room (Nat.le_of_ble_eq_true rfl)) dJ0_length_8abf5_6 ⟨Nat.le_of_ble_eq_true rfl, Nat.le_of_ble_eq_true rfl⟩) (fun r1 hr1 => ?_)
  obtain rfl : 0 = r1 := hr1.symm
  refine lv_ishr hx hb dJ0_length_8abf5_9 ?_
  refine lv_topi (fun v2 ev2 => ?_)
  obtain rfl : 28 = v2 := (ev2.trans (by decide)).symm
  exact W.iret (v := 28) hx hb hr (fun t ht9 hW => ⟨28, rfl, rfl, ht9⟩) (fun q hq => by cases hq) dJ0_length_8abf5_10
set_option maxHeartbeats 4000000 in
set_option maxRecDepth 100000 in
/-- J0_isLatin1_aae02 -/
theorem c_J0_isLatin1_aae02_1 (l : Launch) (dC : Nat → ClassId) (dI : Nat → Nat → Nat) (ak av : Nat → Nat) : Met l yJ0_isLatin1_aae02 (wc yJ0_isLatin1_aae02 cJ0_isLatin1_aae02 1 (some .boolean)) ({ frames := 0, cells := 0, slots := 0, locals := 0 } : Room) (pRZ ak av (dC, dI) classes [] [] [.ref (ak 1)]) (vp_Si (fun r => r = 1)) 0 0 (fun _ => False) := by
  refine Met.ofW (cc := cJ0_isLatin1_aae02) (maxL := 1) (ret := (some .boolean)) (by decide) rfl ?_
  intro p e s m args below meth c s₁ B hml hv
  obtain ⟨rfl, hP, hK, hZ⟩ := hv
  have hx := B.exec
  have hb := B.bytes
  have hr := B.returns
  have ht := tb_tl (atoms_spec (ws := wc yJ0_isLatin1_aae02 cJ0_isLatin1_aae02 1 (some .boolean)) B.pre)
  have hown : s.vm.findClass RJ0 = some m.cls := findClass_of_methodNamed B.named
  have hlocks := B.notSynchronized
  have hl := lv_entry [.ref (ak 1)] (n := 1) (Nat.le_of_ble_eq_true rfl)
  rw [lg_entry_eq]
  generalize (lg_sl [.ref (ak 1)] ++ List.replicate (1 - (lg_sl [.ref (ak 1)]).length) Slot.unset).toArray = ls at hl ⊢
  have hl : lv_has ls 1 [(0, .ref (ak 1))] := hl
  refine va_gets hx hb hZ.1.2.2.2.1 va_S.rf hown (ht _ m_713) (fun _ h9 => h9) dJ0_isLatin1_aae02_0 ?_
  refine lv_if_eq (tgt := 17) hx hb dJ0_isLatin1_aae02_3 (by decide) (fun c1 => ?_) (fun c1 => ?_)
  · exact absurd c1 (by decide)
  · skip
    refine lv_aload_n hx hb dJ0_isLatin1_aae02_6 rfl (lv_at hl 0 rfl) ?_
    refine vk_getf (v := .int 0) hx hb (hZ.1.2.2.2.2.2.1 1 (by decide)).2.1 va_S.rf hown (ht _ m_1718) (fun _ h9 => h9) dJ0_isLatin1_aae02_7 ?_
    refine lv_if_ne (tgt := 17) hx hb dJ0_isLatin1_aae02_10 (by decide) (fun c2 => ?_) (fun c2 => ?_)
    · exact absurd rfl c2
    · skip
      refine lv_iconst (v := 1) hx hb dJ0_isLatin1_aae02_13 (by decide) ?_
      refine lv_goto (tgt := 18) hx hb dJ0_isLatin1_aae02_14 (by decide) ?_
      exact W.zret (v := 1) hx hb hr rfl (fun t ht9 hW => ⟨1, rfl, rfl, ht9⟩) (fun q hq => by cases hq) dJ0_isLatin1_aae02_18
set_option maxHeartbeats 4000000 in
set_option maxRecDepth 100000 in
/-- J1_charAt_3b067 -/
theorem c_J1_charAt_3b067_1 (l : Launch) (dC : Nat → ClassId) (dI : Nat → Nat → Nat) (ak av : Nat → Nat) (k : Int32) (h_k : 0 ≤ k.toInt ∧ k.toInt ≤ 27) : Met l yJ1_charAt_3b067 (wc yJ1_charAt_3b067 cJ1_charAt_3b067 2 (some .char)) ({ frames := 2, cells := 0, slots := 0, locals := 43 } : Room) (pRZ ak av (dC, dI) classes [] [] [.ref (av 1), .int k]) (vp_Si (fun r => r = (S_byt.getD 1 []).getD k.toNatClampNeg 0)) 0 0 (fun _ => False) := by
  refine Met.ofW (cc := cJ1_charAt_3b067) (maxL := 2) (ret := (some .char)) (by decide) rfl ?_
  intro p e s m args below meth c s₁ B hml hv
  obtain ⟨rfl, hP, hK, hZ⟩ := hv
  have hx := B.exec
  have hb := B.bytes
  have hr := B.returns
  have ht := tb_tl (atoms_spec (ws := wc yJ1_charAt_3b067 cJ1_charAt_3b067 2 (some .char)) B.pre)
  have hown : s.vm.findClass RJ1 = some m.cls := findClass_of_methodNamed B.named
  have hlocks := B.notSynchronized
  have hl := lv_entry [.ref (av 1), .int k] (n := 2) (Nat.le_of_ble_eq_true rfl)
  rw [lg_entry_eq]
  generalize (lg_sl [.ref (av 1), .int k] ++ List.replicate (2 - (lg_sl [.ref (av 1), .int k]).length) Slot.unset).toArray = ls at hl ⊢
  have hl : lv_has ls 2 [(0, .ref (av 1)), (1, .int k)] := hl
  refine lv_iload_n hx hb dJ1_charAt_3b067_0 rfl (lv_at hl 1 rfl) ?_
  refine lv_aload_n hx hb dJ1_charAt_3b067_1 rfl (lv_at hl 0 rfl) ?_
  refine va_tlen (v := 28) hx hb (hZ.1.2.2.2.2.2.1 1 (by decide)).2.2.2 va_S.rf (by decide) dJ1_charAt_3b067_2 ?_
  refine va_csv (W.runS (As := [.int k, .int 28]) (rest := []) ⟨hx, hb, hml, hown, ht⟩ (c_J0_checkIndex_df160_28 l dC dI ak av k ⟨by omega, by omega⟩) (kS2 2 ht m_726 m_727 m_91 m_728 rfl rfl hd_J0_checkIndex_df160_i ⟨Nat.le_of_ble_eq_true rfl, Nat.le_of_ble_eq_true rfl⟩) (sRZ noP (hK.sub (tys' := []) [] rfl) hZ) rfl rfl hl.1 rfl (lv_room (Nat.le_of_ble_eq_true rfl)) dJ1_charAt_3b067_3 ⟨Nat.le_of_ble_eq_true rfl, Nat.le_of_ble_eq_true rfl⟩) (fun _ => ?_)
  refine lv_aload_n hx hb dJ1_charAt_3b067_6 rfl (lv_at hl 0 rfl) ?_
  refine lv_iload_n hx hb dJ1_charAt_3b067_7 rfl (lv_at hl 1 rfl) ?_
  refine va_tb (v := .int ((S_byt.getD 1 []).getD (k : Int32).toNatClampNeg 0)) hx hb (hZ.1.2.2.2.2.2.1 1 (by decide)).2.2.2 va_S.rf (show vp_in k 28 from (vp_in_iff.mpr ⟨by omega, by omega⟩)) rfl dJ1_charAt_3b067_8 ?_
  refine lv_topi (fun v2 ev2 => ?_)
  refine lv_sipush (v := 255) hx hb dJ1_charAt_3b067_9 (by decide) ?_
  refine lv_iand hx hb dJ1_charAt_3b067_12 ?_
  refine lv_topi (fun v3 ev3 => ?_)
  obtain ⟨v4, ev4⟩ : ∃ y : Int32, ((v3 : Int32).toUInt32 % 65536).toInt32 = y := ⟨_, rfl⟩
  refine lv_i2c (v := v4) hx hb dJ1_charAt_3b067_13 ev4 ?_
  exact W.zret (v := v4) hx hb hr (nar_char ev4) (fun t ht9 hW => ⟨v4, rfl, (by subst_vars; exact char_row 1 (by decide) _ (show k.toNatClampNeg < 28 from by show (k.toInt.toNat : Nat) < 28; omega)), ht9⟩) (fun q hq => by cases hq) dJ1_charAt_3b067_14
set_option maxHeartbeats 4000000 in
set_option maxRecDepth 100000 in
/-- J0_charAt_5068e -/
theorem c_J0_charAt_5068e_1 (l : Launch) (dC : Nat → ClassId) (dI : Nat → Nat → Nat) (ak av : Nat → Nat) (k : Int32) (h_k : 0 ≤ k.toInt ∧ k.toInt ≤ 27) : Met l yJ0_charAt_5068e (wc yJ0_charAt_5068e cJ0_charAt_5068e 2 (some .char)) ({ frames := 3, cells := 0, slots := 0, locals := 64 } : Room) (pRZ ak av (dC, dI) classes [] [] [.ref (ak 1), .int k]) (vp_Si (fun r => r = (S_byt.getD 1 []).getD k.toNatClampNeg 0)) 0 0 (fun _ => False) := by
  refine Met.ofW (cc := cJ0_charAt_5068e) (maxL := 2) (ret := (some .char)) (by decide) rfl ?_
  intro p e s m args below meth c s₁ B hml hv
  obtain ⟨rfl, hP, hK, hZ⟩ := hv
  have hx := B.exec
  have hb := B.bytes
  have hr := B.returns
  have ht := tb_tl (atoms_spec (ws := wc yJ0_charAt_5068e cJ0_charAt_5068e 2 (some .char)) B.pre)
  have hown : s.vm.findClass RJ0 = some m.cls := findClass_of_methodNamed B.named
  have hlocks := B.notSynchronized
  have hl := lv_entry [.ref (ak 1), .int k] (n := 2) (Nat.le_of_ble_eq_true rfl)
  rw [lg_entry_eq]
  generalize (lg_sl [.ref (ak 1), .int k] ++ List.replicate (2 - (lg_sl [.ref (ak 1), .int k]).length) Slot.unset).toArray = ls at hl ⊢
  have hl : lv_has ls 2 [(0, .ref (ak 1)), (1, .int k)] := hl
  refine lv_aload_n hx hb dJ0_charAt_5068e_0 rfl (lv_at hl 0 rfl) ?_
  refine vp_callSi (W.runV (As := []) (rest := []) ⟨hx, hb, hml, hown, ht⟩ (c_J0_isLatin1_aae02_1 l dC dI ak av) (kV 0 ht m_719 m_720 m_721 m_91 m_722 rfl rfl hd_J0_isLatin1_aae02_v ⟨Nat.le_of_ble_eq_true rfl, Nat.le_of_ble_eq_true rfl⟩) (vRZ noP (hK.sub (tys' := []) [] rfl) hZ (vk_recv hZ.1.2.2.2.2.2 (i := 1) (by decide) va_S.rf)) rfl rfl hl.1 rfl (lv_room (Nat.le_of_ble_eq_true rfl)) dJ0_charAt_5068e_1 ⟨Nat.le_of_ble_eq_true rfl, Nat.le_of_ble_eq_true rfl⟩) (fun r1 hr1 => ?_)
  obtain rfl : 1 = r1 := hr1.symm
  refine lv_if_eq (tgt := 16) hx hb dJ0_charAt_5068e_4 (by decide) (fun c2 => ?_) (fun c2 => ?_)
  · exact absurd c2 (by decide)
  · skip
    refine lv_aload_n hx hb dJ0_charAt_5068e_7 rfl (lv_at hl 0 rfl) ?_
    refine vk_getf (v := .ref (av 1)) hx hb (hZ.1.2.2.2.2.2.1 1 (by decide)).2.2.1 va_S.rf hown (ht _ m_1717) (fun _ h9 => h9) dJ0_charAt_5068e_8 ?_
    refine lv_iload_n hx hb dJ0_charAt_5068e_11 rfl (lv_at hl 1 rfl) ?_
    refine vp_callSi (W.runS (As := [.ref (av 1), .int k]) (rest := []) ⟨hx, hb, hml, hown, ht⟩ (c_J1_charAt_3b067_1 l dC dI ak av k ⟨by omega, by omega⟩) (kS2 2 ht m_723 m_724 m_92 m_725 rfl rfl hd_J1_charAt_3b067_i ⟨Nat.le_of_ble_eq_true rfl, Nat.le_of_ble_eq_true rfl⟩) (sRZ noP (hK.sub (tys' := []) [] rfl) hZ) rfl rfl hl.1 rfl (lv_room (Nat.le_of_ble_eq_true rfl)) dJ0_charAt_5068e_12 ⟨Nat.le_of_ble_eq_true rfl, Nat.le_of_ble_eq_true rfl⟩) (fun r3 hr3 => ?_)
    exact W.zret (v := r3) hx hb hr (by rw [hr3]; exact nar_char (char_row 1 (by decide) _ (show k.toNatClampNeg < 28 from by show (k.toInt.toNat : Nat) < 28; omega))) (fun t ht9 hW => ⟨r3, rfl, hr3, ht9⟩) (fun q hq => by cases hq) dJ0_charAt_5068e_15
set_option maxHeartbeats 4000000 in
set_option maxRecDepth 100000 in
/-- J0_coder_7d493 -/
theorem c_J0_coder_7d493_2 (l : Launch) (dC : Nat → ClassId) (dI : Nat → Nat → Nat) (ak av : Nat → Nat) : Met l yJ0_coder_7d493 (wc yJ0_coder_7d493 cJ0_coder_7d493 1 (some .byte)) ({ frames := 0, cells := 0, slots := 0, locals := 0 } : Room) (pRZ ak av (dC, dI) classes [] [] [.ref (ak 2)]) (vp_Si (fun r => r = 0)) 0 0 (fun _ => False) := by
  refine Met.ofW (cc := cJ0_coder_7d493) (maxL := 1) (ret := (some .byte)) (by decide) rfl ?_
  intro p e s m args below meth c s₁ B hml hv
  obtain ⟨rfl, hP, hK, hZ⟩ := hv
  have hx := B.exec
  have hb := B.bytes
  have hr := B.returns
  have ht := tb_tl (atoms_spec (ws := wc yJ0_coder_7d493 cJ0_coder_7d493 1 (some .byte)) B.pre)
  have hown : s.vm.findClass RJ0 = some m.cls := findClass_of_methodNamed B.named
  have hlocks := B.notSynchronized
  have hl := lv_entry [.ref (ak 2)] (n := 1) (Nat.le_of_ble_eq_true rfl)
  rw [lg_entry_eq]
  generalize (lg_sl [.ref (ak 2)] ++ List.replicate (1 - (lg_sl [.ref (ak 2)]).length) Slot.unset).toArray = ls at hl ⊢
  have hl : lv_has ls 1 [(0, .ref (ak 2))] := hl
  refine va_gets hx hb hZ.1.2.2.2.1 va_S.rf hown (ht _ m_713) (fun _ h9 => h9) dJ0_coder_7d493_0 ?_
  refine lv_if_eq (tgt := 13) hx hb dJ0_coder_7d493_3 (by decide) (fun c1 => ?_) (fun c1 => ?_)
  · exact absurd c1 (by decide)
  · skip
    refine lv_aload_n hx hb dJ0_coder_7d493_6 rfl (lv_at hl 0 rfl) ?_
    refine vk_getf (v := .int 0) hx hb (hZ.1.2.2.2.2.2.1 2 (by decide)).2.1 va_S.rf hown (ht _ m_1718) (fun _ h9 => h9) dJ0_coder_7d493_7 ?_
    refine lv_goto (tgt := 14) hx hb dJ0_coder_7d493_10 (by decide) ?_
    exact W.zret (v := 0) hx hb hr rfl (fun t ht9 hW => ⟨0, rfl, rfl, ht9⟩) (fun q hq => by cases hq) dJ0_coder_7d493_14
set_option maxHeartbeats 4000000 in
set_option maxRecDepth 100000 in
/-- J0_length_8abf5 -/
theorem c_J0_length_8abf5_2 (l : Launch) (dC : Nat → ClassId) (dI : Nat → Nat → Nat) (ak av : Nat → Nat) : Met l yJ0_length_8abf5 (wc yJ0_length_8abf5 cJ0_length_8abf5 1 (some .int)) ({ frames := 1, cells := 0, slots := 0, locals := 20 } : Room) (pRZ ak av (dC, dI) classes [] [] [.ref (ak 2)]) (vp_Si (fun r => r = 18)) 0 0 (fun _ => False) := by
  refine Met.ofW (cc := cJ0_length_8abf5) (maxL := 1) (ret := (some .int)) (by decide) rfl ?_
  intro p e s m args below meth c s₁ B hml hv
  obtain ⟨rfl, hP, hK, hZ⟩ := hv
  have hx := B.exec
  have hb := B.bytes
  have hr := B.returns
  have ht := tb_tl (atoms_spec (ws := wc yJ0_length_8abf5 cJ0_length_8abf5 1 (some .int)) B.pre)
  have hown : s.vm.findClass RJ0 = some m.cls := findClass_of_methodNamed B.named
  have hlocks := B.notSynchronized
  have hl := lv_entry [.ref (ak 2)] (n := 1) (Nat.le_of_ble_eq_true rfl)
  rw [lg_entry_eq]
  generalize (lg_sl [.ref (ak 2)] ++ List.replicate (1 - (lg_sl [.ref (ak 2)]).length) Slot.unset).toArray = ls at hl ⊢
  have hl : lv_has ls 1 [(0, .ref (ak 2))] := hl
  refine lv_aload_n hx hb dJ0_length_8abf5_0 rfl (lv_at hl 0 rfl) ?_
  refine vk_getf (v := .ref (av 2)) hx hb (hZ.1.2.2.2.2.2.1 2 (by decide)).2.2.1 va_S.rf hown (ht _ m_1717) (fun _ h9 => h9) dJ0_length_8abf5_1 ?_
  refine va_tlen (v := 18) hx hb (hZ.1.2.2.2.2.2.1 2 (by decide)).2.2.2 va_S.rf (by decide) dJ0_length_8abf5_4 ?_
  refine lv_aload_n hx hb dJ0_length_8abf5_5 rfl (lv_at hl 0 rfl) ?_
  refine vp_callSi (W.runV (As := []) (rest := [.int 18]) ⟨hx, hb, hml, hown, ht⟩ (c_J0_coder_7d493_2 l dC dI ak av) (kV 0 ht m_709 m_710 m_711 m_91 m_712 rfl rfl hd_J0_coder_7d493_v ⟨Nat.le_of_ble_eq_true rfl, Nat.le_of_ble_eq_true rfl⟩) (vRZ noP (hK.sub (tys' := []) [] rfl) hZ (vk_recv hZ.1.2.2.2.2.2 (i := 2) (by decide) va_S.rf)) rfl rfl hl.1 rfl (lv_room (Nat.le_of_ble_eq_true rfl)) dJ0_length_8abf5_6 ⟨Nat.le_of_ble_eq_true rfl, Nat.le_of_ble_eq_true rfl⟩) (fun r1 hr1 => ?_)
  obtain rfl : 0 = r1 := hr1.symm
  refine lv_ishr hx hb dJ0_length_8abf5_9 ?_
  refine lv_topi (fun v2 ev2 => ?_)
  obtain rfl : 18 = v2 := (ev2.trans (by decide)).symm
  exact W.iret (v := 18) hx hb hr (fun t ht9 hW => ⟨18, rfl, rfl, ht9⟩) (fun q hq => by cases hq) dJ0_length_8abf5_10
set_option maxHeartbeats 4000000 in
set_option maxRecDepth 100000 in
/-- J0_isLatin1_aae02 -/
theorem c_J0_isLatin1_aae02_2 (l : Launch) (dC : Nat → ClassId) (dI : Nat → Nat → Nat) (ak av : Nat → Nat) : Met l yJ0_isLatin1_aae02 (wc yJ0_isLatin1_aae02 cJ0_isLatin1_aae02 1 (some .boolean)) ({ frames := 0, cells := 0, slots := 0, locals := 0 } : Room) (pRZ ak av (dC, dI) classes [] [] [.ref (ak 2)]) (vp_Si (fun r => r = 1)) 0 0 (fun _ => False) := by
  refine Met.ofW (cc := cJ0_isLatin1_aae02) (maxL := 1) (ret := (some .boolean)) (by decide) rfl ?_
  intro p e s m args below meth c s₁ B hml hv
  obtain ⟨rfl, hP, hK, hZ⟩ := hv
  have hx := B.exec
  have hb := B.bytes
  have hr := B.returns
  have ht := tb_tl (atoms_spec (ws := wc yJ0_isLatin1_aae02 cJ0_isLatin1_aae02 1 (some .boolean)) B.pre)
  have hown : s.vm.findClass RJ0 = some m.cls := findClass_of_methodNamed B.named
  have hlocks := B.notSynchronized
  have hl := lv_entry [.ref (ak 2)] (n := 1) (Nat.le_of_ble_eq_true rfl)
  rw [lg_entry_eq]
  generalize (lg_sl [.ref (ak 2)] ++ List.replicate (1 - (lg_sl [.ref (ak 2)]).length) Slot.unset).toArray = ls at hl ⊢
  have hl : lv_has ls 1 [(0, .ref (ak 2))] := hl
  refine va_gets hx hb hZ.1.2.2.2.1 va_S.rf hown (ht _ m_713) (fun _ h9 => h9) dJ0_isLatin1_aae02_0 ?_
  refine lv_if_eq (tgt := 17) hx hb dJ0_isLatin1_aae02_3 (by decide) (fun c1 => ?_) (fun c1 => ?_)
  · exact absurd c1 (by decide)
  · skip
    refine lv_aload_n hx hb dJ0_isLatin1_aae02_6 rfl (lv_at hl 0 rfl) ?_
    refine vk_getf (v := .int 0) hx hb (hZ.1.2.2.2.2.2.1 2 (by decide)).2.1 va_S.rf hown (ht _ m_1718) (fun _ h9 => h9) dJ0_isLatin1_aae02_7 ?_
    refine lv_if_ne (tgt := 17) hx hb dJ0_isLatin1_aae02_10 (by decide) (fun c2 => ?_) (fun c2 => ?_)
    · exact absurd rfl c2
    · skip
      refine lv_iconst (v := 1) hx hb dJ0_isLatin1_aae02_13 (by decide) ?_
      refine lv_goto (tgt := 18) hx hb dJ0_isLatin1_aae02_14 (by decide) ?_
      exact W.zret (v := 1) hx hb hr rfl (fun t ht9 hW => ⟨1, rfl, rfl, ht9⟩) (fun q hq => by cases hq) dJ0_isLatin1_aae02_18
set_option maxHeartbeats 4000000 in
set_option maxRecDepth 100000 in
/-- J1_charAt_3b067 -/
theorem c_J1_charAt_3b067_2 (l : Launch) (dC : Nat → ClassId) (dI : Nat → Nat → Nat) (ak av : Nat → Nat) (k : Int32) (h_k : 0 ≤ k.toInt ∧ k.toInt ≤ 17) : Met l yJ1_charAt_3b067 (wc yJ1_charAt_3b067 cJ1_charAt_3b067 2 (some .char)) ({ frames := 2, cells := 0, slots := 0, locals := 43 } : Room) (pRZ ak av (dC, dI) classes [] [] [.ref (av 2), .int k]) (vp_Si (fun r => r = (S_byt.getD 2 []).getD k.toNatClampNeg 0)) 0 0 (fun _ => False) := by
  refine Met.ofW (cc := cJ1_charAt_3b067) (maxL := 2) (ret := (some .char)) (by decide) rfl ?_
  intro p e s m args below meth c s₁ B hml hv
  obtain ⟨rfl, hP, hK, hZ⟩ := hv
  have hx := B.exec
  have hb := B.bytes
  have hr := B.returns
  have ht := tb_tl (atoms_spec (ws := wc yJ1_charAt_3b067 cJ1_charAt_3b067 2 (some .char)) B.pre)
  have hown : s.vm.findClass RJ1 = some m.cls := findClass_of_methodNamed B.named
  have hlocks := B.notSynchronized
  have hl := lv_entry [.ref (av 2), .int k] (n := 2) (Nat.le_of_ble_eq_true rfl)
  rw [lg_entry_eq]
  generalize (lg_sl [.ref (av 2), .int k] ++ List.replicate (2 - (lg_sl [.ref (av 2), .int k]).length) Slot.unset).toArray = ls at hl ⊢
  have hl : lv_has ls 2 [(0, .ref (av 2)), (1, .int k)] := hl
  refine lv_iload_n hx hb dJ1_charAt_3b067_0 rfl (lv_at hl 1 rfl) ?_
  refine lv_aload_n hx hb dJ1_charAt_3b067_1 rfl (lv_at hl 0 rfl) ?_
  refine va_tlen (v := 18) hx hb (hZ.1.2.2.2.2.2.1 2 (by decide)).2.2.2 va_S.rf (by decide) dJ1_charAt_3b067_2 ?_
  refine va_csv (W.runS (As := [.int k, .int 18]) (rest := []) ⟨hx, hb, hml, hown, ht⟩ (c_J0_checkIndex_df160_18 l dC dI ak av k ⟨by omega, by omega⟩) (kS2 2 ht m_726 m_727 m_91 m_728 rfl rfl hd_J0_checkIndex_df160_i ⟨Nat.le_of_ble_eq_true rfl, Nat.le_of_ble_eq_true rfl⟩) (sRZ noP (hK.sub (tys' := []) [] rfl) hZ) rfl rfl hl.1 rfl (lv_room (Nat.le_of_ble_eq_true rfl)) dJ1_charAt_3b067_3 ⟨Nat.le_of_ble_eq_true rfl, Nat.le_of_ble_eq_true rfl⟩) (fun _ => ?_)
  refine lv_aload_n hx hb dJ1_charAt_3b067_6 rfl (lv_at hl 0 rfl) ?_
  refine lv_iload_n hx hb dJ1_charAt_3b067_7 rfl (lv_at hl 1 rfl) ?_
  refine va_tb (v := .int ((S_byt.getD 2 []).getD (k : Int32).toNatClampNeg 0)) hx hb (hZ.1.2.2.2.2.2.1 2 (by decide)).2.2.2 va_S.rf (show vp_in k 18 from (vp_in_iff.mpr ⟨by omega, by omega⟩)) rfl dJ1_charAt_3b067_8 ?_
  refine lv_topi (fun v2 ev2 => ?_)
  refine lv_sipush (v := 255) hx hb dJ1_charAt_3b067_9 (by decide) ?_
  refine lv_iand hx hb dJ1_charAt_3b067_12 ?_
  refine lv_topi (fun v3 ev3 => ?_)
  obtain ⟨v4, ev4⟩ : ∃ y : Int32, ((v3 : Int32).toUInt32 % 65536).toInt32 = y := ⟨_, rfl⟩
  refine lv_i2c (v := v4) hx hb dJ1_charAt_3b067_13 ev4 ?_
  exact W.zret (v := v4) hx hb hr (nar_char ev4) (fun t ht9 hW => ⟨v4, rfl, (by subst_vars; exact char_row 2 (by decide) _ (show k.toNatClampNeg < 18 from by show (k.toInt.toNat : Nat) < 18; omega)), ht9⟩) (fun q hq => by cases hq) dJ1_charAt_3b067_14
set_option maxHeartbeats 4000000 in
set_option maxRecDepth 100000 in
/-- J0_charAt_5068e -/
theorem c_J0_charAt_5068e_2 (l : Launch) (dC : Nat → ClassId) (dI : Nat → Nat → Nat) (ak av : Nat → Nat) (k : Int32) (h_k : 0 ≤ k.toInt ∧ k.toInt ≤ 17) : Met l yJ0_charAt_5068e (wc yJ0_charAt_5068e cJ0_charAt_5068e 2 (some .char)) ({ frames := 3, cells := 0, slots := 0, locals := 64 } : Room) (pRZ ak av (dC, dI) classes [] [] [.ref (ak 2), .int k]) (vp_Si (fun r => r = (S_byt.getD 2 []).getD k.toNatClampNeg 0)) 0 0 (fun _ => False) := by
  refine Met.ofW (cc := cJ0_charAt_5068e) (maxL := 2) (ret := (some .char)) (by decide) rfl ?_
  intro p e s m args below meth c s₁ B hml hv
  obtain ⟨rfl, hP, hK, hZ⟩ := hv
  have hx := B.exec
  have hb := B.bytes
  have hr := B.returns
  have ht := tb_tl (atoms_spec (ws := wc yJ0_charAt_5068e cJ0_charAt_5068e 2 (some .char)) B.pre)
  have hown : s.vm.findClass RJ0 = some m.cls := findClass_of_methodNamed B.named
  have hlocks := B.notSynchronized
  have hl := lv_entry [.ref (ak 2), .int k] (n := 2) (Nat.le_of_ble_eq_true rfl)
  rw [lg_entry_eq]
  generalize (lg_sl [.ref (ak 2), .int k] ++ List.replicate (2 - (lg_sl [.ref (ak 2), .int k]).length) Slot.unset).toArray = ls at hl ⊢
  have hl : lv_has ls 2 [(0, .ref (ak 2)), (1, .int k)] := hl
  refine lv_aload_n hx hb dJ0_charAt_5068e_0 rfl (lv_at hl 0 rfl) ?_
  refine vp_callSi (W.runV (As := []) (rest := []) ⟨hx, hb, hml, hown, ht⟩ (c_J0_isLatin1_aae02_2 l dC dI ak av) (kV 0 ht m_719 m_720 m_721 m_91 m_722 rfl rfl hd_J0_isLatin1_aae02_v ⟨Nat.le_of_ble_eq_true rfl, Nat.le_of_ble_eq_true rfl⟩) (vRZ noP (hK.sub (tys' := []) [] rfl) hZ (vk_recv hZ.1.2.2.2.2.2 (i := 2) (by decide) va_S.rf)) rfl rfl hl.1 rfl (lv_room (Nat.le_of_ble_eq_true rfl)) dJ0_charAt_5068e_1 ⟨Nat.le_of_ble_eq_true rfl, Nat.le_of_ble_eq_true rfl⟩) (fun r1 hr1 => ?_)
  obtain rfl : 1 = r1 := hr1.symm
  refine lv_if_eq (tgt := 16) hx hb dJ0_charAt_5068e_4 (by decide) (fun c2 => ?_) (fun c2 => ?_)
  · exact absurd c2 (by decide)
  · skip
    refine lv_aload_n hx hb dJ0_charAt_5068e_7 rfl (lv_at hl 0 rfl) ?_
    refine vk_getf (v := .ref (av 2)) hx hb (hZ.1.2.2.2.2.2.1 2 (by decide)).2.2.1 va_S.rf hown (ht _ m_1717) (fun _ h9 => h9) dJ0_charAt_5068e_8 ?_
    refine lv_iload_n hx hb dJ0_charAt_5068e_11 rfl (lv_at hl 1 rfl) ?_
    refine vp_callSi (W.runS (As := [.ref (av 2), .int k]) (rest := []) ⟨hx, hb, hml, hown, ht⟩ (c_J1_charAt_3b067_2 l dC dI ak av k ⟨by omega, by omega⟩) (kS2 2 ht m_723 m_724 m_92 m_725 rfl rfl hd_J1_charAt_3b067_i ⟨Nat.le_of_ble_eq_true rfl, Nat.le_of_ble_eq_true rfl⟩) (sRZ noP (hK.sub (tys' := []) [] rfl) hZ) rfl rfl hl.1 rfl (lv_room (Nat.le_of_ble_eq_true rfl)) dJ0_charAt_5068e_12 ⟨Nat.le_of_ble_eq_true rfl, Nat.le_of_ble_eq_true rfl⟩) (fun r3 hr3 => ?_)
    exact W.zret (v := r3) hx hb hr (by rw [hr3]; exact nar_char (char_row 2 (by decide) _ (show k.toNatClampNeg < 18 from by show (k.toInt.toNat : Nat) < 18; omega))) (fun t ht9 hW => ⟨r3, rfl, hr3, ht9⟩) (fun q hq => by cases hq) dJ0_charAt_5068e_15
set_option maxHeartbeats 4000000 in
set_option maxRecDepth 100000 in
/-- J0_coder_7d493 -/
theorem c_J0_coder_7d493_3 (l : Launch) (dC : Nat → ClassId) (dI : Nat → Nat → Nat) (ak av : Nat → Nat) : Met l yJ0_coder_7d493 (wc yJ0_coder_7d493 cJ0_coder_7d493 1 (some .byte)) ({ frames := 0, cells := 0, slots := 0, locals := 0 } : Room) (pRZ ak av (dC, dI) classes [] [] [.ref (ak 3)]) (vp_Si (fun r => r = 0)) 0 0 (fun _ => False) := by
  refine Met.ofW (cc := cJ0_coder_7d493) (maxL := 1) (ret := (some .byte)) (by decide) rfl ?_
  intro p e s m args below meth c s₁ B hml hv
  obtain ⟨rfl, hP, hK, hZ⟩ := hv
  have hx := B.exec
  have hb := B.bytes
  have hr := B.returns
  have ht := tb_tl (atoms_spec (ws := wc yJ0_coder_7d493 cJ0_coder_7d493 1 (some .byte)) B.pre)
  have hown : s.vm.findClass RJ0 = some m.cls := findClass_of_methodNamed B.named
  have hlocks := B.notSynchronized
  have hl := lv_entry [.ref (ak 3)] (n := 1) (Nat.le_of_ble_eq_true rfl)
  rw [lg_entry_eq]
  generalize (lg_sl [.ref (ak 3)] ++ List.replicate (1 - (lg_sl [.ref (ak 3)]).length) Slot.unset).toArray = ls at hl ⊢
  have hl : lv_has ls 1 [(0, .ref (ak 3))] := hl
  refine va_gets hx hb hZ.1.2.2.2.1 va_S.rf hown (ht _ m_713) (fun _ h9 => h9) dJ0_coder_7d493_0 ?_
  refine lv_if_eq (tgt := 13) hx hb dJ0_coder_7d493_3 (by decide) (fun c1 => ?_) (fun c1 => ?_)
  · exact absurd c1 (by decide)
  · skip
    refine lv_aload_n hx hb dJ0_coder_7d493_6 rfl (lv_at hl 0 rfl) ?_
    refine vk_getf (v := .int 0) hx hb (hZ.1.2.2.2.2.2.1 3 (by decide)).2.1 va_S.rf hown (ht _ m_1718) (fun _ h9 => h9) dJ0_coder_7d493_7 ?_
    refine lv_goto (tgt := 14) hx hb dJ0_coder_7d493_10 (by decide) ?_
    exact W.zret (v := 0) hx hb hr rfl (fun t ht9 hW => ⟨0, rfl, rfl, ht9⟩) (fun q hq => by cases hq) dJ0_coder_7d493_14
set_option maxHeartbeats 4000000 in
set_option maxRecDepth 100000 in
/-- J0_length_8abf5 -/
theorem c_J0_length_8abf5_3 (l : Launch) (dC : Nat → ClassId) (dI : Nat → Nat → Nat) (ak av : Nat → Nat) : Met l yJ0_length_8abf5 (wc yJ0_length_8abf5 cJ0_length_8abf5 1 (some .int)) ({ frames := 1, cells := 0, slots := 0, locals := 20 } : Room) (pRZ ak av (dC, dI) classes [] [] [.ref (ak 3)]) (vp_Si (fun r => r = 3)) 0 0 (fun _ => False) := by
  refine Met.ofW (cc := cJ0_length_8abf5) (maxL := 1) (ret := (some .int)) (by decide) rfl ?_
  intro p e s m args below meth c s₁ B hml hv
  obtain ⟨rfl, hP, hK, hZ⟩ := hv
  have hx := B.exec
  have hb := B.bytes
  have hr := B.returns
  have ht := tb_tl (atoms_spec (ws := wc yJ0_length_8abf5 cJ0_length_8abf5 1 (some .int)) B.pre)
  have hown : s.vm.findClass RJ0 = some m.cls := findClass_of_methodNamed B.named
  have hlocks := B.notSynchronized
  have hl := lv_entry [.ref (ak 3)] (n := 1) (Nat.le_of_ble_eq_true rfl)
  rw [lg_entry_eq]
  generalize (lg_sl [.ref (ak 3)] ++ List.replicate (1 - (lg_sl [.ref (ak 3)]).length) Slot.unset).toArray = ls at hl ⊢
  have hl : lv_has ls 1 [(0, .ref (ak 3))] := hl
  refine lv_aload_n hx hb dJ0_length_8abf5_0 rfl (lv_at hl 0 rfl) ?_
  refine vk_getf (v := .ref (av 3)) hx hb (hZ.1.2.2.2.2.2.1 3 (by decide)).2.2.1 va_S.rf hown (ht _ m_1717) (fun _ h9 => h9) dJ0_length_8abf5_1 ?_
  refine va_tlen (v := 3) hx hb (hZ.1.2.2.2.2.2.1 3 (by decide)).2.2.2 va_S.rf (by decide) dJ0_length_8abf5_4 ?_
  refine lv_aload_n hx hb dJ0_length_8abf5_5 rfl (lv_at hl 0 rfl) ?_
  refine vp_callSi (W.runV (As := []) (rest := [.int 3]) ⟨hx, hb, hml, hown, ht⟩ (c_J0_coder_7d493_3 l dC dI ak av) (kV 0 ht m_709 m_710 m_711 m_91 m_712 rfl rfl hd_J0_coder_7d493_v ⟨Nat.le_of_ble_eq_true rfl, Nat.le_of_ble_eq_true rfl⟩) (vRZ noP (hK.sub (tys' := []) [] rfl) hZ (vk_recv hZ.1.2.2.2.2.2 (i := 3) (by decide) va_S.rf)) rfl rfl hl.1 rfl (lv_room (Nat.le_of_ble_eq_true rfl)) dJ0_length_8abf5_6 ⟨Nat.le_of_ble_eq_true rfl, Nat.le_of_ble_eq_true rfl⟩) (fun r1 hr1 => ?_)
  obtain rfl : 0 = r1 := hr1.symm
  refine lv_ishr hx hb dJ0_length_8abf5_9 ?_
  refine lv_topi (fun v2 ev2 => ?_)
  obtain rfl : 3 = v2 := (ev2.trans (by decide)).symm
  exact W.iret (v := 3) hx hb hr (fun t ht9 hW => ⟨3, rfl, rfl, ht9⟩) (fun q hq => by cases hq) dJ0_length_8abf5_10
set_option maxHeartbeats 4000000 in
set_option maxRecDepth 100000 in
/-- J0_isLatin1_aae02 -/
theorem c_J0_isLatin1_aae02_3 (l : Launch) (dC : Nat → ClassId) (dI : Nat → Nat → Nat) (ak av : Nat → Nat) : Met l yJ0_isLatin1_aae02 (wc yJ0_isLatin1_aae02 cJ0_isLatin1_aae02 1 (some .boolean)) ({ frames := 0, cells := 0, slots := 0, locals := 0 } : Room) (pRZ ak av (dC, dI) classes [] [] [.ref (ak 3)]) (vp_Si (fun r => r = 1)) 0 0 (fun _ => False) := by
  refine Met.ofW (cc := cJ0_isLatin1_aae02) (maxL := 1) (ret := (some .boolean)) (by decide) rfl ?_
  intro p e s m args below meth c s₁ B hml hv
  obtain ⟨rfl, hP, hK, hZ⟩ := hv
  have hx := B.exec
  have hb := B.bytes
  have hr := B.returns
  have ht := tb_tl (atoms_spec (ws := wc yJ0_isLatin1_aae02 cJ0_isLatin1_aae02 1 (some .boolean)) B.pre)
  have hown : s.vm.findClass RJ0 = some m.cls := findClass_of_methodNamed B.named
  have hlocks := B.notSynchronized
  have hl := lv_entry [.ref (ak 3)] (n := 1) (Nat.le_of_ble_eq_true rfl)
  rw [lg_entry_eq]
  generalize (lg_sl [.ref (ak 3)] ++ List.replicate (1 - (lg_sl [.ref (ak 3)]).length) Slot.unset).toArray = ls at hl ⊢
  have hl : lv_has ls 1 [(0, .ref (ak 3))] := hl
  refine va_gets hx hb hZ.1.2.2.2.1 va_S.rf hown (ht _ m_713) (fun _ h9 => h9) dJ0_isLatin1_aae02_0 ?_
  refine lv_if_eq (tgt := 17) hx hb dJ0_isLatin1_aae02_3 (by decide) (fun c1 => ?_) (fun c1 => ?_)
  · exact absurd c1 (by decide)
  · skip
    refine lv_aload_n hx hb dJ0_isLatin1_aae02_6 rfl (lv_at hl 0 rfl) ?_
    refine vk_getf (v := .int 0) hx hb (hZ.1.2.2.2.2.2.1 3 (by decide)).2.1 va_S.rf hown (ht _ m_1718) (fun _ h9 => h9) dJ0_isLatin1_aae02_7 ?_
    refine lv_if_ne (tgt := 17) hx hb dJ0_isLatin1_aae02_10 (by decide) (fun c2 => ?_) (fun c2 => ?_)
    · exact absurd rfl c2
    · skip
      refine lv_iconst (v := 1) hx hb dJ0_isLatin1_aae02_13 (by decide) ?_
      refine lv_goto (tgt := 18) hx hb dJ0_isLatin1_aae02_14 (by decide) ?_
      exact W.zret (v := 1) hx hb hr rfl (fun t ht9 hW => ⟨1, rfl, rfl, ht9⟩) (fun q hq => by cases hq) dJ0_isLatin1_aae02_18
set_option maxHeartbeats 4000000 in
set_option maxRecDepth 100000 in
/-- J1_charAt_3b067 -/
theorem c_J1_charAt_3b067_3 (l : Launch) (dC : Nat → ClassId) (dI : Nat → Nat → Nat) (ak av : Nat → Nat) (k : Int32) (h_k : 0 ≤ k.toInt ∧ k.toInt ≤ 2) : Met l yJ1_charAt_3b067 (wc yJ1_charAt_3b067 cJ1_charAt_3b067 2 (some .char)) ({ frames := 2, cells := 0, slots := 0, locals := 43 } : Room) (pRZ ak av (dC, dI) classes [] [] [.ref (av 3), .int k]) (vp_Si (fun r => r = (S_byt.getD 3 []).getD k.toNatClampNeg 0)) 0 0 (fun _ => False) := by
  refine Met.ofW (cc := cJ1_charAt_3b067) (maxL := 2) (ret := (some .char)) (by decide) rfl ?_
  intro p e s m args below meth c s₁ B hml hv
  obtain ⟨rfl, hP, hK, hZ⟩ := hv
  have hx := B.exec
  have hb := B.bytes
  have hr := B.returns
  have ht := tb_tl (atoms_spec (ws := wc yJ1_charAt_3b067 cJ1_charAt_3b067 2 (some .char)) B.pre)
  have hown : s.vm.findClass RJ1 = some m.cls := findClass_of_methodNamed B.named
  have hlocks := B.notSynchronized
  have hl := lv_entry [.ref (av 3), .int k] (n := 2) (Nat.le_of_ble_eq_true rfl)
  rw [lg_entry_eq]
  generalize (lg_sl [.ref (av 3), .int k] ++ List.replicate (2 - (lg_sl [.ref (av 3), .int k]).length) Slot.unset).toArray = ls at hl ⊢
  have hl : lv_has ls 2 [(0, .ref (av 3)), (1, .int k)] := hl
  refine lv_iload_n hx hb dJ1_charAt_3b067_0 rfl (lv_at hl 1 rfl) ?_
  refine lv_aload_n hx hb dJ1_charAt_3b067_1 rfl (lv_at hl 0 rfl) ?_
  refine va_tlen (v := 3) hx hb (hZ.1.2.2.2.2.2.1 3 (by decide)).2.2.2 va_S.rf (by decide) dJ1_charAt_3b067_2 ?_
  refine va_csv (W.runS (As := [.int k, .int 3]) (rest := []) ⟨hx, hb, hml, hown, ht⟩ (c_J0_checkIndex_df160_3 l dC dI ak av k ⟨by omega, by omega⟩) (kS2 2 ht m_726 m_727 m_91 m_728 rfl rfl hd_J0_checkIndex_df160_i ⟨Nat.le_of_ble_eq_true rfl, Nat.le_of_ble_eq_true rfl⟩) (sRZ noP (hK.sub (tys' := []) [] rfl) hZ) rfl rfl hl.1 rfl (lv_room (Nat.le_of_ble_eq_true rfl)) dJ1_charAt_3b067_3 ⟨Nat.le_of_ble_eq_true rfl, Nat.le_of_ble_eq_true rfl⟩) (fun _ => ?_)
  refine lv_aload_n hx hb dJ1_charAt_3b067_6 rfl (lv_at hl 0 rfl) ?_
  refine lv_iload_n hx hb dJ1_charAt_3b067_7 rfl (lv_at hl 1 rfl) ?_
  refine va_tb (v := .int ((S_byt.getD 3 []).getD (k : Int32).toNatClampNeg 0)) hx hb (hZ.1.2.2.2.2.2.1 3 (by decide)).2.2.2 va_S.rf (show vp_in k 3 from (vp_in_iff.mpr ⟨by omega, by omega⟩)) rfl dJ1_charAt_3b067_8 ?_
  refine lv_topi (fun v2 ev2 => ?_)
  refine lv_sipush (v := 255) hx hb dJ1_charAt_3b067_9 (by decide) ?_
  refine lv_iand hx hb dJ1_charAt_3b067_12 ?_
  refine lv_topi (fun v3 ev3 => ?_)
  obtain ⟨v4, ev4⟩ : ∃ y : Int32, ((v3 : Int32).toUInt32 % 65536).toInt32 = y := ⟨_, rfl⟩
  refine lv_i2c (v := v4) hx hb dJ1_charAt_3b067_13 ev4 ?_
  exact W.zret (v := v4) hx hb hr (nar_char ev4) (fun t ht9 hW => ⟨v4, rfl, (by subst_vars; exact char_row 3 (by decide) _ (show k.toNatClampNeg < 3 from by show (k.toInt.toNat : Nat) < 3; omega)), ht9⟩) (fun q hq => by cases hq) dJ1_charAt_3b067_14
set_option maxHeartbeats 4000000 in
set_option maxRecDepth 100000 in
/-- J0_charAt_5068e -/
theorem c_J0_charAt_5068e_3 (l : Launch) (dC : Nat → ClassId) (dI : Nat → Nat → Nat) (ak av : Nat → Nat) (k : Int32) (h_k : 0 ≤ k.toInt ∧ k.toInt ≤ 2) : Met l yJ0_charAt_5068e (wc yJ0_charAt_5068e cJ0_charAt_5068e 2 (some .char)) ({ frames := 3, cells := 0, slots := 0, locals := 64 } : Room) (pRZ ak av (dC, dI) classes [] [] [.ref (ak 3), .int k]) (vp_Si (fun r => r = (S_byt.getD 3 []).getD k.toNatClampNeg 0)) 0 0 (fun _ => False) := by
  refine Met.ofW (cc := cJ0_charAt_5068e) (maxL := 2) (ret := (some .char)) (by decide) rfl ?_
  intro p e s m args below meth c s₁ B hml hv
  obtain ⟨rfl, hP, hK, hZ⟩ := hv
  have hx := B.exec
  have hb := B.bytes
  have hr := B.returns
  have ht := tb_tl (atoms_spec (ws := wc yJ0_charAt_5068e cJ0_charAt_5068e 2 (some .char)) B.pre)
  have hown : s.vm.findClass RJ0 = some m.cls := findClass_of_methodNamed B.named
  have hlocks := B.notSynchronized
  have hl := lv_entry [.ref (ak 3), .int k] (n := 2) (Nat.le_of_ble_eq_true rfl)
  rw [lg_entry_eq]
  generalize (lg_sl [.ref (ak 3), .int k] ++ List.replicate (2 - (lg_sl [.ref (ak 3), .int k]).length) Slot.unset).toArray = ls at hl ⊢
  have hl : lv_has ls 2 [(0, .ref (ak 3)), (1, .int k)] := hl
  refine lv_aload_n hx hb dJ0_charAt_5068e_0 rfl (lv_at hl 0 rfl) ?_
  refine vp_callSi (W.runV (As := []) (rest := []) ⟨hx, hb, hml, hown, ht⟩ (c_J0_isLatin1_aae02_3 l dC dI ak av) (kV 0 ht m_719 m_720 m_721 m_91 m_722 rfl rfl hd_J0_isLatin1_aae02_v ⟨Nat.le_of_ble_eq_true rfl, Nat.le_of_ble_eq_true rfl⟩) (vRZ noP (hK.sub (tys' := []) [] rfl) hZ (vk_recv hZ.1.2.2.2.2.2 (i := 3) (by decide) va_S.rf)) rfl rfl hl.1 rfl (lv_room (Nat.le_of_ble_eq_true rfl)) dJ0_charAt_5068e_1 ⟨Nat.le_of_ble_eq_true rfl, Nat.le_of_ble_eq_true rfl⟩) (fun r1 hr1 => ?_)
  obtain rfl : 1 = r1 := hr1.symm
  refine lv_if_eq (tgt := 16) hx hb dJ0_charAt_5068e_4 (by decide) (fun c2 => ?_) (fun c2 => ?_)
  · exact absurd c2 (by decide)
  · skip
    refine lv_aload_n hx hb dJ0_charAt_5068e_7 rfl (lv_at hl 0 rfl) ?_
    refine vk_getf (v := .ref (av 3)) hx hb (hZ.1.2.2.2.2.2.1 3 (by decide)).2.2.1 va_S.rf hown (ht _ m_1717) (fun _ h9 => h9) dJ0_charAt_5068e_8 ?_
    refine lv_iload_n hx hb dJ0_charAt_5068e_11 rfl (lv_at hl 1 rfl) ?_
    refine vp_callSi (W.runS (As := [.ref (av 3), .int k]) (rest := []) ⟨hx, hb, hml, hown, ht⟩ (c_J1_charAt_3b067_3 l dC dI ak av k ⟨by omega, by omega⟩) (kS2 2 ht m_723 m_724 m_92 m_725 rfl rfl hd_J1_charAt_3b067_i ⟨Nat.le_of_ble_eq_true rfl, Nat.le_of_ble_eq_true rfl⟩) (sRZ noP (hK.sub (tys' := []) [] rfl) hZ) rfl rfl hl.1 rfl (lv_room (Nat.le_of_ble_eq_true rfl)) dJ0_charAt_5068e_12 ⟨Nat.le_of_ble_eq_true rfl, Nat.le_of_ble_eq_true rfl⟩) (fun r3 hr3 => ?_)
    exact W.zret (v := r3) hx hb hr (by rw [hr3]; exact nar_char (char_row 3 (by decide) _ (show k.toNatClampNeg < 3 from by show (k.toInt.toNat : Nat) < 3; omega))) (fun t ht9 hW => ⟨r3, rfl, hr3, ht9⟩) (fun q hq => by cases hq) dJ0_charAt_5068e_15
