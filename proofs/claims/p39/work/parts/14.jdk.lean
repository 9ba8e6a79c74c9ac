/-! ===== jdk ===== -/
set_option maxRecDepth 100000 in
theorem mbJ_3_0 : ∀ w ∈ ([Cond.methodLink RX8 107 yJ0_length_8abf5, Cond.instanceMethod yJ0_length_8abf5, Cond.selects "java/lang/String" yJ0_length_8abf5 yJ0_length_8abf5, Cond.code yJ0_length_8abf5 cJ0_length_8abf5 1 (some .int), Cond.methodLink "java/lang/String" 335 yJ0_coder_7d493, Cond.instanceMethod yJ0_coder_7d493, Cond.selects "java/lang/String" yJ0_coder_7d493 yJ0_coder_7d493, Cond.code yJ0_coder_7d493 cJ0_coder_7d493 1 (some .byte), Cond.methodLink RX8 112 yJ0_charAt_5068e, Cond.instanceMethod yJ0_charAt_5068e, Cond.selects "java/lang/String" yJ0_charAt_5068e yJ0_charAt_5068e, Cond.code yJ0_charAt_5068e cJ0_charAt_5068e 2 (some .char), Cond.methodLink "java/lang/String" 492 yJ0_isLatin1_aae02, Cond.instanceMethod yJ0_isLatin1_aae02, Cond.selects "java/lang/String" yJ0_isLatin1_aae02 yJ0_isLatin1_aae02, Cond.code yJ0_isLatin1_aae02 cJ0_isLatin1_aae02 1 (some .boolean), Cond.methodLink "java/lang/String" 495 yJ1_charAt_3b067, Cond.static yJ1_charAt_3b067, Cond.code yJ1_charAt_3b067 cJ1_charAt_3b067 2 (some .char), Cond.methodLink "java/lang/StringLatin1" 9 yJ0_checkIndex_df160, Cond.static yJ0_checkIndex_df160, Cond.code yJ0_checkIndex_df160 cJ0_checkIndex_df160 2 none, Cond.methodLink "java/lang/String" 1059 yJ3_checkIndex_8e157, Cond.static yJ3_checkIndex_8e157] : List Cond), w ∈ tb := in_pkL tbs_3 [149, 0, 0, 0, 0, 0, 0, 0, 2, 0, 0, 0, 0, 0, 0, 0, 0, 0, 0, 0, 0, 0, 2, 0] rfl (by decide +kernel)
set_option maxRecDepth 100000 in
theorem mbJ_3_1 : ∀ w ∈ ([Cond.code yJ3_checkIndex_8e157 cJ3_checkIndex_8e157 3 (some .int)] : List Cond), w ∈ tb := in_pkL tbs_3 [177] rfl (by decide +kernel)
set_option maxRecDepth 100000 in
theorem mbJ_5_0 : ∀ w ∈ ([Cond.methodLink RX4 31 yJ6_bitCount_0f7a4, Cond.static yJ6_bitCount_0f7a4, Cond.code yJ6_bitCount_0f7a4 cJ6_bitCount_0f7a4 1 (some .int)] : List Cond), w ∈ tb := in_pkL tbs_5 [14, 0, 0] rfl (by decide +kernel)
theorem m_91 : Cond.initialized "java/lang/String" ∈ tb := mb_1_0 _ (List.mem_of_getElem? (i := 14) rfl)
theorem m_92 : Cond.initialized "java/lang/StringLatin1" ∈ tb := mb_1_0 _ (List.mem_of_getElem? (i := 15) rfl)
theorem m_93 : Cond.initialized "jdk/internal/util/Preconditions" ∈ tb := mb_1_0 _ (List.mem_of_getElem? (i := 16) rfl)
theorem m_709 : Cond.methodLink "java/lang/String" 335 yJ0_coder_7d493 ∈ tb := mbJ_3_0 _ (List.mem_of_getElem? (i := 4) rfl)
theorem m_710 : Cond.instanceMethod yJ0_coder_7d493 ∈ tb := mbJ_3_0 _ (List.mem_of_getElem? (i := 5) rfl)
theorem m_711 : Cond.selects "java/lang/String" yJ0_coder_7d493 yJ0_coder_7d493 ∈ tb := mbJ_3_0 _ (List.mem_of_getElem? (i := 6) rfl)
theorem m_712 : Cond.code yJ0_coder_7d493 cJ0_coder_7d493 1 (some .byte) ∈ tb := mbJ_3_0 _ (List.mem_of_getElem? (i := 7) rfl)
theorem m_713 : Cond.fieldLink "java/lang/String" 38 "java/lang/String" "COMPACT_STRINGS" "Z" ∈ tb := mb_3_5 _ (List.mem_of_getElem? (i := 11) rfl)
theorem m_719 : Cond.methodLink "java/lang/String" 492 yJ0_isLatin1_aae02 ∈ tb := mbJ_3_0 _ (List.mem_of_getElem? (i := 12) rfl)
theorem m_720 : Cond.instanceMethod yJ0_isLatin1_aae02 ∈ tb := mbJ_3_0 _ (List.mem_of_getElem? (i := 13) rfl)
theorem m_721 : Cond.selects "java/lang/String" yJ0_isLatin1_aae02 yJ0_isLatin1_aae02 ∈ tb := mbJ_3_0 _ (List.mem_of_getElem? (i := 14) rfl)
theorem m_722 : Cond.code yJ0_isLatin1_aae02 cJ0_isLatin1_aae02 1 (some .boolean) ∈ tb := mbJ_3_0 _ (List.mem_of_getElem? (i := 15) rfl)
theorem m_723 : Cond.methodLink "java/lang/String" 495 yJ1_charAt_3b067 ∈ tb := mbJ_3_0 _ (List.mem_of_getElem? (i := 16) rfl)
theorem m_724 : Cond.static yJ1_charAt_3b067 ∈ tb := mbJ_3_0 _ (List.mem_of_getElem? (i := 17) rfl)
theorem m_725 : Cond.code yJ1_charAt_3b067 cJ1_charAt_3b067 2 (some .char) ∈ tb := mbJ_3_0 _ (List.mem_of_getElem? (i := 18) rfl)
theorem m_726 : Cond.methodLink "java/lang/StringLatin1" 9 yJ0_checkIndex_df160 ∈ tb := mbJ_3_0 _ (List.mem_of_getElem? (i := 19) rfl)
theorem m_727 : Cond.static yJ0_checkIndex_df160 ∈ tb := mbJ_3_0 _ (List.mem_of_getElem? (i := 20) rfl)
theorem m_728 : Cond.code yJ0_checkIndex_df160 cJ0_checkIndex_df160 2 none ∈ tb := mbJ_3_0 _ (List.mem_of_getElem? (i := 21) rfl)
theorem m_729 : Cond.fieldLink "java/lang/String" 1053 "jdk/internal/util/Preconditions" "SIOOBE_FORMATTER" "Ljava/util/function/BiFunction;" ∈ tb := mb_3_5 _ (List.mem_of_getElem? (i := 12) rfl)
theorem m_731 : Cond.methodLink "java/lang/String" 1059 yJ3_checkIndex_8e157 ∈ tb := mbJ_3_0 _ (List.mem_of_getElem? (i := 22) rfl)
theorem m_732 : Cond.static yJ3_checkIndex_8e157 ∈ tb := mbJ_3_0 _ (List.mem_of_getElem? (i := 23) rfl)
theorem m_733 : Cond.code yJ3_checkIndex_8e157 cJ3_checkIndex_8e157 3 (some .int) ∈ tb := mbJ_3_1 _ (List.mem_of_getElem? (i := 0) rfl)
theorem m_1053 : Cond.constant "java/lang/Integer" 265 (1431655765) ∈ tb := mb_5_0 _ (List.mem_of_getElem? (i := 14) rfl)
theorem m_1054 : Cond.constant "java/lang/Integer" 266 (858993459) ∈ tb := mb_5_0 _ (List.mem_of_getElem? (i := 15) rfl)
theorem m_1055 : Cond.constant "java/lang/Integer" 267 (252645135) ∈ tb := mb_5_0 _ (List.mem_of_getElem? (i := 16) rfl)
theorem m_1717 : Cond.fieldLink "java/lang/String" 9 "java/lang/String" "value" "[B" ∈ tb := mb_7_7 _ (List.mem_of_getElem? (i := 14) rfl)
theorem m_1718 : Cond.fieldLink "java/lang/String" 15 "java/lang/String" "coder" "B" ∈ tb := mb_7_7 _ (List.mem_of_getElem? (i := 15) rfl)
theorem hd_J0_checkIndex_df160_i : yJ0_checkIndex_df160.cls ≠ "java/lang/invoke/MethodHandle" ∧ yJ0_checkIndex_df160.cls ≠ "java/lang/invoke/VarHandle" ∧ (parseMethodDescriptor yJ0_checkIndex_df160.desc).map (fun d => d.parameters.length) = some 2 := by decide +kernel
theorem hd_J0_checkIndex_df160_v : yJ0_checkIndex_df160.cls = RJ0 ∧ yJ0_checkIndex_df160.cls ≠ "java/lang/invoke/MethodHandle" ∧ yJ0_checkIndex_df160.cls ≠ "java/lang/invoke/VarHandle" ∧ (parseMethodDescriptor yJ0_checkIndex_df160.desc).map (fun d => d.parameters.length) = some 2 := by decide +kernel
theorem hd_J0_coder_7d493_v : yJ0_coder_7d493.cls = RJ0 ∧ yJ0_coder_7d493.cls ≠ "java/lang/invoke/MethodHandle" ∧ yJ0_coder_7d493.cls ≠ "java/lang/invoke/VarHandle" ∧ (parseMethodDescriptor yJ0_coder_7d493.desc).map (fun d => d.parameters.length) = some 0 := by decide +kernel
theorem hd_J0_isLatin1_aae02_v : yJ0_isLatin1_aae02.cls = RJ0 ∧ yJ0_isLatin1_aae02.cls ≠ "java/lang/invoke/MethodHandle" ∧ yJ0_isLatin1_aae02.cls ≠ "java/lang/invoke/VarHandle" ∧ (parseMethodDescriptor yJ0_isLatin1_aae02.desc).map (fun d => d.parameters.length) = some 0 := by decide +kernel
theorem hd_J1_charAt_3b067_i : yJ1_charAt_3b067.cls ≠ "java/lang/invoke/MethodHandle" ∧ yJ1_charAt_3b067.cls ≠ "java/lang/invoke/VarHandle" ∧ (parseMethodDescriptor yJ1_charAt_3b067.desc).map (fun d => d.parameters.length) = some 2 := by decide +kernel
theorem hd_J1_charAt_3b067_v : yJ1_charAt_3b067.cls = RJ1 ∧ yJ1_charAt_3b067.cls ≠ "java/lang/invoke/MethodHandle" ∧ yJ1_charAt_3b067.cls ≠ "java/lang/invoke/VarHandle" ∧ (parseMethodDescriptor yJ1_charAt_3b067.desc).map (fun d => d.parameters.length) = some 2 := by decide +kernel
theorem hd_J3_checkIndex_8e157_i : yJ3_checkIndex_8e157.cls ≠ "java/lang/invoke/MethodHandle" ∧ yJ3_checkIndex_8e157.cls ≠ "java/lang/invoke/VarHandle" ∧ (parseMethodDescriptor yJ3_checkIndex_8e157.desc).map (fun d => d.parameters.length) = some 3 := by decide +kernel
theorem hd_J3_checkIndex_8e157_v : yJ3_checkIndex_8e157.cls = RJ3 ∧ yJ3_checkIndex_8e157.cls ≠ "java/lang/invoke/MethodHandle" ∧ yJ3_checkIndex_8e157.cls ≠ "java/lang/invoke/VarHandle" ∧ (parseMethodDescriptor yJ3_checkIndex_8e157.desc).map (fun d => d.parameters.length) = some 3 := by decide +kernel
set_option maxRecDepth 100000 in
theorem dvJ0_charAt_5068e_0 : ([(0, .aload_n 0, 1), (1, .invokevirtual 492, 3), (4, .ifCond .eq 12, 3), (7, .aload_n 0, 1), (8, .getfield 9, 3), (11, .iload_n 1, 1), (12, .invokestatic 495, 3), (15, .ireturn, 1)] : List (Nat × Instr × Nat)).all (fun q => decide (decode cJ0_charAt_5068e q.1 = .ok (q.2.1, q.2.2))) = true := by decide +kernel
theorem dJ0_charAt_5068e_0 : decode cJ0_charAt_5068e 0 = .ok (.aload_n 0, 1) := all_at dvJ0_charAt_5068e_0 0 rfl
theorem dJ0_charAt_5068e_1 : decode cJ0_charAt_5068e 1 = .ok (.invokevirtual 492, 3) := all_at dvJ0_charAt_5068e_0 1 rfl
theorem dJ0_charAt_5068e_4 : decode cJ0_charAt_5068e 4 = .ok (.ifCond .eq 12, 3) := all_at dvJ0_charAt_5068e_0 2 rfl
theorem dJ0_charAt_5068e_7 : decode cJ0_charAt_5068e 7 = .ok (.aload_n 0, 1) := all_at dvJ0_charAt_5068e_0 3 rfl
theorem dJ0_charAt_5068e_8 : decode cJ0_charAt_5068e 8 = .ok (.getfield 9, 3) := all_at dvJ0_charAt_5068e_0 4 rfl
theorem dJ0_charAt_5068e_11 : decode cJ0_charAt_5068e 11 = .ok (.iload_n 1, 1) := all_at dvJ0_charAt_5068e_0 5 rfl
theorem dJ0_charAt_5068e_12 : decode cJ0_charAt_5068e 12 = .ok (.invokestatic 495, 3) := all_at dvJ0_charAt_5068e_0 6 rfl
theorem dJ0_charAt_5068e_15 : decode cJ0_charAt_5068e 15 = .ok (.ireturn, 1) := all_at dvJ0_charAt_5068e_0 7 rfl
set_option maxRecDepth 100000 in
theorem dvJ0_checkIndex_df160_0 : ([(0, .iload_n 0, 1), (1, .iload_n 1, 1), (2, .getstatic 1053, 3), (5, .invokestatic 1059, 3), (8, .pop, 1), (9, .return_, 1)] : List (Nat × Instr × Nat)).all (fun q => decide (decode cJ0_checkIndex_df160 q.1 = .ok (q.2.1, q.2.2))) = true := by decide +kernel
theorem dJ0_checkIndex_df160_0 : decode cJ0_checkIndex_df160 0 = .ok (.iload_n 0, 1) := all_at dvJ0_checkIndex_df160_0 0 rfl
theorem dJ0_checkIndex_df160_1 : decode cJ0_checkIndex_df160 1 = .ok (.iload_n 1, 1) := all_at dvJ0_checkIndex_df160_0 1 rfl
theorem dJ0_checkIndex_df160_2 : decode cJ0_checkIndex_df160 2 = .ok (.getstatic 1053, 3) := all_at dvJ0_checkIndex_df160_0 2 rfl
theorem dJ0_checkIndex_df160_5 : decode cJ0_checkIndex_df160 5 = .ok (.invokestatic 1059, 3) := all_at dvJ0_checkIndex_df160_0 3 rfl
theorem dJ0_checkIndex_df160_8 : decode cJ0_checkIndex_df160 8 = .ok (.pop, 1) := all_at dvJ0_checkIndex_df160_0 4 rfl
theorem dJ0_checkIndex_df160_9 : decode cJ0_checkIndex_df160 9 = .ok (.return_, 1) := all_at dvJ0_checkIndex_df160_0 5 rfl
set_option maxRecDepth 100000 in
theorem dvJ0_coder_7d493_0 : ([(0, .getstatic 38, 3), (3, .ifCond .eq 10, 3), (6, .aload_n 0, 1), (7, .getfield 15, 3), (10, .goto 4, 3), (14, .ireturn, 1)] : List (Nat × Instr × Nat)).all (fun q => decide (decode cJ0_coder_7d493 q.1 = .ok (q.2.1, q.2.2))) = true := by decide +kernel
theorem dJ0_coder_7d493_0 : decode cJ0_coder_7d493 0 = .ok (.getstatic 38, 3) := all_at dvJ0_coder_7d493_0 0 rfl
theorem dJ0_coder_7d493_3 : decode cJ0_coder_7d493 3 = .ok (.ifCond .eq 10, 3) := all_at dvJ0_coder_7d493_0 1 rfl
theorem dJ0_coder_7d493_6 : decode cJ0_coder_7d493 6 = .ok (.aload_n 0, 1) := all_at dvJ0_coder_7d493_0 2 rfl
theorem dJ0_coder_7d493_7 : decode cJ0_coder_7d493 7 = .ok (.getfield 15, 3) := all_at dvJ0_coder_7d493_0 3 rfl
theorem dJ0_coder_7d493_10 : decode cJ0_coder_7d493 10 = .ok (.goto 4, 3) := all_at dvJ0_coder_7d493_0 4 rfl
theorem dJ0_coder_7d493_14 : decode cJ0_coder_7d493 14 = .ok (.ireturn, 1) := all_at dvJ0_coder_7d493_0 5 rfl
set_option maxRecDepth 100000 in
theorem dvJ0_isLatin1_aae02_0 : ([(0, .getstatic 38, 3), (3, .ifCond .eq 14, 3), (6, .aload_n 0, 1), (7, .getfield 15, 3), (10, .ifCond .ne 7, 3), (13, .iconst 1, 1), (14, .goto 4, 3), (18, .ireturn, 1)] : List (Nat × Instr × Nat)).all (fun q => decide (decode cJ0_isLatin1_aae02 q.1 = .ok (q.2.1, q.2.2))) = true := by decide +kernel
theorem dJ0_isLatin1_aae02_0 : decode cJ0_isLatin1_aae02 0 = .ok (.getstatic 38, 3) := all_at dvJ0_isLatin1_aae02_0 0 rfl
theorem dJ0_isLatin1_aae02_3 : decode cJ0_isLatin1_aae02 3 = .ok (.ifCond .eq 14, 3) := all_at dvJ0_isLatin1_aae02_0 1 rfl
theorem dJ0_isLatin1_aae02_6 : decode cJ0_isLatin1_aae02 6 = .ok (.aload_n 0, 1) := all_at dvJ0_isLatin1_aae02_0 2 rfl
theorem dJ0_isLatin1_aae02_7 : decode cJ0_isLatin1_aae02 7 = .ok (.getfield 15, 3) := all_at dvJ0_isLatin1_aae02_0 3 rfl
theorem dJ0_isLatin1_aae02_10 : decode cJ0_isLatin1_aae02 10 = .ok (.ifCond .ne 7, 3) := all_at dvJ0_isLatin1_aae02_0 4 rfl
theorem dJ0_isLatin1_aae02_13 : decode cJ0_isLatin1_aae02 13 = .ok (.iconst 1, 1) := all_at dvJ0_isLatin1_aae02_0 5 rfl
theorem dJ0_isLatin1_aae02_14 : decode cJ0_isLatin1_aae02 14 = .ok (.goto 4, 3) := all_at dvJ0_isLatin1_aae02_0 6 rfl
theorem dJ0_isLatin1_aae02_18 : decode cJ0_isLatin1_aae02 18 = .ok (.ireturn, 1) := all_at dvJ0_isLatin1_aae02_0 7 rfl
set_option maxRecDepth 100000 in
theorem dvJ0_length_8abf5_0 : ([(0, .aload_n 0, 1), (1, .getfield 9, 3), (4, .arraylength, 1), (5, .aload_n 0, 1), (6, .invokevirtual 335, 3), (9, .ishr, 1), (10, .ireturn, 1)] : List (Nat × Instr × Nat)).all (fun q => decide (decode cJ0_length_8abf5 q.1 = .ok (q.2.1, q.2.2))) = true := by decide +kernel
theorem dJ0_length_8abf5_0 : decode cJ0_length_8abf5 0 = .ok (.aload_n 0, 1) := all_at dvJ0_length_8abf5_0 0 rfl
theorem dJ0_length_8abf5_1 : decode cJ0_length_8abf5 1 = .ok (.getfield 9, 3) := all_at dvJ0_length_8abf5_0 1 rfl
theorem dJ0_length_8abf5_4 : decode cJ0_length_8abf5 4 = .ok (.arraylength, 1) := all_at dvJ0_length_8abf5_0 2 rfl
theorem dJ0_length_8abf5_5 : decode cJ0_length_8abf5 5 = .ok (.aload_n 0, 1) := all_at dvJ0_length_8abf5_0 3 rfl
theorem dJ0_length_8abf5_6 : decode cJ0_length_8abf5 6 = .ok (.invokevirtual 335, 3) := all_at dvJ0_length_8abf5_0 4 rfl
theorem dJ0_length_8abf5_9 : decode cJ0_length_8abf5 9 = .ok (.ishr, 1) := all_at dvJ0_length_8abf5_0 5 rfl
theorem dJ0_length_8abf5_10 : decode cJ0_length_8abf5 10 = .ok (.ireturn, 1) := all_at dvJ0_length_8abf5_0 6 rfl
set_option maxRecDepth 100000 in
theorem dvJ1_charAt_3b067_0 : ([(0, .iload_n 1, 1), (1, .aload_n 0, 1), (2, .arraylength, 1), (3, .invokestatic 9, 3), (6, .aload_n 0, 1), (7, .iload_n 1, 1), (8, .baload, 1), (9, .sipush 255, 3), (12, .iand, 1), (13, .i2c, 1), (14, .ireturn, 1)] : List (Nat × Instr × Nat)).all (fun q => decide (decode cJ1_charAt_3b067 q.1 = .ok (q.2.1, q.2.2))) = true := by decide +kernel
theorem dJ1_charAt_3b067_0 : decode cJ1_charAt_3b067 0 = .ok (.iload_n 1, 1) := all_at dvJ1_charAt_3b067_0 0 rfl
theorem dJ1_charAt_3b067_1 : decode cJ1_charAt_3b067 1 = .ok (.aload_n 0, 1) := all_at dvJ1_charAt_3b067_0 1 rfl
theorem dJ1_charAt_3b067_2 : decode cJ1_charAt_3b067 2 = .ok (.arraylength, 1) := all_at dvJ1_charAt_3b067_0 2 rfl
theorem dJ1_charAt_3b067_3 : decode cJ1_charAt_3b067 3 = .ok (.invokestatic 9, 3) := all_at dvJ1_charAt_3b067_0 3 rfl
theorem dJ1_charAt_3b067_6 : decode cJ1_charAt_3b067 6 = .ok (.aload_n 0, 1) := all_at dvJ1_charAt_3b067_0 4 rfl
theorem dJ1_charAt_3b067_7 : decode cJ1_charAt_3b067 7 = .ok (.iload_n 1, 1) := all_at dvJ1_charAt_3b067_0 5 rfl
theorem dJ1_charAt_3b067_8 : decode cJ1_charAt_3b067 8 = .ok (.baload, 1) := all_at dvJ1_charAt_3b067_0 6 rfl
theorem dJ1_charAt_3b067_9 : decode cJ1_charAt_3b067 9 = .ok (.sipush 255, 3) := all_at dvJ1_charAt_3b067_0 7 rfl
theorem dJ1_charAt_3b067_12 : decode cJ1_charAt_3b067 12 = .ok (.iand, 1) := all_at dvJ1_charAt_3b067_0 8 rfl
theorem dJ1_charAt_3b067_13 : decode cJ1_charAt_3b067 13 = .ok (.i2c, 1) := all_at dvJ1_charAt_3b067_0 9 rfl
theorem dJ1_charAt_3b067_14 : decode cJ1_charAt_3b067 14 = .ok (.ireturn, 1) := all_at dvJ1_charAt_3b067_0 10 rfl
set_option maxRecDepth 100000 in
theorem dvJ3_checkIndex_8e157_0 : ([(0, .iload_n 0, 1), (1, .ifCond .lt 8, 3), (4, .iload_n 0, 1), (5, .iload_n 1, 1), (6, .if_icmp .lt 10, 3), (16, .iload_n 0, 1), (17, .ireturn, 1)] : List (Nat × Instr × Nat)).all (fun q => decide (decode cJ3_checkIndex_8e157 q.1 = .ok (q.2.1, q.2.2))) = true := by decide +kernel
theorem dJ3_checkIndex_8e157_0 : decode cJ3_checkIndex_8e157 0 = .ok (.iload_n 0, 1) := all_at dvJ3_checkIndex_8e157_0 0 rfl
theorem dJ3_checkIndex_8e157_1 : decode cJ3_checkIndex_8e157 1 = .ok (.ifCond .lt 8, 3) := all_at dvJ3_checkIndex_8e157_0 1 rfl
theorem dJ3_checkIndex_8e157_4 : decode cJ3_checkIndex_8e157 4 = .ok (.iload_n 0, 1) := all_at dvJ3_checkIndex_8e157_0 2 rfl
theorem dJ3_checkIndex_8e157_5 : decode cJ3_checkIndex_8e157 5 = .ok (.iload_n 1, 1) := all_at dvJ3_checkIndex_8e157_0 3 rfl
theorem dJ3_checkIndex_8e157_6 : decode cJ3_checkIndex_8e157 6 = .ok (.if_icmp .lt 10, 3) := all_at dvJ3_checkIndex_8e157_0 4 rfl
theorem dJ3_checkIndex_8e157_16 : decode cJ3_checkIndex_8e157 16 = .ok (.iload_n 0, 1) := all_at dvJ3_checkIndex_8e157_0 5 rfl
theorem dJ3_checkIndex_8e157_17 : decode cJ3_checkIndex_8e157 17 = .ok (.ireturn, 1) := all_at dvJ3_checkIndex_8e157_0 6 rfl
set_option maxRecDepth 100000 in
theorem dvJ6_bitCount_0f7a4_0 : ([(0, .iload_n 0, 1), (1, .iload_n 0, 1), (2, .iconst 1, 1), (3, .iushr, 1), (4, .ldc_w 265, 3), (7, .iand, 1), (8, .isub, 1), (9, .istore_n 0, 1), (10, .iload_n 0, 1), (11, .ldc_w 266, 3), (14, .iand, 1), (15, .iload_n 0, 1), (16, .iconst 2, 1), (17, .iushr, 1), (18, .ldc_w 266, 3), (21, .iand, 1), (22, .iadd, 1), (23, .istore_n 0, 1), (24, .iload_n 0, 1), (25, .iload_n 0, 1), (26, .iconst 4, 1), (27, .iushr, 1), (28, .iadd, 1), (29, .ldc_w 267, 3)] : List (Nat × Instr × Nat)).all (fun q => decide (decode cJ6_bitCount_0f7a4 q.1 = .ok (q.2.1, q.2.2))) = true := by decide +kernel
theorem dJ6_bitCount_0f7a4_0 : decode cJ6_bitCount_0f7a4 0 = .ok (.iload_n 0, 1) := all_at dvJ6_bitCount_0f7a4_0 0 rfl
theorem dJ6_bitCount_0f7a4_1 : decode cJ6_bitCount_0f7a4 1 = .ok (.iload_n 0, 1) := all_at dvJ6_bitCount_0f7a4_0 1 rfl
theorem dJ6_bitCount_0f7a4_2 : decode cJ6_bitCount_0f7a4 2 = .ok (.iconst 1, 1) := all_at dvJ6_bitCount_0f7a4_0 2 rfl
theorem dJ6_bitCount_0f7a4_3 : decode cJ6_bitCount_0f7a4 3 = .ok (.iushr, 1) := all_at dvJ6_bitCount_0f7a4_0 3 rfl
theorem dJ6_bitCount_0f7a4_4 : decode cJ6_bitCount_0f7a4 4 = .ok (.ldc_w 265, 3) := all_at dvJ6_bitCount_0f7a4_0 4 rfl
theorem dJ6_bitCount_0f7a4_7 : decode cJ6_bitCount_0f7a4 7 = .ok (.iand, 1) := all_at dvJ6_bitCount_0f7a4_0 5 rfl
theorem dJ6_bitCount_0f7a4_8 : decode cJ6_bitCount_0f7a4 8 = .ok (.isub, 1) := all_at dvJ6_bitCount_0f7a4_0 6 rfl
theorem dJ6_bitCount_0f7a4_9 : decode cJ6_bitCount_0f7a4 9 = .ok (.istore_n 0, 1) := all_at dvJ6_bitCount_0f7a4_0 7 rfl
theorem dJ6_bitCount_0f7a4_10 : decode cJ6_bitCount_0f7a4 10 = .ok (.iload_n 0, 1) := all_at dvJ6_bitCount_0f7a4_0 8 rfl
theorem dJ6_bitCount_0f7a4_11 : decode cJ6_bitCount_0f7a4 11 = .ok (.ldc_w 266, 3) := all_at dvJ6_bitCount_0f7a4_0 9 rfl
theorem dJ6_bitCount_0f7a4_14 : decode cJ6_bitCount_0f7a4 14 = .ok (.iand, 1) := all_at dvJ6_bitCount_0f7a4_0 10 rfl
theorem dJ6_bitCount_0f7a4_15 : decode cJ6_bitCount_0f7a4 15 = .ok (.iload_n 0, 1) := all_at dvJ6_bitCount_0f7a4_0 11 rfl
theorem dJ6_bitCount_0f7a4_16 : decode cJ6_bitCount_0f7a4 16 = .ok (.iconst 2, 1) := all_at dvJ6_bitCount_0f7a4_0 12 rfl
theorem dJ6_bitCount_0f7a4_17 : decode cJ6_bitCount_0f7a4 17 = .ok (.iushr, 1) := all_at dvJ6_bitCount_0f7a4_0 13 rfl
theorem dJ6_bitCount_0f7a4_18 : decode cJ6_bitCount_0f7a4 18 = .ok (.ldc_w 266, 3) := all_at dvJ6_bitCount_0f7a4_0 14 rfl
theorem dJ6_bitCount_0f7a4_21 : decode cJ6_bitCount_0f7a4 21 = .ok (.iand, 1) := all_at dvJ6_bitCount_0f7a4_0 15 rfl
theorem dJ6_bitCount_0f7a4_22 : decode cJ6_bitCount_0f7a4 22 = .ok (.iadd, 1) := all_at dvJ6_bitCount_0f7a4_0 16 rfl
theorem dJ6_bitCount_0f7a4_23 : decode cJ6_bitCount_0f7a4 23 = .ok (.istore_n 0, 1) := all_at dvJ6_bitCount_0f7a4_0 17 rfl
theorem dJ6_bitCount_0f7a4_24 : decode cJ6_bitCount_0f7a4 24 = .ok (.iload_n 0, 1) := all_at dvJ6_bitCount_0f7a4_0 18 rfl
theorem dJ6_bitCount_0f7a4_25 : decode cJ6_bitCount_0f7a4 25 = .ok (.iload_n 0, 1) := all_at dvJ6_bitCount_0f7a4_0 19 rfl
theorem dJ6_bitCount_0f7a4_26 : decode cJ6_bitCount_0f7a4 26 = .ok (.iconst 4, 1) := all_at dvJ6_bitCount_0f7a4_0 20 rfl
theorem dJ6_bitCount_0f7a4_27 : decode cJ6_bitCount_0f7a4 27 = .ok (.iushr, 1) := all_at dvJ6_bitCount_0f7a4_0 21 rfl
theorem dJ6_bitCount_0f7a4_28 : decode cJ6_bitCount_0f7a4 28 = .ok (.iadd, 1) := all_at dvJ6_bitCount_0f7a4_0 22 rfl
theorem dJ6_bitCount_0f7a4_29 : decode cJ6_bitCount_0f7a4 29 = .ok (.ldc_w 267, 3) := all_at dvJ6_bitCount_0f7a4_0 23 rfl
set_option maxRecDepth 100000 in
theorem dvJ6_bitCount_0f7a4_32 : ([(32, .iand, 1), (33, .istore_n 0, 1), (34, .iload_n 0, 1), (35, .iload_n 0, 1), (36, .bipush 8, 2), (38, .iushr, 1), (39, .iadd, 1), (40, .istore_n 0, 1), (41, .iload_n 0, 1), (42, .iload_n 0, 1), (43, .bipush 16, 2), (45, .iushr, 1), (46, .iadd, 1), (47, .istore_n 0, 1), (48, .iload_n 0, 1), (49, .bipush 63, 2), (51, .iand, 1), (52, .ireturn, 1)] : List (Nat × Instr × Nat)).all (fun q => decide (decode cJ6_bitCount_0f7a4 q.1 = .ok (q.2.1, q.2.2))) = true := by decide +kernel
theorem dJ6_bitCount_0f7a4_32 : decode cJ6_bitCount_0f7a4 32 = .ok (.iand, 1) := all_at dvJ6_bitCount_0f7a4_32 0 rfl
theorem dJ6_bitCount_0f7a4_33 : decode cJ6_bitCount_0f7a4 33 = .ok (.istore_n 0, 1) := all_at dvJ6_bitCount_0f7a4_32 1 rfl
theorem dJ6_bitCount_0f7a4_34 : decode cJ6_bitCount_0f7a4 34 = .ok (.iload_n 0, 1) := all_at dvJ6_bitCount_0f7a4_32 2 rfl
theorem dJ6_bitCount_0f7a4_35 : decode cJ6_bitCount_0f7a4 35 = .ok (.iload_n 0, 1) := all_at dvJ6_bitCount_0f7a4_32 3 rfl
theorem dJ6_bitCount_0f7a4_36 : decode cJ6_bitCount_0f7a4 36 = .ok (.bipush 8, 2) := all_at dvJ6_bitCount_0f7a4_32 4 rfl
theorem dJ6_bitCount_0f7a4_38 : decode cJ6_bitCount_0f7a4 38 = .ok (.iushr, 1) := all_at dvJ6_bitCount_0f7a4_32 5 rfl
theorem dJ6_bitCount_0f7a4_39 : decode cJ6_bitCount_0f7a4 39 = .ok (.iadd, 1) := all_at dvJ6_bitCount_0f7a4_32 6 rfl
theorem dJ6_bitCount_0f7a4_40 : decode cJ6_bitCount_0f7a4 40 = .ok (.istore_n 0, 1) := all_at dvJ6_bitCount_0f7a4_32 7 rfl
theorem dJ6_bitCount_0f7a4_41 : decode cJ6_bitCount_0f7a4 41 = .ok (.iload_n 0, 1) := all_at dvJ6_bitCount_0f7a4_32 8 rfl
theorem dJ6_bitCount_0f7a4_42 : decode cJ6_bitCount_0f7a4 42 = .ok (.iload_n 0, 1) := all_at dvJ6_bitCount_0f7a4_32 9 rfl
theorem dJ6_bitCount_0f7a4_43 : decode cJ6_bitCount_0f7a4 43 = .ok (.bipush 16, 2) := all_at dvJ6_bitCount_0f7a4_32 10 rfl
theorem dJ6_bitCount_0f7a4_45 : decode cJ6_bitCount_0f7a4 45 = .ok (.iushr, 1) := all_at dvJ6_bitCount_0f7a4_32 11 rfl
theorem dJ6_bitCount_0f7a4_46 : decode cJ6_bitCount_0f7a4 46 = .ok (.iadd, 1) := all_at dvJ6_bitCount_0f7a4_32 12 rfl
theorem dJ6_bitCount_0f7a4_47 : decode cJ6_bitCount_0f7a4 47 = .ok (.istore_n 0, 1) := all_at dvJ6_bitCount_0f7a4_32 13 rfl
theorem dJ6_bitCount_0f7a4_48 : decode cJ6_bitCount_0f7a4 48 = .ok (.iload_n 0, 1) := all_at dvJ6_bitCount_0f7a4_32 14 rfl
theorem dJ6_bitCount_0f7a4_49 : decode cJ6_bitCount_0f7a4 49 = .ok (.bipush 63, 2) := all_at dvJ6_bitCount_0f7a4_32 15 rfl
theorem dJ6_bitCount_0f7a4_51 : decode cJ6_bitCount_0f7a4 51 = .ok (.iand, 1) := all_at dvJ6_bitCount_0f7a4_32 16 rfl
theorem dJ6_bitCount_0f7a4_52 : decode cJ6_bitCount_0f7a4 52 = .ok (.ireturn, 1) := all_at dvJ6_bitCount_0f7a4_32 17 rfl
def C_AF (j : Nat) : Int32 := ([110, 3, 5, 2, 10, 0] : List Int32).getD j 0
def C_LN (j : Nat) : Int32 := ([0, 1, 0, 1, 0] : List Int32).getD j 0
def C_MN (j : Nat) : Int32 := ([300, 9, 200, 2, 999] : List Int32).getD j 0
def S_len : List Nat := [21, 28, 18, 3]
def S_byt : List (List Int32) := [[108, 101, 116, 32, 116, 97, 107, 101, 32, 110, 97, 109, 101, 32, 115, 116, 114, 105, 107, 101, 32], [119, 97, 116, 101, 114, 32, 115, 107, 101, 105, 110, 115, 32, 112, 97, 114, 116, 32, 108, 111, 111, 107, 115, 32, 102, 101, 101, 32], [109, 101, 97, 110, 32, 108, 101, 97, 115, 116, 32, 109, 105, 100, 100, 108, 101, 32], [116, 111, 32]]
def zH (ak av : Nat → Nat) (A : Nat → Prop) (U : State) (H : Heap) : Prop := (∃ t : Nat, va_Z "SilkHouse$Book" "AT_FIRST" "[I" (.ref t) A U H ∧ va_T .int t 6 (fun j => .int (C_AF j)) A U H) ∧ (∃ t : Nat, va_Z "SilkHouse$Reader" "LEAST_OF_NAME" "[I" (.ref t) A U H ∧ va_T .int t 5 (fun j => .int (C_LN j)) A U H) ∧ (∃ t : Nat, va_Z "SilkHouse$Reader" "MOST_OF_NAME" "[I" (.ref t) A U H ∧ va_T .int t 5 (fun j => .int (C_MN j)) A U H) ∧ va_Z "java/lang/String" "COMPACT_STRINGS" "Z" (.int 1) A U H ∧ va_Zq "jdk/internal/util/Preconditions" "SIOOBE_FORMATTER" "Ljava/util/function/BiFunction;" A U H ∧ vk_S 4 S_len S_byt ak av A U H
def zV (ak : Nat → Nat) (U : State) : Prop := vk_R "SilkHouse$Reader" 44 "let take name strike " (ak 0) U ∧ vk_R "SilkHouse$Reader" 69 "water skeins part looks fee " (ak 1) U ∧ vk_R "SilkHouse$Reader" 89 "mean least middle " (ak 2) U ∧ vk_R "SilkHouse$Reader" 94 "to " (ak 3) U ∧ va_Nw (.methodLinkNest "SilkHouse$Reader" 120 yX11_within "SilkHouse") U ∧ va_Nw (.methodLinkNest "SilkHouse$Doubts" 92 yX11_within "SilkHouse") U
def zC (ak av : Nat → Nat) (A : Nat → Prop) (U : State) (H : Heap) : Prop := zH ak av A U H ∧ zV ak U
theorem zC.kept {ak av : Nat → Nat} {A : Nat → Prop} {U : State} {H H1 : Heap} (h : zC ak av A U H) (hq : ∀ a : Nat, a < H.size → ¬ A a → H1[a]? = H[a]?) : zC ak av A U H1 := by
  obtain ⟨⟨⟨t1, a1, b1⟩, ⟨t2, a2, b2⟩, ⟨t3, a3, b3⟩, h4, h5, h6⟩, hv⟩ := h
  exact ⟨⟨⟨t1, a1.kept hq, b1.kept hq⟩, ⟨t2, a2.kept hq, b2.kept hq⟩, ⟨t3, a3.kept hq, b3.kept hq⟩, h4.kept hq, h5.kept hq, h6.kept hq⟩, hv⟩
theorem zC.narrow {ak av : Nat → Nat} {A : Nat → Prop} {B : Nat → Prop} {U : State} {H : Heap} (h : zC ak av A U H) (hq : ∀ a : Nat, B a → A a) : zC ak av B U H := by
  obtain ⟨⟨⟨t1, a1, b1⟩, ⟨t2, a2, b2⟩, ⟨t3, a3, b3⟩, h4, h5, h6⟩, hv⟩ := h
  exact ⟨⟨⟨t1, a1.narrow hq, b1.narrow hq⟩, ⟨t2, a2.narrow hq, b2.narrow hq⟩, ⟨t3, a3.narrow hq, b3.narrow hq⟩, h4.narrow hq, h5.narrow hq, h6.narrow hq⟩, hv⟩
theorem zH.moved {ak av : Nat → Nat} {A : Nat → Prop} {u U : State} {H : Heap} (hvm : u.vm.Alike U.vm) (h : zH ak av A u H) : zH ak av A U H := by
  obtain ⟨⟨t1, a1, b1⟩, ⟨t2, a2, b2⟩, ⟨t3, a3, b3⟩, h4, h5, h6⟩ := h
  exact ⟨⟨t1, va_Z.moved hvm a1, va_T.moved hvm b1⟩, ⟨t2, va_Z.moved hvm a2, va_T.moved hvm b2⟩, ⟨t3, va_Z.moved hvm a3, va_T.moved hvm b3⟩, va_Z.moved hvm h4, va_Zq.moved hvm h5, vk_S.moved hvm h6⟩
theorem zC.call {ak av : Nat → Nat} {A : Nat → Prop} {u U : State} {H : Heap} (hv : U.vm = u.vm) (h : zC ak av A u H) : zC ak av A U H :=
  ⟨zH.moved (by rw [hv]; exact Vm.Alike.refl u.vm) h.1, h.2.1.same hv, h.2.2.1.same hv, h.2.2.2.1.same hv, h.2.2.2.2.1.same hv, va_Nw.same rfl hv.symm h.2.2.2.2.2.1, va_Nw.same rfl hv.symm h.2.2.2.2.2.2⟩
theorem zC.warm {ak av : Nat → Nat} {A : Nat → Prop} {s U : State} {H : Heap} (hW : s.WarmedH U.vm) (h : zC ak av A s H) : zC ak av A U H :=
  ⟨zH.moved hW.alike h.1, h.2.1.warm hW, h.2.2.1.warm hW, h.2.2.2.1.warm hW, h.2.2.2.2.1.warm hW, va_Nw.warmM hW h.2.2.2.2.2.1, va_Nw.warmM hW h.2.2.2.2.2.2⟩
def pRZ (ak av : Nat → Nat) (D : va_G) (cl : List vw_C) (ws : va_W) (tys : List (ClassId × FieldType)) (a : List Value) : Array Value → State → Prop := va_Pc a (fun U => va_P D cl ws U.heap ∧ va_K D cl tys U ∧ zC ak av (fun _ => False) U U.heap)
def pWZ (ak av : Nat → Nat) (D : va_G) (cl : List vw_C) (ws : va_W) (tys : List (ClassId × FieldType)) (sz : Nat) (a : List Value) : Array Value → State → Prop := va_Pc a (fun U => U.heap.size = sz ∧ va_P D cl ws U.heap ∧ va_K D cl tys U ∧ va_D (fun _ => True) ws ∧ zC ak av (va_A ws sz) U U.heap)
theorem pRZ_fb {ak av : Nat → Nat} {D : va_G} {cl : List vw_C} {ws : va_W} {tys : List (ClassId × FieldType)} {a : List Value} : FrameBlind (pRZ ak av D cl ws tys a) := fun b U g mk q => ⟨q.1, q.2.1, va_K.moved (u := U) (U := U.calling g mk b) (Vm.Alike.refl U.vm) q.2.2.1, zC.call (u := U) (U := U.calling g mk b) rfl q.2.2.2⟩
theorem pWZ_fb {ak av : Nat → Nat} {D : va_G} {cl : List vw_C} {ws : va_W} {tys : List (ClassId × FieldType)} {sz : Nat} {a : List Value} : FrameBlind (pWZ ak av D cl ws tys sz a) := fun b U g mk q => ⟨q.1, q.2.1, q.2.2.1, va_K.moved (u := U) (U := U.calling g mk b) (Vm.Alike.refl U.vm) q.2.2.2.1, q.2.2.2.2.1, zC.call (u := U) (U := U.calling g mk b) rfl q.2.2.2.2.2⟩
theorem vRZ {ak av : Nat → Nat} {D : va_G} {cl : List vw_C} {ws : va_W} {tys : List (ClassId × FieldType)} {s : State} {H : Heap} {C : String} {b : Addr} {As : List Value} (hP : va_P D cl ws H) (hK : va_K D cl tys s) (hZ : zC ak av (fun _ => False) s H) (hr : ∃ cell : Cell, H[b]? = some cell ∧ cell.vm.isStatics = false ∧ s.vm.findClass C = some cell.cls) : PreV s H C b (pRZ ak av D cl ws tys (.ref b :: As)) As := ⟨pRZ_fb, hr, fun U hU hW => ⟨rfl, by rw [hU]; exact hP, va_K.moved hW.alike hK, by rw [hU]; exact hZ.warm hW⟩⟩
theorem sRZ {ak av : Nat → Nat} {D : va_G} {cl : List vw_C} {ws : va_W} {tys : List (ClassId × FieldType)} {s : State} {H : Heap} {As : List Value} (hP : va_P D cl ws H) (hK : va_K D cl tys s) (hZ : zC ak av (fun _ => False) s H) : PreS s H (pRZ ak av D cl ws tys As) As := ⟨pRZ_fb, fun U hU hW => ⟨rfl, by rw [hU]; exact hP, va_K.moved hW.alike hK, by rw [hU]; exact hZ.warm hW⟩⟩
theorem vWZ {ak av : Nat → Nat} {D : va_G} {cl : List vw_C} {ws : va_W} {tys : List (ClassId × FieldType)} {A : Nat → Prop} {s : State} {H : Heap} {C : String} {b : Addr} {As : List Value} (hP : va_P D cl ws H) (hK : va_K D cl tys s) (hD : va_D A ws) (hZ : zC ak av (va_A ws H.size) s H) (hr : ∃ cell : Cell, H[b]? = some cell ∧ cell.vm.isStatics = false ∧ s.vm.findClass C = some cell.cls) : PreV s H C b (pWZ ak av D cl ws tys H.size (.ref b :: As)) As := ⟨pWZ_fb, hr, fun U hU hW => ⟨rfl, by rw [hU], by rw [hU]; exact hP, va_K.moved hW.alike hK, hD.weaken (fun _ _ _ _ => trivial), by rw [hU]; exact hZ.warm hW⟩⟩
theorem run_of {p : Program} {l : Launch} {e : Env} {R : Room} {s : State} {m : MethodId} {args : Array Value} {below : List Frame} {meth : Method} {c : Code} {H : Heap} {locs : List Loc} {cells slots mc ms : Nat} {g : JFrame} {rest : List Value} {Qa : State → Outcome → State → Prop} {free : Addr → Prop} (h : va_Run p l e R s m args below meth c H locs cells slots mc ms g rest Qa free) : CallRun p l e R s m args below meth c H locs cells slots mc ms g rest Qa free := fun T hT X => by
  obtain ⟨v, st₀, t, T', L, h0, X', hL, e1, e2, hq, st⟩ := h T hT X
  exact ⟨v, st₀, t, T', L, h0, X', hL, e1, hq, st⟩
theorem kS2 {R : Room} {s : State} {args : Array Value} {own : String} {index maxL mc ms : Nat} {y : MethodName} {bytes : ByteArray} {ret : Option FieldType} {rm : Room} (n : Nat) (ht : ∀ w ∈ tb, w.before args s = true) (h1 : Cond.methodLink own index y ∈ tb) (h2 : Cond.static y ∈ tb) (h4 : Cond.initialized y.cls ∈ tb) (hc : Cond.code y bytes maxL ret ∈ tb) (hrc : rm.cells = mc) (hrs : rm.slots = ms)
    (hd : y.cls ≠ "java/lang/invoke/MethodHandle" ∧ y.cls ≠ "java/lang/invoke/VarHandle" ∧ (parseMethodDescriptor y.desc).map (fun d => d.parameters.length) = some n) (hR : rm.frames + 1 ≤ R.frames ∧ 8 + (maxL + 11) + rm.locals ≤ R.locals) :
    CallB R s args own index y bytes maxL ret (wc y bytes maxL ret) rm mc ms n ∧ (Cond.static y).before args s = true :=
  va_cwS n ht (fun w hw => (List.mem_append.mp hw).elim (fun h => by
    simp only [List.mem_cons, List.not_mem_nil, or_false] at h
    rcases h with rfl | rfl | rfl
    · exact tb_self _ h1
    · exact tb_self _ h2
    · exact tb_self _ h4) (tb_wc hc w)) rfl hrc hrs hd hR
theorem nar_char {x v : Int32} (h : (x.toUInt32 % 65536).toInt32 = v) : narrow .char (.int v) = .int v := by
  subst h
  have h1 : ((x.toUInt32 % 65536).toInt32).toUInt32 = x.toUInt32 % 65536 := by simp
  have h2 : (x.toUInt32 % 65536) % 65536 = x.toUInt32 % 65536 := by
    apply UInt32.toNat_inj.mp
    simp
  show Value.int ((((x.toUInt32 % 65536).toInt32).toUInt32 % 65536).toInt32) = _
  rw [h1, h2]
theorem char_row : ∀ i : Nat, i < 4 → ∀ k : Nat, k < S_len.getD i 0 → ((((S_byt.getD i []).getD k 0) &&& 255).toUInt32 % 65536).toInt32 = (S_byt.getD i []).getD k 0 := by decide +kernel

theorem z_nz {a : Int32} {x : Int} (ha : a.toInt = x) (h : x ≠ 0) : ¬ a = 0 := fun q => h (by rw [← ha, q]; rfl)
theorem mul_b {x y a1 b1 a2 b2 : Int} (h1 : a1 ≤ x) (h2 : x ≤ b1) (h3 : a2 ≤ y) (h4 : y ≤ b2) (ha : 0 ≤ a1) (hb : 0 ≤ a2) : a1 * a2 ≤ x * y ∧ x * y ≤ b1 * b2 :=
  ⟨Int.mul_le_mul h1 h3 hb (Int.le_trans ha h1), Int.mul_le_mul h2 h4 (Int.le_trans hb h3) (Int.le_trans (Int.le_trans ha h1) h2)⟩
theorem z_mulb {a b c : Int32} {x y a1 b1 a2 b2 : Int} (h : c = a * b) (ha : a.toInt = x) (hb : b.toInt = y) (h1 : a1 ≤ x) (h2 : x ≤ b1) (h3 : a2 ≤ y) (h4 : y ≤ b2) (k1 : 0 ≤ a1) (k2 : 0 ≤ a2) (k3 : b1 * b2 < 2147483648) : a1 * a2 ≤ c.toInt ∧ c.toInt ≤ b1 * b2 := by
  have q := mul_b h1 h2 h3 h4 k1 k2
  have q0 : 0 ≤ a1 * a2 := Int.mul_nonneg k1 k2
  rw [z_mul h ha hb (by omega) (by omega)]; exact q
theorem l_mulb {a b c : Int64} {x y a1 b1 a2 b2 : Int} (h : c = a * b) (ha : a.toInt = x) (hb : b.toInt = y) (h1 : a1 ≤ x) (h2 : x ≤ b1) (h3 : a2 ≤ y) (h4 : y ≤ b2) (k1 : 0 ≤ a1) (k2 : 0 ≤ a2) (k3 : b1 * b2 < 9223372036854775808) : a1 * a2 ≤ c.toInt ∧ c.toInt ≤ b1 * b2 := by
  have q := mul_b h1 h2 h3 h4 k1 k2
  have q0 : 0 ≤ a1 * a2 := Int.mul_nonneg k1 k2
  have e : c.toInt = x * y := by
    rw [h, Int64.toInt_mul, ha, hb, Int.bmod_def]; omega
  rw [e]; exact q
theorem l_mulnz {a b c : Int64} (h : c = a * b) (h1 : a.toInt ≠ 0) (h2 : b.toInt ≠ 0) (h3 : a.toInt.natAbs ≤ 1000000000000) (h4 : b.toInt.natAbs ≤ 1000) : c.toInt ≠ 0 := by
  have q : (a.toInt * b.toInt).natAbs = a.toInt.natAbs * b.toInt.natAbs := Int.natAbs_mul ..
  have q2 : a.toInt.natAbs * b.toInt.natAbs ≤ 1000000000000 * 1000 := Nat.mul_le_mul h3 h4
  have q3 : 0 < a.toInt.natAbs * b.toInt.natAbs := Nat.mul_pos (by omega) (by omega)
  have e : c.toInt = a.toInt * b.toInt := by
    rw [h, Int64.toInt_mul, Int.bmod_def]; omega
  rw [e]; omega
theorem z_divb {a b c : Int32} {x y : Int} (h : c = a / b) (ha : a.toInt = x) (hb : b.toInt = y) (h0 : 0 ≤ x) (h1 : 0 < y) : 0 ≤ c.toInt ∧ c.toInt ≤ x := by
  have q := z_divp h ha hb h0 h1
  have q0 : 0 ≤ x / y := Int.ediv_nonneg h0 (Int.le_of_lt h1)
  have q1 : x / y ≤ x := Int.ediv_le_self y h0
  omega
theorem z_remb {a b c : Int32} {x y : Int} (h : c = a - a / b * b) (ha : a.toInt = x) (hb : b.toInt = y) (h0 : 0 ≤ x) (h1 : 0 < y) : 0 ≤ c.toInt ∧ c.toInt < y := by
  have q := z_remp h ha hb h0 h1
  have q0 : 0 ≤ x % y := Int.emod_nonneg x (by omega)
  have q1 : x % y < y := Int.emod_lt_of_pos x h1
  omega
theorem shl1c {n c : Int32} (h : c = 1 <<< (n &&& 31)) (hn : 0 ≤ n.toInt ∧ n.toInt ≤ 12) : 1 ≤ c.toInt ∧ c.toInt ≤ 4096 := by
  rcases (by omega : n.toInt = 0 ∨ n.toInt = 1 ∨ n.toInt = 2 ∨ n.toInt = 3 ∨ n.toInt = 4 ∨ n.toInt = 5 ∨ n.toInt = 6 ∨ n.toInt = 7 ∨ n.toInt = 8 ∨ n.toInt = 9 ∨ n.toInt = 10 ∨ n.toInt = 11 ∨ n.toInt = 12) with q | q | q | q | q | q | q | q | q | q | q | q | q
  · rw [h, show n = 0 from z_of (by decide) q]; decide
  · rw [h, show n = 1 from z_of (by decide) q]; decide
  · rw [h, show n = 2 from z_of (by decide) q]; decide
  · rw [h, show n = 3 from z_of (by decide) q]; decide
  · rw [h, show n = 4 from z_of (by decide) q]; decide
  · rw [h, show n = 5 from z_of (by decide) q]; decide
  · rw [h, show n = 6 from z_of (by decide) q]; decide
  · rw [h, show n = 7 from z_of (by decide) q]; decide
  · rw [h, show n = 8 from z_of (by decide) q]; decide
  · rw [h, show n = 9 from z_of (by decide) q]; decide
  · rw [h, show n = 10 from z_of (by decide) q]; decide
  · rw [h, show n = 11 from z_of (by decide) q]; decide
  · rw [h, show n = 12 from z_of (by decide) q]; decide
theorem l_add {a b c : Int64} {x y : Int} (h : c = a + b) (ha : a.toInt = x) (hb : b.toInt = y) (h1 : -9223372036854775808 ≤ x + y) (h2 : x + y < 9223372036854775808) : c.toInt = x + y := by
  rw [h, Int64.toInt_add, ha, hb, Int.bmod_def]; omega
theorem l_sub {a b c : Int64} {x y : Int} (h : c = a - b) (ha : a.toInt = x) (hb : b.toInt = y) (h1 : -9223372036854775808 ≤ x - y) (h2 : x - y < 9223372036854775808) : c.toInt = x - y := by
  rw [h, Int64.toInt_sub, ha, hb, Int.bmod_def]; omega
theorem l_mul {a b c : Int64} {x y : Int} (h : c = a * b) (ha : a.toInt = x) (hb : b.toInt = y) (h1 : -9223372036854775808 ≤ x * y) (h2 : x * y < 9223372036854775808) : c.toInt = x * y := by
  rw [h, Int64.toInt_mul, ha, hb, Int.bmod_def]; omega
theorem l_nz {a : Int64} {x : Int} (ha : a.toInt = x) (h : x ≠ 0) : ¬ a = 0 := fun q => h (by rw [← ha, q]; rfl)
theorem tdiv_abs {x y : Int} (hy : y ≠ 0) : (x.tdiv y).natAbs ≤ x.natAbs := by rw [Int.natAbs_tdiv]; exact Nat.div_le_self _ _
/-- a whole part: no larger than what is divided; not 0 where the divisor is no larger -/
theorem tdiv_in {x y : Int} (h1 : -9223372036854775808 ≤ x) (h2 : x < 9223372036854775808) (hy : y ≠ 0) (hm : ¬ (x = -9223372036854775808 ∧ y = -1)) : -9223372036854775808 ≤ x.tdiv y ∧ x.tdiv y < 9223372036854775808 := by
  have q : (x.tdiv y).natAbs = x.natAbs / y.natAbs := Int.natAbs_tdiv ..
  by_cases e1 : y = 1
  · rw [e1, Int.tdiv_one]; exact ⟨h1, h2⟩
  · by_cases e2 : y = -1
    · have : x.tdiv y = -x := by rw [e2, Int.tdiv_neg, Int.tdiv_one]
      omega
    · have q2 : x.natAbs / y.natAbs ≤ x.natAbs / 2 := Nat.div_le_div_left (by omega) (by decide)
      omega
/-- a whole part: no larger than what is divided; not 0 where the divisor is no larger -/
theorem l_div {a b c : Int64} {x y : Int} (h : c = a / b) (ha : a.toInt = x) (hb : b.toInt = y) (hy : y ≠ 0) : c.toInt.natAbs ≤ x.natAbs ∧ (x ≠ 0 → y.natAbs ≤ x.natAbs → c.toInt ≠ 0) := by
  have h1 := Int64.toInt_lt a
  have h0 := Int64.le_toInt a
  rw [ha] at h1 h0
  by_cases hm : x = -9223372036854775808 ∧ y = -1
  · have ea : a = -9223372036854775808 := Int64.toInt_inj.mp (by rw [ha, hm.1]; decide)
    have eb : b = -1 := Int64.toInt_inj.mp (by rw [hb, hm.2]; decide)
    rw [h, ea, eb, hm.1, hm.2]; exact ⟨by decide, fun _ _ => by decide⟩
  · have r := tdiv_in h0 h1 hy hm
    have e : c.toInt = x.tdiv y := by
      rw [h, Int64.toInt_div, ha, hb, Int.bmod_def]
      omega
    refine ⟨by rw [e]; exact tdiv_abs hy, fun h0 h2 => ?_⟩
    rw [e]
    have h3 : (x.tdiv y).natAbs = x.natAbs / y.natAbs := Int.natAbs_tdiv ..
    have h4 : 0 < x.natAbs / y.natAbs := Nat.div_pos h2 (by omega)
    omega
theorem l_rem {a b c : Int64} {x y : Int} (h : c = a - a / b * b) (ha : a.toInt = x) (hb : b.toInt = y) (hy : y ≠ 0) : c.toInt.natAbs < y.natAbs := by
  have h1 := Int64.toInt_lt a
  have h0 := Int64.le_toInt a
  rw [ha] at h1 h0
  by_cases hm : x = -9223372036854775808 ∧ y = -1
  · have ea : a = -9223372036854775808 := Int64.toInt_inj.mp (by rw [ha, hm.1]; decide)
    have eb : b = -1 := Int64.toInt_inj.mp (by rw [hb, hm.2]; decide)
    rw [h, ea, eb, hm.2]; decide
  · have r := tdiv_in h0 h1 hy hm
    have e : (a / b).toInt = x.tdiv y := by
      rw [Int64.toInt_div, ha, hb, Int.bmod_def]
      omega
    have e0 : x.tmod y + y * (x.tdiv y) = x := Int.tmod_add_mul_tdiv x y
    have e1 : x.tdiv y * y = x - x.tmod y := by rw [Int.mul_comm]; omega
    have e2 : (x.tmod y).natAbs ≤ x.natAbs := by rw [Int.natAbs_tmod]; exact Nat.mod_le _ _
    have e3 : (x.tmod y).natAbs < y.natAbs := by rw [Int.natAbs_tmod]; exact Nat.mod_lt _ (by omega)
    have e4 : 0 ≤ x → 0 ≤ x.tmod y := fun h => Int.tmod_nonneg y h
    have e5 : x ≤ 0 → x.tmod y ≤ 0 := fun h => by
      have := Int.tmod_nonneg (a := -x) y (by omega)
      rw [Int.neg_tmod] at this; omega
    have mm : (a / b * b).toInt = x - x.tmod y := by
      rw [Int64.toInt_mul, e, hb, e1, Int.bmod_def]
      omega
    have ss : c.toInt = x.tmod y := by
      rw [h, Int64.toInt_sub, ha, mm, Int.bmod_def]
      omega
    rw [ss]; exact e3
theorem l_neg0 {a c : Int64} (h : c = 0 - a) : c.toInt.natAbs = a.toInt.natAbs := by
  have h1 := Int64.toInt_lt a
  have h0 := Int64.le_toInt a
  have z0 : (0 : Int64).toInt = 0 := rfl
  rw [h, Int64.toInt_sub, z0, Int.bmod_def]
  omega
theorem nfw : nativeFrameWords "java/lang/System" "arraycopy" 5 = 7 := by decide +kernel
set_option maxHeartbeats 4000000 in
set_option maxRecDepth 100000 in
/-- J6_bitCount_0f7a4 -/
theorem c_J6_bitCount_0f7a4 (l : Launch) (dC : Nat → ClassId) (dI : Nat → Nat → Nat) (a : Int32) : Met l yJ6_bitCount_0f7a4 (wc yJ6_bitCount_0f7a4 cJ6_bitCount_0f7a4 1 (some .int)) ({ frames := 0, cells := 0, slots := 0, locals := 0 } : Room) (pR (dC, dI) classes [] [] [.int a]) (vp_Si (fun r => True)) 0 0 (fun _ => False) := by
  refine Met.ofW (cc := cJ6_bitCount_0f7a4) (maxL := 1) (ret := (some .int)) (by decide) rfl ?_
  intro p e s m args below meth c s₁ B hml hv
  obtain ⟨rfl, hP, hK⟩ := hv
  have hx := B.exec
  have hb := B.bytes
  have hr := B.returns
  have ht := tb_tl (atoms_spec (ws := wc yJ6_bitCount_0f7a4 cJ6_bitCount_0f7a4 1 (some .int)) B.pre)
  have hown : s.vm.findClass RJ6 = some m.cls := findClass_of_methodNamed B.named
  have hlocks := B.notSynchronized
  have hl := lv_entry [.int a] (n := 1) (Nat.le_of_ble_eq_true rfl)
  rw [lg_entry_eq]
  generalize (lg_sl [.int a] ++ List.replicate (1 - (lg_sl [.int a]).length) Slot.unset).toArray = ls at hl ⊢
  have hl : lv_has ls 1 [(0, .int a)] := hl
  refine lv_iload_n hx hb dJ6_bitCount_0f7a4_0 rfl (lv_at hl 0 rfl) ?_
  refine lv_iload_n hx hb dJ6_bitCount_0f7a4_1 rfl (lv_at hl 0 rfl) ?_
  refine lv_iconst (v := 1) hx hb dJ6_bitCount_0f7a4_2 (by decide) ?_
  obtain ⟨v1, ev1⟩ : ∃ y : Int32, ((a : Int32).toUInt32 >>> ((1 : Int32).toUInt32 &&& Int32.toUInt32 31)).toInt32 = y := ⟨_, rfl⟩
  refine lv_iushr (v := v1) hx hb dJ6_bitCount_0f7a4_3 ev1 ?_
  refine lv_ldcw hx hb hown (ht _ m_1053) dJ6_bitCount_0f7a4_4 ?_
  refine lv_iand hx hb dJ6_bitCount_0f7a4_7 ?_
  refine lv_topi (fun v2 ev2 => ?_)
  refine lv_isub hx hb dJ6_bitCount_0f7a4_8 ?_
  refine lv_topi (fun v3 ev3 => ?_)
  refine lv_istore_n (lv' := [(0, .int v3)]) hx hb dJ6_bitCount_0f7a4_9 rfl hl (by decide) rfl (fun ls hl => ?_)
  refine lv_iload_n hx hb dJ6_bitCount_0f7a4_10 rfl (lv_at hl 0 rfl) ?_
  refine lv_ldcw hx hb hown (ht _ m_1054) dJ6_bitCount_0f7a4_11 ?_
  refine lv_iand hx hb dJ6_bitCount_0f7a4_14 ?_
  refine lv_topi (fun v4 ev4 => ?_)
  refine lv_iload_n hx hb dJ6_bitCount_0f7a4_15 rfl (lv_at hl 0 rfl) ?_
  refine lv_iconst (v := 2) hx hb dJ6_bitCount_0f7a4_16 (by decide) ?_
  obtain ⟨v5, ev5⟩ : ∃ y : Int32, ((v3 : Int32).toUInt32 >>> ((2 : Int32).toUInt32 &&& Int32.toUInt32 31)).toInt32 = y := ⟨_, rfl⟩
  refine lv_iushr (v := v5) hx hb dJ6_bitCount_0f7a4_17 ev5 ?_
  refine lv_ldcw hx hb hown (ht _ m_1054) dJ6_bitCount_0f7a4_18 ?_
  refine lv_iand hx hb dJ6_bitCount_0f7a4_21 ?_
  refine lv_topi (fun v6 ev6 => ?_)
  refine lv_iadd hx hb dJ6_bitCount_0f7a4_22 ?_
  refine lv_topi (fun v7 ev7 => ?_)
  refine lv_istore_n (lv' := [(0, .int v7)]) hx hb dJ6_bitCount_0f7a4_23 rfl hl (by decide) rfl (fun ls hl => ?_)
  refine lv_iload_n hx hb dJ6_bitCount_0f7a4_24 rfl (lv_at hl 0 rfl) ?_
  refine lv_iload_n hx hb dJ6_bitCount_0f7a4_25 rfl (lv_at hl 0 rfl) ?_
  refine lv_iconst (v := 4) hx hb dJ6_bitCount_0f7a4_26 (by decide) ?_
  obtain ⟨v8, ev8⟩ : ∃ y : Int32, ((v7 : Int32).toUInt32 >>> ((4 : Int32).toUInt32 &&& Int32.toUInt32 31)).toInt32 = y := ⟨_, rfl⟩
  refine lv_iushr (v := v8) hx hb dJ6_bitCount_0f7a4_27 ev8 ?_
  refine lv_iadd hx hb dJ6_bitCount_0f7a4_28 ?_
  refine lv_topi (fun v9 ev9 => ?_)
  refine lv_ldcw hx hb hown (ht _ m_1055) dJ6_bitCount_0f7a4_29 ?_
  refine lv_iand hx hb dJ6_bitCount_0f7a4_32 ?_
  refine lv_topi (fun v10 ev10 => ?_)
  refine lv_istore_n (lv' := [(0, .int v10)]) hx hb dJ6_bitCount_0f7a4_33 rfl hl (by decide) rfl (fun ls hl => ?_)
  refine lv_iload_n hx hb dJ6_bitCount_0f7a4_34 rfl (lv_at hl 0 rfl) ?_
  refine lv_iload_n hx hb dJ6_bitCount_0f7a4_35 rfl (lv_at hl 0 rfl) ?_
  refine lv_bipush (v := 8) hx hb dJ6_bitCount_0f7a4_36 (by decide) ?_
  obtain ⟨v11, ev11⟩ : ∃ y : Int32, ((v10 : Int32).toUInt32 >>> ((8 : Int32).toUInt32 &&& Int32.toUInt32 31)).toInt32 = y := ⟨_, rfl⟩
  refine lv_iushr (v := v11) hx hb dJ6_bitCount_0f7a4_38 ev11 ?_
  refine lv_iadd hx hb dJ6_bitCount_0f7a4_39 ?_
  refine lv_topi (fun v12 ev12 => ?_)
  refine lv_istore_n (lv' := [(0, .int v12)]) hx hb dJ6_bitCount_0f7a4_40 rfl hl (by decide) rfl (fun ls hl => ?_)
  refine lv_iload_n hx hb dJ6_bitCount_0f7a4_41 rfl (lv_at hl 0 rfl) ?_
  refine lv_iload_n hx hb dJ6_bitCount_0f7a4_42 rfl (lv_at hl 0 rfl) ?_
  refine lv_bipush (v := 16) hx hb dJ6_bitCount_0f7a4_43 (by decide) ?_
  obtain ⟨v13, ev13⟩ : ∃ y : Int32, ((v12 : Int32).toUInt32 >>> ((16 : Int32).toUInt32 &&& Int32.toUInt32 31)).toInt32 = y := ⟨_, rfl⟩
  refine lv_iushr (v := v13) hx hb dJ6_bitCount_0f7a4_45 ev13 ?_
  refine lv_iadd hx hb dJ6_bitCount_0f7a4_46 ?_
  refine lv_topi (fun v14 ev14 => ?_)
  refine lv_istore_n (lv' := [(0, .int v14)]) hx hb dJ6_bitCount_0f7a4_47 rfl hl (by decide) rfl (fun ls hl => ?_)
  refine lv_iload_n hx hb dJ6_bitCount_0f7a4_48 rfl (lv_at hl 0 rfl) ?_
  refine lv_bipush (v := 63) hx hb dJ6_bitCount_0f7a4_49 (by decide) ?_
  refine lv_iand hx hb dJ6_bitCount_0f7a4_51 ?_
  refine lv_topi (fun v15 ev15 => ?_)
  exact W.iret (v := v15) hx hb hr (fun t ht9 hW => ⟨v15, rfl, trivial, ht9⟩) (fun q hq => by cases hq) dJ6_bitCount_0f7a4_52
set_option maxHeartbeats 4000000 in
set_option maxRecDepth 100000 in
/-- J3_checkIndex_8e157 -/
theorem c_J3_checkIndex_8e157_3 (l : Launch) (dC : Nat → ClassId) (dI : Nat → Nat → Nat) (a : Int32) (f : Nat) (h_a : 0 ≤ a.toInt ∧ a.toInt ≤ 2) : Met l yJ3_checkIndex_8e157 (wc yJ3_checkIndex_8e157 cJ3_checkIndex_8e157 3 (some .int)) ({ frames := 0, cells := 0, slots := 0, locals := 0 } : Room) (pR (dC, dI) classes [] [] [.int a, .int 3, .ref f]) (vp_Si (fun r => 0 ≤ r.toInt ∧ r.toInt ≤ 2)) 0 0 (fun _ => False) := by
  refine Met.ofW (cc := cJ3_checkIndex_8e157) (maxL := 3) (ret := (some .int)) (by decide) rfl ?_
  intro p e s m args below meth c s₁ B hml hv
  obtain ⟨rfl, hP, hK⟩ := hv
  have hx := B.exec
  have hb := B.bytes
  have hr := B.returns
  have ht := tb_tl (atoms_spec (ws := wc yJ3_checkIndex_8e157 cJ3_checkIndex_8e157 3 (some .int)) B.pre)
  have hown : s.vm.findClass RJ3 = some m.cls := findClass_of_methodNamed B.named
  have hlocks := B.notSynchronized
  have hl := lv_entry [.int a, .int 3, .ref f] (n := 3) (Nat.le_of_ble_eq_true rfl)
  rw [lg_entry_eq]
  generalize (lg_sl [.int a, .int 3, .ref f] ++ List.replicate (3 - (lg_sl [.int a, .int 3, .ref f]).length) Slot.unset).toArray = ls at hl ⊢
  have hl : lv_has ls 3 [(0, .int a), (1, .int 3), (2, .ref f)] := hl
  refine lv_iload_n hx hb dJ3_checkIndex_8e157_0 rfl (lv_at hl 0 rfl) ?_
  refine lv_if_lt (tgt := 9) hx hb dJ3_checkIndex_8e157_1 (by decide) (fun c1 => ?_) (fun c1 => ?_)
  · have fc1 := z_lt (rfl : (a).toInt = _) (by decide : (0 : Int32).toInt = 0) c1; exfalso; omega
  · skip
    refine lv_iload_n hx hb dJ3_checkIndex_8e157_4 rfl (lv_at hl 0 rfl) ?_
    refine lv_iload_n hx hb dJ3_checkIndex_8e157_5 rfl (lv_at hl 1 rfl) ?_
    refine lv_icmp_lt (tgt := 16) hx hb dJ3_checkIndex_8e157_6 (by decide) (fun c2 => ?_) (fun c2 => ?_)
    · skip
      refine lv_iload_n hx hb dJ3_checkIndex_8e157_16 rfl (lv_at hl 0 rfl) ?_
      exact W.iret (v := a) hx hb hr (fun t ht9 hW => ⟨a, rfl, ⟨by omega, by omega⟩, ht9⟩) (fun q hq => by cases hq) dJ3_checkIndex_8e157_17
    · have fc2 := z_nlt (rfl : (a).toInt = _) (by decide : (3 : Int32).toInt = 3) c2; exfalso; omega
set_option maxHeartbeats 4000000 in
set_option maxRecDepth 100000 in
/-- J3_checkIndex_8e157 -/
theorem c_J3_checkIndex_8e157_3z (l : Launch) (dC : Nat → ClassId) (dI : Nat → Nat → Nat) (a : Int32) (h_a : 0 ≤ a.toInt ∧ a.toInt ≤ 2) : Met l yJ3_checkIndex_8e157 (wc yJ3_checkIndex_8e157 cJ3_checkIndex_8e157 3 (some .int)) ({ frames := 0, cells := 0, slots := 0, locals := 0 } : Room) (pR (dC, dI) classes [] [] [.int a, .int 3, .null]) (vp_Si (fun r => 0 ≤ r.toInt ∧ r.toInt ≤ 2)) 0 0 (fun _ => False) := by
  refine Met.ofW (cc := cJ3_checkIndex_8e157) (maxL := 3) (ret := (some .int)) (by decide) rfl ?_
  intro p e s m args below meth c s₁ B hml hv
  obtain ⟨rfl, hP, hK⟩ := hv
  have hx := B.exec
  have hb := B.bytes
  have hr := B.returns
  have ht := tb_tl (atoms_spec (ws := wc yJ3_checkIndex_8e157 cJ3_checkIndex_8e157 3 (some .int)) B.pre)
  have hown : s.vm.findClass RJ3 = some m.cls := findClass_of_methodNamed B.named
  have hlocks := B.notSynchronized
  have hl := lv_entry [.int a, .int 3, .null] (n := 3) (Nat.le_of_ble_eq_true rfl)
  rw [lg_entry_eq]
  generalize (lg_sl [.int a, .int 3, .null] ++ List.replicate (3 - (lg_sl [.int a, .int 3, .null]).length) Slot.unset).toArray = ls at hl ⊢
  have hl : lv_has ls 3 [(0, .int a), (1, .int 3), (2, .null)] := hl
  refine lv_iload_n hx hb dJ3_checkIndex_8e157_0 rfl (lv_at hl 0 rfl) ?_
  refine lv_if_lt (tgt := 9) hx hb dJ3_checkIndex_8e157_1 (by decide) (fun c1 => ?_) (fun c1 => ?_)
  · have fc1 := z_lt (rfl : (a).toInt = _) (by decide : (0 : Int32).toInt = 0) c1; exfalso; omega
  · skip
    refine lv_iload_n hx hb dJ3_checkIndex_8e157_4 rfl (lv_at hl 0 rfl) ?_
    refine lv_iload_n hx hb dJ3_checkIndex_8e157_5 rfl (lv_at hl 1 rfl) ?_
    refine lv_icmp_lt (tgt := 16) hx hb dJ3_checkIndex_8e157_6 (by decide) (fun c2 => ?_) (fun c2 => ?_)
    · skip
      refine lv_iload_n hx hb dJ3_checkIndex_8e157_16 rfl (lv_at hl 0 rfl) ?_
      exact W.iret (v := a) hx hb hr (fun t ht9 hW => ⟨a, rfl, ⟨by omega, by omega⟩, ht9⟩) (fun q hq => by cases hq) dJ3_checkIndex_8e157_17
    · have fc2 := z_nlt (rfl : (a).toInt = _) (by decide : (3 : Int32).toInt = 3) c2; exfalso; omega
set_option maxHeartbeats 4000000 in
set_option maxRecDepth 100000 in
/-- J3_checkIndex_8e157 -/
theorem c_J3_checkIndex_8e157_18 (l : Launch) (dC : Nat → ClassId) (dI : Nat → Nat → Nat) (a : Int32) (f : Nat) (h_a : 0 ≤ a.toInt ∧ a.toInt ≤ 17) : Met l yJ3_checkIndex_8e157 (wc yJ3_checkIndex_8e157 cJ3_checkIndex_8e157 3 (some .int)) ({ frames := 0, cells := 0, slots := 0, locals := 0 } : Room) (pR (dC, dI) classes [] [] [.int a, .int 18, .ref f]) (vp_Si (fun r => 0 ≤ r.toInt ∧ r.toInt ≤ 17)) 0 0 (fun _ => False) := by
  refine Met.ofW (cc := cJ3_checkIndex_8e157) (maxL := 3) (ret := (some .int)) (by decide) rfl ?_
  intro p e s m args below meth c s₁ B hml hv
  obtain ⟨rfl, hP, hK⟩ := hv
  have hx := B.exec
  have hb := B.bytes
  have hr := B.returns
  have ht := tb_tl (atoms_spec (ws := wc yJ3_checkIndex_8e157 cJ3_checkIndex_8e157 3 (some .int)) B.pre)
  have hown : s.vm.findClass RJ3 = some m.cls := findClass_of_methodNamed B.named
  have hlocks := B.notSynchronized
  have hl := lv_entry [.int a, .int 18, .ref f] (n := 3) (Nat.le_of_ble_eq_true rfl)
  rw [lg_entry_eq]
  generalize (lg_sl [.int a, .int 18, .ref f] ++ List.replicate (3 - (lg_sl [.int a, .int 18, .ref f]).length) Slot.unset).toArray = ls at hl ⊢
  have hl : lv_has ls 3 [(0, .int a), (1, .int 18), (2, .ref f)] := hl
  refine lv_iload_n hx hb dJ3_checkIndex_8e157_0 rfl (lv_at hl 0 rfl) ?_
  refine lv_if_lt (tgt := 9) hx hb dJ3_checkIndex_8e157_1 (by decide) (fun c1 => ?_) (fun c1 => ?_)
  · have fc1 := z_lt (rfl : (a).toInt = _) (by decide : (0 : Int32).toInt = 0) c1; exfalso; omega
  · skip
    refine lv_iload_n hx hb dJ3_checkIndex_8e157_4 rfl (lv_at hl 0 rfl) ?_
    refine lv_iload_n hx hb dJ3_checkIndex_8e157_5 rfl (lv_at hl 1 rfl) ?_
    refine lv_icmp_lt (tgt := 16) hx hb dJ3_checkIndex_8e157_6 (by decide) (fun c2 => ?_) (fun c2 => ?_)
    · skip
      refine lv_iload_n hx hb dJ3_checkIndex_8e157_16 rfl (lv_at hl 0 rfl) ?_
      exact W.iret (v := a) hx hb hr (fun t ht9 hW => ⟨a, rfl, ⟨by omega, by omega⟩, ht9⟩) (fun q hq => by cases hq) dJ3_checkIndex_8e157_17
    · have fc2 := z_nlt (rfl : (a).toInt = _) (by decide : (18 : Int32).toInt = 18) c2; exfalso; omega
set_option maxHeartbeats 4000000 in
set_option maxRecDepth 100000 in
/-- J3_checkIndex_8e157 -/
theorem c_J3_checkIndex_8e157_18z (l : Launch) (dC : Nat → ClassId) (dI : Nat → Nat → Nat) (a : Int32) (h_a : 0 ≤ a.toInt ∧ a.toInt ≤ 17) : Met l yJ3_checkIndex_8e157 (wc yJ3_checkIndex_8e157 cJ3_checkIndex_8e157 3 (some .int)) ({ frames := 0, cells := 0, slots := 0, locals := 0 } : Room) (pR (dC, dI) classes [] [] [.int a, .int 18, .null]) (vp_Si (fun r => 0 ≤ r.toInt ∧ r.toInt ≤ 17)) 0 0 (fun _ => False) := by
  refine Met.ofW (cc := cJ3_checkIndex_8e157) (maxL := 3) (ret := (some .int)) (by decide) rfl ?_
  intro p e s m args below meth c s₁ B hml hv
  obtain ⟨rfl, hP, hK⟩ := hv
  have hx := B.exec
  have hb := B.bytes
  have hr := B.returns
  have ht := tb_tl (atoms_spec (ws := wc yJ3_checkIndex_8e157 cJ3_checkIndex_8e157 3 (some .int)) B.pre)
  have hown : s.vm.findClass RJ3 = some m.cls := findClass_of_methodNamed B.named
  have hlocks := B.notSynchronized
  have hl := lv_entry [.int a, .int 18, .null] (n := 3) (Nat.le_of_ble_eq_true rfl)
  rw [lg_entry_eq]
  generalize (lg_sl [.int a, .int 18, .null] ++ List.replicate (3 - (lg_sl [.int a, .int 18, .null]).length) Slot.unset).toArray = ls at hl ⊢
  have hl : lv_has ls 3 [(0, .int a), (1, .int 18), (2, .null)] := hl
  refine lv_iload_n hx hb dJ3_checkIndex_8e157_0 rfl (lv_at hl 0 rfl) ?_
  refine lv_if_lt (tgt := 9) hx hb dJ3_checkIndex_8e157_1 (by decide) (fun c1 => ?_) (fun c1 => ?_)
  · have fc1 := z_lt (rfl : (a).toInt = _) (by decide : (0 : Int32).toInt = 0) c1; exfalso; omega
  · skip
    refine lv_iload_n hx hb dJ3_checkIndex_8e157_4 rfl (lv_at hl 0 rfl) ?_
    refine lv_iload_n hx hb dJ3_checkIndex_8e157_5 rfl (lv_at hl 1 rfl) ?_
    refine lv_icmp_lt (tgt := 16) hx hb dJ3_checkIndex_8e157_6 (by decide) (fun c2 => ?_) (fun c2 => ?_)
    · skip
      refine lv_iload_n hx hb dJ3_checkIndex_8e157_16 rfl (lv_at hl 0 rfl) ?_
      exact W.iret (v := a) hx hb hr (fun t ht9 hW => ⟨a, rfl, ⟨by omega, by omega⟩, ht9⟩) (fun q hq => by cases hq) dJ3_checkIndex_8e157_17
    · have fc2 := z_nlt (rfl : (a).toInt = _) (by decide : (18 : Int32).toInt = 18) c2; exfalso; omega
set_option maxHeartbeats 4000000 in
set_option maxRecDepth 100000 in
/-- J3_checkIndex_8e157 -/
theorem c_J3_checkIndex_8e157_21 (l : Launch) (dC : Nat → ClassId) (dI : Nat → Nat → Nat) (a : Int32) (f : Nat) (h_a : 0 ≤ a.toInt ∧ a.toInt ≤ 20) : Met l yJ3_checkIndex_8e157 (wc yJ3_checkIndex_8e157 cJ3_checkIndex_8e157 3 (some .int)) ({ frames := 0, cells := 0, slots := 0, locals := 0 } : Room) (pR (dC, dI) classes [] [] [.int a, .int 21, .ref f]) (vp_Si (fun r => 0 ≤ r.toInt ∧ r.toInt ≤ 20)) 0 0 (fun _ => False) := by
  refine Met.ofW (cc := cJ3_checkIndex_8e157) (maxL := 3) (ret := (some .int)) (by decide) rfl ?_
  intro p e s m args below meth c s₁ B hml hv
  obtain ⟨rfl, hP, hK⟩ := hv
  have hx := B.exec
  have hb := B.bytes
  have hr := B.returns
  have ht := tb_tl (atoms_spec (ws := wc yJ3_checkIndex_8e157 cJ3_checkIndex_8e157 3 (some .int)) B.pre)
  have hown : s.vm.findClass RJ3 = some m.cls := findClass_of_methodNamed B.named
  have hlocks := B.notSynchronized
  have hl := lv_entry [.int a, .int 21, .ref f] (n := 3) (Nat.le_of_ble_eq_true rfl)
  rw [lg_entry_eq]
  generalize (lg_sl [.int a, .int 21, .ref f] ++ List.replicate (3 - (lg_sl [.int a, .int 21, .ref f]).length) Slot.unset).toArray = ls at hl ⊢
  have hl : lv_has ls 3 [(0, .int a), (1, .int 21), (2, .ref f)] := hl
  refine lv_iload_n hx hb dJ3_checkIndex_8e157_0 rfl (lv_at hl 0 rfl) ?_
  refine lv_if_lt (tgt := 9) hx hb dJ3_checkIndex_8e157_1 (by decide) (fun c1 => ?_) (fun c1 => ?_)
  · have fc1 := z_lt (rfl : (a).toInt = _) (by decide : (0 : Int32).toInt = 0) c1; exfalso; omega
  · skip
    refine lv_iload_n hx hb dJ3_checkIndex_8e157_4 rfl (lv_at hl 0 rfl) ?_
    refine lv_iload_n hx hb dJ3_checkIndex_8e157_5 rfl (lv_at hl 1 rfl) ?_
    refine lv_icmp_lt (tgt := 16) hx hb dJ3_checkIndex_8e157_6 (by decide) (fun c2 => ?_) (fun c2 => ?_)
    · skip
      refine lv_iload_n hx hb dJ3_checkIndex_8e157_16 rfl (lv_at hl 0 rfl) ?_
      exact W.iret (v := a) hx hb hr (fun t ht9 hW => ⟨a, rfl, ⟨by omega, by omega⟩, ht9⟩) (fun q hq => by cases hq) dJ3_checkIndex_8e157_17
    · have fc2 := z_nlt (rfl : (a).toInt = _) (by decide : (21 : Int32).toInt = 21) c2; exfalso; omega
set_option maxHeartbeats 4000000 in
set_option maxRecDepth 100000 in
/-- J3_checkIndex_8e157 -/
theorem c_J3_checkIndex_8e157_21z (l : Launch) (dC : Nat → ClassId) (dI : Nat → Nat → Nat) (a : Int32) (h_a : 0 ≤ a.toInt ∧ a.toInt ≤ 20) : Met l yJ3_checkIndex_8e157 (wc yJ3_checkIndex_8e157 cJ3_checkIndex_8e157 3 (some .int)) ({ frames := 0, cells := 0, slots := 0, locals := 0 } : Room) (pR (dC, dI) classes [] [] [.int a, .int 21, .null]) (vp_Si (fun r => 0 ≤ r.toInt ∧ r.toInt ≤ 20)) 0 0 (fun _ => False) := by
  refine Met.ofW (cc := cJ3_checkIndex_8e157) (maxL := 3) (ret := (some .int)) (by decide) rfl ?_
  intro p e s m args below meth c s₁ B hml hv
  obtain ⟨rfl, hP, hK⟩ := hv
  have hx := B.exec
  have hb := B.bytes
  have hr := B.returns
  have ht := tb_tl (atoms_spec (ws := wc yJ3_checkIndex_8e157 cJ3_checkIndex_8e157 3 (some .int)) B.pre)
  have hown : s.vm.findClass RJ3 = some m.cls := findClass_of_methodNamed B.named
  have hlocks := B.notSynchronized
  have hl := lv_entry [.int a, .int 21, .null] (n := 3) (Nat.le_of_ble_eq_true rfl)
  rw [lg_entry_eq]
  generalize (lg_sl [.int a, .int 21, .null] ++ List.replicate (3 - (lg_sl [.int a, .int 21, .null]).length) Slot.unset).toArray = ls at hl ⊢
  have hl : lv_has ls 3 [(0, .int a), (1, .int 21), (2, .null)] := hl
  refine lv_iload_n hx hb dJ3_checkIndex_8e157_0 rfl (lv_at hl 0 rfl) ?_
  refine lv_if_lt (tgt := 9) hx hb dJ3_checkIndex_8e157_1 (by decide) (fun c1 => ?_) (fun c1 => ?_)
  · have fc1 := z_lt (rfl : (a).toInt = _) (by decide : (0 : Int32).toInt = 0) c1; exfalso; omega
  · skip
    refine lv_iload_n hx hb dJ3_checkIndex_8e157_4 rfl (lv_at hl 0 rfl) ?_
    refine lv_iload_n hx hb dJ3_checkIndex_8e157_5 rfl (lv_at hl 1 rfl) ?_
    refine lv_icmp_lt (tgt := 16) hx hb dJ3_checkIndex_8e157_6 (by decide) (fun c2 => ?_) (fun c2 => ?_)
    · skip
      refine lv_iload_n hx hb dJ3_checkIndex_8e157_16 rfl (lv_at hl 0 rfl) ?_
      exact W.iret (v := a) hx hb hr (fun t ht9 hW => ⟨a, rfl, ⟨by omega, by omega⟩, ht9⟩) (fun q hq => by cases hq) dJ3_checkIndex_8e157_17
    · have fc2 := z_nlt (rfl : (a).toInt = _) (by decide : (21 : Int32).toInt = 21) c2; exfalso; omega
set_option maxHeartbeats 4000000 in
set_option maxRecDepth 100000 in
/-- J3_checkIndex_8e157 -/
theorem c_J3_checkIndex_8e157_28 (l : Launch) (dC : Nat → ClassId) (dI : Nat → Nat → Nat) (a : Int32) (f : Nat) (h_a : 0 ≤ a.toInt ∧ a.toInt ≤ 27) : Met l yJ3_checkIndex_8e157 (wc yJ3_checkIndex_8e157 cJ3_checkIndex_8e157 3 (some .int)) ({ frames := 0, cells := 0, slots := 0, locals := 0 } : Room) (pR (dC, dI) classes [] [] [.int a, .int 28, .ref f]) (vp_Si (fun r => 0 ≤ r.toInt ∧ r.toInt ≤ 27)) 0 0 (fun _ => False) := by
  refine Met.ofW (cc := cJ3_checkIndex_8e157) (maxL := 3) (ret := (some .int)) (by decide) rfl ?_
  intro p e s m args below meth c s₁ B hml hv
  obtain ⟨rfl, hP, hK⟩ := hv
  have hx := B.exec
  have hb := B.bytes
  have hr := B.returns
  have ht := tb_tl (atoms_spec (ws := wc yJ3_checkIndex_8e157 cJ3_checkIndex_8e157 3 (some .int)) B.pre)
  have hown : s.vm.findClass RJ3 = some m.cls := findClass_of_methodNamed B.named
  have hlocks := B.notSynchronized
  have hl := lv_entry [.int a, .int 28, .ref f] (n := 3) (Nat.le_of_ble_eq_true rfl)
  rw [lg_entry_eq]
  generalize (lg_sl [.int a, .int 28, .ref f] ++ List.replicate (3 - (lg_sl [.int a, .int 28, .ref f]).length) Slot.unset).toArray = ls at hl ⊢
  have hl : lv_has ls 3 [(0, .int a), (1, .int 28), (2, .ref f)] := hl
  refine lv_iload_n hx hb dJ3_checkIndex_8e157_0 rfl (lv_at hl 0 rfl) ?_
  refine lv_if_lt (tgt := 9) hx hb dJ3_checkIndex_8e157_1 (by decide) (fun c1 => ?_) (fun c1 => ?_)
  · have fc1 := z_lt (rfl : (a).toInt = _) (by decide : (0 : Int32).toInt = 0) c1; exfalso; omega
  · skip
    refine lv_iload_n hx hb dJ3_checkIndex_8e157_4 rfl (lv_at hl 0 rfl) ?_
    refine lv_iload_n hx hb dJ3_checkIndex_8e157_5 rfl (lv_at hl 1 rfl) ?_
    refine lv_icmp_lt (tgt := 16) hx hb dJ3_checkIndex_8e157_6 (by decide) (fun c2 => ?_) (fun c2 => ?_)
    · skip
      refine lv_iload_n hx hb dJ3_checkIndex_8e157_16 rfl (lv_at hl 0 rfl) ?_
      exact W.iret (v := a) hx hb hr (fun t ht9 hW => ⟨a, rfl, ⟨by omega, by omega⟩, ht9⟩) (fun q hq => by cases hq) dJ3_checkIndex_8e157_17
    · have fc2 := z_nlt (rfl : (a).toInt = _) (by decide : (28 : Int32).toInt = 28) c2; exfalso; omega
set_option maxHeartbeats 4000000 in
set_option maxRecDepth 100000 in
/-- J3_checkIndex_8e157 -/
theorem c_J3_checkIndex_8e157_28z (l : Launch) (dC : Nat → ClassId) (dI : Nat → Nat → Nat) (a : Int32) (h_a : 0 ≤ a.toInt ∧ a.toInt ≤ 27) : Met l yJ3_checkIndex_8e157 (wc yJ3_checkIndex_8e157 cJ3_checkIndex_8e157 3 (some .int)) ({ frames := 0, cells := 0, slots := 0, locals := 0 } : Room) (pR (dC, dI) classes [] [] [.int a, .int 28, .null]) (vp_Si (fun r => 0 ≤ r.toInt ∧ r.toInt ≤ 27)) 0 0 (fun _ => False) := by
  refine Met.ofW (cc := cJ3_checkIndex_8e157) (maxL := 3) (ret := (some .int)) (by decide) rfl ?_
  intro p e s m args below meth c s₁ B hml hv
  obtain ⟨rfl, hP, hK⟩ := hv
  have hx := B.exec
  have hb := B.bytes
  have hr := B.returns
  have ht := tb_tl (atoms_spec (ws := wc yJ3_checkIndex_8e157 cJ3_checkIndex_8e157 3 (some .int)) B.pre)
  have hown : s.vm.findClass RJ3 = some m.cls := findClass_of_methodNamed B.named
  have hlocks := B.notSynchronized
  have hl := lv_entry [.int a, .int 28, .null] (n := 3) (Nat.le_of_ble_eq_true rfl)
  rw [lg_entry_eq]
  generalize (lg_sl [.int a, .int 28, .null] ++ List.replicate (3 - (lg_sl [.int a, .int 28, .null]).length) Slot.unset).toArray = ls at hl ⊢
  have hl : lv_has ls 3 [(0, .int a), (1, .int 28), (2, .null)] := hl
  refine lv_iload_n hx hb dJ3_checkIndex_8e157_0 rfl (lv_at hl 0 rfl) ?_
  refine lv_if_lt (tgt := 9) hx hb dJ3_checkIndex_8e157_1 (by decide) (fun c1 => ?_) (fun c1 => ?_)
  · have fc1 := z_lt (rfl : (a).toInt = _) (by decide : (0 : Int32).toInt = 0) c1; exfalso; omega
  · skip
    refine lv_iload_n hx hb dJ3_checkIndex_8e157_4 rfl (lv_at hl 0 rfl) ?_
    refine lv_iload_n hx hb dJ3_checkIndex_8e157_5 rfl (lv_at hl 1 rfl) ?_
    refine lv_icmp_lt (tgt := 16) hx hb dJ3_checkIndex_8e157_6 (by decide) (fun c2 => ?_) (fun c2 => ?_)
    · skip
      refine lv_iload_n hx hb dJ3_checkIndex_8e157_16 rfl (lv_at hl 0 rfl) ?_
      exact W.iret (v := a) hx hb hr (fun t ht9 hW => ⟨a, rfl, ⟨by omega, by omega⟩, ht9⟩) (fun q hq => by cases hq) dJ3_checkIndex_8e157_17
    · have fc2 := z_nlt (rfl : (a).toInt = _) (by decide : (28 : Int32).toInt = 28) c2; exfalso; omega
set_option maxHeartbeats 4000000 in
set_option maxRecDepth 100000 in
/-- J0_checkIndex_df160 -/
theorem c_J0_checkIndex_df160_3 (l : Launch) (dC : Nat → ClassId) (dI : Nat → Nat → Nat) (ak av : Nat → Nat) (a : Int32) (h_a : 0 ≤ a.toInt ∧ a.toInt ≤ 2) : Met l yJ0_checkIndex_df160 (wc yJ0_checkIndex_df160 cJ0_checkIndex_df160 2 none) ({ frames := 1, cells := 0, slots := 0, locals := 22 } : Room) (pRZ ak av (dC, dI) classes [] [] [.int a, .int 3]) (va_Sv (fun _ => True)) 0 0 (fun _ => False) := by
  refine Met.ofW (cc := cJ0_checkIndex_df160) (maxL := 2) (ret := none) (by decide) rfl ?_
  intro p e s m args below meth c s₁ B hml hv
  obtain ⟨rfl, hP, hK, hZ⟩ := hv
  have hx := B.exec
  have hb := B.bytes
  have hr := B.returns
  have ht := tb_tl (atoms_spec (ws := wc yJ0_checkIndex_df160 cJ0_checkIndex_df160 2 none) B.pre)
  have hown : s.vm.findClass RJ0 = some m.cls := findClass_of_methodNamed B.named
  have hlocks := B.notSynchronized
  have hl := lv_entry [.int a, .int 3] (n := 2) (Nat.le_of_ble_eq_true rfl)
  rw [lg_entry_eq]
  generalize (lg_sl [.int a, .int 3] ++ List.replicate (2 - (lg_sl [.int a, .int 3]).length) Slot.unset).toArray = ls at hl ⊢
  have hl : lv_has ls 2 [(0, .int a), (1, .int 3)] := hl
  refine lv_iload_n hx hb dJ0_checkIndex_df160_0 rfl (lv_at hl 0 rfl) ?_
  refine lv_iload_n hx hb dJ0_checkIndex_df160_1 rfl (lv_at hl 1 rfl) ?_
  rcases hZ.1.2.2.2.2.1 with hq | ⟨tq, hq⟩
  · refine va_gets hx hb hq va_S.rf hown (ht _ m_729) (fun _ h9 => h9) dJ0_checkIndex_df160_2 ?_
    refine vp_callSi (W.runS (As := [.int a, .int 3, .null]) (rest := []) ⟨hx, hb, hml, hown, ht⟩ (c_J3_checkIndex_8e157_3z l dC dI a ⟨by omega, by omega⟩) (kS2 3 ht m_731 m_732 m_93 m_733 rfl rfl hd_J3_checkIndex_8e157_i ⟨Nat.le_of_ble_eq_true rfl, Nat.le_of_ble_eq_true rfl⟩) (sR noP (hK.sub (tys' := []) [] rfl)) rfl rfl hl.1 rfl (lv_room (Nat.le_of_ble_eq_true rfl)) dJ0_checkIndex_df160_5 ⟨Nat.le_of_ble_eq_true rfl, Nat.le_of_ble_eq_true rfl⟩) (fun r1 hr1 => ?_)
    refine lv_pop hx hb dJ0_checkIndex_df160_8 rfl ?_
    exact W.vret hx hb hr (fun t ht9 hW => ⟨rfl, trivial, ht9⟩) (fun q hq => by cases hq) dJ0_checkIndex_df160_9
  · refine va_gets hx hb hq va_S.rf hown (ht _ m_729) (fun _ h9 => h9) dJ0_checkIndex_df160_2 ?_
    refine vp_callSi (W.runS (As := [.int a, .int 3, .ref tq]) (rest := []) ⟨hx, hb, hml, hown, ht⟩ (c_J3_checkIndex_8e157_3 l dC dI a tq ⟨by omega, by omega⟩) (kS2 3 ht m_731 m_732 m_93 m_733 rfl rfl hd_J3_checkIndex_8e157_i ⟨Nat.le_of_ble_eq_true rfl, Nat.le_of_ble_eq_true rfl⟩) (sR noP (hK.sub (tys' := []) [] rfl)) rfl rfl hl.1 rfl (lv_room (Nat.le_of_ble_eq_true rfl)) dJ0_checkIndex_df160_5 ⟨Nat.le_of_ble_eq_true rfl, Nat.le_of_ble_eq_true rfl⟩) (fun r2 hr2 => ?_)
    refine lv_pop hx hb dJ0_checkIndex_df160_8 rfl ?_
    exact W.vret hx hb hr (fun t ht9 hW => ⟨rfl, trivial, ht9⟩) (fun q hq => by cases hq) dJ0_checkIndex_df160_9
set_option maxHeartbeats 4000000 in
set_option maxRecDepth 100000 in
/-- J0_checkIndex_df160 -/
theorem c_J0_checkIndex_df160_18 (l : Launch) (dC : Nat → ClassId) (dI : Nat → Nat → Nat) (ak av : Nat → Nat) (a : Int32) (h_a : 0 ≤ a.toInt ∧ a.toInt ≤ 17) : Met l yJ0_checkIndex_df160 (wc yJ0_checkIndex_df160 cJ0_checkIndex_df160 2 none) ({ frames := 1, cells := 0, slots := 0, locals := 22 } : Room) (pRZ ak av (dC, dI) classes [] [] [.int a, .int 18]) (va_Sv (fun _ => True)) 0 0 (fun _ => False) := by
  refine Met.ofW (cc := cJ0_checkIndex_df160) (maxL := 2) (ret := none) (by decide) rfl ?_
  intro p e s m args below meth c s₁ B hml hv
  obtain ⟨rfl, hP, hK, hZ⟩ := hv
  have hx := B.exec
  have hb := B.bytes
  have hr := B.returns
  have ht := tb_tl (atoms_spec (ws := wc yJ0_checkIndex_df160 cJ0_checkIndex_df160 2 none) B.pre)
  have hown : s.vm.findClass RJ0 = some m.cls := findClass_of_methodNamed B.named
  have hlocks := B.notSynchronized
  have hl := lv_entry [.int a, .int 18] (n := 2) (Nat.le_of_ble_eq_true rfl)
  rw [lg_entry_eq]
  generalize (lg_sl [.int a, .int 18] ++ List.replicate (2 - (lg_sl [.int a, .int 18]).length) Slot.unset).toArray = ls at hl ⊢
  have hl : lv_has ls 2 [(0, .int a), (1, .int 18)] := hl
  refine lv_iload_n hx hb dJ0_checkIndex_df160_0 rfl (lv_at hl 0 rfl) ?_
  refine lv_iload_n hx hb dJ0_checkIndex_df160_1 rfl (lv_at hl 1 rfl) ?_
  rcases hZ.1.2.2.2.2.1 with hq | ⟨tq, hq⟩
  · refine va_gets hx hb hq va_S.rf hown (ht _ m_729) (fun _ h9 => h9) dJ0_checkIndex_df160_2 ?_
    refine vp_callSi (W.runS (As := [.int a, .int 18, .null]) (rest := []) ⟨hx, hb, hml, hown, ht⟩ (c_J3_checkIndex_8e157_18z l dC dI a ⟨by omega, by omega⟩) (kS2 3 ht m_731 m_732 m_93 m_733 rfl rfl hd_J3_checkIndex_8e157_i ⟨Nat.le_of_ble_eq_true rfl, Nat.le_of_ble_eq_true rfl⟩) (sR noP (hK.sub (tys' := []) [] rfl)) rfl rfl hl.1 rfl (lv_room (Nat.le_of_ble_eq_true rfl)) dJ0_checkIndex_df160_5 ⟨Nat.le_of_ble_eq_true rfl, Nat.le_of_ble_eq_true rfl⟩) (fun r1 hr1 => ?_)
    refine lv_pop hx hb dJ0_checkIndex_df160_8 rfl ?_
    exact W.vret hx hb hr (fun t ht9 hW => ⟨rfl, trivial, ht9⟩) (fun q hq => by cases hq) dJ0_checkIndex_df160_9
  · refine va_gets hx hb hq va_S.rf hown (ht _ m_729) (fun _ h9 => h9) dJ0_checkIndex_df160_2 ?_
    refine vp_callSi (W.runS (As := [.int a, .int 18, .ref tq]) (rest := []) ⟨hx, hb, hml, hown, ht⟩ (c_J3_checkIndex_8e157_18 l dC dI a tq ⟨by omega, by omega⟩) (kS2 3 ht m_731 m_732 m_93 m_733 rfl rfl hd_J3_checkIndex_8e157_i ⟨Nat.le_of_ble_eq_true rfl, Nat.le_of_ble_eq_true rfl⟩) (sR noP (hK.sub (tys' := []) [] rfl)) rfl rfl hl.1 rfl (lv_room (Nat.le_of_ble_eq_true rfl)) dJ0_checkIndex_df160_5 ⟨Nat.le_of_ble_eq_true rfl, Nat.le_of_ble_eq_true rfl⟩) (fun r2 hr2 => ?_)
    refine lv_pop hx hb dJ0_checkIndex_df160_8 rfl ?_
    exact W.vret hx hb hr (fun t ht9 hW => ⟨rfl, trivial, ht9⟩) (fun q hq => by cases hq) dJ0_checkIndex_df160_9
set_option maxHeartbeats 4000000 in
set_option maxRecDepth 100000 in
/-- J0_checkIndex_df160 -/
theorem c_J0_checkIndex_df160_21 (l : Launch) (dC : Nat → ClassId) (dI : Nat → Nat → Nat) (ak av : Nat → Nat) (a : Int32) (h_a : 0 ≤ a.toInt ∧ a.toInt ≤ 20) : Met l yJ0_checkIndex_df160 (wc yJ0_checkIndex_df160 cJ0_checkIndex_df160 2 none) ({ frames := 1, cells := 0, slots := 0, locals := 22 } : Room) (pRZ ak av (dC, dI) classes [] [] [.int a, .int 21]) (va_Sv (fun _ => True)) 0 0 (fun _ => False) := by
  refine Met.ofW (cc := cJ0_checkIndex_df160) (maxL := 2) (ret := none) (by decide) rfl ?_
  intro p e s m args below meth c s₁ B hml hv
  obtain ⟨rfl, hP, hK, hZ⟩ := hv
  have hx := B.exec
  have hb := B.bytes
  have hr := B.returns
  have ht := tb_tl (atoms_spec (ws := wc yJ0_checkIndex_df160 cJ0_checkIndex_df160 2 none) B.pre)
  have hown : s.vm.findClass RJ0 = some m.cls := findClass_of_methodNamed B.named
  have hlocks := B.notSynchronized
  have hl := lv_entry [.int a, .int 21] (n := 2) (Nat.le_of_ble_eq_true rfl)
  rw [lg_entry_eq]
  generalize (lg_sl [.int a, .int 21] ++ List.replicate (2 - (lg_sl [.int a, .int 21]).length) Slot.unset).toArray = ls at hl ⊢
  have hl : lv_has ls 2 [(0, .int a), (1, .int 21)] := hl
  refine lv_iload_n hx hb dJ0_checkIndex_df160_0 rfl (lv_at hl 0 rfl) ?_
  refine lv_iload_n hx hb dJ0_checkIndex_df160_1 rfl (lv_at hl 1 rfl) ?_
  rcases hZ.1.2.2.2.2.1 with hq | ⟨tq, hq⟩
  · refine va_gets hx hb hq va_S.rf hown (ht _ m_729) (fun _ h9 => h9) dJ0_checkIndex_df160_2 ?_
    refine vp_callSi (W.runS (As := [.int a, .int 21, .null]) (rest := []) ⟨hx, hb, hml, hown, ht⟩ (c_J3_checkIndex_8e157_21z l dC dI a ⟨by omega, by omega⟩) (kS2 3 ht m_731 m_732 m_93 m_733 rfl rfl hd_J3_checkIndex_8e157_i ⟨Nat.le_of_ble_eq_true rfl, Nat.le_of_ble_eq_true rfl⟩) (sR noP (hK.sub (tys' := []) [] rfl)) rfl rfl hl.1 rfl (lv_room (Nat.le_of_ble_eq_true rfl)) dJ0_checkIndex_df160_5 ⟨Nat.le_of_ble_eq_true rfl, Nat.le_of_ble_eq_true rfl⟩) (fun r1 hr1 => ?_)
    refine lv_pop hx hb dJ0_checkIndex_df160_8 rfl ?_
    exact W.vret hx hb hr (fun t ht9 hW => ⟨rfl, trivial, ht9⟩) (fun q hq => by cases hq) dJ0_checkIndex_df160_9
  · refine va_gets hx hb hq va_S.rf hown (ht _ m_729) (fun _ h9 => h9) dJ0_checkIndex_df160_2 ?_
    refine vp_callSi (W.runS (As := [.int a, .int 21, .ref tq]) (rest := []) ⟨hx, hb, hml, hown, ht⟩ (c_J3_checkIndex_8e157_21 l dC dI a tq ⟨by omega, by omega⟩) (kS2 3 ht m_731 m_732 m_93 m_733 rfl rfl hd_J3_checkIndex_8e157_i ⟨Nat.le_of_ble_eq_true rfl, Nat.le_of_ble_eq_true rfl⟩) (sR noP (hK.sub (tys' := []) [] rfl)) rfl rfl hl.1 rfl (lv_room (Nat.le_of_ble_eq_true rfl)) dJ0_checkIndex_df160_5 ⟨Nat.le_of_ble_eq_true rfl, Nat.le_of_ble_eq_true rfl⟩) (fun r2 hr2 => ?_)
    refine lv_pop hx hb dJ0_checkIndex_df160_8 rfl ?_
    exact W.vret hx hb hr (fun t ht9 hW => ⟨rfl, trivial, ht9⟩) (fun q hq => by cases hq) dJ0_checkIndex_df160_9
set_option maxHeartbeats 4000000 in
set_option maxRecDepth 100000 in
/-- J0_checkIndex_df160 -/
theorem c_J0_checkIndex_df160_28 (l : Launch) (dC : Nat → ClassId) (dI : Nat → Nat → Nat) (ak av : Nat → Nat) (a : Int32) (h_a : 0 ≤ a.toInt ∧ a.toInt ≤ 27) : Met l yJ0_checkIndex_df160 (wc yJ0_checkIndex_df160 cJ0_checkIndex_df160 2 none) ({ frames := 1, cells := 0, slots := 0, locals := 22 } : Room) (pRZ ak av (dC, dI) classes [] [] [.int a, .int 28]) (va_Sv (fun _ => True)) 0 0 (fun _ => False) := by
  refine Met.ofW (cc := cJ0_checkIndex_df160) (maxL := 2) (ret := none) (by decide) rfl ?_
  intro p e s m args below meth c s₁ B hml hv
  obtain ⟨rfl, hP, hK, hZ⟩ := hv
  have hx := B.exec
  have hb := B.bytes
  have hr := B.returns
  have ht := tb_tl (atoms_spec (ws := wc yJ0_checkIndex_df160 cJ0_checkIndex_df160 2 none) B.pre)
  have hown : s.vm.findClass RJ0 = some m.cls := findClass_of_methodNamed B.named
  have hlocks := B.notSynchronized
  have hl := lv_entry [.int a, .int 28] (n := 2) (Nat.le_of_ble_eq_true rfl)
  rw [lg_entry_eq]
  generalize (lg_sl [.int a, .int 28] ++ List.replicate (2 - (lg_sl [.int a, .int 28]).length) Slot.unset).toArray = ls at hl ⊢
  have hl : lv_has ls 2 [(0, .int a), (1, .int 28)] := hl
  refine lv_iload_n hx hb dJ0_checkIndex_df160_0 rfl (lv_at hl 0 rfl) ?_
  refine lv_iload_n hx hb dJ0_checkIndex_df160_1 rfl (lv_at hl 1 rfl) ?_
  rcases hZ.1.2.2.2.2.1 with hq | ⟨tq, hq⟩
  · refine va_gets hx hb hq va_S.rf hown (ht _ m_729) (fun _ h9 => h9) dJ0_checkIndex_df160_2 ?_
    refine vp_callSi (W.runS (As := [.int a, .int 28, .null]) (rest := []) ⟨hx, hb, hml, hown, ht⟩ (c_J3_checkIndex_8e157_28z l dC dI a ⟨by omega, by omega⟩) (kS2 3 ht m_731 m_732 m_93 m_733 rfl rfl hd_J3_checkIndex_8e157_i ⟨Nat.le_of_ble_eq_true rfl, Nat.le_of_ble_eq_true rfl⟩) (sR noP (hK.sub (tys' := []) [] rfl)) rfl rfl hl.1 rfl (lv_room (Nat.le_of_ble_eq_true rfl)) dJ0_checkIndex_df160_5 ⟨Nat.le_of_ble_eq_true rfl, Nat.le_of_ble_eq_true rfl⟩) (fun r1 hr1 => ?_)
    refine lv_pop hx hb dJ0_checkIndex_df160_8 rfl ?_
    exact W.vret hx hb hr (fun t ht9 hW => ⟨rfl, trivial, ht9⟩) (fun q hq => by cases hq) dJ0_checkIndex_df160_9
  · refine va_gets hx hb hq va_S.rf hown (ht _ m_729) (fun _ h9 => h9) dJ0_checkIndex_df160_2 ?_
    refine vp_callSi (W.runS (As := [.int a, .int 28, .ref tq]) (rest := []) ⟨hx, hb, hml, hown, ht⟩ (c_J3_checkIndex_8e157_28 l dC dI a tq ⟨by omega, by omega⟩) (kS2 3 ht m_731 m_732 m_93 m_733 rfl rfl hd_J3_checkIndex_8e157_i ⟨Nat.le_of_ble_eq_true rfl, Nat.le_of_ble_eq_true rfl⟩) (sR noP (hK.sub (tys' := []) [] rfl)) rfl rfl hl.1 rfl (lv_room (Nat.le_of_ble_eq_true rfl)) dJ0_checkIndex_df160_5 ⟨Nat.le_of_ble_eq_true rfl, Nat.le_of_ble_eq_true rfl⟩) (fun r2 hr2 => ?_)
    refine lv_pop hx hb dJ0_checkIndex_df160_8 rfl ?_
    exact W.vret hx hb hr (fun t ht9 hW => ⟨rfl, trivial, ht9⟩) (fun q hq => by cases hq) dJ0_checkIndex_df160_9
set_option maxHeartbeats 4000000 in
set_option maxRecDepth 100000 in
/-- J0_coder_7d493 -/
theorem c_J0_coder_7d493_0 (l : Launch) (dC : Nat → ClassId) (dI : Nat → Nat → Nat) (ak av : Nat → Nat) : Met l yJ0_coder_7d493 (wc yJ0_coder_7d493 cJ0_coder_7d493 1 (some .byte)) ({ frames := 0, cells := 0, slots := 0, locals := 0 } : Room) (pRZ ak av (dC, dI) classes [] [] [.ref (ak 0)]) (vp_Si (fun r => r = 0)) 0 0 (fun _ => False) := by
  refine Met.ofW (cc := cJ0_coder_7d493) (maxL := 1) (ret := (some .byte)) (by decide) rfl ?_
  intro p e s m args below meth c s₁ B hml hv
  obtain ⟨rfl, hP, hK, hZ⟩ := hv
  have hx := B.exec
  have hb := B.bytes
  have hr := B.returns
  have ht := tb_tl (atoms_spec (ws := wc yJ0_coder_7d493 cJ0_coder_7d493 1 (some .byte)) B.pre)
  have hown : s.vm.findClass RJ0 = some m.cls := findClass_of_methodNamed B.named
  have hlocks := B.notSynchronized
  have hl := lv_entry [.ref (ak 0)] (n := 1) (Nat.le_of_ble_eq_true rfl)
  rw [lg_entry_eq]
  generalize (lg_sl [.ref (ak 0)] ++ List.replicate (1 - (lg_sl [.ref (ak 0)]).length) Slot.unset).toArray = ls at hl ⊢
  have hl : lv_has ls 1 [(0, .ref (ak 0))] := hl
  refine va_gets hx hb hZ.1.2.2.2.1 va_S.rf hown (ht _ m_713) (fun _ h9 => h9) dJ0_coder_7d493_0 ?_
  refine lv_if_eq (tgt := 13) hx hb dJ0_coder_7d493_3 (by decide) (fun c1 => ?_) (fun c1 => ?_)
  · exact absurd c1 (by decide)
  · skip
    refine lv_aload_n hx hb dJ0_coder_7d493_6 rfl (lv_at hl 0 rfl) ?_
    refine vk_getf (v := .int 0) hx hb (hZ.1.2.2.2.2.2.1 0 (by decide)).2.1 va_S.rf hown (ht _ m_1718) (fun _ h9 => h9) dJ0_coder_7d493_7 ?_
    refine lv_goto (tgt := 14) hx hb dJ0_coder_7d493_10 (by decide) ?_
    exact W.zret (v := 0) hx hb hr rfl (fun t ht9 hW => ⟨0, rfl, rfl, ht9⟩) (fun q hq => by cases hq) dJ0_coder_7d493_14
set_option maxHeartbeats 4000000 in
set_option maxRecDepth 100000 in
/-- J0_length_8abf5 -/
theorem c_J0_length_8abf5_0 (l : Launch) (dC : Nat → ClassId) (dI : Nat → Nat → Nat) (ak av : Nat → Nat) : Met l yJ0_length_8abf5 (wc yJ0_length_8abf5 cJ0_length_8abf5 1 (some .int)) ({ frames := 1, cells := 0, slots := 0, locals := 20 } : Room) (pRZ ak av (dC, dI) classes [] [] [.ref (ak 0)]) (vp_Si (fun r => r = 21)) 0 0 (fun _ => False) := by
  refine Met.ofW (cc := cJ0_length_8abf5) (maxL := 1) (ret := (some .int)) (by decide) rfl ?_
  intro p e s m args below meth c s₁ B hml hv
  obtain ⟨rfl, hP, hK, hZ⟩ := hv
  have hx := B.exec
  have hb := B.bytes
  have hr := B.returns
  have ht := tb_tl (atoms_spec (ws := wc yJ0_length_8abf5 cJ0_length_8abf5 1 (some .int)) B.pre)
  have hown : s.vm.findClass RJ0 = some m.cls := findClass_of_methodNamed B.named
  have hlocks := B.notSynchronized
  have hl := lv_entry [.ref (ak 0)] (n := 1) (Nat.le_of_ble_eq_true rfl)
  rw [lg_entry_eq]
  generalize (lg_sl [.ref (ak 0)] ++ List.replicate (1 - (lg_sl [.ref (ak 0)]).length) Slot.unset).toArray = ls at hl ⊢
  have hl : lv_has ls 1 [(0, .ref (ak 0))] := hl
  refine lv_aload_n hx hb dJ0_length_8abf5_0 rfl (lv_at hl 0 rfl) ?_
  refine vk_getf (v := .ref (av 0)) hx hb (hZ.1.2.2.2.2.2.1 0 (by decide)).2.2.1 va_S.rf hown (ht _ m_1717) (fun _ h9 => h9) dJ0_length_8abf5_1 ?_
  refine va_tlen (v := 21) hx hb (hZ.1.2.2.2.2.2.1 0 (by decide)).2.2.2 va_S.rf (by decide) dJ0_length_8abf5_4 ?_
  refine lv_aload_n hx hb dJ0_length_8abf5_5 rfl (lv_at hl 0 rfl) ?_
  refine vp_callSi (W.runV (As := []) (rest := [.int 21]) ⟨hx, hb, hml, hown, ht⟩ (c_J0_coder_7d493_0 l dC dI ak av) (kV 0 ht m_709 m_710 m_711 m_91 m_712 rfl rfl hd_J0_coder_7d493_v ⟨Nat.le_of_ble_eq_true rfl, Nat.le_of_ble_eq_true rfl⟩) (vRZ noP (hK.sub (tys' := []) [] rfl) hZ (vk_recv hZ.1.2.2.2.2.2 (i := 0) (by decide) va_S.rf)) rfl rfl hl.1 rfl (lv_room (Nat.le_of_ble_eq_true rfl)) dJ0_length_8abf5_6 ⟨Nat.le_of_ble_eq_true rfl, Nat.le_of_ble_eq_true rfl⟩) (fun r1 hr1 => ?_)
  obtain rfl : 0 = r1 := hr1.symm
  refine lv_ishr hx hb dJ0_length_8abf5_9 ?_
  refine lv_topi (fun v2 ev2 => ?_)
  obtain rfl : 21 = v2 := (ev2.trans (by decide)).symm
  exact W.iret (v := 21) hx hb hr (fun t ht9 hW => ⟨21, rfl, rfl, ht9⟩) (fun q hq => by cases hq) dJ0_length_8abf5_10
set_option maxHeartbeats 4000000 in
set_option maxRecDepth 100000 in
/-- J0_isLatin1_aae02 -/
theorem c_J0_isLatin1_aae02_0 (l : Launch) (dC : Nat → ClassId) (dI : Nat → Nat → Nat) (ak av : Nat → Nat) : Met l yJ0_isLatin1_aae02 (wc yJ0_isLatin1_aae02 cJ0_isLatin1_aae02 1 (some .boolean)) ({ frames := 0, cells := 0, slots := 0, locals := 0 } : Room) (pRZ ak av (dC, dI) classes [] [] [.ref (ak 0)]) (vp_Si (fun r => r = 1)) 0 0 (fun _ => False) := by
  refine Met.ofW (cc := cJ0_isLatin1_aae02) (maxL := 1) (ret := (some .boolean)) (by decide) rfl ?_
  intro p e s m args below meth c s₁ B hml hv
  obtain ⟨rfl, hP, hK, hZ⟩ := hv
  have hx := B.exec
  have hb := B.bytes
  have hr := B.returns
  have ht := tb_tl (atoms_spec (ws := wc yJ0_isLatin1_aae02 cJ0_isLatin1_aae02 1 (some .boolean)) B.pre)
  have hown : s.vm.findClass RJ0 = some m.cls := findClass_of_methodNamed B.named
  have hlocks := B.notSynchronized
  have hl := lv_entry [.ref (ak 0)] (n := 1) (Nat.le_of_ble_eq_true rfl)
  rw [lg_entry_eq]
  generalize (lg_sl [.ref (ak 0)] ++ List.replicate (1 - (lg_sl [.ref (ak 0)]).length) Slot.unset).toArray = ls at hl ⊢
  have hl : lv_has ls 1 [(0, .ref (ak 0))] := hl
  refine va_gets hx hb hZ.1.2.2.2.1 va_S.rf hown (ht _ m_713) (fun _ h9 => h9) dJ0_isLatin1_aae02_0 ?_
  refine lv_if_eq (tgt := 17) hx hb dJ0_isLatin1_aae02_3 (by decide) (fun c1 => ?_) (fun c1 => ?_)
  · exact absurd c1 (by decide)
  · skip
    refine lv_aload_n hx hb dJ0_isLatin1_aae02_6 rfl (lv_at hl 0 rfl) ?_
    refine vk_getf (v := .int 0) hx hb (hZ.1.2.2.2.2.2.1 0 (by decide)).2.1 va_S.rf hown (ht _ m_1718) (fun _ h9 => h9) dJ0_isLatin1_aae02_7 ?_
    refine lv_if_ne (tgt := 17) hx hb dJ0_isLatin1_aae02_10 (by decide) (fun c2 => ?_) (fun c2 => ?_)
    · exact absurd rfl c2
    · skip
      refine lv_iconst (v := 1) hx hb dJ0_isLatin1_aae02_13 (by decide) ?_
      refine lv_goto (tgt := 18) hx hb dJ0_isLatin1_aae02_14 (by decide) ?_
      exact W.zret (v := 1) hx hb hr rfl (fun t ht9 hW => ⟨1, rfl, rfl, ht9⟩) (fun q hq => by cases hq) dJ0_isLatin1_aae02_18
set_option maxHeartbeats 4000000 in
set_option maxRecDepth 100000 in
/-- J1_charAt_3b067 -/
theorem c_J1_charAt_3b067_0 (l : Launch) (dC : Nat → ClassId) (dI : Nat → Nat → Nat) (ak av : Nat → Nat) (k : Int32) (h_k : 0 ≤ k.toInt ∧ k.toInt ≤ 20) : Met l yJ1_charAt_3b067 (wc yJ1_charAt_3b067 cJ1_charAt_3b067 2 (some .char)) ({ frames := 2, cells := 0, slots := 0, locals := 43 } : Room) (pRZ ak av (dC, dI) classes [] [] [.ref (av 0), .int k]) (vp_Si (fun r => r = (S_byt.getD 0 []).getD k.toNatClampNeg 0)) 0 0 (fun _ => False) := by
  refine Met.ofW (cc := cJ1_charAt_3b067) (maxL := 2) (ret := (some .char)) (by decide) rfl ?_
  intro p e s m args below meth c s₁ B hml hv
  obtain ⟨rfl, hP, hK, hZ⟩ := hv
  have hx := B.exec
  have hb := B.bytes
  have hr := B.returns
  have ht := tb_tl (atoms_spec (ws := wc yJ1_charAt_3b067 cJ1_charAt_3b067 2 (some .char)) B.pre)
  have hown : s.vm.findClass RJ1 = some m.cls := findClass_of_methodNamed B.named
  have hlocks := B.notSynchronized
  have hl := lv_entry [.ref (av 0), .int k] (n := 2) (Nat.le_of_ble_eq_true rfl)
  rw [lg_entry_eq]
  generalize (lg_sl [.ref (av 0), .int k] ++ List.replicate (2 - (lg_sl [.ref (av 0), .int k]).length) Slot.unset).toArray = ls at hl ⊢
  have hl : lv_has ls 2 [(0, .ref (av 0)), (1, .int k)] := hl
  refine lv_iload_n hx hb dJ1_charAt_3b067_0 rfl (lv_at hl 1 rfl) ?_
  refine lv_aload_n hx hb dJ1_charAt_3b067_1 rfl (lv_at hl 0 rfl) ?_
  refine va_tlen (v := 21) hx hb (hZ.1.2.2.2.2.2.1 0 (by decide)).2.2.2 va_S.rf (by decide) dJ1_charAt_3b067_2 ?_
  refine va_csv (W.runS (As := [.int k, .int 21]) (rest := []) ⟨hx, hb, hml, hown, ht⟩ (c_J0_checkIndex_df160_21 l dC dI ak av k ⟨by omega, by omega⟩) (kS2 2 ht m_726 m_727 m_91 m_728 rfl rfl hd_J0_checkIndex_df160_i ⟨Nat.le_of_ble_eq_true rfl, Nat.le_of_ble_eq_true rfl⟩) (sRZ noP (hK.sub (tys' := []) [] rfl) hZ) rfl rfl hl.1 rfl (lv_room (Nat.le_of_ble_eq_true rfl)) dJ1_charAt_3b067_3 ⟨Nat.le_of_ble_eq_true rfl, Nat.le_of_ble_eq_true rfl⟩) (fun _ => ?_)
  refine lv_aload_n hx hb dJ1_charAt_3b067_6 rfl (lv_at hl 0 rfl) ?_
  refine lv_iload_n hx hb dJ1_charAt_3b067_7 rfl (lv_at hl 1 rfl) ?_
  refine va_tb (v := .int ((S_byt.getD 0 []).getD (k : Int32).toNatClampNeg 0)) hx hb (hZ.1.2.2.2.2.2.1 0 (by decide)).2.2.2 va_S.rf (show vp_in k 21 from (vp_in_iff.mpr ⟨by omega, by omega⟩)) rfl dJ1_charAt_3b067_8 ?_
  refine lv_topi (fun v2 ev2 => ?_)
  refine lv_sipush (v := 255) hx hb dJ1_charAt_3b067_9 (by decide) ?_
  refine lv_iand hx hb dJ1_charAt_3b067_12 ?_
  refine lv_topi (fun v3 ev3 => ?_)
  obtain ⟨v4, ev4⟩ : ∃ y : Int32, ((v3 : Int32).toUInt32 % 65536).toInt32 = y := ⟨_, rfl⟩
  refine lv_i2c (v := v4) hx hb dJ1_charAt_3b067_13 ev4 ?_
  exact W.zret (v := v4) hx hb hr (nar_char ev4) (fun t ht9 hW => ⟨v4, rfl, (by subst_vars; exact char_row 0 (by decide) _ (show k.toNatClampNeg < 21 from by show (k.toInt.toNat : Nat) < 21; omega)), ht9⟩) (fun q hq => by cases hq) dJ1_charAt_3b067_14
set_option maxHeartbeats 4000000 in
set_option maxRecDepth 100000 in
/-- J0_charAt_5068e -/
theorem c_J0_charAt_5068e_0 (l : Launch) (dC : Nat → ClassId) (dI : Nat → Nat → Nat) (ak av : Nat → Nat) (k : Int32) (h_k : 0 ≤ k.toInt ∧ k.toInt ≤ 20) : Met l yJ0_charAt_5068e (wc yJ0_charAt_5068e cJ0_charAt_5068e 2 (some .char)) ({ frames := 3, cells := 0, slots := 0, locals := 64 } : Room) (pRZ ak av (dC, dI) classes [] [] [.ref (ak 0), .int k]) (vp_Si (fun r => r = (S_byt.getD 0 []).getD k.toNatClampNeg 0)) 0 0 (fun _ => False) := by
  refine Met.ofW (cc := cJ0_charAt_5068e) (maxL := 2) (ret := (some .char)) (by decide) rfl ?_
  intro p e s m args below meth c s₁ B hml hv
  obtain ⟨rfl, hP, hK, hZ⟩ := hv
  have hx := B.exec
  have hb := B.bytes
  have hr := B.returns
  have ht := tb_tl (atoms_spec (ws := wc yJ0_charAt_5068e cJ0_charAt_5068e 2 (some .char)) B.pre)
  have hown : s.vm.findClass RJ0 = some m.cls := findClass_of_methodNamed B.named
  have hlocks := B.notSynchronized
  have hl := lv_entry [.ref (ak 0), .int k] (n := 2) (Nat.le_of_ble_eq_true rfl)
  rw [lg_entry_eq]
  generalize (lg_sl [.ref (ak 0), .int k] ++ List.replicate (2 - (lg_sl [.ref (ak 0), .int k]).length) Slot.unset).toArray = ls at hl ⊢
  have hl : lv_has ls 2 [(0, .ref (ak 0)), (1, .int k)] := hl
  refine lv_aload_n hx hb dJ0_charAt_5068e_0 rfl (lv_at hl 0 rfl) ?_
  refine vp_callSi (W.runV (As := []) (rest := []) ⟨hx, hb, hml, hown, ht⟩ (c_J0_isLatin1_aae02_0 l dC dI ak av) (kV 0 ht m_719 m_720 m_721 m_91 m_722 rfl rfl hd_J0_isLatin1_aae02_v ⟨Nat.le_of_ble_eq_true rfl, Nat.le_of_ble_eq_true rfl⟩) (vRZ noP (hK.sub (tys' := []) [] rfl) hZ (vk_recv hZ.1.2.2.2.2.2 (i := 0) (by decide) va_S.rf)) rfl rfl hl.1 rfl (lv_room (Nat.le_of_ble_eq_true rfl)) dJ0_charAt_5068e_1 ⟨Nat.le_of_ble_eq_true rfl, Nat.le_of_ble_eq_true rfl⟩) (fun r1 hr1 => ?_)
  obtain rfl : 1 = r1 := hr1.symm
  refine lv_if_eq (tgt := 16) hx hb dJ0_charAt_5068e_4 (by decide) (fun c2 => ?_) (fun c2 => ?_)
  · exact absurd c2 (by decide)
  · skip
    refine lv_aload_n hx hb dJ0_charAt_5068e_7 rfl (lv_at hl 0 rfl) ?_
    refine vk_getf (v := .ref (av 0)) hx hb (hZ.1.2.2.2.2.2.1 0 (by decide)).2.2.1 va_S.rf hown (ht _ m_1717) (fun _ h9 => h9) dJ0_charAt_5068e_8 ?_
    refine lv_iload_n hx hb dJ0_charAt_5068e_11 rfl (lv_at hl 1 rfl) ?_
    refine vp_callSi (W.runS (As := [.ref (av 0), .int k]) (rest := []) ⟨hx, hb, hml, hown, ht⟩ (c_J1_charAt_3b067_0 l dC dI ak av k ⟨by omega, by omega⟩) (kS2 2 ht m_723 m_724 m_92 m_725 rfl rfl hd_J1_charAt_3b067_i ⟨Nat.le_of_ble_eq_true rfl, Nat.le_of_ble_eq_true rfl⟩) (sRZ noP (hK.sub (tys' := []) [] rfl) hZ) rfl rfl hl.1 rfl (lv_room (Nat.le_of_ble_eq_true rfl)) dJ0_charAt_5068e_12 ⟨Nat.le_of_ble_eq_true rfl, Nat.le_of_ble_eq_true rfl⟩) (fun r3 hr3 => ?_)
    exact W.zret (v := r3) hx hb hr (by rw [hr3]; exact nar_char (char_row 0 (by decide) _ (show k.toNatClampNeg < 21 from by show (k.toInt.toNat : Nat) < 21; omega))) (fun t ht9 hW => ⟨r3, rfl, hr3, ht9⟩) (fun q hq => by cases hq) dJ0_charAt_5068e_15
set_option maxHeartbeats 4000000 in
set_option maxRecDepth 100000 in
/-- J0_coder_7d493 -/
theorem c_J0_coder_7d493_1 (l : Launch) (dC : Nat → ClassId) (dI : Nat → Nat → Nat) (ak av : Nat → Nat) : Met l yJ0_coder_7d493 (wc yJ0_coder_7d493 cJ0_coder_7d493 1 (some .byte)) ({ frames := 0, cells := 0, slots := 0, locals := 0 } : Room) (pRZ ak av (dC, dI) classes [] [] [.ref (ak 1)]) (vp_Si (fun r => r = 0)) 0 0 (fun _ => False) := by
  refine Met.ofW (cc := cJ0_coder_7d493) (maxL := 1) (ret := (some .byte)) (by decide) rfl ?_
  intro p e s m args below meth c s₁ B hml hv
  obtain ⟨rfl, hP, hK, hZ⟩ := hv
  have hx := B.exec
  have hb := B.bytes
  have hr := B.returns
  have ht := tb_tl (atoms_spec (ws := wc yJ0_coder_7d493 cJ0_coder_7d493 1 (some .byte)) B.pre)
  have hown : s.vm.findClass RJ0 = some m.cls := findClass_of_methodNamed B.named
  have hlocks := B.notSynchronized
  have hl := lv_entry [.ref (ak 1)] (n := 1) (Nat.le_of_ble_eq_true rfl)
  rw [lg_entry_eq]
  generalize (lg_sl [.ref (ak 1)] ++ List.replicate (1 - (lg_sl [.ref (ak 1)]).length) Slot.unset).toArray = ls at hl ⊢
  have hl : lv_has ls 1 [(0, .ref (ak 1))] := hl
  refine va_gets hx hb hZ.1.2.2.2.1 va_S.rf hown (ht _ m_713) (fun _ h9 => h9) dJ0_coder_7d493_0 ?_
  refine lv_if_eq (tgt := 13) hx hb dJ0_coder_7d493_3 (by decide) (fun c1 => ?_) (fun c1 => ?_)
  · exact absurd c1 (by decide)
  · skip
    refine lv_aload_n hx hb dJ0_coder_7d493_6 rfl (lv_at hl 0 rfl) ?_
    refine vk_getf (v := .int 0) hx hb (hZ.1.2.2.2.2.2.1 1 (by decide)).2.1 va_S.rf hown (ht _ m_1718) (fun _ h9 => h9) dJ0_coder_7d493_7 ?_
    refine lv_goto (tgt := 14) hx hb dJ0_coder_7d493_10 (by decide) ?_
    exact W.zret (v := 0) hx hb hr rfl (fun t ht9 hW => ⟨0, rfl, rfl, ht9⟩) (fun q hq => by cases hq) dJ0_coder_7d493_14
set_option maxHeartbeats 4000000 in
set_option maxRecDepth 100000 in
/-- J0_length_8abf5 -/
theorem c_J0_length_8abf5_1 (l : Launch) (dC : Nat → ClassId) (dI : Nat → Nat → Nat) (ak av : Nat → Nat) : Met l yJ0_length_8abf5 (wc yJ0_length_8abf5 cJ0_length_8abf5 1 (some .int)) ({ frames := 1, cells := 0, slots := 0, locals := 20 } : Room) (pRZ ak av (dC, dI) classes [] [] [.ref (ak 1)]) (vp_Si (fun r => r = 28)) 0 0 (fun _ => False) := by
  refine Met.ofW (cc := cJ0_length_8abf5) (maxL := 1) (ret := (some .int)) (by decide) rfl ?_
  intro p e s m args below meth c s₁ B hml hv
  obtain ⟨rfl, hP, hK, hZ⟩ := hv
  have hx := B.exec
  have hb := B.bytes
  have hr := B.returns
  have ht := tb_tl (atoms_spec (ws := wc yJ0_length_8abf5 cJ0_length_8abf5 1 (some .int)) B.pre)
  have hown : s.vm.findClass RJ0 = some m.cls := findClass_of_methodNamed B.named
  have hlocks := B.notSynchronized
  have hl := lv_entry [.ref (ak 1)] (n := 1) (Nat.le_of_ble_eq_true rfl)
  rw [lg_entry_eq]
  generalize (lg_sl [.ref (ak 1)] ++ List.replicate (1 - (lg_sl [.ref (ak 1)]).length) Slot.unset).toArray = ls at hl ⊢
  have hl : lv_has ls 1 [(0, .ref (ak 1))] := hl
  refine lv_aload_n hx hb dJ0_length_8abf5_0 rfl (lv_at hl 0 rfl) ?_
  refine vk_getf (v := .ref (av 1)) hx hb (hZ.1.2.2.2.2.2.1 1 (by decide)).2.2.1 va_S.rf hown (ht _ m_1717) (fun _ h9 => h9) dJ0_length_8abf5_1 ?_
  refine va_tlen (v := 28) hx hb (hZ.1.2.2.2.2.2.1 1 (by decide)).2.2.2 va_S.rf (by decide) dJ0_length_8abf5_4 ?_
  refine lv_aload_n hx hb dJ0_length_8abf5_5 rfl (lv_at hl 0 rfl) ?_
  refine vp_callSi (W.runV (As := []) (rest := [.int 28]) ⟨hx, hb, hml, hown, ht⟩ (c_J0_coder_7d493_1 l dC dI ak av) (kV 0 ht m_709 m_710 m_711 m_91 m_712 rfl rfl hd_J0_coder_7d493_v ⟨Nat.le_of_ble_eq_true rfl, Nat.le_of_ble_eq_true rfl⟩) (vRZ noP (hK.sub (tys' := []) [] rfl) hZ (vk_recv hZ.1.2.2.2.2.2 (i := 1) (by decide) va_S.rf)) rfl rfl hl.1 rfl (lv_room (Nat.le_of_ble_eq_true rfl)) dJ0_length_8abf5_6 ⟨Nat.le_of_ble_eq_true rfl, Nat.le_of_ble_eq_true rfl⟩) (fun r1 hr1 => ?_)
  obtain rfl : 0 = r1 := hr1.symm
  refine lv_ishr hx hb dJ0_length_8abf5_9 ?_
  refine lv_topi (fun v2 ev2 => ?_)
  obtain rfl : 28 = v2 := (ev2.trans (by decide)).symm
  exact W.iret (v := 28) hx hb hr (fun t ht9 hW => ⟨28, rfl, rfl, ht9⟩) (fun q hq => by cases hq) dJ0_length_8abf5_10
set_option maxHeartbeats 4000000 in
set_option maxRecDepth 100000 in
/-- J0_isLatin1_aae02 -/
theorem c_J0_isLatin1_aae02_1 (l : Launch) (dC : Nat → ClassId) (dI : Nat → Nat → Nat) (ak av : Nat → Nat) : Met l yJ0_isLatin1_aae02 (wc yJ0_isLatin1_aae02 cJ0_isLatin1_aae02 1 (some .boolean)) ({ frames := 0, cells := 0, slots := 0, locals := 0 } : Room) (pRZ ak av (dC, dI) classes [] [] [.ref (ak 1)]) (vp_Si (fun r => r = 1)) 0 0 (fun _ => False) := by
  refine Met.ofW (cc := cJ0_isLatin1_aae02) (maxL := 1) (ret := (some .boolean)) (by decide) rfl ?_
  intro p e s m args below meth c s₁ B hml hv
  obtain ⟨rfl, hP, hK, hZ⟩ := hv
  have hx := B.exec
  have hb := B.bytes
  have hr := B.returns
  have ht := tb_tl (atoms_spec (ws := wc yJ0_isLatin1_aae02 cJ0_isLatin1_aae02 1 (some .boolean)) B.pre)
  have hown : s.vm.findClass RJ0 = some m.cls := findClass_of_methodNamed B.named
  have hlocks := B.notSynchronized
  have hl := lv_entry [.ref (ak 1)] (n := 1) (Nat.le_of_ble_eq_true rfl)
  rw [lg_entry_eq]
  generalize (lg_sl [.ref (ak 1)] ++ List.replicate (1 - (lg_sl [.ref (ak 1)]).length) Slot.unset).toArray = ls at hl ⊢
  have hl : lv_has ls 1 [(0, .ref (ak 1))] := hl
  refine va_gets hx hb hZ.1.2.2.2.1 va_S.rf hown (ht _ m_713) (fun _ h9 => h9) dJ0_isLatin1_aae02_0 ?_
  refine lv_if_eq (tgt := 17) hx hb dJ0_isLatin1_aae02_3 (by decide) (fun c1 => ?_) (fun c1 => ?_)
  · exact absurd c1 (by decide)
  · skip
    refine lv_aload_n hx hb dJ0_isLatin1_aae02_6 rfl (lv_at hl 0 rfl) ?_
    refine vk_getf (v := .int 0) hx hb (hZ.1.2.2.2.2.2.1 1 (by decide)).2.1 va_S.rf hown (ht _ m_1718) (fun _ h9 => h9) dJ0_isLatin1_aae02_7 ?_
    refine lv_if_ne (tgt := 17) hx hb dJ0_isLatin1_aae02_10 (by decide) (fun c2 => ?_) (fun c2 => ?_)
    · exact absurd rfl c2
    · skip
      refine lv_iconst (v := 1) hx hb dJ0_isLatin1_aae02_13 (by decide) ?_
      refine lv_goto (tgt := 18) hx hb dJ0_isLatin1_aae02_14 (by decide) ?_
      exact W.zret (v := 1) hx hb hr rfl (fun t ht9 hW => ⟨1, rfl, rfl, ht9⟩) (fun q hq => by cases hq) dJ0_isLatin1_aae02_18
set_option maxHeartbeats 4000000 in
set_option maxRecDepth 100000 in
/-- J1_charAt_3b067 -/
theorem c_J1_charAt_3b067_1 (l : Launch) (dC : Nat → ClassId) (dI : Nat → Nat → Nat) (ak av : Nat → Nat) (k : Int32) (h_k : 0 ≤ k.toInt ∧ k.toInt ≤ 27) : Met l yJ1_charAt_3b067 (wc yJ1_charAt_3b067 cJ1_charAt_3b067 2 (some .char)) ({ frames := 2, cells := 0, slots := 0, locals := 43 } : Room) (pRZ ak av (dC, dI) classes [] [] [.ref (av 1), .int k]) (vp_Si (fun r => r = (S_byt.getD 1 []).getD k.toNatClampNeg 0)) 0 0 (fun _ => False) := by
  refine Met.ofW (cc := cJ1_charAt_3b067) (maxL := 2) (ret := (some .char)) (by decide) rfl ?_
  intro p e s m args below meth c s₁ B hml hv
  obtain ⟨rfl, hP, hK, hZ⟩ := hv
  have hx := B.exec
  have hb := B.bytes
  have hr := B.returns
  have ht := tb_tl (atoms_spec (ws := wc yJ1_charAt_3b067 cJ1_charAt_3b067 2 (some .char)) B.pre)
  have hown : s.vm.findClass RJ1 = some m.cls := findClass_of_methodNamed B.named
  have hlocks := B.notSynchronized
  have hl := lv_entry [.ref (av 1), .int k] (n := 2) (Nat.le_of_ble_eq_true rfl)
  rw [lg_entry_eq]
  generalize (lg_sl [.ref (av 1), .int k] ++ List.replicate (2 - (lg_sl [.ref (av 1), .int k]).length) Slot.unset).toArray = ls at hl ⊢
  have hl : lv_has ls 2 [(0, .ref (av 1)), (1, .int k)] := hl
  refine lv_iload_n hx hb dJ1_charAt_3b067_0 rfl (lv_at hl 1 rfl) ?_
  refine lv_aload_n hx hb dJ1_charAt_3b067_1 rfl (lv_at hl 0 rfl) ?_
  refine va_tlen (v := 28) hx hb (hZ.1.2.2.2.2.2.1 1 (by decide)).2.2.2 va_S.rf (by decide) dJ1_charAt_3b067_2 ?_
  refine va_csv (W.runS (As := [.int k, .int 28]) (rest := []) ⟨hx, hb, hml, hown, ht⟩ (c_J0_checkIndex_df160_28 l dC dI ak av k ⟨by omega, by omega⟩) (kS2 2 ht m_726 m_727 m_91 m_728 rfl rfl hd_J0_checkIndex_df160_i ⟨Nat.le_of_ble_eq_true rfl, Nat.le_of_ble_eq_true rfl⟩) (sRZ noP (hK.sub (tys' := []) [] rfl) hZ) rfl rfl hl.1 rfl (lv_room (Nat.le_of_ble_eq_true rfl)) dJ1_charAt_3b067_3 ⟨Nat.le_of_ble_eq_true rfl, Nat.le_of_ble_eq_true rfl⟩) (fun _ => ?_)
  refine lv_aload_n hx hb dJ1_charAt_3b067_6 rfl (lv_at hl 0 rfl) ?_
  refine lv_iload_n hx hb dJ1_charAt_3b067_7 rfl (lv_at hl 1 rfl) ?_
  refine va_tb (v := .int ((S_byt.getD 1 []).getD (k : Int32).toNatClampNeg 0)) hx hb (hZ.1.2.2.2.2.2.1 1 (by decide)).2.2.2 va_S.rf (show vp_in k 28 from (vp_in_iff.mpr ⟨by omega, by omega⟩)) rfl dJ1_charAt_3b067_8 ?_
  refine lv_topi (fun v2 ev2 => ?_)
  refine lv_sipush (v := 255) hx hb dJ1_charAt_3b067_9 (by decide) ?_
  refine lv_iand hx hb dJ1_charAt_3b067_12 ?_
  refine lv_topi (fun v3 ev3 => ?_)
  obtain ⟨v4, ev4⟩ : ∃ y : Int32, ((v3 : Int32).toUInt32 % 65536).toInt32 = y := ⟨_, rfl⟩
  refine lv_i2c (v := v4) hx hb dJ1_charAt_3b067_13 ev4 ?_
  exact W.zret (v := v4) hx hb hr (nar_char ev4) (fun t ht9 hW => ⟨v4, rfl, (by subst_vars; exact char_row 1 (by decide) _ (show k.toNatClampNeg < 28 from by show (k.toInt.toNat : Nat) < 28; omega)), ht9⟩) (fun q hq => by cases hq) dJ1_charAt_3b067_14
set_option maxHeartbeats 4000000 in
set_option maxRecDepth 100000 in
/-- J0_charAt_5068e -/
theorem c_J0_charAt_5068e_1 (l : Launch) (dC : Nat → ClassId) (dI : Nat → Nat → Nat) (ak av : Nat → Nat) (k : Int32) (h_k : 0 ≤ k.toInt ∧ k.toInt ≤ 27) : Met l yJ0_charAt_5068e (wc yJ0_charAt_5068e cJ0_charAt_5068e 2 (some .char)) ({ frames := 3, cells := 0, slots := 0, locals := 64 } : Room) (pRZ ak av (dC, dI) classes [] [] [.ref (ak 1), .int k]) (vp_Si (fun r => r = (S_byt.getD 1 []).getD k.toNatClampNeg 0)) 0 0 (fun _ => False) := by
  refine Met.ofW (cc := cJ0_charAt_5068e) (maxL := 2) (ret := (some .char)) (by decide) rfl ?_
  intro p e s m args below meth c s₁ B hml hv
  obtain ⟨rfl, hP, hK, hZ⟩ := hv
  have hx := B.exec
  have hb := B.bytes
  have hr := B.returns
  have ht := tb_tl (atoms_spec (ws := wc yJ0_charAt_5068e cJ0_charAt_5068e 2 (some .char)) B.pre)
  have hown : s.vm.findClass RJ0 = some m.cls := findClass_of_methodNamed B.named
  have hlocks := B.notSynchronized
  have hl := lv_entry [.ref (ak 1), .int k] (n := 2) (Nat.le_of_ble_eq_true rfl)
  rw [lg_entry_eq]
  generalize (lg_sl [.ref (ak 1), .int k] ++ List.replicate (2 - (lg_sl [.ref (ak 1), .int k]).length) Slot.unset).toArray = ls at hl ⊢
  have hl : lv_has ls 2 [(0, .ref (ak 1)), (1, .int k)] := hl
  refine lv_aload_n hx hb dJ0_charAt_5068e_0 rfl (lv_at hl 0 rfl) ?_
  refine vp_callSi (W.runV (As := []) (rest := []) ⟨hx, hb, hml, hown, ht⟩ (c_J0_isLatin1_aae02_1 l dC dI ak av) (kV 0 ht m_719 m_720 m_721 m_91 m_722 rfl rfl hd_J0_isLatin1_aae02_v ⟨Nat.le_of_ble_eq_true rfl, Nat.le_of_ble_eq_true rfl⟩) (vRZ noP (hK.sub (tys' := []) [] rfl) hZ (vk_recv hZ.1.2.2.2.2.2 (i := 1) (by decide) va_S.rf)) rfl rfl hl.1 rfl (lv_room (Nat.le_of_ble_eq_true rfl)) dJ0_charAt_5068e_1 ⟨Nat.le_of_ble_eq_true rfl, Nat.le_of_ble_eq_true rfl⟩) (fun r1 hr1 => ?_)
  obtain rfl : 1 = r1 := hr1.symm
  refine lv_if_eq (tgt := 16) hx hb dJ0_charAt_5068e_4 (by decide) (fun c2 => ?_) (fun c2 => ?_)
  · exact absurd c2 (by decide)
  · skip
    refine lv_aload_n hx hb dJ0_charAt_5068e_7 rfl (lv_at hl 0 rfl) ?_
    refine vk_getf (v := .ref (av 1)) hx hb (hZ.1.2.2.2.2.2.1 1 (by decide)).2.2.1 va_S.rf hown (ht _ m_1717) (fun _ h9 => h9) dJ0_charAt_5068e_8 ?_
    refine lv_iload_n hx hb dJ0_charAt_5068e_11 rfl (lv_at hl 1 rfl) ?_
    refine vp_callSi (W.runS (As := [.ref (av 1), .int k]) (rest := []) ⟨hx, hb, hml, hown, ht⟩ (c_J1_charAt_3b067_1 l dC dI ak av k ⟨by omega, by omega⟩) (kS2 2 ht m_723 m_724 m_92 m_725 rfl rfl hd_J1_charAt_3b067_i ⟨Nat.le_of_ble_eq_true rfl, Nat.le_of_ble_eq_true rfl⟩) (sRZ noP (hK.sub (tys' := []) [] rfl) hZ) rfl rfl hl.1 rfl (lv_room (Nat.le_of_ble_eq_true rfl)) dJ0_charAt_5068e_12 ⟨Nat.le_of_ble_eq_true rfl, Nat.le_of_ble_eq_true rfl⟩) (fun r3 hr3 => ?_)
    exact W.zret (v := r3) hx hb hr (by rw [hr3]; exact nar_char (char_row 1 (by decide) _ (show k.toNatClampNeg < 28 from by show (k.toInt.toNat : Nat) < 28; omega))) (fun t ht9 hW => ⟨r3, rfl, hr3, ht9⟩) (fun q hq => by cases hq) dJ0_charAt_5068e_15
set_option maxHeartbeats 4000000 in
set_option maxRecDepth 100000 in
/-- J0_coder_7d493 -/
theorem c_J0_coder_7d493_2 (l : Launch) (dC : Nat → ClassId) (dI : Nat → Nat → Nat) (ak av : Nat → Nat) : Met l yJ0_coder_7d493 (wc yJ0_coder_7d493 cJ0_coder_7d493 1 (some .byte)) ({ frames := 0, cells := 0, slots := 0, locals := 0 } : Room) (pRZ ak av (dC, dI) classes [] [] [.ref (ak 2)]) (vp_Si (fun r => r = 0)) 0 0 (fun _ => False) := by
  refine Met.ofW (cc := cJ0_coder_7d493) (maxL := 1) (ret := (some .byte)) (by decide) rfl ?_
  intro p e s m args below meth c s₁ B hml hv
  obtain ⟨rfl, hP, hK, hZ⟩ := hv
  have hx := B.exec
  have hb := B.bytes
  have hr := B.returns
  have ht := tb_tl (atoms_spec (ws := wc yJ0_coder_7d493 cJ0_coder_7d493 1 (some .byte)) B.pre)
  have hown : s.vm.findClass RJ0 = some m.cls := findClass_of_methodNamed B.named
  have hlocks := B.notSynchronized
  have hl := lv_entry [.ref (ak 2)] (n := 1) (Nat.le_of_ble_eq_true rfl)
  rw [lg_entry_eq]
  generalize (lg_sl [.ref (ak 2)] ++ List.replicate (1 - (lg_sl [.ref (ak 2)]).length) Slot.unset).toArray = ls at hl ⊢
  have hl : lv_has ls 1 [(0, .ref (ak 2))] := hl
  refine va_gets hx hb hZ.1.2.2.2.1 va_S.rf hown (ht _ m_713) (fun _ h9 => h9) dJ0_coder_7d493_0 ?_
  refine lv_if_eq (tgt := 13) hx hb dJ0_coder_7d493_3 (by decide) (fun c1 => ?_) (fun c1 => ?_)
  · exact absurd c1 (by decide)
  · skip
    refine lv_aload_n hx hb dJ0_coder_7d493_6 rfl (lv_at hl 0 rfl) ?_
    refine vk_getf (v := .int 0) hx hb (hZ.1.2.2.2.2.2.1 2 (by decide)).2.1 va_S.rf hown (ht _ m_1718) (fun _ h9 => h9) dJ0_coder_7d493_7 ?_
    refine lv_goto (tgt := 14) hx hb dJ0_coder_7d493_10 (by decide) ?_
    exact W.zret (v := 0) hx hb hr rfl (fun t ht9 hW => ⟨0, rfl, rfl, ht9⟩) (fun q hq => by cases hq) dJ0_coder_7d493_14
set_option maxHeartbeats 4000000 in
set_option maxRecDepth 100000 in
/-- J0_length_8abf5 -/
theorem c_J0_length_8abf5_2 (l : Launch) (dC : Nat → ClassId) (dI : Nat → Nat → Nat) (ak av : Nat → Nat) : Met l yJ0_length_8abf5 (wc yJ0_length_8abf5 cJ0_length_8abf5 1 (some .int)) ({ frames := 1, cells := 0, slots := 0, locals := 20 } : Room) (pRZ ak av (dC, dI) classes [] [] [.ref (ak 2)]) (vp_Si (fun r => r = 18)) 0 0 (fun _ => False) := by
  refine Met.ofW (cc := cJ0_length_8abf5) (maxL := 1) (ret := (some .int)) (by decide) rfl ?_
  intro p e s m args below meth c s₁ B hml hv
  obtain ⟨rfl, hP, hK, hZ⟩ := hv
  have hx := B.exec
  have hb := B.bytes
  have hr := B.returns
  have ht := tb_tl (atoms_spec (ws := wc yJ0_length_8abf5 cJ0_length_8abf5 1 (some .int)) B.pre)
  have hown : s.vm.findClass RJ0 = some m.cls := findClass_of_methodNamed B.named
  have hlocks := B.notSynchronized
  have hl := lv_entry [.ref (ak 2)] (n := 1) (Nat.le_of_ble_eq_true rfl)
  rw [lg_entry_eq]
  generalize (lg_sl [.ref (ak 2)] ++ List.replicate (1 - (lg_sl [.ref (ak 2)]).length) Slot.unset).toArray = ls at hl ⊢
  have hl : lv_has ls 1 [(0, .ref (ak 2))] := hl
  refine lv_aload_n hx hb dJ0_length_8abf5_0 rfl (lv_at hl 0 rfl) ?_
  refine vk_getf (v := .ref (av 2)) hx hb (hZ.1.2.2.2.2.2.1 2 (by decide)).2.2.1 va_S.rf hown (ht _ m_1717) (fun _ h9 => h9) dJ0_length_8abf5_1 ?_
  refine va_tlen (v := 18) hx hb (hZ.1.2.2.2.2.2.1 2 (by decide)).2.2.2 va_S.rf (by decide) dJ0_length_8abf5_4 ?_
  refine lv_aload_n hx hb dJ0_length_8abf5_5 rfl (lv_at hl 0 rfl) ?_
  refine vp_callSi (W.runV (As := []) (rest := [.int 18]) ⟨hx, hb, hml, hown, ht⟩ (c_J0_coder_7d493_2 l dC dI ak av) (kV 0 ht m_709 m_710 m_711 m_91 m_712 rfl rfl hd_J0_coder_7d493_v ⟨Nat.le_of_ble_eq_true rfl, Nat.le_of_ble_eq_true rfl⟩) (vRZ noP (hK.sub (tys' := []) [] rfl) hZ (vk_recv hZ.1.2.2.2.2.2 (i := 2) (by decide) va_S.rf)) rfl rfl hl.1 rfl (lv_room (Nat.le_of_ble_eq_true rfl)) dJ0_length_8abf5_6 ⟨Nat.le_of_ble_eq_true rfl, Nat.le_of_ble_eq_true rfl⟩) (fun r1 hr1 => ?_)
  obtain rfl : 0 = r1 := hr1.symm
  refine lv_ishr hx hb dJ0_length_8abf5_9 ?_
  refine lv_topi (fun v2 ev2 => ?_)
  obtain rfl : 18 = v2 := (ev2.trans (by decide)).symm
  exact W.iret (v := 18) hx hb hr (fun t ht9 hW => ⟨18, rfl, rfl, ht9⟩) (fun q hq => by cases hq) dJ0_length_8abf5_10
set_option maxHeartbeats 4000000 in
set_option maxRecDepth 100000 in
/-- J0_isLatin1_aae02 -/
theorem c_J0_isLatin1_aae02_2 (l : Launch) (dC : Nat → ClassId) (dI : Nat → Nat → Nat) (ak av : Nat → Nat) : Met l yJ0_isLatin1_aae02 (wc yJ0_isLatin1_aae02 cJ0_isLatin1_aae02 1 (some .boolean)) ({ frames := 0, cells := 0, slots := 0, locals := 0 } : Room) (pRZ ak av (dC, dI) classes [] [] [.ref (ak 2)]) (vp_Si (fun r => r = 1)) 0 0 (fun _ => False) := by
  refine Met.ofW (cc := cJ0_isLatin1_aae02) (maxL := 1) (ret := (some .boolean)) (by decide) rfl ?_
  intro p e s m args below meth c s₁ B hml hv
  obtain ⟨rfl, hP, hK, hZ⟩ := hv
  have hx := B.exec
  have hb := B.bytes
  have hr := B.returns
  have ht := tb_tl (atoms_spec (ws := wc yJ0_isLatin1_aae02 cJ0_isLatin1_aae02 1 (some .boolean)) B.pre)
  have hown : s.vm.findClass RJ0 = some m.cls := findClass_of_methodNamed B.named
  have hlocks := B.notSynchronized
  have hl := lv_entry [.ref (ak 2)] (n := 1) (Nat.le_of_ble_eq_true rfl)
  rw [lg_entry_eq]
  generalize (lg_sl [.ref (ak 2)] ++ List.replicate (1 - (lg_sl [.ref (ak 2)]).length) Slot.unset).toArray = ls at hl ⊢
  have hl : lv_has ls 1 [(0, .ref (ak 2))] := hl
  refine va_gets hx hb hZ.1.2.2.2.1 va_S.rf hown (ht _ m_713) (fun _ h9 => h9) dJ0_isLatin1_aae02_0 ?_
  refine lv_if_eq (tgt := 17) hx hb dJ0_isLatin1_aae02_3 (by decide) (fun c1 => ?_) (fun c1 => ?_)
  · exact absurd c1 (by decide)
  · skip
    refine lv_aload_n hx hb dJ0_isLatin1_aae02_6 rfl (lv_at hl 0 rfl) ?_
    refine vk_getf (v := .int 0) hx hb (hZ.1.2.2.2.2.2.1 2 (by decide)).2.1 va_S.rf hown (ht _ m_1718) (fun _ h9 => h9) dJ0_isLatin1_aae02_7 ?_
    refine lv_if_ne (tgt := 17) hx hb dJ0_isLatin1_aae02_10 (by decide) (fun c2 => ?_) (fun c2 => ?_)
    · exact absurd rfl c2
    · skip
      refine lv_iconst (v := 1) hx hb dJ0_isLatin1_aae02_13 (by decide) ?_
      refine lv_goto (tgt := 18) hx hb dJ0_isLatin1_aae02_14 (by decide) ?_
      exact W.zret (v := 1) hx hb hr rfl (fun t ht9 hW => ⟨1, rfl, rfl, ht9⟩) (fun q hq => by cases hq) dJ0_isLatin1_aae02_18
set_option maxHeartbeats 4000000 in
set_option maxRecDepth 100000 in
/-- J1_charAt_3b067 -/
theorem c_J1_charAt_3b067_2 (l : Launch) (dC : Nat → ClassId) (dI : Nat → Nat → Nat) (ak av : Nat → Nat) (k : Int32) (h_k : 0 ≤ k.toInt ∧ k.toInt ≤ 17) : Met l yJ1_charAt_3b067 (wc yJ1_charAt_3b067 cJ1_charAt_3b067 2 (some .char)) ({ frames := 2, cells := 0, slots := 0, locals := 43 } : Room) (pRZ ak av (dC, dI) classes [] [] [.ref (av 2), .int k]) (vp_Si (fun r => r = (S_byt.getD 2 []).getD k.toNatClampNeg 0)) 0 0 (fun _ => False) := by
  refine Met.ofW (cc := cJ1_charAt_3b067) (maxL := 2) (ret := (some .char)) (by decide) rfl ?_
  intro p e s m args below meth c s₁ B hml hv
  obtain ⟨rfl, hP, hK, hZ⟩ := hv
  have hx := B.exec
  have hb := B.bytes
  have hr := B.returns
  have ht := tb_tl (atoms_spec (ws := wc yJ1_charAt_3b067 cJ1_charAt_3b067 2 (some .char)) B.pre)
  have hown : s.vm.findClass RJ1 = some m.cls := findClass_of_methodNamed B.named
  have hlocks := B.notSynchronized
  have hl := lv_entry [.ref (av 2), .int k] (n := 2) (Nat.le_of_ble_eq_true rfl)
  rw [lg_entry_eq]
  generalize (lg_sl [.ref (av 2), .int k] ++ List.replicate (2 - (lg_sl [.ref (av 2), .int k]).length) Slot.unset).toArray = ls at hl ⊢
  have hl : lv_has ls 2 [(0, .ref (av 2)), (1, .int k)] := hl
  refine lv_iload_n hx hb dJ1_charAt_3b067_0 rfl (lv_at hl 1 rfl) ?_
  refine lv_aload_n hx hb dJ1_charAt_3b067_1 rfl (lv_at hl 0 rfl) ?_
  refine va_tlen (v := 18) hx hb (hZ.1.2.2.2.2.2.1 2 (by decide)).2.2.2 va_S.rf (by decide) dJ1_charAt_3b067_2 ?_
  refine va_csv (W.runS (As := [.int k, .int 18]) (rest := []) ⟨hx, hb, hml, hown, ht⟩ (c_J0_checkIndex_df160_18 l dC dI ak av k ⟨by omega, by omega⟩) (kS2 2 ht m_726 m_727 m_91 m_728 rfl rfl hd_J0_checkIndex_df160_i ⟨Nat.le_of_ble_eq_true rfl, Nat.le_of_ble_eq_true rfl⟩) (sRZ noP (hK.sub (tys' := []) [] rfl) hZ) rfl rfl hl.1 rfl (lv_room (Nat.le_of_ble_eq_true rfl)) dJ1_charAt_3b067_3 ⟨Nat.le_of_ble_eq_true rfl, Nat.le_of_ble_eq_true rfl⟩) (fun _ => ?_)
  refine lv_aload_n hx hb dJ1_charAt_3b067_6 rfl (lv_at hl 0 rfl) ?_
  refine lv_iload_n hx hb dJ1_charAt_3b067_7 rfl (lv_at hl 1 rfl) ?_
  refine va_tb (v := .int ((S_byt.getD 2 []).getD (k : Int32).toNatClampNeg 0)) hx hb (hZ.1.2.2.2.2.2.1 2 (by decide)).2.2.2 va_S.rf (show vp_in k 18 from (vp_in_iff.mpr ⟨by omega, by omega⟩)) rfl dJ1_charAt_3b067_8 ?_
  refine lv_topi (fun v2 ev2 => ?_)
  refine lv_sipush (v := 255) hx hb dJ1_charAt_3b067_9 (by decide) ?_
  refine lv_iand hx hb dJ1_charAt_3b067_12 ?_
  refine lv_topi (fun v3 ev3 => ?_)
  obtain ⟨v4, ev4⟩ : ∃ y : Int32, ((v3 : Int32).toUInt32 % 65536).toInt32 = y := ⟨_, rfl⟩
  refine lv_i2c (v := v4) hx hb dJ1_charAt_3b067_13 ev4 ?_
  exact W.zret (v := v4) hx hb hr (nar_char ev4) (fun t ht9 hW => ⟨v4, rfl, (by subst_vars; exact char_row 2 (by decide) _ (show k.toNatClampNeg < 18 from by show (k.toInt.toNat : Nat) < 18; omega)), ht9⟩) (fun q hq => by cases hq) dJ1_charAt_3b067_14
set_option maxHeartbeats 4000000 in
set_option maxRecDepth 100000 in
/-- J0_charAt_5068e -/
theorem c_J0_charAt_5068e_2 (l : Launch) (dC : Nat → ClassId) (dI : Nat → Nat → Nat) (ak av : Nat → Nat) (k : Int32) (h_k : 0 ≤ k.toInt ∧ k.toInt ≤ 17) : Met l yJ0_charAt_5068e (wc yJ0_charAt_5068e cJ0_charAt_5068e 2 (some .char)) ({ frames := 3, cells := 0, slots := 0, locals := 64 } : Room) (pRZ ak av (dC, dI) classes [] [] [.ref (ak 2), .int k]) (vp_Si (fun r => r = (S_byt.getD 2 []).getD k.toNatClampNeg 0)) 0 0 (fun _ => False) := by
  refine Met.ofW (cc := cJ0_charAt_5068e) (maxL := 2) (ret := (some .char)) (by decide) rfl ?_
  intro p e s m args below meth c s₁ B hml hv
  obtain ⟨rfl, hP, hK, hZ⟩ := hv
  have hx := B.exec
  have hb := B.bytes
  have hr := B.returns
  have ht := tb_tl (atoms_spec (ws := wc yJ0_charAt_5068e cJ0_charAt_5068e 2 (some .char)) B.pre)
  have hown : s.vm.findClass RJ0 = some m.cls := findClass_of_methodNamed B.named
  have hlocks := B.notSynchronized
  have hl := lv_entry [.ref (ak 2), .int k] (n := 2) (Nat.le_of_ble_eq_true rfl)
  rw [lg_entry_eq]
  generalize (lg_sl [.ref (ak 2), .int k] ++ List.replicate (2 - (lg_sl [.ref (ak 2), .int k]).length) Slot.unset).toArray = ls at hl ⊢
  have hl : lv_has ls 2 [(0, .ref (ak 2)), (1, .int k)] := hl
  refine lv_aload_n hx hb dJ0_charAt_5068e_0 rfl (lv_at hl 0 rfl) ?_
  refine vp_callSi (W.runV (As := []) (rest := []) ⟨hx, hb, hml, hown, ht⟩ (c_J0_isLatin1_aae02_2 l dC dI ak av) (kV 0 ht m_719 m_720 m_721 m_91 m_722 rfl rfl hd_J0_isLatin1_aae02_v ⟨Nat.le_of_ble_eq_true rfl, Nat.le_of_ble_eq_true rfl⟩) (vRZ noP (hK.sub (tys' := []) [] rfl) hZ (vk_recv hZ.1.2.2.2.2.2 (i := 2) (by decide) va_S.rf)) rfl rfl hl.1 rfl (lv_room (Nat.le_of_ble_eq_true rfl)) dJ0_charAt_5068e_1 ⟨Nat.le_of_ble_eq_true rfl, Nat.le_of_ble_eq_true rfl⟩) (fun r1 hr1 => ?_)
  obtain rfl : 1 = r1 := hr1.symm
  refine lv_if_eq (tgt := 16) hx hb dJ0_charAt_5068e_4 (by decide) (fun c2 => ?_) (fun c2 => ?_)
  · exact absurd c2 (by decide)
  · skip
    refine lv_aload_n hx hb dJ0_charAt_5068e_7 rfl (lv_at hl 0 rfl) ?_
    refine vk_getf (v := .ref (av 2)) hx hb (hZ.1.2.2.2.2.2.1 2 (by decide)).2.2.1 va_S.rf hown (ht _ m_1717) (fun _ h9 => h9) dJ0_charAt_5068e_8 ?_
    refine lv_iload_n hx hb dJ0_charAt_5068e_11 rfl (lv_at hl 1 rfl) ?_
    refine vp_callSi (W.runS (As := [.ref (av 2), .int k]) (rest := []) ⟨hx, hb, hml, hown, ht⟩ (c_J1_charAt_3b067_2 l dC dI ak av k ⟨by omega, by omega⟩) (kS2 2 ht m_723 m_724 m_92 m_725 rfl rfl hd_J1_charAt_3b067_i ⟨Nat.le_of_ble_eq_true rfl, Nat.le_of_ble_eq_true rfl⟩) (sRZ noP (hK.sub (tys' := []) [] rfl) hZ) rfl rfl hl.1 rfl (lv_room (Nat.le_of_ble_eq_true rfl)) dJ0_charAt_5068e_12 ⟨Nat.le_of_ble_eq_true rfl, Nat.le_of_ble_eq_true rfl⟩) (fun r3 hr3 => ?_)
    exact W.zret (v := r3) hx hb hr (by rw [hr3]; exact nar_char (char_row 2 (by decide) _ (show k.toNatClampNeg < 18 from by show (k.toInt.toNat : Nat) < 18; omega))) (fun t ht9 hW => ⟨r3, rfl, hr3, ht9⟩) (fun q hq => by cases hq) dJ0_charAt_5068e_15
set_option maxHeartbeats 4000000 in
set_option maxRecDepth 100000 in
/-- J0_coder_7d493 -/
theorem c_J0_coder_7d493_3 (l : Launch) (dC : Nat → ClassId) (dI : Nat → Nat → Nat) (ak av : Nat → Nat) : Met l yJ0_coder_7d493 (wc yJ0_coder_7d493 cJ0_coder_7d493 1 (some .byte)) ({ frames := 0, cells := 0, slots := 0, locals := 0 } : Room) (pRZ ak av (dC, dI) classes [] [] [.ref (ak 3)]) (vp_Si (fun r => r = 0)) 0 0 (fun _ => False) := by
  refine Met.ofW (cc := cJ0_coder_7d493) (maxL := 1) (ret := (some .byte)) (by decide) rfl ?_
  intro p e s m args below meth c s₁ B hml hv
  obtain ⟨rfl, hP, hK, hZ⟩ := hv
  have hx := B.exec
  have hb := B.bytes
  have hr := B.returns
  have ht := tb_tl (atoms_spec (ws := wc yJ0_coder_7d493 cJ0_coder_7d493 1 (some .byte)) B.pre)
  have hown : s.vm.findClass RJ0 = some m.cls := findClass_of_methodNamed B.named
  have hlocks := B.notSynchronized
  have hl := lv_entry [.ref (ak 3)] (n := 1) (Nat.le_of_ble_eq_true rfl)
  rw [lg_entry_eq]
  generalize (lg_sl [.ref (ak 3)] ++ List.replicate (1 - (lg_sl [.ref (ak 3)]).length) Slot.unset).toArray = ls at hl ⊢
  have hl : lv_has ls 1 [(0, .ref (ak 3))] := hl
  refine va_gets hx hb hZ.1.2.2.2.1 va_S.rf hown (ht _ m_713) (fun _ h9 => h9) dJ0_coder_7d493_0 ?_
  refine lv_if_eq (tgt := 13) hx hb dJ0_coder_7d493_3 (by decide) (fun c1 => ?_) (fun c1 => ?_)
  · exact absurd c1 (by decide)
  · skip
    refine lv_aload_n hx hb dJ0_coder_7d493_6 rfl (lv_at hl 0 rfl) ?_
    refine vk_getf (v := .int 0) hx hb (hZ.1.2.2.2.2.2.1 3 (by decide)).2.1 va_S.rf hown (ht _ m_1718) (fun _ h9 => h9) dJ0_coder_7d493_7 ?_
    refine lv_goto (tgt := 14) hx hb dJ0_coder_7d493_10 (by decide) ?_
    exact W.zret (v := 0) hx hb hr rfl (fun t ht9 hW => ⟨0, rfl, rfl, ht9⟩) (fun q hq => by cases hq) dJ0_coder_7d493_14
set_option maxHeartbeats 4000000 in
set_option maxRecDepth 100000 in
/-- J0_length_8abf5 -/
theorem c_J0_length_8abf5_3 (l : Launch) (dC : Nat → ClassId) (dI : Nat → Nat → Nat) (ak av : Nat → Nat) : Met l yJ0_length_8abf5 (wc yJ0_length_8abf5 cJ0_length_8abf5 1 (some .int)) ({ frames := 1, cells := 0, slots := 0, locals := 20 } : Room) (pRZ ak av (dC, dI) classes [] [] [.ref (ak 3)]) (vp_Si (fun r => r = 3)) 0 0 (fun _ => False) := by
  refine Met.ofW (cc := cJ0_length_8abf5) (maxL := 1) (ret := (some .int)) (by decide) rfl ?_
  intro p e s m args below meth c s₁ B hml hv
  obtain ⟨rfl, hP, hK, hZ⟩ := hv
  have hx := B.exec
  have hb := B.bytes
  have hr := B.returns
  have ht := tb_tl (atoms_spec (ws := wc yJ0_length_8abf5 cJ0_length_8abf5 1 (some .int)) B.pre)
  have hown : s.vm.findClass RJ0 = some m.cls := findClass_of_methodNamed B.named
  have hlocks := B.notSynchronized
  have hl := lv_entry [.ref (ak 3)] (n := 1) (Nat.le_of_ble_eq_true rfl)
  rw [lg_entry_eq]
  generalize (lg_sl [.ref (ak 3)] ++ List.replicate (1 - (lg_sl [.ref (ak 3)]).length) Slot.unset).toArray = ls at hl ⊢
  have hl : lv_has ls 1 [(0, .ref (ak 3))] := hl
  refine lv_aload_n hx hb dJ0_length_8abf5_0 rfl (lv_at hl 0 rfl) ?_
  refine vk_getf (v := .ref (av 3)) hx hb (hZ.1.2.2.2.2.2.1 3 (by decide)).2.2.1 va_S.rf hown (ht _ m_1717) (fun _ h9 => h9) dJ0_length_8abf5_1 ?_
  refine va_tlen (v := 3) hx hb (hZ.1.2.2.2.2.2.1 3 (by decide)).2.2.2 va_S.rf (by decide) dJ0_length_8abf5_4 ?_
  refine lv_aload_n hx hb dJ0_length_8abf5_5 rfl (lv_at hl 0 rfl) ?_
  refine vp_callSi (W.runV (As := []) (rest := [.int 3]) ⟨hx, hb, hml, hown, ht⟩ (c_J0_coder_7d493_3 l dC dI ak av) (kV 0 ht m_709 m_710 m_711 m_91 m_712 rfl rfl hd_J0_coder_7d493_v ⟨Nat.le_of_ble_eq_true rfl, Nat.le_of_ble_eq_true rfl⟩) (vRZ noP (hK.sub (tys' := []) [] rfl) hZ (vk_recv hZ.1.2.2.2.2.2 (i := 3) (by decide) va_S.rf)) rfl rfl hl.1 rfl (lv_room (Nat.le_of_ble_eq_true rfl)) dJ0_length_8abf5_6 ⟨Nat.le_of_ble_eq_true rfl, Nat.le_of_ble_eq_true rfl⟩) (fun r1 hr1 => ?_)
  obtain rfl : 0 = r1 := hr1.symm
  refine lv_ishr hx hb dJ0_length_8abf5_9 ?_
  refine lv_topi (fun v2 ev2 => ?_)
  obtain rfl : 3 = v2 := (ev2.trans (by decide)).symm
  exact W.iret (v := 3) hx hb hr (fun t ht9 hW => ⟨3, rfl, rfl, ht9⟩) (fun q hq => by cases hq) dJ0_length_8abf5_10
set_option maxHeartbeats 4000000 in
set_option maxRecDepth 100000 in
/-- J0_isLatin1_aae02 -/
theorem c_J0_isLatin1_aae02_3 (l : Launch) (dC : Nat → ClassId) (dI : Nat → Nat → Nat) (ak av : Nat → Nat) : Met l yJ0_isLatin1_aae02 (wc yJ0_isLatin1_aae02 cJ0_isLatin1_aae02 1 (some .boolean)) ({ frames := 0, cells := 0, slots := 0, locals := 0 } : Room) (pRZ ak av (dC, dI) classes [] [] [.ref (ak 3)]) (vp_Si (fun r => r = 1)) 0 0 (fun _ => False) := by
  refine Met.ofW (cc := cJ0_isLatin1_aae02) (maxL := 1) (ret := (some .boolean)) (by decide) rfl ?_
  intro p e s m args below meth c s₁ B hml hv
  obtain ⟨rfl, hP, hK, hZ⟩ := hv
  have hx := B.exec
  have hb := B.bytes
  have hr := B.returns
  have ht := tb_tl (atoms_spec (ws := wc yJ0_isLatin1_aae02 cJ0_isLatin1_aae02 1 (some .boolean)) B.pre)
  have hown : s.vm.findClass RJ0 = some m.cls := findClass_of_methodNamed B.named
  have hlocks := B.notSynchronized
  have hl := lv_entry [.ref (ak 3)] (n := 1) (Nat.le_of_ble_eq_true rfl)
  rw [lg_entry_eq]
  generalize (lg_sl [.ref (ak 3)] ++ List.replicate (1 - (lg_sl [.ref (ak 3)]).length) Slot.unset).toArray = ls at hl ⊢
  have hl : lv_has ls 1 [(0, .ref (ak 3))] := hl
  refine va_gets hx hb hZ.1.2.2.2.1 va_S.rf hown (ht _ m_713) (fun _ h9 => h9) dJ0_isLatin1_aae02_0 ?_
  refine lv_if_eq (tgt := 17) hx hb dJ0_isLatin1_aae02_3 (by decide) (fun c1 => ?_) (fun c1 => ?_)
  · exact absurd c1 (by decide)
  · skip
    refine lv_aload_n hx hb dJ0_isLatin1_aae02_6 rfl (lv_at hl 0 rfl) ?_
    refine vk_getf (v := .int 0) hx hb (hZ.1.2.2.2.2.2.1 3 (by decide)).2.1 va_S.rf hown (ht _ m_1718) (fun _ h9 => h9) dJ0_isLatin1_aae02_7 ?_
    refine lv_if_ne (tgt := 17) hx hb dJ0_isLatin1_aae02_10 (by decide) (fun c2 => ?_) (fun c2 => ?_)
    · exact absurd rfl c2
    · skip
      refine lv_iconst (v := 1) hx hb dJ0_isLatin1_aae02_13 (by decide) ?_
      refine lv_goto (tgt := 18) hx hb dJ0_isLatin1_aae02_14 (by decide) ?_
      exact W.zret (v := 1) hx hb hr rfl (fun t ht9 hW => ⟨1, rfl, rfl, ht9⟩) (fun q hq => by cases hq) dJ0_isLatin1_aae02_18
set_option maxHeartbeats 4000000 in
set_option maxRecDepth 100000 in
/-- J1_charAt_3b067 -/
theorem c_J1_charAt_3b067_3 (l : Launch) (dC : Nat → ClassId) (dI : Nat → Nat → Nat) (ak av : Nat → Nat) (k : Int32) (h_k : 0 ≤ k.toInt ∧ k.toInt ≤ 2) : Met l yJ1_charAt_3b067 (wc yJ1_charAt_3b067 cJ1_charAt_3b067 2 (some .char)) ({ frames := 2, cells := 0, slots := 0, locals := 43 } : Room) (pRZ ak av (dC, dI) classes [] [] [.ref (av 3), .int k]) (vp_Si (fun r => r = (S_byt.getD 3 []).getD k.toNatClampNeg 0)) 0 0 (fun _ => False) := by
  refine Met.ofW (cc := cJ1_charAt_3b067) (maxL := 2) (ret := (some .char)) (by decide) rfl ?_
  intro p e s m args below meth c s₁ B hml hv
  obtain ⟨rfl, hP, hK, hZ⟩ := hv
  have hx := B.exec
  have hb := B.bytes
  have hr := B.returns
  have ht := tb_tl (atoms_spec (ws := wc yJ1_charAt_3b067 cJ1_charAt_3b067 2 (some .char)) B.pre)
  have hown : s.vm.findClass RJ1 = some m.cls := findClass_of_methodNamed B.named
  have hlocks := B.notSynchronized
  have hl := lv_entry [.ref (av 3), .int k] (n := 2) (Nat.le_of_ble_eq_true rfl)
  rw [lg_entry_eq]
  generalize (lg_sl [.ref (av 3), .int k] ++ List.replicate (2 - (lg_sl [.ref (av 3), .int k]).length) Slot.unset).toArray = ls at hl ⊢
  have hl : lv_has ls 2 [(0, .ref (av 3)), (1, .int k)] := hl
  refine lv_iload_n hx hb dJ1_charAt_3b067_0 rfl (lv_at hl 1 rfl) ?_
  refine lv_aload_n hx hb dJ1_charAt_3b067_1 rfl (lv_at hl 0 rfl) ?_
  refine va_tlen (v := 3) hx hb (hZ.1.2.2.2.2.2.1 3 (by decide)).2.2.2 va_S.rf (by decide) dJ1_charAt_3b067_2 ?_
  refine va_csv (W.runS (As := [.int k, .int 3]) (rest := []) ⟨hx, hb, hml, hown, ht⟩ (c_J0_checkIndex_df160_3 l dC dI ak av k ⟨by omega, by omega⟩) (kS2 2 ht m_726 m_727 m_91 m_728 rfl rfl hd_J0_checkIndex_df160_i ⟨Nat.le_of_ble_eq_true rfl, Nat.le_of_ble_eq_true rfl⟩) (sRZ noP (hK.sub (tys' := []) [] rfl) hZ) rfl rfl hl.1 rfl (lv_room (Nat.le_of_ble_eq_true rfl)) dJ1_charAt_3b067_3 ⟨Nat.le_of_ble_eq_true rfl, Nat.le_of_ble_eq_true rfl⟩) (fun _ => ?_)
  refine lv_aload_n hx hb dJ1_charAt_3b067_6 rfl (lv_at hl 0 rfl) ?_
  refine lv_iload_n hx hb dJ1_charAt_3b067_7 rfl (lv_at hl 1 rfl) ?_
  refine va_tb (v := .int ((S_byt.getD 3 []).getD (k : Int32).toNatClampNeg 0)) hx hb (hZ.1.2.2.2.2.2.1 3 (by decide)).2.2.2 va_S.rf (show vp_in k 3 from (vp_in_iff.mpr ⟨by omega, by omega⟩)) rfl dJ1_charAt_3b067_8 ?_
  refine lv_topi (fun v2 ev2 => ?_)
  refine lv_sipush (v := 255) hx hb dJ1_charAt_3b067_9 (by decide) ?_
  refine lv_iand hx hb dJ1_charAt_3b067_12 ?_
  refine lv_topi (fun v3 ev3 => ?_)
  obtain ⟨v4, ev4⟩ : ∃ y : Int32, ((v3 : Int32).toUInt32 % 65536).toInt32 = y := ⟨_, rfl⟩
  refine lv_i2c (v := v4) hx hb dJ1_charAt_3b067_13 ev4 ?_
  exact W.zret (v := v4) hx hb hr (nar_char ev4) (fun t ht9 hW => ⟨v4, rfl, (by subst_vars; exact char_row 3 (by decide) _ (show k.toNatClampNeg < 3 from by show (k.toInt.toNat : Nat) < 3; omega)), ht9⟩) (fun q hq => by cases hq) dJ1_charAt_3b067_14
set_option maxHeartbeats 4000000 in
set_option maxRecDepth 100000 in
/-- J0_charAt_5068e -/
theorem c_J0_charAt_5068e_3 (l : Launch) (dC : Nat → ClassId) (dI : Nat → Nat → Nat) (ak av : Nat → Nat) (k : Int32) (h_k : 0 ≤ k.toInt ∧ k.toInt ≤ 2) : Met l yJ0_charAt_5068e (wc yJ0_charAt_5068e cJ0_charAt_5068e 2 (some .char)) ({ frames := 3, cells := 0, slots := 0, locals := 64 } : Room) (pRZ ak av (dC, dI) classes [] [] [.ref (ak 3), .int k]) (vp_Si (fun r => r = (S_byt.getD 3 []).getD k.toNatClampNeg 0)) 0 0 (fun _ => False) := by
  refine Met.ofW (cc := cJ0_charAt_5068e) (maxL := 2) (ret := (some .char)) (by decide) rfl ?_
  intro p e s m args below meth c s₁ B hml hv
  obtain ⟨rfl, hP, hK, hZ⟩ := hv
  have hx := B.exec
  have hb := B.bytes
  have hr := B.returns
  have ht := tb_tl (atoms_spec (ws := wc yJ0_charAt_5068e cJ0_charAt_5068e 2 (some .char)) B.pre)
  have hown : s.vm.findClass RJ0 = some m.cls := findClass_of_methodNamed B.named
  have hlocks := B.notSynchronized
  have hl := lv_entry [.ref (ak 3), .int k] (n := 2) (Nat.le_of_ble_eq_true rfl)
  rw [lg_entry_eq]
  generalize (lg_sl [.ref (ak 3), .int k] ++ List.replicate (2 - (lg_sl [.ref (ak 3), .int k]).length) Slot.unset).toArray = ls at hl ⊢
  have hl : lv_has ls 2 [(0, .ref (ak 3)), (1, .int k)] := hl
  refine lv_aload_n hx hb dJ0_charAt_5068e_0 rfl (lv_at hl 0 rfl) ?_
  refine vp_callSi (W.runV (As := []) (rest := []) ⟨hx, hb, hml, hown, ht⟩ (c_J0_isLatin1_aae02_3 l dC dI ak av) (kV 0 ht m_719 m_720 m_721 m_91 m_722 rfl rfl hd_J0_isLatin1_aae02_v ⟨Nat.le_of_ble_eq_true rfl, Nat.le_of_ble_eq_true rfl⟩) (vRZ noP (hK.sub (tys' := []) [] rfl) hZ (vk_recv hZ.1.2.2.2.2.2 (i := 3) (by decide) va_S.rf)) rfl rfl hl.1 rfl (lv_room (Nat.le_of_ble_eq_true rfl)) dJ0_charAt_5068e_1 ⟨Nat.le_of_ble_eq_true rfl, Nat.le_of_ble_eq_true rfl⟩) (fun r1 hr1 => ?_)
  obtain rfl : 1 = r1 := hr1.symm
  refine lv_if_eq (tgt := 16) hx hb dJ0_charAt_5068e_4 (by decide) (fun c2 => ?_) (fun c2 => ?_)
  · exact absurd c2 (by decide)
  · skip
    refine lv_aload_n hx hb dJ0_charAt_5068e_7 rfl (lv_at hl 0 rfl) ?_
    refine vk_getf (v := .ref (av 3)) hx hb (hZ.1.2.2.2.2.2.1 3 (by decide)).2.2.1 va_S.rf hown (ht _ m_1717) (fun _ h9 => h9) dJ0_charAt_5068e_8 ?_
    refine lv_iload_n hx hb dJ0_charAt_5068e_11 rfl (lv_at hl 1 rfl) ?_
    refine vp_callSi (W.runS (As := [.ref (av 3), .int k]) (rest := []) ⟨hx, hb, hml, hown, ht⟩ (c_J1_charAt_3b067_3 l dC dI ak av k ⟨by omega, by omega⟩) (kS2 2 ht m_723 m_724 m_92 m_725 rfl rfl hd_J1_charAt_3b067_i ⟨Nat.le_of_ble_eq_true rfl, Nat.le_of_ble_eq_true rfl⟩) (sRZ noP (hK.sub (tys' := []) [] rfl) hZ) rfl rfl hl.1 rfl (lv_room (Nat.le_of_ble_eq_true rfl)) dJ0_charAt_5068e_12 ⟨Nat.le_of_ble_eq_true rfl, Nat.le_of_ble_eq_true rfl⟩) (fun r3 hr3 => ?_)
    exact W.zret (v := r3) hx hb hr (by rw [hr3]; exact nar_char (char_row 3 (by decide) _ (show k.toNatClampNeg < 3 from by show (k.toInt.toNat : Nat) < 3; omega))) (fun t ht9 hW => ⟨r3, rfl, hr3, ht9⟩) (fun q hq => by cases hq) dJ0_charAt_5068e_15
/-! ===== reader1 ===== -/
set_option maxRecDepth 100000 in
theorem m_16 : Cond.selects RX8 yX8_skipBlanks yX8_skipBlanks ∈ tb := tb_in 16 (by decide +kernel) rfl
set_option maxRecDepth 100000 in
theorem m_19 : Cond.selects RX8 yX8_endOfRun yX8_endOfRun ∈ tb := tb_in 19 (by decide +kernel) rfl
set_option maxRecDepth 100000 in
theorem m_20 : Cond.selects RX8 yX8_isSame yX8_isSame ∈ tb := tb_in 20 (by decide +kernel) rfl
set_option maxRecDepth 100000 in
theorem m_21 : Cond.selects RX8 yX8_fail yX8_fail ∈ tb := tb_in 21 (by decide +kernel) rfl
theorem m_82 : Cond.initialized RX8 ∈ tb := mb_1_0 _ (List.mem_of_getElem? (i := 5) rfl)
theorem m_688 : Cond.methodLink RX8 37 yX8_skipBlanks ∈ tb := mb_3_4 _ (List.mem_of_getElem? (i := 23) rfl)
theorem m_690 : Cond.instanceMethod yX8_skipBlanks ∈ tb := mb_3_5 _ (List.mem_of_getElem? (i := 0) rfl)
theorem m_691 : Cond.code yX8_skipBlanks cX8_skipBlanks 1 (some .boolean) ∈ tb := mb_3_5 _ (List.mem_of_getElem? (i := 1) rfl)
theorem m_701 : Cond.methodLink RX8 99 yX8_endOfRun ∈ tb := mb_3_5 _ (List.mem_of_getElem? (i := 8) rfl)
theorem m_703 : Cond.instanceMethod yX8_endOfRun ∈ tb := mb_3_5 _ (List.mem_of_getElem? (i := 9) rfl)
theorem m_704 : Cond.code yX8_endOfRun cX8_endOfRun 4 (some .int) ∈ tb := mb_3_5 _ (List.mem_of_getElem? (i := 10) rfl)
theorem m_705 : Cond.methodLink RX8 107 yJ0_length_8abf5 ∈ tb := mbJ_3_0 _ (List.mem_of_getElem? (i := 0) rfl)
theorem m_706 : Cond.instanceMethod yJ0_length_8abf5 ∈ tb := mbJ_3_0 _ (List.mem_of_getElem? (i := 1) rfl)
theorem m_707 : Cond.selects "java/lang/String" yJ0_length_8abf5 yJ0_length_8abf5 ∈ tb := mbJ_3_0 _ (List.mem_of_getElem? (i := 2) rfl)
theorem m_708 : Cond.code yJ0_length_8abf5 cJ0_length_8abf5 1 (some .int) ∈ tb := mbJ_3_0 _ (List.mem_of_getElem? (i := 3) rfl)
theorem m_715 : Cond.methodLink RX8 112 yJ0_charAt_5068e ∈ tb := mbJ_3_0 _ (List.mem_of_getElem? (i := 8) rfl)
theorem m_716 : Cond.instanceMethod yJ0_charAt_5068e ∈ tb := mbJ_3_0 _ (List.mem_of_getElem? (i := 9) rfl)
theorem m_717 : Cond.selects "java/lang/String" yJ0_charAt_5068e yJ0_charAt_5068e ∈ tb := mbJ_3_0 _ (List.mem_of_getElem? (i := 10) rfl)
theorem m_718 : Cond.code yJ0_charAt_5068e cJ0_charAt_5068e 2 (some .char) ∈ tb := mbJ_3_0 _ (List.mem_of_getElem? (i := 11) rfl)
theorem m_753 : Cond.methodLink RX8 116 yX8_isSame ∈ tb := mb_3_5 _ (List.mem_of_getElem? (i := 13) rfl)
theorem m_755 : Cond.instanceMethod yX8_isSame ∈ tb := mb_3_5 _ (List.mem_of_getElem? (i := 14) rfl)
theorem m_756 : Cond.code yX8_isSame cX8_isSame 6 (some .boolean) ∈ tb := mb_3_5 _ (List.mem_of_getElem? (i := 15) rfl)
theorem m_757 : Cond.methodLink RX8 53 yX8_fail ∈ tb := mb_3_5 _ (List.mem_of_getElem? (i := 16) rfl)
theorem m_759 : Cond.instanceMethod yX8_fail ∈ tb := mb_3_5 _ (List.mem_of_getElem? (i := 17) rfl)
theorem m_760 : Cond.code yX8_fail cX8_fail 3 (some .boolean) ∈ tb := mb_3_5 _ (List.mem_of_getElem? (i := 18) rfl)
theorem hd_J0_charAt_5068e_v : yJ0_charAt_5068e.cls = RJ0 ∧ yJ0_charAt_5068e.cls ≠ "java/lang/invoke/MethodHandle" ∧ yJ0_charAt_5068e.cls ≠ "java/lang/invoke/VarHandle" ∧ (parseMethodDescriptor yJ0_charAt_5068e.desc).map (fun d => d.parameters.length) = some 1 := by decide +kernel
theorem hd_J0_length_8abf5_v : yJ0_length_8abf5.cls = RJ0 ∧ yJ0_length_8abf5.cls ≠ "java/lang/invoke/MethodHandle" ∧ yJ0_length_8abf5.cls ≠ "java/lang/invoke/VarHandle" ∧ (parseMethodDescriptor yJ0_length_8abf5.desc).map (fun d => d.parameters.length) = some 0 := by decide +kernel
theorem hd_X8_endOfRun_v : yX8_endOfRun.cls = RX8 ∧ yX8_endOfRun.cls ≠ "java/lang/invoke/MethodHandle" ∧ yX8_endOfRun.cls ≠ "java/lang/invoke/VarHandle" ∧ (parseMethodDescriptor yX8_endOfRun.desc).map (fun d => d.parameters.length) = some 2 := by decide +kernel
theorem hd_X8_fail_v : yX8_fail.cls = RX8 ∧ yX8_fail.cls ≠ "java/lang/invoke/MethodHandle" ∧ yX8_fail.cls ≠ "java/lang/invoke/VarHandle" ∧ (parseMethodDescriptor yX8_fail.desc).map (fun d => d.parameters.length) = some 2 := by decide +kernel
theorem hd_X8_isSame_v : yX8_isSame.cls = RX8 ∧ yX8_isSame.cls ≠ "java/lang/invoke/MethodHandle" ∧ yX8_isSame.cls ≠ "java/lang/invoke/VarHandle" ∧ (parseMethodDescriptor yX8_isSame.desc).map (fun d => d.parameters.length) = some 4 := by decide +kernel
theorem hd_X8_skipBlanks_v : yX8_skipBlanks.cls = RX8 ∧ yX8_skipBlanks.cls ≠ "java/lang/invoke/MethodHandle" ∧ yX8_skipBlanks.cls ≠ "java/lang/invoke/VarHandle" ∧ (parseMethodDescriptor yX8_skipBlanks.desc).map (fun d => d.parameters.length) = some 0 := by decide +kernel
set_option maxRecDepth 100000 in
theorem dvX8_isSame_0 : ([(0, .iload_n 3, 1), (1, .iload_n 2, 1), (2, .isub, 1), (3, .iload 4, 2), (5, .aload_n 0, 1), (6, .getfield 25, 3), (9, .isub, 1), (10, .if_icmp .eq 5, 3), (13, .iconst 0, 1), (14, .ireturn, 1), (15, .iconst 0, 1), (16, .istore 5, 2), (18, .iload 5, 2), (20, .iload_n 3, 1), (21, .iload_n 2, 1), (22, .isub, 1), (23, .if_icmp .ge 34, 3), (26, .aload_n 1, 1), (27, .iload_n 2, 1), (28, .iload 5, 2), (30, .iadd, 1), (31, .invokevirtual 112, 3), (34, .aload_n 0, 1), (35, .getfield 11, 3)] : List (Nat × Instr × Nat)).all (fun q => decide (decode cX8_isSame q.1 = .ok (q.2.1, q.2.2))) = true := by decide +kernel
theorem dX8_isSame_0 : decode cX8_isSame 0 = .ok (.iload_n 3, 1) := all_at dvX8_isSame_0 0 rfl
theorem dX8_isSame_1 : decode cX8_isSame 1 = .ok (.iload_n 2, 1) := all_at dvX8_isSame_0 1 rfl
theorem dX8_isSame_2 : decode cX8_isSame 2 = .ok (.isub, 1) := all_at dvX8_isSame_0 2 rfl
theorem dX8_isSame_3 : decode cX8_isSame 3 = .ok (.iload 4, 2) := all_at dvX8_isSame_0 3 rfl
theorem dX8_isSame_5 : decode cX8_isSame 5 = .ok (.aload_n 0, 1) := all_at dvX8_isSame_0 4 rfl
theorem dX8_isSame_6 : decode cX8_isSame 6 = .ok (.getfield 25, 3) := all_at dvX8_isSame_0 5 rfl
theorem dX8_isSame_9 : decode cX8_isSame 9 = .ok (.isub, 1) := all_at dvX8_isSame_0 6 rfl
theorem dX8_isSame_10 : decode cX8_isSame 10 = .ok (.if_icmp .eq 5, 3) := all_at dvX8_isSame_0 7 rfl
theorem dX8_isSame_13 : decode cX8_isSame 13 = .ok (.iconst 0, 1) := all_at dvX8_isSame_0 8 rfl
theorem dX8_isSame_14 : decode cX8_isSame 14 = .ok (.ireturn, 1) := all_at dvX8_isSame_0 9 rfl
theorem dX8_isSame_15 : decode cX8_isSame 15 = .ok (.iconst 0, 1) := all_at dvX8_isSame_0 10 rfl
theorem dX8_isSame_16 : decode cX8_isSame 16 = .ok (.istore 5, 2) := all_at dvX8_isSame_0 11 rfl
theorem dX8_isSame_18 : decode cX8_isSame 18 = .ok (.iload 5, 2) := all_at dvX8_isSame_0 12 rfl
theorem dX8_isSame_20 : decode cX8_isSame 20 = .ok (.iload_n 3, 1) := all_at dvX8_isSame_0 13 rfl
theorem dX8_isSame_21 : decode cX8_isSame 21 = .ok (.iload_n 2, 1) := all_at dvX8_isSame_0 14 rfl
theorem dX8_isSame_22 : decode cX8_isSame 22 = .ok (.isub, 1) := all_at dvX8_isSame_0 15 rfl
theorem dX8_isSame_23 : decode cX8_isSame 23 = .ok (.if_icmp .ge 34, 3) := all_at dvX8_isSame_0 16 rfl
theorem dX8_isSame_26 : decode cX8_isSame 26 = .ok (.aload_n 1, 1) := all_at dvX8_isSame_0 17 rfl
theorem dX8_isSame_27 : decode cX8_isSame 27 = .ok (.iload_n 2, 1) := all_at dvX8_isSame_0 18 rfl
theorem dX8_isSame_28 : decode cX8_isSame 28 = .ok (.iload 5, 2) := all_at dvX8_isSame_0 19 rfl
theorem dX8_isSame_30 : decode cX8_isSame 30 = .ok (.iadd, 1) := all_at dvX8_isSame_0 20 rfl
theorem dX8_isSame_31 : decode cX8_isSame 31 = .ok (.invokevirtual 112, 3) := all_at dvX8_isSame_0 21 rfl
theorem dX8_isSame_34 : decode cX8_isSame 34 = .ok (.aload_n 0, 1) := all_at dvX8_isSame_0 22 rfl
theorem dX8_isSame_35 : decode cX8_isSame 35 = .ok (.getfield 11, 3) := all_at dvX8_isSame_0 23 rfl
set_option maxRecDepth 100000 in
theorem dvX8_isSame_38 : ([(38, .aload_n 0, 1), (39, .getfield 25, 3), (42, .iload 5, 2), (44, .iadd, 1), (45, .baload, 1), (46, .if_icmp .eq 5, 3), (49, .iconst 0, 1), (50, .ireturn, 1), (51, .iinc 5 1, 3), (54, .goto (-36), 3), (57, .iconst 1, 1), (58, .ireturn, 1)] : List (Nat × Instr × Nat)).all (fun q => decide (decode cX8_isSame q.1 = .ok (q.2.1, q.2.2))) = true := by decide +kernel
theorem dX8_isSame_38 : decode cX8_isSame 38 = .ok (.aload_n 0, 1) := all_at dvX8_isSame_38 0 rfl
theorem dX8_isSame_39 : decode cX8_isSame 39 = .ok (.getfield 25, 3) := all_at dvX8_isSame_38 1 rfl
theorem dX8_isSame_42 : decode cX8_isSame 42 = .ok (.iload 5, 2) := all_at dvX8_isSame_38 2 rfl
theorem dX8_isSame_44 : decode cX8_isSame 44 = .ok (.iadd, 1) := all_at dvX8_isSame_38 3 rfl
theorem dX8_isSame_45 : decode cX8_isSame 45 = .ok (.baload, 1) := all_at dvX8_isSame_38 4 rfl
theorem dX8_isSame_46 : decode cX8_isSame 46 = .ok (.if_icmp .eq 5, 3) := all_at dvX8_isSame_38 5 rfl
theorem dX8_isSame_49 : decode cX8_isSame 49 = .ok (.iconst 0, 1) := all_at dvX8_isSame_38 6 rfl
theorem dX8_isSame_50 : decode cX8_isSame 50 = .ok (.ireturn, 1) := all_at dvX8_isSame_38 7 rfl
theorem dX8_isSame_51 : decode cX8_isSame 51 = .ok (.iinc 5 1, 3) := all_at dvX8_isSame_38 8 rfl
theorem dX8_isSame_54 : decode cX8_isSame 54 = .ok (.goto (-36), 3) := all_at dvX8_isSame_38 9 rfl
theorem dX8_isSame_57 : decode cX8_isSame 57 = .ok (.iconst 1, 1) := all_at dvX8_isSame_38 10 rfl
theorem dX8_isSame_58 : decode cX8_isSame 58 = .ok (.ireturn, 1) := all_at dvX8_isSame_38 11 rfl
set_option maxRecDepth 100000 in
theorem dvX8_readOneOf_0 : ([(0, .aload_n 0, 1), (1, .invokevirtual 37, 3), (4, .pop, 1), (5, .aload_n 0, 1), (6, .bipush 97, 2), (8, .bipush 122, 2), (10, .invokevirtual 99, 3), (13, .istore_n 2, 1), (14, .iconst 0, 1), (15, .istore_n 3, 1), (16, .iconst 0, 1), (17, .istore 4, 2), (19, .iconst 0, 1), (20, .istore 5, 2), (22, .iload 5, 2), (24, .aload_n 1, 1), (25, .invokevirtual 107, 3), (28, .if_icmp .ge 49, 3), (31, .aload_n 1, 1), (32, .iload 5, 2), (34, .invokevirtual 112, 3), (37, .bipush 32, 2), (39, .if_icmp .ne 32, 3), (42, .aload_n 0, 1)] : List (Nat × Instr × Nat)).all (fun q => decide (decode cX8_readOneOf q.1 = .ok (q.2.1, q.2.2))) = true := by decide +kernel
theorem dX8_readOneOf_0 : decode cX8_readOneOf 0 = .ok (.aload_n 0, 1) := all_at dvX8_readOneOf_0 0 rfl
theorem dX8_readOneOf_1 : decode cX8_readOneOf 1 = .ok (.invokevirtual 37, 3) := all_at dvX8_readOneOf_0 1 rfl
theorem dX8_readOneOf_4 : decode cX8_readOneOf 4 = .ok (.pop, 1) := all_at dvX8_readOneOf_0 2 rfl
theorem dX8_readOneOf_5 : decode cX8_readOneOf 5 = .ok (.aload_n 0, 1) := all_at dvX8_readOneOf_0 3 rfl
theorem dX8_readOneOf_6 : decode cX8_readOneOf 6 = .ok (.bipush 97, 2) := all_at dvX8_readOneOf_0 4 rfl
theorem dX8_readOneOf_8 : decode cX8_readOneOf 8 = .ok (.bipush 122, 2) := all_at dvX8_readOneOf_0 5 rfl
theorem dX8_readOneOf_10 : decode cX8_readOneOf 10 = .ok (.invokevirtual 99, 3) := all_at dvX8_readOneOf_0 6 rfl
theorem dX8_readOneOf_13 : decode cX8_readOneOf 13 = .ok (.istore_n 2, 1) := all_at dvX8_readOneOf_0 7 rfl
theorem dX8_readOneOf_14 : decode cX8_readOneOf 14 = .ok (.iconst 0, 1) := all_at dvX8_readOneOf_0 8 rfl
theorem dX8_readOneOf_15 : decode cX8_readOneOf 15 = .ok (.istore_n 3, 1) := all_at dvX8_readOneOf_0 9 rfl
theorem dX8_readOneOf_16 : decode cX8_readOneOf 16 = .ok (.iconst 0, 1) := all_at dvX8_readOneOf_0 10 rfl
theorem dX8_readOneOf_17 : decode cX8_readOneOf 17 = .ok (.istore 4, 2) := all_at dvX8_readOneOf_0 11 rfl
theorem dX8_readOneOf_19 : decode cX8_readOneOf 19 = .ok (.iconst 0, 1) := all_at dvX8_readOneOf_0 12 rfl
theorem dX8_readOneOf_20 : decode cX8_readOneOf 20 = .ok (.istore 5, 2) := all_at dvX8_readOneOf_0 13 rfl
theorem dX8_readOneOf_22 : decode cX8_readOneOf 22 = .ok (.iload 5, 2) := all_at dvX8_readOneOf_0 14 rfl
theorem dX8_readOneOf_24 : decode cX8_readOneOf 24 = .ok (.aload_n 1, 1) := all_at dvX8_readOneOf_0 15 rfl
theorem dX8_readOneOf_25 : decode cX8_readOneOf 25 = .ok (.invokevirtual 107, 3) := all_at dvX8_readOneOf_0 16 rfl
theorem dX8_readOneOf_28 : decode cX8_readOneOf 28 = .ok (.if_icmp .ge 49, 3) := all_at dvX8_readOneOf_0 17 rfl
theorem dX8_readOneOf_31 : decode cX8_readOneOf 31 = .ok (.aload_n 1, 1) := all_at dvX8_readOneOf_0 18 rfl
theorem dX8_readOneOf_32 : decode cX8_readOneOf 32 = .ok (.iload 5, 2) := all_at dvX8_readOneOf_0 19 rfl
theorem dX8_readOneOf_34 : decode cX8_readOneOf 34 = .ok (.invokevirtual 112, 3) := all_at dvX8_readOneOf_0 20 rfl
theorem dX8_readOneOf_37 : decode cX8_readOneOf 37 = .ok (.bipush 32, 2) := all_at dvX8_readOneOf_0 21 rfl
theorem dX8_readOneOf_39 : decode cX8_readOneOf 39 = .ok (.if_icmp .ne 32, 3) := all_at dvX8_readOneOf_0 22 rfl
theorem dX8_readOneOf_42 : decode cX8_readOneOf 42 = .ok (.aload_n 0, 1) := all_at dvX8_readOneOf_0 23 rfl
set_option maxRecDepth 100000 in
theorem dvX8_readOneOf_43 : ([(43, .aload_n 1, 1), (44, .iload 4, 2), (46, .iload 5, 2), (48, .iload_n 2, 1), (49, .invokevirtual 116, 3), (52, .ifCond .eq 10, 3), (55, .aload_n 0, 1), (56, .iload_n 2, 1), (57, .putfield 25, 3), (60, .iload_n 3, 1), (61, .ireturn, 1), (62, .iinc 3 1, 3), (65, .iload 5, 2), (67, .iconst 1, 1), (68, .iadd, 1), (69, .istore 4, 2), (71, .iinc 5 1, 3), (74, .goto (-52), 3), (77, .aload_n 0, 1), (78, .iconst 1, 1), (79, .aload_n 0, 1), (80, .getfield 25, 3), (83, .invokevirtual 53, 3), (86, .pop, 1)] : List (Nat × Instr × Nat)).all (fun q => decide (decode cX8_readOneOf q.1 = .ok (q.2.1, q.2.2))) = true := by decide +kernel
theorem dX8_readOneOf_43 : decode cX8_readOneOf 43 = .ok (.aload_n 1, 1) := all_at dvX8_readOneOf_43 0 rfl
theorem dX8_readOneOf_44 : decode cX8_readOneOf 44 = .ok (.iload 4, 2) := all_at dvX8_readOneOf_43 1 rfl
theorem dX8_readOneOf_46 : decode cX8_readOneOf 46 = .ok (.iload 5, 2) := all_at dvX8_readOneOf_43 2 rfl
theorem dX8_readOneOf_48 : decode cX8_readOneOf 48 = .ok (.iload_n 2, 1) := all_at dvX8_readOneOf_43 3 rfl
theorem dX8_readOneOf_49 : decode cX8_readOneOf 49 = .ok (.invokevirtual 116, 3) := all_at dvX8_readOneOf_43 4 rfl
theorem dX8_readOneOf_52 : decode cX8_readOneOf 52 = .ok (.ifCond .eq 10, 3) := all_at dvX8_readOneOf_43 5 rfl
theorem dX8_readOneOf_55 : decode cX8_readOneOf 55 = .ok (.aload_n 0, 1) := all_at dvX8_readOneOf_43 6 rfl
theorem dX8_readOneOf_56 : decode cX8_readOneOf 56 = .ok (.iload_n 2, 1) := all_at dvX8_readOneOf_43 7 rfl
theorem dX8_readOneOf_57 : decode cX8_readOneOf 57 = .ok (.putfield 25, 3) := all_at dvX8_readOneOf_43 8 rfl
theorem dX8_readOneOf_60 : decode cX8_readOneOf 60 = .ok (.iload_n 3, 1) := all_at dvX8_readOneOf_43 9 rfl
theorem dX8_readOneOf_61 : decode cX8_readOneOf 61 = .ok (.ireturn, 1) := all_at dvX8_readOneOf_43 10 rfl
theorem dX8_readOneOf_62 : decode cX8_readOneOf 62 = .ok (.iinc 3 1, 3) := all_at dvX8_readOneOf_43 11 rfl
theorem dX8_readOneOf_65 : decode cX8_readOneOf 65 = .ok (.iload 5, 2) := all_at dvX8_readOneOf_43 12 rfl
theorem dX8_readOneOf_67 : decode cX8_readOneOf 67 = .ok (.iconst 1, 1) := all_at dvX8_readOneOf_43 13 rfl
theorem dX8_readOneOf_68 : decode cX8_readOneOf 68 = .ok (.iadd, 1) := all_at dvX8_readOneOf_43 14 rfl
theorem dX8_readOneOf_69 : decode cX8_readOneOf 69 = .ok (.istore 4, 2) := all_at dvX8_readOneOf_43 15 rfl
theorem dX8_readOneOf_71 : decode cX8_readOneOf 71 = .ok (.iinc 5 1, 3) := all_at dvX8_readOneOf_43 16 rfl
theorem dX8_readOneOf_74 : decode cX8_readOneOf 74 = .ok (.goto (-52), 3) := all_at dvX8_readOneOf_43 17 rfl
theorem dX8_readOneOf_77 : decode cX8_readOneOf 77 = .ok (.aload_n 0, 1) := all_at dvX8_readOneOf_43 18 rfl
theorem dX8_readOneOf_78 : decode cX8_readOneOf 78 = .ok (.iconst 1, 1) := all_at dvX8_readOneOf_43 19 rfl
theorem dX8_readOneOf_79 : decode cX8_readOneOf 79 = .ok (.aload_n 0, 1) := all_at dvX8_readOneOf_43 20 rfl
theorem dX8_readOneOf_80 : decode cX8_readOneOf 80 = .ok (.getfield 25, 3) := all_at dvX8_readOneOf_43 21 rfl
theorem dX8_readOneOf_83 : decode cX8_readOneOf 83 = .ok (.invokevirtual 53, 3) := all_at dvX8_readOneOf_43 22 rfl
theorem dX8_readOneOf_86 : decode cX8_readOneOf 86 = .ok (.pop, 1) := all_at dvX8_readOneOf_43 23 rfl
theorem dX8_readOneOf_87 : decode cX8_readOneOf 87 = .ok (.iconst (-1), 1) := by decide +kernel
theorem dX8_readOneOf_88 : decode cX8_readOneOf 88 = .ok (.ireturn, 1) := by decide +kernel
set_option maxRecDepth 100000 in
theorem dvX8_take_0 : ([(0, .iload_n 1, 1), (1, .iconst 1, 1), (2, .isub, 1), (3, .istore 4, 2), (5, .iload 4, 2), (7, .ifCond .lt 37, 3), (10, .aload_n 0, 1), (11, .getfield 11, 3), (14, .aload_n 0, 1), (15, .getfield 15, 3), (18, .lload_n 2, 1), (19, .bipush 8, 2), (21, .iload 4, 2), (23, .imul, 1), (24, .lushr, 1), (25, .l2i, 1), (26, .i2b, 1), (27, .bastore, 1), (28, .aload_n 0, 1), (29, .dup, 1), (30, .getfield 15, 3), (33, .iconst 1, 1), (34, .iadd, 1), (35, .putfield 15, 3)] : List (Nat × Instr × Nat)).all (fun q => decide (decode cX8_take q.1 = .ok (q.2.1, q.2.2))) = true := by decide +kernel
theorem dX8_take_0 : decode cX8_take 0 = .ok (.iload_n 1, 1) := all_at dvX8_take_0 0 rfl
theorem dX8_take_1 : decode cX8_take 1 = .ok (.iconst 1, 1) := all_at dvX8_take_0 1 rfl
theorem dX8_take_2 : decode cX8_take 2 = .ok (.isub, 1) := all_at dvX8_take_0 2 rfl
theorem dX8_take_3 : decode cX8_take 3 = .ok (.istore 4, 2) := all_at dvX8_take_0 3 rfl
theorem dX8_take_5 : decode cX8_take 5 = .ok (.iload 4, 2) := all_at dvX8_take_0 4 rfl
theorem dX8_take_7 : decode cX8_take 7 = .ok (.ifCond .lt 37, 3) := all_at dvX8_take_0 5 rfl
theorem dX8_take_10 : decode cX8_take 10 = .ok (.aload_n 0, 1) := all_at dvX8_take_0 6 rfl
theorem dX8_take_11 : decode cX8_take 11 = .ok (.getfield 11, 3) := all_at dvX8_take_0 7 rfl
theorem dX8_take_14 : decode cX8_take 14 = .ok (.aload_n 0, 1) := all_at dvX8_take_0 8 rfl
theorem dX8_take_15 : decode cX8_take 15 = .ok (.getfield 15, 3) := all_at dvX8_take_0 9 rfl
theorem dX8_take_18 : decode cX8_take 18 = .ok (.lload_n 2, 1) := all_at dvX8_take_0 10 rfl
theorem dX8_take_19 : decode cX8_take 19 = .ok (.bipush 8, 2) := all_at dvX8_take_0 11 rfl
theorem dX8_take_21 : decode cX8_take 21 = .ok (.iload 4, 2) := all_at dvX8_take_0 12 rfl
theorem dX8_take_23 : decode cX8_take 23 = .ok (.imul, 1) := all_at dvX8_take_0 13 rfl
theorem dX8_take_24 : decode cX8_take 24 = .ok (.lushr, 1) := all_at dvX8_take_0 14 rfl
theorem dX8_take_25 : decode cX8_take 25 = .ok (.l2i, 1) := all_at dvX8_take_0 15 rfl
theorem dX8_take_26 : decode cX8_take 26 = .ok (.i2b, 1) := all_at dvX8_take_0 16 rfl
theorem dX8_take_27 : decode cX8_take 27 = .ok (.bastore, 1) := all_at dvX8_take_0 17 rfl
theorem dX8_take_28 : decode cX8_take 28 = .ok (.aload_n 0, 1) := all_at dvX8_take_0 18 rfl
theorem dX8_take_29 : decode cX8_take 29 = .ok (.dup, 1) := all_at dvX8_take_0 19 rfl
theorem dX8_take_30 : decode cX8_take 30 = .ok (.getfield 15, 3) := all_at dvX8_take_0 20 rfl
theorem dX8_take_33 : decode cX8_take 33 = .ok (.iconst 1, 1) := all_at dvX8_take_0 21 rfl
theorem dX8_take_34 : decode cX8_take 34 = .ok (.iadd, 1) := all_at dvX8_take_0 22 rfl
theorem dX8_take_35 : decode cX8_take 35 = .ok (.putfield 15, 3) := all_at dvX8_take_0 23 rfl
set_option maxRecDepth 100000 in
theorem dvX8_take_38 : ([(38, .iinc 4 (-1), 3), (41, .goto (-36), 3), (44, .aload_n 0, 1), (45, .getfield 15, 3), (48, .ireturn, 1)] : List (Nat × Instr × Nat)).all (fun q => decide (decode cX8_take q.1 = .ok (q.2.1, q.2.2))) = true := by decide +kernel
theorem dX8_take_38 : decode cX8_take 38 = .ok (.iinc 4 (-1), 3) := all_at dvX8_take_38 0 rfl
theorem dX8_take_41 : decode cX8_take 41 = .ok (.goto (-36), 3) := all_at dvX8_take_38 1 rfl
theorem dX8_take_44 : decode cX8_take 44 = .ok (.aload_n 0, 1) := all_at dvX8_take_38 2 rfl
theorem dX8_take_45 : decode cX8_take 45 = .ok (.getfield 15, 3) := all_at dvX8_take_38 3 rfl
theorem dX8_take_48 : decode cX8_take 48 = .ok (.ireturn, 1) := all_at dvX8_take_38 4 rfl
/-! ===== reader2 ===== -/
set_option maxRecDepth 100000 in
theorem m_17 : Cond.selects RX8 yX8_readClause yX8_readClause ∈ tb := tb_in 17 (by decide +kernel) rfl
set_option maxRecDepth 100000 in
theorem m_18 : Cond.selects RX8 yX8_readOneOf yX8_readOneOf ∈ tb := tb_in 18 (by decide +kernel) rfl
set_option maxRecDepth 100000 in
theorem m_22 : Cond.selects RX8 yX8_readLet yX8_readLet ∈ tb := tb_in 22 (by decide +kernel) rfl
set_option maxRecDepth 100000 in
theorem m_23 : Cond.selects RX8 yX8_readNumber yX8_readNumber ∈ tb := tb_in 23 (by decide +kernel) rfl
set_option maxRecDepth 100000 in
theorem m_24 : Cond.selects RX8 yX8_readStop yX8_readStop ∈ tb := tb_in 24 (by decide +kernel) rfl
set_option maxRecDepth 100000 in
theorem m_25 : Cond.selects RX8 yX8_readTake yX8_readTake ∈ tb := tb_in 25 (by decide +kernel) rfl
set_option maxRecDepth 100000 in
theorem m_26 : Cond.selects RX8 yX8_readName yX8_readName ∈ tb := tb_in 26 (by decide +kernel) rfl
set_option maxRecDepth 100000 in
theorem m_27 : Cond.selects RX8 yX8_readWord yX8_readWord ∈ tb := tb_in 27 (by decide +kernel) rfl
set_option maxRecDepth 100000 in
theorem m_28 : Cond.selects RX8 yX8_readStrike yX8_readStrike ∈ tb := tb_in 28 (by decide +kernel) rfl
theorem m_197 : Cond.fieldLink RX8 96 "SilkHouse$Book" "number" "I" ∈ tb := mb_1_3 _ (List.mem_of_getElem? (i := 10) rfl)
theorem m_200 : Cond.fieldLink RX8 50 "SilkHouse$Book" "drafted" "I" ∈ tb := mb_1_3 _ (List.mem_of_getElem? (i := 13) rfl)
theorem m_228 : Cond.fieldLink RX8 28 "SilkHouse$Reader" "book" "LSilkHouse$Book;" ∈ tb := mb_1_3 _ (List.mem_of_getElem? (i := 22) rfl)
theorem m_684 : Cond.methodLink RX8 32 yX1_startDraft ∈ tb := mb_3_4 _ (List.mem_of_getElem? (i := 19) rfl)
theorem m_685 : Cond.instanceMethod yX1_startDraft ∈ tb := mb_3_4 _ (List.mem_of_getElem? (i := 20) rfl)
theorem m_686 : Cond.selects RX1 yX1_startDraft yX1_startDraft ∈ tb := mb_3_4 _ (List.mem_of_getElem? (i := 21) rfl)
theorem m_687 : Cond.code yX1_startDraft cX1_startDraft 1 none ∈ tb := mb_3_4 _ (List.mem_of_getElem? (i := 22) rfl)
theorem m_692 : Cond.methodLink RX8 41 yX8_readClause ∈ tb := mb_3_5 _ (List.mem_of_getElem? (i := 2) rfl)
theorem m_694 : Cond.instanceMethod yX8_readClause ∈ tb := mb_3_5 _ (List.mem_of_getElem? (i := 3) rfl)
theorem m_695 : Cond.code yX8_readClause cX8_readClause 3 (some .boolean) ∈ tb := mb_3_5 _ (List.mem_of_getElem? (i := 4) rfl)
theorem m_697 : Cond.methodLink RX8 46 yX8_readOneOf ∈ tb := mb_3_5 _ (List.mem_of_getElem? (i := 5) rfl)
theorem m_699 : Cond.instanceMethod yX8_readOneOf ∈ tb := mb_3_5 _ (List.mem_of_getElem? (i := 6) rfl)
theorem m_700 : Cond.code yX8_readOneOf cX8_readOneOf 6 (some .int) ∈ tb := mb_3_5 _ (List.mem_of_getElem? (i := 7) rfl)
theorem m_761 : Cond.methodLink RX8 57 yX8_readLet ∈ tb := mb_3_5 _ (List.mem_of_getElem? (i := 19) rfl)
theorem m_763 : Cond.instanceMethod yX8_readLet ∈ tb := mb_3_5 _ (List.mem_of_getElem? (i := 20) rfl)
theorem m_764 : Cond.code yX8_readLet cX8_readLet 3 (some .boolean) ∈ tb := mb_3_5 _ (List.mem_of_getElem? (i := 21) rfl)
theorem m_766 : Cond.fieldLink RX8 71 "SilkHouse$Reader" "LEAST_OF_NAME" "[I" ∈ tb := mb_3_5 _ (List.mem_of_getElem? (i := 22) rfl)
theorem m_768 : Cond.fieldLink RX8 75 "SilkHouse$Reader" "MOST_OF_NAME" "[I" ∈ tb := mb_3_5 _ (List.mem_of_getElem? (i := 23) rfl)
theorem m_770 : Cond.methodLink RX8 78 yX8_readNumber ∈ tb := mb_3_6 _ (List.mem_of_getElem? (i := 0) rfl)
theorem m_772 : Cond.instanceMethod yX8_readNumber ∈ tb := mb_3_6 _ (List.mem_of_getElem? (i := 1) rfl)
theorem m_773 : Cond.code yX8_readNumber cX8_readNumber 7 (some .int) ∈ tb := mb_3_6 _ (List.mem_of_getElem? (i := 2) rfl)
theorem m_775 : Cond.methodLink RX8 82 yX8_readStop ∈ tb := mb_3_6 _ (List.mem_of_getElem? (i := 3) rfl)
theorem m_777 : Cond.instanceMethod yX8_readStop ∈ tb := mb_3_6 _ (List.mem_of_getElem? (i := 4) rfl)
theorem m_778 : Cond.code yX8_readStop cX8_readStop 1 (some .boolean) ∈ tb := mb_3_6 _ (List.mem_of_getElem? (i := 5) rfl)
theorem m_779 : Cond.methodLink RX8 85 yX1_draft ∈ tb := mb_3_6 _ (List.mem_of_getElem? (i := 6) rfl)
theorem m_780 : Cond.instanceMethod yX1_draft ∈ tb := mb_3_6 _ (List.mem_of_getElem? (i := 7) rfl)
theorem m_781 : Cond.selects RX1 yX1_draft yX1_draft ∈ tb := mb_3_6 _ (List.mem_of_getElem? (i := 8) rfl)
theorem m_782 : Cond.code yX1_draft cX1_draft 5 none ∈ tb := mb_3_6 _ (List.mem_of_getElem? (i := 9) rfl)
theorem m_783 : Cond.methodLink RX8 60 yX8_readTake ∈ tb := mb_3_6 _ (List.mem_of_getElem? (i := 10) rfl)
theorem m_785 : Cond.instanceMethod yX8_readTake ∈ tb := mb_3_6 _ (List.mem_of_getElem? (i := 11) rfl)
theorem m_786 : Cond.code yX8_readTake cX8_readTake 2 (some .boolean) ∈ tb := mb_3_6 _ (List.mem_of_getElem? (i := 12) rfl)
theorem m_788 : Cond.methodLink RX8 63 yX8_readName ∈ tb := mb_3_6 _ (List.mem_of_getElem? (i := 13) rfl)
theorem m_790 : Cond.instanceMethod yX8_readName ∈ tb := mb_3_6 _ (List.mem_of_getElem? (i := 14) rfl)
theorem m_791 : Cond.code yX8_readName cX8_readName 3 (some .boolean) ∈ tb := mb_3_6 _ (List.mem_of_getElem? (i := 15) rfl)
theorem m_792 : Cond.methodLink RX8 91 yX8_readWord ∈ tb := mb_3_6 _ (List.mem_of_getElem? (i := 16) rfl)
theorem m_794 : Cond.instanceMethod yX8_readWord ∈ tb := mb_3_6 _ (List.mem_of_getElem? (i := 17) rfl)
theorem m_795 : Cond.code yX8_readWord cX8_readWord 2 (some .boolean) ∈ tb := mb_3_6 _ (List.mem_of_getElem? (i := 18) rfl)
theorem m_796 : Cond.methodLink RX8 103 yX1_draftWord ∈ tb := mb_4_0 _ (List.mem_of_getElem? (i := 0) rfl)
theorem m_797 : Cond.instanceMethod yX1_draftWord ∈ tb := mb_4_0 _ (List.mem_of_getElem? (i := 1) rfl)
theorem m_798 : Cond.selects RX1 yX1_draftWord yX1_draftWord ∈ tb := mb_4_0 _ (List.mem_of_getElem? (i := 2) rfl)
theorem m_799 : Cond.code yX1_draftWord cX1_draftWord 6 none ∈ tb := mb_4_0 _ (List.mem_of_getElem? (i := 3) rfl)
theorem m_801 : Cond.methodLink RX8 66 yX8_readStrike ∈ tb := mb_4_0 _ (List.mem_of_getElem? (i := 4) rfl)
theorem m_803 : Cond.instanceMethod yX8_readStrike ∈ tb := mb_4_0 _ (List.mem_of_getElem? (i := 5) rfl)
theorem m_804 : Cond.code yX8_readStrike cX8_readStrike 3 (some .boolean) ∈ tb := mb_4_0 _ (List.mem_of_getElem? (i := 6) rfl)
theorem hd_X11_within_i : yX11_within.cls ≠ "java/lang/invoke/MethodHandle" ∧ yX11_within.cls ≠ "java/lang/invoke/VarHandle" ∧ (parseMethodDescriptor yX11_within.desc).map (fun d => d.parameters.length) = some 3 := by decide +kernel
theorem hd_X1_draftWord_v : yX1_draftWord.cls = RX1 ∧ yX1_draftWord.cls ≠ "java/lang/invoke/MethodHandle" ∧ yX1_draftWord.cls ≠ "java/lang/invoke/VarHandle" ∧ (parseMethodDescriptor yX1_draftWord.desc).map (fun d => d.parameters.length) = some 3 := by decide +kernel
theorem hd_X1_draft_v : yX1_draft.cls = RX1 ∧ yX1_draft.cls ≠ "java/lang/invoke/MethodHandle" ∧ yX1_draft.cls ≠ "java/lang/invoke/VarHandle" ∧ (parseMethodDescriptor yX1_draft.desc).map (fun d => d.parameters.length) = some 3 := by decide +kernel
theorem hd_X1_startDraft_v : yX1_startDraft.cls = RX1 ∧ yX1_startDraft.cls ≠ "java/lang/invoke/MethodHandle" ∧ yX1_startDraft.cls ≠ "java/lang/invoke/VarHandle" ∧ (parseMethodDescriptor yX1_startDraft.desc).map (fun d => d.parameters.length) = some 0 := by decide +kernel
theorem hd_X8_readClause_v : yX8_readClause.cls = RX8 ∧ yX8_readClause.cls ≠ "java/lang/invoke/MethodHandle" ∧ yX8_readClause.cls ≠ "java/lang/invoke/VarHandle" ∧ (parseMethodDescriptor yX8_readClause.desc).map (fun d => d.parameters.length) = some 0 := by decide +kernel
theorem hd_X8_readLet_v : yX8_readLet.cls = RX8 ∧ yX8_readLet.cls ≠ "java/lang/invoke/MethodHandle" ∧ yX8_readLet.cls ≠ "java/lang/invoke/VarHandle" ∧ (parseMethodDescriptor yX8_readLet.desc).map (fun d => d.parameters.length) = some 0 := by decide +kernel
theorem hd_X8_readName_v : yX8_readName.cls = RX8 ∧ yX8_readName.cls ≠ "java/lang/invoke/MethodHandle" ∧ yX8_readName.cls ≠ "java/lang/invoke/VarHandle" ∧ (parseMethodDescriptor yX8_readName.desc).map (fun d => d.parameters.length) = some 0 := by decide +kernel
theorem hd_X8_readNumber_v : yX8_readNumber.cls = RX8 ∧ yX8_readNumber.cls ≠ "java/lang/invoke/MethodHandle" ∧ yX8_readNumber.cls ≠ "java/lang/invoke/VarHandle" ∧ (parseMethodDescriptor yX8_readNumber.desc).map (fun d => d.parameters.length) = some 2 := by decide +kernel
theorem hd_X8_readOneOf_v : yX8_readOneOf.cls = RX8 ∧ yX8_readOneOf.cls ≠ "java/lang/invoke/MethodHandle" ∧ yX8_readOneOf.cls ≠ "java/lang/invoke/VarHandle" ∧ (parseMethodDescriptor yX8_readOneOf.desc).map (fun d => d.parameters.length) = some 1 := by decide +kernel
theorem hd_X8_readStop_v : yX8_readStop.cls = RX8 ∧ yX8_readStop.cls ≠ "java/lang/invoke/MethodHandle" ∧ yX8_readStop.cls ≠ "java/lang/invoke/VarHandle" ∧ (parseMethodDescriptor yX8_readStop.desc).map (fun d => d.parameters.length) = some 0 := by decide +kernel
theorem hd_X8_readStrike_v : yX8_readStrike.cls = RX8 ∧ yX8_readStrike.cls ≠ "java/lang/invoke/MethodHandle" ∧ yX8_readStrike.cls ≠ "java/lang/invoke/VarHandle" ∧ (parseMethodDescriptor yX8_readStrike.desc).map (fun d => d.parameters.length) = some 0 := by decide +kernel
theorem hd_X8_readTake_v : yX8_readTake.cls = RX8 ∧ yX8_readTake.cls ≠ "java/lang/invoke/MethodHandle" ∧ yX8_readTake.cls ≠ "java/lang/invoke/VarHandle" ∧ (parseMethodDescriptor yX8_readTake.desc).map (fun d => d.parameters.length) = some 0 := by decide +kernel
theorem hd_X8_readWord_v : yX8_readWord.cls = RX8 ∧ yX8_readWord.cls ≠ "java/lang/invoke/MethodHandle" ∧ yX8_readWord.cls ≠ "java/lang/invoke/VarHandle" ∧ (parseMethodDescriptor yX8_readWord.desc).map (fun d => d.parameters.length) = some 0 := by decide +kernel
set_option maxRecDepth 100000 in
theorem dvX8_read_0 : ([(0, .aload_n 0, 1), (1, .iconst 0, 1), (2, .putfield 25, 3), (5, .aload_n 0, 1), (6, .iconst 0, 1), (7, .putfield 22, 3), (10, .aload_n 0, 1), (11, .iconst (-1), 1), (12, .putfield 19, 3), (15, .aload_n 0, 1), (16, .getfield 28, 3), (19, .invokevirtual 32, 3), (22, .aload_n 0, 1), (23, .invokevirtual 37, 3), (26, .istore_n 1, 1), (27, .iconst 0, 1), (28, .istore_n 2, 1), (29, .iload_n 1, 1), (30, .ifCond .eq 35, 3), (33, .iload_n 2, 1), (34, .bipush 12, 2), (36, .if_icmp .gt 29, 3), (39, .aload_n 0, 1), (40, .invokevirtual 41, 3)] : List (Nat × Instr × Nat)).all (fun q => decide (decode cX8_read q.1 = .ok (q.2.1, q.2.2))) = true := by decide +kernel
theorem dX8_read_0 : decode cX8_read 0 = .ok (.aload_n 0, 1) := all_at dvX8_read_0 0 rfl
theorem dX8_read_1 : decode cX8_read 1 = .ok (.iconst 0, 1) := all_at dvX8_read_0 1 rfl
theorem dX8_read_2 : decode cX8_read 2 = .ok (.putfield 25, 3) := all_at dvX8_read_0 2 rfl
theorem dX8_read_5 : decode cX8_read 5 = .ok (.aload_n 0, 1) := all_at dvX8_read_0 3 rfl
theorem dX8_read_6 : decode cX8_read 6 = .ok (.iconst 0, 1) := all_at dvX8_read_0 4 rfl
theorem dX8_read_7 : decode cX8_read 7 = .ok (.putfield 22, 3) := all_at dvX8_read_0 5 rfl
theorem dX8_read_10 : decode cX8_read 10 = .ok (.aload_n 0, 1) := all_at dvX8_read_0 6 rfl
theorem dX8_read_11 : decode cX8_read 11 = .ok (.iconst (-1), 1) := all_at dvX8_read_0 7 rfl
theorem dX8_read_12 : decode cX8_read 12 = .ok (.putfield 19, 3) := all_at dvX8_read_0 8 rfl
theorem dX8_read_15 : decode cX8_read 15 = .ok (.aload_n 0, 1) := all_at dvX8_read_0 9 rfl
theorem dX8_read_16 : decode cX8_read 16 = .ok (.getfield 28, 3) := all_at dvX8_read_0 10 rfl
theorem dX8_read_19 : decode cX8_read 19 = .ok (.invokevirtual 32, 3) := all_at dvX8_read_0 11 rfl
theorem dX8_read_22 : decode cX8_read 22 = .ok (.aload_n 0, 1) := all_at dvX8_read_0 12 rfl
theorem dX8_read_23 : decode cX8_read 23 = .ok (.invokevirtual 37, 3) := all_at dvX8_read_0 13 rfl
theorem dX8_read_26 : decode cX8_read 26 = .ok (.istore_n 1, 1) := all_at dvX8_read_0 14 rfl
theorem dX8_read_27 : decode cX8_read 27 = .ok (.iconst 0, 1) := all_at dvX8_read_0 15 rfl
theorem dX8_read_28 : decode cX8_read 28 = .ok (.istore_n 2, 1) := all_at dvX8_read_0 16 rfl
theorem dX8_read_29 : decode cX8_read 29 = .ok (.iload_n 1, 1) := all_at dvX8_read_0 17 rfl
theorem dX8_read_30 : decode cX8_read 30 = .ok (.ifCond .eq 35, 3) := all_at dvX8_read_0 18 rfl
theorem dX8_read_33 : decode cX8_read 33 = .ok (.iload_n 2, 1) := all_at dvX8_read_0 19 rfl
theorem dX8_read_34 : decode cX8_read 34 = .ok (.bipush 12, 2) := all_at dvX8_read_0 20 rfl
theorem dX8_read_36 : decode cX8_read 36 = .ok (.if_icmp .gt 29, 3) := all_at dvX8_read_0 21 rfl
theorem dX8_read_39 : decode cX8_read 39 = .ok (.aload_n 0, 1) := all_at dvX8_read_0 22 rfl
theorem dX8_read_40 : decode cX8_read 40 = .ok (.invokevirtual 41, 3) := all_at dvX8_read_0 23 rfl
set_option maxRecDepth 100000 in
theorem dvX8_read_43 : ([(43, .ifCond .eq 14, 3), (46, .aload_n 0, 1), (47, .invokevirtual 37, 3), (50, .ifCond .eq 7, 3), (53, .iconst 1, 1), (54, .goto 4, 3), (57, .iconst 0, 1), (58, .istore_n 1, 1), (59, .iinc 2 1, 3), (62, .goto (-33), 3), (65, .aload_n 0, 1), (66, .iconst 0, 1), (67, .putfield 15, 3), (70, .aload_n 0, 1), (71, .getfield 22, 3), (74, .ireturn, 1)] : List (Nat × Instr × Nat)).all (fun q => decide (decode cX8_read q.1 = .ok (q.2.1, q.2.2))) = true := by decide +kernel
theorem dX8_read_43 : decode cX8_read 43 = .ok (.ifCond .eq 14, 3) := all_at dvX8_read_43 0 rfl
theorem dX8_read_46 : decode cX8_read 46 = .ok (.aload_n 0, 1) := all_at dvX8_read_43 1 rfl
theorem dX8_read_47 : decode cX8_read 47 = .ok (.invokevirtual 37, 3) := all_at dvX8_read_43 2 rfl
theorem dX8_read_50 : decode cX8_read 50 = .ok (.ifCond .eq 7, 3) := all_at dvX8_read_43 3 rfl
theorem dX8_read_53 : decode cX8_read 53 = .ok (.iconst 1, 1) := all_at dvX8_read_43 4 rfl
theorem dX8_read_54 : decode cX8_read 54 = .ok (.goto 4, 3) := all_at dvX8_read_43 5 rfl
theorem dX8_read_57 : decode cX8_read 57 = .ok (.iconst 0, 1) := all_at dvX8_read_43 6 rfl
theorem dX8_read_58 : decode cX8_read 58 = .ok (.istore_n 1, 1) := all_at dvX8_read_43 7 rfl
theorem dX8_read_59 : decode cX8_read 59 = .ok (.iinc 2 1, 3) := all_at dvX8_read_43 8 rfl
theorem dX8_read_62 : decode cX8_read 62 = .ok (.goto (-33), 3) := all_at dvX8_read_43 9 rfl
theorem dX8_read_65 : decode cX8_read 65 = .ok (.aload_n 0, 1) := all_at dvX8_read_43 10 rfl
theorem dX8_read_66 : decode cX8_read 66 = .ok (.iconst 0, 1) := all_at dvX8_read_43 11 rfl
theorem dX8_read_67 : decode cX8_read 67 = .ok (.putfield 15, 3) := all_at dvX8_read_43 12 rfl
theorem dX8_read_70 : decode cX8_read 70 = .ok (.aload_n 0, 1) := all_at dvX8_read_43 13 rfl
theorem dX8_read_71 : decode cX8_read 71 = .ok (.getfield 22, 3) := all_at dvX8_read_43 14 rfl
theorem dX8_read_74 : decode cX8_read 74 = .ok (.ireturn, 1) := all_at dvX8_read_43 15 rfl
set_option maxRecDepth 100000 in
theorem dvX8_readClause_0 : ([(0, .aload_n 0, 1), (1, .getfield 25, 3), (4, .istore_n 1, 1), (5, .aload_n 0, 1), (6, .ldc 44, 2), (8, .invokevirtual 46, 3), (11, .istore_n 2, 1), (12, .iload_n 2, 1), (13, .iconst (-1), 1), (14, .if_icmp .ne 5, 3), (17, .iconst 0, 1), (18, .ireturn, 1), (19, .aload_n 0, 1), (20, .getfield 28, 3), (23, .getfield 50, 3), (26, .bipush 12, 2), (28, .if_icmp .lt 10, 3), (31, .aload_n 0, 1), (32, .iconst 5, 1), (33, .iload_n 1, 1), (34, .invokevirtual 53, 3), (37, .ireturn, 1), (38, .iload_n 2, 1), (39, .tableswitch 40 0 2 #[25, 30, 35], 25)] : List (Nat × Instr × Nat)).all (fun q => decide (decode cX8_readClause q.1 = .ok (q.2.1, q.2.2))) = true := by decide +kernel
theorem dX8_readClause_0 : decode cX8_readClause 0 = .ok (.aload_n 0, 1) := all_at dvX8_readClause_0 0 rfl
theorem dX8_readClause_1 : decode cX8_readClause 1 = .ok (.getfield 25, 3) := all_at dvX8_readClause_0 1 rfl
theorem dX8_readClause_4 : decode cX8_readClause 4 = .ok (.istore_n 1, 1) := all_at dvX8_readClause_0 2 rfl
theorem dX8_readClause_5 : decode cX8_readClause 5 = .ok (.aload_n 0, 1) := all_at dvX8_readClause_0 3 rfl
theorem dX8_readClause_6 : decode cX8_readClause 6 = .ok (.ldc 44, 2) := all_at dvX8_readClause_0 4 rfl
theorem dX8_readClause_8 : decode cX8_readClause 8 = .ok (.invokevirtual 46, 3) := all_at dvX8_readClause_0 5 rfl
theorem dX8_readClause_11 : decode cX8_readClause 11 = .ok (.istore_n 2, 1) := all_at dvX8_readClause_0 6 rfl
theorem dX8_readClause_12 : decode cX8_readClause 12 = .ok (.iload_n 2, 1) := all_at dvX8_readClause_0 7 rfl
theorem dX8_readClause_13 : decode cX8_readClause 13 = .ok (.iconst (-1), 1) := all_at dvX8_readClause_0 8 rfl
theorem dX8_readClause_14 : decode cX8_readClause 14 = .ok (.if_icmp .ne 5, 3) := all_at dvX8_readClause_0 9 rfl
theorem dX8_readClause_17 : decode cX8_readClause 17 = .ok (.iconst 0, 1) := all_at dvX8_readClause_0 10 rfl
theorem dX8_readClause_18 : decode cX8_readClause 18 = .ok (.ireturn, 1) := all_at dvX8_readClause_0 11 rfl
theorem dX8_readClause_19 : decode cX8_readClause 19 = .ok (.aload_n 0, 1) := all_at dvX8_readClause_0 12 rfl
theorem dX8_readClause_20 : decode cX8_readClause 20 = .ok (.getfield 28, 3) := all_at dvX8_readClause_0 13 rfl
theorem dX8_readClause_23 : decode cX8_readClause 23 = .ok (.getfield 50, 3) := all_at dvX8_readClause_0 14 rfl
theorem dX8_readClause_26 : decode cX8_readClause 26 = .ok (.bipush 12, 2) := all_at dvX8_readClause_0 15 rfl
theorem dX8_readClause_28 : decode cX8_readClause 28 = .ok (.if_icmp .lt 10, 3) := all_at dvX8_readClause_0 16 rfl
theorem dX8_readClause_31 : decode cX8_readClause 31 = .ok (.aload_n 0, 1) := all_at dvX8_readClause_0 17 rfl
theorem dX8_readClause_32 : decode cX8_readClause 32 = .ok (.iconst 5, 1) := all_at dvX8_readClause_0 18 rfl
theorem dX8_readClause_33 : decode cX8_readClause 33 = .ok (.iload_n 1, 1) := all_at dvX8_readClause_0 19 rfl
theorem dX8_readClause_34 : decode cX8_readClause 34 = .ok (.invokevirtual 53, 3) := all_at dvX8_readClause_0 20 rfl
theorem dX8_readClause_37 : decode cX8_readClause 37 = .ok (.ireturn, 1) := all_at dvX8_readClause_0 21 rfl
theorem dX8_readClause_38 : decode cX8_readClause 38 = .ok (.iload_n 2, 1) := all_at dvX8_readClause_0 22 rfl
theorem dX8_readClause_39 : decode cX8_readClause 39 = .ok (.tableswitch 40 0 2 #[25, 30, 35], 25) := all_at dvX8_readClause_0 23 rfl
set_option maxRecDepth 100000 in
theorem dvX8_readClause_64 : ([(64, .aload_n 0, 1), (65, .invokevirtual 57, 3), (68, .ireturn, 1), (69, .aload_n 0, 1), (70, .invokevirtual 60, 3), (73, .ireturn, 1), (74, .aload_n 0, 1), (75, .invokevirtual 63, 3), (78, .ireturn, 1), (79, .aload_n 0, 1), (80, .invokevirtual 66, 3), (83, .ireturn, 1)] : List (Nat × Instr × Nat)).all (fun q => decide (decode cX8_readClause q.1 = .ok (q.2.1, q.2.2))) = true := by decide +kernel
theorem dX8_readClause_64 : decode cX8_readClause 64 = .ok (.aload_n 0, 1) := all_at dvX8_readClause_64 0 rfl
theorem dX8_readClause_65 : decode cX8_readClause 65 = .ok (.invokevirtual 57, 3) := all_at dvX8_readClause_64 1 rfl
theorem dX8_readClause_68 : decode cX8_readClause 68 = .ok (.ireturn, 1) := all_at dvX8_readClause_64 2 rfl
theorem dX8_readClause_69 : decode cX8_readClause 69 = .ok (.aload_n 0, 1) := all_at dvX8_readClause_64 3 rfl
theorem dX8_readClause_70 : decode cX8_readClause 70 = .ok (.invokevirtual 60, 3) := all_at dvX8_readClause_64 4 rfl
theorem dX8_readClause_73 : decode cX8_readClause 73 = .ok (.ireturn, 1) := all_at dvX8_readClause_64 5 rfl
theorem dX8_readClause_74 : decode cX8_readClause 74 = .ok (.aload_n 0, 1) := all_at dvX8_readClause_64 6 rfl
theorem dX8_readClause_75 : decode cX8_readClause 75 = .ok (.invokevirtual 63, 3) := all_at dvX8_readClause_64 7 rfl
theorem dX8_readClause_78 : decode cX8_readClause 78 = .ok (.ireturn, 1) := all_at dvX8_readClause_64 8 rfl
theorem dX8_readClause_79 : decode cX8_readClause 79 = .ok (.aload_n 0, 1) := all_at dvX8_readClause_64 9 rfl
theorem dX8_readClause_80 : decode cX8_readClause 80 = .ok (.invokevirtual 66, 3) := all_at dvX8_readClause_64 10 rfl
theorem dX8_readClause_83 : decode cX8_readClause 83 = .ok (.ireturn, 1) := all_at dvX8_readClause_64 11 rfl
set_option maxRecDepth 100000 in
theorem dvX8_readLet_0 : ([(0, .aload_n 0, 1), (1, .ldc 69, 2), (3, .invokevirtual 46, 3), (6, .istore_n 1, 1), (7, .iload_n 1, 1), (8, .iconst (-1), 1), (9, .if_icmp .ne 5, 3), (12, .iconst 0, 1), (13, .ireturn, 1), (14, .aload_n 0, 1), (15, .getstatic 71, 3), (18, .iload_n 1, 1), (19, .iaload, 1), (20, .getstatic 75, 3), (23, .iload_n 1, 1), (24, .iaload, 1), (25, .invokevirtual 78, 3), (28, .istore_n 2, 1), (29, .iload_n 2, 1), (30, .iconst (-1), 1), (31, .if_icmp .eq 10, 3), (34, .aload_n 0, 1), (35, .invokevirtual 82, 3), (38, .ifCond .ne 5, 3)] : List (Nat × Instr × Nat)).all (fun q => decide (decode cX8_readLet q.1 = .ok (q.2.1, q.2.2))) = true := by decide +kernel
theorem dX8_readLet_0 : decode cX8_readLet 0 = .ok (.aload_n 0, 1) := all_at dvX8_readLet_0 0 rfl
theorem dX8_readLet_1 : decode cX8_readLet 1 = .ok (.ldc 69, 2) := all_at dvX8_readLet_0 1 rfl
theorem dX8_readLet_3 : decode cX8_readLet 3 = .ok (.invokevirtual 46, 3) := all_at dvX8_readLet_0 2 rfl
theorem dX8_readLet_6 : decode cX8_readLet 6 = .ok (.istore_n 1, 1) := all_at dvX8_readLet_0 3 rfl
theorem dX8_readLet_7 : decode cX8_readLet 7 = .ok (.iload_n 1, 1) := all_at dvX8_readLet_0 4 rfl
theorem dX8_readLet_8 : decode cX8_readLet 8 = .ok (.iconst (-1), 1) := all_at dvX8_readLet_0 5 rfl
theorem dX8_readLet_9 : decode cX8_readLet 9 = .ok (.if_icmp .ne 5, 3) := all_at dvX8_readLet_0 6 rfl
theorem dX8_readLet_12 : decode cX8_readLet 12 = .ok (.iconst 0, 1) := all_at dvX8_readLet_0 7 rfl
theorem dX8_readLet_13 : decode cX8_readLet 13 = .ok (.ireturn, 1) := all_at dvX8_readLet_0 8 rfl
theorem dX8_readLet_14 : decode cX8_readLet 14 = .ok (.aload_n 0, 1) := all_at dvX8_readLet_0 9 rfl
theorem dX8_readLet_15 : decode cX8_readLet 15 = .ok (.getstatic 71, 3) := all_at dvX8_readLet_0 10 rfl
theorem dX8_readLet_18 : decode cX8_readLet 18 = .ok (.iload_n 1, 1) := all_at dvX8_readLet_0 11 rfl
theorem dX8_readLet_19 : decode cX8_readLet 19 = .ok (.iaload, 1) := all_at dvX8_readLet_0 12 rfl
theorem dX8_readLet_20 : decode cX8_readLet 20 = .ok (.getstatic 75, 3) := all_at dvX8_readLet_0 13 rfl
theorem dX8_readLet_23 : decode cX8_readLet 23 = .ok (.iload_n 1, 1) := all_at dvX8_readLet_0 14 rfl
theorem dX8_readLet_24 : decode cX8_readLet 24 = .ok (.iaload, 1) := all_at dvX8_readLet_0 15 rfl
theorem dX8_readLet_25 : decode cX8_readLet 25 = .ok (.invokevirtual 78, 3) := all_at dvX8_readLet_0 16 rfl
theorem dX8_readLet_28 : decode cX8_readLet 28 = .ok (.istore_n 2, 1) := all_at dvX8_readLet_0 17 rfl
theorem dX8_readLet_29 : decode cX8_readLet 29 = .ok (.iload_n 2, 1) := all_at dvX8_readLet_0 18 rfl
theorem dX8_readLet_30 : decode cX8_readLet 30 = .ok (.iconst (-1), 1) := all_at dvX8_readLet_0 19 rfl
theorem dX8_readLet_31 : decode cX8_readLet 31 = .ok (.if_icmp .eq 10, 3) := all_at dvX8_readLet_0 20 rfl
theorem dX8_readLet_34 : decode cX8_readLet 34 = .ok (.aload_n 0, 1) := all_at dvX8_readLet_0 21 rfl
theorem dX8_readLet_35 : decode cX8_readLet 35 = .ok (.invokevirtual 82, 3) := all_at dvX8_readLet_0 22 rfl
theorem dX8_readLet_38 : decode cX8_readLet 38 = .ok (.ifCond .ne 5, 3) := all_at dvX8_readLet_0 23 rfl
set_option maxRecDepth 100000 in
theorem dvX8_readLet_41 : ([(41, .iconst 0, 1), (42, .ireturn, 1), (43, .aload_n 0, 1), (44, .getfield 28, 3), (47, .iload_n 1, 1), (48, .iload_n 2, 1), (49, .iconst 0, 1), (50, .invokevirtual 85, 3), (53, .iconst 1, 1), (54, .ireturn, 1)] : List (Nat × Instr × Nat)).all (fun q => decide (decode cX8_readLet q.1 = .ok (q.2.1, q.2.2))) = true := by decide +kernel
theorem dX8_readLet_41 : decode cX8_readLet 41 = .ok (.iconst 0, 1) := all_at dvX8_readLet_41 0 rfl
theorem dX8_readLet_42 : decode cX8_readLet 42 = .ok (.ireturn, 1) := all_at dvX8_readLet_41 1 rfl
theorem dX8_readLet_43 : decode cX8_readLet 43 = .ok (.aload_n 0, 1) := all_at dvX8_readLet_41 2 rfl
theorem dX8_readLet_44 : decode cX8_readLet 44 = .ok (.getfield 28, 3) := all_at dvX8_readLet_41 3 rfl
theorem dX8_readLet_47 : decode cX8_readLet 47 = .ok (.iload_n 1, 1) := all_at dvX8_readLet_41 4 rfl
theorem dX8_readLet_48 : decode cX8_readLet 48 = .ok (.iload_n 2, 1) := all_at dvX8_readLet_41 5 rfl
theorem dX8_readLet_49 : decode cX8_readLet 49 = .ok (.iconst 0, 1) := all_at dvX8_readLet_41 6 rfl
theorem dX8_readLet_50 : decode cX8_readLet 50 = .ok (.invokevirtual 85, 3) := all_at dvX8_readLet_41 7 rfl
theorem dX8_readLet_53 : decode cX8_readLet 53 = .ok (.iconst 1, 1) := all_at dvX8_readLet_41 8 rfl
theorem dX8_readLet_54 : decode cX8_readLet 54 = .ok (.ireturn, 1) := all_at dvX8_readLet_41 9 rfl
set_option maxRecDepth 100000 in
theorem dvX8_readName_0 : ([(0, .aload_n 0, 1), (1, .invokevirtual 91, 3), (4, .ifCond .ne 5, 3), (7, .iconst 0, 1), (8, .ireturn, 1), (9, .aload_n 0, 1), (10, .iconst 0, 1), (11, .sipush 9999, 3), (14, .invokevirtual 78, 3), (17, .istore_n 1, 1), (18, .iload_n 1, 1), (19, .iconst (-1), 1), (20, .if_icmp .eq 13, 3), (23, .aload_n 0, 1), (24, .ldc 94, 2), (26, .invokevirtual 46, 3), (29, .iconst (-1), 1), (30, .if_icmp .ne 5, 3), (33, .iconst 0, 1), (34, .ireturn, 1), (35, .aload_n 0, 1), (36, .iload_n 1, 1), (37, .iconst 1, 1), (38, .iadd, 1)] : List (Nat × Instr × Nat)).all (fun q => decide (decode cX8_readName q.1 = .ok (q.2.1, q.2.2))) = true := by decide +kernel
theorem dX8_readName_0 : decode cX8_readName 0 = .ok (.aload_n 0, 1) := all_at dvX8_readName_0 0 rfl
theorem dX8_readName_1 : decode cX8_readName 1 = .ok (.invokevirtual 91, 3) := all_at dvX8_readName_0 1 rfl
theorem dX8_readName_4 : decode cX8_readName 4 = .ok (.ifCond .ne 5, 3) := all_at dvX8_readName_0 2 rfl
theorem dX8_readName_7 : decode cX8_readName 7 = .ok (.iconst 0, 1) := all_at dvX8_readName_0 3 rfl
theorem dX8_readName_8 : decode cX8_readName 8 = .ok (.ireturn, 1) := all_at dvX8_readName_0 4 rfl
theorem dX8_readName_9 : decode cX8_readName 9 = .ok (.aload_n 0, 1) := all_at dvX8_readName_0 5 rfl
theorem dX8_readName_10 : decode cX8_readName 10 = .ok (.iconst 0, 1) := all_at dvX8_readName_0 6 rfl
theorem dX8_readName_11 : decode cX8_readName 11 = .ok (.sipush 9999, 3) := all_at dvX8_readName_0 7 rfl
theorem dX8_readName_14 : decode cX8_readName 14 = .ok (.invokevirtual 78, 3) := all_at dvX8_readName_0 8 rfl
theorem dX8_readName_17 : decode cX8_readName 17 = .ok (.istore_n 1, 1) := all_at dvX8_readName_0 9 rfl
theorem dX8_readName_18 : decode cX8_readName 18 = .ok (.iload_n 1, 1) := all_at dvX8_readName_0 10 rfl
theorem dX8_readName_19 : decode cX8_readName 19 = .ok (.iconst (-1), 1) := all_at dvX8_readName_0 11 rfl
theorem dX8_readName_20 : decode cX8_readName 20 = .ok (.if_icmp .eq 13, 3) := all_at dvX8_readName_0 12 rfl
theorem dX8_readName_23 : decode cX8_readName 23 = .ok (.aload_n 0, 1) := all_at dvX8_readName_0 13 rfl
theorem dX8_readName_24 : decode cX8_readName 24 = .ok (.ldc 94, 2) := all_at dvX8_readName_0 14 rfl
theorem dX8_readName_26 : decode cX8_readName 26 = .ok (.invokevirtual 46, 3) := all_at dvX8_readName_0 15 rfl
theorem dX8_readName_29 : decode cX8_readName 29 = .ok (.iconst (-1), 1) := all_at dvX8_readName_0 16 rfl
theorem dX8_readName_30 : decode cX8_readName 30 = .ok (.if_icmp .ne 5, 3) := all_at dvX8_readName_0 17 rfl
theorem dX8_readName_33 : decode cX8_readName 33 = .ok (.iconst 0, 1) := all_at dvX8_readName_0 18 rfl
theorem dX8_readName_34 : decode cX8_readName 34 = .ok (.ireturn, 1) := all_at dvX8_readName_0 19 rfl
theorem dX8_readName_35 : decode cX8_readName 35 = .ok (.aload_n 0, 1) := all_at dvX8_readName_0 20 rfl
theorem dX8_readName_36 : decode cX8_readName 36 = .ok (.iload_n 1, 1) := all_at dvX8_readName_0 21 rfl
theorem dX8_readName_37 : decode cX8_readName 37 = .ok (.iconst 1, 1) := all_at dvX8_readName_0 22 rfl
theorem dX8_readName_38 : decode cX8_readName 38 = .ok (.iadd, 1) := all_at dvX8_readName_0 23 rfl
set_option maxRecDepth 100000 in
theorem dvX8_readName_39 : ([(39, .sipush 9999, 3), (42, .invokevirtual 78, 3), (45, .istore_n 2, 1), (46, .iload_n 2, 1), (47, .iconst (-1), 1), (48, .if_icmp .eq 10, 3), (51, .aload_n 0, 1), (52, .invokevirtual 82, 3), (55, .ifCond .ne 5, 3), (58, .iconst 0, 1), (59, .ireturn, 1), (60, .aload_n 0, 1), (61, .getfield 28, 3), (64, .bipush 6, 2), (66, .iload_n 1, 1), (67, .iload_n 2, 1), (68, .invokevirtual 85, 3), (71, .iconst 1, 1), (72, .ireturn, 1)] : List (Nat × Instr × Nat)).all (fun q => decide (decode cX8_readName q.1 = .ok (q.2.1, q.2.2))) = true := by decide +kernel
theorem dX8_readName_39 : decode cX8_readName 39 = .ok (.sipush 9999, 3) := all_at dvX8_readName_39 0 rfl
theorem dX8_readName_42 : decode cX8_readName 42 = .ok (.invokevirtual 78, 3) := all_at dvX8_readName_39 1 rfl
theorem dX8_readName_45 : decode cX8_readName 45 = .ok (.istore_n 2, 1) := all_at dvX8_readName_39 2 rfl
theorem dX8_readName_46 : decode cX8_readName 46 = .ok (.iload_n 2, 1) := all_at dvX8_readName_39 3 rfl
theorem dX8_readName_47 : decode cX8_readName 47 = .ok (.iconst (-1), 1) := all_at dvX8_readName_39 4 rfl
theorem dX8_readName_48 : decode cX8_readName 48 = .ok (.if_icmp .eq 10, 3) := all_at dvX8_readName_39 5 rfl
theorem dX8_readName_51 : decode cX8_readName 51 = .ok (.aload_n 0, 1) := all_at dvX8_readName_39 6 rfl
theorem dX8_readName_52 : decode cX8_readName 52 = .ok (.invokevirtual 82, 3) := all_at dvX8_readName_39 7 rfl
theorem dX8_readName_55 : decode cX8_readName 55 = .ok (.ifCond .ne 5, 3) := all_at dvX8_readName_39 8 rfl
theorem dX8_readName_58 : decode cX8_readName 58 = .ok (.iconst 0, 1) := all_at dvX8_readName_39 9 rfl
theorem dX8_readName_59 : decode cX8_readName 59 = .ok (.ireturn, 1) := all_at dvX8_readName_39 10 rfl
theorem dX8_readName_60 : decode cX8_readName 60 = .ok (.aload_n 0, 1) := all_at dvX8_readName_39 11 rfl
theorem dX8_readName_61 : decode cX8_readName 61 = .ok (.getfield 28, 3) := all_at dvX8_readName_39 12 rfl
theorem dX8_readName_64 : decode cX8_readName 64 = .ok (.bipush 6, 2) := all_at dvX8_readName_39 13 rfl
theorem dX8_readName_66 : decode cX8_readName 66 = .ok (.iload_n 1, 1) := all_at dvX8_readName_39 14 rfl
theorem dX8_readName_67 : decode cX8_readName 67 = .ok (.iload_n 2, 1) := all_at dvX8_readName_39 15 rfl
theorem dX8_readName_68 : decode cX8_readName 68 = .ok (.invokevirtual 85, 3) := all_at dvX8_readName_39 16 rfl
theorem dX8_readName_71 : decode cX8_readName 71 = .ok (.iconst 1, 1) := all_at dvX8_readName_39 17 rfl
theorem dX8_readName_72 : decode cX8_readName 72 = .ok (.ireturn, 1) := all_at dvX8_readName_39 18 rfl
set_option maxRecDepth 100000 in
theorem dvX8_readNumber_0 : ([(0, .aload_n 0, 1), (1, .invokevirtual 37, 3), (4, .pop, 1), (5, .aload_n 0, 1), (6, .getfield 25, 3), (9, .istore_n 3, 1), (10, .aload_n 0, 1), (11, .bipush 48, 2), (13, .bipush 57, 2), (15, .invokevirtual 99, 3), (18, .istore 4, 2), (20, .iload 4, 2), (22, .iload_n 3, 1), (23, .if_icmp .ne 12, 3), (26, .aload_n 0, 1), (27, .iconst 1, 1), (28, .iload_n 3, 1), (29, .invokevirtual 53, 3), (32, .pop, 1), (33, .iconst (-1), 1), (34, .ireturn, 1), (35, .iconst 0, 1), (36, .istore 5, 2), (38, .iload_n 3, 1)] : List (Nat × Instr × Nat)).all (fun q => decide (decode cX8_readNumber q.1 = .ok (q.2.1, q.2.2))) = true := by decide +kernel
theorem dX8_readNumber_0 : decode cX8_readNumber 0 = .ok (.aload_n 0, 1) := all_at dvX8_readNumber_0 0 rfl
theorem dX8_readNumber_1 : decode cX8_readNumber 1 = .ok (.invokevirtual 37, 3) := all_at dvX8_readNumber_0 1 rfl
theorem dX8_readNumber_4 : decode cX8_readNumber 4 = .ok (.pop, 1) := all_at dvX8_readNumber_0 2 rfl
theorem dX8_readNumber_5 : decode cX8_readNumber 5 = .ok (.aload_n 0, 1) := all_at dvX8_readNumber_0 3 rfl
theorem dX8_readNumber_6 : decode cX8_readNumber 6 = .ok (.getfield 25, 3) := all_at dvX8_readNumber_0 4 rfl
theorem dX8_readNumber_9 : decode cX8_readNumber 9 = .ok (.istore_n 3, 1) := all_at dvX8_readNumber_0 5 rfl
theorem dX8_readNumber_10 : decode cX8_readNumber 10 = .ok (.aload_n 0, 1) := all_at dvX8_readNumber_0 6 rfl
theorem dX8_readNumber_11 : decode cX8_readNumber 11 = .ok (.bipush 48, 2) := all_at dvX8_readNumber_0 7 rfl
theorem dX8_readNumber_13 : decode cX8_readNumber 13 = .ok (.bipush 57, 2) := all_at dvX8_readNumber_0 8 rfl
theorem dX8_readNumber_15 : decode cX8_readNumber 15 = .ok (.invokevirtual 99, 3) := all_at dvX8_readNumber_0 9 rfl
theorem dX8_readNumber_18 : decode cX8_readNumber 18 = .ok (.istore 4, 2) := all_at dvX8_readNumber_0 10 rfl
theorem dX8_readNumber_20 : decode cX8_readNumber 20 = .ok (.iload 4, 2) := all_at dvX8_readNumber_0 11 rfl
theorem dX8_readNumber_22 : decode cX8_readNumber 22 = .ok (.iload_n 3, 1) := all_at dvX8_readNumber_0 12 rfl
theorem dX8_readNumber_23 : decode cX8_readNumber 23 = .ok (.if_icmp .ne 12, 3) := all_at dvX8_readNumber_0 13 rfl
theorem dX8_readNumber_26 : decode cX8_readNumber 26 = .ok (.aload_n 0, 1) := all_at dvX8_readNumber_0 14 rfl
theorem dX8_readNumber_27 : decode cX8_readNumber 27 = .ok (.iconst 1, 1) := all_at dvX8_readNumber_0 15 rfl
theorem dX8_readNumber_28 : decode cX8_readNumber 28 = .ok (.iload_n 3, 1) := all_at dvX8_readNumber_0 16 rfl
theorem dX8_readNumber_29 : decode cX8_readNumber 29 = .ok (.invokevirtual 53, 3) := all_at dvX8_readNumber_0 17 rfl
theorem dX8_readNumber_32 : decode cX8_readNumber 32 = .ok (.pop, 1) := all_at dvX8_readNumber_0 18 rfl
theorem dX8_readNumber_33 : decode cX8_readNumber 33 = .ok (.iconst (-1), 1) := all_at dvX8_readNumber_0 19 rfl
theorem dX8_readNumber_34 : decode cX8_readNumber 34 = .ok (.ireturn, 1) := all_at dvX8_readNumber_0 20 rfl
theorem dX8_readNumber_35 : decode cX8_readNumber 35 = .ok (.iconst 0, 1) := all_at dvX8_readNumber_0 21 rfl
theorem dX8_readNumber_36 : decode cX8_readNumber 36 = .ok (.istore 5, 2) := all_at dvX8_readNumber_0 22 rfl
theorem dX8_readNumber_38 : decode cX8_readNumber 38 = .ok (.iload_n 3, 1) := all_at dvX8_readNumber_0 23 rfl
set_option maxRecDepth 100000 in
theorem dvX8_readNumber_39 : ([(39, .istore 6, 2), (41, .iload 6, 2), (43, .iload 4, 2), (45, .if_icmp .ge 35, 3), (48, .iload 6, 2), (50, .iload_n 3, 1), (51, .iconst 4, 1), (52, .iadd, 1), (53, .if_icmp .ge 27, 3), (56, .bipush 10, 2), (58, .iload 5, 2), (60, .imul, 1), (61, .aload_n 0, 1), (62, .getfield 11, 3), (65, .iload 6, 2), (67, .baload, 1), (68, .bipush 48, 2), (70, .isub, 1), (71, .iadd, 1), (72, .istore 5, 2), (74, .iinc 6 1, 3), (77, .goto (-36), 3), (80, .iload 4, 2), (82, .iload_n 3, 1)] : List (Nat × Instr × Nat)).all (fun q => decide (decode cX8_readNumber q.1 = .ok (q.2.1, q.2.2))) = true := by decide +kernel
theorem dX8_readNumber_39 : decode cX8_readNumber 39 = .ok (.istore 6, 2) := all_at dvX8_readNumber_39 0 rfl
theorem dX8_readNumber_41 : decode cX8_readNumber 41 = .ok (.iload 6, 2) := all_at dvX8_readNumber_39 1 rfl
theorem dX8_readNumber_43 : decode cX8_readNumber 43 = .ok (.iload 4, 2) := all_at dvX8_readNumber_39 2 rfl
theorem dX8_readNumber_45 : decode cX8_readNumber 45 = .ok (.if_icmp .ge 35, 3) := all_at dvX8_readNumber_39 3 rfl
theorem dX8_readNumber_48 : decode cX8_readNumber 48 = .ok (.iload 6, 2) := all_at dvX8_readNumber_39 4 rfl
theorem dX8_readNumber_50 : decode cX8_readNumber 50 = .ok (.iload_n 3, 1) := all_at dvX8_readNumber_39 5 rfl
theorem dX8_readNumber_51 : decode cX8_readNumber 51 = .ok (.iconst 4, 1) := all_at dvX8_readNumber_39 6 rfl
theorem dX8_readNumber_52 : decode cX8_readNumber 52 = .ok (.iadd, 1) := all_at dvX8_readNumber_39 7 rfl
theorem dX8_readNumber_53 : decode cX8_readNumber 53 = .ok (.if_icmp .ge 27, 3) := all_at dvX8_readNumber_39 8 rfl
theorem dX8_readNumber_56 : decode cX8_readNumber 56 = .ok (.bipush 10, 2) := all_at dvX8_readNumber_39 9 rfl
theorem dX8_readNumber_58 : decode cX8_readNumber 58 = .ok (.iload 5, 2) := all_at dvX8_readNumber_39 10 rfl
theorem dX8_readNumber_60 : decode cX8_readNumber 60 = .ok (.imul, 1) := all_at dvX8_readNumber_39 11 rfl
theorem dX8_readNumber_61 : decode cX8_readNumber 61 = .ok (.aload_n 0, 1) := all_at dvX8_readNumber_39 12 rfl
theorem dX8_readNumber_62 : decode cX8_readNumber 62 = .ok (.getfield 11, 3) := all_at dvX8_readNumber_39 13 rfl
theorem dX8_readNumber_65 : decode cX8_readNumber 65 = .ok (.iload 6, 2) := all_at dvX8_readNumber_39 14 rfl
theorem dX8_readNumber_67 : decode cX8_readNumber 67 = .ok (.baload, 1) := all_at dvX8_readNumber_39 15 rfl
theorem dX8_readNumber_68 : decode cX8_readNumber 68 = .ok (.bipush 48, 2) := all_at dvX8_readNumber_39 16 rfl
theorem dX8_readNumber_70 : decode cX8_readNumber 70 = .ok (.isub, 1) := all_at dvX8_readNumber_39 17 rfl
theorem dX8_readNumber_71 : decode cX8_readNumber 71 = .ok (.iadd, 1) := all_at dvX8_readNumber_39 18 rfl
theorem dX8_readNumber_72 : decode cX8_readNumber 72 = .ok (.istore 5, 2) := all_at dvX8_readNumber_39 19 rfl
theorem dX8_readNumber_74 : decode cX8_readNumber 74 = .ok (.iinc 6 1, 3) := all_at dvX8_readNumber_39 20 rfl
theorem dX8_readNumber_77 : decode cX8_readNumber 77 = .ok (.goto (-36), 3) := all_at dvX8_readNumber_39 21 rfl
theorem dX8_readNumber_80 : decode cX8_readNumber 80 = .ok (.iload 4, 2) := all_at dvX8_readNumber_39 22 rfl
theorem dX8_readNumber_82 : decode cX8_readNumber 82 = .ok (.iload_n 3, 1) := all_at dvX8_readNumber_39 23 rfl
set_option maxRecDepth 100000 in
theorem dvX8_readNumber_83 : ([(83, .isub, 1), (84, .iconst 4, 1), (85, .if_icmp .gt 13, 3), (88, .iload 5, 2), (90, .iload_n 1, 1), (91, .iload_n 2, 1), (92, .invokestatic 120, 3), (95, .ifCond .ne 12, 3), (98, .aload_n 0, 1), (99, .iconst 2, 1), (100, .iload_n 3, 1), (101, .invokevirtual 53, 3), (104, .pop, 1), (105, .iconst (-1), 1), (106, .ireturn, 1), (107, .aload_n 0, 1), (108, .iload 4, 2), (110, .putfield 25, 3), (113, .iload 5, 2), (115, .ireturn, 1)] : List (Nat × Instr × Nat)).all (fun q => decide (decode cX8_readNumber q.1 = .ok (q.2.1, q.2.2))) = true := by decide +kernel
theorem dX8_readNumber_83 : decode cX8_readNumber 83 = .ok (.isub, 1) := all_at dvX8_readNumber_83 0 rfl
theorem dX8_readNumber_84 : decode cX8_readNumber 84 = .ok (.iconst 4, 1) := all_at dvX8_readNumber_83 1 rfl
theorem dX8_readNumber_85 : decode cX8_readNumber 85 = .ok (.if_icmp .gt 13, 3) := all_at dvX8_readNumber_83 2 rfl
theorem dX8_readNumber_88 : decode cX8_readNumber 88 = .ok (.iload 5, 2) := all_at dvX8_readNumber_83 3 rfl
theorem dX8_readNumber_90 : decode cX8_readNumber 90 = .ok (.iload_n 1, 1) := all_at dvX8_readNumber_83 4 rfl
theorem dX8_readNumber_91 : decode cX8_readNumber 91 = .ok (.iload_n 2, 1) := all_at dvX8_readNumber_83 5 rfl
theorem dX8_readNumber_92 : decode cX8_readNumber 92 = .ok (.invokestatic 120, 3) := all_at dvX8_readNumber_83 6 rfl
theorem dX8_readNumber_95 : decode cX8_readNumber 95 = .ok (.ifCond .ne 12, 3) := all_at dvX8_readNumber_83 7 rfl
theorem dX8_readNumber_98 : decode cX8_readNumber 98 = .ok (.aload_n 0, 1) := all_at dvX8_readNumber_83 8 rfl
theorem dX8_readNumber_99 : decode cX8_readNumber 99 = .ok (.iconst 2, 1) := all_at dvX8_readNumber_83 9 rfl
theorem dX8_readNumber_100 : decode cX8_readNumber 100 = .ok (.iload_n 3, 1) := all_at dvX8_readNumber_83 10 rfl
theorem dX8_readNumber_101 : decode cX8_readNumber 101 = .ok (.invokevirtual 53, 3) := all_at dvX8_readNumber_83 11 rfl
theorem dX8_readNumber_104 : decode cX8_readNumber 104 = .ok (.pop, 1) := all_at dvX8_readNumber_83 12 rfl
theorem dX8_readNumber_105 : decode cX8_readNumber 105 = .ok (.iconst (-1), 1) := all_at dvX8_readNumber_83 13 rfl
theorem dX8_readNumber_106 : decode cX8_readNumber 106 = .ok (.ireturn, 1) := all_at dvX8_readNumber_83 14 rfl
theorem dX8_readNumber_107 : decode cX8_readNumber 107 = .ok (.aload_n 0, 1) := all_at dvX8_readNumber_83 15 rfl
theorem dX8_readNumber_108 : decode cX8_readNumber 108 = .ok (.iload 4, 2) := all_at dvX8_readNumber_83 16 rfl
theorem dX8_readNumber_110 : decode cX8_readNumber 110 = .ok (.putfield 25, 3) := all_at dvX8_readNumber_83 17 rfl
theorem dX8_readNumber_113 : decode cX8_readNumber 113 = .ok (.iload 5, 2) := all_at dvX8_readNumber_83 18 rfl
theorem dX8_readNumber_115 : decode cX8_readNumber 115 = .ok (.ireturn, 1) := all_at dvX8_readNumber_83 19 rfl
set_option maxRecDepth 100000 in
theorem dvX8_readStop_0 : ([(0, .aload_n 0, 1), (1, .invokevirtual 37, 3), (4, .ifCond .eq 17, 3), (7, .aload_n 0, 1), (8, .getfield 11, 3), (11, .aload_n 0, 1), (12, .getfield 25, 3), (15, .baload, 1), (16, .bipush 59, 2), (18, .if_icmp .eq 13, 3), (21, .aload_n 0, 1), (22, .iconst 1, 1), (23, .aload_n 0, 1), (24, .getfield 25, 3), (27, .invokevirtual 53, 3), (30, .ireturn, 1), (31, .aload_n 0, 1), (32, .dup, 1), (33, .getfield 25, 3), (36, .iconst 1, 1), (37, .iadd, 1), (38, .putfield 25, 3), (41, .iconst 1, 1), (42, .ireturn, 1)] : List (Nat × Instr × Nat)).all (fun q => decide (decode cX8_readStop q.1 = .ok (q.2.1, q.2.2))) = true := by decide +kernel
theorem dX8_readStop_0 : decode cX8_readStop 0 = .ok (.aload_n 0, 1) := all_at dvX8_readStop_0 0 rfl
theorem dX8_readStop_1 : decode cX8_readStop 1 = .ok (.invokevirtual 37, 3) := all_at dvX8_readStop_0 1 rfl
theorem dX8_readStop_4 : decode cX8_readStop 4 = .ok (.ifCond .eq 17, 3) := all_at dvX8_readStop_0 2 rfl
theorem dX8_readStop_7 : decode cX8_readStop 7 = .ok (.aload_n 0, 1) := all_at dvX8_readStop_0 3 rfl
theorem dX8_readStop_8 : decode cX8_readStop 8 = .ok (.getfield 11, 3) := all_at dvX8_readStop_0 4 rfl
theorem dX8_readStop_11 : decode cX8_readStop 11 = .ok (.aload_n 0, 1) := all_at dvX8_readStop_0 5 rfl
theorem dX8_readStop_12 : decode cX8_readStop 12 = .ok (.getfield 25, 3) := all_at dvX8_readStop_0 6 rfl
theorem dX8_readStop_15 : decode cX8_readStop 15 = .ok (.baload, 1) := all_at dvX8_readStop_0 7 rfl
theorem dX8_readStop_16 : decode cX8_readStop 16 = .ok (.bipush 59, 2) := all_at dvX8_readStop_0 8 rfl
theorem dX8_readStop_18 : decode cX8_readStop 18 = .ok (.if_icmp .eq 13, 3) := all_at dvX8_readStop_0 9 rfl
theorem dX8_readStop_21 : decode cX8_readStop 21 = .ok (.aload_n 0, 1) := all_at dvX8_readStop_0 10 rfl
theorem dX8_readStop_22 : decode cX8_readStop 22 = .ok (.iconst 1, 1) := all_at dvX8_readStop_0 11 rfl
theorem dX8_readStop_23 : decode cX8_readStop 23 = .ok (.aload_n 0, 1) := all_at dvX8_readStop_0 12 rfl
theorem dX8_readStop_24 : decode cX8_readStop 24 = .ok (.getfield 25, 3) := all_at dvX8_readStop_0 13 rfl
theorem dX8_readStop_27 : decode cX8_readStop 27 = .ok (.invokevirtual 53, 3) := all_at dvX8_readStop_0 14 rfl
theorem dX8_readStop_30 : decode cX8_readStop 30 = .ok (.ireturn, 1) := all_at dvX8_readStop_0 15 rfl
theorem dX8_readStop_31 : decode cX8_readStop 31 = .ok (.aload_n 0, 1) := all_at dvX8_readStop_0 16 rfl
theorem dX8_readStop_32 : decode cX8_readStop 32 = .ok (.dup, 1) := all_at dvX8_readStop_0 17 rfl
theorem dX8_readStop_33 : decode cX8_readStop 33 = .ok (.getfield 25, 3) := all_at dvX8_readStop_0 18 rfl
theorem dX8_readStop_36 : decode cX8_readStop 36 = .ok (.iconst 1, 1) := all_at dvX8_readStop_0 19 rfl
theorem dX8_readStop_37 : decode cX8_readStop 37 = .ok (.iadd, 1) := all_at dvX8_readStop_0 20 rfl
theorem dX8_readStop_38 : decode cX8_readStop 38 = .ok (.putfield 25, 3) := all_at dvX8_readStop_0 21 rfl
theorem dX8_readStop_41 : decode cX8_readStop 41 = .ok (.iconst 1, 1) := all_at dvX8_readStop_0 22 rfl
theorem dX8_readStop_42 : decode cX8_readStop 42 = .ok (.ireturn, 1) := all_at dvX8_readStop_0 23 rfl
set_option maxRecDepth 100000 in
theorem dvX8_readStrike_0 : ([(0, .aload_n 0, 1), (1, .invokevirtual 37, 3), (4, .pop, 1), (5, .aload_n 0, 1), (6, .getfield 25, 3), (9, .istore_n 1, 1), (10, .aload_n 0, 1), (11, .iconst 0, 1), (12, .sipush 9999, 3), (15, .invokevirtual 78, 3), (18, .istore_n 2, 1), (19, .iload_n 2, 1), (20, .iconst (-1), 1), (21, .if_icmp .ne 5, 3), (24, .iconst 0, 1), (25, .ireturn, 1), (26, .iload_n 2, 1), (27, .aload_n 0, 1), (28, .getfield 28, 3), (31, .getfield 96, 3), (34, .if_icmp .lt 10, 3), (37, .aload_n 0, 1), (38, .iconst 3, 1), (39, .iload_n 1, 1)] : List (Nat × Instr × Nat)).all (fun q => decide (decode cX8_readStrike q.1 = .ok (q.2.1, q.2.2))) = true := by decide +kernel
theorem dX8_readStrike_0 : decode cX8_readStrike 0 = .ok (.aload_n 0, 1) := all_at dvX8_readStrike_0 0 rfl
theorem dX8_readStrike_1 : decode cX8_readStrike 1 = .ok (.invokevirtual 37, 3) := all_at dvX8_readStrike_0 1 rfl
theorem dX8_readStrike_4 : decode cX8_readStrike 4 = .ok (.pop, 1) := all_at dvX8_readStrike_0 2 rfl
theorem dX8_readStrike_5 : decode cX8_readStrike 5 = .ok (.aload_n 0, 1) := all_at dvX8_readStrike_0 3 rfl
theorem dX8_readStrike_6 : decode cX8_readStrike 6 = .ok (.getfield 25, 3) := all_at dvX8_readStrike_0 4 rfl
theorem dX8_readStrike_9 : decode cX8_readStrike 9 = .ok (.istore_n 1, 1) := all_at dvX8_readStrike_0 5 rfl
theorem dX8_readStrike_10 : decode cX8_readStrike 10 = .ok (.aload_n 0, 1) := all_at dvX8_readStrike_0 6 rfl
theorem dX8_readStrike_11 : decode cX8_readStrike 11 = .ok (.iconst 0, 1) := all_at dvX8_readStrike_0 7 rfl
theorem dX8_readStrike_12 : decode cX8_readStrike 12 = .ok (.sipush 9999, 3) := all_at dvX8_readStrike_0 8 rfl
theorem dX8_readStrike_15 : decode cX8_readStrike 15 = .ok (.invokevirtual 78, 3) := all_at dvX8_readStrike_0 9 rfl
theorem dX8_readStrike_18 : decode cX8_readStrike 18 = .ok (.istore_n 2, 1) := all_at dvX8_readStrike_0 10 rfl
theorem dX8_readStrike_19 : decode cX8_readStrike 19 = .ok (.iload_n 2, 1) := all_at dvX8_readStrike_0 11 rfl
theorem dX8_readStrike_20 : decode cX8_readStrike 20 = .ok (.iconst (-1), 1) := all_at dvX8_readStrike_0 12 rfl
theorem dX8_readStrike_21 : decode cX8_readStrike 21 = .ok (.if_icmp .ne 5, 3) := all_at dvX8_readStrike_0 13 rfl
theorem dX8_readStrike_24 : decode cX8_readStrike 24 = .ok (.iconst 0, 1) := all_at dvX8_readStrike_0 14 rfl
theorem dX8_readStrike_25 : decode cX8_readStrike 25 = .ok (.ireturn, 1) := all_at dvX8_readStrike_0 15 rfl
theorem dX8_readStrike_26 : decode cX8_readStrike 26 = .ok (.iload_n 2, 1) := all_at dvX8_readStrike_0 16 rfl
theorem dX8_readStrike_27 : decode cX8_readStrike 27 = .ok (.aload_n 0, 1) := all_at dvX8_readStrike_0 17 rfl
theorem dX8_readStrike_28 : decode cX8_readStrike 28 = .ok (.getfield 28, 3) := all_at dvX8_readStrike_0 18 rfl
theorem dX8_readStrike_31 : decode cX8_readStrike 31 = .ok (.getfield 96, 3) := all_at dvX8_readStrike_0 19 rfl
theorem dX8_readStrike_34 : decode cX8_readStrike 34 = .ok (.if_icmp .lt 10, 3) := all_at dvX8_readStrike_0 20 rfl
theorem dX8_readStrike_37 : decode cX8_readStrike 37 = .ok (.aload_n 0, 1) := all_at dvX8_readStrike_0 21 rfl
theorem dX8_readStrike_38 : decode cX8_readStrike 38 = .ok (.iconst 3, 1) := all_at dvX8_readStrike_0 22 rfl
theorem dX8_readStrike_39 : decode cX8_readStrike 39 = .ok (.iload_n 1, 1) := all_at dvX8_readStrike_0 23 rfl
set_option maxRecDepth 100000 in
theorem dvX8_readStrike_40 : ([(40, .invokevirtual 53, 3), (43, .ireturn, 1), (44, .aload_n 0, 1), (45, .invokevirtual 82, 3), (48, .ifCond .ne 5, 3), (51, .iconst 0, 1), (52, .ireturn, 1), (53, .aload_n 0, 1), (54, .getfield 28, 3), (57, .bipush 7, 2), (59, .iload_n 2, 1), (60, .iconst 0, 1), (61, .invokevirtual 85, 3), (64, .iconst 1, 1), (65, .ireturn, 1)] : List (Nat × Instr × Nat)).all (fun q => decide (decode cX8_readStrike q.1 = .ok (q.2.1, q.2.2))) = true := by decide +kernel
theorem dX8_readStrike_40 : decode cX8_readStrike 40 = .ok (.invokevirtual 53, 3) := all_at dvX8_readStrike_40 0 rfl
theorem dX8_readStrike_43 : decode cX8_readStrike 43 = .ok (.ireturn, 1) := all_at dvX8_readStrike_40 1 rfl
theorem dX8_readStrike_44 : decode cX8_readStrike 44 = .ok (.aload_n 0, 1) := all_at dvX8_readStrike_40 2 rfl
theorem dX8_readStrike_45 : decode cX8_readStrike 45 = .ok (.invokevirtual 82, 3) := all_at dvX8_readStrike_40 3 rfl
theorem dX8_readStrike_48 : decode cX8_readStrike 48 = .ok (.ifCond .ne 5, 3) := all_at dvX8_readStrike_40 4 rfl
theorem dX8_readStrike_51 : decode cX8_readStrike 51 = .ok (.iconst 0, 1) := all_at dvX8_readStrike_40 5 rfl
theorem dX8_readStrike_52 : decode cX8_readStrike 52 = .ok (.ireturn, 1) := all_at dvX8_readStrike_40 6 rfl
theorem dX8_readStrike_53 : decode cX8_readStrike 53 = .ok (.aload_n 0, 1) := all_at dvX8_readStrike_40 7 rfl
theorem dX8_readStrike_54 : decode cX8_readStrike 54 = .ok (.getfield 28, 3) := all_at dvX8_readStrike_40 8 rfl
theorem dX8_readStrike_57 : decode cX8_readStrike 57 = .ok (.bipush 7, 2) := all_at dvX8_readStrike_40 9 rfl
theorem dX8_readStrike_59 : decode cX8_readStrike 59 = .ok (.iload_n 2, 1) := all_at dvX8_readStrike_40 10 rfl
theorem dX8_readStrike_60 : decode cX8_readStrike 60 = .ok (.iconst 0, 1) := all_at dvX8_readStrike_40 11 rfl
theorem dX8_readStrike_61 : decode cX8_readStrike 61 = .ok (.invokevirtual 85, 3) := all_at dvX8_readStrike_40 12 rfl
theorem dX8_readStrike_64 : decode cX8_readStrike 64 = .ok (.iconst 1, 1) := all_at dvX8_readStrike_40 13 rfl
theorem dX8_readStrike_65 : decode cX8_readStrike 65 = .ok (.ireturn, 1) := all_at dvX8_readStrike_40 14 rfl
set_option maxRecDepth 100000 in
theorem dvX8_readTake_0 : ([(0, .aload_n 0, 1), (1, .ldc 89, 2), (3, .invokevirtual 46, 3), (6, .istore_n 1, 1), (7, .iload_n 1, 1), (8, .iconst (-1), 1), (9, .if_icmp .eq 10, 3), (12, .aload_n 0, 1), (13, .invokevirtual 82, 3), (16, .ifCond .ne 5, 3), (19, .iconst 0, 1), (20, .ireturn, 1), (21, .aload_n 0, 1), (22, .getfield 28, 3), (25, .iconst 5, 1), (26, .iload_n 1, 1), (27, .iconst 0, 1), (28, .invokevirtual 85, 3), (31, .iconst 1, 1), (32, .ireturn, 1)] : List (Nat × Instr × Nat)).all (fun q => decide (decode cX8_readTake q.1 = .ok (q.2.1, q.2.2))) = true := by decide +kernel
theorem dX8_readTake_0 : decode cX8_readTake 0 = .ok (.aload_n 0, 1) := all_at dvX8_readTake_0 0 rfl
theorem dX8_readTake_1 : decode cX8_readTake 1 = .ok (.ldc 89, 2) := all_at dvX8_readTake_0 1 rfl
theorem dX8_readTake_3 : decode cX8_readTake 3 = .ok (.invokevirtual 46, 3) := all_at dvX8_readTake_0 2 rfl
theorem dX8_readTake_6 : decode cX8_readTake 6 = .ok (.istore_n 1, 1) := all_at dvX8_readTake_0 3 rfl
theorem dX8_readTake_7 : decode cX8_readTake 7 = .ok (.iload_n 1, 1) := all_at dvX8_readTake_0 4 rfl
theorem dX8_readTake_8 : decode cX8_readTake 8 = .ok (.iconst (-1), 1) := all_at dvX8_readTake_0 5 rfl
theorem dX8_readTake_9 : decode cX8_readTake 9 = .ok (.if_icmp .eq 10, 3) := all_at dvX8_readTake_0 6 rfl
theorem dX8_readTake_12 : decode cX8_readTake 12 = .ok (.aload_n 0, 1) := all_at dvX8_readTake_0 7 rfl
theorem dX8_readTake_13 : decode cX8_readTake 13 = .ok (.invokevirtual 82, 3) := all_at dvX8_readTake_0 8 rfl
theorem dX8_readTake_16 : decode cX8_readTake 16 = .ok (.ifCond .ne 5, 3) := all_at dvX8_readTake_0 9 rfl
theorem dX8_readTake_19 : decode cX8_readTake 19 = .ok (.iconst 0, 1) := all_at dvX8_readTake_0 10 rfl
theorem dX8_readTake_20 : decode cX8_readTake 20 = .ok (.ireturn, 1) := all_at dvX8_readTake_0 11 rfl
theorem dX8_readTake_21 : decode cX8_readTake 21 = .ok (.aload_n 0, 1) := all_at dvX8_readTake_0 12 rfl
theorem dX8_readTake_22 : decode cX8_readTake 22 = .ok (.getfield 28, 3) := all_at dvX8_readTake_0 13 rfl
theorem dX8_readTake_25 : decode cX8_readTake 25 = .ok (.iconst 5, 1) := all_at dvX8_readTake_0 14 rfl
theorem dX8_readTake_26 : decode cX8_readTake 26 = .ok (.iload_n 1, 1) := all_at dvX8_readTake_0 15 rfl
theorem dX8_readTake_27 : decode cX8_readTake 27 = .ok (.iconst 0, 1) := all_at dvX8_readTake_0 16 rfl
theorem dX8_readTake_28 : decode cX8_readTake 28 = .ok (.invokevirtual 85, 3) := all_at dvX8_readTake_0 17 rfl
theorem dX8_readTake_31 : decode cX8_readTake 31 = .ok (.iconst 1, 1) := all_at dvX8_readTake_0 18 rfl
theorem dX8_readTake_32 : decode cX8_readTake 32 = .ok (.ireturn, 1) := all_at dvX8_readTake_0 19 rfl
set_option maxRecDepth 100000 in
theorem dvX8_readWord_0 : ([(0, .aload_n 0, 1), (1, .invokevirtual 37, 3), (4, .pop, 1), (5, .aload_n 0, 1), (6, .bipush 97, 2), (8, .bipush 122, 2), (10, .invokevirtual 99, 3), (13, .istore_n 1, 1), (14, .iload_n 1, 1), (15, .aload_n 0, 1), (16, .getfield 25, 3), (19, .if_icmp .ne 13, 3), (22, .aload_n 0, 1), (23, .iconst 1, 1), (24, .aload_n 0, 1), (25, .getfield 25, 3), (28, .invokevirtual 53, 3), (31, .ireturn, 1), (32, .iload_n 1, 1), (33, .aload_n 0, 1), (34, .getfield 25, 3), (37, .isub, 1), (38, .bipush 8, 2), (40, .if_icmp .le 13, 3)] : List (Nat × Instr × Nat)).all (fun q => decide (decode cX8_readWord q.1 = .ok (q.2.1, q.2.2))) = true := by decide +kernel
theorem dX8_readWord_0 : decode cX8_readWord 0 = .ok (.aload_n 0, 1) := all_at dvX8_readWord_0 0 rfl
theorem dX8_readWord_1 : decode cX8_readWord 1 = .ok (.invokevirtual 37, 3) := all_at dvX8_readWord_0 1 rfl
theorem dX8_readWord_4 : decode cX8_readWord 4 = .ok (.pop, 1) := all_at dvX8_readWord_0 2 rfl
theorem dX8_readWord_5 : decode cX8_readWord 5 = .ok (.aload_n 0, 1) := all_at dvX8_readWord_0 3 rfl
theorem dX8_readWord_6 : decode cX8_readWord 6 = .ok (.bipush 97, 2) := all_at dvX8_readWord_0 4 rfl
theorem dX8_readWord_8 : decode cX8_readWord 8 = .ok (.bipush 122, 2) := all_at dvX8_readWord_0 5 rfl
theorem dX8_readWord_10 : decode cX8_readWord 10 = .ok (.invokevirtual 99, 3) := all_at dvX8_readWord_0 6 rfl
theorem dX8_readWord_13 : decode cX8_readWord 13 = .ok (.istore_n 1, 1) := all_at dvX8_readWord_0 7 rfl
theorem dX8_readWord_14 : decode cX8_readWord 14 = .ok (.iload_n 1, 1) := all_at dvX8_readWord_0 8 rfl
theorem dX8_readWord_15 : decode cX8_readWord 15 = .ok (.aload_n 0, 1) := all_at dvX8_readWord_0 9 rfl
theorem dX8_readWord_16 : decode cX8_readWord 16 = .ok (.getfield 25, 3) := all_at dvX8_readWord_0 10 rfl
theorem dX8_readWord_19 : decode cX8_readWord 19 = .ok (.if_icmp .ne 13, 3) := all_at dvX8_readWord_0 11 rfl
theorem dX8_readWord_22 : decode cX8_readWord 22 = .ok (.aload_n 0, 1) := all_at dvX8_readWord_0 12 rfl
theorem dX8_readWord_23 : decode cX8_readWord 23 = .ok (.iconst 1, 1) := all_at dvX8_readWord_0 13 rfl
theorem dX8_readWord_24 : decode cX8_readWord 24 = .ok (.aload_n 0, 1) := all_at dvX8_readWord_0 14 rfl
theorem dX8_readWord_25 : decode cX8_readWord 25 = .ok (.getfield 25, 3) := all_at dvX8_readWord_0 15 rfl
theorem dX8_readWord_28 : decode cX8_readWord 28 = .ok (.invokevirtual 53, 3) := all_at dvX8_readWord_0 16 rfl
theorem dX8_readWord_31 : decode cX8_readWord 31 = .ok (.ireturn, 1) := all_at dvX8_readWord_0 17 rfl
theorem dX8_readWord_32 : decode cX8_readWord 32 = .ok (.iload_n 1, 1) := all_at dvX8_readWord_0 18 rfl
theorem dX8_readWord_33 : decode cX8_readWord 33 = .ok (.aload_n 0, 1) := all_at dvX8_readWord_0 19 rfl
theorem dX8_readWord_34 : decode cX8_readWord 34 = .ok (.getfield 25, 3) := all_at dvX8_readWord_0 20 rfl
theorem dX8_readWord_37 : decode cX8_readWord 37 = .ok (.isub, 1) := all_at dvX8_readWord_0 21 rfl
theorem dX8_readWord_38 : decode cX8_readWord 38 = .ok (.bipush 8, 2) := all_at dvX8_readWord_0 22 rfl
theorem dX8_readWord_40 : decode cX8_readWord 40 = .ok (.if_icmp .le 13, 3) := all_at dvX8_readWord_0 23 rfl
set_option maxRecDepth 100000 in
theorem dvX8_readWord_43 : ([(43, .aload_n 0, 1), (44, .iconst 4, 1), (45, .aload_n 0, 1), (46, .getfield 25, 3), (49, .invokevirtual 53, 3), (52, .ireturn, 1), (53, .aload_n 0, 1), (54, .getfield 28, 3), (57, .aload_n 0, 1), (58, .getfield 11, 3), (61, .aload_n 0, 1), (62, .getfield 25, 3), (65, .iload_n 1, 1), (66, .invokevirtual 103, 3), (69, .aload_n 0, 1), (70, .iload_n 1, 1), (71, .putfield 25, 3), (74, .iconst 1, 1), (75, .ireturn, 1)] : List (Nat × Instr × Nat)).all (fun q => decide (decode cX8_readWord q.1 = .ok (q.2.1, q.2.2))) = true := by decide +kernel
theorem dX8_readWord_43 : decode cX8_readWord 43 = .ok (.aload_n 0, 1) := all_at dvX8_readWord_43 0 rfl
theorem dX8_readWord_44 : decode cX8_readWord 44 = .ok (.iconst 4, 1) := all_at dvX8_readWord_43 1 rfl
theorem dX8_readWord_45 : decode cX8_readWord 45 = .ok (.aload_n 0, 1) := all_at dvX8_readWord_43 2 rfl
theorem dX8_readWord_46 : decode cX8_readWord 46 = .ok (.getfield 25, 3) := all_at dvX8_readWord_43 3 rfl
theorem dX8_readWord_49 : decode cX8_readWord 49 = .ok (.invokevirtual 53, 3) := all_at dvX8_readWord_43 4 rfl
theorem dX8_readWord_52 : decode cX8_readWord 52 = .ok (.ireturn, 1) := all_at dvX8_readWord_43 5 rfl
theorem dX8_readWord_53 : decode cX8_readWord 53 = .ok (.aload_n 0, 1) := all_at dvX8_readWord_43 6 rfl
theorem dX8_readWord_54 : decode cX8_readWord 54 = .ok (.getfield 28, 3) := all_at dvX8_readWord_43 7 rfl
theorem dX8_readWord_57 : decode cX8_readWord 57 = .ok (.aload_n 0, 1) := all_at dvX8_readWord_43 8 rfl
theorem dX8_readWord_58 : decode cX8_readWord 58 = .ok (.getfield 11, 3) := all_at dvX8_readWord_43 9 rfl
theorem dX8_readWord_61 : decode cX8_readWord 61 = .ok (.aload_n 0, 1) := all_at dvX8_readWord_43 10 rfl
theorem dX8_readWord_62 : decode cX8_readWord 62 = .ok (.getfield 25, 3) := all_at dvX8_readWord_43 11 rfl
theorem dX8_readWord_65 : decode cX8_readWord 65 = .ok (.iload_n 1, 1) := all_at dvX8_readWord_43 12 rfl
theorem dX8_readWord_66 : decode cX8_readWord 66 = .ok (.invokevirtual 103, 3) := all_at dvX8_readWord_43 13 rfl
theorem dX8_readWord_69 : decode cX8_readWord 69 = .ok (.aload_n 0, 1) := all_at dvX8_readWord_43 14 rfl
theorem dX8_readWord_70 : decode cX8_readWord 70 = .ok (.iload_n 1, 1) := all_at dvX8_readWord_43 15 rfl
theorem dX8_readWord_71 : decode cX8_readWord 71 = .ok (.putfield 25, 3) := all_at dvX8_readWord_43 16 rfl
theorem dX8_readWord_74 : decode cX8_readWord 74 = .ok (.iconst 1, 1) := all_at dvX8_readWord_43 17 rfl
theorem dX8_readWord_75 : decode cX8_readWord 75 = .ok (.ireturn, 1) := all_at dvX8_readWord_43 18 rfl
theorem sw_0_2 (x : Int32) : (x.toInt < 0 ∨ 2 < x.toInt) ∨ x = 0 ∨ x = 1 ∨ x = 2 := by
  by_cases h : x.toInt < 0 ∨ 2 < x.toInt
  · exact Or.inl h
  · right
    have h2 : x.toInt = 0 ∨ x.toInt = 1 ∨ x.toInt = 2 := by omega
    rcases h2 with h2 | h2 | h2
    · exact Or.inl (z_of (by decide) h2)
    · exact Or.inr (Or.inl (z_of (by decide) h2))
    · exact Or.inr (Or.inr (z_of (by decide) h2))
theorem nar01 {x : Int32} (h : 0 ≤ x.toInt ∧ x.toInt ≤ 1) : narrow .boolean (.int x) = .int x := by
  rcases (by omega : x.toInt = 0 ∨ x.toInt = 1) with h | h
  · rw [show x = 0 from z_of (by decide) h]; rfl
  · rw [show x = 1 from z_of (by decide) h]; rfl
