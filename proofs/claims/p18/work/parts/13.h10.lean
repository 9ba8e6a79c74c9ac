/-! ===== h10 ===== -/
theorem m_821 : Cond.methodLink RX11 210 yX1_has ∈ tb := mb_4_0 _ (List.mem_of_getElem? (i := 23) rfl)
theorem m_822 : Cond.instanceMethod yX1_has ∈ tb := mb_4_1 _ (List.mem_of_getElem? (i := 0) rfl)
theorem m_823 : Cond.selects RX1 yX1_has yX1_has ∈ tb := mb_4_1 _ (List.mem_of_getElem? (i := 1) rfl)
theorem m_824 : Cond.code yX1_has cX1_has 2 (some .boolean) ∈ tb := mb_4_1 _ (List.mem_of_getElem? (i := 2) rfl)
theorem m_825 : Cond.methodLink RX11 211 yX1_letterOf ∈ tb := mb_4_1 _ (List.mem_of_getElem? (i := 3) rfl)
theorem m_826 : Cond.instanceMethod yX1_letterOf ∈ tb := mb_4_1 _ (List.mem_of_getElem? (i := 4) rfl)
theorem m_827 : Cond.selects RX1 yX1_letterOf yX1_letterOf ∈ tb := mb_4_1 _ (List.mem_of_getElem? (i := 5) rfl)
theorem m_828 : Cond.code yX1_letterOf cX1_letterOf 5 (some .int) ∈ tb := mb_4_1 _ (List.mem_of_getElem? (i := 6) rfl)
theorem m_1087 : Cond.methodLink RX11 339 yX6_write ∈ tb := mb_5_2 _ (List.mem_of_getElem? (i := 0) rfl)
theorem m_1088 : Cond.instanceMethod yX6_write ∈ tb := mb_5_2 _ (List.mem_of_getElem? (i := 1) rfl)
theorem m_1089 : Cond.selects RX6 yX6_write yX6_write ∈ tb := mb_5_2 _ (List.mem_of_getElem? (i := 2) rfl)
theorem m_1090 : Cond.code yX6_write cX6_write 7 (some .int) ∈ tb := mb_5_2 _ (List.mem_of_getElem? (i := 3) rfl)
theorem hd_X1_has_v : yX1_has.cls = RX1 ∧ yX1_has.cls ≠ "java/lang/invoke/MethodHandle" ∧ yX1_has.cls ≠ "java/lang/invoke/VarHandle" ∧ (parseMethodDescriptor yX1_has.desc).map (fun d => d.parameters.length) = some 1 := by decide +kernel
theorem hd_X1_letterOf_v : yX1_letterOf.cls = RX1 ∧ yX1_letterOf.cls ≠ "java/lang/invoke/MethodHandle" ∧ yX1_letterOf.cls ≠ "java/lang/invoke/VarHandle" ∧ (parseMethodDescriptor yX1_letterOf.desc).map (fun d => d.parameters.length) = some 2 := by decide +kernel
theorem hd_X6_write_v : yX6_write.cls = RX6 ∧ yX6_write.cls ≠ "java/lang/invoke/MethodHandle" ∧ yX6_write.cls ≠ "java/lang/invoke/VarHandle" ∧ (parseMethodDescriptor yX6_write.desc).map (fun d => d.parameters.length) = some 5 := by decide +kernel
set_option maxRecDepth 100000 in
theorem dvX11_bill_11 : ([(11, .ldc 108, 2), (13, .ireturn, 1), (25, .ldc 93, 2), (27, .ireturn, 1), (64, .ldc 99, 2), (66, .ireturn, 1), (100, .ireturn, 1)] : List (Nat × Instr × Nat)).all (fun q => decide (decode cX11_bill q.1 = .ok (q.2.1, q.2.2))) = true := by decide +kernel
theorem dX11_bill_11 : decode cX11_bill 11 = .ok (.ldc 108, 2) := all_at dvX11_bill_11 0 rfl
theorem dX11_bill_13 : decode cX11_bill 13 = .ok (.ireturn, 1) := all_at dvX11_bill_11 1 rfl
theorem dX11_bill_25 : decode cX11_bill 25 = .ok (.ldc 93, 2) := all_at dvX11_bill_11 2 rfl
theorem dX11_bill_27 : decode cX11_bill 27 = .ok (.ireturn, 1) := all_at dvX11_bill_11 3 rfl
theorem dX11_bill_64 : decode cX11_bill 64 = .ok (.ldc 99, 2) := all_at dvX11_bill_11 4 rfl
theorem dX11_bill_66 : decode cX11_bill 66 = .ok (.ireturn, 1) := all_at dvX11_bill_11 5 rfl
theorem dX11_bill_100 : decode cX11_bill 100 = .ok (.ireturn, 1) := all_at dvX11_bill_11 6 rfl
set_option maxRecDepth 100000 in
theorem dvX11_cut_11 : ([(11, .ldc 108, 2), (13, .ireturn, 1), (93, .ldc 99, 2), (95, .ireturn, 1), (132, .istore 4, 2), (134, .aload_n 0, 1), (135, .getfield 81, 3), (138, .iconst 0, 1), (139, .aload_n 0, 1), (140, .getfield 81, 3), (143, .getfield 347, 3), (146, .iload_n 1, 1), (147, .iaload, 1), (148, .iload_n 3, 1), (149, .iload_n 1, 1), (150, .aload_n 0, 1), (151, .getfield 85, 3), (154, .invokevirtual 339, 3), (157, .pop, 1), (158, .iload 4, 2), (160, .ireturn, 1)] : List (Nat × Instr × Nat)).all (fun q => decide (decode cX11_cut q.1 = .ok (q.2.1, q.2.2))) = true := by decide +kernel
theorem dX11_cut_11 : decode cX11_cut 11 = .ok (.ldc 108, 2) := all_at dvX11_cut_11 0 rfl
theorem dX11_cut_13 : decode cX11_cut 13 = .ok (.ireturn, 1) := all_at dvX11_cut_11 1 rfl
theorem dX11_cut_93 : decode cX11_cut 93 = .ok (.ldc 99, 2) := all_at dvX11_cut_11 2 rfl
theorem dX11_cut_95 : decode cX11_cut 95 = .ok (.ireturn, 1) := all_at dvX11_cut_11 3 rfl
theorem dX11_cut_132 : decode cX11_cut 132 = .ok (.istore 4, 2) := all_at dvX11_cut_11 4 rfl
theorem dX11_cut_134 : decode cX11_cut 134 = .ok (.aload_n 0, 1) := all_at dvX11_cut_11 5 rfl
theorem dX11_cut_135 : decode cX11_cut 135 = .ok (.getfield 81, 3) := all_at dvX11_cut_11 6 rfl
theorem dX11_cut_138 : decode cX11_cut 138 = .ok (.iconst 0, 1) := all_at dvX11_cut_11 7 rfl
theorem dX11_cut_139 : decode cX11_cut 139 = .ok (.aload_n 0, 1) := all_at dvX11_cut_11 8 rfl
theorem dX11_cut_140 : decode cX11_cut 140 = .ok (.getfield 81, 3) := all_at dvX11_cut_11 9 rfl
theorem dX11_cut_143 : decode cX11_cut 143 = .ok (.getfield 347, 3) := all_at dvX11_cut_11 10 rfl
theorem dX11_cut_146 : decode cX11_cut 146 = .ok (.iload_n 1, 1) := all_at dvX11_cut_11 11 rfl
theorem dX11_cut_147 : decode cX11_cut 147 = .ok (.iaload, 1) := all_at dvX11_cut_11 12 rfl
theorem dX11_cut_148 : decode cX11_cut 148 = .ok (.iload_n 3, 1) := all_at dvX11_cut_11 13 rfl
theorem dX11_cut_149 : decode cX11_cut 149 = .ok (.iload_n 1, 1) := all_at dvX11_cut_11 14 rfl
theorem dX11_cut_150 : decode cX11_cut 150 = .ok (.aload_n 0, 1) := all_at dvX11_cut_11 15 rfl
theorem dX11_cut_151 : decode cX11_cut 151 = .ok (.getfield 85, 3) := all_at dvX11_cut_11 16 rfl
theorem dX11_cut_154 : decode cX11_cut 154 = .ok (.invokevirtual 339, 3) := all_at dvX11_cut_11 17 rfl
theorem dX11_cut_157 : decode cX11_cut 157 = .ok (.pop, 1) := all_at dvX11_cut_11 18 rfl
theorem dX11_cut_158 : decode cX11_cut 158 = .ok (.iload 4, 2) := all_at dvX11_cut_11 19 rfl
theorem dX11_cut_160 : decode cX11_cut 160 = .ok (.ireturn, 1) := all_at dvX11_cut_11 20 rfl
set_option maxRecDepth 100000 in
theorem dvX11_letter_0 : ([(0, .aload_n 0, 1), (1, .getfield 33, 3), (4, .iload_n 1, 1), (5, .invokevirtual 210, 3), (8, .ifCond .eq 15, 3), (11, .aload_n 0, 1), (12, .getfield 33, 3), (15, .iload_n 1, 1), (16, .iload_n 2, 1), (17, .invokevirtual 211, 3), (20, .goto 5, 3), (23, .ldc 108, 2), (25, .ireturn, 1)] : List (Nat × Instr × Nat)).all (fun q => decide (decode cX11_letter q.1 = .ok (q.2.1, q.2.2))) = true := by decide +kernel
theorem dX11_letter_0 : decode cX11_letter 0 = .ok (.aload_n 0, 1) := all_at dvX11_letter_0 0 rfl
theorem dX11_letter_1 : decode cX11_letter 1 = .ok (.getfield 33, 3) := all_at dvX11_letter_0 1 rfl
theorem dX11_letter_4 : decode cX11_letter 4 = .ok (.iload_n 1, 1) := all_at dvX11_letter_0 2 rfl
theorem dX11_letter_5 : decode cX11_letter 5 = .ok (.invokevirtual 210, 3) := all_at dvX11_letter_0 3 rfl
theorem dX11_letter_8 : decode cX11_letter 8 = .ok (.ifCond .eq 15, 3) := all_at dvX11_letter_0 4 rfl
theorem dX11_letter_11 : decode cX11_letter 11 = .ok (.aload_n 0, 1) := all_at dvX11_letter_0 5 rfl
theorem dX11_letter_12 : decode cX11_letter 12 = .ok (.getfield 33, 3) := all_at dvX11_letter_0 6 rfl
theorem dX11_letter_15 : decode cX11_letter 15 = .ok (.iload_n 1, 1) := all_at dvX11_letter_0 7 rfl
theorem dX11_letter_16 : decode cX11_letter 16 = .ok (.iload_n 2, 1) := all_at dvX11_letter_0 8 rfl
theorem dX11_letter_17 : decode cX11_letter 17 = .ok (.invokevirtual 211, 3) := all_at dvX11_letter_0 9 rfl
theorem dX11_letter_20 : decode cX11_letter 20 = .ok (.goto 5, 3) := all_at dvX11_letter_0 10 rfl
theorem dX11_letter_23 : decode cX11_letter 23 = .ok (.ldc 108, 2) := all_at dvX11_letter_0 11 rfl
theorem dX11_letter_25 : decode cX11_letter 25 = .ok (.ireturn, 1) := all_at dvX11_letter_0 12 rfl
set_option maxRecDepth 100000 in
theorem dvX1_has_0 : ([(0, .iload_n 1, 1), (1, .ifCond .lt 34, 3), (4, .iload_n 1, 1), (5, .bipush 100, 2), (7, .idiv, 1), (8, .aload_n 0, 1), (9, .getfield 35, 3), (12, .if_icmp .ge 23, 3), (15, .iload_n 1, 1), (16, .bipush 100, 2), (18, .irem, 1), (19, .aload_n 0, 1), (20, .getfield 15, 3), (23, .iload_n 1, 1), (24, .bipush 100, 2), (26, .idiv, 1), (27, .iaload, 1), (28, .if_icmp .ge 7, 3), (31, .iconst 1, 1), (32, .goto 4, 3), (35, .iconst 0, 1), (36, .ireturn, 1)] : List (Nat × Instr × Nat)).all (fun q => decide (decode cX1_has q.1 = .ok (q.2.1, q.2.2))) = true := by decide +kernel
theorem dX1_has_0 : decode cX1_has 0 = .ok (.iload_n 1, 1) := all_at dvX1_has_0 0 rfl
theorem dX1_has_1 : decode cX1_has 1 = .ok (.ifCond .lt 34, 3) := all_at dvX1_has_0 1 rfl
theorem dX1_has_4 : decode cX1_has 4 = .ok (.iload_n 1, 1) := all_at dvX1_has_0 2 rfl
theorem dX1_has_5 : decode cX1_has 5 = .ok (.bipush 100, 2) := all_at dvX1_has_0 3 rfl
theorem dX1_has_7 : decode cX1_has 7 = .ok (.idiv, 1) := all_at dvX1_has_0 4 rfl
theorem dX1_has_8 : decode cX1_has 8 = .ok (.aload_n 0, 1) := all_at dvX1_has_0 5 rfl
theorem dX1_has_9 : decode cX1_has 9 = .ok (.getfield 35, 3) := all_at dvX1_has_0 6 rfl
theorem dX1_has_12 : decode cX1_has 12 = .ok (.if_icmp .ge 23, 3) := all_at dvX1_has_0 7 rfl
theorem dX1_has_15 : decode cX1_has 15 = .ok (.iload_n 1, 1) := all_at dvX1_has_0 8 rfl
theorem dX1_has_16 : decode cX1_has 16 = .ok (.bipush 100, 2) := all_at dvX1_has_0 9 rfl
theorem dX1_has_18 : decode cX1_has 18 = .ok (.irem, 1) := all_at dvX1_has_0 10 rfl
theorem dX1_has_19 : decode cX1_has 19 = .ok (.aload_n 0, 1) := all_at dvX1_has_0 11 rfl
theorem dX1_has_20 : decode cX1_has 20 = .ok (.getfield 15, 3) := all_at dvX1_has_0 12 rfl
theorem dX1_has_23 : decode cX1_has 23 = .ok (.iload_n 1, 1) := all_at dvX1_has_0 13 rfl
theorem dX1_has_24 : decode cX1_has 24 = .ok (.bipush 100, 2) := all_at dvX1_has_0 14 rfl
theorem dX1_has_26 : decode cX1_has 26 = .ok (.idiv, 1) := all_at dvX1_has_0 15 rfl
theorem dX1_has_27 : decode cX1_has 27 = .ok (.iaload, 1) := all_at dvX1_has_0 16 rfl
theorem dX1_has_28 : decode cX1_has 28 = .ok (.if_icmp .ge 7, 3) := all_at dvX1_has_0 17 rfl
theorem dX1_has_31 : decode cX1_has 31 = .ok (.iconst 1, 1) := all_at dvX1_has_0 18 rfl
theorem dX1_has_32 : decode cX1_has 32 = .ok (.goto 4, 3) := all_at dvX1_has_0 19 rfl
theorem dX1_has_35 : decode cX1_has 35 = .ok (.iconst 0, 1) := all_at dvX1_has_0 20 rfl
theorem dX1_has_36 : decode cX1_has 36 = .ok (.ireturn, 1) := all_at dvX1_has_0 21 rfl
set_option maxRecDepth 100000 in
theorem dvX1_letterOf_0 : ([(0, .iload_n 1, 1), (1, .bipush 100, 2), (3, .idiv, 1), (4, .bipush 12, 2), (6, .imul, 1), (7, .iload_n 1, 1), (8, .bipush 100, 2), (10, .irem, 1), (11, .iadd, 1), (12, .istore_n 3, 1), (13, .aload_n 0, 1), (14, .getfield 18, 3), (17, .iload_n 3, 1), (18, .iaload, 1), (19, .bipush 6, 2), (21, .if_icmp .ne 13, 3), (24, .iload_n 2, 1), (25, .ifCond .lt 9, 3), (28, .iload_n 2, 1), (29, .bipush 8, 2), (31, .if_icmp .lt 5, 3), (34, .iconst (-1), 1), (35, .ireturn, 1), (36, .aload_n 0, 1)] : List (Nat × Instr × Nat)).all (fun q => decide (decode cX1_letterOf q.1 = .ok (q.2.1, q.2.2))) = true := by decide +kernel
theorem dX1_letterOf_0 : decode cX1_letterOf 0 = .ok (.iload_n 1, 1) := all_at dvX1_letterOf_0 0 rfl
theorem dX1_letterOf_1 : decode cX1_letterOf 1 = .ok (.bipush 100, 2) := all_at dvX1_letterOf_0 1 rfl
theorem dX1_letterOf_3 : decode cX1_letterOf 3 = .ok (.idiv, 1) := all_at dvX1_letterOf_0 2 rfl
theorem dX1_letterOf_4 : decode cX1_letterOf 4 = .ok (.bipush 12, 2) := all_at dvX1_letterOf_0 3 rfl
theorem dX1_letterOf_6 : decode cX1_letterOf 6 = .ok (.imul, 1) := all_at dvX1_letterOf_0 4 rfl
theorem dX1_letterOf_7 : decode cX1_letterOf 7 = .ok (.iload_n 1, 1) := all_at dvX1_letterOf_0 5 rfl
theorem dX1_letterOf_8 : decode cX1_letterOf 8 = .ok (.bipush 100, 2) := all_at dvX1_letterOf_0 6 rfl
theorem dX1_letterOf_10 : decode cX1_letterOf 10 = .ok (.irem, 1) := all_at dvX1_letterOf_0 7 rfl
theorem dX1_letterOf_11 : decode cX1_letterOf 11 = .ok (.iadd, 1) := all_at dvX1_letterOf_0 8 rfl
theorem dX1_letterOf_12 : decode cX1_letterOf 12 = .ok (.istore_n 3, 1) := all_at dvX1_letterOf_0 9 rfl
theorem dX1_letterOf_13 : decode cX1_letterOf 13 = .ok (.aload_n 0, 1) := all_at dvX1_letterOf_0 10 rfl
theorem dX1_letterOf_14 : decode cX1_letterOf 14 = .ok (.getfield 18, 3) := all_at dvX1_letterOf_0 11 rfl
theorem dX1_letterOf_17 : decode cX1_letterOf 17 = .ok (.iload_n 3, 1) := all_at dvX1_letterOf_0 12 rfl
theorem dX1_letterOf_18 : decode cX1_letterOf 18 = .ok (.iaload, 1) := all_at dvX1_letterOf_0 13 rfl
theorem dX1_letterOf_19 : decode cX1_letterOf 19 = .ok (.bipush 6, 2) := all_at dvX1_letterOf_0 14 rfl
theorem dX1_letterOf_21 : decode cX1_letterOf 21 = .ok (.if_icmp .ne 13, 3) := all_at dvX1_letterOf_0 15 rfl
theorem dX1_letterOf_24 : decode cX1_letterOf 24 = .ok (.iload_n 2, 1) := all_at dvX1_letterOf_0 16 rfl
theorem dX1_letterOf_25 : decode cX1_letterOf 25 = .ok (.ifCond .lt 9, 3) := all_at dvX1_letterOf_0 17 rfl
theorem dX1_letterOf_28 : decode cX1_letterOf 28 = .ok (.iload_n 2, 1) := all_at dvX1_letterOf_0 18 rfl
theorem dX1_letterOf_29 : decode cX1_letterOf 29 = .ok (.bipush 8, 2) := all_at dvX1_letterOf_0 19 rfl
theorem dX1_letterOf_31 : decode cX1_letterOf 31 = .ok (.if_icmp .lt 5, 3) := all_at dvX1_letterOf_0 20 rfl
theorem dX1_letterOf_34 : decode cX1_letterOf 34 = .ok (.iconst (-1), 1) := all_at dvX1_letterOf_0 21 rfl
theorem dX1_letterOf_35 : decode cX1_letterOf 35 = .ok (.ireturn, 1) := all_at dvX1_letterOf_0 22 rfl
theorem dX1_letterOf_36 : decode cX1_letterOf 36 = .ok (.aload_n 0, 1) := all_at dvX1_letterOf_0 23 rfl
set_option maxRecDepth 100000 in
theorem dvX1_letterOf_37 : ([(37, .getfield 27, 3), (40, .iload_n 3, 1), (41, .bipush 8, 2), (43, .imul, 1), (44, .iload_n 2, 1), (45, .iadd, 1), (46, .baload, 1), (47, .istore 4, 2), (49, .iload 4, 2), (51, .ifCond .ne 7, 3), (54, .iconst (-1), 1), (55, .goto 5, 3), (58, .iload 4, 2), (60, .ireturn, 1)] : List (Nat × Instr × Nat)).all (fun q => decide (decode cX1_letterOf q.1 = .ok (q.2.1, q.2.2))) = true := by decide +kernel
theorem dX1_letterOf_37 : decode cX1_letterOf 37 = .ok (.getfield 27, 3) := all_at dvX1_letterOf_37 0 rfl
theorem dX1_letterOf_40 : decode cX1_letterOf 40 = .ok (.iload_n 3, 1) := all_at dvX1_letterOf_37 1 rfl
theorem dX1_letterOf_41 : decode cX1_letterOf 41 = .ok (.bipush 8, 2) := all_at dvX1_letterOf_37 2 rfl
theorem dX1_letterOf_43 : decode cX1_letterOf 43 = .ok (.imul, 1) := all_at dvX1_letterOf_37 3 rfl
theorem dX1_letterOf_44 : decode cX1_letterOf 44 = .ok (.iload_n 2, 1) := all_at dvX1_letterOf_37 4 rfl
theorem dX1_letterOf_45 : decode cX1_letterOf 45 = .ok (.iadd, 1) := all_at dvX1_letterOf_37 5 rfl
theorem dX1_letterOf_46 : decode cX1_letterOf 46 = .ok (.baload, 1) := all_at dvX1_letterOf_37 6 rfl
theorem dX1_letterOf_47 : decode cX1_letterOf 47 = .ok (.istore 4, 2) := all_at dvX1_letterOf_37 7 rfl
theorem dX1_letterOf_49 : decode cX1_letterOf 49 = .ok (.iload 4, 2) := all_at dvX1_letterOf_37 8 rfl
theorem dX1_letterOf_51 : decode cX1_letterOf 51 = .ok (.ifCond .ne 7, 3) := all_at dvX1_letterOf_37 9 rfl
theorem dX1_letterOf_54 : decode cX1_letterOf 54 = .ok (.iconst (-1), 1) := all_at dvX1_letterOf_37 10 rfl
theorem dX1_letterOf_55 : decode cX1_letterOf 55 = .ok (.goto 5, 3) := all_at dvX1_letterOf_37 11 rfl
theorem dX1_letterOf_58 : decode cX1_letterOf 58 = .ok (.iload 4, 2) := all_at dvX1_letterOf_37 12 rfl
theorem dX1_letterOf_60 : decode cX1_letterOf 60 = .ok (.ireturn, 1) := all_at dvX1_letterOf_37 13 rfl
set_option maxHeartbeats 4000000 in
set_option maxRecDepth 100000 in
/-- X6_hasRoom -/
theorem c_X6_hasRoom_b (l : Launch) (dC : Nat → ClassId) (dI : Nat → Nat → Nat) (h : Nat) (g : Nat → Nat → Nat) (ca : Nat → Nat → ClassId) (iv : Nat → Nat → Int32) (lv : Nat → Nat → Int64) (fa : Nat → Nat → Nat → Int32) (la : Nat → Nat → Nat → Int64) (hI : IX iv fa) (a : Int32) (h_a : 0 ≤ a.toInt ∧ a.toInt ≤ 2) : Met l yX6_hasRoom (wc yX6_hasRoom cX6_hasRoom 2 (some .boolean)) ({ frames := 0, cells := 0, slots := 0, locals := 0 } : Room) (pR (dC, dI) classes (WX h g ca iv lv fa la) (TX ca) [.ref (g 11 9), .int a]) (vp_Si (fun r => (r = 1 ∧ ((iv 6 7).toInt + a.toInt ≤ 40)) ∨ (r = 0 ∧ ¬ ((iv 6 7).toInt + a.toInt ≤ 40)))) 0 0 (fun _ => False) := by
  refine Met.ofW (cc := cX6_hasRoom) (maxL := 2) (ret := (some .boolean)) (by decide) rfl ?_
  intro p e s m args below meth c s₁ B hml hv
  obtain ⟨rfl, hP, hK⟩ := hv
  have hx := B.exec
  have hb := B.bytes
  have hr := B.returns
  have ht := tb_tl (atoms_spec (ws := wc yX6_hasRoom cX6_hasRoom 2 (some .boolean)) B.pre)
  have hown : s.vm.findClass RX6 = some m.cls := findClass_of_methodNamed B.named
  have hlocks := B.notSynchronized
  have hl := lv_entry [.ref (g 11 9), .int a] (n := 2) (Nat.le_of_ble_eq_true rfl)
  rw [lg_entry_eq]
  generalize (lg_sl [.ref (g 11 9), .int a] ++ List.replicate (2 - (lg_sl [.ref (g 11 9), .int a]).length) Slot.unset).toArray = ls at hl ⊢
  have hl : lv_has ls 2 [(0, .ref (g 11 9)), (1, .int a)] := hl
  refine lv_aload_n hx hb dX6_hasRoom_0 rfl (lv_at hl 0 rfl) ?_
  have i_6_7 : 0 ≤ (iv 6 7).toInt ∧ (iv 6 7).toInt ≤ 40 := hI.1 6 7
  refine gX_6_7 hx hb ht hown hK hP m_396 (v := (iv 6 7)) rfl dX6_hasRoom_1 ?_
  refine lv_iload_n hx hb dX6_hasRoom_4 rfl (lv_at hl 1 rfl) ?_
  refine lv_iadd hx hb dX6_hasRoom_5 ?_
  refine lv_topi (fun v1 ev1 => ?_)
  have tv1 := z_add ev1 (rfl : ((iv 6 7)).toInt = _) (rfl : (a).toInt = _) (by omega) (by omega)
  refine lv_bipush (v := 40) hx hb dX6_hasRoom_6 (by decide) ?_
  refine lv_icmp_gt (tgt := 15) hx hb dX6_hasRoom_8 (by decide) (fun c2 => ?_) (fun c2 => ?_)
  · have fc2 := z_lt (by decide : (40 : Int32).toInt = 40) (rfl : (v1).toInt = _) c2
    refine lv_iconst (v := 0) hx hb dX6_hasRoom_15 (by decide) ?_
    exact W.zret (v := 0) hx hb hr rfl (fun t ht9 hW => ⟨0, rfl, Or.inr ⟨rfl, by omega⟩, ht9⟩) (fun q hq => by cases hq) dX6_hasRoom_16
  · have fc2 := z_nlt (by decide : (40 : Int32).toInt = 40) (rfl : (v1).toInt = _) c2
    refine lv_iconst (v := 1) hx hb dX6_hasRoom_11 (by decide) ?_
    refine lv_goto (tgt := 16) hx hb dX6_hasRoom_12 (by decide) ?_
    exact W.zret (v := 1) hx hb hr rfl (fun t ht9 hW => ⟨1, rfl, Or.inl ⟨rfl, by omega⟩, ht9⟩) (fun q hq => by cases hq) dX6_hasRoom_16
set_option maxHeartbeats 4000000 in
set_option maxRecDepth 100000 in
/-- X1_has -/
theorem c_X1_has (l : Launch) (dC : Nat → ClassId) (dI : Nat → Nat → Nat) (h : Nat) (g : Nat → Nat → Nat) (ca : Nat → Nat → ClassId) (iv : Nat → Nat → Int32) (lv : Nat → Nat → Int64) (fa : Nat → Nat → Nat → Int32) (la : Nat → Nat → Nat → Int64) (hI : IX iv fa) (a : Int32) : Met l yX1_has (wc yX1_has cX1_has 2 (some .boolean)) ({ frames := 0, cells := 0, slots := 0, locals := 0 } : Room) (pR (dC, dI) classes (WX h g ca iv lv fa la) (TX ca) [.ref (g 11 3), .int a]) (vp_Si (fun r => (r = 1 ∧ (0 ≤ a.toInt ∧ a.toInt / 100 ≤ 7 ∧ a.toInt % 100 ≤ 11)) ∨ r = 0)) 0 0 (fun _ => False) := by
  refine Met.ofW (cc := cX1_has) (maxL := 2) (ret := (some .boolean)) (by decide) rfl ?_
  intro p e s m args below meth c s₁ B hml hv
  obtain ⟨rfl, hP, hK⟩ := hv
  have hx := B.exec
  have hb := B.bytes
  have hr := B.returns
  have ht := tb_tl (atoms_spec (ws := wc yX1_has cX1_has 2 (some .boolean)) B.pre)
  have hown : s.vm.findClass RX1 = some m.cls := findClass_of_methodNamed B.named
  have hlocks := B.notSynchronized
  have hl := lv_entry [.ref (g 11 3), .int a] (n := 2) (Nat.le_of_ble_eq_true rfl)
  rw [lg_entry_eq]
  generalize (lg_sl [.ref (g 11 3), .int a] ++ List.replicate (2 - (lg_sl [.ref (g 11 3), .int a]).length) Slot.unset).toArray = ls at hl ⊢
  have hl : lv_has ls 2 [(0, .ref (g 11 3)), (1, .int a)] := hl
  refine lv_iload_n hx hb dX1_has_0 rfl (lv_at hl 1 rfl) ?_
  refine lv_if_lt (tgt := 35) hx hb dX1_has_1 (by decide) (fun c1 => ?_) (fun c1 => ?_)
  · have fc1 := z_lt (rfl : (a).toInt = _) (by decide : (0 : Int32).toInt = 0) c1
    refine lv_iconst (v := 0) hx hb dX1_has_35 (by decide) ?_
    exact W.zret (v := 0) hx hb hr rfl (fun t ht9 hW => ⟨0, rfl, Or.inr rfl, ht9⟩) (fun q hq => by cases hq) dX1_has_36
  · have fc1 := z_nlt (rfl : (a).toInt = _) (by decide : (0 : Int32).toInt = 0) c1
    refine lv_iload_n hx hb dX1_has_4 rfl (lv_at hl 1 rfl) ?_
    refine lv_bipush (v := 100) hx hb dX1_has_5 (by decide) ?_
    refine lv_idiv hx hb dX1_has_7 (by decide) ?_
    refine lv_topi (fun v2 ev2 => ?_)
    have tv2 := z_divp ev2 (rfl : (a).toInt = _) (by decide : (100 : Int32).toInt = 100) (by omega) (by omega)
    refine lv_aload_n hx hb dX1_has_8 rfl (lv_at hl 0 rfl) ?_
    have i_1_7 : 0 ≤ (iv 1 7).toInt ∧ (iv 1 7).toInt ≤ 8 := hI.1 1 7
    refine gX_1_7 hx hb ht hown hK hP m_196 (v := (iv 1 7)) rfl dX1_has_9 ?_
    refine lv_icmp_ge (tgt := 35) hx hb dX1_has_12 (by decide) (fun c3 => ?_) (fun c3 => ?_)
    · have fc3 := z_le (rfl : ((iv 1 7)).toInt = _) (rfl : (v2).toInt = _) c3
      refine lv_iconst (v := 0) hx hb dX1_has_35 (by decide) ?_
      exact W.zret (v := 0) hx hb hr rfl (fun t ht9 hW => ⟨0, rfl, Or.inr rfl, ht9⟩) (fun q hq => by cases hq) dX1_has_36
    · have fc3 := z_nle (rfl : ((iv 1 7)).toInt = _) (rfl : (v2).toInt = _) c3
      refine lv_iload_n hx hb dX1_has_15 rfl (lv_at hl 1 rfl) ?_
      refine lv_bipush (v := 100) hx hb dX1_has_16 (by decide) ?_
      refine lv_irem hx hb dX1_has_18 (by decide) ?_
      refine lv_topi (fun v4 ev4 => ?_)
      have tv4 := z_remp ev4 (rfl : (a).toInt = _) (by decide : (100 : Int32).toInt = 100) (by omega) (by omega)
      refine lv_aload_n hx hb dX1_has_19 rfl (lv_at hl 0 rfl) ?_
      refine gX_1_1 hx hb ht hown hK hP m_190 dX1_has_20 ?_
      refine lv_iload_n hx hb dX1_has_23 rfl (lv_at hl 1 rfl) ?_
      refine lv_bipush (v := 100) hx hb dX1_has_24 (by decide) ?_
      refine lv_idiv hx hb dX1_has_26 (by decide) ?_
      refine lv_topi (fun v5 ev5 => ?_)
      obtain rfl : v2 = v5 := ev2.trans ev5.symm
      refine lX_1_1 hx hb hK hP (f := (fa 1 1)) rfl (vp_in_iff.mpr ⟨by omega, by omega⟩) dX1_has_27 ?_
      refine lv_topi (fun v6 ev6 => ?_)
      have tv6 : 0 ≤ v6.toInt ∧ v6.toInt ≤ 12 := by rw [ev6]; exact hI.2 1 1 _
      refine lv_icmp_ge (tgt := 35) hx hb dX1_has_28 (by decide) (fun c7 => ?_) (fun c7 => ?_)
      · have fc7 := z_le (rfl : (v6).toInt = _) (rfl : (v4).toInt = _) c7
        refine lv_iconst (v := 0) hx hb dX1_has_35 (by decide) ?_
        exact W.zret (v := 0) hx hb hr rfl (fun t ht9 hW => ⟨0, rfl, Or.inr rfl, ht9⟩) (fun q hq => by cases hq) dX1_has_36
      · have fc7 := z_nle (rfl : (v6).toInt = _) (rfl : (v4).toInt = _) c7
        refine lv_iconst (v := 1) hx hb dX1_has_31 (by decide) ?_
        refine lv_goto (tgt := 36) hx hb dX1_has_32 (by decide) ?_
        exact W.zret (v := 1) hx hb hr rfl (fun t ht9 hW => ⟨1, rfl, Or.inl ⟨rfl, by omega⟩, ht9⟩) (fun q hq => by cases hq) dX1_has_36
set_option maxHeartbeats 4000000 in
set_option maxRecDepth 100000 in
/-- X1_letterOf -/
theorem c_X1_letterOf (l : Launch) (dC : Nat → ClassId) (dI : Nat → Nat → Nat) (h : Nat) (g : Nat → Nat → Nat) (ca : Nat → Nat → ClassId) (iv : Nat → Nat → Int32) (lv : Nat → Nat → Int64) (fa : Nat → Nat → Nat → Int32) (la : Nat → Nat → Nat → Int64) (hI : IX iv fa) (a : Int32) (b : Int32) (h_a : 0 ≤ a.toInt ∧ a.toInt ≤ 799) (hq : a.toInt / 100 ≤ 7 ∧ a.toInt % 100 ≤ 11) : Met l yX1_letterOf (wc yX1_letterOf cX1_letterOf 5 (some .int)) ({ frames := 0, cells := 0, slots := 0, locals := 0 } : Room) (pR (dC, dI) classes (WX h g ca iv lv fa la) (TX ca) [.ref (g 11 3), .int a, .int b]) (vp_Si (fun r => True)) 0 0 (fun _ => False) := by
  refine Met.ofW (cc := cX1_letterOf) (maxL := 5) (ret := (some .int)) (by decide) rfl ?_
  intro p e s m args below meth c s₁ B hml hv
  obtain ⟨rfl, hP, hK⟩ := hv
  have hx := B.exec
  have hb := B.bytes
  have hr := B.returns
  have ht := tb_tl (atoms_spec (ws := wc yX1_letterOf cX1_letterOf 5 (some .int)) B.pre)
  have hown : s.vm.findClass RX1 = some m.cls := findClass_of_methodNamed B.named
  have hlocks := B.notSynchronized
  have hl := lv_entry [.ref (g 11 3), .int a, .int b] (n := 5) (Nat.le_of_ble_eq_true rfl)
  rw [lg_entry_eq]
  generalize (lg_sl [.ref (g 11 3), .int a, .int b] ++ List.replicate (5 - (lg_sl [.ref (g 11 3), .int a, .int b]).length) Slot.unset).toArray = ls at hl ⊢
  have hl : lv_has ls 5 [(0, .ref (g 11 3)), (1, .int a), (2, .int b)] := hl
  refine lv_iload_n hx hb dX1_letterOf_0 rfl (lv_at hl 1 rfl) ?_
  refine lv_bipush (v := 100) hx hb dX1_letterOf_1 (by decide) ?_
  refine lv_idiv hx hb dX1_letterOf_3 (by decide) ?_
  refine lv_topi (fun v1 ev1 => ?_)
  have tv1 := z_divp ev1 (rfl : (a).toInt = _) (by decide : (100 : Int32).toInt = 100) (by omega) (by omega)
  refine lv_bipush (v := 12) hx hb dX1_letterOf_4 (by decide) ?_
  refine lv_imul hx hb dX1_letterOf_6 ?_
  refine lv_topi (fun v2 ev2 => ?_)
  have tv2 := z_mul ev2 (rfl : (v1).toInt = _) (by decide : (12 : Int32).toInt = 12) (by omega) (by omega)
  refine lv_iload_n hx hb dX1_letterOf_7 rfl (lv_at hl 1 rfl) ?_
  refine lv_bipush (v := 100) hx hb dX1_letterOf_8 (by decide) ?_
  refine lv_irem hx hb dX1_letterOf_10 (by decide) ?_
  refine lv_topi (fun v3 ev3 => ?_)
  have tv3 := z_remp ev3 (rfl : (a).toInt = _) (by decide : (100 : Int32).toInt = 100) (by omega) (by omega)
  refine lv_iadd hx hb dX1_letterOf_11 ?_
  refine lv_topi (fun v4 ev4 => ?_)
  have tv4 := z_add ev4 (rfl : (v2).toInt = _) (rfl : (v3).toInt = _) (by omega) (by omega)
  refine lv_istore_n (lv' := [(3, .int v4), (0, .ref (g 11 3)), (1, .int a), (2, .int b)]) hx hb dX1_letterOf_12 rfl hl (by decide) rfl (fun ls hl => ?_)
  refine lv_aload_n hx hb dX1_letterOf_13 rfl (lv_at hl 1 rfl) ?_
  refine gX_1_2 hx hb ht hown hK hP m_191 dX1_letterOf_14 ?_
  refine lv_iload_n hx hb dX1_letterOf_17 rfl (lv_at hl 0 rfl) ?_
  refine lX_1_2 hx hb hK hP (f := (fa 1 2)) rfl (vp_in_iff.mpr ⟨by omega, by omega⟩) dX1_letterOf_18 ?_
  refine lv_topi (fun v5 ev5 => ?_)
  refine lv_bipush (v := 6) hx hb dX1_letterOf_19 (by decide) ?_
  refine lv_icmp_ne (tgt := 34) hx hb dX1_letterOf_21 (by decide) (fun c6 => ?_) (fun c6 => ?_)
  · have fc6 := z_ne (rfl : (v5).toInt = _) (by decide : (6 : Int32).toInt = 6) c6
    refine lv_iconst (v := (-1)) hx hb dX1_letterOf_34 (by decide) ?_
    exact W.iret (v := (-1)) hx hb hr (fun t ht9 hW => ⟨(-1), rfl, trivial, ht9⟩) (fun q hq => by cases hq) dX1_letterOf_35
  · have fc6 := z_eq (rfl : (v5).toInt = _) (by decide : (6 : Int32).toInt = 6) c6
    refine lv_iload_n hx hb dX1_letterOf_24 rfl (lv_at hl 3 rfl) ?_
    refine lv_if_lt (tgt := 34) hx hb dX1_letterOf_25 (by decide) (fun c7 => ?_) (fun c7 => ?_)
    · have fc7 := z_lt (rfl : (b).toInt = _) (by decide : (0 : Int32).toInt = 0) c7
      refine lv_iconst (v := (-1)) hx hb dX1_letterOf_34 (by decide) ?_
      exact W.iret (v := (-1)) hx hb hr (fun t ht9 hW => ⟨(-1), rfl, trivial, ht9⟩) (fun q hq => by cases hq) dX1_letterOf_35
    · have fc7 := z_nlt (rfl : (b).toInt = _) (by decide : (0 : Int32).toInt = 0) c7
      refine lv_iload_n hx hb dX1_letterOf_28 rfl (lv_at hl 3 rfl) ?_
      refine lv_bipush (v := 8) hx hb dX1_letterOf_29 (by decide) ?_
      refine lv_icmp_lt (tgt := 36) hx hb dX1_letterOf_31 (by decide) (fun c8 => ?_) (fun c8 => ?_)
      · have fc8 := z_lt (rfl : (b).toInt = _) (by decide : (8 : Int32).toInt = 8) c8
        refine lv_aload_n hx hb dX1_letterOf_36 rfl (lv_at hl 1 rfl) ?_
        refine gX_1_5 hx hb ht hown hK hP m_194 dX1_letterOf_37 ?_
        refine lv_iload_n hx hb dX1_letterOf_40 rfl (lv_at hl 0 rfl) ?_
        refine lv_bipush (v := 8) hx hb dX1_letterOf_41 (by decide) ?_
        refine lv_imul hx hb dX1_letterOf_43 ?_
        refine lv_topi (fun v9 ev9 => ?_)
        have tv9 := z_mul ev9 (rfl : (v4).toInt = _) (by decide : (8 : Int32).toInt = 8) (by omega) (by omega)
        refine lv_iload_n hx hb dX1_letterOf_44 rfl (lv_at hl 3 rfl) ?_
        refine lv_iadd hx hb dX1_letterOf_45 ?_
        refine lv_topi (fun v10 ev10 => ?_)
        have tv10 := z_add ev10 (rfl : (v9).toInt = _) (rfl : (b).toInt = _) (by omega) (by omega)
        refine lX_1_5 hx hb hK hP (f := (fa 1 5)) rfl (vp_in_iff.mpr ⟨by omega, by omega⟩) dX1_letterOf_46 ?_
        refine lv_topi (fun v11 ev11 => ?_)
        refine lv_istore (lv' := [(4, .int v11), (3, .int v4), (0, .ref (g 11 3)), (1, .int a), (2, .int b)]) hx hb dX1_letterOf_47 hl (by decide) rfl (fun ls hl => ?_)
        refine lv_iload hx hb dX1_letterOf_49 (lv_at hl 0 rfl) ?_
        refine lv_if_ne (tgt := 58) hx hb dX1_letterOf_51 (by decide) (fun c12 => ?_) (fun c12 => ?_)
        · have fc12 := z_ne (rfl : (v11).toInt = _) (by decide : (0 : Int32).toInt = 0) c12
          refine lv_iload hx hb dX1_letterOf_58 (lv_at hl 0 rfl) ?_
          exact W.iret (v := v11) hx hb hr (fun t ht9 hW => ⟨v11, rfl, trivial, ht9⟩) (fun q hq => by cases hq) dX1_letterOf_60
        · have fc12 := z_eq (rfl : (v11).toInt = _) (by decide : (0 : Int32).toInt = 0) c12
          refine lv_iconst (v := (-1)) hx hb dX1_letterOf_54 (by decide) ?_
          refine lv_goto (tgt := 60) hx hb dX1_letterOf_55 (by decide) ?_
          exact W.iret (v := (-1)) hx hb hr (fun t ht9 hW => ⟨(-1), rfl, trivial, ht9⟩) (fun q hq => by cases hq) dX1_letterOf_60
      · have fc8 := z_nlt (rfl : (b).toInt = _) (by decide : (8 : Int32).toInt = 8) c8
        refine lv_iconst (v := (-1)) hx hb dX1_letterOf_34 (by decide) ?_
        exact W.iret (v := (-1)) hx hb hr (fun t ht9 hW => ⟨(-1), rfl, trivial, ht9⟩) (fun q hq => by cases hq) dX1_letterOf_35
set_option maxHeartbeats 4000000 in
set_option maxRecDepth 100000 in
/-- X11_bill -/
theorem c_X11_bill (l : Launch) (dC : Nat → ClassId) (dI : Nat → Nat → Nat) (sz : Nat) (h : Nat) (g : Nat → Nat → Nat) (ca : Nat → Nat → ClassId) (iv : Nat → Nat → Int32) (lv : Nat → Nat → Int64) (fa : Nat → Nat → Nat → Int32) (la : Nat → Nat → Nat → Int64) (hI : IX iv fa) (a : Int32) (b : Int32) : Met l yX11_bill (wc yX11_bill cX11_bill 3 (some .int)) ({ frames := 1, cells := 0, slots := 0, locals := 26 } : Room) (pW (dC, dI) classes (WX h g ca iv lv fa la) (TX ca) sz [.ref h, .int a, .int b]) (va_Qi (fun r (u : SS) => ∃ (na_6_0 : Nat → Int32) (na_6_1 : Nat → Int32) (na_6_2 : Nat → Int32) (na_6_3 : Nat → Int32) (na_6_4 : Nat → Int32) (na_6_5 : Nat → Int32) (ni_6_7 : Int32), (∀ j, inb (bA 6 3 j) (na_6_3 j)) ∧ inb (bI 6 7) ni_6_7 ∧ ((-100004) ≤ r.toInt ∧ r.toInt ≤ 39) ∧ u = ((u2 iv 6 7 ni_6_7), lv, (u2 (u2 (u2 (u2 (u2 (u2 fa 6 0 na_6_0) 6 1 na_6_1) 6 2 na_6_2) 6 3 na_6_3) 6 4 na_6_4) 6 5 na_6_5), la)) (bX (dC, dI) h g ca (va_A (WX h g ca iv lv fa la) sz)) (va_A (WX h g ca iv lv fa la) sz)) 0 0 (va_A (WX h g ca iv lv fa la) sz) := by
  refine Met.ofW (cc := cX11_bill) (maxL := 3) (ret := (some .int)) (by decide) rfl ?_
  intro p e s m args below meth c s₁ B hml hv
  obtain ⟨rfl, hsz, hP, hK, hD0⟩ := hv
  have hx := B.exec
  have hb := B.bytes
  have hr := B.returns
  have ht := tb_tl (atoms_spec (ws := wc yX11_bill cX11_bill 3 (some .int)) B.pre)
  have hown : s.vm.findClass RX11 = some m.cls := findClass_of_methodNamed B.named
  have hlocks := B.notSynchronized
  subst hsz
  have hD := hD0.self (sz := s.heap.size)
  generalize hAe : va_A (WX h g ca iv lv fa la) s.heap.size = A at hD ⊢
  have hA : ∀ q : Nat, s.heap.size ≤ q → A q := fun q h => by rw [← hAe]; exact Or.inr h
  have hS : va_S A s.heap s.heap [] := va_S.rf
  have hl := lv_entry [.ref h, .int a, .int b] (n := 3) (Nat.le_of_ble_eq_true rfl)
  rw [lg_entry_eq]
  generalize (lg_sl [.ref h, .int a, .int b] ++ List.replicate (3 - (lg_sl [.ref h, .int a, .int b]).length) Slot.unset).toArray = ls at hl ⊢
  have hl : lv_has ls 3 [(0, .ref h), (1, .int a), (2, .int b)] := hl
  refine lv_aload_n hx hb dX11_bill_0 rfl (lv_at hl 0 rfl) ?_
  refine gX_11_9 hx hb ht hown hK hP m_424 dX11_bill_1 ?_
  refine lv_iload_n hx hb dX11_bill_4 rfl (lv_at hl 1 rfl) ?_
  refine vp_callSi (W.runV (As := [.int a]) (rest := []) ⟨hx, hb, hml, hown, ht⟩ (c_X6_has l dC dI h g ca iv lv fa la hI a) (kV 1 ht m_1095 m_1096 m_1097 m_88 m_1098 rfl rfl hd_X6_has_v ⟨Nat.le_of_ble_eq_true rfl, Nat.le_of_ble_eq_true rfl⟩) (vR hP hK (rX_6 hK hP)) rfl rfl hl.1 rfl (lv_room (Nat.le_of_ble_eq_true rfl)) dX11_bill_5 ⟨Nat.le_of_ble_eq_true rfl, Nat.le_of_ble_eq_true rfl⟩) (fun r1 hr1 => ?_)
  rcases hr1 with ⟨rfl, fr1⟩ | ⟨rfl, fr1⟩
  · skip
    have i_6_7 : 0 ≤ (iv 6 7).toInt ∧ (iv 6 7).toInt ≤ 40 := hI.1 6 7
    have fr1 : (0 ≤ (a : Int32).toInt ∧ (a : Int32).toInt < ((iv 6 7) : Int32).toInt) := fr1
    refine lv_if_ne (tgt := 14) hx hb dX11_bill_8 (by decide) (fun c2 => ?_) (fun c2 => ?_)
    · skip
      refine lv_iload_n hx hb dX11_bill_14 rfl (lv_at hl 2 rfl) ?_
      refine lv_iconst (v := 0) hx hb dX11_bill_15 (by decide) ?_
      refine lv_sipush (v := 999) hx hb dX11_bill_16 (by decide) ?_
      refine vp_callSi (W.runS (As := [.int b, .int 0, .int 999]) (rest := []) ⟨hx, hb, hml, hown, ht⟩ (c_X11_within l dC dI b 0 999 (b.toInt) (0) (999) (rfl : (b).toInt = _) (by decide : (0 : Int32).toInt = 0) (by decide : (999 : Int32).toInt = 999)) (kS 3 ht m_453 m_454 m_77 m_455 rfl rfl hd_X11_within_v ⟨Nat.le_of_ble_eq_true rfl, Nat.le_of_ble_eq_true rfl⟩) (sR noP (hK.sub (tys' := []) [] rfl)) rfl rfl hl.1 rfl (lv_room (Nat.le_of_ble_eq_true rfl)) dX11_bill_19 ⟨Nat.le_of_ble_eq_true rfl, Nat.le_of_ble_eq_true rfl⟩) (fun r3 hr3 => ?_)
      rcases hr3 with ⟨rfl, fr3⟩ | ⟨rfl, fr3⟩
      · skip
        refine lv_if_ne (tgt := 28) hx hb dX11_bill_22 (by decide) (fun c4 => ?_) (fun c4 => ?_)
        · skip
          refine lv_aload_n hx hb dX11_bill_28 rfl (lv_at hl 0 rfl) ?_
          refine gX_11_9 hx hb ht hown hK hP m_424 dX11_bill_29 ?_
          refine lv_iload_n hx hb dX11_bill_32 rfl (lv_at hl 1 rfl) ?_
          refine vp_callSi (W.runV (As := [.int a]) (rest := []) ⟨hx, hb, hml, hown, ht⟩ (c_X6_isCertificate l dC dI h g ca iv lv fa la hI a ⟨by omega, by omega⟩) (kV 1 ht m_663 m_664 m_665 m_88 m_666 rfl rfl hd_X6_isCertificate_v ⟨Nat.le_of_ble_eq_true rfl, Nat.le_of_ble_eq_true rfl⟩) (vR hP hK (rX_6 hK hP)) rfl rfl hl.1 rfl (lv_room (Nat.le_of_ble_eq_true rfl)) dX11_bill_33 ⟨Nat.le_of_ble_eq_true rfl, Nat.le_of_ble_eq_true rfl⟩) (fun r5 hr5 => ?_)
          refine lv_if_eq (tgt := 50) hx hb dX11_bill_36 (by decide) (fun c6 => ?_) (fun c6 => ?_)
          · have fc6 := z_eq (rfl : (r5).toInt = _) (by decide : (0 : Int32).toInt = 0) c6
            refine lv_ldc hx hb hown (ht _ m_457) dX11_bill_50 ?_
            have hP9 : va_P (dC, dI) classes (WX h g ca (u2 iv 6 7 (iv 6 7)) lv (u2 (u2 (u2 (u2 (u2 (u2 fa 6 0 (fa 6 0)) 6 1 (fa 6 1)) 6 2 (fa 6 2)) 6 3 (fa 6 3)) 6 4 (fa 6 4)) 6 5 (fa 6 5)) la) s.heap := hP
            have hD9 : va_D A (WX h g ca (u2 iv 6 7 (iv 6 7)) lv (u2 (u2 (u2 (u2 (u2 (u2 fa 6 0 (fa 6 0)) 6 1 (fa 6 1)) 6 2 (fa 6 2)) 6 3 (fa 6 3)) 6 4 (fa 6 4)) 6 5 (fa 6 5)) la) := hD
            exact W.iret (v := (-100003)) hx hb hr (fun t ht9 hW => ⟨⟨(-100003), ((u2 iv 6 7 (iv 6 7)), lv, (u2 (u2 (u2 (u2 (u2 (u2 fa 6 0 (fa 6 0)) 6 1 (fa 6 1)) 6 2 (fa 6 2)) 6 3 (fa 6 3)) 6 4 (fa 6 4)) 6 5 (fa 6 5)), la), rfl, ⟨(fa 6 0), (fa 6 1), (fa 6 2), (fa 6 3), (fa 6 4), (fa 6 5), (iv 6 7), (hI.2 6 3), (hI.1 6 7), ⟨by decide, by decide⟩, rfl⟩, by rw [ht9]; exact hP9, hD9⟩, hS.F ht9⟩) hS.2.2 dX11_bill_52
          · have fc6 := z_ne (rfl : (r5).toInt = _) (by decide : (0 : Int32).toInt = 0) c6
            refine lv_aload_n hx hb dX11_bill_39 rfl (lv_at hl 0 rfl) ?_
            refine gX_11_9 hx hb ht hown hK hP m_424 dX11_bill_40 ?_
            refine lv_iload_n hx hb dX11_bill_43 rfl (lv_at hl 1 rfl) ?_
            refine vp_callSi (W.runV (As := [.int a]) (rest := []) ⟨hx, hb, hml, hown, ht⟩ (c_X6_isUndone l dC dI h g ca iv lv fa la hI a ⟨by omega, by omega⟩) (kV 1 ht m_1099 m_1080 m_1081 m_88 m_1082 rfl rfl hd_X6_isUndone_v ⟨Nat.le_of_ble_eq_true rfl, Nat.le_of_ble_eq_true rfl⟩) (vR hP hK (rX_6 hK hP)) rfl rfl hl.1 rfl (lv_room (Nat.le_of_ble_eq_true rfl)) dX11_bill_44 ⟨Nat.le_of_ble_eq_true rfl, Nat.le_of_ble_eq_true rfl⟩) (fun r7 hr7 => ?_)
            refine lv_if_eq (tgt := 53) hx hb dX11_bill_47 (by decide) (fun c8 => ?_) (fun c8 => ?_)
            · have fc8 := z_eq (rfl : (r7).toInt = _) (by decide : (0 : Int32).toInt = 0) c8
              refine lv_aload_n hx hb dX11_bill_53 rfl (lv_at hl 0 rfl) ?_
              refine gX_11_9 hx hb ht hown hK hP m_424 dX11_bill_54 ?_
              refine lv_iconst (v := 1) hx hb dX11_bill_57 (by decide) ?_
              refine vp_callSi (W.runV (As := [.int 1]) (rest := []) ⟨hx, hb, hml, hown, ht⟩ (c_X6_hasRoom_b l dC dI h g ca iv lv fa la hI 1 ⟨by decide, by decide⟩) (kV 1 ht m_1083 m_1084 m_1085 m_88 m_1086 rfl rfl hd_X6_hasRoom_v ⟨Nat.le_of_ble_eq_true rfl, Nat.le_of_ble_eq_true rfl⟩) (vR hP hK (rX_6 hK hP)) rfl rfl hl.1 rfl (lv_room (Nat.le_of_ble_eq_true rfl)) dX11_bill_58 ⟨Nat.le_of_ble_eq_true rfl, Nat.le_of_ble_eq_true rfl⟩) (fun r9 hr9 => ?_)
              rcases hr9 with ⟨rfl, fr9⟩ | ⟨rfl, fr9⟩
              · skip
                have fr9 : (((iv 6 7) : Int32).toInt + 1 ≤ 40) := by have q9 := fr9; rw [show (1 : Int32).toInt = 1 from by decide] at q9; exact q9
                refine lv_if_ne (tgt := 67) hx hb dX11_bill_61 (by decide) (fun c10 => ?_) (fun c10 => ?_)
                · skip
                  refine lv_aload_n hx hb dX11_bill_67 rfl (lv_at hl 0 rfl) ?_
                  refine gX_11_9 hx hb ht hown hK hP m_424 dX11_bill_68 ?_
                  refine lv_iconst (v := 1) hx hb dX11_bill_71 (by decide) ?_
                  refine lv_aload_n hx hb dX11_bill_72 rfl (lv_at hl 0 rfl) ?_
                  refine gX_11_9 hx hb ht hown hK hP m_424 dX11_bill_73 ?_
                  refine gX_6_1 hx hb ht hown hK hP m_386 dX11_bill_76 ?_
                  refine lv_iload_n hx hb dX11_bill_79 rfl (lv_at hl 1 rfl) ?_
                  refine lX_6_1 hx hb hK hP (f := (fa 6 1)) rfl (vp_in_iff.mpr ⟨by omega, by omega⟩) dX11_bill_80 ?_
                  refine lv_topi (fun v11 ev11 => ?_)
                  refine lv_aload_n hx hb dX11_bill_81 rfl (lv_at hl 0 rfl) ?_
                  refine gX_11_9 hx hb ht hown hK hP m_424 dX11_bill_82 ?_
                  refine gX_6_2 hx hb ht hown hK hP m_388 dX11_bill_85 ?_
                  refine lv_iload_n hx hb dX11_bill_88 rfl (lv_at hl 1 rfl) ?_
                  refine lX_6_2 hx hb hK hP (f := (fa 6 2)) rfl (vp_in_iff.mpr ⟨by omega, by omega⟩) dX11_bill_89 ?_
                  refine lv_topi (fun v12 ev12 => ?_)
                  refine lv_iload_n hx hb dX11_bill_90 rfl (lv_at hl 2 rfl) ?_
                  refine lv_imul hx hb dX11_bill_91 ?_
                  refine lv_topi (fun v13 ev13 => ?_)
                  refine lv_iload_n hx hb dX11_bill_92 rfl (lv_at hl 1 rfl) ?_
                  refine lv_aload_n hx hb dX11_bill_93 rfl (lv_at hl 0 rfl) ?_
                  have i_11_10 : 0 ≤ (iv 11 10).toInt ∧ (iv 11 10).toInt ≤ 3000 := hI.1 11 10
                  refine gX_11_10 hx hb ht hown hK hP m_425 (v := (iv 11 10)) rfl dX11_bill_94 ?_
                  have hFc := free_all hD hS hA
                  refine va_calli (va_runV (As := [.int 1, .int v11, .int v13, .int a, .int (iv 11 10)]) (rest := []) ⟨hx, hb, hml, hown, ht⟩ (c_X6_write l dC dI s.heap.size h g ca iv lv fa la hI 1 v11 v13 a (iv 11 10) (show 0 ≤ ((iv 6 7) : Int32).toInt ∧ ((iv 6 7) : Int32).toInt ≤ 39 from ⟨by omega, by omega⟩) ⟨by omega, by omega⟩) (kV 5 ht m_1087 m_1088 m_1089 m_88 m_1090 rfl rfl hd_X6_write_v ⟨Nat.le_of_ble_eq_true rfl, Nat.le_of_ble_eq_true rfl⟩) (vW hP hK hD (rX_6 hK hP)) rfl rfl hl.1 rfl (lv_room (Nat.le_of_ble_eq_true rfl)) dX11_bill_97 ⟨Nat.le_of_ble_eq_true rfl, Nat.le_of_ble_eq_true rfl⟩) hS (fun q _ h => hFc q h) hFc (fun r14 u t H1 locs ht9 hvm hr14 hB hz1 hk1 hS => ?_)
                  obtain ⟨n15, n16, n17, n18, n19, n20, n21, hn18, hn21, dn21, hr14, rfl⟩ := hr14
                  have hn15 : ∀ j, inb (bA 6 0 j) (n15 j) := fun j => full_i _
                  have hn16 : ∀ j, inb (bA 6 1 j) (n16 j) := fun j => full_i _
                  have hn17 : ∀ j, inb (bA 6 2 j) (n17 j) := fun j => full_i _
                  have hn19 : ∀ j, inb (bA 6 4 j) (n19 j) := fun j => full_i _
                  have hn20 : ∀ j, inb (bA 6 5 j) (n20 j) := fun j => full_i _
                  have dn21 : n21.toInt = ((iv 6 7) : Int32).toInt + 1 := dn21
                  have hn21 : 0 ≤ n21.toInt ∧ n21.toInt ≤ 40 := hn21
                  obtain ⟨hP, hD⟩ := hB
                  rw [ht9] at hP
                  generalize H1 = H at hP hS ⊢
                  have hP : va_P (dC, dI) classes (WX h g ca (u2 iv 6 7 n21) lv (u2 (u2 (u2 (u2 (u2 (u2 fa 6 0 n15) 6 1 n16) 6 2 n17) 6 3 n18) 6 4 n19) 6 5 n20) la) H := hP
                  have hD : va_D A (WX h g ca (u2 iv 6 7 n21) lv (u2 (u2 (u2 (u2 (u2 (u2 fa 6 0 n15) 6 1 n16) 6 2 n17) 6 3 n18) 6 4 n19) 6 5 n20) la) := (show va_D _ (WX h g ca (u2 iv 6 7 n21) lv (u2 (u2 (u2 (u2 (u2 (u2 fa 6 0 n15) 6 1 n16) 6 2 n17) 6 3 n18) 6 4 n19) 6 5 n20) la) from hD).weaken (fun _ _ _ h => hFc _ h)
                  have hP9 : va_P (dC, dI) classes (WX h g ca (u2 iv 6 7 n21) lv (u2 (u2 (u2 (u2 (u2 (u2 fa 6 0 n15) 6 1 n16) 6 2 n17) 6 3 n18) 6 4 n19) 6 5 n20) la) H := hP
                  have hD9 : va_D A (WX h g ca (u2 iv 6 7 n21) lv (u2 (u2 (u2 (u2 (u2 (u2 fa 6 0 n15) 6 1 n16) 6 2 n17) 6 3 n18) 6 4 n19) 6 5 n20) la) := hD
                  exact W.iret (v := r14) hx hb hr (fun t ht9 hW => ⟨⟨r14, ((u2 iv 6 7 n21), lv, (u2 (u2 (u2 (u2 (u2 (u2 fa 6 0 n15) 6 1 n16) 6 2 n17) 6 3 n18) 6 4 n19) 6 5 n20), la), rfl, ⟨n15, n16, n17, n18, n19, n20, n21, hn18, (show inb (0, 40) n21 from ⟨by omega, by omega⟩), ⟨by omega, by omega⟩, rfl⟩, by rw [ht9]; exact hP9, hD9⟩, hS.F ht9⟩) hS.2.2 dX11_bill_100
                · exact absurd c10 (by decide)
              · skip
                have fr9 : ¬ (((iv 6 7) : Int32).toInt + 1 ≤ 40) := by have q9 := fr9; rw [show (1 : Int32).toInt = 1 from by decide] at q9; exact q9
                refine lv_if_ne (tgt := 67) hx hb dX11_bill_61 (by decide) (fun c22 => ?_) (fun c22 => ?_)
                · exact absurd rfl c22
                · skip
                  refine lv_ldc hx hb hown (ht _ m_463) dX11_bill_64 ?_
                  have hP9 : va_P (dC, dI) classes (WX h g ca (u2 iv 6 7 (iv 6 7)) lv (u2 (u2 (u2 (u2 (u2 (u2 fa 6 0 (fa 6 0)) 6 1 (fa 6 1)) 6 2 (fa 6 2)) 6 3 (fa 6 3)) 6 4 (fa 6 4)) 6 5 (fa 6 5)) la) s.heap := hP
                  have hD9 : va_D A (WX h g ca (u2 iv 6 7 (iv 6 7)) lv (u2 (u2 (u2 (u2 (u2 (u2 fa 6 0 (fa 6 0)) 6 1 (fa 6 1)) 6 2 (fa 6 2)) 6 3 (fa 6 3)) 6 4 (fa 6 4)) 6 5 (fa 6 5)) la) := hD
                  exact W.iret (v := (-100004)) hx hb hr (fun t ht9 hW => ⟨⟨(-100004), ((u2 iv 6 7 (iv 6 7)), lv, (u2 (u2 (u2 (u2 (u2 (u2 fa 6 0 (fa 6 0)) 6 1 (fa 6 1)) 6 2 (fa 6 2)) 6 3 (fa 6 3)) 6 4 (fa 6 4)) 6 5 (fa 6 5)), la), rfl, ⟨(fa 6 0), (fa 6 1), (fa 6 2), (fa 6 3), (fa 6 4), (fa 6 5), (iv 6 7), (hI.2 6 3), (hI.1 6 7), ⟨by decide, by decide⟩, rfl⟩, by rw [ht9]; exact hP9, hD9⟩, hS.F ht9⟩) hS.2.2 dX11_bill_66
            · have fc8 := z_ne (rfl : (r7).toInt = _) (by decide : (0 : Int32).toInt = 0) c8
              refine lv_ldc hx hb hown (ht _ m_457) dX11_bill_50 ?_
              have hP9 : va_P (dC, dI) classes (WX h g ca (u2 iv 6 7 (iv 6 7)) lv (u2 (u2 (u2 (u2 (u2 (u2 fa 6 0 (fa 6 0)) 6 1 (fa 6 1)) 6 2 (fa 6 2)) 6 3 (fa 6 3)) 6 4 (fa 6 4)) 6 5 (fa 6 5)) la) s.heap := hP
              have hD9 : va_D A (WX h g ca (u2 iv 6 7 (iv 6 7)) lv (u2 (u2 (u2 (u2 (u2 (u2 fa 6 0 (fa 6 0)) 6 1 (fa 6 1)) 6 2 (fa 6 2)) 6 3 (fa 6 3)) 6 4 (fa 6 4)) 6 5 (fa 6 5)) la) := hD
              exact W.iret (v := (-100003)) hx hb hr (fun t ht9 hW => ⟨⟨(-100003), ((u2 iv 6 7 (iv 6 7)), lv, (u2 (u2 (u2 (u2 (u2 (u2 fa 6 0 (fa 6 0)) 6 1 (fa 6 1)) 6 2 (fa 6 2)) 6 3 (fa 6 3)) 6 4 (fa 6 4)) 6 5 (fa 6 5)), la), rfl, ⟨(fa 6 0), (fa 6 1), (fa 6 2), (fa 6 3), (fa 6 4), (fa 6 5), (iv 6 7), (hI.2 6 3), (hI.1 6 7), ⟨by decide, by decide⟩, rfl⟩, by rw [ht9]; exact hP9, hD9⟩, hS.F ht9⟩) hS.2.2 dX11_bill_52
        · exact absurd c4 (by decide)
      · skip
        refine lv_if_ne (tgt := 28) hx hb dX11_bill_22 (by decide) (fun c23 => ?_) (fun c23 => ?_)
        · exact absurd rfl c23
        · skip
          refine lv_ldc hx hb hown (ht _ m_456) dX11_bill_25 ?_
          have hP9 : va_P (dC, dI) classes (WX h g ca (u2 iv 6 7 (iv 6 7)) lv (u2 (u2 (u2 (u2 (u2 (u2 fa 6 0 (fa 6 0)) 6 1 (fa 6 1)) 6 2 (fa 6 2)) 6 3 (fa 6 3)) 6 4 (fa 6 4)) 6 5 (fa 6 5)) la) s.heap := hP
          have hD9 : va_D A (WX h g ca (u2 iv 6 7 (iv 6 7)) lv (u2 (u2 (u2 (u2 (u2 (u2 fa 6 0 (fa 6 0)) 6 1 (fa 6 1)) 6 2 (fa 6 2)) 6 3 (fa 6 3)) 6 4 (fa 6 4)) 6 5 (fa 6 5)) la) := hD
          exact W.iret (v := (-100002)) hx hb hr (fun t ht9 hW => ⟨⟨(-100002), ((u2 iv 6 7 (iv 6 7)), lv, (u2 (u2 (u2 (u2 (u2 (u2 fa 6 0 (fa 6 0)) 6 1 (fa 6 1)) 6 2 (fa 6 2)) 6 3 (fa 6 3)) 6 4 (fa 6 4)) 6 5 (fa 6 5)), la), rfl, ⟨(fa 6 0), (fa 6 1), (fa 6 2), (fa 6 3), (fa 6 4), (fa 6 5), (iv 6 7), (hI.2 6 3), (hI.1 6 7), ⟨by decide, by decide⟩, rfl⟩, by rw [ht9]; exact hP9, hD9⟩, hS.F ht9⟩) hS.2.2 dX11_bill_27
    · exact absurd c2 (by decide)
  · skip
    have i_6_7 : 0 ≤ (iv 6 7).toInt ∧ (iv 6 7).toInt ≤ 40 := hI.1 6 7
    have fr1 : ¬ (0 ≤ (a : Int32).toInt ∧ (a : Int32).toInt < ((iv 6 7) : Int32).toInt) := fr1
    refine lv_if_ne (tgt := 14) hx hb dX11_bill_8 (by decide) (fun c24 => ?_) (fun c24 => ?_)
    · exact absurd rfl c24
    · skip
      refine lv_ldc hx hb hown (ht _ m_476) dX11_bill_11 ?_
      have hP9 : va_P (dC, dI) classes (WX h g ca (u2 iv 6 7 (iv 6 7)) lv (u2 (u2 (u2 (u2 (u2 (u2 fa 6 0 (fa 6 0)) 6 1 (fa 6 1)) 6 2 (fa 6 2)) 6 3 (fa 6 3)) 6 4 (fa 6 4)) 6 5 (fa 6 5)) la) s.heap := hP
      have hD9 : va_D A (WX h g ca (u2 iv 6 7 (iv 6 7)) lv (u2 (u2 (u2 (u2 (u2 (u2 fa 6 0 (fa 6 0)) 6 1 (fa 6 1)) 6 2 (fa 6 2)) 6 3 (fa 6 3)) 6 4 (fa 6 4)) 6 5 (fa 6 5)) la) := hD
      exact W.iret (v := (-100001)) hx hb hr (fun t ht9 hW => ⟨⟨(-100001), ((u2 iv 6 7 (iv 6 7)), lv, (u2 (u2 (u2 (u2 (u2 (u2 fa 6 0 (fa 6 0)) 6 1 (fa 6 1)) 6 2 (fa 6 2)) 6 3 (fa 6 3)) 6 4 (fa 6 4)) 6 5 (fa 6 5)), la), rfl, ⟨(fa 6 0), (fa 6 1), (fa 6 2), (fa 6 3), (fa 6 4), (fa 6 5), (iv 6 7), (hI.2 6 3), (hI.1 6 7), ⟨by decide, by decide⟩, rfl⟩, by rw [ht9]; exact hP9, hD9⟩, hS.F ht9⟩) hS.2.2 dX11_bill_13
set_option maxHeartbeats 4000000 in
set_option maxRecDepth 100000 in
/-- X11_cut -/
theorem c_X11_cut (l : Launch) (dC : Nat → ClassId) (dI : Nat → Nat → Nat) (sz : Nat) (h : Nat) (g : Nat → Nat → Nat) (ca : Nat → Nat → ClassId) (iv : Nat → Nat → Int32) (lv : Nat → Nat → Int64) (fa : Nat → Nat → Nat → Int32) (la : Nat → Nat → Nat → Int64) (hI : IX iv fa) (a : Int32) (b : Int32) (d : Int32) : Met l yX11_cut (wc yX11_cut cX11_cut 5 (some .int)) ({ frames := 2, cells := 0, slots := 0, locals := 43 } : Room) (pW (dC, dI) classes (WX h g ca iv lv fa la) (TX ca) sz [.ref h, .int a, .int b, .int d]) (va_Qi (fun r (u : SS) => ∃ (na_6_0 : Nat → Int32) (na_6_1 : Nat → Int32) (na_6_2 : Nat → Int32) (na_6_3 : Nat → Int32) (na_6_4 : Nat → Int32) (na_6_5 : Nat → Int32) (ni_6_7 : Int32), (∀ j, inb (bA 6 3 j) (na_6_3 j)) ∧ inb (bI 6 7) ni_6_7 ∧ ((-100004) ≤ r.toInt ∧ r.toInt ≤ 39) ∧ u = ((u2 iv 6 7 ni_6_7), lv, (u2 (u2 (u2 (u2 (u2 (u2 fa 6 0 na_6_0) 6 1 na_6_1) 6 2 na_6_2) 6 3 na_6_3) 6 4 na_6_4) 6 5 na_6_5), la)) (bX (dC, dI) h g ca (va_A (WX h g ca iv lv fa la) sz)) (va_A (WX h g ca iv lv fa la) sz)) 0 0 (va_A (WX h g ca iv lv fa la) sz) := by
  refine Met.ofW (cc := cX11_cut) (maxL := 5) (ret := (some .int)) (by decide) rfl ?_
  intro p e s m args below meth c s₁ B hml hv
  obtain ⟨rfl, hsz, hP, hK, hD0⟩ := hv
  have hx := B.exec
  have hb := B.bytes
  have hr := B.returns
  have ht := tb_tl (atoms_spec (ws := wc yX11_cut cX11_cut 5 (some .int)) B.pre)
  have hown : s.vm.findClass RX11 = some m.cls := findClass_of_methodNamed B.named
  have hlocks := B.notSynchronized
  subst hsz
  have hD := hD0.self (sz := s.heap.size)
  generalize hAe : va_A (WX h g ca iv lv fa la) s.heap.size = A at hD ⊢
  have hA : ∀ q : Nat, s.heap.size ≤ q → A q := fun q h => by rw [← hAe]; exact Or.inr h
  have hS : va_S A s.heap s.heap [] := va_S.rf
  have hl := lv_entry [.ref h, .int a, .int b, .int d] (n := 5) (Nat.le_of_ble_eq_true rfl)
  rw [lg_entry_eq]
  generalize (lg_sl [.ref h, .int a, .int b, .int d] ++ List.replicate (5 - (lg_sl [.ref h, .int a, .int b, .int d]).length) Slot.unset).toArray = ls at hl ⊢
  have hl : lv_has ls 5 [(0, .ref h), (1, .int a), (2, .int b), (3, .int d)] := hl
  refine lv_aload_n hx hb dX11_cut_0 rfl (lv_at hl 0 rfl) ?_
  refine gX_11_9 hx hb ht hown hK hP m_424 dX11_cut_1 ?_
  refine lv_iload_n hx hb dX11_cut_4 rfl (lv_at hl 1 rfl) ?_
  refine vp_callSi (W.runV (As := [.int a]) (rest := []) ⟨hx, hb, hml, hown, ht⟩ (c_X6_has l dC dI h g ca iv lv fa la hI a) (kV 1 ht m_1095 m_1096 m_1097 m_88 m_1098 rfl rfl hd_X6_has_v ⟨Nat.le_of_ble_eq_true rfl, Nat.le_of_ble_eq_true rfl⟩) (vR hP hK (rX_6 hK hP)) rfl rfl hl.1 rfl (lv_room (Nat.le_of_ble_eq_true rfl)) dX11_cut_5 ⟨Nat.le_of_ble_eq_true rfl, Nat.le_of_ble_eq_true rfl⟩) (fun r1 hr1 => ?_)
  rcases hr1 with ⟨rfl, fr1⟩ | ⟨rfl, fr1⟩
  · skip
    have i_6_7 : 0 ≤ (iv 6 7).toInt ∧ (iv 6 7).toInt ≤ 40 := hI.1 6 7
    have fr1 : (0 ≤ (a : Int32).toInt ∧ (a : Int32).toInt < ((iv 6 7) : Int32).toInt) := fr1
    refine lv_if_ne (tgt := 14) hx hb dX11_cut_8 (by decide) (fun c2 => ?_) (fun c2 => ?_)
    · skip
      refine lv_iload_n hx hb dX11_cut_14 rfl (lv_at hl 2 rfl) ?_
      refine lv_iconst (v := 1) hx hb dX11_cut_15 (by decide) ?_
      refine lv_icmp_lt (tgt := 43) hx hb dX11_cut_16 (by decide) (fun c3 => ?_) (fun c3 => ?_)
      · have fc3 := z_lt (rfl : (b).toInt = _) (by decide : (1 : Int32).toInt = 1) c3
        refine lv_ldc hx hb hown (ht _ m_456) dX11_cut_43 ?_
        have hP9 : va_P (dC, dI) classes (WX h g ca (u2 iv 6 7 (iv 6 7)) lv (u2 (u2 (u2 (u2 (u2 (u2 fa 6 0 (fa 6 0)) 6 1 (fa 6 1)) 6 2 (fa 6 2)) 6 3 (fa 6 3)) 6 4 (fa 6 4)) 6 5 (fa 6 5)) la) s.heap := hP
        have hD9 : va_D A (WX h g ca (u2 iv 6 7 (iv 6 7)) lv (u2 (u2 (u2 (u2 (u2 (u2 fa 6 0 (fa 6 0)) 6 1 (fa 6 1)) 6 2 (fa 6 2)) 6 3 (fa 6 3)) 6 4 (fa 6 4)) 6 5 (fa 6 5)) la) := hD
        exact W.iret (v := (-100002)) hx hb hr (fun t ht9 hW => ⟨⟨(-100002), ((u2 iv 6 7 (iv 6 7)), lv, (u2 (u2 (u2 (u2 (u2 (u2 fa 6 0 (fa 6 0)) 6 1 (fa 6 1)) 6 2 (fa 6 2)) 6 3 (fa 6 3)) 6 4 (fa 6 4)) 6 5 (fa 6 5)), la), rfl, ⟨(fa 6 0), (fa 6 1), (fa 6 2), (fa 6 3), (fa 6 4), (fa 6 5), (iv 6 7), (hI.2 6 3), (hI.1 6 7), ⟨by decide, by decide⟩, rfl⟩, by rw [ht9]; exact hP9, hD9⟩, hS.F ht9⟩) hS.2.2 dX11_cut_45
      · have fc3 := z_nlt (rfl : (b).toInt = _) (by decide : (1 : Int32).toInt = 1) c3
        refine lv_iload_n hx hb dX11_cut_19 rfl (lv_at hl 3 rfl) ?_
        refine lv_iconst (v := 1) hx hb dX11_cut_20 (by decide) ?_
        refine lv_icmp_lt (tgt := 43) hx hb dX11_cut_21 (by decide) (fun c4 => ?_) (fun c4 => ?_)
        · have fc4 := z_lt (rfl : (d).toInt = _) (by decide : (1 : Int32).toInt = 1) c4
          refine lv_ldc hx hb hown (ht _ m_456) dX11_cut_43 ?_
          have hP9 : va_P (dC, dI) classes (WX h g ca (u2 iv 6 7 (iv 6 7)) lv (u2 (u2 (u2 (u2 (u2 (u2 fa 6 0 (fa 6 0)) 6 1 (fa 6 1)) 6 2 (fa 6 2)) 6 3 (fa 6 3)) 6 4 (fa 6 4)) 6 5 (fa 6 5)) la) s.heap := hP
          have hD9 : va_D A (WX h g ca (u2 iv 6 7 (iv 6 7)) lv (u2 (u2 (u2 (u2 (u2 (u2 fa 6 0 (fa 6 0)) 6 1 (fa 6 1)) 6 2 (fa 6 2)) 6 3 (fa 6 3)) 6 4 (fa 6 4)) 6 5 (fa 6 5)) la) := hD
          exact W.iret (v := (-100002)) hx hb hr (fun t ht9 hW => ⟨⟨(-100002), ((u2 iv 6 7 (iv 6 7)), lv, (u2 (u2 (u2 (u2 (u2 (u2 fa 6 0 (fa 6 0)) 6 1 (fa 6 1)) 6 2 (fa 6 2)) 6 3 (fa 6 3)) 6 4 (fa 6 4)) 6 5 (fa 6 5)), la), rfl, ⟨(fa 6 0), (fa 6 1), (fa 6 2), (fa 6 3), (fa 6 4), (fa 6 5), (iv 6 7), (hI.2 6 3), (hI.1 6 7), ⟨by decide, by decide⟩, rfl⟩, by rw [ht9]; exact hP9, hD9⟩, hS.F ht9⟩) hS.2.2 dX11_cut_45
        · have fc4 := z_nlt (rfl : (d).toInt = _) (by decide : (1 : Int32).toInt = 1) c4
          refine lv_iload_n hx hb dX11_cut_24 rfl (lv_at hl 2 rfl) ?_
          refine lv_i2l (v := (b.toInt64)) hx hb dX11_cut_25 rfl ?_
          refine lv_iload_n hx hb dX11_cut_26 rfl (lv_at hl 3 rfl) ?_
          refine lv_i2l (v := (d.toInt64)) hx hb dX11_cut_27 rfl ?_
          refine lv_ladd hx hb dX11_cut_28 ?_
          refine lv_topl (fun w5 ew5 => ?_)
          refine lv_aload_n hx hb dX11_cut_29 rfl (lv_at hl 0 rfl) ?_
          refine gX_11_9 hx hb ht hown hK hP m_424 dX11_cut_30 ?_
          refine gX_6_2 hx hb ht hown hK hP m_388 dX11_cut_33 ?_
          refine lv_iload_n hx hb dX11_cut_36 rfl (lv_at hl 1 rfl) ?_
          refine lX_6_2 hx hb hK hP (f := (fa 6 2)) rfl (vp_in_iff.mpr ⟨by omega, by omega⟩) dX11_cut_37 ?_
          refine lv_topi (fun v6 ev6 => ?_)
          refine lv_i2l (v := (v6.toInt64)) hx hb dX11_cut_38 rfl ?_
          refine W.lcmp hx hb dX11_cut_39 ?_
          refine lv_topi (fun v7 ev7 => ?_)
          refine lv_if_eq (tgt := 46) hx hb dX11_cut_40 (by decide) (fun c8 => ?_) (fun c8 => ?_)
          · have fc8 := zc_eq ev7 (rfl : (w5).toInt = _) ((Int32.toInt_toInt64 v6).trans rfl) c8
            refine lv_aload_n hx hb dX11_cut_46 rfl (lv_at hl 0 rfl) ?_
            refine gX_11_9 hx hb ht hown hK hP m_424 dX11_cut_47 ?_
            refine lv_iload_n hx hb dX11_cut_50 rfl (lv_at hl 1 rfl) ?_
            refine vp_callSi (W.runV (As := [.int a]) (rest := []) ⟨hx, hb, hml, hown, ht⟩ (c_X6_isCertificate l dC dI h g ca iv lv fa la hI a ⟨by omega, by omega⟩) (kV 1 ht m_663 m_664 m_665 m_88 m_666 rfl rfl hd_X6_isCertificate_v ⟨Nat.le_of_ble_eq_true rfl, Nat.le_of_ble_eq_true rfl⟩) (vR hP hK (rX_6 hK hP)) rfl rfl hl.1 rfl (lv_room (Nat.le_of_ble_eq_true rfl)) dX11_cut_51 ⟨Nat.le_of_ble_eq_true rfl, Nat.le_of_ble_eq_true rfl⟩) (fun r9 hr9 => ?_)
            refine lv_if_eq (tgt := 79) hx hb dX11_cut_54 (by decide) (fun c10 => ?_) (fun c10 => ?_)
            · have fc10 := z_eq (rfl : (r9).toInt = _) (by decide : (0 : Int32).toInt = 0) c10
              refine lv_ldc hx hb hown (ht _ m_457) dX11_cut_79 ?_
              have hP9 : va_P (dC, dI) classes (WX h g ca (u2 iv 6 7 (iv 6 7)) lv (u2 (u2 (u2 (u2 (u2 (u2 fa 6 0 (fa 6 0)) 6 1 (fa 6 1)) 6 2 (fa 6 2)) 6 3 (fa 6 3)) 6 4 (fa 6 4)) 6 5 (fa 6 5)) la) s.heap := hP
              have hD9 : va_D A (WX h g ca (u2 iv 6 7 (iv 6 7)) lv (u2 (u2 (u2 (u2 (u2 (u2 fa 6 0 (fa 6 0)) 6 1 (fa 6 1)) 6 2 (fa 6 2)) 6 3 (fa 6 3)) 6 4 (fa 6 4)) 6 5 (fa 6 5)) la) := hD
              exact W.iret (v := (-100003)) hx hb hr (fun t ht9 hW => ⟨⟨(-100003), ((u2 iv 6 7 (iv 6 7)), lv, (u2 (u2 (u2 (u2 (u2 (u2 fa 6 0 (fa 6 0)) 6 1 (fa 6 1)) 6 2 (fa 6 2)) 6 3 (fa 6 3)) 6 4 (fa 6 4)) 6 5 (fa 6 5)), la), rfl, ⟨(fa 6 0), (fa 6 1), (fa 6 2), (fa 6 3), (fa 6 4), (fa 6 5), (iv 6 7), (hI.2 6 3), (hI.1 6 7), ⟨by decide, by decide⟩, rfl⟩, by rw [ht9]; exact hP9, hD9⟩, hS.F ht9⟩) hS.2.2 dX11_cut_81
            · have fc10 := z_ne (rfl : (r9).toInt = _) (by decide : (0 : Int32).toInt = 0) c10
              refine lv_aload_n hx hb dX11_cut_57 rfl (lv_at hl 0 rfl) ?_
              refine gX_11_9 hx hb ht hown hK hP m_424 dX11_cut_58 ?_
              refine lv_iload_n hx hb dX11_cut_61 rfl (lv_at hl 1 rfl) ?_
              refine vp_callSi (W.runV (As := [.int a]) (rest := []) ⟨hx, hb, hml, hown, ht⟩ (c_X6_isUndone l dC dI h g ca iv lv fa la hI a ⟨by omega, by omega⟩) (kV 1 ht m_1099 m_1080 m_1081 m_88 m_1082 rfl rfl hd_X6_isUndone_v ⟨Nat.le_of_ble_eq_true rfl, Nat.le_of_ble_eq_true rfl⟩) (vR hP hK (rX_6 hK hP)) rfl rfl hl.1 rfl (lv_room (Nat.le_of_ble_eq_true rfl)) dX11_cut_62 ⟨Nat.le_of_ble_eq_true rfl, Nat.le_of_ble_eq_true rfl⟩) (fun r11 hr11 => ?_)
              refine lv_if_ne (tgt := 79) hx hb dX11_cut_65 (by decide) (fun c12 => ?_) (fun c12 => ?_)
              · have fc12 := z_ne (rfl : (r11).toInt = _) (by decide : (0 : Int32).toInt = 0) c12
                refine lv_ldc hx hb hown (ht _ m_457) dX11_cut_79 ?_
                have hP9 : va_P (dC, dI) classes (WX h g ca (u2 iv 6 7 (iv 6 7)) lv (u2 (u2 (u2 (u2 (u2 (u2 fa 6 0 (fa 6 0)) 6 1 (fa 6 1)) 6 2 (fa 6 2)) 6 3 (fa 6 3)) 6 4 (fa 6 4)) 6 5 (fa 6 5)) la) s.heap := hP
                have hD9 : va_D A (WX h g ca (u2 iv 6 7 (iv 6 7)) lv (u2 (u2 (u2 (u2 (u2 (u2 fa 6 0 (fa 6 0)) 6 1 (fa 6 1)) 6 2 (fa 6 2)) 6 3 (fa 6 3)) 6 4 (fa 6 4)) 6 5 (fa 6 5)) la) := hD
                exact W.iret (v := (-100003)) hx hb hr (fun t ht9 hW => ⟨⟨(-100003), ((u2 iv 6 7 (iv 6 7)), lv, (u2 (u2 (u2 (u2 (u2 (u2 fa 6 0 (fa 6 0)) 6 1 (fa 6 1)) 6 2 (fa 6 2)) 6 3 (fa 6 3)) 6 4 (fa 6 4)) 6 5 (fa 6 5)), la), rfl, ⟨(fa 6 0), (fa 6 1), (fa 6 2), (fa 6 3), (fa 6 4), (fa 6 5), (iv 6 7), (hI.2 6 3), (hI.1 6 7), ⟨by decide, by decide⟩, rfl⟩, by rw [ht9]; exact hP9, hD9⟩, hS.F ht9⟩) hS.2.2 dX11_cut_81
              · have fc12 := z_eq (rfl : (r11).toInt = _) (by decide : (0 : Int32).toInt = 0) c12
                refine lv_aload_n hx hb dX11_cut_68 rfl (lv_at hl 0 rfl) ?_
                refine gX_11_9 hx hb ht hown hK hP m_424 dX11_cut_69 ?_
                refine lv_iload_n hx hb dX11_cut_72 rfl (lv_at hl 1 rfl) ?_
                refine vp_callSi (W.runV (As := [.int a]) (rest := []) ⟨hx, hb, hml, hown, ht⟩ (c_X6_isBilled l dC dI h g ca iv lv fa la hI a) (kV 1 ht m_1104 m_1105 m_1106 m_88 m_1107 rfl rfl hd_X6_isBilled_v ⟨Nat.le_of_ble_eq_true rfl, Nat.le_of_ble_eq_true rfl⟩) (vR hP hK (rX_6 hK hP)) rfl rfl hl.1 rfl (lv_room (Nat.le_of_ble_eq_true rfl)) dX11_cut_73 ⟨Nat.le_of_ble_eq_true rfl, Nat.le_of_ble_eq_true rfl⟩) (fun r13 hr13 => ?_)
                refine lv_if_eq (tgt := 82) hx hb dX11_cut_76 (by decide) (fun c14 => ?_) (fun c14 => ?_)
                · have fc14 := z_eq (rfl : (r13).toInt = _) (by decide : (0 : Int32).toInt = 0) c14
                  refine lv_aload_n hx hb dX11_cut_82 rfl (lv_at hl 0 rfl) ?_
                  refine gX_11_9 hx hb ht hown hK hP m_424 dX11_cut_83 ?_
                  refine lv_iconst (v := 2) hx hb dX11_cut_86 (by decide) ?_
                  refine vp_callSi (W.runV (As := [.int 2]) (rest := []) ⟨hx, hb, hml, hown, ht⟩ (c_X6_hasRoom_b l dC dI h g ca iv lv fa la hI 2 ⟨by decide, by decide⟩) (kV 1 ht m_1083 m_1084 m_1085 m_88 m_1086 rfl rfl hd_X6_hasRoom_v ⟨Nat.le_of_ble_eq_true rfl, Nat.le_of_ble_eq_true rfl⟩) (vR hP hK (rX_6 hK hP)) rfl rfl hl.1 rfl (lv_room (Nat.le_of_ble_eq_true rfl)) dX11_cut_87 ⟨Nat.le_of_ble_eq_true rfl, Nat.le_of_ble_eq_true rfl⟩) (fun r15 hr15 => ?_)
                  rcases hr15 with ⟨rfl, fr15⟩ | ⟨rfl, fr15⟩
                  · skip
                    have fr15 : (((iv 6 7) : Int32).toInt + 2 ≤ 40) := by have q9 := fr15; rw [show (2 : Int32).toInt = 2 from by decide] at q9; exact q9
                    refine lv_if_ne (tgt := 96) hx hb dX11_cut_90 (by decide) (fun c16 => ?_) (fun c16 => ?_)
                    · skip
                      refine lv_aload_n hx hb dX11_cut_96 rfl (lv_at hl 0 rfl) ?_
                      refine gX_11_9 hx hb ht hown hK hP m_424 dX11_cut_97 ?_
                      refine gX_6_5 hx hb ht hown hK hP m_394 dX11_cut_100 ?_
                      refine lv_iload_n hx hb dX11_cut_103 rfl (lv_at hl 1 rfl) ?_
                      refine lv_aload_n hx hb dX11_cut_104 rfl (lv_at hl 0 rfl) ?_
                      have i_11_10 : 0 ≤ (iv 11 10).toInt ∧ (iv 11 10).toInt ≤ 3000 := hI.1 11 10
                      refine gX_11_10 hx hb ht hown hK hP m_425 (v := (iv 11 10)) rfl dX11_cut_105 ?_
                      refine tX_6_5 hx hb hK hP hD hS (f0 := (fa 6 5)) rfl (i := a) (x := (iv 11 10)) (vp_in_iff.mpr ⟨by omega, by omega⟩) dX11_cut_108 (fun f17 ef17 H locs hP hD hS => ?_)
                      have hf17 : ∀ j, inb (bA 6 5 j) (f17 j) := fun j => full_i _
                      refine lv_aload_n hx hb dX11_cut_109 rfl (lv_at hl 0 rfl) ?_
                      refine gX_11_9 hx hb ht hown hK hP m_424 dX11_cut_110 ?_
                      refine lv_iconst (v := 0) hx hb dX11_cut_113 (by decide) ?_
                      refine lv_aload_n hx hb dX11_cut_114 rfl (lv_at hl 0 rfl) ?_
                      refine gX_11_9 hx hb ht hown hK hP m_424 dX11_cut_115 ?_
                      refine gX_6_1 hx hb ht hown hK hP m_386 dX11_cut_118 ?_
                      refine lv_iload_n hx hb dX11_cut_121 rfl (lv_at hl 1 rfl) ?_
                      refine lX_6_1 hx hb hK hP (f := (fa 6 1)) rfl (vp_in_iff.mpr ⟨by omega, by omega⟩) dX11_cut_122 ?_
                      refine lv_topi (fun v18 ev18 => ?_)
                      refine lv_iload_n hx hb dX11_cut_123 rfl (lv_at hl 2 rfl) ?_
                      refine lv_iload_n hx hb dX11_cut_124 rfl (lv_at hl 1 rfl) ?_
                      refine lv_aload_n hx hb dX11_cut_125 rfl (lv_at hl 0 rfl) ?_
                      refine gX_11_10 hx hb ht hown hK hP m_425 (v := (iv 11 10)) rfl dX11_cut_126 ?_
                      have hFc := free_all hD hS hA
                      refine va_calli (va_runV (As := [.int 0, .int v18, .int b, .int a, .int (iv 11 10)]) (rest := []) ⟨hx, hb, hml, hown, ht⟩ (c_X6_write l dC dI H.size h g ca iv lv (u2 fa 6 5 f17) la (IX_a (c := 6) (k := 5) hI hf17) 0 v18 b a (iv 11 10) (show 0 ≤ ((iv 6 7) : Int32).toInt ∧ ((iv 6 7) : Int32).toInt ≤ 39 from ⟨by omega, by omega⟩) ⟨by omega, by omega⟩) (kV 5 ht m_1087 m_1088 m_1089 m_88 m_1090 rfl rfl hd_X6_write_v ⟨Nat.le_of_ble_eq_true rfl, Nat.le_of_ble_eq_true rfl⟩) (vW hP hK hD (rX_6 hK hP)) rfl rfl hl.1 rfl (lv_room (Nat.le_of_ble_eq_true rfl)) dX11_cut_129 ⟨Nat.le_of_ble_eq_true rfl, Nat.le_of_ble_eq_true rfl⟩) hS (fun q _ h => hFc q h) hFc (fun r19 u t H1 locs ht9 hvm hr19 hB hz1 hk1 hS => ?_)
                      obtain ⟨n20, n21, n22, n23, n24, n25, n26, hn23, hn26, dn26, hr19, rfl⟩ := hr19
                      have hn20 : ∀ j, inb (bA 6 0 j) (n20 j) := fun j => full_i _
                      have hn21 : ∀ j, inb (bA 6 1 j) (n21 j) := fun j => full_i _
                      have hn22 : ∀ j, inb (bA 6 2 j) (n22 j) := fun j => full_i _
                      have hn24 : ∀ j, inb (bA 6 4 j) (n24 j) := fun j => full_i _
                      have hn25 : ∀ j, inb (bA 6 5 j) (n25 j) := fun j => full_i _
                      have dn26 : n26.toInt = ((iv 6 7) : Int32).toInt + 1 := dn26
                      have hn26 : 0 ≤ n26.toInt ∧ n26.toInt ≤ 40 := hn26
                      obtain ⟨hP, hD⟩ := hB
                      rw [ht9] at hP
                      generalize H1 = H at hP hS ⊢
                      have hP : va_P (dC, dI) classes (WX h g ca (u2 iv 6 7 n26) lv (u2 (u2 (u2 (u2 (u2 (u2 fa 6 5 n25) 6 0 n20) 6 1 n21) 6 2 n22) 6 3 n23) 6 4 n24) la) H := hP
                      have hD : va_D A (WX h g ca (u2 iv 6 7 n26) lv (u2 (u2 (u2 (u2 (u2 (u2 fa 6 5 n25) 6 0 n20) 6 1 n21) 6 2 n22) 6 3 n23) 6 4 n24) la) := (show va_D _ (WX h g ca (u2 iv 6 7 n26) lv (u2 (u2 (u2 (u2 (u2 (u2 fa 6 5 n25) 6 0 n20) 6 1 n21) 6 2 n22) 6 3 n23) 6 4 n24) la) from hD).weaken (fun _ _ _ h => hFc _ h)
                      refine lv_istore (lv' := [(4, .int r19), (0, .ref h), (1, .int a), (2, .int b), (3, .int d)]) hx hb dX11_cut_132 hl (by decide) rfl (fun ls hl => ?_)
                      refine lv_aload_n hx hb dX11_cut_134 rfl (lv_at hl 1 rfl) ?_
                      refine gX_11_9 hx hb ht hown hK hP m_424 dX11_cut_135 ?_
                      refine lv_iconst (v := 0) hx hb dX11_cut_138 (by decide) ?_
                      refine lv_aload_n hx hb dX11_cut_139 rfl (lv_at hl 1 rfl) ?_
                      refine gX_11_9 hx hb ht hown hK hP m_424 dX11_cut_140 ?_
                      refine gX_6_1 hx hb ht hown hK hP m_386 dX11_cut_143 ?_
                      refine lv_iload_n hx hb dX11_cut_146 rfl (lv_at hl 2 rfl) ?_
                      refine lX_6_1 hx hb hK hP (f := n21) rfl (vp_in_iff.mpr ⟨by omega, by omega⟩) dX11_cut_147 ?_
                      refine lv_topi (fun v27 ev27 => ?_)
                      refine lv_iload_n hx hb dX11_cut_148 rfl (lv_at hl 4 rfl) ?_
                      refine lv_iload_n hx hb dX11_cut_149 rfl (lv_at hl 2 rfl) ?_
                      refine lv_aload_n hx hb dX11_cut_150 rfl (lv_at hl 1 rfl) ?_
                      refine gX_11_10 hx hb ht hown hK hP m_425 (v := (iv 11 10)) rfl dX11_cut_151 ?_
                      have hFc := free_all hD hS hA
                      refine va_calli (va_runV (As := [.int 0, .int v27, .int d, .int a, .int (iv 11 10)]) (rest := []) ⟨hx, hb, hml, hown, ht⟩ (c_X6_write l dC dI H.size h g ca (u2 iv 6 7 n26) lv (u2 (u2 (u2 (u2 (u2 (u2 fa 6 5 n25) 6 0 n20) 6 1 n21) 6 2 n22) 6 3 n23) 6 4 n24) la (IX_a (c := 6) (k := 4) (IX_a (c := 6) (k := 3) (IX_a (c := 6) (k := 2) (IX_a (c := 6) (k := 1) (IX_a (c := 6) (k := 0) (IX_a (c := 6) (k := 5) (IX_i (c := 6) (k := 7) hI (show inb (0, 40) n26 from ⟨by omega, by omega⟩)) hn25) hn20) hn21) hn22) hn23) hn24) 0 v27 d a (iv 11 10) (show 0 ≤ (n26 : Int32).toInt ∧ (n26 : Int32).toInt ≤ 39 from ⟨by omega, by omega⟩) ⟨by omega, by omega⟩) (kV 5 ht m_1087 m_1088 m_1089 m_88 m_1090 rfl rfl hd_X6_write_v ⟨Nat.le_of_ble_eq_true rfl, Nat.le_of_ble_eq_true rfl⟩) (vW hP hK hD (rX_6 hK hP)) rfl rfl hl.1 rfl (lv_room (Nat.le_of_ble_eq_true rfl)) dX11_cut_154 ⟨Nat.le_of_ble_eq_true rfl, Nat.le_of_ble_eq_true rfl⟩) hS (fun q _ h => hFc q h) hFc (fun r28 u t H1 locs ht9 hvm hr28 hB hz1 hk1 hS => ?_)
                      obtain ⟨n29, n30, n31, n32, n33, n34, n35, hn32, hn35, dn35, hr28, rfl⟩ := hr28
                      have hn29 : ∀ j, inb (bA 6 0 j) (n29 j) := fun j => full_i _
                      have hn30 : ∀ j, inb (bA 6 1 j) (n30 j) := fun j => full_i _
                      have hn31 : ∀ j, inb (bA 6 2 j) (n31 j) := fun j => full_i _
                      have hn33 : ∀ j, inb (bA 6 4 j) (n33 j) := fun j => full_i _
                      have hn34 : ∀ j, inb (bA 6 5 j) (n34 j) := fun j => full_i _
                      have dn35 : n35.toInt = (n26 : Int32).toInt + 1 := dn35
                      have hn35 : 0 ≤ n35.toInt ∧ n35.toInt ≤ 40 := hn35
                      obtain ⟨hP, hD⟩ := hB
                      rw [ht9] at hP
                      generalize H1 = H at hP hS ⊢
                      have hP : va_P (dC, dI) classes (WX h g ca (u2 iv 6 7 n35) lv (u2 (u2 (u2 (u2 (u2 (u2 fa 6 5 n34) 6 0 n29) 6 1 n30) 6 2 n31) 6 3 n32) 6 4 n33) la) H := hP
                      have hD : va_D A (WX h g ca (u2 iv 6 7 n35) lv (u2 (u2 (u2 (u2 (u2 (u2 fa 6 5 n34) 6 0 n29) 6 1 n30) 6 2 n31) 6 3 n32) 6 4 n33) la) := (show va_D _ (WX h g ca (u2 iv 6 7 n35) lv (u2 (u2 (u2 (u2 (u2 (u2 fa 6 5 n34) 6 0 n29) 6 1 n30) 6 2 n31) 6 3 n32) 6 4 n33) la) from hD).weaken (fun _ _ _ h => hFc _ h)
                      refine lv_pop hx hb dX11_cut_157 rfl ?_
                      refine lv_iload hx hb dX11_cut_158 (lv_at hl 0 rfl) ?_
                      have hP9 : va_P (dC, dI) classes (WX h g ca (u2 iv 6 7 n35) lv (u2 (u2 (u2 (u2 (u2 (u2 fa 6 0 n29) 6 1 n30) 6 2 n31) 6 3 n32) 6 4 n33) 6 5 n34) la) H := hP
                      have hD9 : va_D A (WX h g ca (u2 iv 6 7 n35) lv (u2 (u2 (u2 (u2 (u2 (u2 fa 6 0 n29) 6 1 n30) 6 2 n31) 6 3 n32) 6 4 n33) 6 5 n34) la) := hD
                      exact W.iret (v := r19) hx hb hr (fun t ht9 hW => ⟨⟨r19, ((u2 iv 6 7 n35), lv, (u2 (u2 (u2 (u2 (u2 (u2 fa 6 0 n29) 6 1 n30) 6 2 n31) 6 3 n32) 6 4 n33) 6 5 n34), la), rfl, ⟨n29, n30, n31, n32, n33, n34, n35, hn32, (show inb (0, 40) n35 from ⟨by omega, by omega⟩), ⟨by omega, by omega⟩, rfl⟩, by rw [ht9]; exact hP9, hD9⟩, hS.F ht9⟩) hS.2.2 dX11_cut_160
                    · exact absurd c16 (by decide)
                  · skip
                    have fr15 : ¬ (((iv 6 7) : Int32).toInt + 2 ≤ 40) := by have q9 := fr15; rw [show (2 : Int32).toInt = 2 from by decide] at q9; exact q9
                    refine lv_if_ne (tgt := 96) hx hb dX11_cut_90 (by decide) (fun c36 => ?_) (fun c36 => ?_)
                    · exact absurd rfl c36
                    · skip
                      refine lv_ldc hx hb hown (ht _ m_463) dX11_cut_93 ?_
                      have hP9 : va_P (dC, dI) classes (WX h g ca (u2 iv 6 7 (iv 6 7)) lv (u2 (u2 (u2 (u2 (u2 (u2 fa 6 0 (fa 6 0)) 6 1 (fa 6 1)) 6 2 (fa 6 2)) 6 3 (fa 6 3)) 6 4 (fa 6 4)) 6 5 (fa 6 5)) la) s.heap := hP
                      have hD9 : va_D A (WX h g ca (u2 iv 6 7 (iv 6 7)) lv (u2 (u2 (u2 (u2 (u2 (u2 fa 6 0 (fa 6 0)) 6 1 (fa 6 1)) 6 2 (fa 6 2)) 6 3 (fa 6 3)) 6 4 (fa 6 4)) 6 5 (fa 6 5)) la) := hD
                      exact W.iret (v := (-100004)) hx hb hr (fun t ht9 hW => ⟨⟨(-100004), ((u2 iv 6 7 (iv 6 7)), lv, (u2 (u2 (u2 (u2 (u2 (u2 fa 6 0 (fa 6 0)) 6 1 (fa 6 1)) 6 2 (fa 6 2)) 6 3 (fa 6 3)) 6 4 (fa 6 4)) 6 5 (fa 6 5)), la), rfl, ⟨(fa 6 0), (fa 6 1), (fa 6 2), (fa 6 3), (fa 6 4), (fa 6 5), (iv 6 7), (hI.2 6 3), (hI.1 6 7), ⟨by decide, by decide⟩, rfl⟩, by rw [ht9]; exact hP9, hD9⟩, hS.F ht9⟩) hS.2.2 dX11_cut_95
                · have fc14 := z_ne (rfl : (r13).toInt = _) (by decide : (0 : Int32).toInt = 0) c14
                  refine lv_ldc hx hb hown (ht _ m_457) dX11_cut_79 ?_
                  have hP9 : va_P (dC, dI) classes (WX h g ca (u2 iv 6 7 (iv 6 7)) lv (u2 (u2 (u2 (u2 (u2 (u2 fa 6 0 (fa 6 0)) 6 1 (fa 6 1)) 6 2 (fa 6 2)) 6 3 (fa 6 3)) 6 4 (fa 6 4)) 6 5 (fa 6 5)) la) s.heap := hP
                  have hD9 : va_D A (WX h g ca (u2 iv 6 7 (iv 6 7)) lv (u2 (u2 (u2 (u2 (u2 (u2 fa 6 0 (fa 6 0)) 6 1 (fa 6 1)) 6 2 (fa 6 2)) 6 3 (fa 6 3)) 6 4 (fa 6 4)) 6 5 (fa 6 5)) la) := hD
                  exact W.iret (v := (-100003)) hx hb hr (fun t ht9 hW => ⟨⟨(-100003), ((u2 iv 6 7 (iv 6 7)), lv, (u2 (u2 (u2 (u2 (u2 (u2 fa 6 0 (fa 6 0)) 6 1 (fa 6 1)) 6 2 (fa 6 2)) 6 3 (fa 6 3)) 6 4 (fa 6 4)) 6 5 (fa 6 5)), la), rfl, ⟨(fa 6 0), (fa 6 1), (fa 6 2), (fa 6 3), (fa 6 4), (fa 6 5), (iv 6 7), (hI.2 6 3), (hI.1 6 7), ⟨by decide, by decide⟩, rfl⟩, by rw [ht9]; exact hP9, hD9⟩, hS.F ht9⟩) hS.2.2 dX11_cut_81
          · have fc8 := zc_ne ev7 (rfl : (w5).toInt = _) ((Int32.toInt_toInt64 v6).trans rfl) c8
            refine lv_ldc hx hb hown (ht _ m_456) dX11_cut_43 ?_
            have hP9 : va_P (dC, dI) classes (WX h g ca (u2 iv 6 7 (iv 6 7)) lv (u2 (u2 (u2 (u2 (u2 (u2 fa 6 0 (fa 6 0)) 6 1 (fa 6 1)) 6 2 (fa 6 2)) 6 3 (fa 6 3)) 6 4 (fa 6 4)) 6 5 (fa 6 5)) la) s.heap := hP
            have hD9 : va_D A (WX h g ca (u2 iv 6 7 (iv 6 7)) lv (u2 (u2 (u2 (u2 (u2 (u2 fa 6 0 (fa 6 0)) 6 1 (fa 6 1)) 6 2 (fa 6 2)) 6 3 (fa 6 3)) 6 4 (fa 6 4)) 6 5 (fa 6 5)) la) := hD
            exact W.iret (v := (-100002)) hx hb hr (fun t ht9 hW => ⟨⟨(-100002), ((u2 iv 6 7 (iv 6 7)), lv, (u2 (u2 (u2 (u2 (u2 (u2 fa 6 0 (fa 6 0)) 6 1 (fa 6 1)) 6 2 (fa 6 2)) 6 3 (fa 6 3)) 6 4 (fa 6 4)) 6 5 (fa 6 5)), la), rfl, ⟨(fa 6 0), (fa 6 1), (fa 6 2), (fa 6 3), (fa 6 4), (fa 6 5), (iv 6 7), (hI.2 6 3), (hI.1 6 7), ⟨by decide, by decide⟩, rfl⟩, by rw [ht9]; exact hP9, hD9⟩, hS.F ht9⟩) hS.2.2 dX11_cut_45
    · exact absurd c2 (by decide)
  · skip
    have i_6_7 : 0 ≤ (iv 6 7).toInt ∧ (iv 6 7).toInt ≤ 40 := hI.1 6 7
    have fr1 : ¬ (0 ≤ (a : Int32).toInt ∧ (a : Int32).toInt < ((iv 6 7) : Int32).toInt) := fr1
    refine lv_if_ne (tgt := 14) hx hb dX11_cut_8 (by decide) (fun c37 => ?_) (fun c37 => ?_)
    · exact absurd rfl c37
    · skip
      refine lv_ldc hx hb hown (ht _ m_476) dX11_cut_11 ?_
      have hP9 : va_P (dC, dI) classes (WX h g ca (u2 iv 6 7 (iv 6 7)) lv (u2 (u2 (u2 (u2 (u2 (u2 fa 6 0 (fa 6 0)) 6 1 (fa 6 1)) 6 2 (fa 6 2)) 6 3 (fa 6 3)) 6 4 (fa 6 4)) 6 5 (fa 6 5)) la) s.heap := hP
      have hD9 : va_D A (WX h g ca (u2 iv 6 7 (iv 6 7)) lv (u2 (u2 (u2 (u2 (u2 (u2 fa 6 0 (fa 6 0)) 6 1 (fa 6 1)) 6 2 (fa 6 2)) 6 3 (fa 6 3)) 6 4 (fa 6 4)) 6 5 (fa 6 5)) la) := hD
      exact W.iret (v := (-100001)) hx hb hr (fun t ht9 hW => ⟨⟨(-100001), ((u2 iv 6 7 (iv 6 7)), lv, (u2 (u2 (u2 (u2 (u2 (u2 fa 6 0 (fa 6 0)) 6 1 (fa 6 1)) 6 2 (fa 6 2)) 6 3 (fa 6 3)) 6 4 (fa 6 4)) 6 5 (fa 6 5)), la), rfl, ⟨(fa 6 0), (fa 6 1), (fa 6 2), (fa 6 3), (fa 6 4), (fa 6 5), (iv 6 7), (hI.2 6 3), (hI.1 6 7), ⟨by decide, by decide⟩, rfl⟩, by rw [ht9]; exact hP9, hD9⟩, hS.F ht9⟩) hS.2.2 dX11_cut_13
set_option maxHeartbeats 4000000 in
set_option maxRecDepth 100000 in
/-- X11_letter -/
theorem c_X11_letter (l : Launch) (dC : Nat → ClassId) (dI : Nat → Nat → Nat) (h : Nat) (g : Nat → Nat → Nat) (ca : Nat → Nat → ClassId) (iv : Nat → Nat → Int32) (lv : Nat → Nat → Int64) (fa : Nat → Nat → Nat → Int32) (la : Nat → Nat → Nat → Int64) (hI : IX iv fa) (a : Int32) (b : Int32) : Met l yX11_letter (wc yX11_letter cX11_letter 3 (some .int)) ({ frames := 1, cells := 0, slots := 0, locals := 24 } : Room) (pR (dC, dI) classes (WX h g ca iv lv fa la) (TX ca) [.ref h, .int a, .int b]) (vp_Si (fun r => True)) 0 0 (fun _ => False) := by
  refine Met.ofW (cc := cX11_letter) (maxL := 3) (ret := (some .int)) (by decide) rfl ?_
  intro p e s m args below meth c s₁ B hml hv
  obtain ⟨rfl, hP, hK⟩ := hv
  have hx := B.exec
  have hb := B.bytes
  have hr := B.returns
  have ht := tb_tl (atoms_spec (ws := wc yX11_letter cX11_letter 3 (some .int)) B.pre)
  have hown : s.vm.findClass RX11 = some m.cls := findClass_of_methodNamed B.named
  have hlocks := B.notSynchronized
  have hl := lv_entry [.ref h, .int a, .int b] (n := 3) (Nat.le_of_ble_eq_true rfl)
  rw [lg_entry_eq]
  generalize (lg_sl [.ref h, .int a, .int b] ++ List.replicate (3 - (lg_sl [.ref h, .int a, .int b]).length) Slot.unset).toArray = ls at hl ⊢
  have hl : lv_has ls 3 [(0, .ref h), (1, .int a), (2, .int b)] := hl
  refine lv_aload_n hx hb dX11_letter_0 rfl (lv_at hl 0 rfl) ?_
  refine gX_11_3 hx hb ht hown hK hP m_418 dX11_letter_1 ?_
  refine lv_iload_n hx hb dX11_letter_4 rfl (lv_at hl 1 rfl) ?_
  refine vp_callSi (W.runV (As := [.int a]) (rest := []) ⟨hx, hb, hml, hown, ht⟩ (c_X1_has l dC dI h g ca iv lv fa la hI a) (kV 1 ht m_821 m_822 m_823 m_81 m_824 rfl rfl hd_X1_has_v ⟨Nat.le_of_ble_eq_true rfl, Nat.le_of_ble_eq_true rfl⟩) (vR hP hK (rX_1 hK hP)) rfl rfl hl.1 rfl (lv_room (Nat.le_of_ble_eq_true rfl)) dX11_letter_5 ⟨Nat.le_of_ble_eq_true rfl, Nat.le_of_ble_eq_true rfl⟩) (fun r1 hr1 => ?_)
  rcases hr1 with ⟨rfl, fr1⟩ | rfl
  · skip
    refine lv_if_eq (tgt := 23) hx hb dX11_letter_8 (by decide) (fun c2 => ?_) (fun c2 => ?_)
    · exact absurd c2 (by decide)
    · skip
      refine lv_aload_n hx hb dX11_letter_11 rfl (lv_at hl 0 rfl) ?_
      refine gX_11_3 hx hb ht hown hK hP m_418 dX11_letter_12 ?_
      refine lv_iload_n hx hb dX11_letter_15 rfl (lv_at hl 1 rfl) ?_
      refine lv_iload_n hx hb dX11_letter_16 rfl (lv_at hl 2 rfl) ?_
      refine vp_callSi (W.runV (As := [.int a, .int b]) (rest := []) ⟨hx, hb, hml, hown, ht⟩ (c_X1_letterOf l dC dI h g ca iv lv fa la hI a b ⟨by omega, by omega⟩ ⟨by omega, by omega⟩) (kV 2 ht m_825 m_826 m_827 m_81 m_828 rfl rfl hd_X1_letterOf_v ⟨Nat.le_of_ble_eq_true rfl, Nat.le_of_ble_eq_true rfl⟩) (vR hP hK (rX_1 hK hP)) rfl rfl hl.1 rfl (lv_room (Nat.le_of_ble_eq_true rfl)) dX11_letter_17 ⟨Nat.le_of_ble_eq_true rfl, Nat.le_of_ble_eq_true rfl⟩) (fun r3 hr3 => ?_)
      refine lv_goto (tgt := 25) hx hb dX11_letter_20 (by decide) ?_
      exact W.iret (v := r3) hx hb hr (fun t ht9 hW => ⟨r3, rfl, trivial, ht9⟩) (fun q hq => by cases hq) dX11_letter_25
  · skip
    refine lv_if_eq (tgt := 23) hx hb dX11_letter_8 (by decide) (fun c4 => ?_) (fun c4 => ?_)
    · skip
      refine lv_ldc hx hb hown (ht _ m_476) dX11_letter_23 ?_
      exact W.iret (v := (-100001)) hx hb hr (fun t ht9 hW => ⟨(-100001), rfl, trivial, ht9⟩) (fun q hq => by cases hq) dX11_letter_25
    · exact absurd rfl c4
/-! ===== h11 ===== -/
theorem m_630 : Cond.constantLong RX7 20 (1000) ∈ tb := mb_3_2 _ (List.mem_of_getElem? (i := 19) rfl)
theorem m_631 : Cond.methodLink RX7 22 Lib.MathLoose.abs_long.x ∈ tb := mb_3_2 _ (List.mem_of_getElem? (i := 20) rfl)
theorem m_632 : Cond.static Lib.MathLoose.abs_long.x ∈ tb := mb_3_2 _ (List.mem_of_getElem? (i := 21) rfl)
theorem m_633 : Cond.code Lib.MathLoose.abs_long.x Lib.MathLoose.abs_long.code 2 (some .long) ∈ tb := mb_3_2 _ (List.mem_of_getElem? (i := 22) rfl)
set_option maxRecDepth 100000 in
theorem dvX7_differ_0 : ([(0, .ldc2_w 20, 3), (3, .aload_n 0, 1), (4, .getfield 13, 3), (7, .iload_n 1, 1), (8, .laload, 1), (9, .aload_n 0, 1), (10, .getfield 7, 3), (13, .iload_n 2, 1), (14, .laload, 1), (15, .lmul, 1), (16, .aload_n 0, 1), (17, .getfield 13, 3), (20, .iload_n 2, 1), (21, .laload, 1), (22, .aload_n 0, 1), (23, .getfield 7, 3), (26, .iload_n 1, 1), (27, .laload, 1), (28, .lmul, 1), (29, .lsub, 1), (30, .invokestatic 22, 3), (33, .lmul, 1), (34, .iload_n 3, 1), (35, .i2l, 1)] : List (Nat × Instr × Nat)).all (fun q => decide (decode cX7_differ q.1 = .ok (q.2.1, q.2.2))) = true := by decide +kernel
theorem dX7_differ_0 : decode cX7_differ 0 = .ok (.ldc2_w 20, 3) := all_at dvX7_differ_0 0 rfl
theorem dX7_differ_3 : decode cX7_differ 3 = .ok (.aload_n 0, 1) := all_at dvX7_differ_0 1 rfl
theorem dX7_differ_4 : decode cX7_differ 4 = .ok (.getfield 13, 3) := all_at dvX7_differ_0 2 rfl
theorem dX7_differ_7 : decode cX7_differ 7 = .ok (.iload_n 1, 1) := all_at dvX7_differ_0 3 rfl
theorem dX7_differ_8 : decode cX7_differ 8 = .ok (.laload, 1) := all_at dvX7_differ_0 4 rfl
theorem dX7_differ_9 : decode cX7_differ 9 = .ok (.aload_n 0, 1) := all_at dvX7_differ_0 5 rfl
theorem dX7_differ_10 : decode cX7_differ 10 = .ok (.getfield 7, 3) := all_at dvX7_differ_0 6 rfl
theorem dX7_differ_13 : decode cX7_differ 13 = .ok (.iload_n 2, 1) := all_at dvX7_differ_0 7 rfl
theorem dX7_differ_14 : decode cX7_differ 14 = .ok (.laload, 1) := all_at dvX7_differ_0 8 rfl
theorem dX7_differ_15 : decode cX7_differ 15 = .ok (.lmul, 1) := all_at dvX7_differ_0 9 rfl
theorem dX7_differ_16 : decode cX7_differ 16 = .ok (.aload_n 0, 1) := all_at dvX7_differ_0 10 rfl
theorem dX7_differ_17 : decode cX7_differ 17 = .ok (.getfield 13, 3) := all_at dvX7_differ_0 11 rfl
theorem dX7_differ_20 : decode cX7_differ 20 = .ok (.iload_n 2, 1) := all_at dvX7_differ_0 12 rfl
theorem dX7_differ_21 : decode cX7_differ 21 = .ok (.laload, 1) := all_at dvX7_differ_0 13 rfl
theorem dX7_differ_22 : decode cX7_differ 22 = .ok (.aload_n 0, 1) := all_at dvX7_differ_0 14 rfl
theorem dX7_differ_23 : decode cX7_differ 23 = .ok (.getfield 7, 3) := all_at dvX7_differ_0 15 rfl
theorem dX7_differ_26 : decode cX7_differ 26 = .ok (.iload_n 1, 1) := all_at dvX7_differ_0 16 rfl
theorem dX7_differ_27 : decode cX7_differ 27 = .ok (.laload, 1) := all_at dvX7_differ_0 17 rfl
theorem dX7_differ_28 : decode cX7_differ 28 = .ok (.lmul, 1) := all_at dvX7_differ_0 18 rfl
theorem dX7_differ_29 : decode cX7_differ 29 = .ok (.lsub, 1) := all_at dvX7_differ_0 19 rfl
theorem dX7_differ_30 : decode cX7_differ 30 = .ok (.invokestatic 22, 3) := all_at dvX7_differ_0 20 rfl
theorem dX7_differ_33 : decode cX7_differ 33 = .ok (.lmul, 1) := all_at dvX7_differ_0 21 rfl
theorem dX7_differ_34 : decode cX7_differ 34 = .ok (.iload_n 3, 1) := all_at dvX7_differ_0 22 rfl
theorem dX7_differ_35 : decode cX7_differ 35 = .ok (.i2l, 1) := all_at dvX7_differ_0 23 rfl
set_option maxRecDepth 100000 in
theorem dvX7_differ_36 : ([(36, .aload_n 0, 1), (37, .getfield 7, 3), (40, .iload_n 1, 1), (41, .laload, 1), (42, .lmul, 1), (43, .aload_n 0, 1), (44, .getfield 7, 3), (47, .iload_n 2, 1), (48, .laload, 1), (49, .lmul, 1), (50, .lcmp, 1), (51, .ifCond .le 7, 3), (54, .iconst 1, 1), (55, .goto 4, 3), (58, .iconst 0, 1), (59, .ireturn, 1)] : List (Nat × Instr × Nat)).all (fun q => decide (decode cX7_differ q.1 = .ok (q.2.1, q.2.2))) = true := by decide +kernel
theorem dX7_differ_36 : decode cX7_differ 36 = .ok (.aload_n 0, 1) := all_at dvX7_differ_36 0 rfl
theorem dX7_differ_37 : decode cX7_differ 37 = .ok (.getfield 7, 3) := all_at dvX7_differ_36 1 rfl
theorem dX7_differ_40 : decode cX7_differ 40 = .ok (.iload_n 1, 1) := all_at dvX7_differ_36 2 rfl
theorem dX7_differ_41 : decode cX7_differ 41 = .ok (.laload, 1) := all_at dvX7_differ_36 3 rfl
theorem dX7_differ_42 : decode cX7_differ 42 = .ok (.lmul, 1) := all_at dvX7_differ_36 4 rfl
theorem dX7_differ_43 : decode cX7_differ 43 = .ok (.aload_n 0, 1) := all_at dvX7_differ_36 5 rfl
theorem dX7_differ_44 : decode cX7_differ 44 = .ok (.getfield 7, 3) := all_at dvX7_differ_36 6 rfl
theorem dX7_differ_47 : decode cX7_differ 47 = .ok (.iload_n 2, 1) := all_at dvX7_differ_36 7 rfl
theorem dX7_differ_48 : decode cX7_differ 48 = .ok (.laload, 1) := all_at dvX7_differ_36 8 rfl
theorem dX7_differ_49 : decode cX7_differ 49 = .ok (.lmul, 1) := all_at dvX7_differ_36 9 rfl
theorem dX7_differ_50 : decode cX7_differ 50 = .ok (.lcmp, 1) := all_at dvX7_differ_36 10 rfl
theorem dX7_differ_51 : decode cX7_differ 51 = .ok (.ifCond .le 7, 3) := all_at dvX7_differ_36 11 rfl
theorem dX7_differ_54 : decode cX7_differ 54 = .ok (.iconst 1, 1) := all_at dvX7_differ_36 12 rfl
theorem dX7_differ_55 : decode cX7_differ 55 = .ok (.goto 4, 3) := all_at dvX7_differ_36 13 rfl
theorem dX7_differ_58 : decode cX7_differ 58 = .ok (.iconst 0, 1) := all_at dvX7_differ_36 14 rfl
theorem dX7_differ_59 : decode cX7_differ 59 = .ok (.ireturn, 1) := all_at dvX7_differ_36 15 rfl
set_option maxHeartbeats 4000000 in
set_option maxRecDepth 100000 in
/-- X7_differ -/
theorem c_X7_differ_30 (l : Launch) (dC : Nat → ClassId) (dI : Nat → Nat → Nat) (h : Nat) (g : Nat → Nat → Nat) (ca : Nat → Nat → ClassId) (iv : Nat → Nat → Int32) (lv : Nat → Nat → Int64) (fa : Nat → Nat → Nat → Int32) (la : Nat → Nat → Nat → Int64) (hI : IX iv fa) (a : Int32) (b : Int32) (d : Int32) (h_a : 0 ≤ a.toInt ∧ a.toInt ≤ 2) (h_b : 0 ≤ b.toInt ∧ b.toInt ≤ 2) : Met l yX7_differ (wc yX7_differ cX7_differ 4 (some .boolean)) ({ frames := 1, cells := 0, slots := 0, locals := 40 } : Room) (pR (dC, dI) classes (WX h g ca iv lv fa la) (TX ca) [.ref (g 3 2), .int a, .int b, .int d]) (vp_Si (fun r => 0 ≤ r.toInt ∧ r.toInt ≤ 1)) 0 0 (fun _ => False) := by
  refine Met.ofW (cc := cX7_differ) (maxL := 4) (ret := (some .boolean)) (by decide) rfl ?_
  intro p e s m args below meth c s₁ B hml hv
  obtain ⟨rfl, hP, hK⟩ := hv
  have hx := B.exec
  have hb := B.bytes
  have hr := B.returns
  have ht := tb_tl (atoms_spec (ws := wc yX7_differ cX7_differ 4 (some .boolean)) B.pre)
  have hown : s.vm.findClass RX7 = some m.cls := findClass_of_methodNamed B.named
  have hlocks := B.notSynchronized
  have hl := lv_entry [.ref (g 3 2), .int a, .int b, .int d] (n := 4) (Nat.le_of_ble_eq_true rfl)
  rw [lg_entry_eq]
  generalize (lg_sl [.ref (g 3 2), .int a, .int b, .int d] ++ List.replicate (4 - (lg_sl [.ref (g 3 2), .int a, .int b, .int d]).length) Slot.unset).toArray = ls at hl ⊢
  have hl : lv_has ls 4 [(0, .ref (g 3 2)), (1, .int a), (2, .int b), (3, .int d)] := hl
  refine lv_ldc2 hx hb hown (ht _ m_630) dX7_differ_0 ?_
  refine lv_aload_n hx hb dX7_differ_3 rfl (lv_at hl 0 rfl) ?_
  refine gX_30_1 hx hb ht hown hK hP m_264 dX7_differ_4 ?_
  refine lv_iload_n hx hb dX7_differ_7 rfl (lv_at hl 1 rfl) ?_
  refine lX_30_1 hx hb hK hP (f := (la 30 1)) rfl (vp_in_iff.mpr ⟨by omega, by omega⟩) dX7_differ_8 ?_
  refine lv_topl (fun w1 ew1 => ?_)
  refine lv_aload_n hx hb dX7_differ_9 rfl (lv_at hl 0 rfl) ?_
  refine gX_30_0 hx hb ht hown hK hP m_261 dX7_differ_10 ?_
  refine lv_iload_n hx hb dX7_differ_13 rfl (lv_at hl 2 rfl) ?_
  refine lX_30_0 hx hb hK hP (f := (la 30 0)) rfl (vp_in_iff.mpr ⟨by omega, by omega⟩) dX7_differ_14 ?_
  refine lv_topl (fun w2 ew2 => ?_)
  refine lv_lmul hx hb dX7_differ_15 ?_
  refine lv_topl (fun w3 ew3 => ?_)
  refine lv_aload_n hx hb dX7_differ_16 rfl (lv_at hl 0 rfl) ?_
  refine gX_30_1 hx hb ht hown hK hP m_264 dX7_differ_17 ?_
  refine lv_iload_n hx hb dX7_differ_20 rfl (lv_at hl 2 rfl) ?_
  refine lX_30_1 hx hb hK hP (f := (la 30 1)) rfl (vp_in_iff.mpr ⟨by omega, by omega⟩) dX7_differ_21 ?_
  refine lv_topl (fun w4 ew4 => ?_)
  refine lv_aload_n hx hb dX7_differ_22 rfl (lv_at hl 0 rfl) ?_
  refine gX_30_0 hx hb ht hown hK hP m_261 dX7_differ_23 ?_
  refine lv_iload_n hx hb dX7_differ_26 rfl (lv_at hl 1 rfl) ?_
  refine lX_30_0 hx hb hK hP (f := (la 30 0)) rfl (vp_in_iff.mpr ⟨by omega, by omega⟩) dX7_differ_27 ?_
  refine lv_topl (fun w5 ew5 => ?_)
  refine lv_lmul hx hb dX7_differ_28 ?_
  refine lv_topl (fun w6 ew6 => ?_)
  refine lv_lsub hx hb dX7_differ_29 ?_
  refine lv_topl (fun w7 ew7 => ?_)
  refine va_mabs_long hx hb (hml.trans hl.1.symm) hown (ht _ m_631) (ht _ m_632) (ht _ m_90) (ht _ m_633) (Nat.le_of_ble_eq_true rfl) (Nat.le_of_ble_eq_true rfl) (Nat.le_of_ble_eq_true rfl) (Nat.le_of_ble_eq_true rfl) dX7_differ_30 ?_
  refine lv_topl (fun w8 ew8 => ?_)
  refine lv_lmul hx hb dX7_differ_33 ?_
  refine lv_topl (fun w9 ew9 => ?_)
  refine lv_iload_n hx hb dX7_differ_34 rfl (lv_at hl 3 rfl) ?_
  refine lv_i2l (v := (d.toInt64)) hx hb dX7_differ_35 rfl ?_
  refine lv_aload_n hx hb dX7_differ_36 rfl (lv_at hl 0 rfl) ?_
  refine gX_30_0 hx hb ht hown hK hP m_261 dX7_differ_37 ?_
  refine lv_iload_n hx hb dX7_differ_40 rfl (lv_at hl 1 rfl) ?_
  refine lX_30_0 hx hb hK hP (f := (la 30 0)) rfl (vp_in_iff.mpr ⟨by omega, by omega⟩) dX7_differ_41 ?_
  refine lv_topl (fun w10 ew10 => ?_)
  refine lv_lmul hx hb dX7_differ_42 ?_
  refine lv_topl (fun w11 ew11 => ?_)
  refine lv_aload_n hx hb dX7_differ_43 rfl (lv_at hl 0 rfl) ?_
  refine gX_30_0 hx hb ht hown hK hP m_261 dX7_differ_44 ?_
  refine lv_iload_n hx hb dX7_differ_47 rfl (lv_at hl 2 rfl) ?_
  refine lX_30_0 hx hb hK hP (f := (la 30 0)) rfl (vp_in_iff.mpr ⟨by omega, by omega⟩) dX7_differ_48 ?_
  refine lv_topl (fun w12 ew12 => ?_)
  refine lv_lmul hx hb dX7_differ_49 ?_
  refine lv_topl (fun w13 ew13 => ?_)
  refine W.lcmp hx hb dX7_differ_50 ?_
  refine lv_topi (fun v14 ev14 => ?_)
  refine lv_if_le (tgt := 58) hx hb dX7_differ_51 (by decide) (fun c15 => ?_) (fun c15 => ?_)
  · have fc15 := zc_ngt ev14 (rfl : (w9).toInt = _) (rfl : (w13).toInt = _) (Int32.not_lt.mpr c15)
    refine lv_iconst (v := 0) hx hb dX7_differ_58 (by decide) ?_
    exact W.zret (v := 0) hx hb hr rfl (fun t ht9 hW => ⟨0, rfl, ⟨by decide, by decide⟩, ht9⟩) (fun q hq => by cases hq) dX7_differ_59
  · have fc15 := zc_gt ev14 (rfl : (w9).toInt = _) (rfl : (w13).toInt = _) (Int32.not_le.mp c15)
    refine lv_iconst (v := 1) hx hb dX7_differ_54 (by decide) ?_
    refine lv_goto (tgt := 59) hx hb dX7_differ_55 (by decide) ?_
    exact W.zret (v := 1) hx hb hr rfl (fun t ht9 hW => ⟨1, rfl, ⟨by decide, by decide⟩, ht9⟩) (fun q hq => by cases hq) dX7_differ_59
set_option maxHeartbeats 4000000 in
set_option maxRecDepth 100000 in
/-- X7_differ -/
theorem c_X7_differ_20 (l : Launch) (dC : Nat → ClassId) (dI : Nat → Nat → Nat) (h : Nat) (g : Nat → Nat → Nat) (ca : Nat → Nat → ClassId) (iv : Nat → Nat → Int32) (lv : Nat → Nat → Int64) (fa : Nat → Nat → Nat → Int32) (la : Nat → Nat → Nat → Int64) (hI : IX iv fa) (a : Int32) (b : Int32) (d : Int32) (h_a : 0 ≤ a.toInt ∧ a.toInt ≤ 2) (h_b : 0 ≤ b.toInt ∧ b.toInt ≤ 2) : Met l yX7_differ (wc yX7_differ cX7_differ 4 (some .boolean)) ({ frames := 1, cells := 0, slots := 0, locals := 40 } : Room) (pR (dC, dI) classes (WX h g ca iv lv fa la) (TX ca) [.ref (g 2 1), .int a, .int b, .int d]) (vp_Si (fun r => 0 ≤ r.toInt ∧ r.toInt ≤ 1)) 0 0 (fun _ => False) := by
  refine Met.ofW (cc := cX7_differ) (maxL := 4) (ret := (some .boolean)) (by decide) rfl ?_
  intro p e s m args below meth c s₁ B hml hv
  obtain ⟨rfl, hP, hK⟩ := hv
  have hx := B.exec
  have hb := B.bytes
  have hr := B.returns
  have ht := tb_tl (atoms_spec (ws := wc yX7_differ cX7_differ 4 (some .boolean)) B.pre)
  have hown : s.vm.findClass RX7 = some m.cls := findClass_of_methodNamed B.named
  have hlocks := B.notSynchronized
  have hl := lv_entry [.ref (g 2 1), .int a, .int b, .int d] (n := 4) (Nat.le_of_ble_eq_true rfl)
  rw [lg_entry_eq]
  generalize (lg_sl [.ref (g 2 1), .int a, .int b, .int d] ++ List.replicate (4 - (lg_sl [.ref (g 2 1), .int a, .int b, .int d]).length) Slot.unset).toArray = ls at hl ⊢
  have hl : lv_has ls 4 [(0, .ref (g 2 1)), (1, .int a), (2, .int b), (3, .int d)] := hl
  refine lv_ldc2 hx hb hown (ht _ m_630) dX7_differ_0 ?_
  refine lv_aload_n hx hb dX7_differ_3 rfl (lv_at hl 0 rfl) ?_
  refine gX_20_1 hx hb ht hown hK hP m_264 dX7_differ_4 ?_
  refine lv_iload_n hx hb dX7_differ_7 rfl (lv_at hl 1 rfl) ?_
  refine lX_20_1 hx hb hK hP (f := (la 20 1)) rfl (vp_in_iff.mpr ⟨by omega, by omega⟩) dX7_differ_8 ?_
  refine lv_topl (fun w1 ew1 => ?_)
  refine lv_aload_n hx hb dX7_differ_9 rfl (lv_at hl 0 rfl) ?_
  refine gX_20_0 hx hb ht hown hK hP m_261 dX7_differ_10 ?_
  refine lv_iload_n hx hb dX7_differ_13 rfl (lv_at hl 2 rfl) ?_
  refine lX_20_0 hx hb hK hP (f := (la 20 0)) rfl (vp_in_iff.mpr ⟨by omega, by omega⟩) dX7_differ_14 ?_
  refine lv_topl (fun w2 ew2 => ?_)
  refine lv_lmul hx hb dX7_differ_15 ?_
  refine lv_topl (fun w3 ew3 => ?_)
  refine lv_aload_n hx hb dX7_differ_16 rfl (lv_at hl 0 rfl) ?_
  refine gX_20_1 hx hb ht hown hK hP m_264 dX7_differ_17 ?_
  refine lv_iload_n hx hb dX7_differ_20 rfl (lv_at hl 2 rfl) ?_
  refine lX_20_1 hx hb hK hP (f := (la 20 1)) rfl (vp_in_iff.mpr ⟨by omega, by omega⟩) dX7_differ_21 ?_
  refine lv_topl (fun w4 ew4 => ?_)
  refine lv_aload_n hx hb dX7_differ_22 rfl (lv_at hl 0 rfl) ?_
  refine gX_20_0 hx hb ht hown hK hP m_261 dX7_differ_23 ?_
  refine lv_iload_n hx hb dX7_differ_26 rfl (lv_at hl 1 rfl) ?_
  refine lX_20_0 hx hb hK hP (f := (la 20 0)) rfl (vp_in_iff.mpr ⟨by omega, by omega⟩) dX7_differ_27 ?_
  refine lv_topl (fun w5 ew5 => ?_)
  refine lv_lmul hx hb dX7_differ_28 ?_
  refine lv_topl (fun w6 ew6 => ?_)
  refine lv_lsub hx hb dX7_differ_29 ?_
  refine lv_topl (fun w7 ew7 => ?_)
  refine va_mabs_long hx hb (hml.trans hl.1.symm) hown (ht _ m_631) (ht _ m_632) (ht _ m_90) (ht _ m_633) (Nat.le_of_ble_eq_true rfl) (Nat.le_of_ble_eq_true rfl) (Nat.le_of_ble_eq_true rfl) (Nat.le_of_ble_eq_true rfl) dX7_differ_30 ?_
  refine lv_topl (fun w8 ew8 => ?_)
  refine lv_lmul hx hb dX7_differ_33 ?_
  refine lv_topl (fun w9 ew9 => ?_)
  refine lv_iload_n hx hb dX7_differ_34 rfl (lv_at hl 3 rfl) ?_
  refine lv_i2l (v := (d.toInt64)) hx hb dX7_differ_35 rfl ?_
  refine lv_aload_n hx hb dX7_differ_36 rfl (lv_at hl 0 rfl) ?_
  refine gX_20_0 hx hb ht hown hK hP m_261 dX7_differ_37 ?_
  refine lv_iload_n hx hb dX7_differ_40 rfl (lv_at hl 1 rfl) ?_
  refine lX_20_0 hx hb hK hP (f := (la 20 0)) rfl (vp_in_iff.mpr ⟨by omega, by omega⟩) dX7_differ_41 ?_
  refine lv_topl (fun w10 ew10 => ?_)
  refine lv_lmul hx hb dX7_differ_42 ?_
  refine lv_topl (fun w11 ew11 => ?_)
  refine lv_aload_n hx hb dX7_differ_43 rfl (lv_at hl 0 rfl) ?_
  refine gX_20_0 hx hb ht hown hK hP m_261 dX7_differ_44 ?_
  refine lv_iload_n hx hb dX7_differ_47 rfl (lv_at hl 2 rfl) ?_
  refine lX_20_0 hx hb hK hP (f := (la 20 0)) rfl (vp_in_iff.mpr ⟨by omega, by omega⟩) dX7_differ_48 ?_
  refine lv_topl (fun w12 ew12 => ?_)
  refine lv_lmul hx hb dX7_differ_49 ?_
  refine lv_topl (fun w13 ew13 => ?_)
  refine W.lcmp hx hb dX7_differ_50 ?_
  refine lv_topi (fun v14 ev14 => ?_)
  refine lv_if_le (tgt := 58) hx hb dX7_differ_51 (by decide) (fun c15 => ?_) (fun c15 => ?_)
  · have fc15 := zc_ngt ev14 (rfl : (w9).toInt = _) (rfl : (w13).toInt = _) (Int32.not_lt.mpr c15)
    refine lv_iconst (v := 0) hx hb dX7_differ_58 (by decide) ?_
    exact W.zret (v := 0) hx hb hr rfl (fun t ht9 hW => ⟨0, rfl, ⟨by decide, by decide⟩, ht9⟩) (fun q hq => by cases hq) dX7_differ_59
  · have fc15 := zc_gt ev14 (rfl : (w9).toInt = _) (rfl : (w13).toInt = _) (Int32.not_le.mp c15)
    refine lv_iconst (v := 1) hx hb dX7_differ_54 (by decide) ?_
    refine lv_goto (tgt := 59) hx hb dX7_differ_55 (by decide) ?_
    exact W.zret (v := 1) hx hb hr rfl (fun t ht9 hW => ⟨1, rfl, ⟨by decide, by decide⟩, ht9⟩) (fun q hq => by cases hq) dX7_differ_59
