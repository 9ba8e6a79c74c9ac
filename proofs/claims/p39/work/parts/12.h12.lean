/-! ===== h12 ===== -/
set_option maxRecDepth 100000 in
theorem m_9 : Cond.selects RX3 yX3_settle yX3_settle ∈ tb := tb_in 9 (by decide +kernel) rfl
set_option maxRecDepth 100000 in
theorem m_11 : Cond.selects RX3 yX3_lesserOf yX3_lesserOf ∈ tb := tb_in 11 (by decide +kernel) rfl
set_option maxRecDepth 100000 in
theorem m_14 : Cond.selects RX3 yX3_settleByNearest yX3_settleByNearest ∈ tb := tb_in 14 (by decide +kernel) rfl
set_option maxRecDepth 100000 in
theorem m_31 : Cond.selects RX2 yX2_gatherWithout yX2_gatherWithout ∈ tb := tb_in 31 (by decide +kernel) rfl
set_option maxRecDepth 100000 in
theorem m_32 : Cond.selects RX2 yX2_isInDoubt yX2_isInDoubt ∈ tb := tb_in 32 (by decide +kernel) rfl
set_option maxRecDepth 100000 in
theorem m_33 : Cond.selects RX2 yX2_heap yX2_heap ∈ tb := tb_in 33 (by decide +kernel) rfl
set_option maxRecDepth 100000 in
theorem m_34 : Cond.selects RX2 yX2_bothLeft yX2_bothLeft ∈ tb := tb_in 34 (by decide +kernel) rfl
set_option maxRecDepth 100000 in
theorem m_45 : Cond.selects RX12 yX12_sumUp yX12_sumUp ∈ tb := tb_in 45 (by decide +kernel) rfl
set_option maxRecDepth 100000 in
theorem m_71 : Cond.selects RX12 yX12_findSpan yX12_findSpan ∈ tb := tb_in 71 (by decide +kernel) rfl
theorem m_83 : Cond.initialized RX3 ∈ tb := mb_1_0 _ (List.mem_of_getElem? (i := 6) rfl)
theorem m_84 : Cond.initialized RX7 ∈ tb := mb_1_0 _ (List.mem_of_getElem? (i := 7) rfl)
theorem m_85 : Cond.initialized RX2 ∈ tb := mb_1_0 _ (List.mem_of_getElem? (i := 8) rfl)
theorem m_113 : Cond.fieldLink RX3 34 "SilkHouse$Skeins" "number" "I" ∈ tb := mb_1_1 _ (List.mem_of_getElem? (i := 10) rfl)
theorem m_115 : Cond.fieldLink RX2 61 "SilkHouse$Skeins" "number" "I" ∈ tb := mb_1_1 _ (List.mem_of_getElem? (i := 12) rfl)
theorem m_229 : Cond.fieldLink RX8 11 "SilkHouse$Reader" "text" "[B" ∈ tb := mb_1_3 _ (List.mem_of_getElem? (i := 23) rfl)
theorem m_230 : Cond.fieldLink RX8 15 "SilkHouse$Reader" "length" "I" ∈ tb := mb_1_4 _ (List.mem_of_getElem? (i := 0) rfl)
theorem m_232 : Cond.fieldLink RX8 19 "SilkHouse$Reader" "faultByte" "I" ∈ tb := mb_1_4 _ (List.mem_of_getElem? (i := 2) rfl)
theorem m_234 : Cond.fieldLink RX8 22 "SilkHouse$Reader" "faultKind" "I" ∈ tb := mb_1_4 _ (List.mem_of_getElem? (i := 4) rfl)
theorem m_235 : Cond.fieldLink RX8 25 "SilkHouse$Reader" "at" "I" ∈ tb := mb_1_4 _ (List.mem_of_getElem? (i := 5) rfl)
theorem m_262 : Cond.fieldLink RX3 101 "SilkHouse$Piles" "raw" "[J" ∈ tb := mb_1_4 _ (List.mem_of_getElem? (i := 18) rfl)
theorem m_265 : Cond.fieldLink RX3 97 "SilkHouse$Piles" "dry" "[J" ∈ tb := mb_1_4 _ (List.mem_of_getElem? (i := 21) rfl)
theorem m_269 : Cond.fieldLink RX2 56 "SilkHouse$Piles" "skeins" "[I" ∈ tb := mb_1_5 _ (List.mem_of_getElem? (i := 1) rfl)
theorem m_279 : Cond.fieldLink RX3 23 "SilkHouse$Judge" "skeins" "LSilkHouse$Skeins;" ∈ tb := mb_1_5 _ (List.mem_of_getElem? (i := 4) rfl)
theorem m_281 : Cond.fieldLink RX3 10 "SilkHouse$Judge" "piles" "LSilkHouse$Piles;" ∈ tb := mb_1_5 _ (List.mem_of_getElem? (i := 6) rfl)
theorem m_283 : Cond.fieldLink RX3 16 "SilkHouse$Judge" "one" "I" ∈ tb := mb_1_5 _ (List.mem_of_getElem? (i := 8) rfl)
theorem m_284 : Cond.fieldLink RX3 20 "SilkHouse$Judge" "other" "I" ∈ tb := mb_1_5 _ (List.mem_of_getElem? (i := 9) rfl)
theorem m_304 : Cond.fieldLink RX2 40 "SilkHouse$Doubts" "skeins" "LSilkHouse$Skeins;" ∈ tb := mb_1_5 _ (List.mem_of_getElem? (i := 17) rfl)
theorem m_305 : Cond.fieldLink RX2 12 "SilkHouse$Doubts" "piles" "LSilkHouse$Piles;" ∈ tb := mb_1_5 _ (List.mem_of_getElem? (i := 18) rfl)
theorem m_307 : Cond.fieldLink RX2 24 "SilkHouse$Doubts" "bale" "I" ∈ tb := mb_1_5 _ (List.mem_of_getElem? (i := 20) rfl)
theorem m_308 : Cond.fieldLink RX2 28 "SilkHouse$Doubts" "day" "I" ∈ tb := mb_1_5 _ (List.mem_of_getElem? (i := 21) rfl)
theorem m_309 : Cond.fieldLink RX2 31 "SilkHouse$Doubts" "part" "I" ∈ tb := mb_1_5 _ (List.mem_of_getElem? (i := 22) rfl)
theorem m_568 : Cond.methodLink RX3 31 yX7_clear ∈ tb := mb_3_0 _ (List.mem_of_getElem? (i := 12) rfl)
theorem m_569 : Cond.instanceMethod yX7_clear ∈ tb := mb_3_0 _ (List.mem_of_getElem? (i := 13) rfl)
theorem m_570 : Cond.selects RX7 yX7_clear yX7_clear ∈ tb := mb_3_0 _ (List.mem_of_getElem? (i := 14) rfl)
theorem m_571 : Cond.code yX7_clear cX7_clear 2 none ∈ tb := mb_3_0 _ (List.mem_of_getElem? (i := 15) rfl)
theorem m_572 : Cond.methodLink RX3 39 yX10_get ∈ tb := mb_3_0 _ (List.mem_of_getElem? (i := 16) rfl)
theorem m_573 : Cond.methodLink RX3 43 yX10_counts ∈ tb := mb_3_0 _ (List.mem_of_getElem? (i := 17) rfl)
theorem m_577 : Cond.methodLink RX3 47 yX7_put ∈ tb := mb_3_0 _ (List.mem_of_getElem? (i := 21) rfl)
theorem m_578 : Cond.instanceMethod yX7_put ∈ tb := mb_3_0 _ (List.mem_of_getElem? (i := 22) rfl)
theorem m_579 : Cond.selects RX7 yX7_put yX7_put ∈ tb := mb_3_0 _ (List.mem_of_getElem? (i := 23) rfl)
theorem m_580 : Cond.code yX7_put cX7_put 4 none ∈ tb := mb_3_1 _ (List.mem_of_getElem? (i := 0) rfl)
theorem m_622 : Cond.methodLink RX3 63 yX3_settle ∈ tb := mb_3_2 _ (List.mem_of_getElem? (i := 12) rfl)
theorem m_624 : Cond.instanceMethod yX3_settle ∈ tb := mb_3_2 _ (List.mem_of_getElem? (i := 13) rfl)
theorem m_625 : Cond.code yX3_settle cX3_settle 3 (some .int) ∈ tb := mb_3_2 _ (List.mem_of_getElem? (i := 14) rfl)
theorem m_627 : Cond.instanceMethod yX7_differ ∈ tb := mb_3_2 _ (List.mem_of_getElem? (i := 16) rfl)
theorem m_628 : Cond.selects RX7 yX7_differ yX7_differ ∈ tb := mb_3_2 _ (List.mem_of_getElem? (i := 17) rfl)
theorem m_629 : Cond.code yX7_differ cX7_differ 4 (some .boolean) ∈ tb := mb_3_2 _ (List.mem_of_getElem? (i := 18) rfl)
theorem m_638 : Cond.methodLink RX3 77 yX3_lesserOf ∈ tb := mb_3_3 _ (List.mem_of_getElem? (i := 2) rfl)
theorem m_640 : Cond.instanceMethod yX3_lesserOf ∈ tb := mb_3_3 _ (List.mem_of_getElem? (i := 3) rfl)
theorem m_641 : Cond.code yX3_lesserOf cX3_lesserOf 3 (some .int) ∈ tb := mb_3_3 _ (List.mem_of_getElem? (i := 4) rfl)
theorem m_650 : Cond.methodLink RX3 84 yX3_settleByNearest ∈ tb := mb_3_3 _ (List.mem_of_getElem? (i := 11) rfl)
theorem m_652 : Cond.instanceMethod yX3_settleByNearest ∈ tb := mb_3_3 _ (List.mem_of_getElem? (i := 12) rfl)
theorem m_653 : Cond.code yX3_settleByNearest cX3_settleByNearest 7 (some .int) ∈ tb := mb_3_3 _ (List.mem_of_getElem? (i := 13) rfl)
theorem m_654 : Cond.methodLink RX3 87 yX7_level ∈ tb := mb_3_3 _ (List.mem_of_getElem? (i := 14) rfl)
theorem m_655 : Cond.instanceMethod yX7_level ∈ tb := mb_3_3 _ (List.mem_of_getElem? (i := 15) rfl)
theorem m_656 : Cond.selects RX7 yX7_level yX7_level ∈ tb := mb_3_3 _ (List.mem_of_getElem? (i := 16) rfl)
theorem m_657 : Cond.code yX7_level cX7_level 2 (some .long) ∈ tb := mb_3_3 _ (List.mem_of_getElem? (i := 17) rfl)
theorem m_658 : Cond.methodLink RX3 91 Lib.MathLoose.abs_long.x ∈ tb := mb_3_3 _ (List.mem_of_getElem? (i := 18) rfl)
theorem m_853 : Cond.constantLong RX3 104 (2) ∈ tb := mb_4_2 _ (List.mem_of_getElem? (i := 6) rfl)
theorem m_878 : Cond.methodLink RX2 44 yX2_gatherWithout ∈ tb := mb_4_3 _ (List.mem_of_getElem? (i := 6) rfl)
theorem m_880 : Cond.instanceMethod yX2_gatherWithout ∈ tb := mb_4_3 _ (List.mem_of_getElem? (i := 7) rfl)
theorem m_881 : Cond.code yX2_gatherWithout cX2_gatherWithout 6 (some .int) ∈ tb := mb_4_3 _ (List.mem_of_getElem? (i := 8) rfl)
theorem m_882 : Cond.methodLink RX2 58 yX7_clear ∈ tb := mb_4_3 _ (List.mem_of_getElem? (i := 9) rfl)
theorem m_883 : Cond.methodLink RX2 64 yX2_isInDoubt ∈ tb := mb_4_3 _ (List.mem_of_getElem? (i := 10) rfl)
theorem m_885 : Cond.instanceMethod yX2_isInDoubt ∈ tb := mb_4_3 _ (List.mem_of_getElem? (i := 11) rfl)
theorem m_886 : Cond.code yX2_isInDoubt cX2_isInDoubt 2 (some .boolean) ∈ tb := mb_4_3 _ (List.mem_of_getElem? (i := 12) rfl)
theorem m_887 : Cond.methodLink RX2 75 yX10_isOf ∈ tb := mb_4_3 _ (List.mem_of_getElem? (i := 13) rfl)
theorem m_888 : Cond.methodLink RX2 78 yX10_counts ∈ tb := mb_4_3 _ (List.mem_of_getElem? (i := 14) rfl)
theorem m_889 : Cond.methodLink RX2 68 yX10_get ∈ tb := mb_4_3 _ (List.mem_of_getElem? (i := 15) rfl)
theorem m_890 : Cond.methodLink RX2 71 yX2_heap ∈ tb := mb_4_3 _ (List.mem_of_getElem? (i := 16) rfl)
theorem m_892 : Cond.instanceMethod yX2_heap ∈ tb := mb_4_3 _ (List.mem_of_getElem? (i := 17) rfl)
theorem m_893 : Cond.code yX2_heap cX2_heap 3 none ∈ tb := mb_4_3 _ (List.mem_of_getElem? (i := 18) rfl)
theorem m_894 : Cond.methodLink RX2 82 yX7_put ∈ tb := mb_4_3 _ (List.mem_of_getElem? (i := 19) rfl)
theorem m_895 : Cond.methodLink RX2 48 yX2_bothLeft ∈ tb := mb_4_3 _ (List.mem_of_getElem? (i := 20) rfl)
theorem m_897 : Cond.instanceMethod yX2_bothLeft ∈ tb := mb_4_3 _ (List.mem_of_getElem? (i := 21) rfl)
theorem m_898 : Cond.code yX2_bothLeft cX2_bothLeft 1 (some .boolean) ∈ tb := mb_4_3 _ (List.mem_of_getElem? (i := 22) rfl)
theorem m_899 : Cond.methodLink RX2 52 yX7_differ ∈ tb := mb_4_3 _ (List.mem_of_getElem? (i := 23) rfl)
theorem m_1434 : Cond.methodLink RX12 237 yX12_sumUp ∈ tb := mb_6_2 _ (List.mem_of_getElem? (i := 18) rfl)
theorem m_1436 : Cond.instanceMethod yX12_sumUp ∈ tb := mb_6_2 _ (List.mem_of_getElem? (i := 19) rfl)
theorem m_1437 : Cond.code yX12_sumUp cX12_sumUp 6 (some .int) ∈ tb := mb_6_2 _ (List.mem_of_getElem? (i := 20) rfl)
theorem m_1540 : Cond.methodLink RX12 340 yX12_doPart ∈ tb := mb_7_0 _ (List.mem_of_getElem? (i := 21) rfl)
theorem m_1541 : Cond.static yX12_doPart ∈ tb := mb_7_0 _ (List.mem_of_getElem? (i := 22) rfl)
theorem m_1542 : Cond.code yX12_doPart cX12_doPart 9 (some .boolean) ∈ tb := mb_7_0 _ (List.mem_of_getElem? (i := 23) rfl)
theorem m_1606 : Cond.methodLink RX12 392 yX12_ones ∈ tb := mb_7_3 _ (List.mem_of_getElem? (i := 6) rfl)
theorem m_1607 : Cond.static yX12_ones ∈ tb := mb_7_3 _ (List.mem_of_getElem? (i := 7) rfl)
theorem m_1608 : Cond.code yX12_ones cX12_ones 3 (some .int) ∈ tb := mb_7_3 _ (List.mem_of_getElem? (i := 8) rfl)
theorem m_1668 : Cond.methodLink RX12 426 yX12_findSpan ∈ tb := mb_7_5 _ (List.mem_of_getElem? (i := 18) rfl)
theorem m_1670 : Cond.instanceMethod yX12_findSpan ∈ tb := mb_7_5 _ (List.mem_of_getElem? (i := 19) rfl)
theorem m_1671 : Cond.code yX12_findSpan cX12_findSpan 3 (some .boolean) ∈ tb := mb_7_5 _ (List.mem_of_getElem? (i := 20) rfl)
theorem hd_X12_doPart_v : yX12_doPart.cls = RX12 ∧ yX12_doPart.cls ≠ "java/lang/invoke/MethodHandle" ∧ yX12_doPart.cls ≠ "java/lang/invoke/VarHandle" ∧ (parseMethodDescriptor yX12_doPart.desc).map (fun d => d.parameters.length) = some 5 := by decide +kernel
theorem hd_X12_findSpan_v : yX12_findSpan.cls = RX12 ∧ yX12_findSpan.cls ≠ "java/lang/invoke/MethodHandle" ∧ yX12_findSpan.cls ≠ "java/lang/invoke/VarHandle" ∧ (parseMethodDescriptor yX12_findSpan.desc).map (fun d => d.parameters.length) = some 1 := by decide +kernel
theorem hd_X12_ones_v : yX12_ones.cls = RX12 ∧ yX12_ones.cls ≠ "java/lang/invoke/MethodHandle" ∧ yX12_ones.cls ≠ "java/lang/invoke/VarHandle" ∧ (parseMethodDescriptor yX12_ones.desc).map (fun d => d.parameters.length) = some 1 := by decide +kernel
theorem hd_X12_sumUp_v : yX12_sumUp.cls = RX12 ∧ yX12_sumUp.cls ≠ "java/lang/invoke/MethodHandle" ∧ yX12_sumUp.cls ≠ "java/lang/invoke/VarHandle" ∧ (parseMethodDescriptor yX12_sumUp.desc).map (fun d => d.parameters.length) = some 3 := by decide +kernel
theorem hd_X2_bothLeft_v : yX2_bothLeft.cls = RX2 ∧ yX2_bothLeft.cls ≠ "java/lang/invoke/MethodHandle" ∧ yX2_bothLeft.cls ≠ "java/lang/invoke/VarHandle" ∧ (parseMethodDescriptor yX2_bothLeft.desc).map (fun d => d.parameters.length) = some 0 := by decide +kernel
theorem hd_X2_gatherWithout_v : yX2_gatherWithout.cls = RX2 ∧ yX2_gatherWithout.cls ≠ "java/lang/invoke/MethodHandle" ∧ yX2_gatherWithout.cls ≠ "java/lang/invoke/VarHandle" ∧ (parseMethodDescriptor yX2_gatherWithout.desc).map (fun d => d.parameters.length) = some 2 := by decide +kernel
theorem hd_X2_heap_v : yX2_heap.cls = RX2 ∧ yX2_heap.cls ≠ "java/lang/invoke/MethodHandle" ∧ yX2_heap.cls ≠ "java/lang/invoke/VarHandle" ∧ (parseMethodDescriptor yX2_heap.desc).map (fun d => d.parameters.length) = some 2 := by decide +kernel
theorem hd_X2_isInDoubt_v : yX2_isInDoubt.cls = RX2 ∧ yX2_isInDoubt.cls ≠ "java/lang/invoke/MethodHandle" ∧ yX2_isInDoubt.cls ≠ "java/lang/invoke/VarHandle" ∧ (parseMethodDescriptor yX2_isInDoubt.desc).map (fun d => d.parameters.length) = some 1 := by decide +kernel
theorem hd_X3_lesserOf_v : yX3_lesserOf.cls = RX3 ∧ yX3_lesserOf.cls ≠ "java/lang/invoke/MethodHandle" ∧ yX3_lesserOf.cls ≠ "java/lang/invoke/VarHandle" ∧ (parseMethodDescriptor yX3_lesserOf.desc).map (fun d => d.parameters.length) = some 2 := by decide +kernel
theorem hd_X3_settleByNearest_v : yX3_settleByNearest.cls = RX3 ∧ yX3_settleByNearest.cls ≠ "java/lang/invoke/MethodHandle" ∧ yX3_settleByNearest.cls ≠ "java/lang/invoke/VarHandle" ∧ (parseMethodDescriptor yX3_settleByNearest.desc).map (fun d => d.parameters.length) = some 0 := by decide +kernel
theorem hd_X3_settle_v : yX3_settle.cls = RX3 ∧ yX3_settle.cls ≠ "java/lang/invoke/MethodHandle" ∧ yX3_settle.cls ≠ "java/lang/invoke/VarHandle" ∧ (parseMethodDescriptor yX3_settle.desc).map (fun d => d.parameters.length) = some 2 := by decide +kernel
theorem hd_X7_clear_v : yX7_clear.cls = RX7 ∧ yX7_clear.cls ≠ "java/lang/invoke/MethodHandle" ∧ yX7_clear.cls ≠ "java/lang/invoke/VarHandle" ∧ (parseMethodDescriptor yX7_clear.desc).map (fun d => d.parameters.length) = some 0 := by decide +kernel
theorem hd_X7_differ_v : yX7_differ.cls = RX7 ∧ yX7_differ.cls ≠ "java/lang/invoke/MethodHandle" ∧ yX7_differ.cls ≠ "java/lang/invoke/VarHandle" ∧ (parseMethodDescriptor yX7_differ.desc).map (fun d => d.parameters.length) = some 3 := by decide +kernel
theorem hd_X7_level_v : yX7_level.cls = RX7 ∧ yX7_level.cls ≠ "java/lang/invoke/MethodHandle" ∧ yX7_level.cls ≠ "java/lang/invoke/VarHandle" ∧ (parseMethodDescriptor yX7_level.desc).map (fun d => d.parameters.length) = some 1 := by decide +kernel
theorem hd_X7_put_v : yX7_put.cls = RX7 ∧ yX7_put.cls ≠ "java/lang/invoke/MethodHandle" ∧ yX7_put.cls ≠ "java/lang/invoke/VarHandle" ∧ (parseMethodDescriptor yX7_put.desc).map (fun d => d.parameters.length) = some 3 := by decide +kernel
set_option maxRecDepth 100000 in
theorem dvX12_doLooksPart_0 : ([(0, .aload_n 0, 1), (1, .iload_n 1, 1), (2, .iconst 0, 1), (3, .aload_n 0, 1), (4, .getfield 171, 3), (7, .invokevirtual 237, 3), (10, .istore_n 3, 1), (11, .aload_n 0, 1), (12, .getfield 223, 3), (15, .lstore 4, 2), (17, .aload_n 0, 1), (18, .getfield 227, 3), (21, .lstore 6, 2), (23, .aload_n 0, 1), (24, .iload_n 1, 1), (25, .iconst 1, 1), (26, .aload_n 0, 1), (27, .getfield 171, 3), (30, .invokevirtual 237, 3), (33, .istore 8, 2), (35, .iload_n 3, 1), (36, .ifCond .le 31, 3), (39, .iload 8, 2), (41, .ifCond .le 26, 3)] : List (Nat × Instr × Nat)).all (fun q => decide (decode cX12_doLooksPart q.1 = .ok (q.2.1, q.2.2))) = true := by decide +kernel
theorem dX12_doLooksPart_0 : decode cX12_doLooksPart 0 = .ok (.aload_n 0, 1) := all_at dvX12_doLooksPart_0 0 rfl
theorem dX12_doLooksPart_1 : decode cX12_doLooksPart 1 = .ok (.iload_n 1, 1) := all_at dvX12_doLooksPart_0 1 rfl
theorem dX12_doLooksPart_2 : decode cX12_doLooksPart 2 = .ok (.iconst 0, 1) := all_at dvX12_doLooksPart_0 2 rfl
theorem dX12_doLooksPart_3 : decode cX12_doLooksPart 3 = .ok (.aload_n 0, 1) := all_at dvX12_doLooksPart_0 3 rfl
theorem dX12_doLooksPart_4 : decode cX12_doLooksPart 4 = .ok (.getfield 171, 3) := all_at dvX12_doLooksPart_0 4 rfl
theorem dX12_doLooksPart_7 : decode cX12_doLooksPart 7 = .ok (.invokevirtual 237, 3) := all_at dvX12_doLooksPart_0 5 rfl
theorem dX12_doLooksPart_10 : decode cX12_doLooksPart 10 = .ok (.istore_n 3, 1) := all_at dvX12_doLooksPart_0 6 rfl
theorem dX12_doLooksPart_11 : decode cX12_doLooksPart 11 = .ok (.aload_n 0, 1) := all_at dvX12_doLooksPart_0 7 rfl
theorem dX12_doLooksPart_12 : decode cX12_doLooksPart 12 = .ok (.getfield 223, 3) := all_at dvX12_doLooksPart_0 8 rfl
theorem dX12_doLooksPart_15 : decode cX12_doLooksPart 15 = .ok (.lstore 4, 2) := all_at dvX12_doLooksPart_0 9 rfl
theorem dX12_doLooksPart_17 : decode cX12_doLooksPart 17 = .ok (.aload_n 0, 1) := all_at dvX12_doLooksPart_0 10 rfl
theorem dX12_doLooksPart_18 : decode cX12_doLooksPart 18 = .ok (.getfield 227, 3) := all_at dvX12_doLooksPart_0 11 rfl
theorem dX12_doLooksPart_21 : decode cX12_doLooksPart 21 = .ok (.lstore 6, 2) := all_at dvX12_doLooksPart_0 12 rfl
theorem dX12_doLooksPart_23 : decode cX12_doLooksPart 23 = .ok (.aload_n 0, 1) := all_at dvX12_doLooksPart_0 13 rfl
theorem dX12_doLooksPart_24 : decode cX12_doLooksPart 24 = .ok (.iload_n 1, 1) := all_at dvX12_doLooksPart_0 14 rfl
theorem dX12_doLooksPart_25 : decode cX12_doLooksPart 25 = .ok (.iconst 1, 1) := all_at dvX12_doLooksPart_0 15 rfl
theorem dX12_doLooksPart_26 : decode cX12_doLooksPart 26 = .ok (.aload_n 0, 1) := all_at dvX12_doLooksPart_0 16 rfl
theorem dX12_doLooksPart_27 : decode cX12_doLooksPart 27 = .ok (.getfield 171, 3) := all_at dvX12_doLooksPart_0 17 rfl
theorem dX12_doLooksPart_30 : decode cX12_doLooksPart 30 = .ok (.invokevirtual 237, 3) := all_at dvX12_doLooksPart_0 18 rfl
theorem dX12_doLooksPart_33 : decode cX12_doLooksPart 33 = .ok (.istore 8, 2) := all_at dvX12_doLooksPart_0 19 rfl
theorem dX12_doLooksPart_35 : decode cX12_doLooksPart 35 = .ok (.iload_n 3, 1) := all_at dvX12_doLooksPart_0 20 rfl
theorem dX12_doLooksPart_36 : decode cX12_doLooksPart 36 = .ok (.ifCond .le 31, 3) := all_at dvX12_doLooksPart_0 21 rfl
theorem dX12_doLooksPart_39 : decode cX12_doLooksPart 39 = .ok (.iload 8, 2) := all_at dvX12_doLooksPart_0 22 rfl
theorem dX12_doLooksPart_41 : decode cX12_doLooksPart 41 = .ok (.ifCond .le 26, 3) := all_at dvX12_doLooksPart_0 23 rfl
set_option maxRecDepth 100000 in
theorem dvX12_doLooksPart_44 : ([(44, .lload 4, 2), (46, .lload 6, 2), (48, .aload_n 0, 1), (49, .getfield 223, 3), (52, .aload_n 0, 1), (53, .getfield 227, 3), (56, .iload_n 2, 1), (57, .invokestatic 340, 3), (60, .ifCond .eq 7, 3), (63, .iconst 1, 1), (64, .goto 4, 3), (67, .iconst 0, 1), (68, .ireturn, 1)] : List (Nat × Instr × Nat)).all (fun q => decide (decode cX12_doLooksPart q.1 = .ok (q.2.1, q.2.2))) = true := by decide +kernel
theorem dX12_doLooksPart_44 : decode cX12_doLooksPart 44 = .ok (.lload 4, 2) := all_at dvX12_doLooksPart_44 0 rfl
theorem dX12_doLooksPart_46 : decode cX12_doLooksPart 46 = .ok (.lload 6, 2) := all_at dvX12_doLooksPart_44 1 rfl
theorem dX12_doLooksPart_48 : decode cX12_doLooksPart 48 = .ok (.aload_n 0, 1) := all_at dvX12_doLooksPart_44 2 rfl
theorem dX12_doLooksPart_49 : decode cX12_doLooksPart 49 = .ok (.getfield 223, 3) := all_at dvX12_doLooksPart_44 3 rfl
theorem dX12_doLooksPart_52 : decode cX12_doLooksPart 52 = .ok (.aload_n 0, 1) := all_at dvX12_doLooksPart_44 4 rfl
theorem dX12_doLooksPart_53 : decode cX12_doLooksPart 53 = .ok (.getfield 227, 3) := all_at dvX12_doLooksPart_44 5 rfl
theorem dX12_doLooksPart_56 : decode cX12_doLooksPart 56 = .ok (.iload_n 2, 1) := all_at dvX12_doLooksPart_44 6 rfl
theorem dX12_doLooksPart_57 : decode cX12_doLooksPart 57 = .ok (.invokestatic 340, 3) := all_at dvX12_doLooksPart_44 7 rfl
theorem dX12_doLooksPart_60 : decode cX12_doLooksPart 60 = .ok (.ifCond .eq 7, 3) := all_at dvX12_doLooksPart_44 8 rfl
theorem dX12_doLooksPart_63 : decode cX12_doLooksPart 63 = .ok (.iconst 1, 1) := all_at dvX12_doLooksPart_44 9 rfl
theorem dX12_doLooksPart_64 : decode cX12_doLooksPart 64 = .ok (.goto 4, 3) := all_at dvX12_doLooksPart_44 10 rfl
theorem dX12_doLooksPart_67 : decode cX12_doLooksPart 67 = .ok (.iconst 0, 1) := all_at dvX12_doLooksPart_44 11 rfl
theorem dX12_doLooksPart_68 : decode cX12_doLooksPart 68 = .ok (.ireturn, 1) := all_at dvX12_doLooksPart_44 12 rfl
set_option maxRecDepth 100000 in
theorem dvX12_haveBoth_0 : ([(0, .aload_n 0, 1), (1, .iload_n 1, 1), (2, .iconst 0, 1), (3, .aload_n 0, 1), (4, .getfield 171, 3), (7, .invokevirtual 237, 3), (10, .ifCond .le 20, 3), (13, .aload_n 0, 1), (14, .iload_n 1, 1), (15, .iconst 1, 1), (16, .aload_n 0, 1), (17, .getfield 171, 3), (20, .invokevirtual 237, 3), (23, .ifCond .le 7, 3), (26, .iconst 1, 1), (27, .goto 4, 3), (30, .iconst 0, 1), (31, .ireturn, 1)] : List (Nat × Instr × Nat)).all (fun q => decide (decode cX12_haveBoth q.1 = .ok (q.2.1, q.2.2))) = true := by decide +kernel
theorem dX12_haveBoth_0 : decode cX12_haveBoth 0 = .ok (.aload_n 0, 1) := all_at dvX12_haveBoth_0 0 rfl
theorem dX12_haveBoth_1 : decode cX12_haveBoth 1 = .ok (.iload_n 1, 1) := all_at dvX12_haveBoth_0 1 rfl
theorem dX12_haveBoth_2 : decode cX12_haveBoth 2 = .ok (.iconst 0, 1) := all_at dvX12_haveBoth_0 2 rfl
theorem dX12_haveBoth_3 : decode cX12_haveBoth 3 = .ok (.aload_n 0, 1) := all_at dvX12_haveBoth_0 3 rfl
theorem dX12_haveBoth_4 : decode cX12_haveBoth 4 = .ok (.getfield 171, 3) := all_at dvX12_haveBoth_0 4 rfl
theorem dX12_haveBoth_7 : decode cX12_haveBoth 7 = .ok (.invokevirtual 237, 3) := all_at dvX12_haveBoth_0 5 rfl
theorem dX12_haveBoth_10 : decode cX12_haveBoth 10 = .ok (.ifCond .le 20, 3) := all_at dvX12_haveBoth_0 6 rfl
theorem dX12_haveBoth_13 : decode cX12_haveBoth 13 = .ok (.aload_n 0, 1) := all_at dvX12_haveBoth_0 7 rfl
theorem dX12_haveBoth_14 : decode cX12_haveBoth 14 = .ok (.iload_n 1, 1) := all_at dvX12_haveBoth_0 8 rfl
theorem dX12_haveBoth_15 : decode cX12_haveBoth 15 = .ok (.iconst 1, 1) := all_at dvX12_haveBoth_0 9 rfl
theorem dX12_haveBoth_16 : decode cX12_haveBoth 16 = .ok (.aload_n 0, 1) := all_at dvX12_haveBoth_0 10 rfl
theorem dX12_haveBoth_17 : decode cX12_haveBoth 17 = .ok (.getfield 171, 3) := all_at dvX12_haveBoth_0 11 rfl
theorem dX12_haveBoth_20 : decode cX12_haveBoth 20 = .ok (.invokevirtual 237, 3) := all_at dvX12_haveBoth_0 12 rfl
theorem dX12_haveBoth_23 : decode cX12_haveBoth 23 = .ok (.ifCond .le 7, 3) := all_at dvX12_haveBoth_0 13 rfl
theorem dX12_haveBoth_26 : decode cX12_haveBoth 26 = .ok (.iconst 1, 1) := all_at dvX12_haveBoth_0 14 rfl
theorem dX12_haveBoth_27 : decode cX12_haveBoth 27 = .ok (.goto 4, 3) := all_at dvX12_haveBoth_0 15 rfl
theorem dX12_haveBoth_30 : decode cX12_haveBoth 30 = .ok (.iconst 0, 1) := all_at dvX12_haveBoth_0 16 rfl
theorem dX12_haveBoth_31 : decode cX12_haveBoth 31 = .ok (.ireturn, 1) := all_at dvX12_haveBoth_0 17 rfl
set_option maxRecDepth 100000 in
theorem dvX12_houses_0 : ([(0, .iload_n 1, 1), (1, .i2l, 1), (2, .lconst 0, 1), (3, .ldc2_w 188, 3), (6, .invokestatic 167, 3), (9, .ifCond .ne 6, 3), (12, .ldc 178, 2), (14, .ireturn, 1), (15, .aload_n 0, 1), (16, .getfield 417, 3), (19, .ifCond .ne 6, 3), (22, .ldc 179, 2), (24, .ireturn, 1), (25, .iconst (-1), 1), (26, .istore_n 2, 1), (27, .iconst 0, 1), (28, .istore_n 3, 1), (29, .iload_n 3, 1), (30, .iconst 1, 1), (31, .aload_n 0, 1), (32, .getfield 417, 3), (35, .ishl, 1), (36, .if_icmp .ge 34, 3), (39, .iload_n 2, 1)] : List (Nat × Instr × Nat)).all (fun q => decide (decode cX12_houses q.1 = .ok (q.2.1, q.2.2))) = true := by decide +kernel
theorem dX12_houses_0 : decode cX12_houses 0 = .ok (.iload_n 1, 1) := all_at dvX12_houses_0 0 rfl
theorem dX12_houses_1 : decode cX12_houses 1 = .ok (.i2l, 1) := all_at dvX12_houses_0 1 rfl
theorem dX12_houses_2 : decode cX12_houses 2 = .ok (.lconst 0, 1) := all_at dvX12_houses_0 2 rfl
theorem dX12_houses_3 : decode cX12_houses 3 = .ok (.ldc2_w 188, 3) := all_at dvX12_houses_0 3 rfl
theorem dX12_houses_6 : decode cX12_houses 6 = .ok (.invokestatic 167, 3) := all_at dvX12_houses_0 4 rfl
theorem dX12_houses_9 : decode cX12_houses 9 = .ok (.ifCond .ne 6, 3) := all_at dvX12_houses_0 5 rfl
theorem dX12_houses_12 : decode cX12_houses 12 = .ok (.ldc 178, 2) := all_at dvX12_houses_0 6 rfl
theorem dX12_houses_14 : decode cX12_houses 14 = .ok (.ireturn, 1) := all_at dvX12_houses_0 7 rfl
theorem dX12_houses_15 : decode cX12_houses 15 = .ok (.aload_n 0, 1) := all_at dvX12_houses_0 8 rfl
theorem dX12_houses_16 : decode cX12_houses 16 = .ok (.getfield 417, 3) := all_at dvX12_houses_0 9 rfl
theorem dX12_houses_19 : decode cX12_houses 19 = .ok (.ifCond .ne 6, 3) := all_at dvX12_houses_0 10 rfl
theorem dX12_houses_22 : decode cX12_houses 22 = .ok (.ldc 179, 2) := all_at dvX12_houses_0 11 rfl
theorem dX12_houses_24 : decode cX12_houses 24 = .ok (.ireturn, 1) := all_at dvX12_houses_0 12 rfl
theorem dX12_houses_25 : decode cX12_houses 25 = .ok (.iconst (-1), 1) := all_at dvX12_houses_0 13 rfl
theorem dX12_houses_26 : decode cX12_houses 26 = .ok (.istore_n 2, 1) := all_at dvX12_houses_0 14 rfl
theorem dX12_houses_27 : decode cX12_houses 27 = .ok (.iconst 0, 1) := all_at dvX12_houses_0 15 rfl
theorem dX12_houses_28 : decode cX12_houses 28 = .ok (.istore_n 3, 1) := all_at dvX12_houses_0 16 rfl
theorem dX12_houses_29 : decode cX12_houses 29 = .ok (.iload_n 3, 1) := all_at dvX12_houses_0 17 rfl
theorem dX12_houses_30 : decode cX12_houses 30 = .ok (.iconst 1, 1) := all_at dvX12_houses_0 18 rfl
theorem dX12_houses_31 : decode cX12_houses 31 = .ok (.aload_n 0, 1) := all_at dvX12_houses_0 19 rfl
theorem dX12_houses_32 : decode cX12_houses 32 = .ok (.getfield 417, 3) := all_at dvX12_houses_0 20 rfl
theorem dX12_houses_35 : decode cX12_houses 35 = .ok (.ishl, 1) := all_at dvX12_houses_0 21 rfl
theorem dX12_houses_36 : decode cX12_houses 36 = .ok (.if_icmp .ge 34, 3) := all_at dvX12_houses_0 22 rfl
theorem dX12_houses_39 : decode cX12_houses 39 = .ok (.iload_n 2, 1) := all_at dvX12_houses_0 23 rfl
set_option maxRecDepth 100000 in
theorem dvX12_houses_40 : ([(40, .ifCond .lt 14, 3), (43, .iload_n 3, 1), (44, .invokestatic 392, 3), (47, .iload_n 2, 1), (48, .invokestatic 392, 3), (51, .if_icmp .ge 13, 3), (54, .aload_n 0, 1), (55, .iload_n 3, 1), (56, .invokevirtual 426, 3), (59, .ifCond .eq 5, 3), (62, .iload_n 3, 1), (63, .istore_n 2, 1), (64, .iinc 3 1, 3), (67, .goto (-38), 3), (70, .aload_n 0, 1), (71, .iload_n 2, 1), (72, .invokevirtual 426, 3), (75, .istore_n 3, 1), (76, .iload_n 1, 1), (77, .ifCond .ne 10, 3), (80, .aload_n 0, 1), (81, .getfield 420, 3), (84, .goto 16, 3), (87, .iload_n 1, 1)] : List (Nat × Instr × Nat)).all (fun q => decide (decode cX12_houses q.1 = .ok (q.2.1, q.2.2))) = true := by decide +kernel
theorem dX12_houses_40 : decode cX12_houses 40 = .ok (.ifCond .lt 14, 3) := all_at dvX12_houses_40 0 rfl
theorem dX12_houses_43 : decode cX12_houses 43 = .ok (.iload_n 3, 1) := all_at dvX12_houses_40 1 rfl
theorem dX12_houses_44 : decode cX12_houses 44 = .ok (.invokestatic 392, 3) := all_at dvX12_houses_40 2 rfl
theorem dX12_houses_47 : decode cX12_houses 47 = .ok (.iload_n 2, 1) := all_at dvX12_houses_40 3 rfl
theorem dX12_houses_48 : decode cX12_houses 48 = .ok (.invokestatic 392, 3) := all_at dvX12_houses_40 4 rfl
theorem dX12_houses_51 : decode cX12_houses 51 = .ok (.if_icmp .ge 13, 3) := all_at dvX12_houses_40 5 rfl
theorem dX12_houses_54 : decode cX12_houses 54 = .ok (.aload_n 0, 1) := all_at dvX12_houses_40 6 rfl
theorem dX12_houses_55 : decode cX12_houses 55 = .ok (.iload_n 3, 1) := all_at dvX12_houses_40 7 rfl
theorem dX12_houses_56 : decode cX12_houses 56 = .ok (.invokevirtual 426, 3) := all_at dvX12_houses_40 8 rfl
theorem dX12_houses_59 : decode cX12_houses 59 = .ok (.ifCond .eq 5, 3) := all_at dvX12_houses_40 9 rfl
theorem dX12_houses_62 : decode cX12_houses 62 = .ok (.iload_n 3, 1) := all_at dvX12_houses_40 10 rfl
theorem dX12_houses_63 : decode cX12_houses 63 = .ok (.istore_n 2, 1) := all_at dvX12_houses_40 11 rfl
theorem dX12_houses_64 : decode cX12_houses 64 = .ok (.iinc 3 1, 3) := all_at dvX12_houses_40 12 rfl
theorem dX12_houses_67 : decode cX12_houses 67 = .ok (.goto (-38), 3) := all_at dvX12_houses_40 13 rfl
theorem dX12_houses_70 : decode cX12_houses 70 = .ok (.aload_n 0, 1) := all_at dvX12_houses_40 14 rfl
theorem dX12_houses_71 : decode cX12_houses 71 = .ok (.iload_n 2, 1) := all_at dvX12_houses_40 15 rfl
theorem dX12_houses_72 : decode cX12_houses 72 = .ok (.invokevirtual 426, 3) := all_at dvX12_houses_40 16 rfl
theorem dX12_houses_75 : decode cX12_houses 75 = .ok (.istore_n 3, 1) := all_at dvX12_houses_40 17 rfl
theorem dX12_houses_76 : decode cX12_houses 76 = .ok (.iload_n 1, 1) := all_at dvX12_houses_40 18 rfl
theorem dX12_houses_77 : decode cX12_houses 77 = .ok (.ifCond .ne 10, 3) := all_at dvX12_houses_40 19 rfl
theorem dX12_houses_80 : decode cX12_houses 80 = .ok (.aload_n 0, 1) := all_at dvX12_houses_40 20 rfl
theorem dX12_houses_81 : decode cX12_houses 81 = .ok (.getfield 420, 3) := all_at dvX12_houses_40 21 rfl
theorem dX12_houses_84 : decode cX12_houses 84 = .ok (.goto 16, 3) := all_at dvX12_houses_40 22 rfl
theorem dX12_houses_87 : decode cX12_houses 87 = .ok (.iload_n 1, 1) := all_at dvX12_houses_40 23 rfl
set_option maxRecDepth 100000 in
theorem dvX12_houses_88 : ([(88, .iconst 1, 1), (89, .if_icmp .ne 10, 3), (92, .aload_n 0, 1), (93, .getfield 423, 3), (96, .goto 4, 3), (99, .iload_n 2, 1), (100, .ireturn, 1)] : List (Nat × Instr × Nat)).all (fun q => decide (decode cX12_houses q.1 = .ok (q.2.1, q.2.2))) = true := by decide +kernel
theorem dX12_houses_88 : decode cX12_houses 88 = .ok (.iconst 1, 1) := all_at dvX12_houses_88 0 rfl
theorem dX12_houses_89 : decode cX12_houses 89 = .ok (.if_icmp .ne 10, 3) := all_at dvX12_houses_88 1 rfl
theorem dX12_houses_92 : decode cX12_houses 92 = .ok (.aload_n 0, 1) := all_at dvX12_houses_88 2 rfl
theorem dX12_houses_93 : decode cX12_houses 93 = .ok (.getfield 423, 3) := all_at dvX12_houses_88 3 rfl
theorem dX12_houses_96 : decode cX12_houses 96 = .ok (.goto 4, 3) := all_at dvX12_houses_88 4 rfl
theorem dX12_houses_99 : decode cX12_houses 99 = .ok (.iload_n 2, 1) := all_at dvX12_houses_88 5 rfl
theorem dX12_houses_100 : decode cX12_houses 100 = .ok (.ireturn, 1) := all_at dvX12_houses_88 6 rfl
set_option maxRecDepth 100000 in
theorem dvX12_power_0 : ([(0, .iconst 1, 1), (1, .istore_n 2, 1), (2, .iconst 0, 1), (3, .istore_n 3, 1), (4, .iload_n 3, 1), (5, .iload_n 1, 1), (6, .if_icmp .ge 13, 3), (9, .iload_n 2, 1), (10, .iload_n 0, 1), (11, .imul, 1), (12, .istore_n 2, 1), (13, .iinc 3 1, 3), (16, .goto (-12), 3), (19, .iload_n 2, 1), (20, .ireturn, 1)] : List (Nat × Instr × Nat)).all (fun q => decide (decode cX12_power q.1 = .ok (q.2.1, q.2.2))) = true := by decide +kernel
theorem dX12_power_0 : decode cX12_power 0 = .ok (.iconst 1, 1) := all_at dvX12_power_0 0 rfl
theorem dX12_power_1 : decode cX12_power 1 = .ok (.istore_n 2, 1) := all_at dvX12_power_0 1 rfl
theorem dX12_power_2 : decode cX12_power 2 = .ok (.iconst 0, 1) := all_at dvX12_power_0 2 rfl
theorem dX12_power_3 : decode cX12_power 3 = .ok (.istore_n 3, 1) := all_at dvX12_power_0 3 rfl
theorem dX12_power_4 : decode cX12_power 4 = .ok (.iload_n 3, 1) := all_at dvX12_power_0 4 rfl
theorem dX12_power_5 : decode cX12_power 5 = .ok (.iload_n 1, 1) := all_at dvX12_power_0 5 rfl
theorem dX12_power_6 : decode cX12_power 6 = .ok (.if_icmp .ge 13, 3) := all_at dvX12_power_0 6 rfl
theorem dX12_power_9 : decode cX12_power 9 = .ok (.iload_n 2, 1) := all_at dvX12_power_0 7 rfl
theorem dX12_power_10 : decode cX12_power 10 = .ok (.iload_n 0, 1) := all_at dvX12_power_0 8 rfl
theorem dX12_power_11 : decode cX12_power 11 = .ok (.imul, 1) := all_at dvX12_power_0 9 rfl
theorem dX12_power_12 : decode cX12_power 12 = .ok (.istore_n 2, 1) := all_at dvX12_power_0 10 rfl
theorem dX12_power_13 : decode cX12_power 13 = .ok (.iinc 3 1, 3) := all_at dvX12_power_0 11 rfl
theorem dX12_power_16 : decode cX12_power 16 = .ok (.goto (-12), 3) := all_at dvX12_power_0 12 rfl
theorem dX12_power_19 : decode cX12_power 19 = .ok (.iload_n 2, 1) := all_at dvX12_power_0 13 rfl
theorem dX12_power_20 : decode cX12_power 20 = .ok (.ireturn, 1) := all_at dvX12_power_0 14 rfl
set_option maxRecDepth 100000 in
theorem dvX2_bothLeft_0 : ([(0, .aload_n 0, 1), (1, .getfield 12, 3), (4, .getfield 56, 3), (7, .iconst 0, 1), (8, .iaload, 1), (9, .ifCond .le 19, 3), (12, .aload_n 0, 1), (13, .getfield 12, 3), (16, .getfield 56, 3), (19, .iconst 1, 1), (20, .iaload, 1), (21, .ifCond .le 7, 3), (24, .iconst 1, 1), (25, .goto 4, 3), (28, .iconst 0, 1), (29, .ireturn, 1)] : List (Nat × Instr × Nat)).all (fun q => decide (decode cX2_bothLeft q.1 = .ok (q.2.1, q.2.2))) = true := by decide +kernel
theorem dX2_bothLeft_0 : decode cX2_bothLeft 0 = .ok (.aload_n 0, 1) := all_at dvX2_bothLeft_0 0 rfl
theorem dX2_bothLeft_1 : decode cX2_bothLeft 1 = .ok (.getfield 12, 3) := all_at dvX2_bothLeft_0 1 rfl
theorem dX2_bothLeft_4 : decode cX2_bothLeft 4 = .ok (.getfield 56, 3) := all_at dvX2_bothLeft_0 2 rfl
theorem dX2_bothLeft_7 : decode cX2_bothLeft 7 = .ok (.iconst 0, 1) := all_at dvX2_bothLeft_0 3 rfl
theorem dX2_bothLeft_8 : decode cX2_bothLeft 8 = .ok (.iaload, 1) := all_at dvX2_bothLeft_0 4 rfl
theorem dX2_bothLeft_9 : decode cX2_bothLeft 9 = .ok (.ifCond .le 19, 3) := all_at dvX2_bothLeft_0 5 rfl
theorem dX2_bothLeft_12 : decode cX2_bothLeft 12 = .ok (.aload_n 0, 1) := all_at dvX2_bothLeft_0 6 rfl
theorem dX2_bothLeft_13 : decode cX2_bothLeft 13 = .ok (.getfield 12, 3) := all_at dvX2_bothLeft_0 7 rfl
theorem dX2_bothLeft_16 : decode cX2_bothLeft 16 = .ok (.getfield 56, 3) := all_at dvX2_bothLeft_0 8 rfl
theorem dX2_bothLeft_19 : decode cX2_bothLeft 19 = .ok (.iconst 1, 1) := all_at dvX2_bothLeft_0 9 rfl
theorem dX2_bothLeft_20 : decode cX2_bothLeft 20 = .ok (.iaload, 1) := all_at dvX2_bothLeft_0 10 rfl
theorem dX2_bothLeft_21 : decode cX2_bothLeft 21 = .ok (.ifCond .le 7, 3) := all_at dvX2_bothLeft_0 11 rfl
theorem dX2_bothLeft_24 : decode cX2_bothLeft 24 = .ok (.iconst 1, 1) := all_at dvX2_bothLeft_0 12 rfl
theorem dX2_bothLeft_25 : decode cX2_bothLeft 25 = .ok (.goto 4, 3) := all_at dvX2_bothLeft_0 13 rfl
theorem dX2_bothLeft_28 : decode cX2_bothLeft 28 = .ok (.iconst 0, 1) := all_at dvX2_bothLeft_0 14 rfl
theorem dX2_bothLeft_29 : decode cX2_bothLeft 29 = .ok (.ireturn, 1) := all_at dvX2_bothLeft_0 15 rfl
set_option maxRecDepth 100000 in
theorem dvX2_gatherWithout_0 : ([(0, .aload_n 0, 1), (1, .getfield 12, 3), (4, .invokevirtual 58, 3), (7, .iconst 0, 1), (8, .istore_n 3, 1), (9, .iconst 0, 1), (10, .istore 4, 2), (12, .iload 4, 2), (14, .aload_n 0, 1), (15, .getfield 40, 3), (18, .getfield 61, 3), (21, .if_icmp .ge 72, 3), (24, .aload_n 0, 1), (25, .iload 4, 2), (27, .invokevirtual 64, 3), (30, .ifCond .ne 6, 3), (33, .goto 54, 3), (36, .iload_n 1, 1), (37, .bipush 9, 2), (39, .if_icmp .ne 8, 3), (42, .iload 4, 2), (44, .goto 13, 3), (47, .aload_n 0, 1), (48, .getfield 40, 3)] : List (Nat × Instr × Nat)).all (fun q => decide (decode cX2_gatherWithout q.1 = .ok (q.2.1, q.2.2))) = true := by decide +kernel
theorem dX2_gatherWithout_0 : decode cX2_gatherWithout 0 = .ok (.aload_n 0, 1) := all_at dvX2_gatherWithout_0 0 rfl
theorem dX2_gatherWithout_1 : decode cX2_gatherWithout 1 = .ok (.getfield 12, 3) := all_at dvX2_gatherWithout_0 1 rfl
theorem dX2_gatherWithout_4 : decode cX2_gatherWithout 4 = .ok (.invokevirtual 58, 3) := all_at dvX2_gatherWithout_0 2 rfl
theorem dX2_gatherWithout_7 : decode cX2_gatherWithout 7 = .ok (.iconst 0, 1) := all_at dvX2_gatherWithout_0 3 rfl
theorem dX2_gatherWithout_8 : decode cX2_gatherWithout 8 = .ok (.istore_n 3, 1) := all_at dvX2_gatherWithout_0 4 rfl
theorem dX2_gatherWithout_9 : decode cX2_gatherWithout 9 = .ok (.iconst 0, 1) := all_at dvX2_gatherWithout_0 5 rfl
theorem dX2_gatherWithout_10 : decode cX2_gatherWithout 10 = .ok (.istore 4, 2) := all_at dvX2_gatherWithout_0 6 rfl
theorem dX2_gatherWithout_12 : decode cX2_gatherWithout 12 = .ok (.iload 4, 2) := all_at dvX2_gatherWithout_0 7 rfl
theorem dX2_gatherWithout_14 : decode cX2_gatherWithout 14 = .ok (.aload_n 0, 1) := all_at dvX2_gatherWithout_0 8 rfl
theorem dX2_gatherWithout_15 : decode cX2_gatherWithout 15 = .ok (.getfield 40, 3) := all_at dvX2_gatherWithout_0 9 rfl
theorem dX2_gatherWithout_18 : decode cX2_gatherWithout 18 = .ok (.getfield 61, 3) := all_at dvX2_gatherWithout_0 10 rfl
theorem dX2_gatherWithout_21 : decode cX2_gatherWithout 21 = .ok (.if_icmp .ge 72, 3) := all_at dvX2_gatherWithout_0 11 rfl
theorem dX2_gatherWithout_24 : decode cX2_gatherWithout 24 = .ok (.aload_n 0, 1) := all_at dvX2_gatherWithout_0 12 rfl
theorem dX2_gatherWithout_25 : decode cX2_gatherWithout 25 = .ok (.iload 4, 2) := all_at dvX2_gatherWithout_0 13 rfl
theorem dX2_gatherWithout_27 : decode cX2_gatherWithout 27 = .ok (.invokevirtual 64, 3) := all_at dvX2_gatherWithout_0 14 rfl
theorem dX2_gatherWithout_30 : decode cX2_gatherWithout 30 = .ok (.ifCond .ne 6, 3) := all_at dvX2_gatherWithout_0 15 rfl
theorem dX2_gatherWithout_33 : decode cX2_gatherWithout 33 = .ok (.goto 54, 3) := all_at dvX2_gatherWithout_0 16 rfl
theorem dX2_gatherWithout_36 : decode cX2_gatherWithout 36 = .ok (.iload_n 1, 1) := all_at dvX2_gatherWithout_0 17 rfl
theorem dX2_gatherWithout_37 : decode cX2_gatherWithout 37 = .ok (.bipush 9, 2) := all_at dvX2_gatherWithout_0 18 rfl
theorem dX2_gatherWithout_39 : decode cX2_gatherWithout 39 = .ok (.if_icmp .ne 8, 3) := all_at dvX2_gatherWithout_0 19 rfl
theorem dX2_gatherWithout_42 : decode cX2_gatherWithout 42 = .ok (.iload 4, 2) := all_at dvX2_gatherWithout_0 20 rfl
theorem dX2_gatherWithout_44 : decode cX2_gatherWithout 44 = .ok (.goto 13, 3) := all_at dvX2_gatherWithout_0 21 rfl
theorem dX2_gatherWithout_47 : decode cX2_gatherWithout 47 = .ok (.aload_n 0, 1) := all_at dvX2_gatherWithout_0 22 rfl
theorem dX2_gatherWithout_48 : decode cX2_gatherWithout 48 = .ok (.getfield 40, 3) := all_at dvX2_gatherWithout_0 23 rfl
set_option maxRecDepth 100000 in
theorem dvX2_gatherWithout_51 : ([(51, .iload 4, 2), (53, .iload_n 1, 1), (54, .invokevirtual 68, 3), (57, .istore 5, 2), (59, .iload 5, 2), (61, .iload_n 2, 1), (62, .if_icmp .ne 9, 3), (65, .iinc 3 1, 3), (68, .goto 19, 3), (71, .aload_n 0, 1), (72, .aload_n 0, 1), (73, .getfield 40, 3), (76, .iload 4, 2), (78, .iconst 1, 1), (79, .invokevirtual 68, 3), (82, .iload 4, 2), (84, .invokevirtual 71, 3), (87, .iinc 4 1, 3), (90, .goto (-78), 3), (93, .iload_n 3, 1), (94, .ireturn, 1)] : List (Nat × Instr × Nat)).all (fun q => decide (decode cX2_gatherWithout q.1 = .ok (q.2.1, q.2.2))) = true := by decide +kernel
theorem dX2_gatherWithout_51 : decode cX2_gatherWithout 51 = .ok (.iload 4, 2) := all_at dvX2_gatherWithout_51 0 rfl
theorem dX2_gatherWithout_53 : decode cX2_gatherWithout 53 = .ok (.iload_n 1, 1) := all_at dvX2_gatherWithout_51 1 rfl
theorem dX2_gatherWithout_54 : decode cX2_gatherWithout 54 = .ok (.invokevirtual 68, 3) := all_at dvX2_gatherWithout_51 2 rfl
theorem dX2_gatherWithout_57 : decode cX2_gatherWithout 57 = .ok (.istore 5, 2) := all_at dvX2_gatherWithout_51 3 rfl
theorem dX2_gatherWithout_59 : decode cX2_gatherWithout 59 = .ok (.iload 5, 2) := all_at dvX2_gatherWithout_51 4 rfl
theorem dX2_gatherWithout_61 : decode cX2_gatherWithout 61 = .ok (.iload_n 2, 1) := all_at dvX2_gatherWithout_51 5 rfl
theorem dX2_gatherWithout_62 : decode cX2_gatherWithout 62 = .ok (.if_icmp .ne 9, 3) := all_at dvX2_gatherWithout_51 6 rfl
theorem dX2_gatherWithout_65 : decode cX2_gatherWithout 65 = .ok (.iinc 3 1, 3) := all_at dvX2_gatherWithout_51 7 rfl
theorem dX2_gatherWithout_68 : decode cX2_gatherWithout 68 = .ok (.goto 19, 3) := all_at dvX2_gatherWithout_51 8 rfl
theorem dX2_gatherWithout_71 : decode cX2_gatherWithout 71 = .ok (.aload_n 0, 1) := all_at dvX2_gatherWithout_51 9 rfl
theorem dX2_gatherWithout_72 : decode cX2_gatherWithout 72 = .ok (.aload_n 0, 1) := all_at dvX2_gatherWithout_51 10 rfl
theorem dX2_gatherWithout_73 : decode cX2_gatherWithout 73 = .ok (.getfield 40, 3) := all_at dvX2_gatherWithout_51 11 rfl
theorem dX2_gatherWithout_76 : decode cX2_gatherWithout 76 = .ok (.iload 4, 2) := all_at dvX2_gatherWithout_51 12 rfl
theorem dX2_gatherWithout_78 : decode cX2_gatherWithout 78 = .ok (.iconst 1, 1) := all_at dvX2_gatherWithout_51 13 rfl
theorem dX2_gatherWithout_79 : decode cX2_gatherWithout 79 = .ok (.invokevirtual 68, 3) := all_at dvX2_gatherWithout_51 14 rfl
theorem dX2_gatherWithout_82 : decode cX2_gatherWithout 82 = .ok (.iload 4, 2) := all_at dvX2_gatherWithout_51 15 rfl
theorem dX2_gatherWithout_84 : decode cX2_gatherWithout 84 = .ok (.invokevirtual 71, 3) := all_at dvX2_gatherWithout_51 16 rfl
theorem dX2_gatherWithout_87 : decode cX2_gatherWithout 87 = .ok (.iinc 4 1, 3) := all_at dvX2_gatherWithout_51 17 rfl
theorem dX2_gatherWithout_90 : decode cX2_gatherWithout 90 = .ok (.goto (-78), 3) := all_at dvX2_gatherWithout_51 18 rfl
theorem dX2_gatherWithout_93 : decode cX2_gatherWithout 93 = .ok (.iload_n 3, 1) := all_at dvX2_gatherWithout_51 19 rfl
theorem dX2_gatherWithout_94 : decode cX2_gatherWithout 94 = .ok (.ireturn, 1) := all_at dvX2_gatherWithout_51 20 rfl
set_option maxRecDepth 100000 in
theorem dvX2_heap_0 : ([(0, .aload_n 0, 1), (1, .getfield 12, 3), (4, .iload_n 1, 1), (5, .aload_n 0, 1), (6, .getfield 40, 3), (9, .iload_n 2, 1), (10, .iconst 3, 1), (11, .invokevirtual 68, 3), (14, .aload_n 0, 1), (15, .getfield 40, 3), (18, .iload_n 2, 1), (19, .iconst 4, 1), (20, .invokevirtual 68, 3), (23, .invokevirtual 82, 3), (26, .return_, 1)] : List (Nat × Instr × Nat)).all (fun q => decide (decode cX2_heap q.1 = .ok (q.2.1, q.2.2))) = true := by decide +kernel
theorem dX2_heap_0 : decode cX2_heap 0 = .ok (.aload_n 0, 1) := all_at dvX2_heap_0 0 rfl
theorem dX2_heap_1 : decode cX2_heap 1 = .ok (.getfield 12, 3) := all_at dvX2_heap_0 1 rfl
theorem dX2_heap_4 : decode cX2_heap 4 = .ok (.iload_n 1, 1) := all_at dvX2_heap_0 2 rfl
theorem dX2_heap_5 : decode cX2_heap 5 = .ok (.aload_n 0, 1) := all_at dvX2_heap_0 3 rfl
theorem dX2_heap_6 : decode cX2_heap 6 = .ok (.getfield 40, 3) := all_at dvX2_heap_0 4 rfl
theorem dX2_heap_9 : decode cX2_heap 9 = .ok (.iload_n 2, 1) := all_at dvX2_heap_0 5 rfl
theorem dX2_heap_10 : decode cX2_heap 10 = .ok (.iconst 3, 1) := all_at dvX2_heap_0 6 rfl
theorem dX2_heap_11 : decode cX2_heap 11 = .ok (.invokevirtual 68, 3) := all_at dvX2_heap_0 7 rfl
theorem dX2_heap_14 : decode cX2_heap 14 = .ok (.aload_n 0, 1) := all_at dvX2_heap_0 8 rfl
theorem dX2_heap_15 : decode cX2_heap 15 = .ok (.getfield 40, 3) := all_at dvX2_heap_0 9 rfl
theorem dX2_heap_18 : decode cX2_heap 18 = .ok (.iload_n 2, 1) := all_at dvX2_heap_0 10 rfl
theorem dX2_heap_19 : decode cX2_heap 19 = .ok (.iconst 4, 1) := all_at dvX2_heap_0 11 rfl
theorem dX2_heap_20 : decode cX2_heap 20 = .ok (.invokevirtual 68, 3) := all_at dvX2_heap_0 12 rfl
theorem dX2_heap_23 : decode cX2_heap 23 = .ok (.invokevirtual 82, 3) := all_at dvX2_heap_0 13 rfl
theorem dX2_heap_26 : decode cX2_heap 26 = .ok (.return_, 1) := all_at dvX2_heap_0 14 rfl
set_option maxRecDepth 100000 in
theorem dvX2_isInDoubt_0 : ([(0, .aload_n 0, 1), (1, .getfield 40, 3), (4, .iload_n 1, 1), (5, .aload_n 0, 1), (6, .getfield 24, 3), (9, .iconst 0, 1), (10, .invokevirtual 75, 3), (13, .ifCond .ne 19, 3), (16, .aload_n 0, 1), (17, .getfield 40, 3), (20, .iload_n 1, 1), (21, .aload_n 0, 1), (22, .getfield 24, 3), (25, .iconst 1, 1), (26, .invokevirtual 75, 3), (29, .ifCond .eq 22, 3), (32, .aload_n 0, 1), (33, .getfield 40, 3), (36, .iload_n 1, 1), (37, .aload_n 0, 1), (38, .getfield 28, 3), (41, .invokevirtual 78, 3), (44, .ifCond .eq 7, 3), (47, .iconst 1, 1)] : List (Nat × Instr × Nat)).all (fun q => decide (decode cX2_isInDoubt q.1 = .ok (q.2.1, q.2.2))) = true := by decide +kernel
theorem dX2_isInDoubt_0 : decode cX2_isInDoubt 0 = .ok (.aload_n 0, 1) := all_at dvX2_isInDoubt_0 0 rfl
theorem dX2_isInDoubt_1 : decode cX2_isInDoubt 1 = .ok (.getfield 40, 3) := all_at dvX2_isInDoubt_0 1 rfl
theorem dX2_isInDoubt_4 : decode cX2_isInDoubt 4 = .ok (.iload_n 1, 1) := all_at dvX2_isInDoubt_0 2 rfl
theorem dX2_isInDoubt_5 : decode cX2_isInDoubt 5 = .ok (.aload_n 0, 1) := all_at dvX2_isInDoubt_0 3 rfl
theorem dX2_isInDoubt_6 : decode cX2_isInDoubt 6 = .ok (.getfield 24, 3) := all_at dvX2_isInDoubt_0 4 rfl
theorem dX2_isInDoubt_9 : decode cX2_isInDoubt 9 = .ok (.iconst 0, 1) := all_at dvX2_isInDoubt_0 5 rfl
theorem dX2_isInDoubt_10 : decode cX2_isInDoubt 10 = .ok (.invokevirtual 75, 3) := all_at dvX2_isInDoubt_0 6 rfl
theorem dX2_isInDoubt_13 : decode cX2_isInDoubt 13 = .ok (.ifCond .ne 19, 3) := all_at dvX2_isInDoubt_0 7 rfl
theorem dX2_isInDoubt_16 : decode cX2_isInDoubt 16 = .ok (.aload_n 0, 1) := all_at dvX2_isInDoubt_0 8 rfl
theorem dX2_isInDoubt_17 : decode cX2_isInDoubt 17 = .ok (.getfield 40, 3) := all_at dvX2_isInDoubt_0 9 rfl
theorem dX2_isInDoubt_20 : decode cX2_isInDoubt 20 = .ok (.iload_n 1, 1) := all_at dvX2_isInDoubt_0 10 rfl
theorem dX2_isInDoubt_21 : decode cX2_isInDoubt 21 = .ok (.aload_n 0, 1) := all_at dvX2_isInDoubt_0 11 rfl
theorem dX2_isInDoubt_22 : decode cX2_isInDoubt 22 = .ok (.getfield 24, 3) := all_at dvX2_isInDoubt_0 12 rfl
theorem dX2_isInDoubt_25 : decode cX2_isInDoubt 25 = .ok (.iconst 1, 1) := all_at dvX2_isInDoubt_0 13 rfl
theorem dX2_isInDoubt_26 : decode cX2_isInDoubt 26 = .ok (.invokevirtual 75, 3) := all_at dvX2_isInDoubt_0 14 rfl
theorem dX2_isInDoubt_29 : decode cX2_isInDoubt 29 = .ok (.ifCond .eq 22, 3) := all_at dvX2_isInDoubt_0 15 rfl
theorem dX2_isInDoubt_32 : decode cX2_isInDoubt 32 = .ok (.aload_n 0, 1) := all_at dvX2_isInDoubt_0 16 rfl
theorem dX2_isInDoubt_33 : decode cX2_isInDoubt 33 = .ok (.getfield 40, 3) := all_at dvX2_isInDoubt_0 17 rfl
theorem dX2_isInDoubt_36 : decode cX2_isInDoubt 36 = .ok (.iload_n 1, 1) := all_at dvX2_isInDoubt_0 18 rfl
theorem dX2_isInDoubt_37 : decode cX2_isInDoubt 37 = .ok (.aload_n 0, 1) := all_at dvX2_isInDoubt_0 19 rfl
theorem dX2_isInDoubt_38 : decode cX2_isInDoubt 38 = .ok (.getfield 28, 3) := all_at dvX2_isInDoubt_0 20 rfl
theorem dX2_isInDoubt_41 : decode cX2_isInDoubt 41 = .ok (.invokevirtual 78, 3) := all_at dvX2_isInDoubt_0 21 rfl
theorem dX2_isInDoubt_44 : decode cX2_isInDoubt 44 = .ok (.ifCond .eq 7, 3) := all_at dvX2_isInDoubt_0 22 rfl
theorem dX2_isInDoubt_47 : decode cX2_isInDoubt 47 = .ok (.iconst 1, 1) := all_at dvX2_isInDoubt_0 23 rfl
theorem dX2_isInDoubt_48 : decode cX2_isInDoubt 48 = .ok (.goto 4, 3) := by decide +kernel
theorem dX2_isInDoubt_51 : decode cX2_isInDoubt 51 = .ok (.iconst 0, 1) := by decide +kernel
theorem dX2_isInDoubt_52 : decode cX2_isInDoubt 52 = .ok (.ireturn, 1) := by decide +kernel
set_option maxRecDepth 100000 in
theorem dvX2_isParted_0 : ([(0, .aload_n 0, 1), (1, .bipush 9, 2), (3, .iconst (-1), 1), (4, .invokevirtual 44, 3), (7, .pop, 1), (8, .aload_n 0, 1), (9, .invokevirtual 48, 3), (12, .ifCond .eq 23, 3), (15, .aload_n 0, 1), (16, .getfield 12, 3), (19, .iconst 0, 1), (20, .iconst 1, 1), (21, .aload_n 0, 1), (22, .getfield 31, 3), (25, .invokevirtual 52, 3), (28, .ifCond .eq 7, 3), (31, .iconst 1, 1), (32, .goto 4, 3), (35, .iconst 0, 1), (36, .ireturn, 1)] : List (Nat × Instr × Nat)).all (fun q => decide (decode cX2_isParted q.1 = .ok (q.2.1, q.2.2))) = true := by decide +kernel
theorem dX2_isParted_0 : decode cX2_isParted 0 = .ok (.aload_n 0, 1) := all_at dvX2_isParted_0 0 rfl
theorem dX2_isParted_1 : decode cX2_isParted 1 = .ok (.bipush 9, 2) := all_at dvX2_isParted_0 1 rfl
theorem dX2_isParted_3 : decode cX2_isParted 3 = .ok (.iconst (-1), 1) := all_at dvX2_isParted_0 2 rfl
theorem dX2_isParted_4 : decode cX2_isParted 4 = .ok (.invokevirtual 44, 3) := all_at dvX2_isParted_0 3 rfl
theorem dX2_isParted_7 : decode cX2_isParted 7 = .ok (.pop, 1) := all_at dvX2_isParted_0 4 rfl
theorem dX2_isParted_8 : decode cX2_isParted 8 = .ok (.aload_n 0, 1) := all_at dvX2_isParted_0 5 rfl
theorem dX2_isParted_9 : decode cX2_isParted 9 = .ok (.invokevirtual 48, 3) := all_at dvX2_isParted_0 6 rfl
theorem dX2_isParted_12 : decode cX2_isParted 12 = .ok (.ifCond .eq 23, 3) := all_at dvX2_isParted_0 7 rfl
theorem dX2_isParted_15 : decode cX2_isParted 15 = .ok (.aload_n 0, 1) := all_at dvX2_isParted_0 8 rfl
theorem dX2_isParted_16 : decode cX2_isParted 16 = .ok (.getfield 12, 3) := all_at dvX2_isParted_0 9 rfl
theorem dX2_isParted_19 : decode cX2_isParted 19 = .ok (.iconst 0, 1) := all_at dvX2_isParted_0 10 rfl
theorem dX2_isParted_20 : decode cX2_isParted 20 = .ok (.iconst 1, 1) := all_at dvX2_isParted_0 11 rfl
theorem dX2_isParted_21 : decode cX2_isParted 21 = .ok (.aload_n 0, 1) := all_at dvX2_isParted_0 12 rfl
theorem dX2_isParted_22 : decode cX2_isParted 22 = .ok (.getfield 31, 3) := all_at dvX2_isParted_0 13 rfl
theorem dX2_isParted_25 : decode cX2_isParted 25 = .ok (.invokevirtual 52, 3) := all_at dvX2_isParted_0 14 rfl
theorem dX2_isParted_28 : decode cX2_isParted 28 = .ok (.ifCond .eq 7, 3) := all_at dvX2_isParted_0 15 rfl
theorem dX2_isParted_31 : decode cX2_isParted 31 = .ok (.iconst 1, 1) := all_at dvX2_isParted_0 16 rfl
theorem dX2_isParted_32 : decode cX2_isParted 32 = .ok (.goto 4, 3) := all_at dvX2_isParted_0 17 rfl
theorem dX2_isParted_35 : decode cX2_isParted 35 = .ok (.iconst 0, 1) := all_at dvX2_isParted_0 18 rfl
theorem dX2_isParted_36 : decode cX2_isParted 36 = .ok (.ireturn, 1) := all_at dvX2_isParted_0 19 rfl
set_option maxRecDepth 100000 in
theorem dvX2_lookAt_0 : ([(0, .aload_n 0, 1), (1, .iload_n 1, 1), (2, .putfield 24, 3), (5, .aload_n 0, 1), (6, .iload_n 2, 1), (7, .putfield 28, 3), (10, .aload_n 0, 1), (11, .iload_n 3, 1), (12, .putfield 31, 3), (15, .return_, 1)] : List (Nat × Instr × Nat)).all (fun q => decide (decode cX2_lookAt q.1 = .ok (q.2.1, q.2.2))) = true := by decide +kernel
theorem dX2_lookAt_0 : decode cX2_lookAt 0 = .ok (.aload_n 0, 1) := all_at dvX2_lookAt_0 0 rfl
theorem dX2_lookAt_1 : decode cX2_lookAt 1 = .ok (.iload_n 1, 1) := all_at dvX2_lookAt_0 1 rfl
theorem dX2_lookAt_2 : decode cX2_lookAt 2 = .ok (.putfield 24, 3) := all_at dvX2_lookAt_0 2 rfl
theorem dX2_lookAt_5 : decode cX2_lookAt 5 = .ok (.aload_n 0, 1) := all_at dvX2_lookAt_0 3 rfl
theorem dX2_lookAt_6 : decode cX2_lookAt 6 = .ok (.iload_n 2, 1) := all_at dvX2_lookAt_0 4 rfl
theorem dX2_lookAt_7 : decode cX2_lookAt 7 = .ok (.putfield 28, 3) := all_at dvX2_lookAt_0 5 rfl
theorem dX2_lookAt_10 : decode cX2_lookAt 10 = .ok (.aload_n 0, 1) := all_at dvX2_lookAt_0 6 rfl
theorem dX2_lookAt_11 : decode cX2_lookAt 11 = .ok (.iload_n 3, 1) := all_at dvX2_lookAt_0 7 rfl
theorem dX2_lookAt_12 : decode cX2_lookAt 12 = .ok (.putfield 31, 3) := all_at dvX2_lookAt_0 8 rfl
theorem dX2_lookAt_15 : decode cX2_lookAt 15 = .ok (.return_, 1) := all_at dvX2_lookAt_0 9 rfl
set_option maxRecDepth 100000 in
theorem dvX3_gather_0 : ([(0, .aload_n 0, 1), (1, .getfield 10, 3), (4, .invokevirtual 31, 3), (7, .iconst 0, 1), (8, .istore_n 3, 1), (9, .iload_n 3, 1), (10, .aload_n 0, 1), (11, .getfield 23, 3), (14, .getfield 34, 3), (17, .if_icmp .ge 68, 3), (20, .aload_n 0, 1), (21, .getfield 23, 3), (24, .iload_n 3, 1), (25, .iconst 0, 1), (26, .invokevirtual 39, 3), (29, .iload_n 1, 1), (30, .if_icmp .ne 49, 3), (33, .aload_n 0, 1), (34, .getfield 23, 3), (37, .iload_n 3, 1), (38, .iload_n 2, 1), (39, .invokevirtual 43, 3), (42, .ifCond .eq 37, 3), (45, .aload_n 0, 1)] : List (Nat × Instr × Nat)).all (fun q => decide (decode cX3_gather q.1 = .ok (q.2.1, q.2.2))) = true := by decide +kernel
theorem dX3_gather_0 : decode cX3_gather 0 = .ok (.aload_n 0, 1) := all_at dvX3_gather_0 0 rfl
theorem dX3_gather_1 : decode cX3_gather 1 = .ok (.getfield 10, 3) := all_at dvX3_gather_0 1 rfl
theorem dX3_gather_4 : decode cX3_gather 4 = .ok (.invokevirtual 31, 3) := all_at dvX3_gather_0 2 rfl
theorem dX3_gather_7 : decode cX3_gather 7 = .ok (.iconst 0, 1) := all_at dvX3_gather_0 3 rfl
theorem dX3_gather_8 : decode cX3_gather 8 = .ok (.istore_n 3, 1) := all_at dvX3_gather_0 4 rfl
theorem dX3_gather_9 : decode cX3_gather 9 = .ok (.iload_n 3, 1) := all_at dvX3_gather_0 5 rfl
theorem dX3_gather_10 : decode cX3_gather 10 = .ok (.aload_n 0, 1) := all_at dvX3_gather_0 6 rfl
theorem dX3_gather_11 : decode cX3_gather 11 = .ok (.getfield 23, 3) := all_at dvX3_gather_0 7 rfl
theorem dX3_gather_14 : decode cX3_gather 14 = .ok (.getfield 34, 3) := all_at dvX3_gather_0 8 rfl
theorem dX3_gather_17 : decode cX3_gather 17 = .ok (.if_icmp .ge 68, 3) := all_at dvX3_gather_0 9 rfl
theorem dX3_gather_20 : decode cX3_gather 20 = .ok (.aload_n 0, 1) := all_at dvX3_gather_0 10 rfl
theorem dX3_gather_21 : decode cX3_gather 21 = .ok (.getfield 23, 3) := all_at dvX3_gather_0 11 rfl
theorem dX3_gather_24 : decode cX3_gather 24 = .ok (.iload_n 3, 1) := all_at dvX3_gather_0 12 rfl
theorem dX3_gather_25 : decode cX3_gather 25 = .ok (.iconst 0, 1) := all_at dvX3_gather_0 13 rfl
theorem dX3_gather_26 : decode cX3_gather 26 = .ok (.invokevirtual 39, 3) := all_at dvX3_gather_0 14 rfl
theorem dX3_gather_29 : decode cX3_gather 29 = .ok (.iload_n 1, 1) := all_at dvX3_gather_0 15 rfl
theorem dX3_gather_30 : decode cX3_gather 30 = .ok (.if_icmp .ne 49, 3) := all_at dvX3_gather_0 16 rfl
theorem dX3_gather_33 : decode cX3_gather 33 = .ok (.aload_n 0, 1) := all_at dvX3_gather_0 17 rfl
theorem dX3_gather_34 : decode cX3_gather 34 = .ok (.getfield 23, 3) := all_at dvX3_gather_0 18 rfl
theorem dX3_gather_37 : decode cX3_gather 37 = .ok (.iload_n 3, 1) := all_at dvX3_gather_0 19 rfl
theorem dX3_gather_38 : decode cX3_gather 38 = .ok (.iload_n 2, 1) := all_at dvX3_gather_0 20 rfl
theorem dX3_gather_39 : decode cX3_gather 39 = .ok (.invokevirtual 43, 3) := all_at dvX3_gather_0 21 rfl
theorem dX3_gather_42 : decode cX3_gather 42 = .ok (.ifCond .eq 37, 3) := all_at dvX3_gather_0 22 rfl
theorem dX3_gather_45 : decode cX3_gather 45 = .ok (.aload_n 0, 1) := all_at dvX3_gather_0 23 rfl
set_option maxRecDepth 100000 in
theorem dvX3_gather_46 : ([(46, .getfield 10, 3), (49, .aload_n 0, 1), (50, .getfield 23, 3), (53, .iload_n 3, 1), (54, .iconst 1, 1), (55, .invokevirtual 39, 3), (58, .aload_n 0, 1), (59, .getfield 23, 3), (62, .iload_n 3, 1), (63, .iconst 3, 1), (64, .invokevirtual 39, 3), (67, .aload_n 0, 1), (68, .getfield 23, 3), (71, .iload_n 3, 1), (72, .iconst 4, 1), (73, .invokevirtual 39, 3), (76, .invokevirtual 47, 3), (79, .iinc 3 1, 3), (82, .goto (-73), 3), (85, .return_, 1)] : List (Nat × Instr × Nat)).all (fun q => decide (decode cX3_gather q.1 = .ok (q.2.1, q.2.2))) = true := by decide +kernel
theorem dX3_gather_46 : decode cX3_gather 46 = .ok (.getfield 10, 3) := all_at dvX3_gather_46 0 rfl
theorem dX3_gather_49 : decode cX3_gather 49 = .ok (.aload_n 0, 1) := all_at dvX3_gather_46 1 rfl
theorem dX3_gather_50 : decode cX3_gather 50 = .ok (.getfield 23, 3) := all_at dvX3_gather_46 2 rfl
theorem dX3_gather_53 : decode cX3_gather 53 = .ok (.iload_n 3, 1) := all_at dvX3_gather_46 3 rfl
theorem dX3_gather_54 : decode cX3_gather 54 = .ok (.iconst 1, 1) := all_at dvX3_gather_46 4 rfl
theorem dX3_gather_55 : decode cX3_gather 55 = .ok (.invokevirtual 39, 3) := all_at dvX3_gather_46 5 rfl
theorem dX3_gather_58 : decode cX3_gather 58 = .ok (.aload_n 0, 1) := all_at dvX3_gather_46 6 rfl
theorem dX3_gather_59 : decode cX3_gather 59 = .ok (.getfield 23, 3) := all_at dvX3_gather_46 7 rfl
theorem dX3_gather_62 : decode cX3_gather 62 = .ok (.iload_n 3, 1) := all_at dvX3_gather_46 8 rfl
theorem dX3_gather_63 : decode cX3_gather 63 = .ok (.iconst 3, 1) := all_at dvX3_gather_46 9 rfl
theorem dX3_gather_64 : decode cX3_gather 64 = .ok (.invokevirtual 39, 3) := all_at dvX3_gather_46 10 rfl
theorem dX3_gather_67 : decode cX3_gather 67 = .ok (.aload_n 0, 1) := all_at dvX3_gather_46 11 rfl
theorem dX3_gather_68 : decode cX3_gather 68 = .ok (.getfield 23, 3) := all_at dvX3_gather_46 12 rfl
theorem dX3_gather_71 : decode cX3_gather 71 = .ok (.iload_n 3, 1) := all_at dvX3_gather_46 13 rfl
theorem dX3_gather_72 : decode cX3_gather 72 = .ok (.iconst 4, 1) := all_at dvX3_gather_46 14 rfl
theorem dX3_gather_73 : decode cX3_gather 73 = .ok (.invokevirtual 39, 3) := all_at dvX3_gather_46 15 rfl
theorem dX3_gather_76 : decode cX3_gather 76 = .ok (.invokevirtual 47, 3) := all_at dvX3_gather_46 16 rfl
theorem dX3_gather_79 : decode cX3_gather 79 = .ok (.iinc 3 1, 3) := all_at dvX3_gather_46 17 rfl
theorem dX3_gather_82 : decode cX3_gather 82 = .ok (.goto (-73), 3) := all_at dvX3_gather_46 18 rfl
theorem dX3_gather_85 : decode cX3_gather 85 = .ok (.return_, 1) := all_at dvX3_gather_46 19 rfl
set_option maxRecDepth 100000 in
theorem dvX3_lesserOf_0 : ([(0, .aload_n 0, 1), (1, .getfield 10, 3), (4, .getfield 97, 3), (7, .iload_n 2, 1), (8, .laload, 1), (9, .aload_n 0, 1), (10, .getfield 10, 3), (13, .getfield 101, 3), (16, .iload_n 1, 1), (17, .laload, 1), (18, .lmul, 1), (19, .aload_n 0, 1), (20, .getfield 10, 3), (23, .getfield 97, 3), (26, .iload_n 1, 1), (27, .laload, 1), (28, .aload_n 0, 1), (29, .getfield 10, 3), (32, .getfield 101, 3), (35, .iload_n 2, 1), (36, .laload, 1), (37, .lmul, 1), (38, .lcmp, 1), (39, .ifCond .ge 7, 3)] : List (Nat × Instr × Nat)).all (fun q => decide (decode cX3_lesserOf q.1 = .ok (q.2.1, q.2.2))) = true := by decide +kernel
theorem dX3_lesserOf_0 : decode cX3_lesserOf 0 = .ok (.aload_n 0, 1) := all_at dvX3_lesserOf_0 0 rfl
theorem dX3_lesserOf_1 : decode cX3_lesserOf 1 = .ok (.getfield 10, 3) := all_at dvX3_lesserOf_0 1 rfl
theorem dX3_lesserOf_4 : decode cX3_lesserOf 4 = .ok (.getfield 97, 3) := all_at dvX3_lesserOf_0 2 rfl
theorem dX3_lesserOf_7 : decode cX3_lesserOf 7 = .ok (.iload_n 2, 1) := all_at dvX3_lesserOf_0 3 rfl
theorem dX3_lesserOf_8 : decode cX3_lesserOf 8 = .ok (.laload, 1) := all_at dvX3_lesserOf_0 4 rfl
theorem dX3_lesserOf_9 : decode cX3_lesserOf 9 = .ok (.aload_n 0, 1) := all_at dvX3_lesserOf_0 5 rfl
theorem dX3_lesserOf_10 : decode cX3_lesserOf 10 = .ok (.getfield 10, 3) := all_at dvX3_lesserOf_0 6 rfl
theorem dX3_lesserOf_13 : decode cX3_lesserOf 13 = .ok (.getfield 101, 3) := all_at dvX3_lesserOf_0 7 rfl
theorem dX3_lesserOf_16 : decode cX3_lesserOf 16 = .ok (.iload_n 1, 1) := all_at dvX3_lesserOf_0 8 rfl
theorem dX3_lesserOf_17 : decode cX3_lesserOf 17 = .ok (.laload, 1) := all_at dvX3_lesserOf_0 9 rfl
theorem dX3_lesserOf_18 : decode cX3_lesserOf 18 = .ok (.lmul, 1) := all_at dvX3_lesserOf_0 10 rfl
theorem dX3_lesserOf_19 : decode cX3_lesserOf 19 = .ok (.aload_n 0, 1) := all_at dvX3_lesserOf_0 11 rfl
theorem dX3_lesserOf_20 : decode cX3_lesserOf 20 = .ok (.getfield 10, 3) := all_at dvX3_lesserOf_0 12 rfl
theorem dX3_lesserOf_23 : decode cX3_lesserOf 23 = .ok (.getfield 97, 3) := all_at dvX3_lesserOf_0 13 rfl
theorem dX3_lesserOf_26 : decode cX3_lesserOf 26 = .ok (.iload_n 1, 1) := all_at dvX3_lesserOf_0 14 rfl
theorem dX3_lesserOf_27 : decode cX3_lesserOf 27 = .ok (.laload, 1) := all_at dvX3_lesserOf_0 15 rfl
theorem dX3_lesserOf_28 : decode cX3_lesserOf 28 = .ok (.aload_n 0, 1) := all_at dvX3_lesserOf_0 16 rfl
theorem dX3_lesserOf_29 : decode cX3_lesserOf 29 = .ok (.getfield 10, 3) := all_at dvX3_lesserOf_0 17 rfl
theorem dX3_lesserOf_32 : decode cX3_lesserOf 32 = .ok (.getfield 101, 3) := all_at dvX3_lesserOf_0 18 rfl
theorem dX3_lesserOf_35 : decode cX3_lesserOf 35 = .ok (.iload_n 2, 1) := all_at dvX3_lesserOf_0 19 rfl
theorem dX3_lesserOf_36 : decode cX3_lesserOf 36 = .ok (.laload, 1) := all_at dvX3_lesserOf_0 20 rfl
theorem dX3_lesserOf_37 : decode cX3_lesserOf 37 = .ok (.lmul, 1) := all_at dvX3_lesserOf_0 21 rfl
theorem dX3_lesserOf_38 : decode cX3_lesserOf 38 = .ok (.lcmp, 1) := all_at dvX3_lesserOf_0 22 rfl
theorem dX3_lesserOf_39 : decode cX3_lesserOf 39 = .ok (.ifCond .ge 7, 3) := all_at dvX3_lesserOf_0 23 rfl
set_option maxRecDepth 100000 in
theorem dvX3_lesserOf_42 : ([(42, .iload_n 2, 1), (43, .goto 4, 3), (46, .iload_n 1, 1), (47, .ireturn, 1)] : List (Nat × Instr × Nat)).all (fun q => decide (decode cX3_lesserOf q.1 = .ok (q.2.1, q.2.2))) = true := by decide +kernel
theorem dX3_lesserOf_42 : decode cX3_lesserOf 42 = .ok (.iload_n 2, 1) := all_at dvX3_lesserOf_42 0 rfl
theorem dX3_lesserOf_43 : decode cX3_lesserOf 43 = .ok (.goto 4, 3) := all_at dvX3_lesserOf_42 1 rfl
theorem dX3_lesserOf_46 : decode cX3_lesserOf 46 = .ok (.iload_n 1, 1) := all_at dvX3_lesserOf_42 2 rfl
theorem dX3_lesserOf_47 : decode cX3_lesserOf 47 = .ok (.ireturn, 1) := all_at dvX3_lesserOf_42 3 rfl
set_option maxRecDepth 100000 in
theorem dvX3_lower_0 : ([(0, .ldc2_w 104, 3), (3, .aload_n 0, 1), (4, .getfield 10, 3), (7, .getfield 101, 3), (10, .aload_n 0, 1), (11, .getfield 16, 3), (14, .laload, 1), (15, .lmul, 1), (16, .aload_n 0, 1), (17, .getfield 10, 3), (20, .getfield 101, 3), (23, .aload_n 0, 1), (24, .getfield 20, 3), (27, .laload, 1), (28, .lmul, 1), (29, .lreturn, 1)] : List (Nat × Instr × Nat)).all (fun q => decide (decode cX3_lower q.1 = .ok (q.2.1, q.2.2))) = true := by decide +kernel
theorem dX3_lower_0 : decode cX3_lower 0 = .ok (.ldc2_w 104, 3) := all_at dvX3_lower_0 0 rfl
theorem dX3_lower_3 : decode cX3_lower 3 = .ok (.aload_n 0, 1) := all_at dvX3_lower_0 1 rfl
theorem dX3_lower_4 : decode cX3_lower 4 = .ok (.getfield 10, 3) := all_at dvX3_lower_0 2 rfl
theorem dX3_lower_7 : decode cX3_lower 7 = .ok (.getfield 101, 3) := all_at dvX3_lower_0 3 rfl
theorem dX3_lower_10 : decode cX3_lower 10 = .ok (.aload_n 0, 1) := all_at dvX3_lower_0 4 rfl
theorem dX3_lower_11 : decode cX3_lower 11 = .ok (.getfield 16, 3) := all_at dvX3_lower_0 5 rfl
theorem dX3_lower_14 : decode cX3_lower 14 = .ok (.laload, 1) := all_at dvX3_lower_0 6 rfl
theorem dX3_lower_15 : decode cX3_lower 15 = .ok (.lmul, 1) := all_at dvX3_lower_0 7 rfl
theorem dX3_lower_16 : decode cX3_lower 16 = .ok (.aload_n 0, 1) := all_at dvX3_lower_0 8 rfl
theorem dX3_lower_17 : decode cX3_lower 17 = .ok (.getfield 10, 3) := all_at dvX3_lower_0 9 rfl
theorem dX3_lower_20 : decode cX3_lower 20 = .ok (.getfield 101, 3) := all_at dvX3_lower_0 10 rfl
theorem dX3_lower_23 : decode cX3_lower 23 = .ok (.aload_n 0, 1) := all_at dvX3_lower_0 11 rfl
theorem dX3_lower_24 : decode cX3_lower 24 = .ok (.getfield 20, 3) := all_at dvX3_lower_0 12 rfl
theorem dX3_lower_27 : decode cX3_lower 27 = .ok (.laload, 1) := all_at dvX3_lower_0 13 rfl
theorem dX3_lower_28 : decode cX3_lower 28 = .ok (.lmul, 1) := all_at dvX3_lower_0 14 rfl
theorem dX3_lower_29 : decode cX3_lower 29 = .ok (.lreturn, 1) := all_at dvX3_lower_0 15 rfl
set_option maxRecDepth 100000 in
theorem dvX3_middleLook_0 : ([(0, .aload_n 0, 1), (1, .iconst 0, 1), (2, .iconst 1, 1), (3, .invokevirtual 77, 3), (6, .istore_n 1, 1), (7, .iconst 1, 1), (8, .iload_n 1, 1), (9, .isub, 1), (10, .istore_n 2, 1), (11, .aload_n 0, 1), (12, .iload_n 1, 1), (13, .iconst 2, 1), (14, .invokevirtual 77, 3), (17, .iconst 2, 1), (18, .if_icmp .ne 5, 3), (23, .aload_n 0, 1), (24, .iload_n 2, 1), (25, .iconst 2, 1), (26, .invokevirtual 77, 3)] : List (Nat × Instr × Nat)).all (fun q => decide (decode cX3_middleLook q.1 = .ok (q.2.1, q.2.2))) = true := by decide +kernel
theorem dX3_middleLook_0 : decode cX3_middleLook 0 = .ok (.aload_n 0, 1) := all_at dvX3_middleLook_0 0 rfl
theorem dX3_middleLook_1 : decode cX3_middleLook 1 = .ok (.iconst 0, 1) := all_at dvX3_middleLook_0 1 rfl
theorem dX3_middleLook_2 : decode cX3_middleLook 2 = .ok (.iconst 1, 1) := all_at dvX3_middleLook_0 2 rfl
theorem dX3_middleLook_3 : decode cX3_middleLook 3 = .ok (.invokevirtual 77, 3) := all_at dvX3_middleLook_0 3 rfl
theorem dX3_middleLook_6 : decode cX3_middleLook 6 = .ok (.istore_n 1, 1) := all_at dvX3_middleLook_0 4 rfl
theorem dX3_middleLook_7 : decode cX3_middleLook 7 = .ok (.iconst 1, 1) := all_at dvX3_middleLook_0 5 rfl
theorem dX3_middleLook_8 : decode cX3_middleLook 8 = .ok (.iload_n 1, 1) := all_at dvX3_middleLook_0 6 rfl
theorem dX3_middleLook_9 : decode cX3_middleLook 9 = .ok (.isub, 1) := all_at dvX3_middleLook_0 7 rfl
theorem dX3_middleLook_10 : decode cX3_middleLook 10 = .ok (.istore_n 2, 1) := all_at dvX3_middleLook_0 8 rfl
theorem dX3_middleLook_11 : decode cX3_middleLook 11 = .ok (.aload_n 0, 1) := all_at dvX3_middleLook_0 9 rfl
theorem dX3_middleLook_12 : decode cX3_middleLook 12 = .ok (.iload_n 1, 1) := all_at dvX3_middleLook_0 10 rfl
theorem dX3_middleLook_13 : decode cX3_middleLook 13 = .ok (.iconst 2, 1) := all_at dvX3_middleLook_0 11 rfl
theorem dX3_middleLook_14 : decode cX3_middleLook 14 = .ok (.invokevirtual 77, 3) := all_at dvX3_middleLook_0 12 rfl
theorem dX3_middleLook_17 : decode cX3_middleLook 17 = .ok (.iconst 2, 1) := all_at dvX3_middleLook_0 13 rfl
theorem dX3_middleLook_18 : decode cX3_middleLook 18 = .ok (.if_icmp .ne 5, 3) := all_at dvX3_middleLook_0 14 rfl
theorem dX3_middleLook_23 : decode cX3_middleLook 23 = .ok (.aload_n 0, 1) := all_at dvX3_middleLook_0 15 rfl
theorem dX3_middleLook_24 : decode cX3_middleLook 24 = .ok (.iload_n 2, 1) := all_at dvX3_middleLook_0 16 rfl
theorem dX3_middleLook_25 : decode cX3_middleLook 25 = .ok (.iconst 2, 1) := all_at dvX3_middleLook_0 17 rfl
theorem dX3_middleLook_26 : decode cX3_middleLook 26 = .ok (.invokevirtual 77, 3) := all_at dvX3_middleLook_0 18 rfl
set_option maxRecDepth 100000 in
theorem dvX3_settle_0 : ([(0, .aload_n 0, 1), (1, .iload_n 1, 1), (2, .putfield 16, 3), (5, .aload_n 0, 1), (6, .iload_n 2, 1), (7, .putfield 20, 3), (10, .iconst 1, 1), (11, .ireturn, 1)] : List (Nat × Instr × Nat)).all (fun q => decide (decode cX3_settle q.1 = .ok (q.2.1, q.2.2))) = true := by decide +kernel
theorem dX3_settle_0 : decode cX3_settle 0 = .ok (.aload_n 0, 1) := all_at dvX3_settle_0 0 rfl
theorem dX3_settle_1 : decode cX3_settle 1 = .ok (.iload_n 1, 1) := all_at dvX3_settle_0 1 rfl
theorem dX3_settle_2 : decode cX3_settle 2 = .ok (.putfield 16, 3) := all_at dvX3_settle_0 2 rfl
theorem dX3_settle_5 : decode cX3_settle 5 = .ok (.aload_n 0, 1) := all_at dvX3_settle_0 3 rfl
theorem dX3_settle_6 : decode cX3_settle 6 = .ok (.iload_n 2, 1) := all_at dvX3_settle_0 4 rfl
theorem dX3_settle_7 : decode cX3_settle 7 = .ok (.putfield 20, 3) := all_at dvX3_settle_0 5 rfl
theorem dX3_settle_10 : decode cX3_settle 10 = .ok (.iconst 1, 1) := all_at dvX3_settle_0 6 rfl
theorem dX3_settle_11 : decode cX3_settle 11 = .ok (.ireturn, 1) := all_at dvX3_settle_0 7 rfl
set_option maxRecDepth 100000 in
theorem dvX3_settleByNearest_0 : ([(0, .aload_n 0, 1), (1, .getfield 10, 3), (4, .iconst 0, 1), (5, .invokevirtual 87, 3), (8, .aload_n 0, 1), (9, .getfield 10, 3), (12, .iconst 1, 1), (13, .invokevirtual 87, 3), (16, .lsub, 1), (17, .invokestatic 91, 3), (20, .lstore_n 1, 1), (21, .aload_n 0, 1), (22, .getfield 10, 3), (25, .iconst 0, 1), (26, .invokevirtual 87, 3), (29, .aload_n 0, 1), (30, .getfield 10, 3), (33, .iconst 2, 1), (34, .invokevirtual 87, 3), (37, .lsub, 1), (38, .invokestatic 91, 3), (41, .lstore_n 3, 1), (42, .aload_n 0, 1), (43, .getfield 10, 3)] : List (Nat × Instr × Nat)).all (fun q => decide (decode cX3_settleByNearest q.1 = .ok (q.2.1, q.2.2))) = true := by decide +kernel
theorem dX3_settleByNearest_0 : decode cX3_settleByNearest 0 = .ok (.aload_n 0, 1) := all_at dvX3_settleByNearest_0 0 rfl
theorem dX3_settleByNearest_1 : decode cX3_settleByNearest 1 = .ok (.getfield 10, 3) := all_at dvX3_settleByNearest_0 1 rfl
theorem dX3_settleByNearest_4 : decode cX3_settleByNearest 4 = .ok (.iconst 0, 1) := all_at dvX3_settleByNearest_0 2 rfl
theorem dX3_settleByNearest_5 : decode cX3_settleByNearest 5 = .ok (.invokevirtual 87, 3) := all_at dvX3_settleByNearest_0 3 rfl
theorem dX3_settleByNearest_8 : decode cX3_settleByNearest 8 = .ok (.aload_n 0, 1) := all_at dvX3_settleByNearest_0 4 rfl
theorem dX3_settleByNearest_9 : decode cX3_settleByNearest 9 = .ok (.getfield 10, 3) := all_at dvX3_settleByNearest_0 5 rfl
theorem dX3_settleByNearest_12 : decode cX3_settleByNearest 12 = .ok (.iconst 1, 1) := all_at dvX3_settleByNearest_0 6 rfl
theorem dX3_settleByNearest_13 : decode cX3_settleByNearest 13 = .ok (.invokevirtual 87, 3) := all_at dvX3_settleByNearest_0 7 rfl
theorem dX3_settleByNearest_16 : decode cX3_settleByNearest 16 = .ok (.lsub, 1) := all_at dvX3_settleByNearest_0 8 rfl
theorem dX3_settleByNearest_17 : decode cX3_settleByNearest 17 = .ok (.invokestatic 91, 3) := all_at dvX3_settleByNearest_0 9 rfl
theorem dX3_settleByNearest_20 : decode cX3_settleByNearest 20 = .ok (.lstore_n 1, 1) := all_at dvX3_settleByNearest_0 10 rfl
theorem dX3_settleByNearest_21 : decode cX3_settleByNearest 21 = .ok (.aload_n 0, 1) := all_at dvX3_settleByNearest_0 11 rfl
theorem dX3_settleByNearest_22 : decode cX3_settleByNearest 22 = .ok (.getfield 10, 3) := all_at dvX3_settleByNearest_0 12 rfl
theorem dX3_settleByNearest_25 : decode cX3_settleByNearest 25 = .ok (.iconst 0, 1) := all_at dvX3_settleByNearest_0 13 rfl
theorem dX3_settleByNearest_26 : decode cX3_settleByNearest 26 = .ok (.invokevirtual 87, 3) := all_at dvX3_settleByNearest_0 14 rfl
theorem dX3_settleByNearest_29 : decode cX3_settleByNearest 29 = .ok (.aload_n 0, 1) := all_at dvX3_settleByNearest_0 15 rfl
theorem dX3_settleByNearest_30 : decode cX3_settleByNearest 30 = .ok (.getfield 10, 3) := all_at dvX3_settleByNearest_0 16 rfl
theorem dX3_settleByNearest_33 : decode cX3_settleByNearest 33 = .ok (.iconst 2, 1) := all_at dvX3_settleByNearest_0 17 rfl
theorem dX3_settleByNearest_34 : decode cX3_settleByNearest 34 = .ok (.invokevirtual 87, 3) := all_at dvX3_settleByNearest_0 18 rfl
theorem dX3_settleByNearest_37 : decode cX3_settleByNearest 37 = .ok (.lsub, 1) := all_at dvX3_settleByNearest_0 19 rfl
theorem dX3_settleByNearest_38 : decode cX3_settleByNearest 38 = .ok (.invokestatic 91, 3) := all_at dvX3_settleByNearest_0 20 rfl
theorem dX3_settleByNearest_41 : decode cX3_settleByNearest 41 = .ok (.lstore_n 3, 1) := all_at dvX3_settleByNearest_0 21 rfl
theorem dX3_settleByNearest_42 : decode cX3_settleByNearest 42 = .ok (.aload_n 0, 1) := all_at dvX3_settleByNearest_0 22 rfl
theorem dX3_settleByNearest_43 : decode cX3_settleByNearest 43 = .ok (.getfield 10, 3) := all_at dvX3_settleByNearest_0 23 rfl
set_option maxRecDepth 100000 in
theorem dvX3_settleByNearest_46 : ([(46, .iconst 1, 1), (47, .invokevirtual 87, 3), (50, .aload_n 0, 1), (51, .getfield 10, 3), (54, .iconst 2, 1), (55, .invokevirtual 87, 3), (58, .lsub, 1), (59, .invokestatic 91, 3), (62, .lstore 5, 2), (64, .lload_n 1, 1), (65, .lload_n 3, 1), (66, .lcmp, 1), (67, .ifCond .gt 17, 3), (70, .lload_n 1, 1), (71, .lload 5, 2), (73, .lcmp, 1), (74, .ifCond .gt 10, 3), (77, .aload_n 0, 1), (78, .iconst 0, 1), (79, .iconst 1, 1), (80, .invokevirtual 63, 3), (83, .ireturn, 1), (84, .lload_n 3, 1), (85, .lload 5, 2)] : List (Nat × Instr × Nat)).all (fun q => decide (decode cX3_settleByNearest q.1 = .ok (q.2.1, q.2.2))) = true := by decide +kernel
theorem dX3_settleByNearest_46 : decode cX3_settleByNearest 46 = .ok (.iconst 1, 1) := all_at dvX3_settleByNearest_46 0 rfl
theorem dX3_settleByNearest_47 : decode cX3_settleByNearest 47 = .ok (.invokevirtual 87, 3) := all_at dvX3_settleByNearest_46 1 rfl
theorem dX3_settleByNearest_50 : decode cX3_settleByNearest 50 = .ok (.aload_n 0, 1) := all_at dvX3_settleByNearest_46 2 rfl
theorem dX3_settleByNearest_51 : decode cX3_settleByNearest 51 = .ok (.getfield 10, 3) := all_at dvX3_settleByNearest_46 3 rfl
theorem dX3_settleByNearest_54 : decode cX3_settleByNearest 54 = .ok (.iconst 2, 1) := all_at dvX3_settleByNearest_46 4 rfl
theorem dX3_settleByNearest_55 : decode cX3_settleByNearest 55 = .ok (.invokevirtual 87, 3) := all_at dvX3_settleByNearest_46 5 rfl
theorem dX3_settleByNearest_58 : decode cX3_settleByNearest 58 = .ok (.lsub, 1) := all_at dvX3_settleByNearest_46 6 rfl
theorem dX3_settleByNearest_59 : decode cX3_settleByNearest 59 = .ok (.invokestatic 91, 3) := all_at dvX3_settleByNearest_46 7 rfl
theorem dX3_settleByNearest_62 : decode cX3_settleByNearest 62 = .ok (.lstore 5, 2) := all_at dvX3_settleByNearest_46 8 rfl
theorem dX3_settleByNearest_64 : decode cX3_settleByNearest 64 = .ok (.lload_n 1, 1) := all_at dvX3_settleByNearest_46 9 rfl
theorem dX3_settleByNearest_65 : decode cX3_settleByNearest 65 = .ok (.lload_n 3, 1) := all_at dvX3_settleByNearest_46 10 rfl
theorem dX3_settleByNearest_66 : decode cX3_settleByNearest 66 = .ok (.lcmp, 1) := all_at dvX3_settleByNearest_46 11 rfl
theorem dX3_settleByNearest_67 : decode cX3_settleByNearest 67 = .ok (.ifCond .gt 17, 3) := all_at dvX3_settleByNearest_46 12 rfl
theorem dX3_settleByNearest_70 : decode cX3_settleByNearest 70 = .ok (.lload_n 1, 1) := all_at dvX3_settleByNearest_46 13 rfl
theorem dX3_settleByNearest_71 : decode cX3_settleByNearest 71 = .ok (.lload 5, 2) := all_at dvX3_settleByNearest_46 14 rfl
theorem dX3_settleByNearest_73 : decode cX3_settleByNearest 73 = .ok (.lcmp, 1) := all_at dvX3_settleByNearest_46 15 rfl
theorem dX3_settleByNearest_74 : decode cX3_settleByNearest 74 = .ok (.ifCond .gt 10, 3) := all_at dvX3_settleByNearest_46 16 rfl
theorem dX3_settleByNearest_77 : decode cX3_settleByNearest 77 = .ok (.aload_n 0, 1) := all_at dvX3_settleByNearest_46 17 rfl
theorem dX3_settleByNearest_78 : decode cX3_settleByNearest 78 = .ok (.iconst 0, 1) := all_at dvX3_settleByNearest_46 18 rfl
theorem dX3_settleByNearest_79 : decode cX3_settleByNearest 79 = .ok (.iconst 1, 1) := all_at dvX3_settleByNearest_46 19 rfl
theorem dX3_settleByNearest_80 : decode cX3_settleByNearest 80 = .ok (.invokevirtual 63, 3) := all_at dvX3_settleByNearest_46 20 rfl
theorem dX3_settleByNearest_83 : decode cX3_settleByNearest 83 = .ok (.ireturn, 1) := all_at dvX3_settleByNearest_46 21 rfl
theorem dX3_settleByNearest_84 : decode cX3_settleByNearest 84 = .ok (.lload_n 3, 1) := all_at dvX3_settleByNearest_46 22 rfl
theorem dX3_settleByNearest_85 : decode cX3_settleByNearest 85 = .ok (.lload 5, 2) := all_at dvX3_settleByNearest_46 23 rfl
set_option maxRecDepth 100000 in
theorem dvX3_settleByNearest_87 : ([(87, .lcmp, 1), (88, .ifCond .gt 12, 3), (91, .aload_n 0, 1), (92, .iconst 0, 1), (93, .iconst 2, 1), (94, .invokevirtual 63, 3), (97, .goto 9, 3), (100, .aload_n 0, 1), (101, .iconst 1, 1), (102, .iconst 2, 1), (103, .invokevirtual 63, 3), (106, .ireturn, 1)] : List (Nat × Instr × Nat)).all (fun q => decide (decode cX3_settleByNearest q.1 = .ok (q.2.1, q.2.2))) = true := by decide +kernel
theorem dX3_settleByNearest_87 : decode cX3_settleByNearest 87 = .ok (.lcmp, 1) := all_at dvX3_settleByNearest_87 0 rfl
theorem dX3_settleByNearest_88 : decode cX3_settleByNearest 88 = .ok (.ifCond .gt 12, 3) := all_at dvX3_settleByNearest_87 1 rfl
theorem dX3_settleByNearest_91 : decode cX3_settleByNearest 91 = .ok (.aload_n 0, 1) := all_at dvX3_settleByNearest_87 2 rfl
theorem dX3_settleByNearest_92 : decode cX3_settleByNearest 92 = .ok (.iconst 0, 1) := all_at dvX3_settleByNearest_87 3 rfl
theorem dX3_settleByNearest_93 : decode cX3_settleByNearest 93 = .ok (.iconst 2, 1) := all_at dvX3_settleByNearest_87 4 rfl
theorem dX3_settleByNearest_94 : decode cX3_settleByNearest 94 = .ok (.invokevirtual 63, 3) := all_at dvX3_settleByNearest_87 5 rfl
theorem dX3_settleByNearest_97 : decode cX3_settleByNearest 97 = .ok (.goto 9, 3) := all_at dvX3_settleByNearest_87 6 rfl
theorem dX3_settleByNearest_100 : decode cX3_settleByNearest 100 = .ok (.aload_n 0, 1) := all_at dvX3_settleByNearest_87 7 rfl
theorem dX3_settleByNearest_101 : decode cX3_settleByNearest 101 = .ok (.iconst 1, 1) := all_at dvX3_settleByNearest_87 8 rfl
theorem dX3_settleByNearest_102 : decode cX3_settleByNearest 102 = .ok (.iconst 2, 1) := all_at dvX3_settleByNearest_87 9 rfl
theorem dX3_settleByNearest_103 : decode cX3_settleByNearest 103 = .ok (.invokevirtual 63, 3) := all_at dvX3_settleByNearest_87 10 rfl
theorem dX3_settleByNearest_106 : decode cX3_settleByNearest 106 = .ok (.ireturn, 1) := all_at dvX3_settleByNearest_87 11 rfl
set_option maxRecDepth 100000 in
theorem dvX3_settleByThree_0 : ([(0, .iload_n 1, 1), (1, .iconst 1, 1), (2, .if_icmp .ne 22, 3), (24, .iload_n 1, 1), (25, .iconst 2, 1), (26, .if_icmp .ne 15, 3), (29, .aload_n 0, 1), (30, .invokevirtual 80, 3), (41, .aload_n 0, 1), (42, .invokevirtual 84, 3), (45, .ireturn, 1)] : List (Nat × Instr × Nat)).all (fun q => decide (decode cX3_settleByThree q.1 = .ok (q.2.1, q.2.2))) = true := by decide +kernel
theorem dX3_settleByThree_0 : decode cX3_settleByThree 0 = .ok (.iload_n 1, 1) := all_at dvX3_settleByThree_0 0 rfl
theorem dX3_settleByThree_1 : decode cX3_settleByThree 1 = .ok (.iconst 1, 1) := all_at dvX3_settleByThree_0 1 rfl
theorem dX3_settleByThree_2 : decode cX3_settleByThree 2 = .ok (.if_icmp .ne 22, 3) := all_at dvX3_settleByThree_0 2 rfl
theorem dX3_settleByThree_24 : decode cX3_settleByThree 24 = .ok (.iload_n 1, 1) := all_at dvX3_settleByThree_0 3 rfl
theorem dX3_settleByThree_25 : decode cX3_settleByThree 25 = .ok (.iconst 2, 1) := all_at dvX3_settleByThree_0 4 rfl
theorem dX3_settleByThree_26 : decode cX3_settleByThree 26 = .ok (.if_icmp .ne 15, 3) := all_at dvX3_settleByThree_0 5 rfl
theorem dX3_settleByThree_29 : decode cX3_settleByThree 29 = .ok (.aload_n 0, 1) := all_at dvX3_settleByThree_0 6 rfl
theorem dX3_settleByThree_30 : decode cX3_settleByThree 30 = .ok (.invokevirtual 80, 3) := all_at dvX3_settleByThree_0 7 rfl
theorem dX3_settleByThree_41 : decode cX3_settleByThree 41 = .ok (.aload_n 0, 1) := all_at dvX3_settleByThree_0 8 rfl
theorem dX3_settleByThree_42 : decode cX3_settleByThree 42 = .ok (.invokevirtual 84, 3) := all_at dvX3_settleByThree_0 9 rfl
theorem dX3_settleByThree_45 : decode cX3_settleByThree 45 = .ok (.ireturn, 1) := all_at dvX3_settleByThree_0 10 rfl
set_option maxRecDepth 100000 in
theorem dvX3_settleByTwo_0 : ([(0, .iload_n 1, 1), (1, .iconst 1, 1), (2, .if_icmp .eq 10, 3), (5, .aload_n 0, 1), (6, .iconst 0, 1), (7, .iconst 1, 1), (8, .invokevirtual 63, 3), (11, .ireturn, 1), (12, .aload_n 0, 1), (13, .iconst 0, 1), (14, .iconst 1, 1), (15, .invokevirtual 77, 3), (18, .istore_n 2, 1), (19, .aload_n 0, 1), (20, .iload_n 2, 1), (21, .iload_n 2, 1), (22, .invokevirtual 63, 3), (25, .ireturn, 1)] : List (Nat × Instr × Nat)).all (fun q => decide (decode cX3_settleByTwo q.1 = .ok (q.2.1, q.2.2))) = true := by decide +kernel
theorem dX3_settleByTwo_0 : decode cX3_settleByTwo 0 = .ok (.iload_n 1, 1) := all_at dvX3_settleByTwo_0 0 rfl
theorem dX3_settleByTwo_1 : decode cX3_settleByTwo 1 = .ok (.iconst 1, 1) := all_at dvX3_settleByTwo_0 1 rfl
theorem dX3_settleByTwo_2 : decode cX3_settleByTwo 2 = .ok (.if_icmp .eq 10, 3) := all_at dvX3_settleByTwo_0 2 rfl
theorem dX3_settleByTwo_5 : decode cX3_settleByTwo 5 = .ok (.aload_n 0, 1) := all_at dvX3_settleByTwo_0 3 rfl
theorem dX3_settleByTwo_6 : decode cX3_settleByTwo 6 = .ok (.iconst 0, 1) := all_at dvX3_settleByTwo_0 4 rfl
theorem dX3_settleByTwo_7 : decode cX3_settleByTwo 7 = .ok (.iconst 1, 1) := all_at dvX3_settleByTwo_0 5 rfl
theorem dX3_settleByTwo_8 : decode cX3_settleByTwo 8 = .ok (.invokevirtual 63, 3) := all_at dvX3_settleByTwo_0 6 rfl
theorem dX3_settleByTwo_11 : decode cX3_settleByTwo 11 = .ok (.ireturn, 1) := all_at dvX3_settleByTwo_0 7 rfl
theorem dX3_settleByTwo_12 : decode cX3_settleByTwo 12 = .ok (.aload_n 0, 1) := all_at dvX3_settleByTwo_0 8 rfl
theorem dX3_settleByTwo_13 : decode cX3_settleByTwo 13 = .ok (.iconst 0, 1) := all_at dvX3_settleByTwo_0 9 rfl
theorem dX3_settleByTwo_14 : decode cX3_settleByTwo 14 = .ok (.iconst 1, 1) := all_at dvX3_settleByTwo_0 10 rfl
theorem dX3_settleByTwo_15 : decode cX3_settleByTwo 15 = .ok (.invokevirtual 77, 3) := all_at dvX3_settleByTwo_0 11 rfl
theorem dX3_settleByTwo_18 : decode cX3_settleByTwo 18 = .ok (.istore_n 2, 1) := all_at dvX3_settleByTwo_0 12 rfl
theorem dX3_settleByTwo_19 : decode cX3_settleByTwo 19 = .ok (.aload_n 0, 1) := all_at dvX3_settleByTwo_0 13 rfl
theorem dX3_settleByTwo_20 : decode cX3_settleByTwo 20 = .ok (.iload_n 2, 1) := all_at dvX3_settleByTwo_0 14 rfl
theorem dX3_settleByTwo_21 : decode cX3_settleByTwo 21 = .ok (.iload_n 2, 1) := all_at dvX3_settleByTwo_0 15 rfl
theorem dX3_settleByTwo_22 : decode cX3_settleByTwo 22 = .ok (.invokevirtual 63, 3) := all_at dvX3_settleByTwo_0 16 rfl
theorem dX3_settleByTwo_25 : decode cX3_settleByTwo 25 = .ok (.ireturn, 1) := all_at dvX3_settleByTwo_0 17 rfl
set_option maxRecDepth 100000 in
theorem dvX3_upper_0 : ([(0, .aload_n 0, 1), (1, .getfield 10, 3), (4, .getfield 97, 3), (7, .aload_n 0, 1), (8, .getfield 16, 3), (11, .laload, 1), (12, .aload_n 0, 1), (13, .getfield 10, 3), (16, .getfield 101, 3), (19, .aload_n 0, 1), (20, .getfield 20, 3), (23, .laload, 1), (24, .lmul, 1), (25, .aload_n 0, 1), (26, .getfield 10, 3), (29, .getfield 97, 3), (32, .aload_n 0, 1), (33, .getfield 20, 3), (36, .laload, 1), (37, .aload_n 0, 1), (38, .getfield 10, 3), (41, .getfield 101, 3), (44, .aload_n 0, 1), (45, .getfield 16, 3)] : List (Nat × Instr × Nat)).all (fun q => decide (decode cX3_upper q.1 = .ok (q.2.1, q.2.2))) = true := by decide +kernel
theorem dX3_upper_0 : decode cX3_upper 0 = .ok (.aload_n 0, 1) := all_at dvX3_upper_0 0 rfl
theorem dX3_upper_1 : decode cX3_upper 1 = .ok (.getfield 10, 3) := all_at dvX3_upper_0 1 rfl
theorem dX3_upper_4 : decode cX3_upper 4 = .ok (.getfield 97, 3) := all_at dvX3_upper_0 2 rfl
theorem dX3_upper_7 : decode cX3_upper 7 = .ok (.aload_n 0, 1) := all_at dvX3_upper_0 3 rfl
theorem dX3_upper_8 : decode cX3_upper 8 = .ok (.getfield 16, 3) := all_at dvX3_upper_0 4 rfl
theorem dX3_upper_11 : decode cX3_upper 11 = .ok (.laload, 1) := all_at dvX3_upper_0 5 rfl
theorem dX3_upper_12 : decode cX3_upper 12 = .ok (.aload_n 0, 1) := all_at dvX3_upper_0 6 rfl
theorem dX3_upper_13 : decode cX3_upper 13 = .ok (.getfield 10, 3) := all_at dvX3_upper_0 7 rfl
theorem dX3_upper_16 : decode cX3_upper 16 = .ok (.getfield 101, 3) := all_at dvX3_upper_0 8 rfl
theorem dX3_upper_19 : decode cX3_upper 19 = .ok (.aload_n 0, 1) := all_at dvX3_upper_0 9 rfl
theorem dX3_upper_20 : decode cX3_upper 20 = .ok (.getfield 20, 3) := all_at dvX3_upper_0 10 rfl
theorem dX3_upper_23 : decode cX3_upper 23 = .ok (.laload, 1) := all_at dvX3_upper_0 11 rfl
theorem dX3_upper_24 : decode cX3_upper 24 = .ok (.lmul, 1) := all_at dvX3_upper_0 12 rfl
theorem dX3_upper_25 : decode cX3_upper 25 = .ok (.aload_n 0, 1) := all_at dvX3_upper_0 13 rfl
theorem dX3_upper_26 : decode cX3_upper 26 = .ok (.getfield 10, 3) := all_at dvX3_upper_0 14 rfl
theorem dX3_upper_29 : decode cX3_upper 29 = .ok (.getfield 97, 3) := all_at dvX3_upper_0 15 rfl
theorem dX3_upper_32 : decode cX3_upper 32 = .ok (.aload_n 0, 1) := all_at dvX3_upper_0 16 rfl
theorem dX3_upper_33 : decode cX3_upper 33 = .ok (.getfield 20, 3) := all_at dvX3_upper_0 17 rfl
theorem dX3_upper_36 : decode cX3_upper 36 = .ok (.laload, 1) := all_at dvX3_upper_0 18 rfl
theorem dX3_upper_37 : decode cX3_upper 37 = .ok (.aload_n 0, 1) := all_at dvX3_upper_0 19 rfl
theorem dX3_upper_38 : decode cX3_upper 38 = .ok (.getfield 10, 3) := all_at dvX3_upper_0 20 rfl
theorem dX3_upper_41 : decode cX3_upper 41 = .ok (.getfield 101, 3) := all_at dvX3_upper_0 21 rfl
theorem dX3_upper_44 : decode cX3_upper 44 = .ok (.aload_n 0, 1) := all_at dvX3_upper_0 22 rfl
theorem dX3_upper_45 : decode cX3_upper 45 = .ok (.getfield 16, 3) := all_at dvX3_upper_0 23 rfl
set_option maxRecDepth 100000 in
theorem dvX3_upper_48 : ([(48, .laload, 1), (49, .lmul, 1), (50, .ladd, 1), (51, .lreturn, 1)] : List (Nat × Instr × Nat)).all (fun q => decide (decode cX3_upper q.1 = .ok (q.2.1, q.2.2))) = true := by decide +kernel
theorem dX3_upper_48 : decode cX3_upper 48 = .ok (.laload, 1) := all_at dvX3_upper_48 0 rfl
theorem dX3_upper_49 : decode cX3_upper 49 = .ok (.lmul, 1) := all_at dvX3_upper_48 1 rfl
theorem dX3_upper_50 : decode cX3_upper 50 = .ok (.ladd, 1) := all_at dvX3_upper_48 2 rfl
theorem dX3_upper_51 : decode cX3_upper 51 = .ok (.lreturn, 1) := all_at dvX3_upper_48 3 rfl
set_option maxRecDepth 100000 in
theorem dvX8_endOfRun_0 : ([(0, .aload_n 0, 1), (1, .getfield 25, 3), (4, .istore_n 3, 1), (5, .iload_n 3, 1), (6, .aload_n 0, 1), (7, .getfield 15, 3), (10, .if_icmp .ge 29, 3), (13, .aload_n 0, 1), (14, .getfield 11, 3), (17, .iload_n 3, 1), (18, .baload, 1), (19, .iload_n 1, 1), (20, .if_icmp .lt 19, 3), (23, .aload_n 0, 1), (24, .getfield 11, 3), (27, .iload_n 3, 1), (28, .baload, 1), (29, .iload_n 2, 1), (30, .if_icmp .gt 9, 3), (33, .iinc 3 1, 3), (36, .goto (-31), 3), (39, .iload_n 3, 1), (40, .ireturn, 1)] : List (Nat × Instr × Nat)).all (fun q => decide (decode cX8_endOfRun q.1 = .ok (q.2.1, q.2.2))) = true := by decide +kernel
theorem dX8_endOfRun_0 : decode cX8_endOfRun 0 = .ok (.aload_n 0, 1) := all_at dvX8_endOfRun_0 0 rfl
theorem dX8_endOfRun_1 : decode cX8_endOfRun 1 = .ok (.getfield 25, 3) := all_at dvX8_endOfRun_0 1 rfl
theorem dX8_endOfRun_4 : decode cX8_endOfRun 4 = .ok (.istore_n 3, 1) := all_at dvX8_endOfRun_0 2 rfl
theorem dX8_endOfRun_5 : decode cX8_endOfRun 5 = .ok (.iload_n 3, 1) := all_at dvX8_endOfRun_0 3 rfl
theorem dX8_endOfRun_6 : decode cX8_endOfRun 6 = .ok (.aload_n 0, 1) := all_at dvX8_endOfRun_0 4 rfl
theorem dX8_endOfRun_7 : decode cX8_endOfRun 7 = .ok (.getfield 15, 3) := all_at dvX8_endOfRun_0 5 rfl
theorem dX8_endOfRun_10 : decode cX8_endOfRun 10 = .ok (.if_icmp .ge 29, 3) := all_at dvX8_endOfRun_0 6 rfl
theorem dX8_endOfRun_13 : decode cX8_endOfRun 13 = .ok (.aload_n 0, 1) := all_at dvX8_endOfRun_0 7 rfl
theorem dX8_endOfRun_14 : decode cX8_endOfRun 14 = .ok (.getfield 11, 3) := all_at dvX8_endOfRun_0 8 rfl
theorem dX8_endOfRun_17 : decode cX8_endOfRun 17 = .ok (.iload_n 3, 1) := all_at dvX8_endOfRun_0 9 rfl
theorem dX8_endOfRun_18 : decode cX8_endOfRun 18 = .ok (.baload, 1) := all_at dvX8_endOfRun_0 10 rfl
theorem dX8_endOfRun_19 : decode cX8_endOfRun 19 = .ok (.iload_n 1, 1) := all_at dvX8_endOfRun_0 11 rfl
theorem dX8_endOfRun_20 : decode cX8_endOfRun 20 = .ok (.if_icmp .lt 19, 3) := all_at dvX8_endOfRun_0 12 rfl
theorem dX8_endOfRun_23 : decode cX8_endOfRun 23 = .ok (.aload_n 0, 1) := all_at dvX8_endOfRun_0 13 rfl
theorem dX8_endOfRun_24 : decode cX8_endOfRun 24 = .ok (.getfield 11, 3) := all_at dvX8_endOfRun_0 14 rfl
theorem dX8_endOfRun_27 : decode cX8_endOfRun 27 = .ok (.iload_n 3, 1) := all_at dvX8_endOfRun_0 15 rfl
theorem dX8_endOfRun_28 : decode cX8_endOfRun 28 = .ok (.baload, 1) := all_at dvX8_endOfRun_0 16 rfl
theorem dX8_endOfRun_29 : decode cX8_endOfRun 29 = .ok (.iload_n 2, 1) := all_at dvX8_endOfRun_0 17 rfl
theorem dX8_endOfRun_30 : decode cX8_endOfRun 30 = .ok (.if_icmp .gt 9, 3) := all_at dvX8_endOfRun_0 18 rfl
theorem dX8_endOfRun_33 : decode cX8_endOfRun 33 = .ok (.iinc 3 1, 3) := all_at dvX8_endOfRun_0 19 rfl
theorem dX8_endOfRun_36 : decode cX8_endOfRun 36 = .ok (.goto (-31), 3) := all_at dvX8_endOfRun_0 20 rfl
theorem dX8_endOfRun_39 : decode cX8_endOfRun 39 = .ok (.iload_n 3, 1) := all_at dvX8_endOfRun_0 21 rfl
theorem dX8_endOfRun_40 : decode cX8_endOfRun 40 = .ok (.ireturn, 1) := all_at dvX8_endOfRun_0 22 rfl
set_option maxRecDepth 100000 in
theorem dvX8_fail_0 : ([(0, .aload_n 0, 1), (1, .iload_n 1, 1), (2, .putfield 22, 3), (5, .aload_n 0, 1), (6, .iload_n 2, 1), (7, .putfield 19, 3), (10, .iconst 0, 1), (11, .ireturn, 1)] : List (Nat × Instr × Nat)).all (fun q => decide (decode cX8_fail q.1 = .ok (q.2.1, q.2.2))) = true := by decide +kernel
theorem dX8_fail_0 : decode cX8_fail 0 = .ok (.aload_n 0, 1) := all_at dvX8_fail_0 0 rfl
theorem dX8_fail_1 : decode cX8_fail 1 = .ok (.iload_n 1, 1) := all_at dvX8_fail_0 1 rfl
theorem dX8_fail_2 : decode cX8_fail 2 = .ok (.putfield 22, 3) := all_at dvX8_fail_0 2 rfl
theorem dX8_fail_5 : decode cX8_fail 5 = .ok (.aload_n 0, 1) := all_at dvX8_fail_0 3 rfl
theorem dX8_fail_6 : decode cX8_fail 6 = .ok (.iload_n 2, 1) := all_at dvX8_fail_0 4 rfl
theorem dX8_fail_7 : decode cX8_fail 7 = .ok (.putfield 19, 3) := all_at dvX8_fail_0 5 rfl
theorem dX8_fail_10 : decode cX8_fail 10 = .ok (.iconst 0, 1) := all_at dvX8_fail_0 6 rfl
theorem dX8_fail_11 : decode cX8_fail 11 = .ok (.ireturn, 1) := all_at dvX8_fail_0 7 rfl
set_option maxRecDepth 100000 in
theorem dvX8_skipBlanks_0 : ([(0, .aload_n 0, 1), (1, .getfield 25, 3), (4, .aload_n 0, 1), (5, .getfield 15, 3), (8, .if_icmp .ge 30, 3), (11, .aload_n 0, 1), (12, .getfield 11, 3), (15, .aload_n 0, 1), (16, .getfield 25, 3), (19, .baload, 1), (20, .bipush 32, 2), (22, .if_icmp .ne 16, 3), (25, .aload_n 0, 1), (26, .dup, 1), (27, .getfield 25, 3), (30, .iconst 1, 1), (31, .iadd, 1), (32, .putfield 25, 3), (35, .goto (-35), 3), (38, .aload_n 0, 1), (39, .getfield 25, 3), (42, .aload_n 0, 1), (43, .getfield 15, 3), (46, .if_icmp .ge 7, 3)] : List (Nat × Instr × Nat)).all (fun q => decide (decode cX8_skipBlanks q.1 = .ok (q.2.1, q.2.2))) = true := by decide +kernel
theorem dX8_skipBlanks_0 : decode cX8_skipBlanks 0 = .ok (.aload_n 0, 1) := all_at dvX8_skipBlanks_0 0 rfl
theorem dX8_skipBlanks_1 : decode cX8_skipBlanks 1 = .ok (.getfield 25, 3) := all_at dvX8_skipBlanks_0 1 rfl
theorem dX8_skipBlanks_4 : decode cX8_skipBlanks 4 = .ok (.aload_n 0, 1) := all_at dvX8_skipBlanks_0 2 rfl
theorem dX8_skipBlanks_5 : decode cX8_skipBlanks 5 = .ok (.getfield 15, 3) := all_at dvX8_skipBlanks_0 3 rfl
theorem dX8_skipBlanks_8 : decode cX8_skipBlanks 8 = .ok (.if_icmp .ge 30, 3) := all_at dvX8_skipBlanks_0 4 rfl
theorem dX8_skipBlanks_11 : decode cX8_skipBlanks 11 = .ok (.aload_n 0, 1) := all_at dvX8_skipBlanks_0 5 rfl
theorem dX8_skipBlanks_12 : decode cX8_skipBlanks 12 = .ok (.getfield 11, 3) := all_at dvX8_skipBlanks_0 6 rfl
theorem dX8_skipBlanks_15 : decode cX8_skipBlanks 15 = .ok (.aload_n 0, 1) := all_at dvX8_skipBlanks_0 7 rfl
theorem dX8_skipBlanks_16 : decode cX8_skipBlanks 16 = .ok (.getfield 25, 3) := all_at dvX8_skipBlanks_0 8 rfl
theorem dX8_skipBlanks_19 : decode cX8_skipBlanks 19 = .ok (.baload, 1) := all_at dvX8_skipBlanks_0 9 rfl
theorem dX8_skipBlanks_20 : decode cX8_skipBlanks 20 = .ok (.bipush 32, 2) := all_at dvX8_skipBlanks_0 10 rfl
theorem dX8_skipBlanks_22 : decode cX8_skipBlanks 22 = .ok (.if_icmp .ne 16, 3) := all_at dvX8_skipBlanks_0 11 rfl
theorem dX8_skipBlanks_25 : decode cX8_skipBlanks 25 = .ok (.aload_n 0, 1) := all_at dvX8_skipBlanks_0 12 rfl
theorem dX8_skipBlanks_26 : decode cX8_skipBlanks 26 = .ok (.dup, 1) := all_at dvX8_skipBlanks_0 13 rfl
theorem dX8_skipBlanks_27 : decode cX8_skipBlanks 27 = .ok (.getfield 25, 3) := all_at dvX8_skipBlanks_0 14 rfl
theorem dX8_skipBlanks_30 : decode cX8_skipBlanks 30 = .ok (.iconst 1, 1) := all_at dvX8_skipBlanks_0 15 rfl
theorem dX8_skipBlanks_31 : decode cX8_skipBlanks 31 = .ok (.iadd, 1) := all_at dvX8_skipBlanks_0 16 rfl
theorem dX8_skipBlanks_32 : decode cX8_skipBlanks 32 = .ok (.putfield 25, 3) := all_at dvX8_skipBlanks_0 17 rfl
theorem dX8_skipBlanks_35 : decode cX8_skipBlanks 35 = .ok (.goto (-35), 3) := all_at dvX8_skipBlanks_0 18 rfl
theorem dX8_skipBlanks_38 : decode cX8_skipBlanks 38 = .ok (.aload_n 0, 1) := all_at dvX8_skipBlanks_0 19 rfl
theorem dX8_skipBlanks_39 : decode cX8_skipBlanks 39 = .ok (.getfield 25, 3) := all_at dvX8_skipBlanks_0 20 rfl
theorem dX8_skipBlanks_42 : decode cX8_skipBlanks 42 = .ok (.aload_n 0, 1) := all_at dvX8_skipBlanks_0 21 rfl
theorem dX8_skipBlanks_43 : decode cX8_skipBlanks 43 = .ok (.getfield 15, 3) := all_at dvX8_skipBlanks_0 22 rfl
theorem dX8_skipBlanks_46 : decode cX8_skipBlanks 46 = .ok (.if_icmp .ge 7, 3) := all_at dvX8_skipBlanks_0 23 rfl
set_option maxRecDepth 100000 in
theorem dvX8_skipBlanks_49 : ([(49, .iconst 1, 1), (50, .goto 4, 3), (53, .iconst 0, 1), (54, .ireturn, 1)] : List (Nat × Instr × Nat)).all (fun q => decide (decode cX8_skipBlanks q.1 = .ok (q.2.1, q.2.2))) = true := by decide +kernel
theorem dX8_skipBlanks_49 : decode cX8_skipBlanks 49 = .ok (.iconst 1, 1) := all_at dvX8_skipBlanks_49 0 rfl
theorem dX8_skipBlanks_50 : decode cX8_skipBlanks 50 = .ok (.goto 4, 3) := all_at dvX8_skipBlanks_49 1 rfl
theorem dX8_skipBlanks_53 : decode cX8_skipBlanks 53 = .ok (.iconst 0, 1) := all_at dvX8_skipBlanks_49 2 rfl
theorem dX8_skipBlanks_54 : decode cX8_skipBlanks 54 = .ok (.ireturn, 1) := all_at dvX8_skipBlanks_49 3 rfl
set_option maxHeartbeats 4000000 in
set_option maxRecDepth 100000 in
/-- X3_gather -/
theorem c_X3_gather (l : Launch) (dC : Nat → ClassId) (dI : Nat → Nat → Nat) (sz : Nat) (h : Nat) (g : Nat → Nat → Nat) (ca : Nat → Nat → ClassId) (iv : Nat → Nat → Int32) (lv : Nat → Nat → Int64) (fa : Nat → Nat → Nat → Int32) (la : Nat → Nat → Nat → Int64) (hI : IX iv fa) (a : Int32) (b : Int32) : Met l yX3_gather (wc yX3_gather cX3_gather 4 none) ({ frames := 2, cells := 0, slots := 0, locals := 44 } : Room) (pW (dC, dI) classes (WX h g ca iv lv fa la) (TX ca) sz [.ref (g 11 5), .int a, .int b]) (va_Qv (fun (u : SS) => ∃ (na_30_2 : Nat → Int32) (nb_30_0 : Nat → Int64) (nb_30_1 : Nat → Int64), u = (iv, lv, (u2 fa 30 2 na_30_2), (u2 (u2 la 30 0 nb_30_0) 30 1 nb_30_1))) (bX (dC, dI) h g ca (va_A (WX h g ca iv lv fa la) sz)) (va_A (WX h g ca iv lv fa la) sz)) 0 0 (va_A (WX h g ca iv lv fa la) sz) := by
  refine Met.ofW (cc := cX3_gather) (maxL := 4) (ret := none) (by decide) rfl ?_
  intro p e s m args below meth c s₁ B hml hv
  obtain ⟨rfl, hsz, hP, hK, hD0⟩ := hv
  have hx := B.exec
  have hb := B.bytes
  have hr := B.returns
  have ht := tb_tl (atoms_spec (ws := wc yX3_gather cX3_gather 4 none) B.pre)
  have hown : s.vm.findClass RX3 = some m.cls := findClass_of_methodNamed B.named
  have hlocks := B.notSynchronized
  subst hsz
  have hD := hD0.self (sz := s.heap.size)
  generalize hAe : va_A (WX h g ca iv lv fa la) s.heap.size = A at hD ⊢
  have hA : ∀ q : Nat, s.heap.size ≤ q → A q := fun q h => by rw [← hAe]; exact Or.inr h
  have hS : va_S A s.heap s.heap [] := va_S.rf
  have hl := lv_entry [.ref (g 11 5), .int a, .int b] (n := 4) (Nat.le_of_ble_eq_true rfl)
  rw [lg_entry_eq]
  generalize (lg_sl [.ref (g 11 5), .int a, .int b] ++ List.replicate (4 - (lg_sl [.ref (g 11 5), .int a, .int b]).length) Slot.unset).toArray = ls at hl ⊢
  have hl : lv_has ls 4 [(0, .ref (g 11 5)), (1, .int a), (2, .int b)] := hl
  refine lv_aload_n hx hb dX3_gather_0 rfl (lv_at hl 0 rfl) ?_
  refine gX_3_2 hx hb ht hown hK hP m_281 dX3_gather_1 ?_
  have hFc := free_all hD hS hA
  refine va_callv (va_runV (As := []) (rest := []) ⟨hx, hb, hml, hown, ht⟩ (c_X7_clear_30 l dC dI s.heap.size h g ca iv lv fa la hI) (kV 0 ht m_568 m_569 m_570 m_84 m_571 rfl rfl hd_X7_clear_v ⟨Nat.le_of_ble_eq_true rfl, Nat.le_of_ble_eq_true rfl⟩) (vW hP hK hD (rX_30 hK hP)) rfl rfl hl.1 rfl (lv_room (Nat.le_of_ble_eq_true rfl)) dX3_gather_4 ⟨Nat.le_of_ble_eq_true rfl, Nat.le_of_ble_eq_true rfl⟩) hS (fun q _ h => hFc q h) hFc (fun u t H1 locs ht9 hvm hr1 hB hz1 hk1 hS => ?_)
  obtain ⟨n2, n3, n4, rfl⟩ := hr1
  have hn2 : ∀ j, inb (bA 30 2 j) (n2 j) := fun j => full_i _
  obtain ⟨hP, hD⟩ := hB
  rw [ht9] at hP
  generalize H1 = H at hP hS ⊢
  have hP : va_P (dC, dI) classes (WX h g ca iv lv (u2 fa 30 2 n2) (u2 (u2 la 30 0 n3) 30 1 n4)) H := hP
  have hD : va_D A (WX h g ca iv lv (u2 fa 30 2 n2) (u2 (u2 la 30 0 n3) 30 1 n4)) := (show va_D _ (WX h g ca iv lv (u2 fa 30 2 n2) (u2 (u2 la 30 0 n3) 30 1 n4)) from hD).weaken (fun _ _ _ h => hFc _ h)
  refine lv_iconst (v := 0) hx hb dX3_gather_7 (by decide) ?_
  refine lv_istore_n (lv' := [(3, .int 0), (0, .ref (g 11 5)), (1, .int a), (2, .int b)]) hx hb dX3_gather_8 rfl hl (by decide) rfl (fun ls hl => ?_)
  have lp358 : ∀ (nn358 : Nat) (x357_3 : Int32) (w357_a_30_2 : Nat → Int32) (w357_b_30_0 : Nat → Int64) (w357_b_30_1 : Nat → Int64), 0 ≤ x357_3.toInt ∧ x357_3.toInt ≤ 60 → (∀ j, inb (bA 30 2 j) (w357_a_30_2 j)) → 60 - x357_3.toInt < (nn358 : Int) → ∀ (H : Heap) (locs : List Loc), ∀ (ls : Array Slot), va_P (dC, dI) classes (WX h g ca iv lv (u2 fa 30 2 w357_a_30_2) (u2 (u2 la 30 0 w357_b_30_0) 30 1 w357_b_30_1)) H → va_D A (WX h g ca iv lv (u2 fa 30 2 w357_a_30_2) (u2 (u2 la 30 0 w357_b_30_0) 30 1 w357_b_30_1)) → va_S A s.heap H locs → lv_has ls 4 [(3, .int x357_3), (0, .ref (g 11 5)), (1, .int a), (2, .int b)] → W p l e ({ frames := 2, cells := 0, slots := 0, locals := 44 } : Room) s m ([.ref (g 11 5), .int a, .int b] : List Value).toArray below meth c H locs 0 0 (MQ below (va_Qv (fun (u : SS) => ∃ (na_30_2 : Nat → Int32) (nb_30_0 : Nat → Int64) (nb_30_1 : Nat → Int64), u = (iv, lv, (u2 fa 30 2 na_30_2), (u2 (u2 la 30 0 nb_30_0) 30 1 nb_30_1))) (bX (dC, dI) h g ca A) A) ([.ref (g 11 5), .int a, .int b] : List Value).toArray s 0 0 A) (F0 m 9 ls []) := by
    intro nn358
    induction nn358 with
    | zero => intro x357_3 w357_a_30_2 w357_b_30_0 w357_b_30_1 hx357_3 hw357_a_30_2 hm358; exfalso; omega
    | succ nn358 ih358 =>
      intro x357_3 w357_a_30_2 w357_b_30_0 w357_b_30_1 hx357_3 hw357_a_30_2 hm358 H locs ls hP hD hS hl
      refine lv_iload_n hx hb dX3_gather_9 rfl (lv_at hl 0 rfl) ?_
      refine lv_aload_n hx hb dX3_gather_10 rfl (lv_at hl 1 rfl) ?_
      refine gX_3_0 hx hb ht hown hK hP m_279 dX3_gather_11 ?_
      have i_10_1 : 0 ≤ (iv 10 1).toInt ∧ (iv 10 1).toInt ≤ 60 := hI.1 10 1
      refine gX_10_1 hx hb ht hown hK hP m_113 (v := (iv 10 1)) rfl dX3_gather_14 ?_
      refine lv_icmp_ge (tgt := 85) hx hb dX3_gather_17 (by decide) (fun c359 => ?_) (fun c359 => ?_)
      · have fc359 := z_le (rfl : ((iv 10 1)).toInt = _) (rfl : (x357_3).toInt = _) c359
        have hP9 : va_P (dC, dI) classes (WX h g ca iv lv (u2 fa 30 2 w357_a_30_2) (u2 (u2 la 30 0 w357_b_30_0) 30 1 w357_b_30_1)) H := hP
        have hD9 : va_D A (WX h g ca iv lv (u2 fa 30 2 w357_a_30_2) (u2 (u2 la 30 0 w357_b_30_0) 30 1 w357_b_30_1)) := hD
        exact W.vret hx hb hr (fun t ht9 hW => ⟨⟨(iv, lv, (u2 fa 30 2 w357_a_30_2), (u2 (u2 la 30 0 w357_b_30_0) 30 1 w357_b_30_1)), rfl, ⟨w357_a_30_2, w357_b_30_0, w357_b_30_1, rfl⟩, by rw [ht9]; exact hP9, hD9⟩, hS.F ht9⟩) hS.2.2 dX3_gather_85
      · have fc359 := z_nle (rfl : ((iv 10 1)).toInt = _) (rfl : (x357_3).toInt = _) c359
        refine lv_aload_n hx hb dX3_gather_20 rfl (lv_at hl 1 rfl) ?_
        refine gX_3_0 hx hb ht hown hK hP m_279 dX3_gather_21 ?_
        refine lv_iload_n hx hb dX3_gather_24 rfl (lv_at hl 0 rfl) ?_
        refine lv_iconst (v := 0) hx hb dX3_gather_25 (by decide) ?_
        refine vp_callSi (W.runV (As := [.int x357_3, .int 0]) (rest := []) ⟨hx, hb, hml, hown, ht⟩ (c_X10_get l dC dI h g ca iv lv (u2 fa 30 2 w357_a_30_2) (u2 (u2 la 30 0 w357_b_30_0) 30 1 w357_b_30_1) (IX_a (c := 30) (k := 2) hI hw357_a_30_2) x357_3 0 ⟨by omega, by omega⟩ ⟨by decide, by decide⟩) (kV 2 ht m_572 m_486 m_487 m_78 m_488 rfl rfl hd_X10_get_v ⟨Nat.le_of_ble_eq_true rfl, Nat.le_of_ble_eq_true rfl⟩) (vR hP hK (rX_10 hK hP)) rfl rfl hl.1 rfl (lv_room (Nat.le_of_ble_eq_true rfl)) dX3_gather_26 ⟨Nat.le_of_ble_eq_true rfl, Nat.le_of_ble_eq_true rfl⟩) (fun r360 hr360 => ?_)
        refine lv_iload_n hx hb dX3_gather_29 rfl (lv_at hl 2 rfl) ?_
        refine lv_icmp_ne (tgt := 79) hx hb dX3_gather_30 (by decide) (fun c361 => ?_) (fun c361 => ?_)
        · have fc361 := z_ne (rfl : (r360).toInt = _) (rfl : (a).toInt = _) c361
          obtain ⟨v362, ev362⟩ : ∃ y : Int32, y = x357_3 + 1 := ⟨_, rfl⟩
          have tv362 := z_add ev362 rfl (by decide : (1 : Int32).toInt = 1) (by omega) (by omega)
          refine lv_iinc (v := v362) (lv' := [(3, .int v362), (0, .ref (g 11 5)), (1, .int a), (2, .int b)]) hx hb dX3_gather_79 hl (k := 0) rfl (by rw [ev362]; rfl) (by decide) rfl (fun ls hl => ?_)
          refine lv_goto (tgt := 9) hx hb dX3_gather_82 (by decide) ?_
          exact ih358 v362 w357_a_30_2 w357_b_30_0 w357_b_30_1 ⟨by omega, by omega⟩ hw357_a_30_2 (by omega) _ _ ls hP hD hS (lv_sub hl [0, 1, 2, 3] rfl)
        · have fc361 := z_eq (rfl : (r360).toInt = _) (rfl : (a).toInt = _) c361
          refine lv_aload_n hx hb dX3_gather_33 rfl (lv_at hl 1 rfl) ?_
          refine gX_3_0 hx hb ht hown hK hP m_279 dX3_gather_34 ?_
          refine lv_iload_n hx hb dX3_gather_37 rfl (lv_at hl 0 rfl) ?_
          refine lv_iload_n hx hb dX3_gather_38 rfl (lv_at hl 3 rfl) ?_
          refine vp_callSi (W.runV (As := [.int x357_3, .int b]) (rest := []) ⟨hx, hb, hml, hown, ht⟩ (c_X10_counts l dC dI h g ca iv lv (u2 fa 30 2 w357_a_30_2) (u2 (u2 la 30 0 w357_b_30_0) 30 1 w357_b_30_1) (IX_a (c := 30) (k := 2) hI hw357_a_30_2) x357_3 b ⟨by omega, by omega⟩) (kV 2 ht m_573 m_574 m_575 m_78 m_576 rfl rfl hd_X10_counts_v ⟨Nat.le_of_ble_eq_true rfl, Nat.le_of_ble_eq_true rfl⟩) (vR hP hK (rX_10 hK hP)) rfl rfl hl.1 rfl (lv_room (Nat.le_of_ble_eq_true rfl)) dX3_gather_39 ⟨Nat.le_of_ble_eq_true rfl, Nat.le_of_ble_eq_true rfl⟩) (fun r363 hr363 => ?_)
          refine lv_if_eq (tgt := 79) hx hb dX3_gather_42 (by decide) (fun c364 => ?_) (fun c364 => ?_)
          · have fc364 := z_eq (rfl : (r363).toInt = _) (by decide : (0 : Int32).toInt = 0) c364
            obtain ⟨v365, ev365⟩ : ∃ y : Int32, y = x357_3 + 1 := ⟨_, rfl⟩
            have tv365 := z_add ev365 rfl (by decide : (1 : Int32).toInt = 1) (by omega) (by omega)
            refine lv_iinc (v := v365) (lv' := [(3, .int v365), (0, .ref (g 11 5)), (1, .int a), (2, .int b)]) hx hb dX3_gather_79 hl (k := 0) rfl (by rw [ev365]; rfl) (by decide) rfl (fun ls hl => ?_)
            refine lv_goto (tgt := 9) hx hb dX3_gather_82 (by decide) ?_
            exact ih358 v365 w357_a_30_2 w357_b_30_0 w357_b_30_1 ⟨by omega, by omega⟩ hw357_a_30_2 (by omega) _ _ ls hP hD hS (lv_sub hl [0, 1, 2, 3] rfl)
          · have fc364 := z_ne (rfl : (r363).toInt = _) (by decide : (0 : Int32).toInt = 0) c364
            refine lv_aload_n hx hb dX3_gather_45 rfl (lv_at hl 1 rfl) ?_
            refine gX_3_2 hx hb ht hown hK hP m_281 dX3_gather_46 ?_
            refine lv_aload_n hx hb dX3_gather_49 rfl (lv_at hl 1 rfl) ?_
            refine gX_3_0 hx hb ht hown hK hP m_279 dX3_gather_50 ?_
            refine lv_iload_n hx hb dX3_gather_53 rfl (lv_at hl 0 rfl) ?_
            refine lv_iconst (v := 1) hx hb dX3_gather_54 (by decide) ?_
            refine vp_callSi (W.runV (As := [.int x357_3, .int 1]) (rest := [.ref (g 3 2)]) ⟨hx, hb, hml, hown, ht⟩ (c_X10_get_look l dC dI h g ca iv lv (u2 fa 30 2 w357_a_30_2) (u2 (u2 la 30 0 w357_b_30_0) 30 1 w357_b_30_1) (IX_a (c := 30) (k := 2) hI hw357_a_30_2) x357_3 ⟨by omega, by omega⟩) (kV 2 ht m_572 m_486 m_487 m_78 m_488 rfl rfl hd_X10_get_v ⟨Nat.le_of_ble_eq_true rfl, Nat.le_of_ble_eq_true rfl⟩) (vR hP hK (rX_10 hK hP)) rfl rfl hl.1 rfl (lv_room (Nat.le_of_ble_eq_true rfl)) dX3_gather_55 ⟨Nat.le_of_ble_eq_true rfl, Nat.le_of_ble_eq_true rfl⟩) (fun r366 hr366 => ?_)
            refine lv_aload_n hx hb dX3_gather_58 rfl (lv_at hl 1 rfl) ?_
            refine gX_3_0 hx hb ht hown hK hP m_279 dX3_gather_59 ?_
            refine lv_iload_n hx hb dX3_gather_62 rfl (lv_at hl 0 rfl) ?_
            refine lv_iconst (v := 3) hx hb dX3_gather_63 (by decide) ?_
            refine vp_callSi (W.runV (As := [.int x357_3, .int 3]) (rest := [.int r366, .ref (g 3 2)]) ⟨hx, hb, hml, hown, ht⟩ (c_X10_get l dC dI h g ca iv lv (u2 fa 30 2 w357_a_30_2) (u2 (u2 la 30 0 w357_b_30_0) 30 1 w357_b_30_1) (IX_a (c := 30) (k := 2) hI hw357_a_30_2) x357_3 3 ⟨by omega, by omega⟩ ⟨by decide, by decide⟩) (kV 2 ht m_572 m_486 m_487 m_78 m_488 rfl rfl hd_X10_get_v ⟨Nat.le_of_ble_eq_true rfl, Nat.le_of_ble_eq_true rfl⟩) (vR hP hK (rX_10 hK hP)) rfl rfl hl.1 rfl (lv_room (Nat.le_of_ble_eq_true rfl)) dX3_gather_64 ⟨Nat.le_of_ble_eq_true rfl, Nat.le_of_ble_eq_true rfl⟩) (fun r367 hr367 => ?_)
            refine lv_aload_n hx hb dX3_gather_67 rfl (lv_at hl 1 rfl) ?_
            refine gX_3_0 hx hb ht hown hK hP m_279 dX3_gather_68 ?_
            refine lv_iload_n hx hb dX3_gather_71 rfl (lv_at hl 0 rfl) ?_
            refine lv_iconst (v := 4) hx hb dX3_gather_72 (by decide) ?_
            refine vp_callSi (W.runV (As := [.int x357_3, .int 4]) (rest := [.int r367, .int r366, .ref (g 3 2)]) ⟨hx, hb, hml, hown, ht⟩ (c_X10_get l dC dI h g ca iv lv (u2 fa 30 2 w357_a_30_2) (u2 (u2 la 30 0 w357_b_30_0) 30 1 w357_b_30_1) (IX_a (c := 30) (k := 2) hI hw357_a_30_2) x357_3 4 ⟨by omega, by omega⟩ ⟨by decide, by decide⟩) (kV 2 ht m_572 m_486 m_487 m_78 m_488 rfl rfl hd_X10_get_v ⟨Nat.le_of_ble_eq_true rfl, Nat.le_of_ble_eq_true rfl⟩) (vR hP hK (rX_10 hK hP)) rfl rfl hl.1 rfl (lv_room (Nat.le_of_ble_eq_true rfl)) dX3_gather_73 ⟨Nat.le_of_ble_eq_true rfl, Nat.le_of_ble_eq_true rfl⟩) (fun r368 hr368 => ?_)
            have hFc := free_all hD hS hA
            refine va_callv (va_runV (As := [.int r366, .int r367, .int r368]) (rest := []) ⟨hx, hb, hml, hown, ht⟩ (c_X7_put_30 l dC dI H.size h g ca iv lv (u2 fa 30 2 w357_a_30_2) (u2 (u2 la 30 0 w357_b_30_0) 30 1 w357_b_30_1) (IX_a (c := 30) (k := 2) hI hw357_a_30_2) r366 r367 r368 ⟨by omega, by omega⟩) (kV 3 ht m_577 m_578 m_579 m_84 m_580 rfl rfl hd_X7_put_v ⟨Nat.le_of_ble_eq_true rfl, Nat.le_of_ble_eq_true rfl⟩) (vW hP hK hD (rX_30 hK hP)) rfl rfl hl.1 rfl (lv_room (Nat.le_of_ble_eq_true rfl)) dX3_gather_76 ⟨Nat.le_of_ble_eq_true rfl, Nat.le_of_ble_eq_true rfl⟩) hS (fun q _ h => hFc q h) hFc (fun u t H1 locs ht9 hvm hr369 hB hz1 hk1 hS => ?_)
            obtain ⟨n370, n371, n372, rfl⟩ := hr369
            have hn370 : ∀ j, inb (bA 30 2 j) (n370 j) := fun j => full_i _
            obtain ⟨hP, hD⟩ := hB
            rw [ht9] at hP
            generalize H1 = H at hP hS ⊢
            have hP : va_P (dC, dI) classes (WX h g ca iv lv (u2 fa 30 2 n370) (u2 (u2 la 30 0 n371) 30 1 n372)) H := hP
            have hD : va_D A (WX h g ca iv lv (u2 fa 30 2 n370) (u2 (u2 la 30 0 n371) 30 1 n372)) := (show va_D _ (WX h g ca iv lv (u2 fa 30 2 n370) (u2 (u2 la 30 0 n371) 30 1 n372)) from hD).weaken (fun _ _ _ h => hFc _ h)
            obtain ⟨v373, ev373⟩ : ∃ y : Int32, y = x357_3 + 1 := ⟨_, rfl⟩
            have tv373 := z_add ev373 rfl (by decide : (1 : Int32).toInt = 1) (by omega) (by omega)
            refine lv_iinc (v := v373) (lv' := [(3, .int v373), (0, .ref (g 11 5)), (1, .int a), (2, .int b)]) hx hb dX3_gather_79 hl (k := 0) rfl (by rw [ev373]; rfl) (by decide) rfl (fun ls hl => ?_)
            refine lv_goto (tgt := 9) hx hb dX3_gather_82 (by decide) ?_
            exact ih358 v373 n370 n371 n372 ⟨by omega, by omega⟩ hn370 (by omega) _ _ ls hP hD hS (lv_sub hl [0, 1, 2, 3] rfl)
  exact lp358 61 0 n2 n3 n4 ⟨by decide, by decide⟩ hn2 (by first | decide | omega) _ _ ls hP hD hS (lv_sub hl [0, 1, 2, 3] rfl)
set_option maxHeartbeats 4000000 in
set_option maxRecDepth 100000 in
/-- X3_lesserOf -/
theorem c_X3_lesserOf (l : Launch) (dC : Nat → ClassId) (dI : Nat → Nat → Nat) (h : Nat) (g : Nat → Nat → Nat) (ca : Nat → Nat → ClassId) (iv : Nat → Nat → Int32) (lv : Nat → Nat → Int64) (fa : Nat → Nat → Nat → Int32) (la : Nat → Nat → Nat → Int64) (hI : IX iv fa) (a : Int32) (b : Int32) (h_a : 0 ≤ a.toInt ∧ a.toInt ≤ 2) (h_b : 0 ≤ b.toInt ∧ b.toInt ≤ 2) : Met l yX3_lesserOf (wc yX3_lesserOf cX3_lesserOf 3 (some .int)) ({ frames := 0, cells := 0, slots := 0, locals := 0 } : Room) (pR (dC, dI) classes (WX h g ca iv lv fa la) (TX ca) [.ref (g 11 5), .int a, .int b]) (vp_Si (fun r => 0 ≤ r.toInt ∧ r.toInt ≤ 2)) 0 0 (fun _ => False) := by
  refine Met.ofW (cc := cX3_lesserOf) (maxL := 3) (ret := (some .int)) (by decide) rfl ?_
  intro p e s m args below meth c s₁ B hml hv
  obtain ⟨rfl, hP, hK⟩ := hv
  have hx := B.exec
  have hb := B.bytes
  have hr := B.returns
  have ht := tb_tl (atoms_spec (ws := wc yX3_lesserOf cX3_lesserOf 3 (some .int)) B.pre)
  have hown : s.vm.findClass RX3 = some m.cls := findClass_of_methodNamed B.named
  have hlocks := B.notSynchronized
  have hl := lv_entry [.ref (g 11 5), .int a, .int b] (n := 3) (Nat.le_of_ble_eq_true rfl)
  rw [lg_entry_eq]
  generalize (lg_sl [.ref (g 11 5), .int a, .int b] ++ List.replicate (3 - (lg_sl [.ref (g 11 5), .int a, .int b]).length) Slot.unset).toArray = ls at hl ⊢
  have hl : lv_has ls 3 [(0, .ref (g 11 5)), (1, .int a), (2, .int b)] := hl
  refine lv_aload_n hx hb dX3_lesserOf_0 rfl (lv_at hl 0 rfl) ?_
  refine gX_3_2 hx hb ht hown hK hP m_281 dX3_lesserOf_1 ?_
  refine gX_30_1 hx hb ht hown hK hP m_265 dX3_lesserOf_4 ?_
  refine lv_iload_n hx hb dX3_lesserOf_7 rfl (lv_at hl 2 rfl) ?_
  refine lX_30_1 hx hb hK hP (f := (la 30 1)) rfl (vp_in_iff.mpr ⟨by omega, by omega⟩) dX3_lesserOf_8 ?_
  refine lv_topl (fun w1 ew1 => ?_)
  refine lv_aload_n hx hb dX3_lesserOf_9 rfl (lv_at hl 0 rfl) ?_
  refine gX_3_2 hx hb ht hown hK hP m_281 dX3_lesserOf_10 ?_
  refine gX_30_0 hx hb ht hown hK hP m_262 dX3_lesserOf_13 ?_
  refine lv_iload_n hx hb dX3_lesserOf_16 rfl (lv_at hl 1 rfl) ?_
  refine lX_30_0 hx hb hK hP (f := (la 30 0)) rfl (vp_in_iff.mpr ⟨by omega, by omega⟩) dX3_lesserOf_17 ?_
  refine lv_topl (fun w2 ew2 => ?_)
  refine lv_lmul hx hb dX3_lesserOf_18 ?_
  refine lv_topl (fun w3 ew3 => ?_)
  refine lv_aload_n hx hb dX3_lesserOf_19 rfl (lv_at hl 0 rfl) ?_
  refine gX_3_2 hx hb ht hown hK hP m_281 dX3_lesserOf_20 ?_
  refine gX_30_1 hx hb ht hown hK hP m_265 dX3_lesserOf_23 ?_
  refine lv_iload_n hx hb dX3_lesserOf_26 rfl (lv_at hl 1 rfl) ?_
  refine lX_30_1 hx hb hK hP (f := (la 30 1)) rfl (vp_in_iff.mpr ⟨by omega, by omega⟩) dX3_lesserOf_27 ?_
  refine lv_topl (fun w4 ew4 => ?_)
  refine lv_aload_n hx hb dX3_lesserOf_28 rfl (lv_at hl 0 rfl) ?_
  refine gX_3_2 hx hb ht hown hK hP m_281 dX3_lesserOf_29 ?_
  refine gX_30_0 hx hb ht hown hK hP m_262 dX3_lesserOf_32 ?_
  refine lv_iload_n hx hb dX3_lesserOf_35 rfl (lv_at hl 2 rfl) ?_
  refine lX_30_0 hx hb hK hP (f := (la 30 0)) rfl (vp_in_iff.mpr ⟨by omega, by omega⟩) dX3_lesserOf_36 ?_
  refine lv_topl (fun w5 ew5 => ?_)
  refine lv_lmul hx hb dX3_lesserOf_37 ?_
  refine lv_topl (fun w6 ew6 => ?_)
  refine W.lcmp hx hb dX3_lesserOf_38 ?_
  refine lv_topi (fun v7 ev7 => ?_)
  refine lv_if_ge (tgt := 46) hx hb dX3_lesserOf_39 (by decide) (fun c8 => ?_) (fun c8 => ?_)
  · have fc8 := zc_nlt ev7 (rfl : (w3).toInt = _) (rfl : (w6).toInt = _) (Int32.not_lt.mpr c8)
    refine lv_iload_n hx hb dX3_lesserOf_46 rfl (lv_at hl 1 rfl) ?_
    exact W.iret (v := a) hx hb hr (fun t ht9 hW => ⟨a, rfl, ⟨by omega, by omega⟩, ht9⟩) (fun q hq => by cases hq) dX3_lesserOf_47
  · have fc8 := zc_lt ev7 (rfl : (w3).toInt = _) (rfl : (w6).toInt = _) (Int32.not_le.mp c8)
    refine lv_iload_n hx hb dX3_lesserOf_42 rfl (lv_at hl 2 rfl) ?_
    refine lv_goto (tgt := 47) hx hb dX3_lesserOf_43 (by decide) ?_
    exact W.iret (v := b) hx hb hr (fun t ht9 hW => ⟨b, rfl, ⟨by omega, by omega⟩, ht9⟩) (fun q hq => by cases hq) dX3_lesserOf_47
set_option maxHeartbeats 4000000 in
set_option maxRecDepth 100000 in
/-- X3_settle -/
theorem c_X3_settle (l : Launch) (dC : Nat → ClassId) (dI : Nat → Nat → Nat) (sz : Nat) (h : Nat) (g : Nat → Nat → Nat) (ca : Nat → Nat → ClassId) (iv : Nat → Nat → Int32) (lv : Nat → Nat → Int64) (fa : Nat → Nat → Nat → Int32) (la : Nat → Nat → Nat → Int64) (hI : IX iv fa) (a : Int32) (b : Int32) (h_a : 0 ≤ a.toInt ∧ a.toInt ≤ 2) (h_b : 0 ≤ b.toInt ∧ b.toInt ≤ 2) : Met l yX3_settle (wc yX3_settle cX3_settle 3 (some .int)) ({ frames := 0, cells := 0, slots := 0, locals := 0 } : Room) (pW (dC, dI) classes (WX h g ca iv lv fa la) (TX ca) sz [.ref (g 11 5), .int a, .int b]) (va_Qi (fun r (u : SS) => ∃ (ni_3_3 : Int32) (ni_3_4 : Int32), inb (bI 3 3) ni_3_3 ∧ inb (bI 3 4) ni_3_4 ∧ (1 ≤ r.toInt ∧ r.toInt ≤ 1) ∧ u = ((u2 (u2 iv 3 3 ni_3_3) 3 4 ni_3_4), lv, fa, la)) (bX (dC, dI) h g ca (va_A (WX h g ca iv lv fa la) sz)) (va_A (WX h g ca iv lv fa la) sz)) 0 0 (va_A (WX h g ca iv lv fa la) sz) := by
  refine Met.ofW (cc := cX3_settle) (maxL := 3) (ret := (some .int)) (by decide) rfl ?_
  intro p e s m args below meth c s₁ B hml hv
  obtain ⟨rfl, hsz, hP, hK, hD0⟩ := hv
  have hx := B.exec
  have hb := B.bytes
  have hr := B.returns
  have ht := tb_tl (atoms_spec (ws := wc yX3_settle cX3_settle 3 (some .int)) B.pre)
  have hown : s.vm.findClass RX3 = some m.cls := findClass_of_methodNamed B.named
  have hlocks := B.notSynchronized
  subst hsz
  have hD := hD0.self (sz := s.heap.size)
  generalize hAe : va_A (WX h g ca iv lv fa la) s.heap.size = A at hD ⊢
  have hA : ∀ q : Nat, s.heap.size ≤ q → A q := fun q h => by rw [← hAe]; exact Or.inr h
  have hS : va_S A s.heap s.heap [] := va_S.rf
  have hl := lv_entry [.ref (g 11 5), .int a, .int b] (n := 3) (Nat.le_of_ble_eq_true rfl)
  rw [lg_entry_eq]
  generalize (lg_sl [.ref (g 11 5), .int a, .int b] ++ List.replicate (3 - (lg_sl [.ref (g 11 5), .int a, .int b]).length) Slot.unset).toArray = ls at hl ⊢
  have hl : lv_has ls 3 [(0, .ref (g 11 5)), (1, .int a), (2, .int b)] := hl
  refine lv_aload_n hx hb dX3_settle_0 rfl (lv_at hl 0 rfl) ?_
  refine lv_iload_n hx hb dX3_settle_1 rfl (lv_at hl 1 rfl) ?_
  refine pX_3_3 (v := a) hx hb ht hown hK hP hD hS m_283 dX3_settle_2 (fun H locs hP hD hS => ?_)
  refine lv_aload_n hx hb dX3_settle_5 rfl (lv_at hl 0 rfl) ?_
  refine lv_iload_n hx hb dX3_settle_6 rfl (lv_at hl 2 rfl) ?_
  refine pX_3_4 (v := b) hx hb ht hown hK hP hD hS m_284 dX3_settle_7 (fun H locs hP hD hS => ?_)
  refine lv_iconst (v := 1) hx hb dX3_settle_10 (by decide) ?_
  have hP9 : va_P (dC, dI) classes (WX h g ca (u2 (u2 iv 3 3 a) 3 4 b) lv fa la) H := hP
  have hD9 : va_D A (WX h g ca (u2 (u2 iv 3 3 a) 3 4 b) lv fa la) := hD
  exact W.iret (v := 1) hx hb hr (fun t ht9 hW => ⟨⟨1, ((u2 (u2 iv 3 3 a) 3 4 b), lv, fa, la), rfl, ⟨a, b, (show inb (0, 2) a from ⟨by omega, by omega⟩), (show inb (0, 2) b from ⟨by omega, by omega⟩), ⟨by decide, by decide⟩, rfl⟩, by rw [ht9]; exact hP9, hD9⟩, hS.F ht9⟩) hS.2.2 dX3_settle_11
set_option maxHeartbeats 4000000 in
set_option maxRecDepth 100000 in
/-- X3_settleByTwo -/
theorem c_X3_settleByTwo (l : Launch) (dC : Nat → ClassId) (dI : Nat → Nat → Nat) (sz : Nat) (h : Nat) (g : Nat → Nat → Nat) (ca : Nat → Nat → ClassId) (iv : Nat → Nat → Int32) (lv : Nat → Nat → Int64) (fa : Nat → Nat → Nat → Int32) (la : Nat → Nat → Nat → Int64) (hI : IX iv fa) (a : Int32) : Met l yX3_settleByTwo (wc yX3_settleByTwo cX3_settleByTwo 3 (some .int)) ({ frames := 1, cells := 0, slots := 0, locals := 22 } : Room) (pW (dC, dI) classes (WX h g ca iv lv fa la) (TX ca) sz [.ref (g 11 5), .int a]) (va_Qi (fun r (u : SS) => ∃ (ni_3_3 : Int32) (ni_3_4 : Int32), inb (bI 3 3) ni_3_3 ∧ inb (bI 3 4) ni_3_4 ∧ (1 ≤ r.toInt ∧ r.toInt ≤ 1) ∧ u = ((u2 (u2 iv 3 3 ni_3_3) 3 4 ni_3_4), lv, fa, la)) (bX (dC, dI) h g ca (va_A (WX h g ca iv lv fa la) sz)) (va_A (WX h g ca iv lv fa la) sz)) 0 0 (va_A (WX h g ca iv lv fa la) sz) := by
  refine Met.ofW (cc := cX3_settleByTwo) (maxL := 3) (ret := (some .int)) (by decide) rfl ?_
  intro p e s m args below meth c s₁ B hml hv
  obtain ⟨rfl, hsz, hP, hK, hD0⟩ := hv
  have hx := B.exec
  have hb := B.bytes
  have hr := B.returns
  have ht := tb_tl (atoms_spec (ws := wc yX3_settleByTwo cX3_settleByTwo 3 (some .int)) B.pre)
  have hown : s.vm.findClass RX3 = some m.cls := findClass_of_methodNamed B.named
  have hlocks := B.notSynchronized
  subst hsz
  have hD := hD0.self (sz := s.heap.size)
  generalize hAe : va_A (WX h g ca iv lv fa la) s.heap.size = A at hD ⊢
  have hA : ∀ q : Nat, s.heap.size ≤ q → A q := fun q h => by rw [← hAe]; exact Or.inr h
  have hS : va_S A s.heap s.heap [] := va_S.rf
  have hl := lv_entry [.ref (g 11 5), .int a] (n := 3) (Nat.le_of_ble_eq_true rfl)
  rw [lg_entry_eq]
  generalize (lg_sl [.ref (g 11 5), .int a] ++ List.replicate (3 - (lg_sl [.ref (g 11 5), .int a]).length) Slot.unset).toArray = ls at hl ⊢
  have hl : lv_has ls 3 [(0, .ref (g 11 5)), (1, .int a)] := hl
  refine lv_iload_n hx hb dX3_settleByTwo_0 rfl (lv_at hl 1 rfl) ?_
  refine lv_iconst (v := 1) hx hb dX3_settleByTwo_1 (by decide) ?_
  refine lv_icmp_eq (tgt := 12) hx hb dX3_settleByTwo_2 (by decide) (fun c1 => ?_) (fun c1 => ?_)
  · have fc1 := z_eq (rfl : (a).toInt = _) (by decide : (1 : Int32).toInt = 1) c1
    refine lv_aload_n hx hb dX3_settleByTwo_12 rfl (lv_at hl 0 rfl) ?_
    refine lv_iconst (v := 0) hx hb dX3_settleByTwo_13 (by decide) ?_
    refine lv_iconst (v := 1) hx hb dX3_settleByTwo_14 (by decide) ?_
    refine vp_callSi (W.runV (As := [.int 0, .int 1]) (rest := []) ⟨hx, hb, hml, hown, ht⟩ (c_X3_lesserOf l dC dI h g ca iv lv fa la hI 0 1 ⟨by decide, by decide⟩ ⟨by decide, by decide⟩) (kV 2 ht m_638 m_640 m_11 m_83 m_641 rfl rfl hd_X3_lesserOf_v ⟨Nat.le_of_ble_eq_true rfl, Nat.le_of_ble_eq_true rfl⟩) (vR hP hK (rX_3 hK hP)) rfl rfl hl.1 rfl (lv_room (Nat.le_of_ble_eq_true rfl)) dX3_settleByTwo_15 ⟨Nat.le_of_ble_eq_true rfl, Nat.le_of_ble_eq_true rfl⟩) (fun r2 hr2 => ?_)
    refine lv_istore_n (lv' := [(2, .int r2), (0, .ref (g 11 5)), (1, .int a)]) hx hb dX3_settleByTwo_18 rfl hl (by decide) rfl (fun ls hl => ?_)
    refine lv_aload_n hx hb dX3_settleByTwo_19 rfl (lv_at hl 1 rfl) ?_
    refine lv_iload_n hx hb dX3_settleByTwo_20 rfl (lv_at hl 0 rfl) ?_
    refine lv_iload_n hx hb dX3_settleByTwo_21 rfl (lv_at hl 0 rfl) ?_
    have hFc := free_all hD hS hA
    refine va_calli (va_runV (As := [.int r2, .int r2]) (rest := []) ⟨hx, hb, hml, hown, ht⟩ (c_X3_settle l dC dI s.heap.size h g ca iv lv fa la hI r2 r2 ⟨by omega, by omega⟩ ⟨by omega, by omega⟩) (kV 2 ht m_622 m_624 m_9 m_83 m_625 rfl rfl hd_X3_settle_v ⟨Nat.le_of_ble_eq_true rfl, Nat.le_of_ble_eq_true rfl⟩) (vW hP hK hD (rX_3 hK hP)) rfl rfl hl.1 rfl (lv_room (Nat.le_of_ble_eq_true rfl)) dX3_settleByTwo_22 ⟨Nat.le_of_ble_eq_true rfl, Nat.le_of_ble_eq_true rfl⟩) hS (fun q _ h => hFc q h) hFc (fun r3 u t H1 locs ht9 hvm hr3 hB hz1 hk1 hS => ?_)
    obtain ⟨n4, n5, hn4, hn5, hr3, rfl⟩ := hr3
    have hn4 : 0 ≤ n4.toInt ∧ n4.toInt ≤ 2 := hn4
    have hn5 : 0 ≤ n5.toInt ∧ n5.toInt ≤ 2 := hn5
    obtain ⟨hP, hD⟩ := hB
    rw [ht9] at hP
    generalize H1 = H at hP hS ⊢
    have hP : va_P (dC, dI) classes (WX h g ca (u2 (u2 iv 3 3 n4) 3 4 n5) lv fa la) H := hP
    have hD : va_D A (WX h g ca (u2 (u2 iv 3 3 n4) 3 4 n5) lv fa la) := (show va_D _ (WX h g ca (u2 (u2 iv 3 3 n4) 3 4 n5) lv fa la) from hD).weaken (fun _ _ _ h => hFc _ h)
    have hP9 : va_P (dC, dI) classes (WX h g ca (u2 (u2 iv 3 3 n4) 3 4 n5) lv fa la) H := hP
    have hD9 : va_D A (WX h g ca (u2 (u2 iv 3 3 n4) 3 4 n5) lv fa la) := hD
    exact W.iret (v := r3) hx hb hr (fun t ht9 hW => ⟨⟨r3, ((u2 (u2 iv 3 3 n4) 3 4 n5), lv, fa, la), rfl, ⟨n4, n5, (show inb (0, 2) n4 from ⟨by omega, by omega⟩), (show inb (0, 2) n5 from ⟨by omega, by omega⟩), ⟨by omega, by omega⟩, rfl⟩, by rw [ht9]; exact hP9, hD9⟩, hS.F ht9⟩) hS.2.2 dX3_settleByTwo_25
  · have fc1 := z_ne (rfl : (a).toInt = _) (by decide : (1 : Int32).toInt = 1) c1
    refine lv_aload_n hx hb dX3_settleByTwo_5 rfl (lv_at hl 0 rfl) ?_
    refine lv_iconst (v := 0) hx hb dX3_settleByTwo_6 (by decide) ?_
    refine lv_iconst (v := 1) hx hb dX3_settleByTwo_7 (by decide) ?_
    have hFc := free_all hD hS hA
    refine va_calli (va_runV (As := [.int 0, .int 1]) (rest := []) ⟨hx, hb, hml, hown, ht⟩ (c_X3_settle l dC dI s.heap.size h g ca iv lv fa la hI 0 1 ⟨by decide, by decide⟩ ⟨by decide, by decide⟩) (kV 2 ht m_622 m_624 m_9 m_83 m_625 rfl rfl hd_X3_settle_v ⟨Nat.le_of_ble_eq_true rfl, Nat.le_of_ble_eq_true rfl⟩) (vW hP hK hD (rX_3 hK hP)) rfl rfl hl.1 rfl (lv_room (Nat.le_of_ble_eq_true rfl)) dX3_settleByTwo_8 ⟨Nat.le_of_ble_eq_true rfl, Nat.le_of_ble_eq_true rfl⟩) hS (fun q _ h => hFc q h) hFc (fun r6 u t H1 locs ht9 hvm hr6 hB hz1 hk1 hS => ?_)
    obtain ⟨n7, n8, hn7, hn8, hr6, rfl⟩ := hr6
    have hn7 : 0 ≤ n7.toInt ∧ n7.toInt ≤ 2 := hn7
    have hn8 : 0 ≤ n8.toInt ∧ n8.toInt ≤ 2 := hn8
    obtain ⟨hP, hD⟩ := hB
    rw [ht9] at hP
    generalize H1 = H at hP hS ⊢
    have hP : va_P (dC, dI) classes (WX h g ca (u2 (u2 iv 3 3 n7) 3 4 n8) lv fa la) H := hP
    have hD : va_D A (WX h g ca (u2 (u2 iv 3 3 n7) 3 4 n8) lv fa la) := (show va_D _ (WX h g ca (u2 (u2 iv 3 3 n7) 3 4 n8) lv fa la) from hD).weaken (fun _ _ _ h => hFc _ h)
    have hP9 : va_P (dC, dI) classes (WX h g ca (u2 (u2 iv 3 3 n7) 3 4 n8) lv fa la) H := hP
    have hD9 : va_D A (WX h g ca (u2 (u2 iv 3 3 n7) 3 4 n8) lv fa la) := hD
    exact W.iret (v := r6) hx hb hr (fun t ht9 hW => ⟨⟨r6, ((u2 (u2 iv 3 3 n7) 3 4 n8), lv, fa, la), rfl, ⟨n7, n8, (show inb (0, 2) n7 from ⟨by omega, by omega⟩), (show inb (0, 2) n8 from ⟨by omega, by omega⟩), ⟨by omega, by omega⟩, rfl⟩, by rw [ht9]; exact hP9, hD9⟩, hS.F ht9⟩) hS.2.2 dX3_settleByTwo_11
set_option maxHeartbeats 4000000 in
set_option maxRecDepth 100000 in
/-- X3_settleByNearest -/
theorem c_X3_settleByNearest (l : Launch) (dC : Nat → ClassId) (dI : Nat → Nat → Nat) (sz : Nat) (h : Nat) (g : Nat → Nat → Nat) (ca : Nat → Nat → ClassId) (iv : Nat → Nat → Int32) (lv : Nat → Nat → Int64) (fa : Nat → Nat → Nat → Int32) (la : Nat → Nat → Nat → Int64) (hI : IX iv fa) : Met l yX3_settleByNearest (wc yX3_settleByNearest cX3_settleByNearest 7 (some .int)) ({ frames := 1, cells := 0, slots := 0, locals := 40 } : Room) (pW (dC, dI) classes (WX h g ca iv lv fa la) (TX ca) sz [.ref (g 11 5)]) (va_Qi (fun r (u : SS) => ∃ (ni_3_3 : Int32) (ni_3_4 : Int32), inb (bI 3 3) ni_3_3 ∧ inb (bI 3 4) ni_3_4 ∧ (1 ≤ r.toInt ∧ r.toInt ≤ 1) ∧ u = ((u2 (u2 iv 3 3 ni_3_3) 3 4 ni_3_4), lv, fa, la)) (bX (dC, dI) h g ca (va_A (WX h g ca iv lv fa la) sz)) (va_A (WX h g ca iv lv fa la) sz)) 0 0 (va_A (WX h g ca iv lv fa la) sz) := by
  refine Met.ofW (cc := cX3_settleByNearest) (maxL := 7) (ret := (some .int)) (by decide) rfl ?_
  intro p e s m args below meth c s₁ B hml hv
  obtain ⟨rfl, hsz, hP, hK, hD0⟩ := hv
  have hx := B.exec
  have hb := B.bytes
  have hr := B.returns
  have ht := tb_tl (atoms_spec (ws := wc yX3_settleByNearest cX3_settleByNearest 7 (some .int)) B.pre)
  have hown : s.vm.findClass RX3 = some m.cls := findClass_of_methodNamed B.named
  have hlocks := B.notSynchronized
  subst hsz
  have hD := hD0.self (sz := s.heap.size)
  generalize hAe : va_A (WX h g ca iv lv fa la) s.heap.size = A at hD ⊢
  have hA : ∀ q : Nat, s.heap.size ≤ q → A q := fun q h => by rw [← hAe]; exact Or.inr h
  have hS : va_S A s.heap s.heap [] := va_S.rf
  have hl := lv_entry [.ref (g 11 5)] (n := 7) (Nat.le_of_ble_eq_true rfl)
  rw [lg_entry_eq]
  generalize (lg_sl [.ref (g 11 5)] ++ List.replicate (7 - (lg_sl [.ref (g 11 5)]).length) Slot.unset).toArray = ls at hl ⊢
  have hl : lv_has ls 7 [(0, .ref (g 11 5))] := hl
  refine lv_aload_n hx hb dX3_settleByNearest_0 rfl (lv_at hl 0 rfl) ?_
  refine gX_3_2 hx hb ht hown hK hP m_281 dX3_settleByNearest_1 ?_
  refine lv_iconst (v := 0) hx hb dX3_settleByNearest_4 (by decide) ?_
  refine vp_callSl (W.runV (As := [.int 0]) (rest := []) ⟨hx, hb, hml, hown, ht⟩ (c_X7_level_30 l dC dI h g ca iv lv fa la hI 0 ⟨by decide, by decide⟩) (kV 1 ht m_654 m_655 m_656 m_84 m_657 rfl rfl hd_X7_level_v ⟨Nat.le_of_ble_eq_true rfl, Nat.le_of_ble_eq_true rfl⟩) (vR hP hK (rX_30 hK hP)) rfl rfl hl.1 rfl (lv_room (Nat.le_of_ble_eq_true rfl)) dX3_settleByNearest_5 ⟨Nat.le_of_ble_eq_true rfl, Nat.le_of_ble_eq_true rfl⟩) (fun r1 hr1 => ?_)
  refine lv_aload_n hx hb dX3_settleByNearest_8 rfl (lv_at hl 0 rfl) ?_
  refine gX_3_2 hx hb ht hown hK hP m_281 dX3_settleByNearest_9 ?_
  refine lv_iconst (v := 1) hx hb dX3_settleByNearest_12 (by decide) ?_
  refine vp_callSl (W.runV (As := [.int 1]) (rest := [.long r1]) ⟨hx, hb, hml, hown, ht⟩ (c_X7_level_30 l dC dI h g ca iv lv fa la hI 1 ⟨by decide, by decide⟩) (kV 1 ht m_654 m_655 m_656 m_84 m_657 rfl rfl hd_X7_level_v ⟨Nat.le_of_ble_eq_true rfl, Nat.le_of_ble_eq_true rfl⟩) (vR hP hK (rX_30 hK hP)) rfl rfl hl.1 rfl (lv_room (Nat.le_of_ble_eq_true rfl)) dX3_settleByNearest_13 ⟨Nat.le_of_ble_eq_true rfl, Nat.le_of_ble_eq_true rfl⟩) (fun r2 hr2 => ?_)
  refine lv_lsub hx hb dX3_settleByNearest_16 ?_
  refine lv_topl (fun w3 ew3 => ?_)
  refine va_mabs_long hx hb (hml.trans hl.1.symm) hown (ht _ m_658) (ht _ m_632) (ht _ m_90) (ht _ m_633) (Nat.le_of_ble_eq_true rfl) (Nat.le_of_ble_eq_true rfl) (Nat.le_of_ble_eq_true rfl) (Nat.le_of_ble_eq_true rfl) dX3_settleByNearest_17 ?_
  refine lv_topl (fun w4 ew4 => ?_)
  refine lv_lstore_n (lv' := [(1, .long w4), (0, .ref (g 11 5))]) hx hb dX3_settleByNearest_20 rfl hl (by decide) rfl (fun ls hl => ?_)
  refine lv_aload_n hx hb dX3_settleByNearest_21 rfl (lv_at hl 1 rfl) ?_
  refine gX_3_2 hx hb ht hown hK hP m_281 dX3_settleByNearest_22 ?_
  refine lv_iconst (v := 0) hx hb dX3_settleByNearest_25 (by decide) ?_
  refine vp_callSl (W.runV (As := [.int 0]) (rest := []) ⟨hx, hb, hml, hown, ht⟩ (c_X7_level_30 l dC dI h g ca iv lv fa la hI 0 ⟨by decide, by decide⟩) (kV 1 ht m_654 m_655 m_656 m_84 m_657 rfl rfl hd_X7_level_v ⟨Nat.le_of_ble_eq_true rfl, Nat.le_of_ble_eq_true rfl⟩) (vR hP hK (rX_30 hK hP)) rfl rfl hl.1 rfl (lv_room (Nat.le_of_ble_eq_true rfl)) dX3_settleByNearest_26 ⟨Nat.le_of_ble_eq_true rfl, Nat.le_of_ble_eq_true rfl⟩) (fun r5 hr5 => ?_)
  refine lv_aload_n hx hb dX3_settleByNearest_29 rfl (lv_at hl 1 rfl) ?_
  refine gX_3_2 hx hb ht hown hK hP m_281 dX3_settleByNearest_30 ?_
  refine lv_iconst (v := 2) hx hb dX3_settleByNearest_33 (by decide) ?_
  refine vp_callSl (W.runV (As := [.int 2]) (rest := [.long r5]) ⟨hx, hb, hml, hown, ht⟩ (c_X7_level_30 l dC dI h g ca iv lv fa la hI 2 ⟨by decide, by decide⟩) (kV 1 ht m_654 m_655 m_656 m_84 m_657 rfl rfl hd_X7_level_v ⟨Nat.le_of_ble_eq_true rfl, Nat.le_of_ble_eq_true rfl⟩) (vR hP hK (rX_30 hK hP)) rfl rfl hl.1 rfl (lv_room (Nat.le_of_ble_eq_true rfl)) dX3_settleByNearest_34 ⟨Nat.le_of_ble_eq_true rfl, Nat.le_of_ble_eq_true rfl⟩) (fun r6 hr6 => ?_)
  refine lv_lsub hx hb dX3_settleByNearest_37 ?_
  refine lv_topl (fun w7 ew7 => ?_)
  refine va_mabs_long hx hb (hml.trans hl.1.symm) hown (ht _ m_658) (ht _ m_632) (ht _ m_90) (ht _ m_633) (Nat.le_of_ble_eq_true rfl) (Nat.le_of_ble_eq_true rfl) (Nat.le_of_ble_eq_true rfl) (Nat.le_of_ble_eq_true rfl) dX3_settleByNearest_38 ?_
  refine lv_topl (fun w8 ew8 => ?_)
  refine lv_lstore_n (lv' := [(3, .long w8), (1, .long w4), (0, .ref (g 11 5))]) hx hb dX3_settleByNearest_41 rfl hl (by decide) rfl (fun ls hl => ?_)
  refine lv_aload_n hx hb dX3_settleByNearest_42 rfl (lv_at hl 2 rfl) ?_
  refine gX_3_2 hx hb ht hown hK hP m_281 dX3_settleByNearest_43 ?_
  refine lv_iconst (v := 1) hx hb dX3_settleByNearest_46 (by decide) ?_
  refine vp_callSl (W.runV (As := [.int 1]) (rest := []) ⟨hx, hb, hml, hown, ht⟩ (c_X7_level_30 l dC dI h g ca iv lv fa la hI 1 ⟨by decide, by decide⟩) (kV 1 ht m_654 m_655 m_656 m_84 m_657 rfl rfl hd_X7_level_v ⟨Nat.le_of_ble_eq_true rfl, Nat.le_of_ble_eq_true rfl⟩) (vR hP hK (rX_30 hK hP)) rfl rfl hl.1 rfl (lv_room (Nat.le_of_ble_eq_true rfl)) dX3_settleByNearest_47 ⟨Nat.le_of_ble_eq_true rfl, Nat.le_of_ble_eq_true rfl⟩) (fun r9 hr9 => ?_)
  refine lv_aload_n hx hb dX3_settleByNearest_50 rfl (lv_at hl 2 rfl) ?_
  refine gX_3_2 hx hb ht hown hK hP m_281 dX3_settleByNearest_51 ?_
  refine lv_iconst (v := 2) hx hb dX3_settleByNearest_54 (by decide) ?_
  refine vp_callSl (W.runV (As := [.int 2]) (rest := [.long r9]) ⟨hx, hb, hml, hown, ht⟩ (c_X7_level_30 l dC dI h g ca iv lv fa la hI 2 ⟨by decide, by decide⟩) (kV 1 ht m_654 m_655 m_656 m_84 m_657 rfl rfl hd_X7_level_v ⟨Nat.le_of_ble_eq_true rfl, Nat.le_of_ble_eq_true rfl⟩) (vR hP hK (rX_30 hK hP)) rfl rfl hl.1 rfl (lv_room (Nat.le_of_ble_eq_true rfl)) dX3_settleByNearest_55 ⟨Nat.le_of_ble_eq_true rfl, Nat.le_of_ble_eq_true rfl⟩) (fun r10 hr10 => ?_)
  refine lv_lsub hx hb dX3_settleByNearest_58 ?_
  refine lv_topl (fun w11 ew11 => ?_)
  refine va_mabs_long hx hb (hml.trans hl.1.symm) hown (ht _ m_658) (ht _ m_632) (ht _ m_90) (ht _ m_633) (Nat.le_of_ble_eq_true rfl) (Nat.le_of_ble_eq_true rfl) (Nat.le_of_ble_eq_true rfl) (Nat.le_of_ble_eq_true rfl) dX3_settleByNearest_59 ?_
  refine lv_topl (fun w12 ew12 => ?_)
  refine lv_lstore (lv' := [(5, .long w12), (3, .long w8), (1, .long w4), (0, .ref (g 11 5))]) hx hb dX3_settleByNearest_62 hl (by decide) rfl (fun ls hl => ?_)
  refine lv_lload_n hx hb dX3_settleByNearest_64 rfl (lv_at hl 2 rfl) ?_
  refine lv_lload_n hx hb dX3_settleByNearest_65 rfl (lv_at hl 1 rfl) ?_
  refine W.lcmp hx hb dX3_settleByNearest_66 ?_
  refine lv_topi (fun v13 ev13 => ?_)
  refine lv_if_gt (tgt := 84) hx hb dX3_settleByNearest_67 (by decide) (fun c14 => ?_) (fun c14 => ?_)
  · have fc14 := zc_gt ev13 (rfl : (w4).toInt = _) (rfl : (w8).toInt = _) c14
    refine lv_lload_n hx hb dX3_settleByNearest_84 rfl (lv_at hl 1 rfl) ?_
    refine lv_lload hx hb dX3_settleByNearest_85 (lv_at hl 0 rfl) ?_
    refine W.lcmp hx hb dX3_settleByNearest_87 ?_
    refine lv_topi (fun v15 ev15 => ?_)
    refine lv_if_gt (tgt := 100) hx hb dX3_settleByNearest_88 (by decide) (fun c16 => ?_) (fun c16 => ?_)
    · have fc16 := zc_gt ev15 (rfl : (w8).toInt = _) (rfl : (w12).toInt = _) c16
      refine lv_aload_n hx hb dX3_settleByNearest_100 rfl (lv_at hl 3 rfl) ?_
      refine lv_iconst (v := 1) hx hb dX3_settleByNearest_101 (by decide) ?_
      refine lv_iconst (v := 2) hx hb dX3_settleByNearest_102 (by decide) ?_
      have hFc := free_all hD hS hA
      refine va_calli (va_runV (As := [.int 1, .int 2]) (rest := []) ⟨hx, hb, hml, hown, ht⟩ (c_X3_settle l dC dI s.heap.size h g ca iv lv fa la hI 1 2 ⟨by decide, by decide⟩ ⟨by decide, by decide⟩) (kV 2 ht m_622 m_624 m_9 m_83 m_625 rfl rfl hd_X3_settle_v ⟨Nat.le_of_ble_eq_true rfl, Nat.le_of_ble_eq_true rfl⟩) (vW hP hK hD (rX_3 hK hP)) rfl rfl hl.1 rfl (lv_room (Nat.le_of_ble_eq_true rfl)) dX3_settleByNearest_103 ⟨Nat.le_of_ble_eq_true rfl, Nat.le_of_ble_eq_true rfl⟩) hS (fun q _ h => hFc q h) hFc (fun r17 u t H1 locs ht9 hvm hr17 hB hz1 hk1 hS => ?_)
      obtain ⟨n18, n19, hn18, hn19, hr17, rfl⟩ := hr17
      have hn18 : 0 ≤ n18.toInt ∧ n18.toInt ≤ 2 := hn18
      have hn19 : 0 ≤ n19.toInt ∧ n19.toInt ≤ 2 := hn19
      obtain ⟨hP, hD⟩ := hB
      rw [ht9] at hP
      generalize H1 = H at hP hS ⊢
      have hP : va_P (dC, dI) classes (WX h g ca (u2 (u2 iv 3 3 n18) 3 4 n19) lv fa la) H := hP
      have hD : va_D A (WX h g ca (u2 (u2 iv 3 3 n18) 3 4 n19) lv fa la) := (show va_D _ (WX h g ca (u2 (u2 iv 3 3 n18) 3 4 n19) lv fa la) from hD).weaken (fun _ _ _ h => hFc _ h)
      have hP9 : va_P (dC, dI) classes (WX h g ca (u2 (u2 iv 3 3 n18) 3 4 n19) lv fa la) H := hP
      have hD9 : va_D A (WX h g ca (u2 (u2 iv 3 3 n18) 3 4 n19) lv fa la) := hD
      exact W.iret (v := r17) hx hb hr (fun t ht9 hW => ⟨⟨r17, ((u2 (u2 iv 3 3 n18) 3 4 n19), lv, fa, la), rfl, ⟨n18, n19, (show inb (0, 2) n18 from ⟨by omega, by omega⟩), (show inb (0, 2) n19 from ⟨by omega, by omega⟩), ⟨by omega, by omega⟩, rfl⟩, by rw [ht9]; exact hP9, hD9⟩, hS.F ht9⟩) hS.2.2 dX3_settleByNearest_106
    · have fc16 := zc_ngt ev15 (rfl : (w8).toInt = _) (rfl : (w12).toInt = _) c16
      refine lv_aload_n hx hb dX3_settleByNearest_91 rfl (lv_at hl 3 rfl) ?_
      refine lv_iconst (v := 0) hx hb dX3_settleByNearest_92 (by decide) ?_
      refine lv_iconst (v := 2) hx hb dX3_settleByNearest_93 (by decide) ?_
      have hFc := free_all hD hS hA
      refine va_calli (va_runV (As := [.int 0, .int 2]) (rest := []) ⟨hx, hb, hml, hown, ht⟩ (c_X3_settle l dC dI s.heap.size h g ca iv lv fa la hI 0 2 ⟨by decide, by decide⟩ ⟨by decide, by decide⟩) (kV 2 ht m_622 m_624 m_9 m_83 m_625 rfl rfl hd_X3_settle_v ⟨Nat.le_of_ble_eq_true rfl, Nat.le_of_ble_eq_true rfl⟩) (vW hP hK hD (rX_3 hK hP)) rfl rfl hl.1 rfl (lv_room (Nat.le_of_ble_eq_true rfl)) dX3_settleByNearest_94 ⟨Nat.le_of_ble_eq_true rfl, Nat.le_of_ble_eq_true rfl⟩) hS (fun q _ h => hFc q h) hFc (fun r20 u t H1 locs ht9 hvm hr20 hB hz1 hk1 hS => ?_)
      obtain ⟨n21, n22, hn21, hn22, hr20, rfl⟩ := hr20
      have hn21 : 0 ≤ n21.toInt ∧ n21.toInt ≤ 2 := hn21
      have hn22 : 0 ≤ n22.toInt ∧ n22.toInt ≤ 2 := hn22
      obtain ⟨hP, hD⟩ := hB
      rw [ht9] at hP
      generalize H1 = H at hP hS ⊢
      have hP : va_P (dC, dI) classes (WX h g ca (u2 (u2 iv 3 3 n21) 3 4 n22) lv fa la) H := hP
      have hD : va_D A (WX h g ca (u2 (u2 iv 3 3 n21) 3 4 n22) lv fa la) := (show va_D _ (WX h g ca (u2 (u2 iv 3 3 n21) 3 4 n22) lv fa la) from hD).weaken (fun _ _ _ h => hFc _ h)
      refine lv_goto (tgt := 106) hx hb dX3_settleByNearest_97 (by decide) ?_
      have hP9 : va_P (dC, dI) classes (WX h g ca (u2 (u2 iv 3 3 n21) 3 4 n22) lv fa la) H := hP
      have hD9 : va_D A (WX h g ca (u2 (u2 iv 3 3 n21) 3 4 n22) lv fa la) := hD
      exact W.iret (v := r20) hx hb hr (fun t ht9 hW => ⟨⟨r20, ((u2 (u2 iv 3 3 n21) 3 4 n22), lv, fa, la), rfl, ⟨n21, n22, (show inb (0, 2) n21 from ⟨by omega, by omega⟩), (show inb (0, 2) n22 from ⟨by omega, by omega⟩), ⟨by omega, by omega⟩, rfl⟩, by rw [ht9]; exact hP9, hD9⟩, hS.F ht9⟩) hS.2.2 dX3_settleByNearest_106
  · have fc14 := zc_ngt ev13 (rfl : (w4).toInt = _) (rfl : (w8).toInt = _) c14
    refine lv_lload_n hx hb dX3_settleByNearest_70 rfl (lv_at hl 2 rfl) ?_
    refine lv_lload hx hb dX3_settleByNearest_71 (lv_at hl 0 rfl) ?_
    refine W.lcmp hx hb dX3_settleByNearest_73 ?_
    refine lv_topi (fun v23 ev23 => ?_)
    refine lv_if_gt (tgt := 84) hx hb dX3_settleByNearest_74 (by decide) (fun c24 => ?_) (fun c24 => ?_)
    · have fc24 := zc_gt ev23 (rfl : (w4).toInt = _) (rfl : (w12).toInt = _) c24
      refine lv_lload_n hx hb dX3_settleByNearest_84 rfl (lv_at hl 1 rfl) ?_
      refine lv_lload hx hb dX3_settleByNearest_85 (lv_at hl 0 rfl) ?_
      refine W.lcmp hx hb dX3_settleByNearest_87 ?_
      refine lv_topi (fun v25 ev25 => ?_)
      refine lv_if_gt (tgt := 100) hx hb dX3_settleByNearest_88 (by decide) (fun c26 => ?_) (fun c26 => ?_)
      · have fc26 := zc_gt ev25 (rfl : (w8).toInt = _) (rfl : (w12).toInt = _) c26
        refine lv_aload_n hx hb dX3_settleByNearest_100 rfl (lv_at hl 3 rfl) ?_
        refine lv_iconst (v := 1) hx hb dX3_settleByNearest_101 (by decide) ?_
        refine lv_iconst (v := 2) hx hb dX3_settleByNearest_102 (by decide) ?_
        have hFc := free_all hD hS hA
        refine va_calli (va_runV (As := [.int 1, .int 2]) (rest := []) ⟨hx, hb, hml, hown, ht⟩ (c_X3_settle l dC dI s.heap.size h g ca iv lv fa la hI 1 2 ⟨by decide, by decide⟩ ⟨by decide, by decide⟩) (kV 2 ht m_622 m_624 m_9 m_83 m_625 rfl rfl hd_X3_settle_v ⟨Nat.le_of_ble_eq_true rfl, Nat.le_of_ble_eq_true rfl⟩) (vW hP hK hD (rX_3 hK hP)) rfl rfl hl.1 rfl (lv_room (Nat.le_of_ble_eq_true rfl)) dX3_settleByNearest_103 ⟨Nat.le_of_ble_eq_true rfl, Nat.le_of_ble_eq_true rfl⟩) hS (fun q _ h => hFc q h) hFc (fun r27 u t H1 locs ht9 hvm hr27 hB hz1 hk1 hS => ?_)
        obtain ⟨n28, n29, hn28, hn29, hr27, rfl⟩ := hr27
        have hn28 : 0 ≤ n28.toInt ∧ n28.toInt ≤ 2 := hn28
        have hn29 : 0 ≤ n29.toInt ∧ n29.toInt ≤ 2 := hn29
        obtain ⟨hP, hD⟩ := hB
        rw [ht9] at hP
        generalize H1 = H at hP hS ⊢
        have hP : va_P (dC, dI) classes (WX h g ca (u2 (u2 iv 3 3 n28) 3 4 n29) lv fa la) H := hP
        have hD : va_D A (WX h g ca (u2 (u2 iv 3 3 n28) 3 4 n29) lv fa la) := (show va_D _ (WX h g ca (u2 (u2 iv 3 3 n28) 3 4 n29) lv fa la) from hD).weaken (fun _ _ _ h => hFc _ h)
        have hP9 : va_P (dC, dI) classes (WX h g ca (u2 (u2 iv 3 3 n28) 3 4 n29) lv fa la) H := hP
        have hD9 : va_D A (WX h g ca (u2 (u2 iv 3 3 n28) 3 4 n29) lv fa la) := hD
        exact W.iret (v := r27) hx hb hr (fun t ht9 hW => ⟨⟨r27, ((u2 (u2 iv 3 3 n28) 3 4 n29), lv, fa, la), rfl, ⟨n28, n29, (show inb (0, 2) n28 from ⟨by omega, by omega⟩), (show inb (0, 2) n29 from ⟨by omega, by omega⟩), ⟨by omega, by omega⟩, rfl⟩, by rw [ht9]; exact hP9, hD9⟩, hS.F ht9⟩) hS.2.2 dX3_settleByNearest_106
      · have fc26 := zc_ngt ev25 (rfl : (w8).toInt = _) (rfl : (w12).toInt = _) c26
        refine lv_aload_n hx hb dX3_settleByNearest_91 rfl (lv_at hl 3 rfl) ?_
        refine lv_iconst (v := 0) hx hb dX3_settleByNearest_92 (by decide) ?_
        refine lv_iconst (v := 2) hx hb dX3_settleByNearest_93 (by decide) ?_
        have hFc := free_all hD hS hA
        refine va_calli (va_runV (As := [.int 0, .int 2]) (rest := []) ⟨hx, hb, hml, hown, ht⟩ (c_X3_settle l dC dI s.heap.size h g ca iv lv fa la hI 0 2 ⟨by decide, by decide⟩ ⟨by decide, by decide⟩) (kV 2 ht m_622 m_624 m_9 m_83 m_625 rfl rfl hd_X3_settle_v ⟨Nat.le_of_ble_eq_true rfl, Nat.le_of_ble_eq_true rfl⟩) (vW hP hK hD (rX_3 hK hP)) rfl rfl hl.1 rfl (lv_room (Nat.le_of_ble_eq_true rfl)) dX3_settleByNearest_94 ⟨Nat.le_of_ble_eq_true rfl, Nat.le_of_ble_eq_true rfl⟩) hS (fun q _ h => hFc q h) hFc (fun r30 u t H1 locs ht9 hvm hr30 hB hz1 hk1 hS => ?_)
        obtain ⟨n31, n32, hn31, hn32, hr30, rfl⟩ := hr30
        have hn31 : 0 ≤ n31.toInt ∧ n31.toInt ≤ 2 := hn31
        have hn32 : 0 ≤ n32.toInt ∧ n32.toInt ≤ 2 := hn32
        obtain ⟨hP, hD⟩ := hB
        rw [ht9] at hP
        generalize H1 = H at hP hS ⊢
        have hP : va_P (dC, dI) classes (WX h g ca (u2 (u2 iv 3 3 n31) 3 4 n32) lv fa la) H := hP
        have hD : va_D A (WX h g ca (u2 (u2 iv 3 3 n31) 3 4 n32) lv fa la) := (show va_D _ (WX h g ca (u2 (u2 iv 3 3 n31) 3 4 n32) lv fa la) from hD).weaken (fun _ _ _ h => hFc _ h)
        refine lv_goto (tgt := 106) hx hb dX3_settleByNearest_97 (by decide) ?_
        have hP9 : va_P (dC, dI) classes (WX h g ca (u2 (u2 iv 3 3 n31) 3 4 n32) lv fa la) H := hP
        have hD9 : va_D A (WX h g ca (u2 (u2 iv 3 3 n31) 3 4 n32) lv fa la) := hD
        exact W.iret (v := r30) hx hb hr (fun t ht9 hW => ⟨⟨r30, ((u2 (u2 iv 3 3 n31) 3 4 n32), lv, fa, la), rfl, ⟨n31, n32, (show inb (0, 2) n31 from ⟨by omega, by omega⟩), (show inb (0, 2) n32 from ⟨by omega, by omega⟩), ⟨by omega, by omega⟩, rfl⟩, by rw [ht9]; exact hP9, hD9⟩, hS.F ht9⟩) hS.2.2 dX3_settleByNearest_106
    · have fc24 := zc_ngt ev23 (rfl : (w4).toInt = _) (rfl : (w12).toInt = _) c24
      refine lv_aload_n hx hb dX3_settleByNearest_77 rfl (lv_at hl 3 rfl) ?_
      refine lv_iconst (v := 0) hx hb dX3_settleByNearest_78 (by decide) ?_
      refine lv_iconst (v := 1) hx hb dX3_settleByNearest_79 (by decide) ?_
      have hFc := free_all hD hS hA
      refine va_calli (va_runV (As := [.int 0, .int 1]) (rest := []) ⟨hx, hb, hml, hown, ht⟩ (c_X3_settle l dC dI s.heap.size h g ca iv lv fa la hI 0 1 ⟨by decide, by decide⟩ ⟨by decide, by decide⟩) (kV 2 ht m_622 m_624 m_9 m_83 m_625 rfl rfl hd_X3_settle_v ⟨Nat.le_of_ble_eq_true rfl, Nat.le_of_ble_eq_true rfl⟩) (vW hP hK hD (rX_3 hK hP)) rfl rfl hl.1 rfl (lv_room (Nat.le_of_ble_eq_true rfl)) dX3_settleByNearest_80 ⟨Nat.le_of_ble_eq_true rfl, Nat.le_of_ble_eq_true rfl⟩) hS (fun q _ h => hFc q h) hFc (fun r33 u t H1 locs ht9 hvm hr33 hB hz1 hk1 hS => ?_)
      obtain ⟨n34, n35, hn34, hn35, hr33, rfl⟩ := hr33
      have hn34 : 0 ≤ n34.toInt ∧ n34.toInt ≤ 2 := hn34
      have hn35 : 0 ≤ n35.toInt ∧ n35.toInt ≤ 2 := hn35
      obtain ⟨hP, hD⟩ := hB
      rw [ht9] at hP
      generalize H1 = H at hP hS ⊢
      have hP : va_P (dC, dI) classes (WX h g ca (u2 (u2 iv 3 3 n34) 3 4 n35) lv fa la) H := hP
      have hD : va_D A (WX h g ca (u2 (u2 iv 3 3 n34) 3 4 n35) lv fa la) := (show va_D _ (WX h g ca (u2 (u2 iv 3 3 n34) 3 4 n35) lv fa la) from hD).weaken (fun _ _ _ h => hFc _ h)
      have hP9 : va_P (dC, dI) classes (WX h g ca (u2 (u2 iv 3 3 n34) 3 4 n35) lv fa la) H := hP
      have hD9 : va_D A (WX h g ca (u2 (u2 iv 3 3 n34) 3 4 n35) lv fa la) := hD
      exact W.iret (v := r33) hx hb hr (fun t ht9 hW => ⟨⟨r33, ((u2 (u2 iv 3 3 n34) 3 4 n35), lv, fa, la), rfl, ⟨n34, n35, (show inb (0, 2) n34 from ⟨by omega, by omega⟩), (show inb (0, 2) n35 from ⟨by omega, by omega⟩), ⟨by omega, by omega⟩, rfl⟩, by rw [ht9]; exact hP9, hD9⟩, hS.F ht9⟩) hS.2.2 dX3_settleByNearest_83
set_option maxHeartbeats 4000000 in
set_option maxRecDepth 100000 in
/-- X2_lookAt -/
theorem c_X2_lookAt (l : Launch) (dC : Nat → ClassId) (dI : Nat → Nat → Nat) (sz : Nat) (h : Nat) (g : Nat → Nat → Nat) (ca : Nat → Nat → ClassId) (iv : Nat → Nat → Int32) (lv : Nat → Nat → Int64) (fa : Nat → Nat → Nat → Int32) (la : Nat → Nat → Nat → Int64) (hI : IX iv fa) (a : Int32) (b : Int32) (d : Int32) : Met l yX2_lookAt (wc yX2_lookAt cX2_lookAt 4 none) ({ frames := 0, cells := 0, slots := 0, locals := 0 } : Room) (pW (dC, dI) classes (WX h g ca iv lv fa la) (TX ca) sz [.ref (g 11 6), .int a, .int b, .int d]) (va_Qv (fun (u : SS) => ∃ (ni_2_3 : Int32) (ni_2_4 : Int32) (ni_2_5 : Int32), u = ((u2 (u2 (u2 iv 2 3 ni_2_3) 2 4 ni_2_4) 2 5 ni_2_5), lv, fa, la)) (bX (dC, dI) h g ca (va_A (WX h g ca iv lv fa la) sz)) (va_A (WX h g ca iv lv fa la) sz)) 0 0 (va_A (WX h g ca iv lv fa la) sz) := by
  refine Met.ofW (cc := cX2_lookAt) (maxL := 4) (ret := none) (by decide) rfl ?_
  intro p e s m args below meth c s₁ B hml hv
  obtain ⟨rfl, hsz, hP, hK, hD0⟩ := hv
  have hx := B.exec
  have hb := B.bytes
  have hr := B.returns
  have ht := tb_tl (atoms_spec (ws := wc yX2_lookAt cX2_lookAt 4 none) B.pre)
  have hown : s.vm.findClass RX2 = some m.cls := findClass_of_methodNamed B.named
  have hlocks := B.notSynchronized
  subst hsz
  have hD := hD0.self (sz := s.heap.size)
  generalize hAe : va_A (WX h g ca iv lv fa la) s.heap.size = A at hD ⊢
  have hA : ∀ q : Nat, s.heap.size ≤ q → A q := fun q h => by rw [← hAe]; exact Or.inr h
  have hS : va_S A s.heap s.heap [] := va_S.rf
  have hl := lv_entry [.ref (g 11 6), .int a, .int b, .int d] (n := 4) (Nat.le_of_ble_eq_true rfl)
  rw [lg_entry_eq]
  generalize (lg_sl [.ref (g 11 6), .int a, .int b, .int d] ++ List.replicate (4 - (lg_sl [.ref (g 11 6), .int a, .int b, .int d]).length) Slot.unset).toArray = ls at hl ⊢
  have hl : lv_has ls 4 [(0, .ref (g 11 6)), (1, .int a), (2, .int b), (3, .int d)] := hl
  refine lv_aload_n hx hb dX2_lookAt_0 rfl (lv_at hl 0 rfl) ?_
  refine lv_iload_n hx hb dX2_lookAt_1 rfl (lv_at hl 1 rfl) ?_
  refine pX_2_3 (v := a) hx hb ht hown hK hP hD hS m_307 dX2_lookAt_2 (fun H locs hP hD hS => ?_)
  refine lv_aload_n hx hb dX2_lookAt_5 rfl (lv_at hl 0 rfl) ?_
  refine lv_iload_n hx hb dX2_lookAt_6 rfl (lv_at hl 2 rfl) ?_
  refine pX_2_4 (v := b) hx hb ht hown hK hP hD hS m_308 dX2_lookAt_7 (fun H locs hP hD hS => ?_)
  refine lv_aload_n hx hb dX2_lookAt_10 rfl (lv_at hl 0 rfl) ?_
  refine lv_iload_n hx hb dX2_lookAt_11 rfl (lv_at hl 3 rfl) ?_
  refine pX_2_5 (v := d) hx hb ht hown hK hP hD hS m_309 dX2_lookAt_12 (fun H locs hP hD hS => ?_)
  have hP9 : va_P (dC, dI) classes (WX h g ca (u2 (u2 (u2 iv 2 3 a) 2 4 b) 2 5 d) lv fa la) H := hP
  have hD9 : va_D A (WX h g ca (u2 (u2 (u2 iv 2 3 a) 2 4 b) 2 5 d) lv fa la) := hD
  exact W.vret hx hb hr (fun t ht9 hW => ⟨⟨((u2 (u2 (u2 iv 2 3 a) 2 4 b) 2 5 d), lv, fa, la), rfl, ⟨a, b, d, rfl⟩, by rw [ht9]; exact hP9, hD9⟩, hS.F ht9⟩) hS.2.2 dX2_lookAt_15
set_option maxHeartbeats 4000000 in
set_option maxRecDepth 100000 in
/-- X2_bothLeft -/
theorem c_X2_bothLeft (l : Launch) (dC : Nat → ClassId) (dI : Nat → Nat → Nat) (h : Nat) (g : Nat → Nat → Nat) (ca : Nat → Nat → ClassId) (iv : Nat → Nat → Int32) (lv : Nat → Nat → Int64) (fa : Nat → Nat → Nat → Int32) (la : Nat → Nat → Nat → Int64) (hI : IX iv fa) : Met l yX2_bothLeft (wc yX2_bothLeft cX2_bothLeft 1 (some .boolean)) ({ frames := 0, cells := 0, slots := 0, locals := 0 } : Room) (pR (dC, dI) classes (WX h g ca iv lv fa la) (TX ca) [.ref (g 11 6)]) (vp_Si (fun r => 0 ≤ r.toInt ∧ r.toInt ≤ 1)) 0 0 (fun _ => False) := by
  refine Met.ofW (cc := cX2_bothLeft) (maxL := 1) (ret := (some .boolean)) (by decide) rfl ?_
  intro p e s m args below meth c s₁ B hml hv
  obtain ⟨rfl, hP, hK⟩ := hv
  have hx := B.exec
  have hb := B.bytes
  have hr := B.returns
  have ht := tb_tl (atoms_spec (ws := wc yX2_bothLeft cX2_bothLeft 1 (some .boolean)) B.pre)
  have hown : s.vm.findClass RX2 = some m.cls := findClass_of_methodNamed B.named
  have hlocks := B.notSynchronized
  have hl := lv_entry [.ref (g 11 6)] (n := 1) (Nat.le_of_ble_eq_true rfl)
  rw [lg_entry_eq]
  generalize (lg_sl [.ref (g 11 6)] ++ List.replicate (1 - (lg_sl [.ref (g 11 6)]).length) Slot.unset).toArray = ls at hl ⊢
  have hl : lv_has ls 1 [(0, .ref (g 11 6))] := hl
  refine lv_aload_n hx hb dX2_bothLeft_0 rfl (lv_at hl 0 rfl) ?_
  refine gX_2_1 hx hb ht hown hK hP m_305 dX2_bothLeft_1 ?_
  refine gX_20_2 hx hb ht hown hK hP m_269 dX2_bothLeft_4 ?_
  refine lv_iconst (v := 0) hx hb dX2_bothLeft_7 (by decide) ?_
  refine lX_20_2 hx hb hK hP (f := (fa 20 2)) rfl (vp_in_iff.mpr (by decide)) dX2_bothLeft_8 ?_
  refine lv_topi (fun v1 ev1 => ?_)
  refine lv_if_le (tgt := 28) hx hb dX2_bothLeft_9 (by decide) (fun c2 => ?_) (fun c2 => ?_)
  · have fc2 := z_le (rfl : (v1).toInt = _) (by decide : (0 : Int32).toInt = 0) c2
    refine lv_iconst (v := 0) hx hb dX2_bothLeft_28 (by decide) ?_
    exact W.zret (v := 0) hx hb hr rfl (fun t ht9 hW => ⟨0, rfl, ⟨by decide, by decide⟩, ht9⟩) (fun q hq => by cases hq) dX2_bothLeft_29
  · have fc2 := z_nle (rfl : (v1).toInt = _) (by decide : (0 : Int32).toInt = 0) c2
    refine lv_aload_n hx hb dX2_bothLeft_12 rfl (lv_at hl 0 rfl) ?_
    refine gX_2_1 hx hb ht hown hK hP m_305 dX2_bothLeft_13 ?_
    refine gX_20_2 hx hb ht hown hK hP m_269 dX2_bothLeft_16 ?_
    refine lv_iconst (v := 1) hx hb dX2_bothLeft_19 (by decide) ?_
    refine lX_20_2 hx hb hK hP (f := (fa 20 2)) rfl (vp_in_iff.mpr (by decide)) dX2_bothLeft_20 ?_
    refine lv_topi (fun v3 ev3 => ?_)
    refine lv_if_le (tgt := 28) hx hb dX2_bothLeft_21 (by decide) (fun c4 => ?_) (fun c4 => ?_)
    · have fc4 := z_le (rfl : (v3).toInt = _) (by decide : (0 : Int32).toInt = 0) c4
      refine lv_iconst (v := 0) hx hb dX2_bothLeft_28 (by decide) ?_
      exact W.zret (v := 0) hx hb hr rfl (fun t ht9 hW => ⟨0, rfl, ⟨by decide, by decide⟩, ht9⟩) (fun q hq => by cases hq) dX2_bothLeft_29
    · have fc4 := z_nle (rfl : (v3).toInt = _) (by decide : (0 : Int32).toInt = 0) c4
      refine lv_iconst (v := 1) hx hb dX2_bothLeft_24 (by decide) ?_
      refine lv_goto (tgt := 29) hx hb dX2_bothLeft_25 (by decide) ?_
      exact W.zret (v := 1) hx hb hr rfl (fun t ht9 hW => ⟨1, rfl, ⟨by decide, by decide⟩, ht9⟩) (fun q hq => by cases hq) dX2_bothLeft_29
set_option maxHeartbeats 4000000 in
set_option maxRecDepth 100000 in
/-- X2_heap -/
theorem c_X2_heap (l : Launch) (dC : Nat → ClassId) (dI : Nat → Nat → Nat) (sz : Nat) (h : Nat) (g : Nat → Nat → Nat) (ca : Nat → Nat → ClassId) (iv : Nat → Nat → Int32) (lv : Nat → Nat → Int64) (fa : Nat → Nat → Nat → Int32) (la : Nat → Nat → Nat → Int64) (hI : IX iv fa) (a : Int32) (b : Int32) (h_a : 0 ≤ a.toInt ∧ a.toInt ≤ 2) (h_b : 0 ≤ b.toInt ∧ b.toInt ≤ 59) : Met l yX2_heap (wc yX2_heap cX2_heap 3 none) ({ frames := 1, cells := 0, slots := 0, locals := 23 } : Room) (pW (dC, dI) classes (WX h g ca iv lv fa la) (TX ca) sz [.ref (g 11 6), .int a, .int b]) (va_Qv (fun (u : SS) => ∃ (na_20_2 : Nat → Int32) (nb_20_0 : Nat → Int64) (nb_20_1 : Nat → Int64), u = (iv, lv, (u2 fa 20 2 na_20_2), (u2 (u2 la 20 0 nb_20_0) 20 1 nb_20_1))) (bX (dC, dI) h g ca (va_A (WX h g ca iv lv fa la) sz)) (va_A (WX h g ca iv lv fa la) sz)) 0 0 (va_A (WX h g ca iv lv fa la) sz) := by
  refine Met.ofW (cc := cX2_heap) (maxL := 3) (ret := none) (by decide) rfl ?_
  intro p e s m args below meth c s₁ B hml hv
  obtain ⟨rfl, hsz, hP, hK, hD0⟩ := hv
  have hx := B.exec
  have hb := B.bytes
  have hr := B.returns
  have ht := tb_tl (atoms_spec (ws := wc yX2_heap cX2_heap 3 none) B.pre)
  have hown : s.vm.findClass RX2 = some m.cls := findClass_of_methodNamed B.named
  have hlocks := B.notSynchronized
  subst hsz
  have hD := hD0.self (sz := s.heap.size)
  generalize hAe : va_A (WX h g ca iv lv fa la) s.heap.size = A at hD ⊢
  have hA : ∀ q : Nat, s.heap.size ≤ q → A q := fun q h => by rw [← hAe]; exact Or.inr h
  have hS : va_S A s.heap s.heap [] := va_S.rf
  have hl := lv_entry [.ref (g 11 6), .int a, .int b] (n := 3) (Nat.le_of_ble_eq_true rfl)
  rw [lg_entry_eq]
  generalize (lg_sl [.ref (g 11 6), .int a, .int b] ++ List.replicate (3 - (lg_sl [.ref (g 11 6), .int a, .int b]).length) Slot.unset).toArray = ls at hl ⊢
  have hl : lv_has ls 3 [(0, .ref (g 11 6)), (1, .int a), (2, .int b)] := hl
  refine lv_aload_n hx hb dX2_heap_0 rfl (lv_at hl 0 rfl) ?_
  refine gX_2_1 hx hb ht hown hK hP m_305 dX2_heap_1 ?_
  refine lv_iload_n hx hb dX2_heap_4 rfl (lv_at hl 1 rfl) ?_
  refine lv_aload_n hx hb dX2_heap_5 rfl (lv_at hl 0 rfl) ?_
  refine gX_2_0 hx hb ht hown hK hP m_304 dX2_heap_6 ?_
  refine lv_iload_n hx hb dX2_heap_9 rfl (lv_at hl 2 rfl) ?_
  refine lv_iconst (v := 3) hx hb dX2_heap_10 (by decide) ?_
  refine vp_callSi (W.runV (As := [.int b, .int 3]) (rest := [.int a, .ref (g 2 1)]) ⟨hx, hb, hml, hown, ht⟩ (c_X10_get l dC dI h g ca iv lv fa la hI b 3 ⟨by omega, by omega⟩ ⟨by decide, by decide⟩) (kV 2 ht m_889 m_486 m_487 m_78 m_488 rfl rfl hd_X10_get_v ⟨Nat.le_of_ble_eq_true rfl, Nat.le_of_ble_eq_true rfl⟩) (vR hP hK (rX_10 hK hP)) rfl rfl hl.1 rfl (lv_room (Nat.le_of_ble_eq_true rfl)) dX2_heap_11 ⟨Nat.le_of_ble_eq_true rfl, Nat.le_of_ble_eq_true rfl⟩) (fun r1 hr1 => ?_)
  refine lv_aload_n hx hb dX2_heap_14 rfl (lv_at hl 0 rfl) ?_
  refine gX_2_0 hx hb ht hown hK hP m_304 dX2_heap_15 ?_
  refine lv_iload_n hx hb dX2_heap_18 rfl (lv_at hl 2 rfl) ?_
  refine lv_iconst (v := 4) hx hb dX2_heap_19 (by decide) ?_
  refine vp_callSi (W.runV (As := [.int b, .int 4]) (rest := [.int r1, .int a, .ref (g 2 1)]) ⟨hx, hb, hml, hown, ht⟩ (c_X10_get l dC dI h g ca iv lv fa la hI b 4 ⟨by omega, by omega⟩ ⟨by decide, by decide⟩) (kV 2 ht m_889 m_486 m_487 m_78 m_488 rfl rfl hd_X10_get_v ⟨Nat.le_of_ble_eq_true rfl, Nat.le_of_ble_eq_true rfl⟩) (vR hP hK (rX_10 hK hP)) rfl rfl hl.1 rfl (lv_room (Nat.le_of_ble_eq_true rfl)) dX2_heap_20 ⟨Nat.le_of_ble_eq_true rfl, Nat.le_of_ble_eq_true rfl⟩) (fun r2 hr2 => ?_)
  have hFc := free_all hD hS hA
  refine va_callv (va_runV (As := [.int a, .int r1, .int r2]) (rest := []) ⟨hx, hb, hml, hown, ht⟩ (c_X7_put_20 l dC dI s.heap.size h g ca iv lv fa la hI a r1 r2 ⟨by omega, by omega⟩) (kV 3 ht m_894 m_578 m_579 m_84 m_580 rfl rfl hd_X7_put_v ⟨Nat.le_of_ble_eq_true rfl, Nat.le_of_ble_eq_true rfl⟩) (vW hP hK hD (rX_20 hK hP)) rfl rfl hl.1 rfl (lv_room (Nat.le_of_ble_eq_true rfl)) dX2_heap_23 ⟨Nat.le_of_ble_eq_true rfl, Nat.le_of_ble_eq_true rfl⟩) hS (fun q _ h => hFc q h) hFc (fun u t H1 locs ht9 hvm hr3 hB hz1 hk1 hS => ?_)
  obtain ⟨n4, n5, n6, rfl⟩ := hr3
  have hn4 : ∀ j, inb (bA 20 2 j) (n4 j) := fun j => full_i _
  obtain ⟨hP, hD⟩ := hB
  rw [ht9] at hP
  generalize H1 = H at hP hS ⊢
  have hP : va_P (dC, dI) classes (WX h g ca iv lv (u2 fa 20 2 n4) (u2 (u2 la 20 0 n5) 20 1 n6)) H := hP
  have hD : va_D A (WX h g ca iv lv (u2 fa 20 2 n4) (u2 (u2 la 20 0 n5) 20 1 n6)) := (show va_D _ (WX h g ca iv lv (u2 fa 20 2 n4) (u2 (u2 la 20 0 n5) 20 1 n6)) from hD).weaken (fun _ _ _ h => hFc _ h)
  have hP9 : va_P (dC, dI) classes (WX h g ca iv lv (u2 fa 20 2 n4) (u2 (u2 la 20 0 n5) 20 1 n6)) H := hP
  have hD9 : va_D A (WX h g ca iv lv (u2 fa 20 2 n4) (u2 (u2 la 20 0 n5) 20 1 n6)) := hD
  exact W.vret hx hb hr (fun t ht9 hW => ⟨⟨(iv, lv, (u2 fa 20 2 n4), (u2 (u2 la 20 0 n5) 20 1 n6)), rfl, ⟨n4, n5, n6, rfl⟩, by rw [ht9]; exact hP9, hD9⟩, hS.F ht9⟩) hS.2.2 dX2_heap_26
set_option maxHeartbeats 4000000 in
set_option maxRecDepth 100000 in
/-- X2_isInDoubt -/
theorem c_X2_isInDoubt (l : Launch) (dC : Nat → ClassId) (dI : Nat → Nat → Nat) (h : Nat) (g : Nat → Nat → Nat) (ca : Nat → Nat → ClassId) (iv : Nat → Nat → Int32) (lv : Nat → Nat → Int64) (fa : Nat → Nat → Nat → Int32) (la : Nat → Nat → Nat → Int64) (hI : IX iv fa) (a : Int32) (h_a : 0 ≤ a.toInt ∧ a.toInt ≤ 59) : Met l yX2_isInDoubt (wc yX2_isInDoubt cX2_isInDoubt 2 (some .boolean)) ({ frames := 2, cells := 0, slots := 0, locals := 45 } : Room) (pR (dC, dI) classes (WX h g ca iv lv fa la) (TX ca) [.ref (g 11 6), .int a]) (vp_Si (fun r => 0 ≤ r.toInt ∧ r.toInt ≤ 1)) 0 0 (fun _ => False) := by
  refine Met.ofW (cc := cX2_isInDoubt) (maxL := 2) (ret := (some .boolean)) (by decide) rfl ?_
  intro p e s m args below meth c s₁ B hml hv
  obtain ⟨rfl, hP, hK⟩ := hv
  have hx := B.exec
  have hb := B.bytes
  have hr := B.returns
  have ht := tb_tl (atoms_spec (ws := wc yX2_isInDoubt cX2_isInDoubt 2 (some .boolean)) B.pre)
  have hown : s.vm.findClass RX2 = some m.cls := findClass_of_methodNamed B.named
  have hlocks := B.notSynchronized
  have hl := lv_entry [.ref (g 11 6), .int a] (n := 2) (Nat.le_of_ble_eq_true rfl)
  rw [lg_entry_eq]
  generalize (lg_sl [.ref (g 11 6), .int a] ++ List.replicate (2 - (lg_sl [.ref (g 11 6), .int a]).length) Slot.unset).toArray = ls at hl ⊢
  have hl : lv_has ls 2 [(0, .ref (g 11 6)), (1, .int a)] := hl
  refine lv_aload_n hx hb dX2_isInDoubt_0 rfl (lv_at hl 0 rfl) ?_
  refine gX_2_0 hx hb ht hown hK hP m_304 dX2_isInDoubt_1 ?_
  refine lv_iload_n hx hb dX2_isInDoubt_4 rfl (lv_at hl 1 rfl) ?_
  refine lv_aload_n hx hb dX2_isInDoubt_5 rfl (lv_at hl 0 rfl) ?_
  refine gX_2_3 hx hb ht hown hK hP m_307 (v := (iv 2 3)) rfl dX2_isInDoubt_6 ?_
  refine lv_iconst (v := 0) hx hb dX2_isInDoubt_9 (by decide) ?_
  refine vp_callSi (W.runV (As := [.int a, .int (iv 2 3), .int 0]) (rest := []) ⟨hx, hb, hml, hown, ht⟩ (c_X10_isOf l dC dI h g ca iv lv fa la hI a (iv 2 3) 0 ⟨by omega, by omega⟩) (kV 3 ht m_887 m_482 m_483 m_78 m_484 rfl rfl hd_X10_isOf_v ⟨Nat.le_of_ble_eq_true rfl, Nat.le_of_ble_eq_true rfl⟩) (vR hP hK (rX_10 hK hP)) rfl rfl hl.1 rfl (lv_room (Nat.le_of_ble_eq_true rfl)) dX2_isInDoubt_10 ⟨Nat.le_of_ble_eq_true rfl, Nat.le_of_ble_eq_true rfl⟩) (fun r1 hr1 => ?_)
  refine lv_if_ne (tgt := 32) hx hb dX2_isInDoubt_13 (by decide) (fun c2 => ?_) (fun c2 => ?_)
  · have fc2 := z_ne (rfl : (r1).toInt = _) (by decide : (0 : Int32).toInt = 0) c2
    refine lv_aload_n hx hb dX2_isInDoubt_32 rfl (lv_at hl 0 rfl) ?_
    refine gX_2_0 hx hb ht hown hK hP m_304 dX2_isInDoubt_33 ?_
    refine lv_iload_n hx hb dX2_isInDoubt_36 rfl (lv_at hl 1 rfl) ?_
    refine lv_aload_n hx hb dX2_isInDoubt_37 rfl (lv_at hl 0 rfl) ?_
    refine gX_2_4 hx hb ht hown hK hP m_308 (v := (iv 2 4)) rfl dX2_isInDoubt_38 ?_
    refine vp_callSi (W.runV (As := [.int a, .int (iv 2 4)]) (rest := []) ⟨hx, hb, hml, hown, ht⟩ (c_X10_counts l dC dI h g ca iv lv fa la hI a (iv 2 4) ⟨by omega, by omega⟩) (kV 2 ht m_888 m_574 m_575 m_78 m_576 rfl rfl hd_X10_counts_v ⟨Nat.le_of_ble_eq_true rfl, Nat.le_of_ble_eq_true rfl⟩) (vR hP hK (rX_10 hK hP)) rfl rfl hl.1 rfl (lv_room (Nat.le_of_ble_eq_true rfl)) dX2_isInDoubt_41 ⟨Nat.le_of_ble_eq_true rfl, Nat.le_of_ble_eq_true rfl⟩) (fun r3 hr3 => ?_)
    refine lv_if_eq (tgt := 51) hx hb dX2_isInDoubt_44 (by decide) (fun c4 => ?_) (fun c4 => ?_)
    · have fc4 := z_eq (rfl : (r3).toInt = _) (by decide : (0 : Int32).toInt = 0) c4
      refine lv_iconst (v := 0) hx hb dX2_isInDoubt_51 (by decide) ?_
      exact W.zret (v := 0) hx hb hr rfl (fun t ht9 hW => ⟨0, rfl, ⟨by decide, by decide⟩, ht9⟩) (fun q hq => by cases hq) dX2_isInDoubt_52
    · have fc4 := z_ne (rfl : (r3).toInt = _) (by decide : (0 : Int32).toInt = 0) c4
      refine lv_iconst (v := 1) hx hb dX2_isInDoubt_47 (by decide) ?_
      refine lv_goto (tgt := 52) hx hb dX2_isInDoubt_48 (by decide) ?_
      exact W.zret (v := 1) hx hb hr rfl (fun t ht9 hW => ⟨1, rfl, ⟨by decide, by decide⟩, ht9⟩) (fun q hq => by cases hq) dX2_isInDoubt_52
  · have fc2 := z_eq (rfl : (r1).toInt = _) (by decide : (0 : Int32).toInt = 0) c2
    refine lv_aload_n hx hb dX2_isInDoubt_16 rfl (lv_at hl 0 rfl) ?_
    refine gX_2_0 hx hb ht hown hK hP m_304 dX2_isInDoubt_17 ?_
    refine lv_iload_n hx hb dX2_isInDoubt_20 rfl (lv_at hl 1 rfl) ?_
    refine lv_aload_n hx hb dX2_isInDoubt_21 rfl (lv_at hl 0 rfl) ?_
    refine gX_2_3 hx hb ht hown hK hP m_307 (v := (iv 2 3)) rfl dX2_isInDoubt_22 ?_
    refine lv_iconst (v := 1) hx hb dX2_isInDoubt_25 (by decide) ?_
    refine vp_callSi (W.runV (As := [.int a, .int (iv 2 3), .int 1]) (rest := []) ⟨hx, hb, hml, hown, ht⟩ (c_X10_isOf l dC dI h g ca iv lv fa la hI a (iv 2 3) 1 ⟨by omega, by omega⟩) (kV 3 ht m_887 m_482 m_483 m_78 m_484 rfl rfl hd_X10_isOf_v ⟨Nat.le_of_ble_eq_true rfl, Nat.le_of_ble_eq_true rfl⟩) (vR hP hK (rX_10 hK hP)) rfl rfl hl.1 rfl (lv_room (Nat.le_of_ble_eq_true rfl)) dX2_isInDoubt_26 ⟨Nat.le_of_ble_eq_true rfl, Nat.le_of_ble_eq_true rfl⟩) (fun r5 hr5 => ?_)
    refine lv_if_eq (tgt := 51) hx hb dX2_isInDoubt_29 (by decide) (fun c6 => ?_) (fun c6 => ?_)
    · have fc6 := z_eq (rfl : (r5).toInt = _) (by decide : (0 : Int32).toInt = 0) c6
      refine lv_iconst (v := 0) hx hb dX2_isInDoubt_51 (by decide) ?_
      exact W.zret (v := 0) hx hb hr rfl (fun t ht9 hW => ⟨0, rfl, ⟨by decide, by decide⟩, ht9⟩) (fun q hq => by cases hq) dX2_isInDoubt_52
    · have fc6 := z_ne (rfl : (r5).toInt = _) (by decide : (0 : Int32).toInt = 0) c6
      refine lv_aload_n hx hb dX2_isInDoubt_32 rfl (lv_at hl 0 rfl) ?_
      refine gX_2_0 hx hb ht hown hK hP m_304 dX2_isInDoubt_33 ?_
      refine lv_iload_n hx hb dX2_isInDoubt_36 rfl (lv_at hl 1 rfl) ?_
      refine lv_aload_n hx hb dX2_isInDoubt_37 rfl (lv_at hl 0 rfl) ?_
      refine gX_2_4 hx hb ht hown hK hP m_308 (v := (iv 2 4)) rfl dX2_isInDoubt_38 ?_
      refine vp_callSi (W.runV (As := [.int a, .int (iv 2 4)]) (rest := []) ⟨hx, hb, hml, hown, ht⟩ (c_X10_counts l dC dI h g ca iv lv fa la hI a (iv 2 4) ⟨by omega, by omega⟩) (kV 2 ht m_888 m_574 m_575 m_78 m_576 rfl rfl hd_X10_counts_v ⟨Nat.le_of_ble_eq_true rfl, Nat.le_of_ble_eq_true rfl⟩) (vR hP hK (rX_10 hK hP)) rfl rfl hl.1 rfl (lv_room (Nat.le_of_ble_eq_true rfl)) dX2_isInDoubt_41 ⟨Nat.le_of_ble_eq_true rfl, Nat.le_of_ble_eq_true rfl⟩) (fun r7 hr7 => ?_)
      refine lv_if_eq (tgt := 51) hx hb dX2_isInDoubt_44 (by decide) (fun c8 => ?_) (fun c8 => ?_)
      · have fc8 := z_eq (rfl : (r7).toInt = _) (by decide : (0 : Int32).toInt = 0) c8
        refine lv_iconst (v := 0) hx hb dX2_isInDoubt_51 (by decide) ?_
        exact W.zret (v := 0) hx hb hr rfl (fun t ht9 hW => ⟨0, rfl, ⟨by decide, by decide⟩, ht9⟩) (fun q hq => by cases hq) dX2_isInDoubt_52
      · have fc8 := z_ne (rfl : (r7).toInt = _) (by decide : (0 : Int32).toInt = 0) c8
        refine lv_iconst (v := 1) hx hb dX2_isInDoubt_47 (by decide) ?_
        refine lv_goto (tgt := 52) hx hb dX2_isInDoubt_48 (by decide) ?_
        exact W.zret (v := 1) hx hb hr rfl (fun t ht9 hW => ⟨1, rfl, ⟨by decide, by decide⟩, ht9⟩) (fun q hq => by cases hq) dX2_isInDoubt_52
set_option maxHeartbeats 4000000 in
set_option maxRecDepth 100000 in
/-- X2_gatherWithout -/
theorem c_X2_gatherWithout (l : Launch) (dC : Nat → ClassId) (dI : Nat → Nat → Nat) (sz : Nat) (h : Nat) (g : Nat → Nat → Nat) (ca : Nat → Nat → ClassId) (iv : Nat → Nat → Int32) (lv : Nat → Nat → Int64) (fa : Nat → Nat → Nat → Int32) (la : Nat → Nat → Nat → Int64) (hI : IX iv fa) (a : Int32) (b : Int32) (h_a : 0 ≤ a.toInt ∧ a.toInt ≤ 9) : Met l yX2_gatherWithout (wc yX2_gatherWithout cX2_gatherWithout 6 (some .int)) ({ frames := 3, cells := 0, slots := 0, locals := 66 } : Room) (pW (dC, dI) classes (WX h g ca iv lv fa la) (TX ca) sz [.ref (g 11 6), .int a, .int b]) (va_Qi (fun r (u : SS) => ∃ (na_20_2 : Nat → Int32) (nb_20_0 : Nat → Int64) (nb_20_1 : Nat → Int64), (True) ∧ u = (iv, lv, (u2 fa 20 2 na_20_2), (u2 (u2 la 20 0 nb_20_0) 20 1 nb_20_1))) (bX (dC, dI) h g ca (va_A (WX h g ca iv lv fa la) sz)) (va_A (WX h g ca iv lv fa la) sz)) 0 0 (va_A (WX h g ca iv lv fa la) sz) := by
  refine Met.ofW (cc := cX2_gatherWithout) (maxL := 6) (ret := (some .int)) (by decide) rfl ?_
  intro p e s m args below meth c s₁ B hml hv
  obtain ⟨rfl, hsz, hP, hK, hD0⟩ := hv
  have hx := B.exec
  have hb := B.bytes
  have hr := B.returns
  have ht := tb_tl (atoms_spec (ws := wc yX2_gatherWithout cX2_gatherWithout 6 (some .int)) B.pre)
  have hown : s.vm.findClass RX2 = some m.cls := findClass_of_methodNamed B.named
  have hlocks := B.notSynchronized
  subst hsz
  have hD := hD0.self (sz := s.heap.size)
  generalize hAe : va_A (WX h g ca iv lv fa la) s.heap.size = A at hD ⊢
  have hA : ∀ q : Nat, s.heap.size ≤ q → A q := fun q h => by rw [← hAe]; exact Or.inr h
  have hS : va_S A s.heap s.heap [] := va_S.rf
  have hl := lv_entry [.ref (g 11 6), .int a, .int b] (n := 6) (Nat.le_of_ble_eq_true rfl)
  rw [lg_entry_eq]
  generalize (lg_sl [.ref (g 11 6), .int a, .int b] ++ List.replicate (6 - (lg_sl [.ref (g 11 6), .int a, .int b]).length) Slot.unset).toArray = ls at hl ⊢
  have hl : lv_has ls 6 [(0, .ref (g 11 6)), (1, .int a), (2, .int b)] := hl
  refine lv_aload_n hx hb dX2_gatherWithout_0 rfl (lv_at hl 0 rfl) ?_
  refine gX_2_1 hx hb ht hown hK hP m_305 dX2_gatherWithout_1 ?_
  have hFc := free_all hD hS hA
  refine va_callv (va_runV (As := []) (rest := []) ⟨hx, hb, hml, hown, ht⟩ (c_X7_clear_20 l dC dI s.heap.size h g ca iv lv fa la hI) (kV 0 ht m_882 m_569 m_570 m_84 m_571 rfl rfl hd_X7_clear_v ⟨Nat.le_of_ble_eq_true rfl, Nat.le_of_ble_eq_true rfl⟩) (vW hP hK hD (rX_20 hK hP)) rfl rfl hl.1 rfl (lv_room (Nat.le_of_ble_eq_true rfl)) dX2_gatherWithout_4 ⟨Nat.le_of_ble_eq_true rfl, Nat.le_of_ble_eq_true rfl⟩) hS (fun q _ h => hFc q h) hFc (fun u t H1 locs ht9 hvm hr1 hB hz1 hk1 hS => ?_)
  obtain ⟨n2, n3, n4, rfl⟩ := hr1
  have hn2 : ∀ j, inb (bA 20 2 j) (n2 j) := fun j => full_i _
  obtain ⟨hP, hD⟩ := hB
  rw [ht9] at hP
  generalize H1 = H at hP hS ⊢
  have hP : va_P (dC, dI) classes (WX h g ca iv lv (u2 fa 20 2 n2) (u2 (u2 la 20 0 n3) 20 1 n4)) H := hP
  have hD : va_D A (WX h g ca iv lv (u2 fa 20 2 n2) (u2 (u2 la 20 0 n3) 20 1 n4)) := (show va_D _ (WX h g ca iv lv (u2 fa 20 2 n2) (u2 (u2 la 20 0 n3) 20 1 n4)) from hD).weaken (fun _ _ _ h => hFc _ h)
  refine lv_iconst (v := 0) hx hb dX2_gatherWithout_7 (by decide) ?_
  refine lv_istore_n (lv' := [(3, .int 0), (0, .ref (g 11 6)), (1, .int a), (2, .int b)]) hx hb dX2_gatherWithout_8 rfl hl (by decide) rfl (fun ls hl => ?_)
  refine lv_iconst (v := 0) hx hb dX2_gatherWithout_9 (by decide) ?_
  refine lv_istore (lv' := [(4, .int 0), (3, .int 0), (0, .ref (g 11 6)), (1, .int a), (2, .int b)]) hx hb dX2_gatherWithout_10 hl (by decide) rfl (fun ls hl => ?_)
  have lp1306 : ∀ (nn1306 : Nat) (x1305_4 : Int32) (x1305_3 : Int32) (w1305_a_20_2 : Nat → Int32) (w1305_b_20_0 : Nat → Int64) (w1305_b_20_1 : Nat → Int64), 0 ≤ x1305_4.toInt ∧ x1305_4.toInt ≤ 60 → (∀ j, inb (bA 20 2 j) (w1305_a_20_2 j)) → 60 - x1305_4.toInt < (nn1306 : Int) → ∀ (H : Heap) (locs : List Loc), ∀ (ls : Array Slot), va_P (dC, dI) classes (WX h g ca iv lv (u2 fa 20 2 w1305_a_20_2) (u2 (u2 la 20 0 w1305_b_20_0) 20 1 w1305_b_20_1)) H → va_D A (WX h g ca iv lv (u2 fa 20 2 w1305_a_20_2) (u2 (u2 la 20 0 w1305_b_20_0) 20 1 w1305_b_20_1)) → va_S A s.heap H locs → lv_has ls 6 [(4, .int x1305_4), (3, .int x1305_3), (0, .ref (g 11 6)), (1, .int a), (2, .int b)] → W p l e ({ frames := 3, cells := 0, slots := 0, locals := 66 } : Room) s m ([.ref (g 11 6), .int a, .int b] : List Value).toArray below meth c H locs 0 0 (MQ below (va_Qi (fun r (u : SS) => ∃ (na_20_2 : Nat → Int32) (nb_20_0 : Nat → Int64) (nb_20_1 : Nat → Int64), (True) ∧ u = (iv, lv, (u2 fa 20 2 na_20_2), (u2 (u2 la 20 0 nb_20_0) 20 1 nb_20_1))) (bX (dC, dI) h g ca A) A) ([.ref (g 11 6), .int a, .int b] : List Value).toArray s 0 0 A) (F0 m 12 ls []) := by
    intro nn1306
    induction nn1306 with
    | zero => intro x1305_4 x1305_3 w1305_a_20_2 w1305_b_20_0 w1305_b_20_1 hx1305_4 hw1305_a_20_2 hm1306; exfalso; omega
    | succ nn1306 ih1306 =>
      intro x1305_4 x1305_3 w1305_a_20_2 w1305_b_20_0 w1305_b_20_1 hx1305_4 hw1305_a_20_2 hm1306 H locs ls hP hD hS hl
      refine lv_iload hx hb dX2_gatherWithout_12 (lv_at hl 0 rfl) ?_
      refine lv_aload_n hx hb dX2_gatherWithout_14 rfl (lv_at hl 2 rfl) ?_
      refine gX_2_0 hx hb ht hown hK hP m_304 dX2_gatherWithout_15 ?_
      have i_10_1 : 0 ≤ (iv 10 1).toInt ∧ (iv 10 1).toInt ≤ 60 := hI.1 10 1
      refine gX_10_1 hx hb ht hown hK hP m_115 (v := (iv 10 1)) rfl dX2_gatherWithout_18 ?_
      refine lv_icmp_ge (tgt := 93) hx hb dX2_gatherWithout_21 (by decide) (fun c1307 => ?_) (fun c1307 => ?_)
      · have fc1307 := z_le (rfl : ((iv 10 1)).toInt = _) (rfl : (x1305_4).toInt = _) c1307
        refine lv_iload_n hx hb dX2_gatherWithout_93 rfl (lv_at hl 1 rfl) ?_
        have hP9 : va_P (dC, dI) classes (WX h g ca iv lv (u2 fa 20 2 w1305_a_20_2) (u2 (u2 la 20 0 w1305_b_20_0) 20 1 w1305_b_20_1)) H := hP
        have hD9 : va_D A (WX h g ca iv lv (u2 fa 20 2 w1305_a_20_2) (u2 (u2 la 20 0 w1305_b_20_0) 20 1 w1305_b_20_1)) := hD
        exact W.iret (v := x1305_3) hx hb hr (fun t ht9 hW => ⟨⟨x1305_3, (iv, lv, (u2 fa 20 2 w1305_a_20_2), (u2 (u2 la 20 0 w1305_b_20_0) 20 1 w1305_b_20_1)), rfl, ⟨w1305_a_20_2, w1305_b_20_0, w1305_b_20_1, trivial, rfl⟩, by rw [ht9]; exact hP9, hD9⟩, hS.F ht9⟩) hS.2.2 dX2_gatherWithout_94
      · have fc1307 := z_nle (rfl : ((iv 10 1)).toInt = _) (rfl : (x1305_4).toInt = _) c1307
        refine lv_aload_n hx hb dX2_gatherWithout_24 rfl (lv_at hl 2 rfl) ?_
        refine lv_iload hx hb dX2_gatherWithout_25 (lv_at hl 0 rfl) ?_
        refine vp_callSi (W.runV (As := [.int x1305_4]) (rest := []) ⟨hx, hb, hml, hown, ht⟩ (c_X2_isInDoubt l dC dI h g ca iv lv (u2 fa 20 2 w1305_a_20_2) (u2 (u2 la 20 0 w1305_b_20_0) 20 1 w1305_b_20_1) (IX_a (c := 20) (k := 2) hI hw1305_a_20_2) x1305_4 ⟨by omega, by omega⟩) (kV 1 ht m_883 m_885 m_32 m_85 m_886 rfl rfl hd_X2_isInDoubt_v ⟨Nat.le_of_ble_eq_true rfl, Nat.le_of_ble_eq_true rfl⟩) (vR hP hK (rX_2 hK hP)) rfl rfl hl.1 rfl (lv_room (Nat.le_of_ble_eq_true rfl)) dX2_gatherWithout_27 ⟨Nat.le_of_ble_eq_true rfl, Nat.le_of_ble_eq_true rfl⟩) (fun r1308 hr1308 => ?_)
        refine lv_if_ne (tgt := 36) hx hb dX2_gatherWithout_30 (by decide) (fun c1309 => ?_) (fun c1309 => ?_)
        · have fc1309 := z_ne (rfl : (r1308).toInt = _) (by decide : (0 : Int32).toInt = 0) c1309
          refine lv_iload_n hx hb dX2_gatherWithout_36 rfl (lv_at hl 3 rfl) ?_
          refine lv_bipush (v := 9) hx hb dX2_gatherWithout_37 (by decide) ?_
          refine lv_icmp_ne (tgt := 47) hx hb dX2_gatherWithout_39 (by decide) (fun c1310 => ?_) (fun c1310 => ?_)
          · have fc1310 := z_ne (rfl : (a).toInt = _) (by decide : (9 : Int32).toInt = 9) c1310
            refine lv_aload_n hx hb dX2_gatherWithout_47 rfl (lv_at hl 2 rfl) ?_
            refine gX_2_0 hx hb ht hown hK hP m_304 dX2_gatherWithout_48 ?_
            refine lv_iload hx hb dX2_gatherWithout_51 (lv_at hl 0 rfl) ?_
            refine lv_iload_n hx hb dX2_gatherWithout_53 rfl (lv_at hl 3 rfl) ?_
            refine vp_callSi (W.runV (As := [.int x1305_4, .int a]) (rest := []) ⟨hx, hb, hml, hown, ht⟩ (c_X10_get l dC dI h g ca iv lv (u2 fa 20 2 w1305_a_20_2) (u2 (u2 la 20 0 w1305_b_20_0) 20 1 w1305_b_20_1) (IX_a (c := 20) (k := 2) hI hw1305_a_20_2) x1305_4 a ⟨by omega, by omega⟩ ⟨by omega, by omega⟩) (kV 2 ht m_889 m_486 m_487 m_78 m_488 rfl rfl hd_X10_get_v ⟨Nat.le_of_ble_eq_true rfl, Nat.le_of_ble_eq_true rfl⟩) (vR hP hK (rX_10 hK hP)) rfl rfl hl.1 rfl (lv_room (Nat.le_of_ble_eq_true rfl)) dX2_gatherWithout_54 ⟨Nat.le_of_ble_eq_true rfl, Nat.le_of_ble_eq_true rfl⟩) (fun r1311 hr1311 => ?_)
            refine lv_istore (lv' := [(5, .int r1311), (4, .int x1305_4), (3, .int x1305_3), (0, .ref (g 11 6)), (1, .int a), (2, .int b)]) hx hb dX2_gatherWithout_57 hl (by decide) rfl (fun ls hl => ?_)
            refine lv_iload hx hb dX2_gatherWithout_59 (lv_at hl 0 rfl) ?_
            refine lv_iload_n hx hb dX2_gatherWithout_61 rfl (lv_at hl 5 rfl) ?_
            refine lv_icmp_ne (tgt := 71) hx hb dX2_gatherWithout_62 (by decide) (fun c1312 => ?_) (fun c1312 => ?_)
            · have fc1312 := z_ne (rfl : (r1311).toInt = _) (rfl : (b).toInt = _) c1312
              refine lv_aload_n hx hb dX2_gatherWithout_71 rfl (lv_at hl 3 rfl) ?_
              refine lv_aload_n hx hb dX2_gatherWithout_72 rfl (lv_at hl 3 rfl) ?_
              refine gX_2_0 hx hb ht hown hK hP m_304 dX2_gatherWithout_73 ?_
              refine lv_iload hx hb dX2_gatherWithout_76 (lv_at hl 1 rfl) ?_
              refine lv_iconst (v := 1) hx hb dX2_gatherWithout_78 (by decide) ?_
              refine vp_callSi (W.runV (As := [.int x1305_4, .int 1]) (rest := [.ref (g 11 6)]) ⟨hx, hb, hml, hown, ht⟩ (c_X10_get_look l dC dI h g ca iv lv (u2 fa 20 2 w1305_a_20_2) (u2 (u2 la 20 0 w1305_b_20_0) 20 1 w1305_b_20_1) (IX_a (c := 20) (k := 2) hI hw1305_a_20_2) x1305_4 ⟨by omega, by omega⟩) (kV 2 ht m_889 m_486 m_487 m_78 m_488 rfl rfl hd_X10_get_v ⟨Nat.le_of_ble_eq_true rfl, Nat.le_of_ble_eq_true rfl⟩) (vR hP hK (rX_10 hK hP)) rfl rfl hl.1 rfl (lv_room (Nat.le_of_ble_eq_true rfl)) dX2_gatherWithout_79 ⟨Nat.le_of_ble_eq_true rfl, Nat.le_of_ble_eq_true rfl⟩) (fun r1313 hr1313 => ?_)
              refine lv_iload hx hb dX2_gatherWithout_82 (lv_at hl 1 rfl) ?_
              have hFc := free_all hD hS hA
              refine va_callv (va_runV (As := [.int r1313, .int x1305_4]) (rest := []) ⟨hx, hb, hml, hown, ht⟩ (c_X2_heap l dC dI H.size h g ca iv lv (u2 fa 20 2 w1305_a_20_2) (u2 (u2 la 20 0 w1305_b_20_0) 20 1 w1305_b_20_1) (IX_a (c := 20) (k := 2) hI hw1305_a_20_2) r1313 x1305_4 ⟨by omega, by omega⟩ ⟨by omega, by omega⟩) (kV 2 ht m_890 m_892 m_33 m_85 m_893 rfl rfl hd_X2_heap_v ⟨Nat.le_of_ble_eq_true rfl, Nat.le_of_ble_eq_true rfl⟩) (vW hP hK hD (rX_2 hK hP)) rfl rfl hl.1 rfl (lv_room (Nat.le_of_ble_eq_true rfl)) dX2_gatherWithout_84 ⟨Nat.le_of_ble_eq_true rfl, Nat.le_of_ble_eq_true rfl⟩) hS (fun q _ h => hFc q h) hFc (fun u t H1 locs ht9 hvm hr1314 hB hz1 hk1 hS => ?_)
              obtain ⟨n1315, n1316, n1317, rfl⟩ := hr1314
              have hn1315 : ∀ j, inb (bA 20 2 j) (n1315 j) := fun j => full_i _
              obtain ⟨hP, hD⟩ := hB
              rw [ht9] at hP
              generalize H1 = H at hP hS ⊢
              have hP : va_P (dC, dI) classes (WX h g ca iv lv (u2 fa 20 2 n1315) (u2 (u2 la 20 0 n1316) 20 1 n1317)) H := hP
              have hD : va_D A (WX h g ca iv lv (u2 fa 20 2 n1315) (u2 (u2 la 20 0 n1316) 20 1 n1317)) := (show va_D _ (WX h g ca iv lv (u2 fa 20 2 n1315) (u2 (u2 la 20 0 n1316) 20 1 n1317)) from hD).weaken (fun _ _ _ h => hFc _ h)
              obtain ⟨v1318, ev1318⟩ : ∃ y : Int32, y = x1305_4 + 1 := ⟨_, rfl⟩
              have tv1318 := z_add ev1318 rfl (by decide : (1 : Int32).toInt = 1) (by omega) (by omega)
              refine lv_iinc (v := v1318) (lv' := [(4, .int v1318), (5, .int r1311), (3, .int x1305_3), (0, .ref (g 11 6)), (1, .int a), (2, .int b)]) hx hb dX2_gatherWithout_87 hl (k := 1) rfl (by rw [ev1318]; rfl) (by decide) rfl (fun ls hl => ?_)
              refine lv_goto (tgt := 12) hx hb dX2_gatherWithout_90 (by decide) ?_
              exact ih1306 v1318 x1305_3 n1315 n1316 n1317 ⟨by omega, by omega⟩ hn1315 (by omega) _ _ ls hP hD hS (lv_sub hl [0, 2, 3, 4, 5] rfl)
            · have fc1312 := z_eq (rfl : (r1311).toInt = _) (rfl : (b).toInt = _) c1312
              obtain ⟨v1319, ev1319⟩ : ∃ y : Int32, y = x1305_3 + 1 := ⟨_, rfl⟩
              refine lv_iinc (v := v1319) (lv' := [(3, .int v1319), (5, .int r1311), (4, .int x1305_4), (0, .ref (g 11 6)), (1, .int a), (2, .int b)]) hx hb dX2_gatherWithout_65 hl (k := 2) rfl (by rw [ev1319]; rfl) (by decide) rfl (fun ls hl => ?_)
              refine lv_goto (tgt := 87) hx hb dX2_gatherWithout_68 (by decide) ?_
              obtain ⟨v1320, ev1320⟩ : ∃ y : Int32, y = x1305_4 + 1 := ⟨_, rfl⟩
              have tv1320 := z_add ev1320 rfl (by decide : (1 : Int32).toInt = 1) (by omega) (by omega)
              refine lv_iinc (v := v1320) (lv' := [(4, .int v1320), (3, .int v1319), (5, .int r1311), (0, .ref (g 11 6)), (1, .int a), (2, .int b)]) hx hb dX2_gatherWithout_87 hl (k := 2) rfl (by rw [ev1320]; rfl) (by decide) rfl (fun ls hl => ?_)
              refine lv_goto (tgt := 12) hx hb dX2_gatherWithout_90 (by decide) ?_
              exact ih1306 v1320 v1319 w1305_a_20_2 w1305_b_20_0 w1305_b_20_1 ⟨by omega, by omega⟩ hw1305_a_20_2 (by omega) _ _ ls hP hD hS (lv_sub hl [0, 1, 3, 4, 5] rfl)
          · have fc1310 := z_eq (rfl : (a).toInt = _) (by decide : (9 : Int32).toInt = 9) c1310
            refine lv_iload hx hb dX2_gatherWithout_42 (lv_at hl 0 rfl) ?_
            refine lv_goto (tgt := 57) hx hb dX2_gatherWithout_44 (by decide) ?_
            refine lv_istore (lv' := [(5, .int x1305_4), (4, .int x1305_4), (3, .int x1305_3), (0, .ref (g 11 6)), (1, .int a), (2, .int b)]) hx hb dX2_gatherWithout_57 hl (by decide) rfl (fun ls hl => ?_)
            refine lv_iload hx hb dX2_gatherWithout_59 (lv_at hl 0 rfl) ?_
            refine lv_iload_n hx hb dX2_gatherWithout_61 rfl (lv_at hl 5 rfl) ?_
            refine lv_icmp_ne (tgt := 71) hx hb dX2_gatherWithout_62 (by decide) (fun c1321 => ?_) (fun c1321 => ?_)
            · have fc1321 := z_ne (rfl : (x1305_4).toInt = _) (rfl : (b).toInt = _) c1321
              refine lv_aload_n hx hb dX2_gatherWithout_71 rfl (lv_at hl 3 rfl) ?_
              refine lv_aload_n hx hb dX2_gatherWithout_72 rfl (lv_at hl 3 rfl) ?_
              refine gX_2_0 hx hb ht hown hK hP m_304 dX2_gatherWithout_73 ?_
              refine lv_iload hx hb dX2_gatherWithout_76 (lv_at hl 1 rfl) ?_
              refine lv_iconst (v := 1) hx hb dX2_gatherWithout_78 (by decide) ?_
              refine vp_callSi (W.runV (As := [.int x1305_4, .int 1]) (rest := [.ref (g 11 6)]) ⟨hx, hb, hml, hown, ht⟩ (c_X10_get_look l dC dI h g ca iv lv (u2 fa 20 2 w1305_a_20_2) (u2 (u2 la 20 0 w1305_b_20_0) 20 1 w1305_b_20_1) (IX_a (c := 20) (k := 2) hI hw1305_a_20_2) x1305_4 ⟨by omega, by omega⟩) (kV 2 ht m_889 m_486 m_487 m_78 m_488 rfl rfl hd_X10_get_v ⟨Nat.le_of_ble_eq_true rfl, Nat.le_of_ble_eq_true rfl⟩) (vR hP hK (rX_10 hK hP)) rfl rfl hl.1 rfl (lv_room (Nat.le_of_ble_eq_true rfl)) dX2_gatherWithout_79 ⟨Nat.le_of_ble_eq_true rfl, Nat.le_of_ble_eq_true rfl⟩) (fun r1322 hr1322 => ?_)
              refine lv_iload hx hb dX2_gatherWithout_82 (lv_at hl 1 rfl) ?_
              have hFc := free_all hD hS hA
              refine va_callv (va_runV (As := [.int r1322, .int x1305_4]) (rest := []) ⟨hx, hb, hml, hown, ht⟩ (c_X2_heap l dC dI H.size h g ca iv lv (u2 fa 20 2 w1305_a_20_2) (u2 (u2 la 20 0 w1305_b_20_0) 20 1 w1305_b_20_1) (IX_a (c := 20) (k := 2) hI hw1305_a_20_2) r1322 x1305_4 ⟨by omega, by omega⟩ ⟨by omega, by omega⟩) (kV 2 ht m_890 m_892 m_33 m_85 m_893 rfl rfl hd_X2_heap_v ⟨Nat.le_of_ble_eq_true rfl, Nat.le_of_ble_eq_true rfl⟩) (vW hP hK hD (rX_2 hK hP)) rfl rfl hl.1 rfl (lv_room (Nat.le_of_ble_eq_true rfl)) dX2_gatherWithout_84 ⟨Nat.le_of_ble_eq_true rfl, Nat.le_of_ble_eq_true rfl⟩) hS (fun q _ h => hFc q h) hFc (fun u t H1 locs ht9 hvm hr1323 hB hz1 hk1 hS => ?_)
              obtain ⟨n1324, n1325, n1326, rfl⟩ := hr1323
              have hn1324 : ∀ j, inb (bA 20 2 j) (n1324 j) := fun j => full_i _
              obtain ⟨hP, hD⟩ := hB
              rw [ht9] at hP
              generalize H1 = H at hP hS ⊢
              have hP : va_P (dC, dI) classes (WX h g ca iv lv (u2 fa 20 2 n1324) (u2 (u2 la 20 0 n1325) 20 1 n1326)) H := hP
              have hD : va_D A (WX h g ca iv lv (u2 fa 20 2 n1324) (u2 (u2 la 20 0 n1325) 20 1 n1326)) := (show va_D _ (WX h g ca iv lv (u2 fa 20 2 n1324) (u2 (u2 la 20 0 n1325) 20 1 n1326)) from hD).weaken (fun _ _ _ h => hFc _ h)
              obtain ⟨v1327, ev1327⟩ : ∃ y : Int32, y = x1305_4 + 1 := ⟨_, rfl⟩
              have tv1327 := z_add ev1327 rfl (by decide : (1 : Int32).toInt = 1) (by omega) (by omega)
              refine lv_iinc (v := v1327) (lv' := [(4, .int v1327), (5, .int x1305_4), (3, .int x1305_3), (0, .ref (g 11 6)), (1, .int a), (2, .int b)]) hx hb dX2_gatherWithout_87 hl (k := 1) rfl (by rw [ev1327]; rfl) (by decide) rfl (fun ls hl => ?_)
              refine lv_goto (tgt := 12) hx hb dX2_gatherWithout_90 (by decide) ?_
              exact ih1306 v1327 x1305_3 n1324 n1325 n1326 ⟨by omega, by omega⟩ hn1324 (by omega) _ _ ls hP hD hS (lv_sub hl [0, 2, 3, 4, 5] rfl)
            · have fc1321 := z_eq (rfl : (x1305_4).toInt = _) (rfl : (b).toInt = _) c1321
              obtain ⟨v1328, ev1328⟩ : ∃ y : Int32, y = x1305_3 + 1 := ⟨_, rfl⟩
              refine lv_iinc (v := v1328) (lv' := [(3, .int v1328), (5, .int x1305_4), (4, .int x1305_4), (0, .ref (g 11 6)), (1, .int a), (2, .int b)]) hx hb dX2_gatherWithout_65 hl (k := 2) rfl (by rw [ev1328]; rfl) (by decide) rfl (fun ls hl => ?_)
              refine lv_goto (tgt := 87) hx hb dX2_gatherWithout_68 (by decide) ?_
              obtain ⟨v1329, ev1329⟩ : ∃ y : Int32, y = x1305_4 + 1 := ⟨_, rfl⟩
              have tv1329 := z_add ev1329 rfl (by decide : (1 : Int32).toInt = 1) (by omega) (by omega)
              refine lv_iinc (v := v1329) (lv' := [(4, .int v1329), (3, .int v1328), (5, .int x1305_4), (0, .ref (g 11 6)), (1, .int a), (2, .int b)]) hx hb dX2_gatherWithout_87 hl (k := 2) rfl (by rw [ev1329]; rfl) (by decide) rfl (fun ls hl => ?_)
              refine lv_goto (tgt := 12) hx hb dX2_gatherWithout_90 (by decide) ?_
              exact ih1306 v1329 v1328 w1305_a_20_2 w1305_b_20_0 w1305_b_20_1 ⟨by omega, by omega⟩ hw1305_a_20_2 (by omega) _ _ ls hP hD hS (lv_sub hl [0, 1, 3, 4, 5] rfl)
        · have fc1309 := z_eq (rfl : (r1308).toInt = _) (by decide : (0 : Int32).toInt = 0) c1309
          refine lv_goto (tgt := 87) hx hb dX2_gatherWithout_33 (by decide) ?_
          obtain ⟨v1330, ev1330⟩ : ∃ y : Int32, y = x1305_4 + 1 := ⟨_, rfl⟩
          have tv1330 := z_add ev1330 rfl (by decide : (1 : Int32).toInt = 1) (by omega) (by omega)
          refine lv_iinc (v := v1330) (lv' := [(4, .int v1330), (3, .int x1305_3), (0, .ref (g 11 6)), (1, .int a), (2, .int b)]) hx hb dX2_gatherWithout_87 hl (k := 0) rfl (by rw [ev1330]; rfl) (by decide) rfl (fun ls hl => ?_)
          refine lv_goto (tgt := 12) hx hb dX2_gatherWithout_90 (by decide) ?_
          exact ih1306 v1330 x1305_3 w1305_a_20_2 w1305_b_20_0 w1305_b_20_1 ⟨by omega, by omega⟩ hw1305_a_20_2 (by omega) _ _ ls hP hD hS (lv_sub hl [0, 1, 2, 3, 4] rfl)
  exact lp1306 61 0 0 n2 n3 n4 ⟨by decide, by decide⟩ hn2 (by first | decide | omega) _ _ ls hP hD hS (lv_sub hl [0, 1, 2, 3, 4] rfl)
set_option maxHeartbeats 4000000 in
set_option maxRecDepth 100000 in
/-- X2_isParted -/
theorem c_X2_isParted (l : Launch) (dC : Nat → ClassId) (dI : Nat → Nat → Nat) (sz : Nat) (h : Nat) (g : Nat → Nat → Nat) (ca : Nat → Nat → ClassId) (iv : Nat → Nat → Int32) (lv : Nat → Nat → Int64) (fa : Nat → Nat → Nat → Int32) (la : Nat → Nat → Nat → Int64) (hI : IX iv fa) : Met l yX2_isParted (wc yX2_isParted cX2_isParted 1 (some .boolean)) ({ frames := 4, cells := 0, slots := 0, locals := 91 } : Room) (pW (dC, dI) classes (WX h g ca iv lv fa la) (TX ca) sz [.ref (g 11 6)]) (va_Qi (fun r (u : SS) => ∃ (na_20_2 : Nat → Int32) (nb_20_0 : Nat → Int64) (nb_20_1 : Nat → Int64), (0 ≤ r.toInt ∧ r.toInt ≤ 1) ∧ u = (iv, lv, (u2 fa 20 2 na_20_2), (u2 (u2 la 20 0 nb_20_0) 20 1 nb_20_1))) (bX (dC, dI) h g ca (va_A (WX h g ca iv lv fa la) sz)) (va_A (WX h g ca iv lv fa la) sz)) 0 0 (va_A (WX h g ca iv lv fa la) sz) := by
  refine Met.ofW (cc := cX2_isParted) (maxL := 1) (ret := (some .boolean)) (by decide) rfl ?_
  intro p e s m args below meth c s₁ B hml hv
  obtain ⟨rfl, hsz, hP, hK, hD0⟩ := hv
  have hx := B.exec
  have hb := B.bytes
  have hr := B.returns
  have ht := tb_tl (atoms_spec (ws := wc yX2_isParted cX2_isParted 1 (some .boolean)) B.pre)
  have hown : s.vm.findClass RX2 = some m.cls := findClass_of_methodNamed B.named
  have hlocks := B.notSynchronized
  subst hsz
  have hD := hD0.self (sz := s.heap.size)
  generalize hAe : va_A (WX h g ca iv lv fa la) s.heap.size = A at hD ⊢
  have hA : ∀ q : Nat, s.heap.size ≤ q → A q := fun q h => by rw [← hAe]; exact Or.inr h
  have hS : va_S A s.heap s.heap [] := va_S.rf
  have hl := lv_entry [.ref (g 11 6)] (n := 1) (Nat.le_of_ble_eq_true rfl)
  rw [lg_entry_eq]
  generalize (lg_sl [.ref (g 11 6)] ++ List.replicate (1 - (lg_sl [.ref (g 11 6)]).length) Slot.unset).toArray = ls at hl ⊢
  have hl : lv_has ls 1 [(0, .ref (g 11 6))] := hl
  refine lv_aload_n hx hb dX2_isParted_0 rfl (lv_at hl 0 rfl) ?_
  refine lv_bipush (v := 9) hx hb dX2_isParted_1 (by decide) ?_
  refine lv_iconst (v := (-1)) hx hb dX2_isParted_3 (by decide) ?_
  have hFc := free_all hD hS hA
  refine va_calli (va_runV (As := [.int 9, .int (-1)]) (rest := []) ⟨hx, hb, hml, hown, ht⟩ (c_X2_gatherWithout l dC dI s.heap.size h g ca iv lv fa la hI 9 (-1) ⟨by decide, by decide⟩) (kV 2 ht m_878 m_880 m_31 m_85 m_881 rfl rfl hd_X2_gatherWithout_v ⟨Nat.le_of_ble_eq_true rfl, Nat.le_of_ble_eq_true rfl⟩) (vW hP hK hD (rX_2 hK hP)) rfl rfl hl.1 rfl (lv_room (Nat.le_of_ble_eq_true rfl)) dX2_isParted_4 ⟨Nat.le_of_ble_eq_true rfl, Nat.le_of_ble_eq_true rfl⟩) hS (fun q _ h => hFc q h) hFc (fun r1 u t H1 locs ht9 hvm hr1 hB hz1 hk1 hS => ?_)
  obtain ⟨n2, n3, n4, hr1, rfl⟩ := hr1
  have hn2 : ∀ j, inb (bA 20 2 j) (n2 j) := fun j => full_i _
  obtain ⟨hP, hD⟩ := hB
  rw [ht9] at hP
  generalize H1 = H at hP hS ⊢
  have hP : va_P (dC, dI) classes (WX h g ca iv lv (u2 fa 20 2 n2) (u2 (u2 la 20 0 n3) 20 1 n4)) H := hP
  have hD : va_D A (WX h g ca iv lv (u2 fa 20 2 n2) (u2 (u2 la 20 0 n3) 20 1 n4)) := (show va_D _ (WX h g ca iv lv (u2 fa 20 2 n2) (u2 (u2 la 20 0 n3) 20 1 n4)) from hD).weaken (fun _ _ _ h => hFc _ h)
  refine lv_pop hx hb dX2_isParted_7 rfl ?_
  refine lv_aload_n hx hb dX2_isParted_8 rfl (lv_at hl 0 rfl) ?_
  refine vp_callSi (W.runV (As := []) (rest := []) ⟨hx, hb, hml, hown, ht⟩ (c_X2_bothLeft l dC dI h g ca iv lv (u2 fa 20 2 n2) (u2 (u2 la 20 0 n3) 20 1 n4) (IX_a (c := 20) (k := 2) hI hn2)) (kV 0 ht m_895 m_897 m_34 m_85 m_898 rfl rfl hd_X2_bothLeft_v ⟨Nat.le_of_ble_eq_true rfl, Nat.le_of_ble_eq_true rfl⟩) (vR hP hK (rX_2 hK hP)) rfl rfl hl.1 rfl (lv_room (Nat.le_of_ble_eq_true rfl)) dX2_isParted_9 ⟨Nat.le_of_ble_eq_true rfl, Nat.le_of_ble_eq_true rfl⟩) (fun r5 hr5 => ?_)
  refine lv_if_eq (tgt := 35) hx hb dX2_isParted_12 (by decide) (fun c6 => ?_) (fun c6 => ?_)
  · have fc6 := z_eq (rfl : (r5).toInt = _) (by decide : (0 : Int32).toInt = 0) c6
    refine lv_iconst (v := 0) hx hb dX2_isParted_35 (by decide) ?_
    have hP9 : va_P (dC, dI) classes (WX h g ca iv lv (u2 fa 20 2 n2) (u2 (u2 la 20 0 n3) 20 1 n4)) H := hP
    have hD9 : va_D A (WX h g ca iv lv (u2 fa 20 2 n2) (u2 (u2 la 20 0 n3) 20 1 n4)) := hD
    exact W.zret (v := 0) hx hb hr rfl (fun t ht9 hW => ⟨⟨0, (iv, lv, (u2 fa 20 2 n2), (u2 (u2 la 20 0 n3) 20 1 n4)), rfl, ⟨n2, n3, n4, ⟨by decide, by decide⟩, rfl⟩, by rw [ht9]; exact hP9, hD9⟩, hS.F ht9⟩) hS.2.2 dX2_isParted_36
  · have fc6 := z_ne (rfl : (r5).toInt = _) (by decide : (0 : Int32).toInt = 0) c6
    refine lv_aload_n hx hb dX2_isParted_15 rfl (lv_at hl 0 rfl) ?_
    refine gX_2_1 hx hb ht hown hK hP m_305 dX2_isParted_16 ?_
    refine lv_iconst (v := 0) hx hb dX2_isParted_19 (by decide) ?_
    refine lv_iconst (v := 1) hx hb dX2_isParted_20 (by decide) ?_
    refine lv_aload_n hx hb dX2_isParted_21 rfl (lv_at hl 0 rfl) ?_
    refine gX_2_5 hx hb ht hown hK hP m_309 (v := (iv 2 5)) rfl dX2_isParted_22 ?_
    refine vp_callSi (W.runV (As := [.int 0, .int 1, .int (iv 2 5)]) (rest := []) ⟨hx, hb, hml, hown, ht⟩ (c_X7_differ_20 l dC dI h g ca iv lv (u2 fa 20 2 n2) (u2 (u2 la 20 0 n3) 20 1 n4) (IX_a (c := 20) (k := 2) hI hn2) 0 1 (iv 2 5) ⟨by decide, by decide⟩ ⟨by decide, by decide⟩) (kV 3 ht m_899 m_627 m_628 m_84 m_629 rfl rfl hd_X7_differ_v ⟨Nat.le_of_ble_eq_true rfl, Nat.le_of_ble_eq_true rfl⟩) (vR hP hK (rX_20 hK hP)) rfl rfl hl.1 rfl (lv_room (Nat.le_of_ble_eq_true rfl)) dX2_isParted_25 ⟨Nat.le_of_ble_eq_true rfl, Nat.le_of_ble_eq_true rfl⟩) (fun r7 hr7 => ?_)
    refine lv_if_eq (tgt := 35) hx hb dX2_isParted_28 (by decide) (fun c8 => ?_) (fun c8 => ?_)
    · have fc8 := z_eq (rfl : (r7).toInt = _) (by decide : (0 : Int32).toInt = 0) c8
      refine lv_iconst (v := 0) hx hb dX2_isParted_35 (by decide) ?_
      have hP9 : va_P (dC, dI) classes (WX h g ca iv lv (u2 fa 20 2 n2) (u2 (u2 la 20 0 n3) 20 1 n4)) H := hP
      have hD9 : va_D A (WX h g ca iv lv (u2 fa 20 2 n2) (u2 (u2 la 20 0 n3) 20 1 n4)) := hD
      exact W.zret (v := 0) hx hb hr rfl (fun t ht9 hW => ⟨⟨0, (iv, lv, (u2 fa 20 2 n2), (u2 (u2 la 20 0 n3) 20 1 n4)), rfl, ⟨n2, n3, n4, ⟨by decide, by decide⟩, rfl⟩, by rw [ht9]; exact hP9, hD9⟩, hS.F ht9⟩) hS.2.2 dX2_isParted_36
    · have fc8 := z_ne (rfl : (r7).toInt = _) (by decide : (0 : Int32).toInt = 0) c8
      refine lv_iconst (v := 1) hx hb dX2_isParted_31 (by decide) ?_
      refine lv_goto (tgt := 36) hx hb dX2_isParted_32 (by decide) ?_
      have hP9 : va_P (dC, dI) classes (WX h g ca iv lv (u2 fa 20 2 n2) (u2 (u2 la 20 0 n3) 20 1 n4)) H := hP
      have hD9 : va_D A (WX h g ca iv lv (u2 fa 20 2 n2) (u2 (u2 la 20 0 n3) 20 1 n4)) := hD
      exact W.zret (v := 1) hx hb hr rfl (fun t ht9 hW => ⟨⟨1, (iv, lv, (u2 fa 20 2 n2), (u2 (u2 la 20 0 n3) 20 1 n4)), rfl, ⟨n2, n3, n4, ⟨by decide, by decide⟩, rfl⟩, by rw [ht9]; exact hP9, hD9⟩, hS.F ht9⟩) hS.2.2 dX2_isParted_36
set_option maxHeartbeats 4000000 in
set_option maxRecDepth 100000 in
/-- X12_houses -/
theorem c_X12_houses (l : Launch) (dC : Nat → ClassId) (dI : Nat → Nat → Nat) (sz : Nat) (h : Nat) (g : Nat → Nat → Nat) (ca : Nat → Nat → ClassId) (iv : Nat → Nat → Int32) (lv : Nat → Nat → Int64) (fa : Nat → Nat → Nat → Int32) (la : Nat → Nat → Nat → Int64) (hI : IX iv fa) (a : Int32) : Met l yX12_houses (wc yX12_houses cX12_houses 4 (some .int)) ({ frames := 1, cells := 0, slots := 0, locals := 25 } : Room) (pW (dC, dI) classes (WM h g ca iv lv fa la) (TM ca) sz [.ref h, .int a]) (va_Qi (fun r (u : SS) => ∃ (ni_12_65 : Int32) (ni_12_66 : Int32), (True) ∧ u = ((u2 (u2 iv 12 65 ni_12_65) 12 66 ni_12_66), lv, fa, la)) (bM (dC, dI) h g ca (va_A (WM h g ca iv lv fa la) sz)) (va_A (WM h g ca iv lv fa la) sz)) 0 0 (va_A (WM h g ca iv lv fa la) sz) := by
  refine Met.ofW (cc := cX12_houses) (maxL := 4) (ret := (some .int)) (by decide) rfl ?_
  intro p e s m args below meth c s₁ B hml hv
  obtain ⟨rfl, hsz, hP, hK, hD0⟩ := hv
  have hx := B.exec
  have hb := B.bytes
  have hr := B.returns
  have ht := tb_tl (atoms_spec (ws := wc yX12_houses cX12_houses 4 (some .int)) B.pre)
  have hown : s.vm.findClass RX12 = some m.cls := findClass_of_methodNamed B.named
  have hlocks := B.notSynchronized
  subst hsz
  have hD := hD0.self (sz := s.heap.size)
  generalize hAe : va_A (WM h g ca iv lv fa la) s.heap.size = A at hD ⊢
  have hA : ∀ q : Nat, s.heap.size ≤ q → A q := fun q h => by rw [← hAe]; exact Or.inr h
  have hS : va_S A s.heap s.heap [] := va_S.rf
  have hl := lv_entry [.ref h, .int a] (n := 4) (Nat.le_of_ble_eq_true rfl)
  rw [lg_entry_eq]
  generalize (lg_sl [.ref h, .int a] ++ List.replicate (4 - (lg_sl [.ref h, .int a]).length) Slot.unset).toArray = ls at hl ⊢
  have hl : lv_has ls 4 [(0, .ref h), (1, .int a)] := hl
  refine lv_iload_n hx hb dX12_houses_0 rfl (lv_at hl 1 rfl) ?_
  refine lv_i2l (v := (a.toInt64)) hx hb dX12_houses_1 rfl ?_
  refine lv_lconst (v := 0) hx hb dX12_houses_2 (by decide) ?_
  refine lv_ldc2 hx hb hown (ht _ m_1390) dX12_houses_3 ?_
  refine vp_callSi (W.runS (As := [.long (a.toInt64), .long 0, .long 2]) (rest := []) ⟨hx, hb, hml, hown, ht⟩ (c_X12_in l dC dI (a.toInt64) 0 2 (a.toInt) (0) (2) ((Int32.toInt_toInt64 a).trans rfl) (by decide : (0 : Int64).toInt = 0) (by decide : (2 : Int64).toInt = 2)) (kS 3 ht m_1370 m_1371 m_89 m_1372 rfl rfl hd_X12_in_v ⟨Nat.le_of_ble_eq_true rfl, Nat.le_of_ble_eq_true rfl⟩) (sR noP (hK.sub (tys' := []) [] rfl)) rfl rfl hl.1 rfl (lv_room (Nat.le_of_ble_eq_true rfl)) dX12_houses_6 ⟨Nat.le_of_ble_eq_true rfl, Nat.le_of_ble_eq_true rfl⟩) (fun r1 hr1 => ?_)
  rcases hr1 with ⟨rfl, fr1⟩ | ⟨rfl, fr1⟩
  · skip
    refine lv_if_ne (tgt := 15) hx hb dX12_houses_9 (by decide) (fun c2 => ?_) (fun c2 => ?_)
    · skip
      refine lv_aload_n hx hb dX12_houses_15 rfl (lv_at hl 0 rfl) ?_
      have i_12_62 : 0 ≤ (iv 12 62).toInt ∧ (iv 12 62).toInt ≤ 8 := hI.1 12 62
      refine gM_12_62 hx hb ht hown hK hP m_1201 (v := (iv 12 62)) rfl dX12_houses_16 ?_
      refine lv_if_ne (tgt := 25) hx hb dX12_houses_19 (by decide) (fun c3 => ?_) (fun c3 => ?_)
      · have fc3 := z_ne (rfl : ((iv 12 62)).toInt = _) (by decide : (0 : Int32).toInt = 0) c3
        refine lv_iconst (v := (-1)) hx hb dX12_houses_25 (by decide) ?_
        refine lv_istore_n (lv' := [(2, .int (-1)), (0, .ref h), (1, .int a)]) hx hb dX12_houses_26 rfl hl (by decide) rfl (fun ls hl => ?_)
        refine lv_iconst (v := 0) hx hb dX12_houses_27 (by decide) ?_
        refine lv_istore_n (lv' := [(3, .int 0), (2, .int (-1)), (0, .ref h), (1, .int a)]) hx hb dX12_houses_28 rfl hl (by decide) rfl (fun ls hl => ?_)
        have lp840 : ∀ (nn840 : Nat) (x839_3 : Int32) (x839_2 : Int32) (w839_i_12_65 : Int32) (w839_i_12_66 : Int32), 0 ≤ x839_3.toInt ∧ x839_3.toInt ≤ 256 → (-1) ≤ x839_2.toInt ∧ x839_2.toInt ≤ 255 → 256 - x839_3.toInt < (nn840 : Int) → ∀ (H : Heap) (locs : List Loc), ∀ (ls : Array Slot), va_P (dC, dI) classes (WM h g ca (u2 (u2 iv 12 65 w839_i_12_65) 12 66 w839_i_12_66) lv fa la) H → va_D A (WM h g ca (u2 (u2 iv 12 65 w839_i_12_65) 12 66 w839_i_12_66) lv fa la) → va_S A s.heap H locs → lv_has ls 4 [(3, .int x839_3), (2, .int x839_2), (0, .ref h), (1, .int a)] → W p l e ({ frames := 1, cells := 0, slots := 0, locals := 25 } : Room) s m ([.ref h, .int a] : List Value).toArray below meth c H locs 0 0 (MQ below (va_Qi (fun r (u : SS) => ∃ (ni_12_65 : Int32) (ni_12_66 : Int32), (True) ∧ u = ((u2 (u2 iv 12 65 ni_12_65) 12 66 ni_12_66), lv, fa, la)) (bM (dC, dI) h g ca A) A) ([.ref h, .int a] : List Value).toArray s 0 0 A) (F0 m 29 ls []) := by
          intro nn840
          induction nn840 with
          | zero => intro x839_3 x839_2 w839_i_12_65 w839_i_12_66 hx839_3 hx839_2 hm840; exfalso; omega
          | succ nn840 ih840 =>
            intro x839_3 x839_2 w839_i_12_65 w839_i_12_66 hx839_3 hx839_2 hm840 H locs ls hP hD hS hl
            refine lv_iload_n hx hb dX12_houses_29 rfl (lv_at hl 0 rfl) ?_
            refine lv_iconst (v := 1) hx hb dX12_houses_30 (by decide) ?_
            refine lv_aload_n hx hb dX12_houses_31 rfl (lv_at hl 2 rfl) ?_
            refine gM_12_62 hx hb ht hown hK hP m_1201 (v := (iv 12 62)) rfl dX12_houses_32 ?_
            refine lv_ishl hx hb dX12_houses_35 ?_
            refine lv_topi (fun v841 ev841 => ?_)
            have tv841 := shl1 ev841 ⟨by omega, by omega⟩
            refine lv_icmp_ge (tgt := 70) hx hb dX12_houses_36 (by decide) (fun c842 => ?_) (fun c842 => ?_)
            · have fc842 := z_le (rfl : (v841).toInt = _) (rfl : (x839_3).toInt = _) c842
              refine lv_aload_n hx hb dX12_houses_70 rfl (lv_at hl 2 rfl) ?_
              refine lv_iload_n hx hb dX12_houses_71 rfl (lv_at hl 1 rfl) ?_
              have hFc := free_all hD hS hA
              refine va_calli (va_runV (As := [.int x839_2]) (rest := []) ⟨hx, hb, hml, hown, ht⟩ (c_X12_findSpan l dC dI H.size h g ca (u2 (u2 iv 12 65 w839_i_12_65) 12 66 w839_i_12_66) lv fa la (IX_i (c := 12) (k := 66) (IX_i (c := 12) (k := 65) hI (full_i _)) (full_i _)) x839_2) (kV 1 ht m_1668 m_1670 m_71 m_89 m_1671 rfl rfl hd_X12_findSpan_v ⟨Nat.le_of_ble_eq_true rfl, Nat.le_of_ble_eq_true rfl⟩) (vW hP hK hD (rM_12 hK hP)) rfl rfl hl.1 rfl (lv_room (Nat.le_of_ble_eq_true rfl)) dX12_houses_72 ⟨Nat.le_of_ble_eq_true rfl, Nat.le_of_ble_eq_true rfl⟩) hS (fun q _ h => hFc q h) hFc (fun r843 u t H1 locs ht9 hvm hr843 hB hz1 hk1 hS => ?_)
              obtain ⟨n844, n845, hr843, rfl⟩ := hr843
              obtain ⟨hP, hD⟩ := hB
              rw [ht9] at hP
              generalize H1 = H at hP hS ⊢
              have hP : va_P (dC, dI) classes (WM h g ca (u2 (u2 iv 12 65 n844) 12 66 n845) lv fa la) H := hP
              have hD : va_D A (WM h g ca (u2 (u2 iv 12 65 n844) 12 66 n845) lv fa la) := (show va_D _ (WM h g ca (u2 (u2 iv 12 65 n844) 12 66 n845) lv fa la) from hD).weaken (fun _ _ _ h => hFc _ h)
              refine lv_istore_n (lv' := [(3, .int r843), (2, .int x839_2), (0, .ref h), (1, .int a)]) hx hb dX12_houses_75 rfl hl (by decide) rfl (fun ls hl => ?_)
              refine lv_iload_n hx hb dX12_houses_76 rfl (lv_at hl 3 rfl) ?_
              refine lv_if_ne (tgt := 87) hx hb dX12_houses_77 (by decide) (fun c846 => ?_) (fun c846 => ?_)
              · have fc846 := z_ne (rfl : (a).toInt = _) (by decide : (0 : Int32).toInt = 0) c846
                refine lv_iload_n hx hb dX12_houses_87 rfl (lv_at hl 3 rfl) ?_
                refine lv_iconst (v := 1) hx hb dX12_houses_88 (by decide) ?_
                refine lv_icmp_ne (tgt := 99) hx hb dX12_houses_89 (by decide) (fun c847 => ?_) (fun c847 => ?_)
                · have fc847 := z_ne (rfl : (a).toInt = _) (by decide : (1 : Int32).toInt = 1) c847
                  refine lv_iload_n hx hb dX12_houses_99 rfl (lv_at hl 1 rfl) ?_
                  have hP9 : va_P (dC, dI) classes (WM h g ca (u2 (u2 iv 12 65 n844) 12 66 n845) lv fa la) H := hP
                  have hD9 : va_D A (WM h g ca (u2 (u2 iv 12 65 n844) 12 66 n845) lv fa la) := hD
                  exact W.iret (v := x839_2) hx hb hr (fun t ht9 hW => ⟨⟨x839_2, ((u2 (u2 iv 12 65 n844) 12 66 n845), lv, fa, la), rfl, ⟨n844, n845, trivial, rfl⟩, by rw [ht9]; exact hP9, hD9⟩, hS.F ht9⟩) hS.2.2 dX12_houses_100
                · have fc847 := z_eq (rfl : (a).toInt = _) (by decide : (1 : Int32).toInt = 1) c847
                  refine lv_aload_n hx hb dX12_houses_92 rfl (lv_at hl 2 rfl) ?_
                  refine gM_12_66 hx hb ht hown hK hP m_1205 (v := n845) rfl dX12_houses_93 ?_
                  refine lv_goto (tgt := 100) hx hb dX12_houses_96 (by decide) ?_
                  have hP9 : va_P (dC, dI) classes (WM h g ca (u2 (u2 iv 12 65 n844) 12 66 n845) lv fa la) H := hP
                  have hD9 : va_D A (WM h g ca (u2 (u2 iv 12 65 n844) 12 66 n845) lv fa la) := hD
                  exact W.iret (v := n845) hx hb hr (fun t ht9 hW => ⟨⟨n845, ((u2 (u2 iv 12 65 n844) 12 66 n845), lv, fa, la), rfl, ⟨n844, n845, trivial, rfl⟩, by rw [ht9]; exact hP9, hD9⟩, hS.F ht9⟩) hS.2.2 dX12_houses_100
              · have fc846 := z_eq (rfl : (a).toInt = _) (by decide : (0 : Int32).toInt = 0) c846
                refine lv_aload_n hx hb dX12_houses_80 rfl (lv_at hl 2 rfl) ?_
                refine gM_12_65 hx hb ht hown hK hP m_1204 (v := n844) rfl dX12_houses_81 ?_
                refine lv_goto (tgt := 100) hx hb dX12_houses_84 (by decide) ?_
                have hP9 : va_P (dC, dI) classes (WM h g ca (u2 (u2 iv 12 65 n844) 12 66 n845) lv fa la) H := hP
                have hD9 : va_D A (WM h g ca (u2 (u2 iv 12 65 n844) 12 66 n845) lv fa la) := hD
                exact W.iret (v := n844) hx hb hr (fun t ht9 hW => ⟨⟨n844, ((u2 (u2 iv 12 65 n844) 12 66 n845), lv, fa, la), rfl, ⟨n844, n845, trivial, rfl⟩, by rw [ht9]; exact hP9, hD9⟩, hS.F ht9⟩) hS.2.2 dX12_houses_100
            · have fc842 := z_nle (rfl : (v841).toInt = _) (rfl : (x839_3).toInt = _) c842
              refine lv_iload_n hx hb dX12_houses_39 rfl (lv_at hl 1 rfl) ?_
              refine lv_if_lt (tgt := 54) hx hb dX12_houses_40 (by decide) (fun c848 => ?_) (fun c848 => ?_)
              · have fc848 := z_lt (rfl : (x839_2).toInt = _) (by decide : (0 : Int32).toInt = 0) c848
                refine lv_aload_n hx hb dX12_houses_54 rfl (lv_at hl 2 rfl) ?_
                refine lv_iload_n hx hb dX12_houses_55 rfl (lv_at hl 0 rfl) ?_
                have hFc := free_all hD hS hA
                refine va_calli (va_runV (As := [.int x839_3]) (rest := []) ⟨hx, hb, hml, hown, ht⟩ (c_X12_findSpan l dC dI H.size h g ca (u2 (u2 iv 12 65 w839_i_12_65) 12 66 w839_i_12_66) lv fa la (IX_i (c := 12) (k := 66) (IX_i (c := 12) (k := 65) hI (full_i _)) (full_i _)) x839_3) (kV 1 ht m_1668 m_1670 m_71 m_89 m_1671 rfl rfl hd_X12_findSpan_v ⟨Nat.le_of_ble_eq_true rfl, Nat.le_of_ble_eq_true rfl⟩) (vW hP hK hD (rM_12 hK hP)) rfl rfl hl.1 rfl (lv_room (Nat.le_of_ble_eq_true rfl)) dX12_houses_56 ⟨Nat.le_of_ble_eq_true rfl, Nat.le_of_ble_eq_true rfl⟩) hS (fun q _ h => hFc q h) hFc (fun r849 u t H1 locs ht9 hvm hr849 hB hz1 hk1 hS => ?_)
                obtain ⟨n850, n851, hr849, rfl⟩ := hr849
                obtain ⟨hP, hD⟩ := hB
                rw [ht9] at hP
                generalize H1 = H at hP hS ⊢
                have hP : va_P (dC, dI) classes (WM h g ca (u2 (u2 iv 12 65 n850) 12 66 n851) lv fa la) H := hP
                have hD : va_D A (WM h g ca (u2 (u2 iv 12 65 n850) 12 66 n851) lv fa la) := (show va_D _ (WM h g ca (u2 (u2 iv 12 65 n850) 12 66 n851) lv fa la) from hD).weaken (fun _ _ _ h => hFc _ h)
                refine lv_if_eq (tgt := 64) hx hb dX12_houses_59 (by decide) (fun c852 => ?_) (fun c852 => ?_)
                · have fc852 := z_eq (rfl : (r849).toInt = _) (by decide : (0 : Int32).toInt = 0) c852
                  obtain ⟨v853, ev853⟩ : ∃ y : Int32, y = x839_3 + 1 := ⟨_, rfl⟩
                  have tv853 := z_add ev853 rfl (by decide : (1 : Int32).toInt = 1) (by omega) (by omega)
                  refine lv_iinc (v := v853) (lv' := [(3, .int v853), (2, .int x839_2), (0, .ref h), (1, .int a)]) hx hb dX12_houses_64 hl (k := 0) rfl (by rw [ev853]; rfl) (by decide) rfl (fun ls hl => ?_)
                  refine lv_goto (tgt := 29) hx hb dX12_houses_67 (by decide) ?_
                  exact ih840 v853 x839_2 n850 n851 ⟨by omega, by omega⟩ ⟨by omega, by omega⟩ (by omega) _ _ ls hP hD hS (lv_sub hl [0, 1, 2, 3] rfl)
                · have fc852 := z_ne (rfl : (r849).toInt = _) (by decide : (0 : Int32).toInt = 0) c852
                  refine lv_iload_n hx hb dX12_houses_62 rfl (lv_at hl 0 rfl) ?_
                  refine lv_istore_n (lv' := [(2, .int x839_3), (3, .int x839_3), (0, .ref h), (1, .int a)]) hx hb dX12_houses_63 rfl hl (by decide) rfl (fun ls hl => ?_)
                  obtain ⟨v854, ev854⟩ : ∃ y : Int32, y = x839_3 + 1 := ⟨_, rfl⟩
                  have tv854 := z_add ev854 rfl (by decide : (1 : Int32).toInt = 1) (by omega) (by omega)
                  refine lv_iinc (v := v854) (lv' := [(3, .int v854), (2, .int x839_3), (0, .ref h), (1, .int a)]) hx hb dX12_houses_64 hl (k := 1) rfl (by rw [ev854]; rfl) (by decide) rfl (fun ls hl => ?_)
                  refine lv_goto (tgt := 29) hx hb dX12_houses_67 (by decide) ?_
                  exact ih840 v854 x839_3 n850 n851 ⟨by omega, by omega⟩ ⟨by omega, by omega⟩ (by omega) _ _ ls hP hD hS (lv_sub hl [0, 1, 2, 3] rfl)
              · have fc848 := z_nlt (rfl : (x839_2).toInt = _) (by decide : (0 : Int32).toInt = 0) c848
                refine lv_iload_n hx hb dX12_houses_43 rfl (lv_at hl 0 rfl) ?_
                refine vp_callSi (W.runS (As := [.int x839_3]) (rest := []) ⟨hx, hb, hml, hown, ht⟩ (c_X12_ones l dC dI x839_3) (kS 1 ht m_1606 m_1607 m_89 m_1608 rfl rfl hd_X12_ones_v ⟨Nat.le_of_ble_eq_true rfl, Nat.le_of_ble_eq_true rfl⟩) (sR noP (hK.sub (tys' := []) [] rfl)) rfl rfl hl.1 rfl (lv_room (Nat.le_of_ble_eq_true rfl)) dX12_houses_44 ⟨Nat.le_of_ble_eq_true rfl, Nat.le_of_ble_eq_true rfl⟩) (fun r855 hr855 => ?_)
                refine lv_iload_n hx hb dX12_houses_47 rfl (lv_at hl 1 rfl) ?_
                refine vp_callSi (W.runS (As := [.int x839_2]) (rest := [.int r855]) ⟨hx, hb, hml, hown, ht⟩ (c_X12_ones l dC dI x839_2) (kS 1 ht m_1606 m_1607 m_89 m_1608 rfl rfl hd_X12_ones_v ⟨Nat.le_of_ble_eq_true rfl, Nat.le_of_ble_eq_true rfl⟩) (sR noP (hK.sub (tys' := []) [] rfl)) rfl rfl hl.1 rfl (lv_room (Nat.le_of_ble_eq_true rfl)) dX12_houses_48 ⟨Nat.le_of_ble_eq_true rfl, Nat.le_of_ble_eq_true rfl⟩) (fun r856 hr856 => ?_)
                refine lv_icmp_ge (tgt := 64) hx hb dX12_houses_51 (by decide) (fun c857 => ?_) (fun c857 => ?_)
                · have fc857 := z_le (rfl : (r856).toInt = _) (rfl : (r855).toInt = _) c857
                  obtain ⟨v858, ev858⟩ : ∃ y : Int32, y = x839_3 + 1 := ⟨_, rfl⟩
                  have tv858 := z_add ev858 rfl (by decide : (1 : Int32).toInt = 1) (by omega) (by omega)
                  refine lv_iinc (v := v858) (lv' := [(3, .int v858), (2, .int x839_2), (0, .ref h), (1, .int a)]) hx hb dX12_houses_64 hl (k := 0) rfl (by rw [ev858]; rfl) (by decide) rfl (fun ls hl => ?_)
                  refine lv_goto (tgt := 29) hx hb dX12_houses_67 (by decide) ?_
                  exact ih840 v858 x839_2 w839_i_12_65 w839_i_12_66 ⟨by omega, by omega⟩ ⟨by omega, by omega⟩ (by omega) _ _ ls hP hD hS (lv_sub hl [0, 1, 2, 3] rfl)
                · have fc857 := z_nle (rfl : (r856).toInt = _) (rfl : (r855).toInt = _) c857
                  refine lv_aload_n hx hb dX12_houses_54 rfl (lv_at hl 2 rfl) ?_
                  refine lv_iload_n hx hb dX12_houses_55 rfl (lv_at hl 0 rfl) ?_
                  have hFc := free_all hD hS hA
                  refine va_calli (va_runV (As := [.int x839_3]) (rest := []) ⟨hx, hb, hml, hown, ht⟩ (c_X12_findSpan l dC dI H.size h g ca (u2 (u2 iv 12 65 w839_i_12_65) 12 66 w839_i_12_66) lv fa la (IX_i (c := 12) (k := 66) (IX_i (c := 12) (k := 65) hI (full_i _)) (full_i _)) x839_3) (kV 1 ht m_1668 m_1670 m_71 m_89 m_1671 rfl rfl hd_X12_findSpan_v ⟨Nat.le_of_ble_eq_true rfl, Nat.le_of_ble_eq_true rfl⟩) (vW hP hK hD (rM_12 hK hP)) rfl rfl hl.1 rfl (lv_room (Nat.le_of_ble_eq_true rfl)) dX12_houses_56 ⟨Nat.le_of_ble_eq_true rfl, Nat.le_of_ble_eq_true rfl⟩) hS (fun q _ h => hFc q h) hFc (fun r859 u t H1 locs ht9 hvm hr859 hB hz1 hk1 hS => ?_)
                  obtain ⟨n860, n861, hr859, rfl⟩ := hr859
                  obtain ⟨hP, hD⟩ := hB
                  rw [ht9] at hP
                  generalize H1 = H at hP hS ⊢
                  have hP : va_P (dC, dI) classes (WM h g ca (u2 (u2 iv 12 65 n860) 12 66 n861) lv fa la) H := hP
                  have hD : va_D A (WM h g ca (u2 (u2 iv 12 65 n860) 12 66 n861) lv fa la) := (show va_D _ (WM h g ca (u2 (u2 iv 12 65 n860) 12 66 n861) lv fa la) from hD).weaken (fun _ _ _ h => hFc _ h)
                  refine lv_if_eq (tgt := 64) hx hb dX12_houses_59 (by decide) (fun c862 => ?_) (fun c862 => ?_)
                  · have fc862 := z_eq (rfl : (r859).toInt = _) (by decide : (0 : Int32).toInt = 0) c862
                    obtain ⟨v863, ev863⟩ : ∃ y : Int32, y = x839_3 + 1 := ⟨_, rfl⟩
                    have tv863 := z_add ev863 rfl (by decide : (1 : Int32).toInt = 1) (by omega) (by omega)
                    refine lv_iinc (v := v863) (lv' := [(3, .int v863), (2, .int x839_2), (0, .ref h), (1, .int a)]) hx hb dX12_houses_64 hl (k := 0) rfl (by rw [ev863]; rfl) (by decide) rfl (fun ls hl => ?_)
                    refine lv_goto (tgt := 29) hx hb dX12_houses_67 (by decide) ?_
                    exact ih840 v863 x839_2 n860 n861 ⟨by omega, by omega⟩ ⟨by omega, by omega⟩ (by omega) _ _ ls hP hD hS (lv_sub hl [0, 1, 2, 3] rfl)
                  · have fc862 := z_ne (rfl : (r859).toInt = _) (by decide : (0 : Int32).toInt = 0) c862
                    refine lv_iload_n hx hb dX12_houses_62 rfl (lv_at hl 0 rfl) ?_
                    refine lv_istore_n (lv' := [(2, .int x839_3), (3, .int x839_3), (0, .ref h), (1, .int a)]) hx hb dX12_houses_63 rfl hl (by decide) rfl (fun ls hl => ?_)
                    obtain ⟨v864, ev864⟩ : ∃ y : Int32, y = x839_3 + 1 := ⟨_, rfl⟩
                    have tv864 := z_add ev864 rfl (by decide : (1 : Int32).toInt = 1) (by omega) (by omega)
                    refine lv_iinc (v := v864) (lv' := [(3, .int v864), (2, .int x839_3), (0, .ref h), (1, .int a)]) hx hb dX12_houses_64 hl (k := 1) rfl (by rw [ev864]; rfl) (by decide) rfl (fun ls hl => ?_)
                    refine lv_goto (tgt := 29) hx hb dX12_houses_67 (by decide) ?_
                    exact ih840 v864 x839_3 n860 n861 ⟨by omega, by omega⟩ ⟨by omega, by omega⟩ (by omega) _ _ ls hP hD hS (lv_sub hl [0, 1, 2, 3] rfl)
        exact lp840 257 0 (-1) (iv 12 65) (iv 12 66) ⟨by decide, by decide⟩ ⟨by decide, by decide⟩ (by first | decide | omega) _ _ ls hP hD hS (lv_sub hl [0, 1, 2, 3] rfl)
      · have fc3 := z_eq (rfl : ((iv 12 62)).toInt = _) (by decide : (0 : Int32).toInt = 0) c3
        refine lv_ldc hx hb hown (ht _ m_1374) dX12_houses_22 ?_
        have hP9 : va_P (dC, dI) classes (WM h g ca (u2 (u2 iv 12 65 (iv 12 65)) 12 66 (iv 12 66)) lv fa la) s.heap := hP
        have hD9 : va_D A (WM h g ca (u2 (u2 iv 12 65 (iv 12 65)) 12 66 (iv 12 66)) lv fa la) := hD
        exact W.iret (v := (-100003)) hx hb hr (fun t ht9 hW => ⟨⟨(-100003), ((u2 (u2 iv 12 65 (iv 12 65)) 12 66 (iv 12 66)), lv, fa, la), rfl, ⟨(iv 12 65), (iv 12 66), trivial, rfl⟩, by rw [ht9]; exact hP9, hD9⟩, hS.F ht9⟩) hS.2.2 dX12_houses_24
    · exact absurd c2 (by decide)
  · skip
    refine lv_if_ne (tgt := 15) hx hb dX12_houses_9 (by decide) (fun c865 => ?_) (fun c865 => ?_)
    · exact absurd rfl c865
    · skip
      refine lv_ldc hx hb hown (ht _ m_1373) dX12_houses_12 ?_
      have hP9 : va_P (dC, dI) classes (WM h g ca (u2 (u2 iv 12 65 (iv 12 65)) 12 66 (iv 12 66)) lv fa la) s.heap := hP
      have hD9 : va_D A (WM h g ca (u2 (u2 iv 12 65 (iv 12 65)) 12 66 (iv 12 66)) lv fa la) := hD
      exact W.iret (v := (-100002)) hx hb hr (fun t ht9 hW => ⟨⟨(-100002), ((u2 (u2 iv 12 65 (iv 12 65)) 12 66 (iv 12 66)), lv, fa, la), rfl, ⟨(iv 12 65), (iv 12 66), trivial, rfl⟩, by rw [ht9]; exact hP9, hD9⟩, hS.F ht9⟩) hS.2.2 dX12_houses_14
