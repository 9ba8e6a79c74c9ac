/-! ===== h1 ===== -/
theorem m_77 : Cond.initialized RX11 ∈ tb := mb_1_0 _ (List.mem_of_getElem? (i := 0) rfl)
theorem m_80 : Cond.initialized RX0 ∈ tb := mb_1_0 _ (List.mem_of_getElem? (i := 3) rfl)
theorem m_114 : Cond.fieldLink RX11 109 "SilkHouse$Skeins" "number" "I" ∈ tb := mb_1_1 _ (List.mem_of_getElem? (i := 11) rfl)
theorem m_136 : Cond.fieldLink RX11 134 "SilkHouse$Scales" "number" "I" ∈ tb := mb_1_2 _ (List.mem_of_getElem? (i := 1) rfl)
theorem m_165 : Cond.fieldLink RX11 96 "SilkHouse$Bales" "number" "I" ∈ tb := mb_1_2 _ (List.mem_of_getElem? (i := 20) rfl)
theorem m_415 : Cond.fieldLink RX11 10 "SilkHouse" "skeins" "LSilkHouse$Skeins;" ∈ tb := mb_2_1 _ (List.mem_of_getElem? (i := 20) rfl)
theorem m_416 : Cond.fieldLink RX11 19 "SilkHouse" "scales" "LSilkHouse$Scales;" ∈ tb := mb_2_1 _ (List.mem_of_getElem? (i := 21) rfl)
theorem m_417 : Cond.fieldLink RX11 26 "SilkHouse" "bales" "LSilkHouse$Bales;" ∈ tb := mb_2_1 _ (List.mem_of_getElem? (i := 22) rfl)
theorem m_425 : Cond.fieldLink RX11 85 "SilkHouse" "now" "I" ∈ tb := mb_2_2 _ (List.mem_of_getElem? (i := 6) rfl)
theorem m_453 : Cond.methodLink RX11 89 yX11_within ∈ tb := mb_2_2 _ (List.mem_of_getElem? (i := 11) rfl)
theorem m_454 : Cond.static yX11_within ∈ tb := mb_2_2 _ (List.mem_of_getElem? (i := 12) rfl)
theorem m_455 : Cond.code yX11_within cX11_within 3 (some .boolean) ∈ tb := mb_2_2 _ (List.mem_of_getElem? (i := 13) rfl)
theorem m_456 : Cond.constant RX11 93 (-100002) ∈ tb := mb_2_2 _ (List.mem_of_getElem? (i := 14) rfl)
theorem m_457 : Cond.constant RX11 94 (-100003) ∈ tb := mb_2_2 _ (List.mem_of_getElem? (i := 15) rfl)
theorem m_462 : Cond.constant RX11 95 (99999) ∈ tb := mb_2_2 _ (List.mem_of_getElem? (i := 20) rfl)
theorem m_463 : Cond.constant RX11 99 (-100004) ∈ tb := mb_2_2 _ (List.mem_of_getElem? (i := 21) rfl)
theorem m_464 : Cond.methodLink RX11 100 yX0_bring ∈ tb := mb_2_2 _ (List.mem_of_getElem? (i := 22) rfl)
theorem m_465 : Cond.instanceMethod yX0_bring ∈ tb := mb_2_2 _ (List.mem_of_getElem? (i := 23) rfl)
theorem m_466 : Cond.selects RX0 yX0_bring yX0_bring ∈ tb := mb_2_3 _ (List.mem_of_getElem? (i := 0) rfl)
theorem m_467 : Cond.code yX0_bring cX0_bring 2 (some .int) ∈ tb := mb_2_3 _ (List.mem_of_getElem? (i := 1) rfl)
theorem m_472 : Cond.methodLink RX11 104 yX0_has ∈ tb := mb_2_3 _ (List.mem_of_getElem? (i := 6) rfl)
theorem m_473 : Cond.instanceMethod yX0_has ∈ tb := mb_2_3 _ (List.mem_of_getElem? (i := 7) rfl)
theorem m_474 : Cond.selects RX0 yX0_has yX0_has ∈ tb := mb_2_3 _ (List.mem_of_getElem? (i := 8) rfl)
theorem m_475 : Cond.code yX0_has cX0_has 2 (some .boolean) ∈ tb := mb_2_3 _ (List.mem_of_getElem? (i := 9) rfl)
theorem m_476 : Cond.constant RX11 108 (-100001) ∈ tb := mb_2_3 _ (List.mem_of_getElem? (i := 10) rfl)
theorem m_477 : Cond.methodLink RX11 110 yX10_drawn ∈ tb := mb_2_3 _ (List.mem_of_getElem? (i := 11) rfl)
theorem m_478 : Cond.instanceMethod yX10_drawn ∈ tb := mb_2_3 _ (List.mem_of_getElem? (i := 12) rfl)
theorem m_479 : Cond.selects RX10 yX10_drawn yX10_drawn ∈ tb := mb_2_3 _ (List.mem_of_getElem? (i := 13) rfl)
theorem m_480 : Cond.code yX10_drawn cX10_drawn 5 (some .int) ∈ tb := mb_2_3 _ (List.mem_of_getElem? (i := 14) rfl)
theorem m_489 : Cond.methodLink RX11 114 yX10_draw ∈ tb := mb_2_3 _ (List.mem_of_getElem? (i := 23) rfl)
theorem m_490 : Cond.instanceMethod yX10_draw ∈ tb := mb_2_4 _ (List.mem_of_getElem? (i := 0) rfl)
theorem m_491 : Cond.selects RX10 yX10_draw yX10_draw ∈ tb := mb_2_4 _ (List.mem_of_getElem? (i := 1) rfl)
theorem m_492 : Cond.code yX10_draw cX10_draw 5 (some .int) ∈ tb := mb_2_4 _ (List.mem_of_getElem? (i := 2) rfl)
theorem m_497 : Cond.methodLink RX11 118 yX10_weigh ∈ tb := mb_2_4 _ (List.mem_of_getElem? (i := 6) rfl)
theorem m_498 : Cond.instanceMethod yX10_weigh ∈ tb := mb_2_4 _ (List.mem_of_getElem? (i := 7) rfl)
theorem m_499 : Cond.selects RX10 yX10_weigh yX10_weigh ∈ tb := mb_2_4 _ (List.mem_of_getElem? (i := 8) rfl)
theorem m_500 : Cond.code yX10_weigh cX10_weigh 5 none ∈ tb := mb_2_4 _ (List.mem_of_getElem? (i := 9) rfl)
theorem m_501 : Cond.methodLink RX11 122 yX10_dryIn ∈ tb := mb_2_4 _ (List.mem_of_getElem? (i := 10) rfl)
theorem m_502 : Cond.instanceMethod yX10_dryIn ∈ tb := mb_2_4 _ (List.mem_of_getElem? (i := 11) rfl)
theorem m_503 : Cond.selects RX10 yX10_dryIn yX10_dryIn ∈ tb := mb_2_4 _ (List.mem_of_getElem? (i := 12) rfl)
theorem m_504 : Cond.code yX10_dryIn cX10_dryIn 4 none ∈ tb := mb_2_4 _ (List.mem_of_getElem? (i := 13) rfl)
theorem m_509 : Cond.methodLink RX11 126 yX10_has ∈ tb := mb_2_4 _ (List.mem_of_getElem? (i := 18) rfl)
theorem m_510 : Cond.instanceMethod yX10_has ∈ tb := mb_2_4 _ (List.mem_of_getElem? (i := 19) rfl)
theorem m_511 : Cond.selects RX10 yX10_has yX10_has ∈ tb := mb_2_4 _ (List.mem_of_getElem? (i := 20) rfl)
theorem m_512 : Cond.code yX10_has cX10_has 2 (some .boolean) ∈ tb := mb_2_4 _ (List.mem_of_getElem? (i := 21) rfl)
theorem m_513 : Cond.methodLink RX11 127 yX10_get ∈ tb := mb_2_4 _ (List.mem_of_getElem? (i := 22) rfl)
theorem m_514 : Cond.methodLink RX11 130 yX10_dropOut ∈ tb := mb_2_4 _ (List.mem_of_getElem? (i := 23) rfl)
theorem m_515 : Cond.instanceMethod yX10_dropOut ∈ tb := mb_2_5 _ (List.mem_of_getElem? (i := 0) rfl)
theorem m_516 : Cond.selects RX10 yX10_dropOut yX10_dropOut ∈ tb := mb_2_5 _ (List.mem_of_getElem? (i := 1) rfl)
theorem m_517 : Cond.code yX10_dropOut cX10_dropOut 3 none ∈ tb := mb_2_5 _ (List.mem_of_getElem? (i := 2) rfl)
theorem m_526 : Cond.methodLink RX11 135 yX9_note ∈ tb := mb_2_5 _ (List.mem_of_getElem? (i := 11) rfl)
theorem m_527 : Cond.instanceMethod yX9_note ∈ tb := mb_2_5 _ (List.mem_of_getElem? (i := 12) rfl)
theorem m_528 : Cond.selects RX9 yX9_note yX9_note ∈ tb := mb_2_5 _ (List.mem_of_getElem? (i := 13) rfl)
theorem m_529 : Cond.code yX9_note cX9_note 4 (some .int) ∈ tb := mb_2_5 _ (List.mem_of_getElem? (i := 14) rfl)
theorem m_534 : Cond.methodLink RX11 138 yX9_least ∈ tb := mb_2_5 _ (List.mem_of_getElem? (i := 19) rfl)
theorem m_535 : Cond.instanceMethod yX9_least ∈ tb := mb_2_5 _ (List.mem_of_getElem? (i := 20) rfl)
theorem m_536 : Cond.selects RX9 yX9_least yX9_least ∈ tb := mb_2_5 _ (List.mem_of_getElem? (i := 21) rfl)
theorem m_537 : Cond.code yX9_least cX9_least 5 (some .int) ∈ tb := mb_2_5 _ (List.mem_of_getElem? (i := 22) rfl)
theorem m_553 : Cond.methodLink RX11 141 yX9_greatest ∈ tb := mb_2_6 _ (List.mem_of_getElem? (i := 11) rfl)
theorem m_554 : Cond.instanceMethod yX9_greatest ∈ tb := mb_2_6 _ (List.mem_of_getElem? (i := 12) rfl)
theorem m_555 : Cond.selects RX9 yX9_greatest yX9_greatest ∈ tb := mb_2_6 _ (List.mem_of_getElem? (i := 13) rfl)
theorem m_556 : Cond.code yX9_greatest cX9_greatest 5 (some .int) ∈ tb := mb_3_0 _ (List.mem_of_getElem? (i := 0) rfl)
theorem hd_X0_bring_v : yX0_bring.cls = RX0 ∧ yX0_bring.cls ≠ "java/lang/invoke/MethodHandle" ∧ yX0_bring.cls ≠ "java/lang/invoke/VarHandle" ∧ (parseMethodDescriptor yX0_bring.desc).map (fun d => d.parameters.length) = some 1 := by decide +kernel
theorem hd_X0_has_v : yX0_has.cls = RX0 ∧ yX0_has.cls ≠ "java/lang/invoke/MethodHandle" ∧ yX0_has.cls ≠ "java/lang/invoke/VarHandle" ∧ (parseMethodDescriptor yX0_has.desc).map (fun d => d.parameters.length) = some 1 := by decide +kernel
theorem hd_X10_draw_v : yX10_draw.cls = RX10 ∧ yX10_draw.cls ≠ "java/lang/invoke/MethodHandle" ∧ yX10_draw.cls ≠ "java/lang/invoke/VarHandle" ∧ (parseMethodDescriptor yX10_draw.desc).map (fun d => d.parameters.length) = some 3 := by decide +kernel
theorem hd_X10_drawn_v : yX10_drawn.cls = RX10 ∧ yX10_drawn.cls ≠ "java/lang/invoke/MethodHandle" ∧ yX10_drawn.cls ≠ "java/lang/invoke/VarHandle" ∧ (parseMethodDescriptor yX10_drawn.desc).map (fun d => d.parameters.length) = some 2 := by decide +kernel
theorem hd_X10_dropOut_v : yX10_dropOut.cls = RX10 ∧ yX10_dropOut.cls ≠ "java/lang/invoke/MethodHandle" ∧ yX10_dropOut.cls ≠ "java/lang/invoke/VarHandle" ∧ (parseMethodDescriptor yX10_dropOut.desc).map (fun d => d.parameters.length) = some 2 := by decide +kernel
theorem hd_X10_dryIn_v : yX10_dryIn.cls = RX10 ∧ yX10_dryIn.cls ≠ "java/lang/invoke/MethodHandle" ∧ yX10_dryIn.cls ≠ "java/lang/invoke/VarHandle" ∧ (parseMethodDescriptor yX10_dryIn.desc).map (fun d => d.parameters.length) = some 3 := by decide +kernel
theorem hd_X10_has_v : yX10_has.cls = RX10 ∧ yX10_has.cls ≠ "java/lang/invoke/MethodHandle" ∧ yX10_has.cls ≠ "java/lang/invoke/VarHandle" ∧ (parseMethodDescriptor yX10_has.desc).map (fun d => d.parameters.length) = some 1 := by decide +kernel
theorem hd_X10_weigh_v : yX10_weigh.cls = RX10 ∧ yX10_weigh.cls ≠ "java/lang/invoke/MethodHandle" ∧ yX10_weigh.cls ≠ "java/lang/invoke/VarHandle" ∧ (parseMethodDescriptor yX10_weigh.desc).map (fun d => d.parameters.length) = some 4 := by decide +kernel
theorem hd_X11_within_v : yX11_within.cls = RX11 ∧ yX11_within.cls ≠ "java/lang/invoke/MethodHandle" ∧ yX11_within.cls ≠ "java/lang/invoke/VarHandle" ∧ (parseMethodDescriptor yX11_within.desc).map (fun d => d.parameters.length) = some 3 := by decide +kernel
theorem hd_X9_greatest_v : yX9_greatest.cls = RX9 ∧ yX9_greatest.cls ≠ "java/lang/invoke/MethodHandle" ∧ yX9_greatest.cls ≠ "java/lang/invoke/VarHandle" ∧ (parseMethodDescriptor yX9_greatest.desc).map (fun d => d.parameters.length) = some 2 := by decide +kernel
theorem hd_X9_least_v : yX9_least.cls = RX9 ∧ yX9_least.cls ≠ "java/lang/invoke/MethodHandle" ∧ yX9_least.cls ≠ "java/lang/invoke/VarHandle" ∧ (parseMethodDescriptor yX9_least.desc).map (fun d => d.parameters.length) = some 2 := by decide +kernel
theorem hd_X9_note_v : yX9_note.cls = RX9 ∧ yX9_note.cls ≠ "java/lang/invoke/MethodHandle" ∧ yX9_note.cls ≠ "java/lang/invoke/VarHandle" ∧ (parseMethodDescriptor yX9_note.desc).map (fun d => d.parameters.length) = some 3 := by decide +kernel
set_option maxRecDepth 100000 in
theorem dvX11_bale_0 : ([(0, .iload_n 1, 1), (1, .iconst 1, 1), (2, .ldc 95, 2), (4, .invokestatic 89, 3), (7, .ifCond .ne 6, 3), (10, .ldc 93, 2), (12, .ireturn, 1), (13, .aload_n 0, 1), (14, .getfield 26, 3), (17, .getfield 96, 3), (20, .bipush 10, 2), (22, .if_icmp .lt 6, 3), (25, .ldc 99, 2), (27, .ireturn, 1), (28, .aload_n 0, 1), (29, .getfield 26, 3), (32, .iload_n 1, 1), (33, .invokevirtual 100, 3), (36, .ireturn, 1)] : List (Nat × Instr × Nat)).all (fun q => decide (decode cX11_bale q.1 = .ok (q.2.1, q.2.2))) = true := by decide +kernel
theorem dX11_bale_0 : decode cX11_bale 0 = .ok (.iload_n 1, 1) := all_at dvX11_bale_0 0 rfl
theorem dX11_bale_1 : decode cX11_bale 1 = .ok (.iconst 1, 1) := all_at dvX11_bale_0 1 rfl
theorem dX11_bale_2 : decode cX11_bale 2 = .ok (.ldc 95, 2) := all_at dvX11_bale_0 2 rfl
theorem dX11_bale_4 : decode cX11_bale 4 = .ok (.invokestatic 89, 3) := all_at dvX11_bale_0 3 rfl
theorem dX11_bale_7 : decode cX11_bale 7 = .ok (.ifCond .ne 6, 3) := all_at dvX11_bale_0 4 rfl
theorem dX11_bale_10 : decode cX11_bale 10 = .ok (.ldc 93, 2) := all_at dvX11_bale_0 5 rfl
theorem dX11_bale_12 : decode cX11_bale 12 = .ok (.ireturn, 1) := all_at dvX11_bale_0 6 rfl
theorem dX11_bale_13 : decode cX11_bale 13 = .ok (.aload_n 0, 1) := all_at dvX11_bale_0 7 rfl
theorem dX11_bale_14 : decode cX11_bale 14 = .ok (.getfield 26, 3) := all_at dvX11_bale_0 8 rfl
theorem dX11_bale_17 : decode cX11_bale 17 = .ok (.getfield 96, 3) := all_at dvX11_bale_0 9 rfl
theorem dX11_bale_20 : decode cX11_bale 20 = .ok (.bipush 10, 2) := all_at dvX11_bale_0 10 rfl
theorem dX11_bale_22 : decode cX11_bale 22 = .ok (.if_icmp .lt 6, 3) := all_at dvX11_bale_0 11 rfl
theorem dX11_bale_25 : decode cX11_bale 25 = .ok (.ldc 99, 2) := all_at dvX11_bale_0 12 rfl
theorem dX11_bale_27 : decode cX11_bale 27 = .ok (.ireturn, 1) := all_at dvX11_bale_0 13 rfl
theorem dX11_bale_28 : decode cX11_bale 28 = .ok (.aload_n 0, 1) := all_at dvX11_bale_0 14 rfl
theorem dX11_bale_29 : decode cX11_bale 29 = .ok (.getfield 26, 3) := all_at dvX11_bale_0 15 rfl
theorem dX11_bale_32 : decode cX11_bale 32 = .ok (.iload_n 1, 1) := all_at dvX11_bale_0 16 rfl
theorem dX11_bale_33 : decode cX11_bale 33 = .ok (.invokevirtual 100, 3) := all_at dvX11_bale_0 17 rfl
theorem dX11_bale_36 : decode cX11_bale 36 = .ok (.ireturn, 1) := all_at dvX11_bale_0 18 rfl
set_option maxRecDepth 100000 in
theorem dvX11_error_0 : ([(0, .iload_n 1, 1), (1, .iconst 0, 1), (2, .iconst 3, 1), (3, .invokestatic 89, 3), (6, .ifCond .eq 23, 3), (9, .iload_n 2, 1), (10, .iconst 0, 1), (11, .sipush 3000, 3), (14, .invokestatic 89, 3), (17, .ifCond .eq 12, 3), (20, .iload_n 3, 1), (21, .iconst 0, 1), (22, .iconst 1, 1), (23, .invokestatic 89, 3), (26, .ifCond .ne 6, 3), (29, .ldc 93, 2), (31, .ireturn, 1), (32, .iload_n 3, 1), (33, .ifCond .ne 15, 3), (36, .aload_n 0, 1), (37, .getfield 19, 3), (40, .iload_n 1, 1), (41, .iload_n 2, 1), (42, .invokevirtual 138, 3)] : List (Nat × Instr × Nat)).all (fun q => decide (decode cX11_error q.1 = .ok (q.2.1, q.2.2))) = true := by decide +kernel
theorem dX11_error_0 : decode cX11_error 0 = .ok (.iload_n 1, 1) := all_at dvX11_error_0 0 rfl
theorem dX11_error_1 : decode cX11_error 1 = .ok (.iconst 0, 1) := all_at dvX11_error_0 1 rfl
theorem dX11_error_2 : decode cX11_error 2 = .ok (.iconst 3, 1) := all_at dvX11_error_0 2 rfl
theorem dX11_error_3 : decode cX11_error 3 = .ok (.invokestatic 89, 3) := all_at dvX11_error_0 3 rfl
theorem dX11_error_6 : decode cX11_error 6 = .ok (.ifCond .eq 23, 3) := all_at dvX11_error_0 4 rfl
theorem dX11_error_9 : decode cX11_error 9 = .ok (.iload_n 2, 1) := all_at dvX11_error_0 5 rfl
theorem dX11_error_10 : decode cX11_error 10 = .ok (.iconst 0, 1) := all_at dvX11_error_0 6 rfl
theorem dX11_error_11 : decode cX11_error 11 = .ok (.sipush 3000, 3) := all_at dvX11_error_0 7 rfl
theorem dX11_error_14 : decode cX11_error 14 = .ok (.invokestatic 89, 3) := all_at dvX11_error_0 8 rfl
theorem dX11_error_17 : decode cX11_error 17 = .ok (.ifCond .eq 12, 3) := all_at dvX11_error_0 9 rfl
theorem dX11_error_20 : decode cX11_error 20 = .ok (.iload_n 3, 1) := all_at dvX11_error_0 10 rfl
theorem dX11_error_21 : decode cX11_error 21 = .ok (.iconst 0, 1) := all_at dvX11_error_0 11 rfl
theorem dX11_error_22 : decode cX11_error 22 = .ok (.iconst 1, 1) := all_at dvX11_error_0 12 rfl
theorem dX11_error_23 : decode cX11_error 23 = .ok (.invokestatic 89, 3) := all_at dvX11_error_0 13 rfl
theorem dX11_error_26 : decode cX11_error 26 = .ok (.ifCond .ne 6, 3) := all_at dvX11_error_0 14 rfl
theorem dX11_error_29 : decode cX11_error 29 = .ok (.ldc 93, 2) := all_at dvX11_error_0 15 rfl
theorem dX11_error_31 : decode cX11_error 31 = .ok (.ireturn, 1) := all_at dvX11_error_0 16 rfl
theorem dX11_error_32 : decode cX11_error 32 = .ok (.iload_n 3, 1) := all_at dvX11_error_0 17 rfl
theorem dX11_error_33 : decode cX11_error 33 = .ok (.ifCond .ne 15, 3) := all_at dvX11_error_0 18 rfl
theorem dX11_error_36 : decode cX11_error 36 = .ok (.aload_n 0, 1) := all_at dvX11_error_0 19 rfl
theorem dX11_error_37 : decode cX11_error 37 = .ok (.getfield 19, 3) := all_at dvX11_error_0 20 rfl
theorem dX11_error_40 : decode cX11_error 40 = .ok (.iload_n 1, 1) := all_at dvX11_error_0 21 rfl
theorem dX11_error_41 : decode cX11_error 41 = .ok (.iload_n 2, 1) := all_at dvX11_error_0 22 rfl
theorem dX11_error_42 : decode cX11_error 42 = .ok (.invokevirtual 138, 3) := all_at dvX11_error_0 23 rfl
set_option maxRecDepth 100000 in
theorem dvX11_error_45 : ([(45, .goto 12, 3), (48, .aload_n 0, 1), (49, .getfield 19, 3), (52, .iload_n 1, 1), (53, .iload_n 2, 1), (54, .invokevirtual 141, 3), (57, .ireturn, 1)] : List (Nat × Instr × Nat)).all (fun q => decide (decode cX11_error q.1 = .ok (q.2.1, q.2.2))) = true := by decide +kernel
theorem dX11_error_45 : decode cX11_error 45 = .ok (.goto 12, 3) := all_at dvX11_error_45 0 rfl
theorem dX11_error_48 : decode cX11_error 48 = .ok (.aload_n 0, 1) := all_at dvX11_error_45 1 rfl
theorem dX11_error_49 : decode cX11_error 49 = .ok (.getfield 19, 3) := all_at dvX11_error_45 2 rfl
theorem dX11_error_52 : decode cX11_error 52 = .ok (.iload_n 1, 1) := all_at dvX11_error_45 3 rfl
theorem dX11_error_53 : decode cX11_error 53 = .ok (.iload_n 2, 1) := all_at dvX11_error_45 4 rfl
theorem dX11_error_54 : decode cX11_error 54 = .ok (.invokevirtual 141, 3) := all_at dvX11_error_45 5 rfl
theorem dX11_error_57 : decode cX11_error 57 = .ok (.ireturn, 1) := all_at dvX11_error_45 6 rfl
set_option maxRecDepth 100000 in
theorem dvX11_go_0 : ([(0, .iload_n 1, 1), (1, .iconst 0, 1), (2, .sipush 999, 3), (5, .invokestatic 89, 3), (8, .ifCond .ne 6, 3), (11, .ldc 93, 2), (13, .ireturn, 1), (14, .aload_n 0, 1), (15, .getfield 85, 3), (18, .iload_n 1, 1), (19, .iadd, 1), (20, .sipush 3000, 3), (23, .if_icmp .le 6, 3), (26, .ldc 94, 2), (28, .ireturn, 1), (29, .aload_n 0, 1), (30, .dup, 1), (31, .getfield 85, 3), (34, .iload_n 1, 1), (35, .iadd, 1), (36, .putfield 85, 3), (39, .aload_n 0, 1), (40, .getfield 85, 3), (43, .ireturn, 1)] : List (Nat × Instr × Nat)).all (fun q => decide (decode cX11_go q.1 = .ok (q.2.1, q.2.2))) = true := by decide +kernel
theorem dX11_go_0 : decode cX11_go 0 = .ok (.iload_n 1, 1) := all_at dvX11_go_0 0 rfl
theorem dX11_go_1 : decode cX11_go 1 = .ok (.iconst 0, 1) := all_at dvX11_go_0 1 rfl
theorem dX11_go_2 : decode cX11_go 2 = .ok (.sipush 999, 3) := all_at dvX11_go_0 2 rfl
theorem dX11_go_5 : decode cX11_go 5 = .ok (.invokestatic 89, 3) := all_at dvX11_go_0 3 rfl
theorem dX11_go_8 : decode cX11_go 8 = .ok (.ifCond .ne 6, 3) := all_at dvX11_go_0 4 rfl
theorem dX11_go_11 : decode cX11_go 11 = .ok (.ldc 93, 2) := all_at dvX11_go_0 5 rfl
theorem dX11_go_13 : decode cX11_go 13 = .ok (.ireturn, 1) := all_at dvX11_go_0 6 rfl
theorem dX11_go_14 : decode cX11_go 14 = .ok (.aload_n 0, 1) := all_at dvX11_go_0 7 rfl
theorem dX11_go_15 : decode cX11_go 15 = .ok (.getfield 85, 3) := all_at dvX11_go_0 8 rfl
theorem dX11_go_18 : decode cX11_go 18 = .ok (.iload_n 1, 1) := all_at dvX11_go_0 9 rfl
theorem dX11_go_19 : decode cX11_go 19 = .ok (.iadd, 1) := all_at dvX11_go_0 10 rfl
theorem dX11_go_20 : decode cX11_go 20 = .ok (.sipush 3000, 3) := all_at dvX11_go_0 11 rfl
theorem dX11_go_23 : decode cX11_go 23 = .ok (.if_icmp .le 6, 3) := all_at dvX11_go_0 12 rfl
theorem dX11_go_26 : decode cX11_go 26 = .ok (.ldc 94, 2) := all_at dvX11_go_0 13 rfl
theorem dX11_go_28 : decode cX11_go 28 = .ok (.ireturn, 1) := all_at dvX11_go_0 14 rfl
theorem dX11_go_29 : decode cX11_go 29 = .ok (.aload_n 0, 1) := all_at dvX11_go_0 15 rfl
theorem dX11_go_30 : decode cX11_go 30 = .ok (.dup, 1) := all_at dvX11_go_0 16 rfl
theorem dX11_go_31 : decode cX11_go 31 = .ok (.getfield 85, 3) := all_at dvX11_go_0 17 rfl
theorem dX11_go_34 : decode cX11_go 34 = .ok (.iload_n 1, 1) := all_at dvX11_go_0 18 rfl
theorem dX11_go_35 : decode cX11_go 35 = .ok (.iadd, 1) := all_at dvX11_go_0 19 rfl
theorem dX11_go_36 : decode cX11_go 36 = .ok (.putfield 85, 3) := all_at dvX11_go_0 20 rfl
theorem dX11_go_39 : decode cX11_go 39 = .ok (.aload_n 0, 1) := all_at dvX11_go_0 21 rfl
theorem dX11_go_40 : decode cX11_go 40 = .ok (.getfield 85, 3) := all_at dvX11_go_0 22 rfl
theorem dX11_go_43 : decode cX11_go 43 = .ok (.ireturn, 1) := all_at dvX11_go_0 23 rfl
set_option maxRecDepth 100000 in
theorem dvX11_lose_0 : ([(0, .aload_n 0, 1), (1, .getfield 10, 3), (4, .iload_n 1, 1), (5, .invokevirtual 126, 3), (8, .ifCond .ne 6, 3), (11, .ldc 108, 2), (13, .ireturn, 1), (14, .aload_n 0, 1), (15, .getfield 10, 3), (18, .iload_n 1, 1), (19, .bipush 8, 2), (21, .invokevirtual 127, 3), (24, .iconst (-1), 1), (25, .if_icmp .eq 6, 3), (28, .ldc 94, 2), (30, .ireturn, 1), (31, .aload_n 0, 1), (32, .getfield 10, 3), (35, .iload_n 1, 1), (36, .aload_n 0, 1), (37, .getfield 85, 3), (40, .invokevirtual 130, 3), (43, .iconst 1, 1), (44, .ireturn, 1)] : List (Nat × Instr × Nat)).all (fun q => decide (decode cX11_lose q.1 = .ok (q.2.1, q.2.2))) = true := by decide +kernel
theorem dX11_lose_0 : decode cX11_lose 0 = .ok (.aload_n 0, 1) := all_at dvX11_lose_0 0 rfl
theorem dX11_lose_1 : decode cX11_lose 1 = .ok (.getfield 10, 3) := all_at dvX11_lose_0 1 rfl
theorem dX11_lose_4 : decode cX11_lose 4 = .ok (.iload_n 1, 1) := all_at dvX11_lose_0 2 rfl
theorem dX11_lose_5 : decode cX11_lose 5 = .ok (.invokevirtual 126, 3) := all_at dvX11_lose_0 3 rfl
theorem dX11_lose_8 : decode cX11_lose 8 = .ok (.ifCond .ne 6, 3) := all_at dvX11_lose_0 4 rfl
theorem dX11_lose_11 : decode cX11_lose 11 = .ok (.ldc 108, 2) := all_at dvX11_lose_0 5 rfl
theorem dX11_lose_13 : decode cX11_lose 13 = .ok (.ireturn, 1) := all_at dvX11_lose_0 6 rfl
theorem dX11_lose_14 : decode cX11_lose 14 = .ok (.aload_n 0, 1) := all_at dvX11_lose_0 7 rfl
theorem dX11_lose_15 : decode cX11_lose 15 = .ok (.getfield 10, 3) := all_at dvX11_lose_0 8 rfl
theorem dX11_lose_18 : decode cX11_lose 18 = .ok (.iload_n 1, 1) := all_at dvX11_lose_0 9 rfl
theorem dX11_lose_19 : decode cX11_lose 19 = .ok (.bipush 8, 2) := all_at dvX11_lose_0 10 rfl
theorem dX11_lose_21 : decode cX11_lose 21 = .ok (.invokevirtual 127, 3) := all_at dvX11_lose_0 11 rfl
theorem dX11_lose_24 : decode cX11_lose 24 = .ok (.iconst (-1), 1) := all_at dvX11_lose_0 12 rfl
theorem dX11_lose_25 : decode cX11_lose 25 = .ok (.if_icmp .eq 6, 3) := all_at dvX11_lose_0 13 rfl
theorem dX11_lose_28 : decode cX11_lose 28 = .ok (.ldc 94, 2) := all_at dvX11_lose_0 14 rfl
theorem dX11_lose_30 : decode cX11_lose 30 = .ok (.ireturn, 1) := all_at dvX11_lose_0 15 rfl
theorem dX11_lose_31 : decode cX11_lose 31 = .ok (.aload_n 0, 1) := all_at dvX11_lose_0 16 rfl
theorem dX11_lose_32 : decode cX11_lose 32 = .ok (.getfield 10, 3) := all_at dvX11_lose_0 17 rfl
theorem dX11_lose_35 : decode cX11_lose 35 = .ok (.iload_n 1, 1) := all_at dvX11_lose_0 18 rfl
theorem dX11_lose_36 : decode cX11_lose 36 = .ok (.aload_n 0, 1) := all_at dvX11_lose_0 19 rfl
theorem dX11_lose_37 : decode cX11_lose 37 = .ok (.getfield 85, 3) := all_at dvX11_lose_0 20 rfl
theorem dX11_lose_40 : decode cX11_lose 40 = .ok (.invokevirtual 130, 3) := all_at dvX11_lose_0 21 rfl
theorem dX11_lose_43 : decode cX11_lose 43 = .ok (.iconst 1, 1) := all_at dvX11_lose_0 22 rfl
theorem dX11_lose_44 : decode cX11_lose 44 = .ok (.ireturn, 1) := all_at dvX11_lose_0 23 rfl
set_option maxRecDepth 100000 in
theorem dvX11_skein_0 : ([(0, .aload_n 0, 1), (1, .getfield 26, 3), (4, .iload_n 1, 1), (5, .invokevirtual 104, 3), (8, .ifCond .ne 6, 3), (11, .ldc 108, 2), (13, .ireturn, 1), (14, .iload_n 2, 1), (15, .iconst 0, 1), (16, .iconst 2, 1), (17, .invokestatic 89, 3), (20, .ifCond .eq 33, 3), (23, .iload_n 3, 1), (24, .iconst 0, 1), (25, .iconst 3, 1), (26, .invokestatic 89, 3), (29, .ifCond .eq 24, 3), (32, .iload 6, 2), (34, .iconst 0, 1), (35, .iconst 3, 1), (36, .invokestatic 89, 3), (39, .ifCond .eq 14, 3), (42, .iload 7, 2), (44, .iconst 0, 1)] : List (Nat × Instr × Nat)).all (fun q => decide (decode cX11_skein q.1 = .ok (q.2.1, q.2.2))) = true := by decide +kernel
theorem dX11_skein_0 : decode cX11_skein 0 = .ok (.aload_n 0, 1) := all_at dvX11_skein_0 0 rfl
theorem dX11_skein_1 : decode cX11_skein 1 = .ok (.getfield 26, 3) := all_at dvX11_skein_0 1 rfl
theorem dX11_skein_4 : decode cX11_skein 4 = .ok (.iload_n 1, 1) := all_at dvX11_skein_0 2 rfl
theorem dX11_skein_5 : decode cX11_skein 5 = .ok (.invokevirtual 104, 3) := all_at dvX11_skein_0 3 rfl
theorem dX11_skein_8 : decode cX11_skein 8 = .ok (.ifCond .ne 6, 3) := all_at dvX11_skein_0 4 rfl
theorem dX11_skein_11 : decode cX11_skein 11 = .ok (.ldc 108, 2) := all_at dvX11_skein_0 5 rfl
theorem dX11_skein_13 : decode cX11_skein 13 = .ok (.ireturn, 1) := all_at dvX11_skein_0 6 rfl
theorem dX11_skein_14 : decode cX11_skein 14 = .ok (.iload_n 2, 1) := all_at dvX11_skein_0 7 rfl
theorem dX11_skein_15 : decode cX11_skein 15 = .ok (.iconst 0, 1) := all_at dvX11_skein_0 8 rfl
theorem dX11_skein_16 : decode cX11_skein 16 = .ok (.iconst 2, 1) := all_at dvX11_skein_0 9 rfl
theorem dX11_skein_17 : decode cX11_skein 17 = .ok (.invokestatic 89, 3) := all_at dvX11_skein_0 10 rfl
theorem dX11_skein_20 : decode cX11_skein 20 = .ok (.ifCond .eq 33, 3) := all_at dvX11_skein_0 11 rfl
theorem dX11_skein_23 : decode cX11_skein 23 = .ok (.iload_n 3, 1) := all_at dvX11_skein_0 12 rfl
theorem dX11_skein_24 : decode cX11_skein 24 = .ok (.iconst 0, 1) := all_at dvX11_skein_0 13 rfl
theorem dX11_skein_25 : decode cX11_skein 25 = .ok (.iconst 3, 1) := all_at dvX11_skein_0 14 rfl
theorem dX11_skein_26 : decode cX11_skein 26 = .ok (.invokestatic 89, 3) := all_at dvX11_skein_0 15 rfl
theorem dX11_skein_29 : decode cX11_skein 29 = .ok (.ifCond .eq 24, 3) := all_at dvX11_skein_0 16 rfl
theorem dX11_skein_32 : decode cX11_skein 32 = .ok (.iload 6, 2) := all_at dvX11_skein_0 17 rfl
theorem dX11_skein_34 : decode cX11_skein 34 = .ok (.iconst 0, 1) := all_at dvX11_skein_0 18 rfl
theorem dX11_skein_35 : decode cX11_skein 35 = .ok (.iconst 3, 1) := all_at dvX11_skein_0 19 rfl
theorem dX11_skein_36 : decode cX11_skein 36 = .ok (.invokestatic 89, 3) := all_at dvX11_skein_0 20 rfl
theorem dX11_skein_39 : decode cX11_skein 39 = .ok (.ifCond .eq 14, 3) := all_at dvX11_skein_0 21 rfl
theorem dX11_skein_42 : decode cX11_skein 42 = .ok (.iload 7, 2) := all_at dvX11_skein_0 22 rfl
theorem dX11_skein_44 : decode cX11_skein 44 = .ok (.iconst 0, 1) := all_at dvX11_skein_0 23 rfl
set_option maxRecDepth 100000 in
theorem dvX11_skein_45 : ([(45, .bipush 7, 2), (47, .invokestatic 89, 3), (50, .ifCond .ne 6, 3), (53, .ldc 93, 2), (55, .ireturn, 1), (56, .iload 4, 2), (58, .bipush 100, 2), (60, .sipush 9999, 3), (63, .invokestatic 89, 3), (66, .ifCond .eq 15, 3), (69, .iload 5, 2), (71, .bipush 50, 2), (73, .iload 4, 2), (75, .invokestatic 89, 3), (78, .ifCond .ne 6, 3), (81, .ldc 93, 2), (83, .ireturn, 1), (84, .aload_n 0, 1), (85, .getfield 10, 3), (88, .getfield 109, 3), (91, .bipush 60, 2), (93, .if_icmp .ge 17, 3), (96, .aload_n 0, 1), (97, .getfield 10, 3)] : List (Nat × Instr × Nat)).all (fun q => decide (decode cX11_skein q.1 = .ok (q.2.1, q.2.2))) = true := by decide +kernel
theorem dX11_skein_45 : decode cX11_skein 45 = .ok (.bipush 7, 2) := all_at dvX11_skein_45 0 rfl
theorem dX11_skein_47 : decode cX11_skein 47 = .ok (.invokestatic 89, 3) := all_at dvX11_skein_45 1 rfl
theorem dX11_skein_50 : decode cX11_skein 50 = .ok (.ifCond .ne 6, 3) := all_at dvX11_skein_45 2 rfl
theorem dX11_skein_53 : decode cX11_skein 53 = .ok (.ldc 93, 2) := all_at dvX11_skein_45 3 rfl
theorem dX11_skein_55 : decode cX11_skein 55 = .ok (.ireturn, 1) := all_at dvX11_skein_45 4 rfl
theorem dX11_skein_56 : decode cX11_skein 56 = .ok (.iload 4, 2) := all_at dvX11_skein_45 5 rfl
theorem dX11_skein_58 : decode cX11_skein 58 = .ok (.bipush 100, 2) := all_at dvX11_skein_45 6 rfl
theorem dX11_skein_60 : decode cX11_skein 60 = .ok (.sipush 9999, 3) := all_at dvX11_skein_45 7 rfl
theorem dX11_skein_63 : decode cX11_skein 63 = .ok (.invokestatic 89, 3) := all_at dvX11_skein_45 8 rfl
theorem dX11_skein_66 : decode cX11_skein 66 = .ok (.ifCond .eq 15, 3) := all_at dvX11_skein_45 9 rfl
theorem dX11_skein_69 : decode cX11_skein 69 = .ok (.iload 5, 2) := all_at dvX11_skein_45 10 rfl
theorem dX11_skein_71 : decode cX11_skein 71 = .ok (.bipush 50, 2) := all_at dvX11_skein_45 11 rfl
theorem dX11_skein_73 : decode cX11_skein 73 = .ok (.iload 4, 2) := all_at dvX11_skein_45 12 rfl
theorem dX11_skein_75 : decode cX11_skein 75 = .ok (.invokestatic 89, 3) := all_at dvX11_skein_45 13 rfl
theorem dX11_skein_78 : decode cX11_skein 78 = .ok (.ifCond .ne 6, 3) := all_at dvX11_skein_45 14 rfl
theorem dX11_skein_81 : decode cX11_skein 81 = .ok (.ldc 93, 2) := all_at dvX11_skein_45 15 rfl
theorem dX11_skein_83 : decode cX11_skein 83 = .ok (.ireturn, 1) := all_at dvX11_skein_45 16 rfl
theorem dX11_skein_84 : decode cX11_skein 84 = .ok (.aload_n 0, 1) := all_at dvX11_skein_45 17 rfl
theorem dX11_skein_85 : decode cX11_skein 85 = .ok (.getfield 10, 3) := all_at dvX11_skein_45 18 rfl
theorem dX11_skein_88 : decode cX11_skein 88 = .ok (.getfield 109, 3) := all_at dvX11_skein_45 19 rfl
theorem dX11_skein_91 : decode cX11_skein 91 = .ok (.bipush 60, 2) := all_at dvX11_skein_45 20 rfl
theorem dX11_skein_93 : decode cX11_skein 93 = .ok (.if_icmp .ge 17, 3) := all_at dvX11_skein_45 21 rfl
theorem dX11_skein_96 : decode cX11_skein 96 = .ok (.aload_n 0, 1) := all_at dvX11_skein_45 22 rfl
theorem dX11_skein_97 : decode cX11_skein 97 = .ok (.getfield 10, 3) := all_at dvX11_skein_45 23 rfl
set_option maxRecDepth 100000 in
theorem dvX11_skein_100 : ([(100, .iload_n 1, 1), (101, .iload_n 2, 1), (102, .invokevirtual 110, 3), (105, .bipush 12, 2), (107, .if_icmp .lt 6, 3), (110, .ldc 99, 2), (112, .ireturn, 1), (113, .aload_n 0, 1), (114, .getfield 10, 3), (117, .iload_n 1, 1), (118, .iload_n 2, 1), (119, .aload_n 0, 1), (120, .getfield 85, 3), (123, .invokevirtual 114, 3), (126, .istore 8, 2), (128, .aload_n 0, 1), (129, .getfield 10, 3), (132, .iload 8, 2), (134, .iload_n 3, 1), (135, .iload 4, 2), (137, .iload 5, 2), (139, .invokevirtual 118, 3), (142, .aload_n 0, 1), (143, .getfield 10, 3)] : List (Nat × Instr × Nat)).all (fun q => decide (decode cX11_skein q.1 = .ok (q.2.1, q.2.2))) = true := by decide +kernel
theorem dX11_skein_100 : decode cX11_skein 100 = .ok (.iload_n 1, 1) := all_at dvX11_skein_100 0 rfl
theorem dX11_skein_101 : decode cX11_skein 101 = .ok (.iload_n 2, 1) := all_at dvX11_skein_100 1 rfl
theorem dX11_skein_102 : decode cX11_skein 102 = .ok (.invokevirtual 110, 3) := all_at dvX11_skein_100 2 rfl
theorem dX11_skein_105 : decode cX11_skein 105 = .ok (.bipush 12, 2) := all_at dvX11_skein_100 3 rfl
theorem dX11_skein_107 : decode cX11_skein 107 = .ok (.if_icmp .lt 6, 3) := all_at dvX11_skein_100 4 rfl
theorem dX11_skein_110 : decode cX11_skein 110 = .ok (.ldc 99, 2) := all_at dvX11_skein_100 5 rfl
theorem dX11_skein_112 : decode cX11_skein 112 = .ok (.ireturn, 1) := all_at dvX11_skein_100 6 rfl
theorem dX11_skein_113 : decode cX11_skein 113 = .ok (.aload_n 0, 1) := all_at dvX11_skein_100 7 rfl
theorem dX11_skein_114 : decode cX11_skein 114 = .ok (.getfield 10, 3) := all_at dvX11_skein_100 8 rfl
theorem dX11_skein_117 : decode cX11_skein 117 = .ok (.iload_n 1, 1) := all_at dvX11_skein_100 9 rfl
theorem dX11_skein_118 : decode cX11_skein 118 = .ok (.iload_n 2, 1) := all_at dvX11_skein_100 10 rfl
theorem dX11_skein_119 : decode cX11_skein 119 = .ok (.aload_n 0, 1) := all_at dvX11_skein_100 11 rfl
theorem dX11_skein_120 : decode cX11_skein 120 = .ok (.getfield 85, 3) := all_at dvX11_skein_100 12 rfl
theorem dX11_skein_123 : decode cX11_skein 123 = .ok (.invokevirtual 114, 3) := all_at dvX11_skein_100 13 rfl
theorem dX11_skein_126 : decode cX11_skein 126 = .ok (.istore 8, 2) := all_at dvX11_skein_100 14 rfl
theorem dX11_skein_128 : decode cX11_skein 128 = .ok (.aload_n 0, 1) := all_at dvX11_skein_100 15 rfl
theorem dX11_skein_129 : decode cX11_skein 129 = .ok (.getfield 10, 3) := all_at dvX11_skein_100 16 rfl
theorem dX11_skein_132 : decode cX11_skein 132 = .ok (.iload 8, 2) := all_at dvX11_skein_100 17 rfl
theorem dX11_skein_134 : decode cX11_skein 134 = .ok (.iload_n 3, 1) := all_at dvX11_skein_100 18 rfl
theorem dX11_skein_135 : decode cX11_skein 135 = .ok (.iload 4, 2) := all_at dvX11_skein_100 19 rfl
theorem dX11_skein_137 : decode cX11_skein 137 = .ok (.iload 5, 2) := all_at dvX11_skein_100 20 rfl
theorem dX11_skein_139 : decode cX11_skein 139 = .ok (.invokevirtual 118, 3) := all_at dvX11_skein_100 21 rfl
theorem dX11_skein_142 : decode cX11_skein 142 = .ok (.aload_n 0, 1) := all_at dvX11_skein_100 22 rfl
theorem dX11_skein_143 : decode cX11_skein 143 = .ok (.getfield 10, 3) := all_at dvX11_skein_100 23 rfl
set_option maxRecDepth 100000 in
theorem dvX11_skein_146 : ([(146, .iload 8, 2), (148, .iload 6, 2), (150, .iload 7, 2), (152, .invokevirtual 122, 3), (155, .iload 8, 2), (157, .ireturn, 1)] : List (Nat × Instr × Nat)).all (fun q => decide (decode cX11_skein q.1 = .ok (q.2.1, q.2.2))) = true := by decide +kernel
theorem dX11_skein_146 : decode cX11_skein 146 = .ok (.iload 8, 2) := all_at dvX11_skein_146 0 rfl
theorem dX11_skein_148 : decode cX11_skein 148 = .ok (.iload 6, 2) := all_at dvX11_skein_146 1 rfl
theorem dX11_skein_150 : decode cX11_skein 150 = .ok (.iload 7, 2) := all_at dvX11_skein_146 2 rfl
theorem dX11_skein_152 : decode cX11_skein 152 = .ok (.invokevirtual 122, 3) := all_at dvX11_skein_146 3 rfl
theorem dX11_skein_155 : decode cX11_skein 155 = .ok (.iload 8, 2) := all_at dvX11_skein_146 4 rfl
theorem dX11_skein_157 : decode cX11_skein 157 = .ok (.ireturn, 1) := all_at dvX11_skein_146 5 rfl
set_option maxRecDepth 100000 in
theorem dvX11_test_0 : ([(0, .iload_n 1, 1), (1, .iconst 0, 1), (2, .iconst 3, 1), (3, .invokestatic 89, 3), (6, .ifCond .eq 25, 3), (9, .iload_n 2, 1), (10, .iconst 1, 1), (11, .sipush 9999, 3), (14, .invokestatic 89, 3), (17, .ifCond .eq 14, 3), (20, .iload_n 3, 1), (21, .iconst 1, 1), (22, .sipush 9999, 3), (25, .invokestatic 89, 3), (28, .ifCond .ne 6, 3), (31, .ldc 93, 2), (33, .ireturn, 1), (34, .aload_n 0, 1), (35, .getfield 19, 3), (38, .getfield 134, 3), (41, .bipush 30, 2), (43, .if_icmp .lt 6, 3), (46, .ldc 99, 2), (48, .ireturn, 1)] : List (Nat × Instr × Nat)).all (fun q => decide (decode cX11_test q.1 = .ok (q.2.1, q.2.2))) = true := by decide +kernel
theorem dX11_test_0 : decode cX11_test 0 = .ok (.iload_n 1, 1) := all_at dvX11_test_0 0 rfl
theorem dX11_test_1 : decode cX11_test 1 = .ok (.iconst 0, 1) := all_at dvX11_test_0 1 rfl
theorem dX11_test_2 : decode cX11_test 2 = .ok (.iconst 3, 1) := all_at dvX11_test_0 2 rfl
theorem dX11_test_3 : decode cX11_test 3 = .ok (.invokestatic 89, 3) := all_at dvX11_test_0 3 rfl
theorem dX11_test_6 : decode cX11_test 6 = .ok (.ifCond .eq 25, 3) := all_at dvX11_test_0 4 rfl
theorem dX11_test_9 : decode cX11_test 9 = .ok (.iload_n 2, 1) := all_at dvX11_test_0 5 rfl
theorem dX11_test_10 : decode cX11_test 10 = .ok (.iconst 1, 1) := all_at dvX11_test_0 6 rfl
theorem dX11_test_11 : decode cX11_test 11 = .ok (.sipush 9999, 3) := all_at dvX11_test_0 7 rfl
theorem dX11_test_14 : decode cX11_test 14 = .ok (.invokestatic 89, 3) := all_at dvX11_test_0 8 rfl
theorem dX11_test_17 : decode cX11_test 17 = .ok (.ifCond .eq 14, 3) := all_at dvX11_test_0 9 rfl
theorem dX11_test_20 : decode cX11_test 20 = .ok (.iload_n 3, 1) := all_at dvX11_test_0 10 rfl
theorem dX11_test_21 : decode cX11_test 21 = .ok (.iconst 1, 1) := all_at dvX11_test_0 11 rfl
theorem dX11_test_22 : decode cX11_test 22 = .ok (.sipush 9999, 3) := all_at dvX11_test_0 12 rfl
theorem dX11_test_25 : decode cX11_test 25 = .ok (.invokestatic 89, 3) := all_at dvX11_test_0 13 rfl
theorem dX11_test_28 : decode cX11_test 28 = .ok (.ifCond .ne 6, 3) := all_at dvX11_test_0 14 rfl
theorem dX11_test_31 : decode cX11_test 31 = .ok (.ldc 93, 2) := all_at dvX11_test_0 15 rfl
theorem dX11_test_33 : decode cX11_test 33 = .ok (.ireturn, 1) := all_at dvX11_test_0 16 rfl
theorem dX11_test_34 : decode cX11_test 34 = .ok (.aload_n 0, 1) := all_at dvX11_test_0 17 rfl
theorem dX11_test_35 : decode cX11_test 35 = .ok (.getfield 19, 3) := all_at dvX11_test_0 18 rfl
theorem dX11_test_38 : decode cX11_test 38 = .ok (.getfield 134, 3) := all_at dvX11_test_0 19 rfl
theorem dX11_test_41 : decode cX11_test 41 = .ok (.bipush 30, 2) := all_at dvX11_test_0 20 rfl
theorem dX11_test_43 : decode cX11_test 43 = .ok (.if_icmp .lt 6, 3) := all_at dvX11_test_0 21 rfl
theorem dX11_test_46 : decode cX11_test 46 = .ok (.ldc 99, 2) := all_at dvX11_test_0 22 rfl
theorem dX11_test_48 : decode cX11_test 48 = .ok (.ireturn, 1) := all_at dvX11_test_0 23 rfl
set_option maxRecDepth 100000 in
theorem dvX11_test_49 : ([(49, .aload_n 0, 1), (50, .getfield 19, 3), (53, .iload_n 1, 1), (54, .aload_n 0, 1), (55, .getfield 85, 3), (58, .iload_n 2, 1), (59, .iload_n 3, 1), (60, .isub, 1), (61, .invokevirtual 135, 3), (64, .ireturn, 1)] : List (Nat × Instr × Nat)).all (fun q => decide (decode cX11_test q.1 = .ok (q.2.1, q.2.2))) = true := by decide +kernel
theorem dX11_test_49 : decode cX11_test 49 = .ok (.aload_n 0, 1) := all_at dvX11_test_49 0 rfl
theorem dX11_test_50 : decode cX11_test 50 = .ok (.getfield 19, 3) := all_at dvX11_test_49 1 rfl
theorem dX11_test_53 : decode cX11_test 53 = .ok (.iload_n 1, 1) := all_at dvX11_test_49 2 rfl
theorem dX11_test_54 : decode cX11_test 54 = .ok (.aload_n 0, 1) := all_at dvX11_test_49 3 rfl
theorem dX11_test_55 : decode cX11_test 55 = .ok (.getfield 85, 3) := all_at dvX11_test_49 4 rfl
theorem dX11_test_58 : decode cX11_test 58 = .ok (.iload_n 2, 1) := all_at dvX11_test_49 5 rfl
theorem dX11_test_59 : decode cX11_test 59 = .ok (.iload_n 3, 1) := all_at dvX11_test_49 6 rfl
theorem dX11_test_60 : decode cX11_test 60 = .ok (.isub, 1) := all_at dvX11_test_49 7 rfl
theorem dX11_test_61 : decode cX11_test 61 = .ok (.invokevirtual 135, 3) := all_at dvX11_test_49 8 rfl
theorem dX11_test_64 : decode cX11_test 64 = .ok (.ireturn, 1) := all_at dvX11_test_49 9 rfl
set_option maxRecDepth 100000 in
theorem dvX11_told_0 : ([(0, .aload_n 0, 1), (1, .getfield 10, 3), (4, .iload_n 1, 1), (5, .invokevirtual 126, 3), (8, .ifCond .ne 6, 3), (11, .ldc 108, 2), (13, .ireturn, 1), (14, .iload_n 2, 1), (15, .iconst 0, 1), (16, .bipush 8, 2), (18, .invokestatic 89, 3), (21, .ifCond .eq 15, 3), (24, .aload_n 0, 1), (25, .getfield 10, 3), (28, .iload_n 1, 1), (29, .iload_n 2, 1), (30, .invokevirtual 127, 3), (33, .goto 5, 3), (36, .ldc 93, 2), (38, .ireturn, 1)] : List (Nat × Instr × Nat)).all (fun q => decide (decode cX11_told q.1 = .ok (q.2.1, q.2.2))) = true := by decide +kernel
theorem dX11_told_0 : decode cX11_told 0 = .ok (.aload_n 0, 1) := all_at dvX11_told_0 0 rfl
theorem dX11_told_1 : decode cX11_told 1 = .ok (.getfield 10, 3) := all_at dvX11_told_0 1 rfl
theorem dX11_told_4 : decode cX11_told 4 = .ok (.iload_n 1, 1) := all_at dvX11_told_0 2 rfl
theorem dX11_told_5 : decode cX11_told 5 = .ok (.invokevirtual 126, 3) := all_at dvX11_told_0 3 rfl
theorem dX11_told_8 : decode cX11_told 8 = .ok (.ifCond .ne 6, 3) := all_at dvX11_told_0 4 rfl
theorem dX11_told_11 : decode cX11_told 11 = .ok (.ldc 108, 2) := all_at dvX11_told_0 5 rfl
theorem dX11_told_13 : decode cX11_told 13 = .ok (.ireturn, 1) := all_at dvX11_told_0 6 rfl
theorem dX11_told_14 : decode cX11_told 14 = .ok (.iload_n 2, 1) := all_at dvX11_told_0 7 rfl
theorem dX11_told_15 : decode cX11_told 15 = .ok (.iconst 0, 1) := all_at dvX11_told_0 8 rfl
theorem dX11_told_16 : decode cX11_told 16 = .ok (.bipush 8, 2) := all_at dvX11_told_0 9 rfl
theorem dX11_told_18 : decode cX11_told 18 = .ok (.invokestatic 89, 3) := all_at dvX11_told_0 10 rfl
theorem dX11_told_21 : decode cX11_told 21 = .ok (.ifCond .eq 15, 3) := all_at dvX11_told_0 11 rfl
theorem dX11_told_24 : decode cX11_told 24 = .ok (.aload_n 0, 1) := all_at dvX11_told_0 12 rfl
theorem dX11_told_25 : decode cX11_told 25 = .ok (.getfield 10, 3) := all_at dvX11_told_0 13 rfl
theorem dX11_told_28 : decode cX11_told 28 = .ok (.iload_n 1, 1) := all_at dvX11_told_0 14 rfl
theorem dX11_told_29 : decode cX11_told 29 = .ok (.iload_n 2, 1) := all_at dvX11_told_0 15 rfl
theorem dX11_told_30 : decode cX11_told 30 = .ok (.invokevirtual 127, 3) := all_at dvX11_told_0 16 rfl
theorem dX11_told_33 : decode cX11_told 33 = .ok (.goto 5, 3) := all_at dvX11_told_0 17 rfl
theorem dX11_told_36 : decode cX11_told 36 = .ok (.ldc 93, 2) := all_at dvX11_told_0 18 rfl
theorem dX11_told_38 : decode cX11_told 38 = .ok (.ireturn, 1) := all_at dvX11_told_0 19 rfl
set_option maxRecDepth 100000 in
theorem dvX11_within_0 : ([(0, .iload_n 0, 1), (1, .iload_n 1, 1), (2, .if_icmp .lt 12, 3), (5, .iload_n 0, 1), (6, .iload_n 2, 1), (7, .if_icmp .gt 7, 3), (10, .iconst 1, 1), (11, .goto 4, 3), (14, .iconst 0, 1), (15, .ireturn, 1)] : List (Nat × Instr × Nat)).all (fun q => decide (decode cX11_within q.1 = .ok (q.2.1, q.2.2))) = true := by decide +kernel
theorem dX11_within_0 : decode cX11_within 0 = .ok (.iload_n 0, 1) := all_at dvX11_within_0 0 rfl
theorem dX11_within_1 : decode cX11_within 1 = .ok (.iload_n 1, 1) := all_at dvX11_within_0 1 rfl
theorem dX11_within_2 : decode cX11_within 2 = .ok (.if_icmp .lt 12, 3) := all_at dvX11_within_0 2 rfl
theorem dX11_within_5 : decode cX11_within 5 = .ok (.iload_n 0, 1) := all_at dvX11_within_0 3 rfl
theorem dX11_within_6 : decode cX11_within 6 = .ok (.iload_n 2, 1) := all_at dvX11_within_0 4 rfl
theorem dX11_within_7 : decode cX11_within 7 = .ok (.if_icmp .gt 7, 3) := all_at dvX11_within_0 5 rfl
theorem dX11_within_10 : decode cX11_within 10 = .ok (.iconst 1, 1) := all_at dvX11_within_0 6 rfl
theorem dX11_within_11 : decode cX11_within 11 = .ok (.goto 4, 3) := all_at dvX11_within_0 7 rfl
theorem dX11_within_14 : decode cX11_within 14 = .ok (.iconst 0, 1) := all_at dvX11_within_0 8 rfl
theorem dX11_within_15 : decode cX11_within 15 = .ok (.ireturn, 1) := all_at dvX11_within_0 9 rfl
set_option maxHeartbeats 4000000 in
set_option maxRecDepth 100000 in
/-- X11_within -/
theorem c_X11_within (l : Launch) (dC : Nat → ClassId) (dI : Nat → Nat → Nat) (n : Int32) (lo : Int32) (hi : Int32) (N L M : Int) (hn : n.toInt = N) (hlo : lo.toInt = L) (hhi : hi.toInt = M) : Met l yX11_within (wc yX11_within cX11_within 3 (some .boolean)) ({ frames := 0, cells := 0, slots := 0, locals := 0 } : Room) (pR (dC, dI) classes [] [] [.int n, .int lo, .int hi]) (vp_Si (fun r => (r = 1 ∧ (L ≤ N ∧ N ≤ M)) ∨ (r = 0 ∧ ¬ (L ≤ N ∧ N ≤ M)))) 0 0 (fun _ => False) := by
  refine Met.ofW (cc := cX11_within) (maxL := 3) (ret := (some .boolean)) (by decide) rfl ?_
  intro p e s m args below meth c s₁ B hml hv
  obtain ⟨rfl, hP, hK⟩ := hv
  have hx := B.exec
  have hb := B.bytes
  have hr := B.returns
  have ht := tb_tl (atoms_spec (ws := wc yX11_within cX11_within 3 (some .boolean)) B.pre)
  have hown : s.vm.findClass RX11 = some m.cls := findClass_of_methodNamed B.named
  have hlocks := B.notSynchronized
  have hl := lv_entry [.int n, .int lo, .int hi] (n := 3) (Nat.le_of_ble_eq_true rfl)
  rw [lg_entry_eq]
  generalize (lg_sl [.int n, .int lo, .int hi] ++ List.replicate (3 - (lg_sl [.int n, .int lo, .int hi]).length) Slot.unset).toArray = ls at hl ⊢
  have hl : lv_has ls 3 [(0, .int n), (1, .int lo), (2, .int hi)] := hl
  refine lv_iload_n hx hb dX11_within_0 rfl (lv_at hl 0 rfl) ?_
  refine lv_iload_n hx hb dX11_within_1 rfl (lv_at hl 1 rfl) ?_
  refine lv_icmp_lt (tgt := 14) hx hb dX11_within_2 (by decide) (fun c1 => ?_) (fun c1 => ?_)
  · have fc1 := z_lt hn hlo c1
    refine lv_iconst (v := 0) hx hb dX11_within_14 (by decide) ?_
    exact W.zret (v := 0) hx hb hr rfl (fun t ht9 hW => ⟨0, rfl, Or.inr ⟨rfl, by omega⟩, ht9⟩) (fun q hq => by cases hq) dX11_within_15
  · have fc1 := z_nlt hn hlo c1
    refine lv_iload_n hx hb dX11_within_5 rfl (lv_at hl 0 rfl) ?_
    refine lv_iload_n hx hb dX11_within_6 rfl (lv_at hl 2 rfl) ?_
    refine lv_icmp_gt (tgt := 14) hx hb dX11_within_7 (by decide) (fun c2 => ?_) (fun c2 => ?_)
    · have fc2 := z_lt hhi hn c2
      refine lv_iconst (v := 0) hx hb dX11_within_14 (by decide) ?_
      exact W.zret (v := 0) hx hb hr rfl (fun t ht9 hW => ⟨0, rfl, Or.inr ⟨rfl, by omega⟩, ht9⟩) (fun q hq => by cases hq) dX11_within_15
    · have fc2 := z_nlt hhi hn c2
      refine lv_iconst (v := 1) hx hb dX11_within_10 (by decide) ?_
      refine lv_goto (tgt := 15) hx hb dX11_within_11 (by decide) ?_
      exact W.zret (v := 1) hx hb hr rfl (fun t ht9 hW => ⟨1, rfl, Or.inl ⟨rfl, by omega⟩, ht9⟩) (fun q hq => by cases hq) dX11_within_15
set_option maxHeartbeats 4000000 in
set_option maxRecDepth 100000 in
/-- X11_go -/
theorem c_X11_go (l : Launch) (dC : Nat → ClassId) (dI : Nat → Nat → Nat) (sz : Nat) (h : Nat) (g : Nat → Nat → Nat) (ca : Nat → Nat → ClassId) (iv : Nat → Nat → Int32) (lv : Nat → Nat → Int64) (fa : Nat → Nat → Nat → Int32) (la : Nat → Nat → Nat → Int64) (hI : IX iv fa) (n : Int32) : Met l yX11_go (wc yX11_go cX11_go 2 (some .int)) ({ frames := 1, cells := 0, slots := 0, locals := 22 } : Room) (pW (dC, dI) classes (WX h g ca iv lv fa la) (TX ca) sz [.ref h, .int n]) (va_Qi (fun r (u : SS) => ∃ (ni_11_10 : Int32), inb (bI 11 10) ni_11_10 ∧ ((-100003) ≤ r.toInt ∧ r.toInt ≤ 3000) ∧ u = ((u2 iv 11 10 ni_11_10), lv, fa, la)) (bX (dC, dI) h g ca (va_A (WX h g ca iv lv fa la) sz)) (va_A (WX h g ca iv lv fa la) sz)) 0 0 (va_A (WX h g ca iv lv fa la) sz) := by
  refine Met.ofW (cc := cX11_go) (maxL := 2) (ret := (some .int)) (by decide) rfl ?_
  intro p e s m args below meth c s₁ B hml hv
  obtain ⟨rfl, hsz, hP, hK, hD0⟩ := hv
  have hx := B.exec
  have hb := B.bytes
  have hr := B.returns
  have ht := tb_tl (atoms_spec (ws := wc yX11_go cX11_go 2 (some .int)) B.pre)
  have hown : s.vm.findClass RX11 = some m.cls := findClass_of_methodNamed B.named
  have hlocks := B.notSynchronized
  subst hsz
  have hD := hD0.self (sz := s.heap.size)
  generalize hAe : va_A (WX h g ca iv lv fa la) s.heap.size = A at hD ⊢
  have hA : ∀ q : Nat, s.heap.size ≤ q → A q := fun q h => by rw [← hAe]; exact Or.inr h
  have hS : va_S A s.heap s.heap [] := va_S.rf
  have hl := lv_entry [.ref h, .int n] (n := 2) (Nat.le_of_ble_eq_true rfl)
  rw [lg_entry_eq]
  generalize (lg_sl [.ref h, .int n] ++ List.replicate (2 - (lg_sl [.ref h, .int n]).length) Slot.unset).toArray = ls at hl ⊢
  have hl : lv_has ls 2 [(0, .ref h), (1, .int n)] := hl
  refine lv_iload_n hx hb dX11_go_0 rfl (lv_at hl 1 rfl) ?_
  refine lv_iconst (v := 0) hx hb dX11_go_1 (by decide) ?_
  refine lv_sipush (v := 999) hx hb dX11_go_2 (by decide) ?_
  refine vp_callSi (W.runS (As := [.int n, .int 0, .int 999]) (rest := []) ⟨hx, hb, hml, hown, ht⟩ (c_X11_within l dC dI n 0 999 (n.toInt) (0) (999) (rfl : (n).toInt = _) (by decide : (0 : Int32).toInt = 0) (by decide : (999 : Int32).toInt = 999)) (kS 3 ht m_453 m_454 m_77 m_455 rfl rfl hd_X11_within_v ⟨Nat.le_of_ble_eq_true rfl, Nat.le_of_ble_eq_true rfl⟩) (sR noP (hK.sub (tys' := []) [] rfl)) rfl rfl hl.1 rfl (lv_room (Nat.le_of_ble_eq_true rfl)) dX11_go_5 ⟨Nat.le_of_ble_eq_true rfl, Nat.le_of_ble_eq_true rfl⟩) (fun r1 hr1 => ?_)
  rcases hr1 with ⟨rfl, fr1⟩ | ⟨rfl, fr1⟩
  · skip
    refine lv_if_ne (tgt := 14) hx hb dX11_go_8 (by decide) (fun c2 => ?_) (fun c2 => ?_)
    · skip
      refine lv_aload_n hx hb dX11_go_14 rfl (lv_at hl 0 rfl) ?_
      have i_11_10 : 0 ≤ (iv 11 10).toInt ∧ (iv 11 10).toInt ≤ 3000 := hI.1 11 10
      refine gX_11_10 hx hb ht hown hK hP m_425 (v := (iv 11 10)) rfl dX11_go_15 ?_
      refine lv_iload_n hx hb dX11_go_18 rfl (lv_at hl 1 rfl) ?_
      refine lv_iadd hx hb dX11_go_19 ?_
      refine lv_topi (fun v3 ev3 => ?_)
      have tv3 := z_add ev3 (rfl : ((iv 11 10)).toInt = _) (rfl : (n).toInt = _) (by omega) (by omega)
      refine lv_sipush (v := 3000) hx hb dX11_go_20 (by decide) ?_
      refine lv_icmp_le (tgt := 29) hx hb dX11_go_23 (by decide) (fun c4 => ?_) (fun c4 => ?_)
      · have fc4 := z_le (rfl : (v3).toInt = _) (by decide : (3000 : Int32).toInt = 3000) c4
        refine lv_aload_n hx hb dX11_go_29 rfl (lv_at hl 0 rfl) ?_
        refine lv_dup hx hb dX11_go_30 rfl ?_
        refine gX_11_10 hx hb ht hown hK hP m_425 (v := (iv 11 10)) rfl dX11_go_31 ?_
        refine lv_iload_n hx hb dX11_go_34 rfl (lv_at hl 1 rfl) ?_
        refine lv_iadd hx hb dX11_go_35 ?_
        refine lv_topi (fun v5 ev5 => ?_)
        obtain rfl : v3 = v5 := ev3.trans ev5.symm
        refine pX_11_10 (v := v3) hx hb ht hown hK hP hD hS m_425 dX11_go_36 (fun H locs hP hD hS => ?_)
        refine lv_aload_n hx hb dX11_go_39 rfl (lv_at hl 0 rfl) ?_
        refine gX_11_10 hx hb ht hown hK hP m_425 (v := v3) rfl dX11_go_40 ?_
        have hP9 : va_P (dC, dI) classes (WX h g ca (u2 iv 11 10 v3) lv fa la) H := hP
        have hD9 : va_D A (WX h g ca (u2 iv 11 10 v3) lv fa la) := hD
        exact W.iret (v := v3) hx hb hr (fun t ht9 hW => ⟨⟨v3, ((u2 iv 11 10 v3), lv, fa, la), rfl, ⟨v3, (show inb (0, 3000) v3 from ⟨by omega, by omega⟩), ⟨by omega, by omega⟩, rfl⟩, by rw [ht9]; exact hP9, hD9⟩, hS.F ht9⟩) hS.2.2 dX11_go_43
      · have fc4 := z_nle (rfl : (v3).toInt = _) (by decide : (3000 : Int32).toInt = 3000) c4
        refine lv_ldc hx hb hown (ht _ m_457) dX11_go_26 ?_
        have hP9 : va_P (dC, dI) classes (WX h g ca (u2 iv 11 10 (iv 11 10)) lv fa la) s.heap := hP
        have hD9 : va_D A (WX h g ca (u2 iv 11 10 (iv 11 10)) lv fa la) := hD
        exact W.iret (v := (-100003)) hx hb hr (fun t ht9 hW => ⟨⟨(-100003), ((u2 iv 11 10 (iv 11 10)), lv, fa, la), rfl, ⟨(iv 11 10), (hI.1 11 10), ⟨by decide, by decide⟩, rfl⟩, by rw [ht9]; exact hP9, hD9⟩, hS.F ht9⟩) hS.2.2 dX11_go_28
    · exact absurd c2 (by decide)
  · skip
    refine lv_if_ne (tgt := 14) hx hb dX11_go_8 (by decide) (fun c6 => ?_) (fun c6 => ?_)
    · exact absurd rfl c6
    · skip
      refine lv_ldc hx hb hown (ht _ m_456) dX11_go_11 ?_
      have hP9 : va_P (dC, dI) classes (WX h g ca (u2 iv 11 10 (iv 11 10)) lv fa la) s.heap := hP
      have hD9 : va_D A (WX h g ca (u2 iv 11 10 (iv 11 10)) lv fa la) := hD
      exact W.iret (v := (-100002)) hx hb hr (fun t ht9 hW => ⟨⟨(-100002), ((u2 iv 11 10 (iv 11 10)), lv, fa, la), rfl, ⟨(iv 11 10), (hI.1 11 10), ⟨by decide, by decide⟩, rfl⟩, by rw [ht9]; exact hP9, hD9⟩, hS.F ht9⟩) hS.2.2 dX11_go_13
set_option maxHeartbeats 4000000 in
set_option maxRecDepth 100000 in
/-- X11_bale -/
theorem c_X11_bale (l : Launch) (dC : Nat → ClassId) (dI : Nat → Nat → Nat) (sz : Nat) (h : Nat) (g : Nat → Nat → Nat) (ca : Nat → Nat → ClassId) (iv : Nat → Nat → Int32) (lv : Nat → Nat → Int64) (fa : Nat → Nat → Nat → Int32) (la : Nat → Nat → Nat → Int64) (hI : IX iv fa) (n : Int32) : Met l yX11_bale (wc yX11_bale cX11_bale 2 (some .int)) ({ frames := 1, cells := 0, slots := 0, locals := 22 } : Room) (pW (dC, dI) classes (WX h g ca iv lv fa la) (TX ca) sz [.ref h, .int n]) (va_Qi (fun r (u : SS) => ∃ (na_0_0 : Nat → Int32) (ni_0_7 : Int32), inb (bI 0 7) ni_0_7 ∧ ((-100004) ≤ r.toInt ∧ r.toInt ≤ 9) ∧ u = ((u2 iv 0 7 ni_0_7), lv, (u2 fa 0 0 na_0_0), la)) (bX (dC, dI) h g ca (va_A (WX h g ca iv lv fa la) sz)) (va_A (WX h g ca iv lv fa la) sz)) 0 0 (va_A (WX h g ca iv lv fa la) sz) := by
  refine Met.ofW (cc := cX11_bale) (maxL := 2) (ret := (some .int)) (by decide) rfl ?_
  intro p e s m args below meth c s₁ B hml hv
  obtain ⟨rfl, hsz, hP, hK, hD0⟩ := hv
  have hx := B.exec
  have hb := B.bytes
  have hr := B.returns
  have ht := tb_tl (atoms_spec (ws := wc yX11_bale cX11_bale 2 (some .int)) B.pre)
  have hown : s.vm.findClass RX11 = some m.cls := findClass_of_methodNamed B.named
  have hlocks := B.notSynchronized
  subst hsz
  have hD := hD0.self (sz := s.heap.size)
  generalize hAe : va_A (WX h g ca iv lv fa la) s.heap.size = A at hD ⊢
  have hA : ∀ q : Nat, s.heap.size ≤ q → A q := fun q h => by rw [← hAe]; exact Or.inr h
  have hS : va_S A s.heap s.heap [] := va_S.rf
  have hl := lv_entry [.ref h, .int n] (n := 2) (Nat.le_of_ble_eq_true rfl)
  rw [lg_entry_eq]
  generalize (lg_sl [.ref h, .int n] ++ List.replicate (2 - (lg_sl [.ref h, .int n]).length) Slot.unset).toArray = ls at hl ⊢
  have hl : lv_has ls 2 [(0, .ref h), (1, .int n)] := hl
  refine lv_iload_n hx hb dX11_bale_0 rfl (lv_at hl 1 rfl) ?_
  refine lv_iconst (v := 1) hx hb dX11_bale_1 (by decide) ?_
  refine lv_ldc hx hb hown (ht _ m_462) dX11_bale_2 ?_
  refine vp_callSi (W.runS (As := [.int n, .int 1, .int 99999]) (rest := []) ⟨hx, hb, hml, hown, ht⟩ (c_X11_within l dC dI n 1 99999 (n.toInt) (1) (99999) (rfl : (n).toInt = _) (by decide : (1 : Int32).toInt = 1) (by decide : (99999 : Int32).toInt = 99999)) (kS 3 ht m_453 m_454 m_77 m_455 rfl rfl hd_X11_within_v ⟨Nat.le_of_ble_eq_true rfl, Nat.le_of_ble_eq_true rfl⟩) (sR noP (hK.sub (tys' := []) [] rfl)) rfl rfl hl.1 rfl (lv_room (Nat.le_of_ble_eq_true rfl)) dX11_bale_4 ⟨Nat.le_of_ble_eq_true rfl, Nat.le_of_ble_eq_true rfl⟩) (fun r1 hr1 => ?_)
  rcases hr1 with ⟨rfl, fr1⟩ | ⟨rfl, fr1⟩
  · skip
    refine lv_if_ne (tgt := 13) hx hb dX11_bale_7 (by decide) (fun c2 => ?_) (fun c2 => ?_)
    · skip
      refine lv_aload_n hx hb dX11_bale_13 rfl (lv_at hl 0 rfl) ?_
      refine gX_11_2 hx hb ht hown hK hP m_417 dX11_bale_14 ?_
      have i_0_7 : 0 ≤ (iv 0 7).toInt ∧ (iv 0 7).toInt ≤ 10 := hI.1 0 7
      refine gX_0_7 hx hb ht hown hK hP m_165 (v := (iv 0 7)) rfl dX11_bale_17 ?_
      refine lv_bipush (v := 10) hx hb dX11_bale_20 (by decide) ?_
      refine lv_icmp_lt (tgt := 28) hx hb dX11_bale_22 (by decide) (fun c3 => ?_) (fun c3 => ?_)
      · have fc3 := z_lt (rfl : ((iv 0 7)).toInt = _) (by decide : (10 : Int32).toInt = 10) c3
        refine lv_aload_n hx hb dX11_bale_28 rfl (lv_at hl 0 rfl) ?_
        refine gX_11_2 hx hb ht hown hK hP m_417 dX11_bale_29 ?_
        refine lv_iload_n hx hb dX11_bale_32 rfl (lv_at hl 1 rfl) ?_
        have hFc := free_all hD hS hA
        refine va_calli (va_runV (As := [.int n]) (rest := []) ⟨hx, hb, hml, hown, ht⟩ (c_X0_bring l dC dI s.heap.size h g ca iv lv fa la hI n (show 0 ≤ ((iv 0 7) : Int32).toInt ∧ ((iv 0 7) : Int32).toInt ≤ 9 from ⟨by omega, by omega⟩)) (kV 1 ht m_464 m_465 m_466 m_80 m_467 rfl rfl hd_X0_bring_v ⟨Nat.le_of_ble_eq_true rfl, Nat.le_of_ble_eq_true rfl⟩) (vW hP hK hD (rX_0 hK hP)) rfl rfl hl.1 rfl (lv_room (Nat.le_of_ble_eq_true rfl)) dX11_bale_33 ⟨Nat.le_of_ble_eq_true rfl, Nat.le_of_ble_eq_true rfl⟩) hS (fun q _ h => hFc q h) hFc (fun r4 u t H1 locs ht9 hvm hr4 hB hz1 hk1 hS => ?_)
        obtain ⟨n5, n6, hn6, dn6, hr4, rfl⟩ := hr4
        have hn5 : ∀ j, inb (bA 0 0 j) (n5 j) := fun j => full_i _
        have dn6 : n6.toInt = ((iv 0 7) : Int32).toInt + 1 := dn6
        have hn6 : 0 ≤ n6.toInt ∧ n6.toInt ≤ 10 := hn6
        obtain ⟨hP, hD⟩ := hB
        rw [ht9] at hP
        generalize H1 = H at hP hS ⊢
        have hP : va_P (dC, dI) classes (WX h g ca (u2 iv 0 7 n6) lv (u2 fa 0 0 n5) la) H := hP
        have hD : va_D A (WX h g ca (u2 iv 0 7 n6) lv (u2 fa 0 0 n5) la) := (show va_D _ (WX h g ca (u2 iv 0 7 n6) lv (u2 fa 0 0 n5) la) from hD).weaken (fun _ _ _ h => hFc _ h)
        have hP9 : va_P (dC, dI) classes (WX h g ca (u2 iv 0 7 n6) lv (u2 fa 0 0 n5) la) H := hP
        have hD9 : va_D A (WX h g ca (u2 iv 0 7 n6) lv (u2 fa 0 0 n5) la) := hD
        exact W.iret (v := r4) hx hb hr (fun t ht9 hW => ⟨⟨r4, ((u2 iv 0 7 n6), lv, (u2 fa 0 0 n5), la), rfl, ⟨n5, n6, (show inb (0, 10) n6 from ⟨by omega, by omega⟩), ⟨by omega, by omega⟩, rfl⟩, by rw [ht9]; exact hP9, hD9⟩, hS.F ht9⟩) hS.2.2 dX11_bale_36
      · have fc3 := z_nlt (rfl : ((iv 0 7)).toInt = _) (by decide : (10 : Int32).toInt = 10) c3
        refine lv_ldc hx hb hown (ht _ m_463) dX11_bale_25 ?_
        have hP9 : va_P (dC, dI) classes (WX h g ca (u2 iv 0 7 (iv 0 7)) lv (u2 fa 0 0 (fa 0 0)) la) s.heap := hP
        have hD9 : va_D A (WX h g ca (u2 iv 0 7 (iv 0 7)) lv (u2 fa 0 0 (fa 0 0)) la) := hD
        exact W.iret (v := (-100004)) hx hb hr (fun t ht9 hW => ⟨⟨(-100004), ((u2 iv 0 7 (iv 0 7)), lv, (u2 fa 0 0 (fa 0 0)), la), rfl, ⟨(fa 0 0), (iv 0 7), (hI.1 0 7), ⟨by decide, by decide⟩, rfl⟩, by rw [ht9]; exact hP9, hD9⟩, hS.F ht9⟩) hS.2.2 dX11_bale_27
    · exact absurd c2 (by decide)
  · skip
    refine lv_if_ne (tgt := 13) hx hb dX11_bale_7 (by decide) (fun c7 => ?_) (fun c7 => ?_)
    · exact absurd rfl c7
    · skip
      refine lv_ldc hx hb hown (ht _ m_456) dX11_bale_10 ?_
      have hP9 : va_P (dC, dI) classes (WX h g ca (u2 iv 0 7 (iv 0 7)) lv (u2 fa 0 0 (fa 0 0)) la) s.heap := hP
      have hD9 : va_D A (WX h g ca (u2 iv 0 7 (iv 0 7)) lv (u2 fa 0 0 (fa 0 0)) la) := hD
      exact W.iret (v := (-100002)) hx hb hr (fun t ht9 hW => ⟨⟨(-100002), ((u2 iv 0 7 (iv 0 7)), lv, (u2 fa 0 0 (fa 0 0)), la), rfl, ⟨(fa 0 0), (iv 0 7), (hI.1 0 7), ⟨by decide, by decide⟩, rfl⟩, by rw [ht9]; exact hP9, hD9⟩, hS.F ht9⟩) hS.2.2 dX11_bale_12
set_option maxHeartbeats 4000000 in
set_option maxRecDepth 100000 in
/-- X11_skein -/
theorem c_X11_skein (l : Launch) (dC : Nat → ClassId) (dI : Nat → Nat → Nat) (sz : Nat) (h : Nat) (g : Nat → Nat → Nat) (ca : Nat → Nat → ClassId) (iv : Nat → Nat → Int32) (lv : Nat → Nat → Int64) (fa : Nat → Nat → Nat → Int32) (la : Nat → Nat → Nat → Int64) (hI : IX iv fa) (a : Int32) (b : Int32) (d : Int32) (k : Int32) (n : Int32) (q : Int32) (r : Int32) : Met l yX11_skein (wc yX11_skein cX11_skein 9 (some .int)) ({ frames := 3, cells := 0, slots := 0, locals := 69 } : Room) (pW (dC, dI) classes (WX h g ca iv lv fa la) (TX ca) sz [.ref h, .int a, .int b, .int d, .int k, .int n, .int q, .int r]) (va_Qi (fun r (u : SS) => ∃ (na_10_0 : Nat → Int32) (ni_10_1 : Int32), (∀ j, inb (bA 10 0 j) (na_10_0 j)) ∧ inb (bI 10 1) ni_10_1 ∧ ((-100004) ≤ r.toInt ∧ r.toInt ≤ 59) ∧ u = ((u2 iv 10 1 ni_10_1), lv, (u2 fa 10 0 na_10_0), la)) (bX (dC, dI) h g ca (va_A (WX h g ca iv lv fa la) sz)) (va_A (WX h g ca iv lv fa la) sz)) 0 0 (va_A (WX h g ca iv lv fa la) sz) := by
  refine Met.ofW (cc := cX11_skein) (maxL := 9) (ret := (some .int)) (by decide) rfl ?_
  intro p e s m args below meth c s₁ B hml hv
  obtain ⟨rfl, hsz, hP, hK, hD0⟩ := hv
  have hx := B.exec
  have hb := B.bytes
  have hr := B.returns
  have ht := tb_tl (atoms_spec (ws := wc yX11_skein cX11_skein 9 (some .int)) B.pre)
  have hown : s.vm.findClass RX11 = some m.cls := findClass_of_methodNamed B.named
  have hlocks := B.notSynchronized
  subst hsz
  have hD := hD0.self (sz := s.heap.size)
  generalize hAe : va_A (WX h g ca iv lv fa la) s.heap.size = A at hD ⊢
  have hA : ∀ q : Nat, s.heap.size ≤ q → A q := fun q h => by rw [← hAe]; exact Or.inr h
  have hS : va_S A s.heap s.heap [] := va_S.rf
  have hl := lv_entry [.ref h, .int a, .int b, .int d, .int k, .int n, .int q, .int r] (n := 9) (Nat.le_of_ble_eq_true rfl)
  rw [lg_entry_eq]
  generalize (lg_sl [.ref h, .int a, .int b, .int d, .int k, .int n, .int q, .int r] ++ List.replicate (9 - (lg_sl [.ref h, .int a, .int b, .int d, .int k, .int n, .int q, .int r]).length) Slot.unset).toArray = ls at hl ⊢
  have hl : lv_has ls 9 [(0, .ref h), (1, .int a), (2, .int b), (3, .int d), (4, .int k), (5, .int n), (6, .int q), (7, .int r)] := hl
  refine lv_aload_n hx hb dX11_skein_0 rfl (lv_at hl 0 rfl) ?_
  refine gX_11_2 hx hb ht hown hK hP m_417 dX11_skein_1 ?_
  refine lv_iload_n hx hb dX11_skein_4 rfl (lv_at hl 1 rfl) ?_
  refine vp_callSi (W.runV (As := [.int a]) (rest := []) ⟨hx, hb, hml, hown, ht⟩ (c_X0_has l dC dI h g ca iv lv fa la hI a) (kV 1 ht m_472 m_473 m_474 m_80 m_475 rfl rfl hd_X0_has_v ⟨Nat.le_of_ble_eq_true rfl, Nat.le_of_ble_eq_true rfl⟩) (vR hP hK (rX_0 hK hP)) rfl rfl hl.1 rfl (lv_room (Nat.le_of_ble_eq_true rfl)) dX11_skein_5 ⟨Nat.le_of_ble_eq_true rfl, Nat.le_of_ble_eq_true rfl⟩) (fun r1 hr1 => ?_)
  rcases hr1 with ⟨rfl, fr1⟩ | ⟨rfl, fr1⟩
  · skip
    have i_0_7 : 0 ≤ (iv 0 7).toInt ∧ (iv 0 7).toInt ≤ 10 := hI.1 0 7
    have fr1 : (0 ≤ (a : Int32).toInt ∧ (a : Int32).toInt < ((iv 0 7) : Int32).toInt) := fr1
    refine lv_if_ne (tgt := 14) hx hb dX11_skein_8 (by decide) (fun c2 => ?_) (fun c2 => ?_)
    · skip
      refine lv_iload_n hx hb dX11_skein_14 rfl (lv_at hl 2 rfl) ?_
      refine lv_iconst (v := 0) hx hb dX11_skein_15 (by decide) ?_
      refine lv_iconst (v := 2) hx hb dX11_skein_16 (by decide) ?_
      refine vp_callSi (W.runS (As := [.int b, .int 0, .int 2]) (rest := []) ⟨hx, hb, hml, hown, ht⟩ (c_X11_within l dC dI b 0 2 (b.toInt) (0) (2) (rfl : (b).toInt = _) (by decide : (0 : Int32).toInt = 0) (by decide : (2 : Int32).toInt = 2)) (kS 3 ht m_453 m_454 m_77 m_455 rfl rfl hd_X11_within_v ⟨Nat.le_of_ble_eq_true rfl, Nat.le_of_ble_eq_true rfl⟩) (sR noP (hK.sub (tys' := []) [] rfl)) rfl rfl hl.1 rfl (lv_room (Nat.le_of_ble_eq_true rfl)) dX11_skein_17 ⟨Nat.le_of_ble_eq_true rfl, Nat.le_of_ble_eq_true rfl⟩) (fun r3 hr3 => ?_)
      rcases hr3 with ⟨rfl, fr3⟩ | ⟨rfl, fr3⟩
      · skip
        refine lv_if_eq (tgt := 53) hx hb dX11_skein_20 (by decide) (fun c4 => ?_) (fun c4 => ?_)
        · exact absurd c4 (by decide)
        · skip
          refine lv_iload_n hx hb dX11_skein_23 rfl (lv_at hl 3 rfl) ?_
          refine lv_iconst (v := 0) hx hb dX11_skein_24 (by decide) ?_
          refine lv_iconst (v := 3) hx hb dX11_skein_25 (by decide) ?_
          refine vp_callSi (W.runS (As := [.int d, .int 0, .int 3]) (rest := []) ⟨hx, hb, hml, hown, ht⟩ (c_X11_within l dC dI d 0 3 (d.toInt) (0) (3) (rfl : (d).toInt = _) (by decide : (0 : Int32).toInt = 0) (by decide : (3 : Int32).toInt = 3)) (kS 3 ht m_453 m_454 m_77 m_455 rfl rfl hd_X11_within_v ⟨Nat.le_of_ble_eq_true rfl, Nat.le_of_ble_eq_true rfl⟩) (sR noP (hK.sub (tys' := []) [] rfl)) rfl rfl hl.1 rfl (lv_room (Nat.le_of_ble_eq_true rfl)) dX11_skein_26 ⟨Nat.le_of_ble_eq_true rfl, Nat.le_of_ble_eq_true rfl⟩) (fun r5 hr5 => ?_)
          rcases hr5 with ⟨rfl, fr5⟩ | ⟨rfl, fr5⟩
          · skip
            refine lv_if_eq (tgt := 53) hx hb dX11_skein_29 (by decide) (fun c6 => ?_) (fun c6 => ?_)
            · exact absurd c6 (by decide)
            · skip
              refine lv_iload hx hb dX11_skein_32 (lv_at hl 6 rfl) ?_
              refine lv_iconst (v := 0) hx hb dX11_skein_34 (by decide) ?_
              refine lv_iconst (v := 3) hx hb dX11_skein_35 (by decide) ?_
              refine vp_callSi (W.runS (As := [.int q, .int 0, .int 3]) (rest := []) ⟨hx, hb, hml, hown, ht⟩ (c_X11_within l dC dI q 0 3 (q.toInt) (0) (3) (rfl : (q).toInt = _) (by decide : (0 : Int32).toInt = 0) (by decide : (3 : Int32).toInt = 3)) (kS 3 ht m_453 m_454 m_77 m_455 rfl rfl hd_X11_within_v ⟨Nat.le_of_ble_eq_true rfl, Nat.le_of_ble_eq_true rfl⟩) (sR noP (hK.sub (tys' := []) [] rfl)) rfl rfl hl.1 rfl (lv_room (Nat.le_of_ble_eq_true rfl)) dX11_skein_36 ⟨Nat.le_of_ble_eq_true rfl, Nat.le_of_ble_eq_true rfl⟩) (fun r7 hr7 => ?_)
              rcases hr7 with ⟨rfl, fr7⟩ | ⟨rfl, fr7⟩
              · skip
                refine lv_if_eq (tgt := 53) hx hb dX11_skein_39 (by decide) (fun c8 => ?_) (fun c8 => ?_)
                · exact absurd c8 (by decide)
                · skip
                  refine lv_iload hx hb dX11_skein_42 (lv_at hl 7 rfl) ?_
                  refine lv_iconst (v := 0) hx hb dX11_skein_44 (by decide) ?_
                  refine lv_bipush (v := 7) hx hb dX11_skein_45 (by decide) ?_
                  refine vp_callSi (W.runS (As := [.int r, .int 0, .int 7]) (rest := []) ⟨hx, hb, hml, hown, ht⟩ (c_X11_within l dC dI r 0 7 (r.toInt) (0) (7) (rfl : (r).toInt = _) (by decide : (0 : Int32).toInt = 0) (by decide : (7 : Int32).toInt = 7)) (kS 3 ht m_453 m_454 m_77 m_455 rfl rfl hd_X11_within_v ⟨Nat.le_of_ble_eq_true rfl, Nat.le_of_ble_eq_true rfl⟩) (sR noP (hK.sub (tys' := []) [] rfl)) rfl rfl hl.1 rfl (lv_room (Nat.le_of_ble_eq_true rfl)) dX11_skein_47 ⟨Nat.le_of_ble_eq_true rfl, Nat.le_of_ble_eq_true rfl⟩) (fun r9 hr9 => ?_)
                  rcases hr9 with ⟨rfl, fr9⟩ | ⟨rfl, fr9⟩
                  · skip
                    refine lv_if_ne (tgt := 56) hx hb dX11_skein_50 (by decide) (fun c10 => ?_) (fun c10 => ?_)
                    · skip
                      refine lv_iload hx hb dX11_skein_56 (lv_at hl 4 rfl) ?_
                      refine lv_bipush (v := 100) hx hb dX11_skein_58 (by decide) ?_
                      refine lv_sipush (v := 9999) hx hb dX11_skein_60 (by decide) ?_
                      refine vp_callSi (W.runS (As := [.int k, .int 100, .int 9999]) (rest := []) ⟨hx, hb, hml, hown, ht⟩ (c_X11_within l dC dI k 100 9999 (k.toInt) (100) (9999) (rfl : (k).toInt = _) (by decide : (100 : Int32).toInt = 100) (by decide : (9999 : Int32).toInt = 9999)) (kS 3 ht m_453 m_454 m_77 m_455 rfl rfl hd_X11_within_v ⟨Nat.le_of_ble_eq_true rfl, Nat.le_of_ble_eq_true rfl⟩) (sR noP (hK.sub (tys' := []) [] rfl)) rfl rfl hl.1 rfl (lv_room (Nat.le_of_ble_eq_true rfl)) dX11_skein_63 ⟨Nat.le_of_ble_eq_true rfl, Nat.le_of_ble_eq_true rfl⟩) (fun r11 hr11 => ?_)
                      rcases hr11 with ⟨rfl, fr11⟩ | ⟨rfl, fr11⟩
                      · skip
                        refine lv_if_eq (tgt := 81) hx hb dX11_skein_66 (by decide) (fun c12 => ?_) (fun c12 => ?_)
                        · exact absurd c12 (by decide)
                        · skip
                          refine lv_iload hx hb dX11_skein_69 (lv_at hl 5 rfl) ?_
                          refine lv_bipush (v := 50) hx hb dX11_skein_71 (by decide) ?_
                          refine lv_iload hx hb dX11_skein_73 (lv_at hl 4 rfl) ?_
                          refine vp_callSi (W.runS (As := [.int n, .int 50, .int k]) (rest := []) ⟨hx, hb, hml, hown, ht⟩ (c_X11_within l dC dI n 50 k (n.toInt) (50) (k.toInt) (rfl : (n).toInt = _) (by decide : (50 : Int32).toInt = 50) (rfl : (k).toInt = _)) (kS 3 ht m_453 m_454 m_77 m_455 rfl rfl hd_X11_within_v ⟨Nat.le_of_ble_eq_true rfl, Nat.le_of_ble_eq_true rfl⟩) (sR noP (hK.sub (tys' := []) [] rfl)) rfl rfl hl.1 rfl (lv_room (Nat.le_of_ble_eq_true rfl)) dX11_skein_75 ⟨Nat.le_of_ble_eq_true rfl, Nat.le_of_ble_eq_true rfl⟩) (fun r13 hr13 => ?_)
                          rcases hr13 with ⟨rfl, fr13⟩ | ⟨rfl, fr13⟩
                          · skip
                            refine lv_if_ne (tgt := 84) hx hb dX11_skein_78 (by decide) (fun c14 => ?_) (fun c14 => ?_)
                            · skip
                              refine lv_aload_n hx hb dX11_skein_84 rfl (lv_at hl 0 rfl) ?_
                              refine gX_11_0 hx hb ht hown hK hP m_415 dX11_skein_85 ?_
                              have i_10_1 : 0 ≤ (iv 10 1).toInt ∧ (iv 10 1).toInt ≤ 60 := hI.1 10 1
                              refine gX_10_1 hx hb ht hown hK hP m_114 (v := (iv 10 1)) rfl dX11_skein_88 ?_
                              refine lv_bipush (v := 60) hx hb dX11_skein_91 (by decide) ?_
                              refine lv_icmp_ge (tgt := 110) hx hb dX11_skein_93 (by decide) (fun c15 => ?_) (fun c15 => ?_)
                              · have fc15 := z_le (by decide : (60 : Int32).toInt = 60) (rfl : ((iv 10 1)).toInt = _) c15
                                refine lv_ldc hx hb hown (ht _ m_463) dX11_skein_110 ?_
                                have hP9 : va_P (dC, dI) classes (WX h g ca (u2 iv 10 1 (iv 10 1)) lv (u2 fa 10 0 (fa 10 0)) la) s.heap := hP
                                have hD9 : va_D A (WX h g ca (u2 iv 10 1 (iv 10 1)) lv (u2 fa 10 0 (fa 10 0)) la) := hD
                                exact W.iret (v := (-100004)) hx hb hr (fun t ht9 hW => ⟨⟨(-100004), ((u2 iv 10 1 (iv 10 1)), lv, (u2 fa 10 0 (fa 10 0)), la), rfl, ⟨(fa 10 0), (iv 10 1), (hI.2 10 0), (hI.1 10 1), ⟨by decide, by decide⟩, rfl⟩, by rw [ht9]; exact hP9, hD9⟩, hS.F ht9⟩) hS.2.2 dX11_skein_112
                              · have fc15 := z_nle (by decide : (60 : Int32).toInt = 60) (rfl : ((iv 10 1)).toInt = _) c15
                                refine lv_aload_n hx hb dX11_skein_96 rfl (lv_at hl 0 rfl) ?_
                                refine gX_11_0 hx hb ht hown hK hP m_415 dX11_skein_97 ?_
                                refine lv_iload_n hx hb dX11_skein_100 rfl (lv_at hl 1 rfl) ?_
                                refine lv_iload_n hx hb dX11_skein_101 rfl (lv_at hl 2 rfl) ?_
                                refine vp_callSi (W.runV (As := [.int a, .int b]) (rest := []) ⟨hx, hb, hml, hown, ht⟩ (c_X10_drawn l dC dI h g ca iv lv fa la hI a b) (kV 2 ht m_477 m_478 m_479 m_78 m_480 rfl rfl hd_X10_drawn_v ⟨Nat.le_of_ble_eq_true rfl, Nat.le_of_ble_eq_true rfl⟩) (vR hP hK (rX_10 hK hP)) rfl rfl hl.1 rfl (lv_room (Nat.le_of_ble_eq_true rfl)) dX11_skein_102 ⟨Nat.le_of_ble_eq_true rfl, Nat.le_of_ble_eq_true rfl⟩) (fun r16 hr16 => ?_)
                                refine lv_bipush (v := 12) hx hb dX11_skein_105 (by decide) ?_
                                refine lv_icmp_lt (tgt := 113) hx hb dX11_skein_107 (by decide) (fun c17 => ?_) (fun c17 => ?_)
                                · have fc17 := z_lt (rfl : (r16).toInt = _) (by decide : (12 : Int32).toInt = 12) c17
                                  refine lv_aload_n hx hb dX11_skein_113 rfl (lv_at hl 0 rfl) ?_
                                  refine gX_11_0 hx hb ht hown hK hP m_415 dX11_skein_114 ?_
                                  refine lv_iload_n hx hb dX11_skein_117 rfl (lv_at hl 1 rfl) ?_
                                  refine lv_iload_n hx hb dX11_skein_118 rfl (lv_at hl 2 rfl) ?_
                                  refine lv_aload_n hx hb dX11_skein_119 rfl (lv_at hl 0 rfl) ?_
                                  have i_11_10 : 0 ≤ (iv 11 10).toInt ∧ (iv 11 10).toInt ≤ 3000 := hI.1 11 10
                                  refine gX_11_10 hx hb ht hown hK hP m_425 (v := (iv 11 10)) rfl dX11_skein_120 ?_
                                  have hFc := free_all hD hS hA
                                  refine va_calli (va_runV (As := [.int a, .int b, .int (iv 11 10)]) (rest := []) ⟨hx, hb, hml, hown, ht⟩ (c_X10_draw l dC dI s.heap.size h g ca iv lv fa la hI a b (iv 11 10) (show 0 ≤ ((iv 10 1) : Int32).toInt ∧ ((iv 10 1) : Int32).toInt ≤ 59 from ⟨by omega, by omega⟩) ⟨by omega, by omega⟩) (kV 3 ht m_489 m_490 m_491 m_78 m_492 rfl rfl hd_X10_draw_v ⟨Nat.le_of_ble_eq_true rfl, Nat.le_of_ble_eq_true rfl⟩) (vW hP hK hD (rX_10 hK hP)) rfl rfl hl.1 rfl (lv_room (Nat.le_of_ble_eq_true rfl)) dX11_skein_123 ⟨Nat.le_of_ble_eq_true rfl, Nat.le_of_ble_eq_true rfl⟩) hS (fun q _ h => hFc q h) hFc (fun r18 u t H1 locs ht9 hvm hr18 hB hz1 hk1 hS => ?_)
                                  obtain ⟨n19, n20, hn19, hn20, dn20, hr18, rfl⟩ := hr18
                                  have dn20 : n20.toInt = ((iv 10 1) : Int32).toInt + 1 := dn20
                                  have hn20 : 0 ≤ n20.toInt ∧ n20.toInt ≤ 60 := hn20
                                  obtain ⟨hP, hD⟩ := hB
                                  rw [ht9] at hP
                                  generalize H1 = H at hP hS ⊢
                                  have hP : va_P (dC, dI) classes (WX h g ca (u2 iv 10 1 n20) lv (u2 fa 10 0 n19) la) H := hP
                                  have hD : va_D A (WX h g ca (u2 iv 10 1 n20) lv (u2 fa 10 0 n19) la) := (show va_D _ (WX h g ca (u2 iv 10 1 n20) lv (u2 fa 10 0 n19) la) from hD).weaken (fun _ _ _ h => hFc _ h)
                                  refine lv_istore (lv' := [(8, .int r18), (0, .ref h), (1, .int a), (2, .int b), (3, .int d), (4, .int k), (5, .int n), (6, .int q), (7, .int r)]) hx hb dX11_skein_126 hl (by decide) rfl (fun ls hl => ?_)
                                  refine lv_aload_n hx hb dX11_skein_128 rfl (lv_at hl 1 rfl) ?_
                                  refine gX_11_0 hx hb ht hown hK hP m_415 dX11_skein_129 ?_
                                  refine lv_iload hx hb dX11_skein_132 (lv_at hl 0 rfl) ?_
                                  refine lv_iload_n hx hb dX11_skein_134 rfl (lv_at hl 4 rfl) ?_
                                  refine lv_iload hx hb dX11_skein_135 (lv_at hl 5 rfl) ?_
                                  refine lv_iload hx hb dX11_skein_137 (lv_at hl 6 rfl) ?_
                                  have hFc := free_all hD hS hA
                                  refine va_callv (va_runV (As := [.int r18, .int d, .int k, .int n]) (rest := []) ⟨hx, hb, hml, hown, ht⟩ (c_X10_weigh l dC dI H.size h g ca (u2 iv 10 1 n20) lv (u2 fa 10 0 n19) la (IX_a (c := 10) (k := 0) (IX_i (c := 10) (k := 1) hI (show inb (0, 60) n20 from ⟨by omega, by omega⟩)) hn19) r18 d k n ⟨by omega, by omega⟩) (kV 4 ht m_497 m_498 m_499 m_78 m_500 rfl rfl hd_X10_weigh_v ⟨Nat.le_of_ble_eq_true rfl, Nat.le_of_ble_eq_true rfl⟩) (vW hP hK hD (rX_10 hK hP)) rfl rfl hl.1 rfl (lv_room (Nat.le_of_ble_eq_true rfl)) dX11_skein_139 ⟨Nat.le_of_ble_eq_true rfl, Nat.le_of_ble_eq_true rfl⟩) hS (fun q _ h => hFc q h) hFc (fun u t H1 locs ht9 hvm hr21 hB hz1 hk1 hS => ?_)
                                  obtain ⟨n22, hn22, rfl⟩ := hr21
                                  obtain ⟨hP, hD⟩ := hB
                                  rw [ht9] at hP
                                  generalize H1 = H at hP hS ⊢
                                  have hP : va_P (dC, dI) classes (WX h g ca (u2 iv 10 1 n20) lv (u2 fa 10 0 n22) la) H := hP
                                  have hD : va_D A (WX h g ca (u2 iv 10 1 n20) lv (u2 fa 10 0 n22) la) := (show va_D _ (WX h g ca (u2 iv 10 1 n20) lv (u2 fa 10 0 n22) la) from hD).weaken (fun _ _ _ h => hFc _ h)
                                  refine lv_aload_n hx hb dX11_skein_142 rfl (lv_at hl 1 rfl) ?_
                                  refine gX_11_0 hx hb ht hown hK hP m_415 dX11_skein_143 ?_
                                  refine lv_iload hx hb dX11_skein_146 (lv_at hl 0 rfl) ?_
                                  refine lv_iload hx hb dX11_skein_148 (lv_at hl 7 rfl) ?_
                                  refine lv_iload hx hb dX11_skein_150 (lv_at hl 8 rfl) ?_
                                  have hFc := free_all hD hS hA
                                  refine va_callv (va_runV (As := [.int r18, .int q, .int r]) (rest := []) ⟨hx, hb, hml, hown, ht⟩ (c_X10_dryIn l dC dI H.size h g ca (u2 iv 10 1 n20) lv (u2 fa 10 0 n22) la (IX_a (c := 10) (k := 0) (IX_i (c := 10) (k := 1) hI (show inb (0, 60) n20 from ⟨by omega, by omega⟩)) hn22) r18 q r ⟨by omega, by omega⟩) (kV 3 ht m_501 m_502 m_503 m_78 m_504 rfl rfl hd_X10_dryIn_v ⟨Nat.le_of_ble_eq_true rfl, Nat.le_of_ble_eq_true rfl⟩) (vW hP hK hD (rX_10 hK hP)) rfl rfl hl.1 rfl (lv_room (Nat.le_of_ble_eq_true rfl)) dX11_skein_152 ⟨Nat.le_of_ble_eq_true rfl, Nat.le_of_ble_eq_true rfl⟩) hS (fun q _ h => hFc q h) hFc (fun u t H1 locs ht9 hvm hr23 hB hz1 hk1 hS => ?_)
                                  obtain ⟨n24, hn24, rfl⟩ := hr23
                                  obtain ⟨hP, hD⟩ := hB
                                  rw [ht9] at hP
                                  generalize H1 = H at hP hS ⊢
                                  have hP : va_P (dC, dI) classes (WX h g ca (u2 iv 10 1 n20) lv (u2 fa 10 0 n24) la) H := hP
                                  have hD : va_D A (WX h g ca (u2 iv 10 1 n20) lv (u2 fa 10 0 n24) la) := (show va_D _ (WX h g ca (u2 iv 10 1 n20) lv (u2 fa 10 0 n24) la) from hD).weaken (fun _ _ _ h => hFc _ h)
                                  refine lv_iload hx hb dX11_skein_155 (lv_at hl 0 rfl) ?_
                                  have hP9 : va_P (dC, dI) classes (WX h g ca (u2 iv 10 1 n20) lv (u2 fa 10 0 n24) la) H := hP
                                  have hD9 : va_D A (WX h g ca (u2 iv 10 1 n20) lv (u2 fa 10 0 n24) la) := hD
                                  exact W.iret (v := r18) hx hb hr (fun t ht9 hW => ⟨⟨r18, ((u2 iv 10 1 n20), lv, (u2 fa 10 0 n24), la), rfl, ⟨n24, n20, hn24, (show inb (0, 60) n20 from ⟨by omega, by omega⟩), ⟨by omega, by omega⟩, rfl⟩, by rw [ht9]; exact hP9, hD9⟩, hS.F ht9⟩) hS.2.2 dX11_skein_157
                                · have fc17 := z_nlt (rfl : (r16).toInt = _) (by decide : (12 : Int32).toInt = 12) c17
                                  refine lv_ldc hx hb hown (ht _ m_463) dX11_skein_110 ?_
                                  have hP9 : va_P (dC, dI) classes (WX h g ca (u2 iv 10 1 (iv 10 1)) lv (u2 fa 10 0 (fa 10 0)) la) s.heap := hP
                                  have hD9 : va_D A (WX h g ca (u2 iv 10 1 (iv 10 1)) lv (u2 fa 10 0 (fa 10 0)) la) := hD
                                  exact W.iret (v := (-100004)) hx hb hr (fun t ht9 hW => ⟨⟨(-100004), ((u2 iv 10 1 (iv 10 1)), lv, (u2 fa 10 0 (fa 10 0)), la), rfl, ⟨(fa 10 0), (iv 10 1), (hI.2 10 0), (hI.1 10 1), ⟨by decide, by decide⟩, rfl⟩, by rw [ht9]; exact hP9, hD9⟩, hS.F ht9⟩) hS.2.2 dX11_skein_112
                            · exact absurd c14 (by decide)
                          · skip
                            refine lv_if_ne (tgt := 84) hx hb dX11_skein_78 (by decide) (fun c25 => ?_) (fun c25 => ?_)
                            · exact absurd rfl c25
                            · skip
                              refine lv_ldc hx hb hown (ht _ m_456) dX11_skein_81 ?_
                              have hP9 : va_P (dC, dI) classes (WX h g ca (u2 iv 10 1 (iv 10 1)) lv (u2 fa 10 0 (fa 10 0)) la) s.heap := hP
                              have hD9 : va_D A (WX h g ca (u2 iv 10 1 (iv 10 1)) lv (u2 fa 10 0 (fa 10 0)) la) := hD
                              exact W.iret (v := (-100002)) hx hb hr (fun t ht9 hW => ⟨⟨(-100002), ((u2 iv 10 1 (iv 10 1)), lv, (u2 fa 10 0 (fa 10 0)), la), rfl, ⟨(fa 10 0), (iv 10 1), (hI.2 10 0), (hI.1 10 1), ⟨by decide, by decide⟩, rfl⟩, by rw [ht9]; exact hP9, hD9⟩, hS.F ht9⟩) hS.2.2 dX11_skein_83
                      · skip
                        refine lv_if_eq (tgt := 81) hx hb dX11_skein_66 (by decide) (fun c26 => ?_) (fun c26 => ?_)
                        · skip
                          refine lv_ldc hx hb hown (ht _ m_456) dX11_skein_81 ?_
                          have hP9 : va_P (dC, dI) classes (WX h g ca (u2 iv 10 1 (iv 10 1)) lv (u2 fa 10 0 (fa 10 0)) la) s.heap := hP
                          have hD9 : va_D A (WX h g ca (u2 iv 10 1 (iv 10 1)) lv (u2 fa 10 0 (fa 10 0)) la) := hD
                          exact W.iret (v := (-100002)) hx hb hr (fun t ht9 hW => ⟨⟨(-100002), ((u2 iv 10 1 (iv 10 1)), lv, (u2 fa 10 0 (fa 10 0)), la), rfl, ⟨(fa 10 0), (iv 10 1), (hI.2 10 0), (hI.1 10 1), ⟨by decide, by decide⟩, rfl⟩, by rw [ht9]; exact hP9, hD9⟩, hS.F ht9⟩) hS.2.2 dX11_skein_83
                        · exact absurd rfl c26
                    · exact absurd c10 (by decide)
                  · skip
                    refine lv_if_ne (tgt := 56) hx hb dX11_skein_50 (by decide) (fun c27 => ?_) (fun c27 => ?_)
                    · exact absurd rfl c27
                    · skip
                      refine lv_ldc hx hb hown (ht _ m_456) dX11_skein_53 ?_
                      have hP9 : va_P (dC, dI) classes (WX h g ca (u2 iv 10 1 (iv 10 1)) lv (u2 fa 10 0 (fa 10 0)) la) s.heap := hP
                      have hD9 : va_D A (WX h g ca (u2 iv 10 1 (iv 10 1)) lv (u2 fa 10 0 (fa 10 0)) la) := hD
                      exact W.iret (v := (-100002)) hx hb hr (fun t ht9 hW => ⟨⟨(-100002), ((u2 iv 10 1 (iv 10 1)), lv, (u2 fa 10 0 (fa 10 0)), la), rfl, ⟨(fa 10 0), (iv 10 1), (hI.2 10 0), (hI.1 10 1), ⟨by decide, by decide⟩, rfl⟩, by rw [ht9]; exact hP9, hD9⟩, hS.F ht9⟩) hS.2.2 dX11_skein_55
              · skip
                refine lv_if_eq (tgt := 53) hx hb dX11_skein_39 (by decide) (fun c28 => ?_) (fun c28 => ?_)
                · skip
                  refine lv_ldc hx hb hown (ht _ m_456) dX11_skein_53 ?_
                  have hP9 : va_P (dC, dI) classes (WX h g ca (u2 iv 10 1 (iv 10 1)) lv (u2 fa 10 0 (fa 10 0)) la) s.heap := hP
                  have hD9 : va_D A (WX h g ca (u2 iv 10 1 (iv 10 1)) lv (u2 fa 10 0 (fa 10 0)) la) := hD
                  exact W.iret (v := (-100002)) hx hb hr (fun t ht9 hW => ⟨⟨(-100002), ((u2 iv 10 1 (iv 10 1)), lv, (u2 fa 10 0 (fa 10 0)), la), rfl, ⟨(fa 10 0), (iv 10 1), (hI.2 10 0), (hI.1 10 1), ⟨by decide, by decide⟩, rfl⟩, by rw [ht9]; exact hP9, hD9⟩, hS.F ht9⟩) hS.2.2 dX11_skein_55
                · exact absurd rfl c28
          · skip
            refine lv_if_eq (tgt := 53) hx hb dX11_skein_29 (by decide) (fun c29 => ?_) (fun c29 => ?_)
            · skip
              refine lv_ldc hx hb hown (ht _ m_456) dX11_skein_53 ?_
              have hP9 : va_P (dC, dI) classes (WX h g ca (u2 iv 10 1 (iv 10 1)) lv (u2 fa 10 0 (fa 10 0)) la) s.heap := hP
              have hD9 : va_D A (WX h g ca (u2 iv 10 1 (iv 10 1)) lv (u2 fa 10 0 (fa 10 0)) la) := hD
              exact W.iret (v := (-100002)) hx hb hr (fun t ht9 hW => ⟨⟨(-100002), ((u2 iv 10 1 (iv 10 1)), lv, (u2 fa 10 0 (fa 10 0)), la), rfl, ⟨(fa 10 0), (iv 10 1), (hI.2 10 0), (hI.1 10 1), ⟨by decide, by decide⟩, rfl⟩, by rw [ht9]; exact hP9, hD9⟩, hS.F ht9⟩) hS.2.2 dX11_skein_55
            · exact absurd rfl c29
      · skip
        refine lv_if_eq (tgt := 53) hx hb dX11_skein_20 (by decide) (fun c30 => ?_) (fun c30 => ?_)
        · skip
          refine lv_ldc hx hb hown (ht _ m_456) dX11_skein_53 ?_
          have hP9 : va_P (dC, dI) classes (WX h g ca (u2 iv 10 1 (iv 10 1)) lv (u2 fa 10 0 (fa 10 0)) la) s.heap := hP
          have hD9 : va_D A (WX h g ca (u2 iv 10 1 (iv 10 1)) lv (u2 fa 10 0 (fa 10 0)) la) := hD
          exact W.iret (v := (-100002)) hx hb hr (fun t ht9 hW => ⟨⟨(-100002), ((u2 iv 10 1 (iv 10 1)), lv, (u2 fa 10 0 (fa 10 0)), la), rfl, ⟨(fa 10 0), (iv 10 1), (hI.2 10 0), (hI.1 10 1), ⟨by decide, by decide⟩, rfl⟩, by rw [ht9]; exact hP9, hD9⟩, hS.F ht9⟩) hS.2.2 dX11_skein_55
        · exact absurd rfl c30
    · exact absurd c2 (by decide)
  · skip
    have i_0_7 : 0 ≤ (iv 0 7).toInt ∧ (iv 0 7).toInt ≤ 10 := hI.1 0 7
    have fr1 : ¬ (0 ≤ (a : Int32).toInt ∧ (a : Int32).toInt < ((iv 0 7) : Int32).toInt) := fr1
    refine lv_if_ne (tgt := 14) hx hb dX11_skein_8 (by decide) (fun c31 => ?_) (fun c31 => ?_)
    · exact absurd rfl c31
    · skip
      refine lv_ldc hx hb hown (ht _ m_476) dX11_skein_11 ?_
      have hP9 : va_P (dC, dI) classes (WX h g ca (u2 iv 10 1 (iv 10 1)) lv (u2 fa 10 0 (fa 10 0)) la) s.heap := hP
      have hD9 : va_D A (WX h g ca (u2 iv 10 1 (iv 10 1)) lv (u2 fa 10 0 (fa 10 0)) la) := hD
      exact W.iret (v := (-100001)) hx hb hr (fun t ht9 hW => ⟨⟨(-100001), ((u2 iv 10 1 (iv 10 1)), lv, (u2 fa 10 0 (fa 10 0)), la), rfl, ⟨(fa 10 0), (iv 10 1), (hI.2 10 0), (hI.1 10 1), ⟨by decide, by decide⟩, rfl⟩, by rw [ht9]; exact hP9, hD9⟩, hS.F ht9⟩) hS.2.2 dX11_skein_13
set_option maxHeartbeats 4000000 in
set_option maxRecDepth 100000 in
/-- X11_lose -/
theorem c_X11_lose (l : Launch) (dC : Nat → ClassId) (dI : Nat → Nat → Nat) (sz : Nat) (h : Nat) (g : Nat → Nat → Nat) (ca : Nat → Nat → ClassId) (iv : Nat → Nat → Int32) (lv : Nat → Nat → Int64) (fa : Nat → Nat → Nat → Int32) (la : Nat → Nat → Nat → Int64) (hI : IX iv fa) (a : Int32) : Met l yX11_lose (wc yX11_lose cX11_lose 2 (some .int)) ({ frames := 2, cells := 0, slots := 0, locals := 45 } : Room) (pW (dC, dI) classes (WX h g ca iv lv fa la) (TX ca) sz [.ref h, .int a]) (va_Qi (fun r (u : SS) => ∃ (na_10_0 : Nat → Int32) (ni_10_2 : Int32), (∀ j, inb (bA 10 0 j) (na_10_0 j)) ∧ ((-100003) ≤ r.toInt ∧ r.toInt ≤ 1) ∧ u = ((u2 iv 10 2 ni_10_2), lv, (u2 fa 10 0 na_10_0), la)) (bX (dC, dI) h g ca (va_A (WX h g ca iv lv fa la) sz)) (va_A (WX h g ca iv lv fa la) sz)) 0 0 (va_A (WX h g ca iv lv fa la) sz) := by
  refine Met.ofW (cc := cX11_lose) (maxL := 2) (ret := (some .int)) (by decide) rfl ?_
  intro p e s m args below meth c s₁ B hml hv
  obtain ⟨rfl, hsz, hP, hK, hD0⟩ := hv
  have hx := B.exec
  have hb := B.bytes
  have hr := B.returns
  have ht := tb_tl (atoms_spec (ws := wc yX11_lose cX11_lose 2 (some .int)) B.pre)
  have hown : s.vm.findClass RX11 = some m.cls := findClass_of_methodNamed B.named
  have hlocks := B.notSynchronized
  subst hsz
  have hD := hD0.self (sz := s.heap.size)
  generalize hAe : va_A (WX h g ca iv lv fa la) s.heap.size = A at hD ⊢
  have hA : ∀ q : Nat, s.heap.size ≤ q → A q := fun q h => by rw [← hAe]; exact Or.inr h
  have hS : va_S A s.heap s.heap [] := va_S.rf
  have hl := lv_entry [.ref h, .int a] (n := 2) (Nat.le_of_ble_eq_true rfl)
  rw [lg_entry_eq]
  generalize (lg_sl [.ref h, .int a] ++ List.replicate (2 - (lg_sl [.ref h, .int a]).length) Slot.unset).toArray = ls at hl ⊢
  have hl : lv_has ls 2 [(0, .ref h), (1, .int a)] := hl
  refine lv_aload_n hx hb dX11_lose_0 rfl (lv_at hl 0 rfl) ?_
  refine gX_11_0 hx hb ht hown hK hP m_415 dX11_lose_1 ?_
  refine lv_iload_n hx hb dX11_lose_4 rfl (lv_at hl 1 rfl) ?_
  refine vp_callSi (W.runV (As := [.int a]) (rest := []) ⟨hx, hb, hml, hown, ht⟩ (c_X10_has l dC dI h g ca iv lv fa la hI a) (kV 1 ht m_509 m_510 m_511 m_78 m_512 rfl rfl hd_X10_has_v ⟨Nat.le_of_ble_eq_true rfl, Nat.le_of_ble_eq_true rfl⟩) (vR hP hK (rX_10 hK hP)) rfl rfl hl.1 rfl (lv_room (Nat.le_of_ble_eq_true rfl)) dX11_lose_5 ⟨Nat.le_of_ble_eq_true rfl, Nat.le_of_ble_eq_true rfl⟩) (fun r1 hr1 => ?_)
  rcases hr1 with ⟨rfl, fr1⟩ | ⟨rfl, fr1⟩
  · skip
    have i_10_1 : 0 ≤ (iv 10 1).toInt ∧ (iv 10 1).toInt ≤ 60 := hI.1 10 1
    have fr1 : (0 ≤ (a : Int32).toInt ∧ (a : Int32).toInt < ((iv 10 1) : Int32).toInt) := fr1
    refine lv_if_ne (tgt := 14) hx hb dX11_lose_8 (by decide) (fun c2 => ?_) (fun c2 => ?_)
    · skip
      refine lv_aload_n hx hb dX11_lose_14 rfl (lv_at hl 0 rfl) ?_
      refine gX_11_0 hx hb ht hown hK hP m_415 dX11_lose_15 ?_
      refine lv_iload_n hx hb dX11_lose_18 rfl (lv_at hl 1 rfl) ?_
      refine lv_bipush (v := 8) hx hb dX11_lose_19 (by decide) ?_
      refine vp_callSi (W.runV (As := [.int a, .int 8]) (rest := []) ⟨hx, hb, hml, hown, ht⟩ (c_X10_get l dC dI h g ca iv lv fa la hI a 8 ⟨by omega, by omega⟩ ⟨by decide, by decide⟩) (kV 2 ht m_513 m_486 m_487 m_78 m_488 rfl rfl hd_X10_get_v ⟨Nat.le_of_ble_eq_true rfl, Nat.le_of_ble_eq_true rfl⟩) (vR hP hK (rX_10 hK hP)) rfl rfl hl.1 rfl (lv_room (Nat.le_of_ble_eq_true rfl)) dX11_lose_21 ⟨Nat.le_of_ble_eq_true rfl, Nat.le_of_ble_eq_true rfl⟩) (fun r3 hr3 => ?_)
      refine lv_iconst (v := (-1)) hx hb dX11_lose_24 (by decide) ?_
      refine lv_icmp_eq (tgt := 31) hx hb dX11_lose_25 (by decide) (fun c4 => ?_) (fun c4 => ?_)
      · have fc4 := z_eq (rfl : (r3).toInt = _) (by decide : ((-1) : Int32).toInt = (-1)) c4
        refine lv_aload_n hx hb dX11_lose_31 rfl (lv_at hl 0 rfl) ?_
        refine gX_11_0 hx hb ht hown hK hP m_415 dX11_lose_32 ?_
        refine lv_iload_n hx hb dX11_lose_35 rfl (lv_at hl 1 rfl) ?_
        refine lv_aload_n hx hb dX11_lose_36 rfl (lv_at hl 0 rfl) ?_
        have i_11_10 : 0 ≤ (iv 11 10).toInt ∧ (iv 11 10).toInt ≤ 3000 := hI.1 11 10
        refine gX_11_10 hx hb ht hown hK hP m_425 (v := (iv 11 10)) rfl dX11_lose_37 ?_
        have hFc := free_all hD hS hA
        refine va_callv (va_runV (As := [.int a, .int (iv 11 10)]) (rest := []) ⟨hx, hb, hml, hown, ht⟩ (c_X10_dropOut l dC dI s.heap.size h g ca iv lv fa la hI a (iv 11 10) ⟨by omega, by omega⟩) (kV 2 ht m_514 m_515 m_516 m_78 m_517 rfl rfl hd_X10_dropOut_v ⟨Nat.le_of_ble_eq_true rfl, Nat.le_of_ble_eq_true rfl⟩) (vW hP hK hD (rX_10 hK hP)) rfl rfl hl.1 rfl (lv_room (Nat.le_of_ble_eq_true rfl)) dX11_lose_40 ⟨Nat.le_of_ble_eq_true rfl, Nat.le_of_ble_eq_true rfl⟩) hS (fun q _ h => hFc q h) hFc (fun u t H1 locs ht9 hvm hr5 hB hz1 hk1 hS => ?_)
        obtain ⟨n6, n7, hn6, rfl⟩ := hr5
        obtain ⟨hP, hD⟩ := hB
        rw [ht9] at hP
        generalize H1 = H at hP hS ⊢
        have hP : va_P (dC, dI) classes (WX h g ca (u2 iv 10 2 n7) lv (u2 fa 10 0 n6) la) H := hP
        have hD : va_D A (WX h g ca (u2 iv 10 2 n7) lv (u2 fa 10 0 n6) la) := (show va_D _ (WX h g ca (u2 iv 10 2 n7) lv (u2 fa 10 0 n6) la) from hD).weaken (fun _ _ _ h => hFc _ h)
        refine lv_iconst (v := 1) hx hb dX11_lose_43 (by decide) ?_
        have hP9 : va_P (dC, dI) classes (WX h g ca (u2 iv 10 2 n7) lv (u2 fa 10 0 n6) la) H := hP
        have hD9 : va_D A (WX h g ca (u2 iv 10 2 n7) lv (u2 fa 10 0 n6) la) := hD
        exact W.iret (v := 1) hx hb hr (fun t ht9 hW => ⟨⟨1, ((u2 iv 10 2 n7), lv, (u2 fa 10 0 n6), la), rfl, ⟨n6, n7, hn6, ⟨by decide, by decide⟩, rfl⟩, by rw [ht9]; exact hP9, hD9⟩, hS.F ht9⟩) hS.2.2 dX11_lose_44
      · have fc4 := z_ne (rfl : (r3).toInt = _) (by decide : ((-1) : Int32).toInt = (-1)) c4
        refine lv_ldc hx hb hown (ht _ m_457) dX11_lose_28 ?_
        have hP9 : va_P (dC, dI) classes (WX h g ca (u2 iv 10 2 (iv 10 2)) lv (u2 fa 10 0 (fa 10 0)) la) s.heap := hP
        have hD9 : va_D A (WX h g ca (u2 iv 10 2 (iv 10 2)) lv (u2 fa 10 0 (fa 10 0)) la) := hD
        exact W.iret (v := (-100003)) hx hb hr (fun t ht9 hW => ⟨⟨(-100003), ((u2 iv 10 2 (iv 10 2)), lv, (u2 fa 10 0 (fa 10 0)), la), rfl, ⟨(fa 10 0), (iv 10 2), (hI.2 10 0), ⟨by decide, by decide⟩, rfl⟩, by rw [ht9]; exact hP9, hD9⟩, hS.F ht9⟩) hS.2.2 dX11_lose_30
    · exact absurd c2 (by decide)
  · skip
    have i_10_1 : 0 ≤ (iv 10 1).toInt ∧ (iv 10 1).toInt ≤ 60 := hI.1 10 1
    have fr1 : ¬ (0 ≤ (a : Int32).toInt ∧ (a : Int32).toInt < ((iv 10 1) : Int32).toInt) := fr1
    refine lv_if_ne (tgt := 14) hx hb dX11_lose_8 (by decide) (fun c8 => ?_) (fun c8 => ?_)
    · exact absurd rfl c8
    · skip
      refine lv_ldc hx hb hown (ht _ m_476) dX11_lose_11 ?_
      have hP9 : va_P (dC, dI) classes (WX h g ca (u2 iv 10 2 (iv 10 2)) lv (u2 fa 10 0 (fa 10 0)) la) s.heap := hP
      have hD9 : va_D A (WX h g ca (u2 iv 10 2 (iv 10 2)) lv (u2 fa 10 0 (fa 10 0)) la) := hD
      exact W.iret (v := (-100001)) hx hb hr (fun t ht9 hW => ⟨⟨(-100001), ((u2 iv 10 2 (iv 10 2)), lv, (u2 fa 10 0 (fa 10 0)), la), rfl, ⟨(fa 10 0), (iv 10 2), (hI.2 10 0), ⟨by decide, by decide⟩, rfl⟩, by rw [ht9]; exact hP9, hD9⟩, hS.F ht9⟩) hS.2.2 dX11_lose_13
set_option maxHeartbeats 4000000 in
set_option maxRecDepth 100000 in
/-- X11_told -/
theorem c_X11_told (l : Launch) (dC : Nat → ClassId) (dI : Nat → Nat → Nat) (h : Nat) (g : Nat → Nat → Nat) (ca : Nat → Nat → ClassId) (iv : Nat → Nat → Int32) (lv : Nat → Nat → Int64) (fa : Nat → Nat → Nat → Int32) (la : Nat → Nat → Nat → Int64) (hI : IX iv fa) (a : Int32) (b : Int32) : Met l yX11_told (wc yX11_told cX11_told 3 (some .int)) ({ frames := 1, cells := 0, slots := 0, locals := 22 } : Room) (pR (dC, dI) classes (WX h g ca iv lv fa la) (TX ca) [.ref h, .int a, .int b]) (vp_Si (fun r => True)) 0 0 (fun _ => False) := by
  refine Met.ofW (cc := cX11_told) (maxL := 3) (ret := (some .int)) (by decide) rfl ?_
  intro p e s m args below meth c s₁ B hml hv
  obtain ⟨rfl, hP, hK⟩ := hv
  have hx := B.exec
  have hb := B.bytes
  have hr := B.returns
  have ht := tb_tl (atoms_spec (ws := wc yX11_told cX11_told 3 (some .int)) B.pre)
  have hown : s.vm.findClass RX11 = some m.cls := findClass_of_methodNamed B.named
  have hlocks := B.notSynchronized
  have hl := lv_entry [.ref h, .int a, .int b] (n := 3) (Nat.le_of_ble_eq_true rfl)
  rw [lg_entry_eq]
  generalize (lg_sl [.ref h, .int a, .int b] ++ List.replicate (3 - (lg_sl [.ref h, .int a, .int b]).length) Slot.unset).toArray = ls at hl ⊢
  have hl : lv_has ls 3 [(0, .ref h), (1, .int a), (2, .int b)] := hl
  refine lv_aload_n hx hb dX11_told_0 rfl (lv_at hl 0 rfl) ?_
  refine gX_11_0 hx hb ht hown hK hP m_415 dX11_told_1 ?_
  refine lv_iload_n hx hb dX11_told_4 rfl (lv_at hl 1 rfl) ?_
  refine vp_callSi (W.runV (As := [.int a]) (rest := []) ⟨hx, hb, hml, hown, ht⟩ (c_X10_has l dC dI h g ca iv lv fa la hI a) (kV 1 ht m_509 m_510 m_511 m_78 m_512 rfl rfl hd_X10_has_v ⟨Nat.le_of_ble_eq_true rfl, Nat.le_of_ble_eq_true rfl⟩) (vR hP hK (rX_10 hK hP)) rfl rfl hl.1 rfl (lv_room (Nat.le_of_ble_eq_true rfl)) dX11_told_5 ⟨Nat.le_of_ble_eq_true rfl, Nat.le_of_ble_eq_true rfl⟩) (fun r1 hr1 => ?_)
  rcases hr1 with ⟨rfl, fr1⟩ | ⟨rfl, fr1⟩
  · skip
    have i_10_1 : 0 ≤ (iv 10 1).toInt ∧ (iv 10 1).toInt ≤ 60 := hI.1 10 1
    have fr1 : (0 ≤ (a : Int32).toInt ∧ (a : Int32).toInt < ((iv 10 1) : Int32).toInt) := fr1
    refine lv_if_ne (tgt := 14) hx hb dX11_told_8 (by decide) (fun c2 => ?_) (fun c2 => ?_)
    · skip
      refine lv_iload_n hx hb dX11_told_14 rfl (lv_at hl 2 rfl) ?_
      refine lv_iconst (v := 0) hx hb dX11_told_15 (by decide) ?_
      refine lv_bipush (v := 8) hx hb dX11_told_16 (by decide) ?_
      refine vp_callSi (W.runS (As := [.int b, .int 0, .int 8]) (rest := []) ⟨hx, hb, hml, hown, ht⟩ (c_X11_within l dC dI b 0 8 (b.toInt) (0) (8) (rfl : (b).toInt = _) (by decide : (0 : Int32).toInt = 0) (by decide : (8 : Int32).toInt = 8)) (kS 3 ht m_453 m_454 m_77 m_455 rfl rfl hd_X11_within_v ⟨Nat.le_of_ble_eq_true rfl, Nat.le_of_ble_eq_true rfl⟩) (sR noP (hK.sub (tys' := []) [] rfl)) rfl rfl hl.1 rfl (lv_room (Nat.le_of_ble_eq_true rfl)) dX11_told_18 ⟨Nat.le_of_ble_eq_true rfl, Nat.le_of_ble_eq_true rfl⟩) (fun r3 hr3 => ?_)
      rcases hr3 with ⟨rfl, fr3⟩ | ⟨rfl, fr3⟩
      · skip
        refine lv_if_eq (tgt := 36) hx hb dX11_told_21 (by decide) (fun c4 => ?_) (fun c4 => ?_)
        · exact absurd c4 (by decide)
        · skip
          refine lv_aload_n hx hb dX11_told_24 rfl (lv_at hl 0 rfl) ?_
          refine gX_11_0 hx hb ht hown hK hP m_415 dX11_told_25 ?_
          refine lv_iload_n hx hb dX11_told_28 rfl (lv_at hl 1 rfl) ?_
          refine lv_iload_n hx hb dX11_told_29 rfl (lv_at hl 2 rfl) ?_
          refine vp_callSi (W.runV (As := [.int a, .int b]) (rest := []) ⟨hx, hb, hml, hown, ht⟩ (c_X10_get l dC dI h g ca iv lv fa la hI a b ⟨by omega, by omega⟩ ⟨by omega, by omega⟩) (kV 2 ht m_513 m_486 m_487 m_78 m_488 rfl rfl hd_X10_get_v ⟨Nat.le_of_ble_eq_true rfl, Nat.le_of_ble_eq_true rfl⟩) (vR hP hK (rX_10 hK hP)) rfl rfl hl.1 rfl (lv_room (Nat.le_of_ble_eq_true rfl)) dX11_told_30 ⟨Nat.le_of_ble_eq_true rfl, Nat.le_of_ble_eq_true rfl⟩) (fun r5 hr5 => ?_)
          refine lv_goto (tgt := 38) hx hb dX11_told_33 (by decide) ?_
          exact W.iret (v := r5) hx hb hr (fun t ht9 hW => ⟨r5, rfl, trivial, ht9⟩) (fun q hq => by cases hq) dX11_told_38
      · skip
        refine lv_if_eq (tgt := 36) hx hb dX11_told_21 (by decide) (fun c6 => ?_) (fun c6 => ?_)
        · skip
          refine lv_ldc hx hb hown (ht _ m_456) dX11_told_36 ?_
          exact W.iret (v := (-100002)) hx hb hr (fun t ht9 hW => ⟨(-100002), rfl, trivial, ht9⟩) (fun q hq => by cases hq) dX11_told_38
        · exact absurd rfl c6
    · exact absurd c2 (by decide)
  · skip
    have i_10_1 : 0 ≤ (iv 10 1).toInt ∧ (iv 10 1).toInt ≤ 60 := hI.1 10 1
    have fr1 : ¬ (0 ≤ (a : Int32).toInt ∧ (a : Int32).toInt < ((iv 10 1) : Int32).toInt) := fr1
    refine lv_if_ne (tgt := 14) hx hb dX11_told_8 (by decide) (fun c7 => ?_) (fun c7 => ?_)
    · exact absurd rfl c7
    · skip
      refine lv_ldc hx hb hown (ht _ m_476) dX11_told_11 ?_
      exact W.iret (v := (-100001)) hx hb hr (fun t ht9 hW => ⟨(-100001), rfl, trivial, ht9⟩) (fun q hq => by cases hq) dX11_told_13
set_option maxHeartbeats 4000000 in
set_option maxRecDepth 100000 in
/-- X11_test -/
theorem c_X11_test (l : Launch) (dC : Nat → ClassId) (dI : Nat → Nat → Nat) (sz : Nat) (h : Nat) (g : Nat → Nat → Nat) (ca : Nat → Nat → ClassId) (iv : Nat → Nat → Int32) (lv : Nat → Nat → Int64) (fa : Nat → Nat → Nat → Int32) (la : Nat → Nat → Nat → Int64) (hI : IX iv fa) (a : Int32) (b : Int32) (d : Int32) : Met l yX11_test (wc yX11_test cX11_test 4 (some .int)) ({ frames := 1, cells := 0, slots := 0, locals := 23 } : Room) (pW (dC, dI) classes (WX h g ca iv lv fa la) (TX ca) sz [.ref h, .int a, .int b, .int d]) (va_Qi (fun r (u : SS) => ∃ (na_9_0 : Nat → Int32) (na_9_1 : Nat → Int32) (na_9_2 : Nat → Int32) (ni_9_3 : Int32), inb (bI 9 3) ni_9_3 ∧ ((-100004) ≤ r.toInt ∧ r.toInt ≤ 30) ∧ u = ((u2 iv 9 3 ni_9_3), lv, (u2 (u2 (u2 fa 9 0 na_9_0) 9 1 na_9_1) 9 2 na_9_2), la)) (bX (dC, dI) h g ca (va_A (WX h g ca iv lv fa la) sz)) (va_A (WX h g ca iv lv fa la) sz)) 0 0 (va_A (WX h g ca iv lv fa la) sz) := by
  refine Met.ofW (cc := cX11_test) (maxL := 4) (ret := (some .int)) (by decide) rfl ?_
  intro p e s m args below meth c s₁ B hml hv
  obtain ⟨rfl, hsz, hP, hK, hD0⟩ := hv
  have hx := B.exec
  have hb := B.bytes
  have hr := B.returns
  have ht := tb_tl (atoms_spec (ws := wc yX11_test cX11_test 4 (some .int)) B.pre)
  have hown : s.vm.findClass RX11 = some m.cls := findClass_of_methodNamed B.named
  have hlocks := B.notSynchronized
  subst hsz
  have hD := hD0.self (sz := s.heap.size)
  generalize hAe : va_A (WX h g ca iv lv fa la) s.heap.size = A at hD ⊢
  have hA : ∀ q : Nat, s.heap.size ≤ q → A q := fun q h => by rw [← hAe]; exact Or.inr h
  have hS : va_S A s.heap s.heap [] := va_S.rf
  have hl := lv_entry [.ref h, .int a, .int b, .int d] (n := 4) (Nat.le_of_ble_eq_true rfl)
  rw [lg_entry_eq]
  generalize (lg_sl [.ref h, .int a, .int b, .int d] ++ List.replicate (4 - (lg_sl [.ref h, .int a, .int b, .int d]).length) Slot.unset).toArray = ls at hl ⊢
  have hl : lv_has ls 4 [(0, .ref h), (1, .int a), (2, .int b), (3, .int d)] := hl
  refine lv_iload_n hx hb dX11_test_0 rfl (lv_at hl 1 rfl) ?_
  refine lv_iconst (v := 0) hx hb dX11_test_1 (by decide) ?_
  refine lv_iconst (v := 3) hx hb dX11_test_2 (by decide) ?_
  refine vp_callSi (W.runS (As := [.int a, .int 0, .int 3]) (rest := []) ⟨hx, hb, hml, hown, ht⟩ (c_X11_within l dC dI a 0 3 (a.toInt) (0) (3) (rfl : (a).toInt = _) (by decide : (0 : Int32).toInt = 0) (by decide : (3 : Int32).toInt = 3)) (kS 3 ht m_453 m_454 m_77 m_455 rfl rfl hd_X11_within_v ⟨Nat.le_of_ble_eq_true rfl, Nat.le_of_ble_eq_true rfl⟩) (sR noP (hK.sub (tys' := []) [] rfl)) rfl rfl hl.1 rfl (lv_room (Nat.le_of_ble_eq_true rfl)) dX11_test_3 ⟨Nat.le_of_ble_eq_true rfl, Nat.le_of_ble_eq_true rfl⟩) (fun r1 hr1 => ?_)
  rcases hr1 with ⟨rfl, fr1⟩ | ⟨rfl, fr1⟩
  · skip
    refine lv_if_eq (tgt := 31) hx hb dX11_test_6 (by decide) (fun c2 => ?_) (fun c2 => ?_)
    · exact absurd c2 (by decide)
    · skip
      refine lv_iload_n hx hb dX11_test_9 rfl (lv_at hl 2 rfl) ?_
      refine lv_iconst (v := 1) hx hb dX11_test_10 (by decide) ?_
      refine lv_sipush (v := 9999) hx hb dX11_test_11 (by decide) ?_
      refine vp_callSi (W.runS (As := [.int b, .int 1, .int 9999]) (rest := []) ⟨hx, hb, hml, hown, ht⟩ (c_X11_within l dC dI b 1 9999 (b.toInt) (1) (9999) (rfl : (b).toInt = _) (by decide : (1 : Int32).toInt = 1) (by decide : (9999 : Int32).toInt = 9999)) (kS 3 ht m_453 m_454 m_77 m_455 rfl rfl hd_X11_within_v ⟨Nat.le_of_ble_eq_true rfl, Nat.le_of_ble_eq_true rfl⟩) (sR noP (hK.sub (tys' := []) [] rfl)) rfl rfl hl.1 rfl (lv_room (Nat.le_of_ble_eq_true rfl)) dX11_test_14 ⟨Nat.le_of_ble_eq_true rfl, Nat.le_of_ble_eq_true rfl⟩) (fun r3 hr3 => ?_)
      rcases hr3 with ⟨rfl, fr3⟩ | ⟨rfl, fr3⟩
      · skip
        refine lv_if_eq (tgt := 31) hx hb dX11_test_17 (by decide) (fun c4 => ?_) (fun c4 => ?_)
        · exact absurd c4 (by decide)
        · skip
          refine lv_iload_n hx hb dX11_test_20 rfl (lv_at hl 3 rfl) ?_
          refine lv_iconst (v := 1) hx hb dX11_test_21 (by decide) ?_
          refine lv_sipush (v := 9999) hx hb dX11_test_22 (by decide) ?_
          refine vp_callSi (W.runS (As := [.int d, .int 1, .int 9999]) (rest := []) ⟨hx, hb, hml, hown, ht⟩ (c_X11_within l dC dI d 1 9999 (d.toInt) (1) (9999) (rfl : (d).toInt = _) (by decide : (1 : Int32).toInt = 1) (by decide : (9999 : Int32).toInt = 9999)) (kS 3 ht m_453 m_454 m_77 m_455 rfl rfl hd_X11_within_v ⟨Nat.le_of_ble_eq_true rfl, Nat.le_of_ble_eq_true rfl⟩) (sR noP (hK.sub (tys' := []) [] rfl)) rfl rfl hl.1 rfl (lv_room (Nat.le_of_ble_eq_true rfl)) dX11_test_25 ⟨Nat.le_of_ble_eq_true rfl, Nat.le_of_ble_eq_true rfl⟩) (fun r5 hr5 => ?_)
          rcases hr5 with ⟨rfl, fr5⟩ | ⟨rfl, fr5⟩
          · skip
            refine lv_if_ne (tgt := 34) hx hb dX11_test_28 (by decide) (fun c6 => ?_) (fun c6 => ?_)
            · skip
              refine lv_aload_n hx hb dX11_test_34 rfl (lv_at hl 0 rfl) ?_
              refine gX_11_1 hx hb ht hown hK hP m_416 dX11_test_35 ?_
              have i_9_3 : 0 ≤ (iv 9 3).toInt ∧ (iv 9 3).toInt ≤ 30 := hI.1 9 3
              refine gX_9_3 hx hb ht hown hK hP m_136 (v := (iv 9 3)) rfl dX11_test_38 ?_
              refine lv_bipush (v := 30) hx hb dX11_test_41 (by decide) ?_
              refine lv_icmp_lt (tgt := 49) hx hb dX11_test_43 (by decide) (fun c7 => ?_) (fun c7 => ?_)
              · have fc7 := z_lt (rfl : ((iv 9 3)).toInt = _) (by decide : (30 : Int32).toInt = 30) c7
                refine lv_aload_n hx hb dX11_test_49 rfl (lv_at hl 0 rfl) ?_
                refine gX_11_1 hx hb ht hown hK hP m_416 dX11_test_50 ?_
                refine lv_iload_n hx hb dX11_test_53 rfl (lv_at hl 1 rfl) ?_
                refine lv_aload_n hx hb dX11_test_54 rfl (lv_at hl 0 rfl) ?_
                have i_11_10 : 0 ≤ (iv 11 10).toInt ∧ (iv 11 10).toInt ≤ 3000 := hI.1 11 10
                refine gX_11_10 hx hb ht hown hK hP m_425 (v := (iv 11 10)) rfl dX11_test_55 ?_
                refine lv_iload_n hx hb dX11_test_58 rfl (lv_at hl 2 rfl) ?_
                refine lv_iload_n hx hb dX11_test_59 rfl (lv_at hl 3 rfl) ?_
                refine lv_isub hx hb dX11_test_60 ?_
                refine lv_topi (fun v8 ev8 => ?_)
                have tv8 := z_sub ev8 (rfl : (b).toInt = _) (rfl : (d).toInt = _) (by omega) (by omega)
                have hFc := free_all hD hS hA
                refine va_calli (va_runV (As := [.int a, .int (iv 11 10), .int v8]) (rest := []) ⟨hx, hb, hml, hown, ht⟩ (c_X9_note l dC dI s.heap.size h g ca iv lv fa la hI a (iv 11 10) v8 (show 0 ≤ ((iv 9 3) : Int32).toInt ∧ ((iv 9 3) : Int32).toInt ≤ 29 from ⟨by omega, by omega⟩)) (kV 3 ht m_526 m_527 m_528 m_79 m_529 rfl rfl hd_X9_note_v ⟨Nat.le_of_ble_eq_true rfl, Nat.le_of_ble_eq_true rfl⟩) (vW hP hK hD (rX_9 hK hP)) rfl rfl hl.1 rfl (lv_room (Nat.le_of_ble_eq_true rfl)) dX11_test_61 ⟨Nat.le_of_ble_eq_true rfl, Nat.le_of_ble_eq_true rfl⟩) hS (fun q _ h => hFc q h) hFc (fun r9 u t H1 locs ht9 hvm hr9 hB hz1 hk1 hS => ?_)
                obtain ⟨n10, n11, n12, n13, hn13, dn13, hr9, rfl⟩ := hr9
                have hn10 : ∀ j, inb (bA 9 0 j) (n10 j) := fun j => full_i _
                have hn11 : ∀ j, inb (bA 9 1 j) (n11 j) := fun j => full_i _
                have hn12 : ∀ j, inb (bA 9 2 j) (n12 j) := fun j => full_i _
                have dn13 : n13.toInt = ((iv 9 3) : Int32).toInt + 1 := dn13
                have hn13 : 0 ≤ n13.toInt ∧ n13.toInt ≤ 30 := hn13
                obtain ⟨hP, hD⟩ := hB
                rw [ht9] at hP
                generalize H1 = H at hP hS ⊢
                have hP : va_P (dC, dI) classes (WX h g ca (u2 iv 9 3 n13) lv (u2 (u2 (u2 fa 9 0 n10) 9 1 n11) 9 2 n12) la) H := hP
                have hD : va_D A (WX h g ca (u2 iv 9 3 n13) lv (u2 (u2 (u2 fa 9 0 n10) 9 1 n11) 9 2 n12) la) := (show va_D _ (WX h g ca (u2 iv 9 3 n13) lv (u2 (u2 (u2 fa 9 0 n10) 9 1 n11) 9 2 n12) la) from hD).weaken (fun _ _ _ h => hFc _ h)
                have hP9 : va_P (dC, dI) classes (WX h g ca (u2 iv 9 3 n13) lv (u2 (u2 (u2 fa 9 0 n10) 9 1 n11) 9 2 n12) la) H := hP
                have hD9 : va_D A (WX h g ca (u2 iv 9 3 n13) lv (u2 (u2 (u2 fa 9 0 n10) 9 1 n11) 9 2 n12) la) := hD
                exact W.iret (v := r9) hx hb hr (fun t ht9 hW => ⟨⟨r9, ((u2 iv 9 3 n13), lv, (u2 (u2 (u2 fa 9 0 n10) 9 1 n11) 9 2 n12), la), rfl, ⟨n10, n11, n12, n13, (show inb (0, 30) n13 from ⟨by omega, by omega⟩), ⟨by omega, by omega⟩, rfl⟩, by rw [ht9]; exact hP9, hD9⟩, hS.F ht9⟩) hS.2.2 dX11_test_64
              · have fc7 := z_nlt (rfl : ((iv 9 3)).toInt = _) (by decide : (30 : Int32).toInt = 30) c7
                refine lv_ldc hx hb hown (ht _ m_463) dX11_test_46 ?_
                have hP9 : va_P (dC, dI) classes (WX h g ca (u2 iv 9 3 (iv 9 3)) lv (u2 (u2 (u2 fa 9 0 (fa 9 0)) 9 1 (fa 9 1)) 9 2 (fa 9 2)) la) s.heap := hP
                have hD9 : va_D A (WX h g ca (u2 iv 9 3 (iv 9 3)) lv (u2 (u2 (u2 fa 9 0 (fa 9 0)) 9 1 (fa 9 1)) 9 2 (fa 9 2)) la) := hD
                exact W.iret (v := (-100004)) hx hb hr (fun t ht9 hW => ⟨⟨(-100004), ((u2 iv 9 3 (iv 9 3)), lv, (u2 (u2 (u2 fa 9 0 (fa 9 0)) 9 1 (fa 9 1)) 9 2 (fa 9 2)), la), rfl, ⟨(fa 9 0), (fa 9 1), (fa 9 2), (iv 9 3), (hI.1 9 3), ⟨by decide, by decide⟩, rfl⟩, by rw [ht9]; exact hP9, hD9⟩, hS.F ht9⟩) hS.2.2 dX11_test_48
            · exact absurd c6 (by decide)
          · skip
            refine lv_if_ne (tgt := 34) hx hb dX11_test_28 (by decide) (fun c14 => ?_) (fun c14 => ?_)
            · exact absurd rfl c14
            · skip
              refine lv_ldc hx hb hown (ht _ m_456) dX11_test_31 ?_
              have hP9 : va_P (dC, dI) classes (WX h g ca (u2 iv 9 3 (iv 9 3)) lv (u2 (u2 (u2 fa 9 0 (fa 9 0)) 9 1 (fa 9 1)) 9 2 (fa 9 2)) la) s.heap := hP
              have hD9 : va_D A (WX h g ca (u2 iv 9 3 (iv 9 3)) lv (u2 (u2 (u2 fa 9 0 (fa 9 0)) 9 1 (fa 9 1)) 9 2 (fa 9 2)) la) := hD
              exact W.iret (v := (-100002)) hx hb hr (fun t ht9 hW => ⟨⟨(-100002), ((u2 iv 9 3 (iv 9 3)), lv, (u2 (u2 (u2 fa 9 0 (fa 9 0)) 9 1 (fa 9 1)) 9 2 (fa 9 2)), la), rfl, ⟨(fa 9 0), (fa 9 1), (fa 9 2), (iv 9 3), (hI.1 9 3), ⟨by decide, by decide⟩, rfl⟩, by rw [ht9]; exact hP9, hD9⟩, hS.F ht9⟩) hS.2.2 dX11_test_33
      · skip
        refine lv_if_eq (tgt := 31) hx hb dX11_test_17 (by decide) (fun c15 => ?_) (fun c15 => ?_)
        · skip
          refine lv_ldc hx hb hown (ht _ m_456) dX11_test_31 ?_
          have hP9 : va_P (dC, dI) classes (WX h g ca (u2 iv 9 3 (iv 9 3)) lv (u2 (u2 (u2 fa 9 0 (fa 9 0)) 9 1 (fa 9 1)) 9 2 (fa 9 2)) la) s.heap := hP
          have hD9 : va_D A (WX h g ca (u2 iv 9 3 (iv 9 3)) lv (u2 (u2 (u2 fa 9 0 (fa 9 0)) 9 1 (fa 9 1)) 9 2 (fa 9 2)) la) := hD
          exact W.iret (v := (-100002)) hx hb hr (fun t ht9 hW => ⟨⟨(-100002), ((u2 iv 9 3 (iv 9 3)), lv, (u2 (u2 (u2 fa 9 0 (fa 9 0)) 9 1 (fa 9 1)) 9 2 (fa 9 2)), la), rfl, ⟨(fa 9 0), (fa 9 1), (fa 9 2), (iv 9 3), (hI.1 9 3), ⟨by decide, by decide⟩, rfl⟩, by rw [ht9]; exact hP9, hD9⟩, hS.F ht9⟩) hS.2.2 dX11_test_33
        · exact absurd rfl c15
  · skip
    refine lv_if_eq (tgt := 31) hx hb dX11_test_6 (by decide) (fun c16 => ?_) (fun c16 => ?_)
    · skip
      refine lv_ldc hx hb hown (ht _ m_456) dX11_test_31 ?_
      have hP9 : va_P (dC, dI) classes (WX h g ca (u2 iv 9 3 (iv 9 3)) lv (u2 (u2 (u2 fa 9 0 (fa 9 0)) 9 1 (fa 9 1)) 9 2 (fa 9 2)) la) s.heap := hP
      have hD9 : va_D A (WX h g ca (u2 iv 9 3 (iv 9 3)) lv (u2 (u2 (u2 fa 9 0 (fa 9 0)) 9 1 (fa 9 1)) 9 2 (fa 9 2)) la) := hD
      exact W.iret (v := (-100002)) hx hb hr (fun t ht9 hW => ⟨⟨(-100002), ((u2 iv 9 3 (iv 9 3)), lv, (u2 (u2 (u2 fa 9 0 (fa 9 0)) 9 1 (fa 9 1)) 9 2 (fa 9 2)), la), rfl, ⟨(fa 9 0), (fa 9 1), (fa 9 2), (iv 9 3), (hI.1 9 3), ⟨by decide, by decide⟩, rfl⟩, by rw [ht9]; exact hP9, hD9⟩, hS.F ht9⟩) hS.2.2 dX11_test_33
    · exact absurd rfl c16
set_option maxHeartbeats 4000000 in
set_option maxRecDepth 100000 in
/-- X11_error -/
theorem c_X11_error (l : Launch) (dC : Nat → ClassId) (dI : Nat → Nat → Nat) (h : Nat) (g : Nat → Nat → Nat) (ca : Nat → Nat → ClassId) (iv : Nat → Nat → Int32) (lv : Nat → Nat → Int64) (fa : Nat → Nat → Nat → Int32) (la : Nat → Nat → Nat → Int64) (hI : IX iv fa) (a : Int32) (b : Int32) (d : Int32) : Met l yX11_error (wc yX11_error cX11_error 4 (some .int)) ({ frames := 2, cells := 0, slots := 0, locals := 64 } : Room) (pR (dC, dI) classes (WX h g ca iv lv fa la) (TX ca) [.ref h, .int a, .int b, .int d]) (vp_Si (fun r => True)) 0 0 (fun _ => False) := by
  refine Met.ofW (cc := cX11_error) (maxL := 4) (ret := (some .int)) (by decide) rfl ?_
  intro p e s m args below meth c s₁ B hml hv
  obtain ⟨rfl, hP, hK⟩ := hv
  have hx := B.exec
  have hb := B.bytes
  have hr := B.returns
  have ht := tb_tl (atoms_spec (ws := wc yX11_error cX11_error 4 (some .int)) B.pre)
  have hown : s.vm.findClass RX11 = some m.cls := findClass_of_methodNamed B.named
  have hlocks := B.notSynchronized
  have hl := lv_entry [.ref h, .int a, .int b, .int d] (n := 4) (Nat.le_of_ble_eq_true rfl)
  rw [lg_entry_eq]
  generalize (lg_sl [.ref h, .int a, .int b, .int d] ++ List.replicate (4 - (lg_sl [.ref h, .int a, .int b, .int d]).length) Slot.unset).toArray = ls at hl ⊢
  have hl : lv_has ls 4 [(0, .ref h), (1, .int a), (2, .int b), (3, .int d)] := hl
  refine lv_iload_n hx hb dX11_error_0 rfl (lv_at hl 1 rfl) ?_
  refine lv_iconst (v := 0) hx hb dX11_error_1 (by decide) ?_
  refine lv_iconst (v := 3) hx hb dX11_error_2 (by decide) ?_
  refine vp_callSi (W.runS (As := [.int a, .int 0, .int 3]) (rest := []) ⟨hx, hb, hml, hown, ht⟩ (c_X11_within l dC dI a 0 3 (a.toInt) (0) (3) (rfl : (a).toInt = _) (by decide : (0 : Int32).toInt = 0) (by decide : (3 : Int32).toInt = 3)) (kS 3 ht m_453 m_454 m_77 m_455 rfl rfl hd_X11_within_v ⟨Nat.le_of_ble_eq_true rfl, Nat.le_of_ble_eq_true rfl⟩) (sR noP (hK.sub (tys' := []) [] rfl)) rfl rfl hl.1 rfl (lv_room (Nat.le_of_ble_eq_true rfl)) dX11_error_3 ⟨Nat.le_of_ble_eq_true rfl, Nat.le_of_ble_eq_true rfl⟩) (fun r1 hr1 => ?_)
  rcases hr1 with ⟨rfl, fr1⟩ | ⟨rfl, fr1⟩
  · skip
    refine lv_if_eq (tgt := 29) hx hb dX11_error_6 (by decide) (fun c2 => ?_) (fun c2 => ?_)
    · exact absurd c2 (by decide)
    · skip
      refine lv_iload_n hx hb dX11_error_9 rfl (lv_at hl 2 rfl) ?_
      refine lv_iconst (v := 0) hx hb dX11_error_10 (by decide) ?_
      refine lv_sipush (v := 3000) hx hb dX11_error_11 (by decide) ?_
      refine vp_callSi (W.runS (As := [.int b, .int 0, .int 3000]) (rest := []) ⟨hx, hb, hml, hown, ht⟩ (c_X11_within l dC dI b 0 3000 (b.toInt) (0) (3000) (rfl : (b).toInt = _) (by decide : (0 : Int32).toInt = 0) (by decide : (3000 : Int32).toInt = 3000)) (kS 3 ht m_453 m_454 m_77 m_455 rfl rfl hd_X11_within_v ⟨Nat.le_of_ble_eq_true rfl, Nat.le_of_ble_eq_true rfl⟩) (sR noP (hK.sub (tys' := []) [] rfl)) rfl rfl hl.1 rfl (lv_room (Nat.le_of_ble_eq_true rfl)) dX11_error_14 ⟨Nat.le_of_ble_eq_true rfl, Nat.le_of_ble_eq_true rfl⟩) (fun r3 hr3 => ?_)
      rcases hr3 with ⟨rfl, fr3⟩ | ⟨rfl, fr3⟩
      · skip
        refine lv_if_eq (tgt := 29) hx hb dX11_error_17 (by decide) (fun c4 => ?_) (fun c4 => ?_)
        · exact absurd c4 (by decide)
        · skip
          refine lv_iload_n hx hb dX11_error_20 rfl (lv_at hl 3 rfl) ?_
          refine lv_iconst (v := 0) hx hb dX11_error_21 (by decide) ?_
          refine lv_iconst (v := 1) hx hb dX11_error_22 (by decide) ?_
          refine vp_callSi (W.runS (As := [.int d, .int 0, .int 1]) (rest := []) ⟨hx, hb, hml, hown, ht⟩ (c_X11_within l dC dI d 0 1 (d.toInt) (0) (1) (rfl : (d).toInt = _) (by decide : (0 : Int32).toInt = 0) (by decide : (1 : Int32).toInt = 1)) (kS 3 ht m_453 m_454 m_77 m_455 rfl rfl hd_X11_within_v ⟨Nat.le_of_ble_eq_true rfl, Nat.le_of_ble_eq_true rfl⟩) (sR noP (hK.sub (tys' := []) [] rfl)) rfl rfl hl.1 rfl (lv_room (Nat.le_of_ble_eq_true rfl)) dX11_error_23 ⟨Nat.le_of_ble_eq_true rfl, Nat.le_of_ble_eq_true rfl⟩) (fun r5 hr5 => ?_)
          rcases hr5 with ⟨rfl, fr5⟩ | ⟨rfl, fr5⟩
          · skip
            refine lv_if_ne (tgt := 32) hx hb dX11_error_26 (by decide) (fun c6 => ?_) (fun c6 => ?_)
            · skip
              refine lv_iload_n hx hb dX11_error_32 rfl (lv_at hl 3 rfl) ?_
              refine lv_if_ne (tgt := 48) hx hb dX11_error_33 (by decide) (fun c7 => ?_) (fun c7 => ?_)
              · have fc7 := z_ne (rfl : (d).toInt = _) (by decide : (0 : Int32).toInt = 0) c7
                refine lv_aload_n hx hb dX11_error_48 rfl (lv_at hl 0 rfl) ?_
                refine gX_11_1 hx hb ht hown hK hP m_416 dX11_error_49 ?_
                refine lv_iload_n hx hb dX11_error_52 rfl (lv_at hl 1 rfl) ?_
                refine lv_iload_n hx hb dX11_error_53 rfl (lv_at hl 2 rfl) ?_
                refine vp_callSi (W.runV (As := [.int a, .int b]) (rest := []) ⟨hx, hb, hml, hown, ht⟩ (c_X9_greatest l dC dI h g ca iv lv fa la hI a b) (kV 2 ht m_553 m_554 m_555 m_79 m_556 rfl rfl hd_X9_greatest_v ⟨Nat.le_of_ble_eq_true rfl, Nat.le_of_ble_eq_true rfl⟩) (vR hP hK (rX_9 hK hP)) rfl rfl hl.1 rfl (lv_room (Nat.le_of_ble_eq_true rfl)) dX11_error_54 ⟨Nat.le_of_ble_eq_true rfl, Nat.le_of_ble_eq_true rfl⟩) (fun r8 hr8 => ?_)
                exact W.iret (v := r8) hx hb hr (fun t ht9 hW => ⟨r8, rfl, trivial, ht9⟩) (fun q hq => by cases hq) dX11_error_57
              · have fc7 := z_eq (rfl : (d).toInt = _) (by decide : (0 : Int32).toInt = 0) c7
                refine lv_aload_n hx hb dX11_error_36 rfl (lv_at hl 0 rfl) ?_
                refine gX_11_1 hx hb ht hown hK hP m_416 dX11_error_37 ?_
                refine lv_iload_n hx hb dX11_error_40 rfl (lv_at hl 1 rfl) ?_
                refine lv_iload_n hx hb dX11_error_41 rfl (lv_at hl 2 rfl) ?_
                refine vp_callSi (W.runV (As := [.int a, .int b]) (rest := []) ⟨hx, hb, hml, hown, ht⟩ (c_X9_least l dC dI h g ca iv lv fa la hI a b) (kV 2 ht m_534 m_535 m_536 m_79 m_537 rfl rfl hd_X9_least_v ⟨Nat.le_of_ble_eq_true rfl, Nat.le_of_ble_eq_true rfl⟩) (vR hP hK (rX_9 hK hP)) rfl rfl hl.1 rfl (lv_room (Nat.le_of_ble_eq_true rfl)) dX11_error_42 ⟨Nat.le_of_ble_eq_true rfl, Nat.le_of_ble_eq_true rfl⟩) (fun r9 hr9 => ?_)
                refine lv_goto (tgt := 57) hx hb dX11_error_45 (by decide) ?_
                exact W.iret (v := r9) hx hb hr (fun t ht9 hW => ⟨r9, rfl, trivial, ht9⟩) (fun q hq => by cases hq) dX11_error_57
            · exact absurd c6 (by decide)
          · skip
            refine lv_if_ne (tgt := 32) hx hb dX11_error_26 (by decide) (fun c10 => ?_) (fun c10 => ?_)
            · exact absurd rfl c10
            · skip
              refine lv_ldc hx hb hown (ht _ m_456) dX11_error_29 ?_
              exact W.iret (v := (-100002)) hx hb hr (fun t ht9 hW => ⟨(-100002), rfl, trivial, ht9⟩) (fun q hq => by cases hq) dX11_error_31
      · skip
        refine lv_if_eq (tgt := 29) hx hb dX11_error_17 (by decide) (fun c11 => ?_) (fun c11 => ?_)
        · skip
          refine lv_ldc hx hb hown (ht _ m_456) dX11_error_29 ?_
          exact W.iret (v := (-100002)) hx hb hr (fun t ht9 hW => ⟨(-100002), rfl, trivial, ht9⟩) (fun q hq => by cases hq) dX11_error_31
        · exact absurd rfl c11
  · skip
    refine lv_if_eq (tgt := 29) hx hb dX11_error_6 (by decide) (fun c12 => ?_) (fun c12 => ?_)
    · skip
      refine lv_ldc hx hb hown (ht _ m_456) dX11_error_29 ?_
      exact W.iret (v := (-100002)) hx hb hr (fun t ht9 hW => ⟨(-100002), rfl, trivial, ht9⟩) (fun q hq => by cases hq) dX11_error_31
    · exact absurd rfl c12
/-! ===== h2 ===== -/
theorem m_86 : Cond.initialized RX5 ∈ tb := mb_1_0 _ (List.mem_of_getElem? (i := 9) rfl)
theorem m_155 : Cond.fieldLink RX11 271 "SilkHouse$Bales" "threads" "[I" ∈ tb := mb_1_2 _ (List.mem_of_getElem? (i := 10) rfl)
theorem m_157 : Cond.fieldLink RX11 287 "SilkHouse$Bales" "twists" "[I" ∈ tb := mb_1_2 _ (List.mem_of_getElem? (i := 12) rfl)
theorem m_159 : Cond.fieldLink RX11 296 "SilkHouse$Bales" "gum" "[I" ∈ tb := mb_1_2 _ (List.mem_of_getElem? (i := 14) rfl)
theorem m_161 : Cond.fieldLink RX11 299 "SilkHouse$Bales" "ash" "[I" ∈ tb := mb_1_2 _ (List.mem_of_getElem? (i := 16) rfl)
theorem m_233 : Cond.fieldLink RX11 207 "SilkHouse$Reader" "faultByte" "I" ∈ tb := mb_1_4 _ (List.mem_of_getElem? (i := 3) rfl)
theorem m_341 : Cond.fieldLink RX11 305 "SilkHouse$Ovens" "number" "I" ∈ tb := mb_2_0 _ (List.mem_of_getElem? (i := 11) rfl)
theorem m_419 : Cond.fieldLink RX11 42 "SilkHouse" "reader" "LSilkHouse$Reader;" ∈ tb := mb_2_2 _ (List.mem_of_getElem? (i := 0) rfl)
theorem m_422 : Cond.fieldLink RX11 67 "SilkHouse" "ovens" "LSilkHouse$Ovens;" ∈ tb := mb_2_2 _ (List.mem_of_getElem? (i := 3) rfl)
theorem m_945 : Cond.methodLink RX11 274 yX0_reel ∈ tb := mb_4_5 _ (List.mem_of_getElem? (i := 16) rfl)
theorem m_946 : Cond.instanceMethod yX0_reel ∈ tb := mb_4_5 _ (List.mem_of_getElem? (i := 17) rfl)
theorem m_947 : Cond.selects RX0 yX0_reel yX0_reel ∈ tb := mb_4_5 _ (List.mem_of_getElem? (i := 18) rfl)
theorem m_948 : Cond.code yX0_reel cX0_reel 3 (some .int) ∈ tb := mb_4_5 _ (List.mem_of_getElem? (i := 19) rfl)
theorem m_977 : Cond.methodLink RX11 290 yX0_untwist ∈ tb := mb_4_6 _ (List.mem_of_getElem? (i := 23) rfl)
theorem m_978 : Cond.instanceMethod yX0_untwist ∈ tb := mb_4_7 _ (List.mem_of_getElem? (i := 0) rfl)
theorem m_979 : Cond.selects RX0 yX0_untwist yX0_untwist ∈ tb := mb_4_7 _ (List.mem_of_getElem? (i := 1) rfl)
theorem m_980 : Cond.code yX0_untwist cX0_untwist 5 (some .int) ∈ tb := mb_4_7 _ (List.mem_of_getElem? (i := 2) rfl)
theorem m_985 : Cond.methodLink RX11 293 yX0_middleTwist ∈ tb := mb_4_7 _ (List.mem_of_getElem? (i := 7) rfl)
theorem m_986 : Cond.instanceMethod yX0_middleTwist ∈ tb := mb_4_7 _ (List.mem_of_getElem? (i := 8) rfl)
theorem m_987 : Cond.selects RX0 yX0_middleTwist yX0_middleTwist ∈ tb := mb_4_7 _ (List.mem_of_getElem? (i := 9) rfl)
theorem m_988 : Cond.code yX0_middleTwist cX0_middleTwist 2 (some .int) ∈ tb := mb_4_7 _ (List.mem_of_getElem? (i := 10) rfl)
theorem m_1005 : Cond.methodLink RX11 306 yX5_bring ∈ tb := mb_4_8 _ (List.mem_of_getElem? (i := 2) rfl)
theorem m_1006 : Cond.instanceMethod yX5_bring ∈ tb := mb_4_8 _ (List.mem_of_getElem? (i := 3) rfl)
theorem m_1007 : Cond.selects RX5 yX5_bring yX5_bring ∈ tb := mb_4_8 _ (List.mem_of_getElem? (i := 4) rfl)
theorem m_1008 : Cond.code yX5_bring cX5_bring 2 (some .int) ∈ tb := mb_4_8 _ (List.mem_of_getElem? (i := 5) rfl)
theorem m_1030 : Cond.methodLink RX11 317 yX5_clear ∈ tb := mb_4_9 _ (List.mem_of_getElem? (i := 2) rfl)
theorem m_1031 : Cond.instanceMethod yX5_clear ∈ tb := mb_4_9 _ (List.mem_of_getElem? (i := 3) rfl)
theorem m_1032 : Cond.selects RX5 yX5_clear yX5_clear ∈ tb := mb_4_9 _ (List.mem_of_getElem? (i := 4) rfl)
theorem m_1033 : Cond.code yX5_clear cX5_clear 2 (some .int) ∈ tb := mb_4_9 _ (List.mem_of_getElem? (i := 5) rfl)
theorem hd_X0_middleTwist_v : yX0_middleTwist.cls = RX0 ∧ yX0_middleTwist.cls ≠ "java/lang/invoke/MethodHandle" ∧ yX0_middleTwist.cls ≠ "java/lang/invoke/VarHandle" ∧ (parseMethodDescriptor yX0_middleTwist.desc).map (fun d => d.parameters.length) = some 1 := by decide +kernel
theorem hd_X0_reel_v : yX0_reel.cls = RX0 ∧ yX0_reel.cls ≠ "java/lang/invoke/MethodHandle" ∧ yX0_reel.cls ≠ "java/lang/invoke/VarHandle" ∧ (parseMethodDescriptor yX0_reel.desc).map (fun d => d.parameters.length) = some 2 := by decide +kernel
theorem hd_X0_untwist_v : yX0_untwist.cls = RX0 ∧ yX0_untwist.cls ≠ "java/lang/invoke/MethodHandle" ∧ yX0_untwist.cls ≠ "java/lang/invoke/VarHandle" ∧ (parseMethodDescriptor yX0_untwist.desc).map (fun d => d.parameters.length) = some 2 := by decide +kernel
theorem hd_X5_bring_v : yX5_bring.cls = RX5 ∧ yX5_bring.cls ≠ "java/lang/invoke/MethodHandle" ∧ yX5_bring.cls ≠ "java/lang/invoke/VarHandle" ∧ (parseMethodDescriptor yX5_bring.desc).map (fun d => d.parameters.length) = some 1 := by decide +kernel
theorem hd_X5_clear_v : yX5_clear.cls = RX5 ∧ yX5_clear.cls ≠ "java/lang/invoke/MethodHandle" ∧ yX5_clear.cls ≠ "java/lang/invoke/VarHandle" ∧ (parseMethodDescriptor yX5_clear.desc).map (fun d => d.parameters.length) = some 0 := by decide +kernel
set_option maxRecDepth 100000 in
theorem dvX11_burnt_0 : ([(0, .aload_n 0, 1), (1, .getfield 26, 3), (4, .iload_n 1, 1), (5, .invokevirtual 104, 3), (8, .ifCond .ne 6, 3), (11, .ldc 108, 2), (13, .ireturn, 1), (14, .iload_n 2, 1), (15, .iconst 0, 1), (16, .iconst 1, 1), (17, .invokestatic 89, 3), (20, .ifCond .eq 26, 3), (23, .iload_n 3, 1), (24, .iconst 0, 1), (25, .sipush 999, 3), (28, .invokestatic 89, 3), (31, .ifCond .eq 15, 3), (34, .iload 4, 2), (36, .iload_n 3, 1), (37, .sipush 999, 3), (40, .invokestatic 89, 3), (43, .ifCond .ne 6, 3), (46, .ldc 93, 2), (48, .ireturn, 1)] : List (Nat × Instr × Nat)).all (fun q => decide (decode cX11_burnt q.1 = .ok (q.2.1, q.2.2))) = true := by decide +kernel
theorem dX11_burnt_0 : decode cX11_burnt 0 = .ok (.aload_n 0, 1) := all_at dvX11_burnt_0 0 rfl
theorem dX11_burnt_1 : decode cX11_burnt 1 = .ok (.getfield 26, 3) := all_at dvX11_burnt_0 1 rfl
theorem dX11_burnt_4 : decode cX11_burnt 4 = .ok (.iload_n 1, 1) := all_at dvX11_burnt_0 2 rfl
theorem dX11_burnt_5 : decode cX11_burnt 5 = .ok (.invokevirtual 104, 3) := all_at dvX11_burnt_0 3 rfl
theorem dX11_burnt_8 : decode cX11_burnt 8 = .ok (.ifCond .ne 6, 3) := all_at dvX11_burnt_0 4 rfl
theorem dX11_burnt_11 : decode cX11_burnt 11 = .ok (.ldc 108, 2) := all_at dvX11_burnt_0 5 rfl
theorem dX11_burnt_13 : decode cX11_burnt 13 = .ok (.ireturn, 1) := all_at dvX11_burnt_0 6 rfl
theorem dX11_burnt_14 : decode cX11_burnt 14 = .ok (.iload_n 2, 1) := all_at dvX11_burnt_0 7 rfl
theorem dX11_burnt_15 : decode cX11_burnt 15 = .ok (.iconst 0, 1) := all_at dvX11_burnt_0 8 rfl
theorem dX11_burnt_16 : decode cX11_burnt 16 = .ok (.iconst 1, 1) := all_at dvX11_burnt_0 9 rfl
theorem dX11_burnt_17 : decode cX11_burnt 17 = .ok (.invokestatic 89, 3) := all_at dvX11_burnt_0 10 rfl
theorem dX11_burnt_20 : decode cX11_burnt 20 = .ok (.ifCond .eq 26, 3) := all_at dvX11_burnt_0 11 rfl
theorem dX11_burnt_23 : decode cX11_burnt 23 = .ok (.iload_n 3, 1) := all_at dvX11_burnt_0 12 rfl
theorem dX11_burnt_24 : decode cX11_burnt 24 = .ok (.iconst 0, 1) := all_at dvX11_burnt_0 13 rfl
theorem dX11_burnt_25 : decode cX11_burnt 25 = .ok (.sipush 999, 3) := all_at dvX11_burnt_0 14 rfl
theorem dX11_burnt_28 : decode cX11_burnt 28 = .ok (.invokestatic 89, 3) := all_at dvX11_burnt_0 15 rfl
theorem dX11_burnt_31 : decode cX11_burnt 31 = .ok (.ifCond .eq 15, 3) := all_at dvX11_burnt_0 16 rfl
theorem dX11_burnt_34 : decode cX11_burnt 34 = .ok (.iload 4, 2) := all_at dvX11_burnt_0 17 rfl
theorem dX11_burnt_36 : decode cX11_burnt 36 = .ok (.iload_n 3, 1) := all_at dvX11_burnt_0 18 rfl
theorem dX11_burnt_37 : decode cX11_burnt 37 = .ok (.sipush 999, 3) := all_at dvX11_burnt_0 19 rfl
theorem dX11_burnt_40 : decode cX11_burnt 40 = .ok (.invokestatic 89, 3) := all_at dvX11_burnt_0 20 rfl
theorem dX11_burnt_43 : decode cX11_burnt 43 = .ok (.ifCond .ne 6, 3) := all_at dvX11_burnt_0 21 rfl
theorem dX11_burnt_46 : decode cX11_burnt 46 = .ok (.ldc 93, 2) := all_at dvX11_burnt_0 22 rfl
theorem dX11_burnt_48 : decode cX11_burnt 48 = .ok (.ireturn, 1) := all_at dvX11_burnt_0 23 rfl
set_option maxRecDepth 100000 in
theorem dvX11_burnt_49 : ([(49, .iload_n 2, 1), (50, .ifCond .ne 16, 3), (53, .aload_n 0, 1), (54, .getfield 26, 3), (57, .getfield 296, 3), (60, .iload_n 1, 1), (61, .iload_n 3, 1), (62, .iastore, 1), (63, .goto 13, 3), (66, .aload_n 0, 1), (67, .getfield 26, 3), (70, .getfield 299, 3), (73, .iload_n 1, 1), (74, .iload_n 3, 1), (75, .iastore, 1), (76, .iconst 1, 1), (77, .ireturn, 1)] : List (Nat × Instr × Nat)).all (fun q => decide (decode cX11_burnt q.1 = .ok (q.2.1, q.2.2))) = true := by decide +kernel
theorem dX11_burnt_49 : decode cX11_burnt 49 = .ok (.iload_n 2, 1) := all_at dvX11_burnt_49 0 rfl
theorem dX11_burnt_50 : decode cX11_burnt 50 = .ok (.ifCond .ne 16, 3) := all_at dvX11_burnt_49 1 rfl
theorem dX11_burnt_53 : decode cX11_burnt 53 = .ok (.aload_n 0, 1) := all_at dvX11_burnt_49 2 rfl
theorem dX11_burnt_54 : decode cX11_burnt 54 = .ok (.getfield 26, 3) := all_at dvX11_burnt_49 3 rfl
theorem dX11_burnt_57 : decode cX11_burnt 57 = .ok (.getfield 296, 3) := all_at dvX11_burnt_49 4 rfl
theorem dX11_burnt_60 : decode cX11_burnt 60 = .ok (.iload_n 1, 1) := all_at dvX11_burnt_49 5 rfl
theorem dX11_burnt_61 : decode cX11_burnt 61 = .ok (.iload_n 3, 1) := all_at dvX11_burnt_49 6 rfl
theorem dX11_burnt_62 : decode cX11_burnt 62 = .ok (.iastore, 1) := all_at dvX11_burnt_49 7 rfl
theorem dX11_burnt_63 : decode cX11_burnt 63 = .ok (.goto 13, 3) := all_at dvX11_burnt_49 8 rfl
theorem dX11_burnt_66 : decode cX11_burnt 66 = .ok (.aload_n 0, 1) := all_at dvX11_burnt_49 9 rfl
theorem dX11_burnt_67 : decode cX11_burnt 67 = .ok (.getfield 26, 3) := all_at dvX11_burnt_49 10 rfl
theorem dX11_burnt_70 : decode cX11_burnt 70 = .ok (.getfield 299, 3) := all_at dvX11_burnt_49 11 rfl
theorem dX11_burnt_73 : decode cX11_burnt 73 = .ok (.iload_n 1, 1) := all_at dvX11_burnt_49 12 rfl
theorem dX11_burnt_74 : decode cX11_burnt 74 = .ok (.iload_n 3, 1) := all_at dvX11_burnt_49 13 rfl
theorem dX11_burnt_75 : decode cX11_burnt 75 = .ok (.iastore, 1) := all_at dvX11_burnt_49 14 rfl
theorem dX11_burnt_76 : decode cX11_burnt 76 = .ok (.iconst 1, 1) := all_at dvX11_burnt_49 15 rfl
theorem dX11_burnt_77 : decode cX11_burnt 77 = .ok (.ireturn, 1) := all_at dvX11_burnt_49 16 rfl
set_option maxRecDepth 100000 in
theorem dvX11_empty_0 : ([(0, .aload_n 0, 1), (1, .getfield 67, 3), (4, .invokevirtual 317, 3), (7, .ireturn, 1)] : List (Nat × Instr × Nat)).all (fun q => decide (decode cX11_empty q.1 = .ok (q.2.1, q.2.2))) = true := by decide +kernel
theorem dX11_empty_0 : decode cX11_empty 0 = .ok (.aload_n 0, 1) := all_at dvX11_empty_0 0 rfl
theorem dX11_empty_1 : decode cX11_empty 1 = .ok (.getfield 67, 3) := all_at dvX11_empty_0 1 rfl
theorem dX11_empty_4 : decode cX11_empty 4 = .ok (.invokevirtual 317, 3) := all_at dvX11_empty_0 2 rfl
theorem dX11_empty_7 : decode cX11_empty 7 = .ok (.ireturn, 1) := all_at dvX11_empty_0 3 rfl
set_option maxRecDepth 100000 in
theorem dvX11_fault_0 : ([(0, .aload_n 0, 1), (1, .getfield 42, 3), (4, .getfield 207, 3), (7, .ireturn, 1)] : List (Nat × Instr × Nat)).all (fun q => decide (decode cX11_fault q.1 = .ok (q.2.1, q.2.2))) = true := by decide +kernel
theorem dX11_fault_0 : decode cX11_fault 0 = .ok (.aload_n 0, 1) := all_at dvX11_fault_0 0 rfl
theorem dX11_fault_1 : decode cX11_fault 1 = .ok (.getfield 42, 3) := all_at dvX11_fault_0 1 rfl
theorem dX11_fault_4 : decode cX11_fault 4 = .ok (.getfield 207, 3) := all_at dvX11_fault_0 2 rfl
theorem dX11_fault_7 : decode cX11_fault 7 = .ok (.ireturn, 1) := all_at dvX11_fault_0 3 rfl
set_option maxRecDepth 100000 in
theorem dvX11_load_0 : ([(0, .iload_n 1, 1), (1, .iconst 1, 1), (2, .sipush 999, 3), (5, .invokestatic 89, 3), (8, .ifCond .ne 6, 3), (11, .ldc 93, 2), (13, .ireturn, 1), (14, .aload_n 0, 1), (15, .getfield 67, 3), (18, .getfield 305, 3), (21, .bipush 8, 2), (23, .if_icmp .lt 8, 3), (26, .ldc 99, 2), (28, .goto 11, 3), (31, .aload_n 0, 1), (32, .getfield 67, 3), (35, .iload_n 1, 1), (36, .invokevirtual 306, 3), (39, .ireturn, 1)] : List (Nat × Instr × Nat)).all (fun q => decide (decode cX11_load q.1 = .ok (q.2.1, q.2.2))) = true := by decide +kernel
theorem dX11_load_0 : decode cX11_load 0 = .ok (.iload_n 1, 1) := all_at dvX11_load_0 0 rfl
theorem dX11_load_1 : decode cX11_load 1 = .ok (.iconst 1, 1) := all_at dvX11_load_0 1 rfl
theorem dX11_load_2 : decode cX11_load 2 = .ok (.sipush 999, 3) := all_at dvX11_load_0 2 rfl
theorem dX11_load_5 : decode cX11_load 5 = .ok (.invokestatic 89, 3) := all_at dvX11_load_0 3 rfl
theorem dX11_load_8 : decode cX11_load 8 = .ok (.ifCond .ne 6, 3) := all_at dvX11_load_0 4 rfl
theorem dX11_load_11 : decode cX11_load 11 = .ok (.ldc 93, 2) := all_at dvX11_load_0 5 rfl
theorem dX11_load_13 : decode cX11_load 13 = .ok (.ireturn, 1) := all_at dvX11_load_0 6 rfl
theorem dX11_load_14 : decode cX11_load 14 = .ok (.aload_n 0, 1) := all_at dvX11_load_0 7 rfl
theorem dX11_load_15 : decode cX11_load 15 = .ok (.getfield 67, 3) := all_at dvX11_load_0 8 rfl
theorem dX11_load_18 : decode cX11_load 18 = .ok (.getfield 305, 3) := all_at dvX11_load_0 9 rfl
theorem dX11_load_21 : decode cX11_load 21 = .ok (.bipush 8, 2) := all_at dvX11_load_0 10 rfl
theorem dX11_load_23 : decode cX11_load 23 = .ok (.if_icmp .lt 8, 3) := all_at dvX11_load_0 11 rfl
theorem dX11_load_26 : decode cX11_load 26 = .ok (.ldc 99, 2) := all_at dvX11_load_0 12 rfl
theorem dX11_load_28 : decode cX11_load 28 = .ok (.goto 11, 3) := all_at dvX11_load_0 13 rfl
theorem dX11_load_31 : decode cX11_load 31 = .ok (.aload_n 0, 1) := all_at dvX11_load_0 14 rfl
theorem dX11_load_32 : decode cX11_load 32 = .ok (.getfield 67, 3) := all_at dvX11_load_0 15 rfl
theorem dX11_load_35 : decode cX11_load 35 = .ok (.iload_n 1, 1) := all_at dvX11_load_0 16 rfl
theorem dX11_load_36 : decode cX11_load 36 = .ok (.invokevirtual 306, 3) := all_at dvX11_load_0 17 rfl
theorem dX11_load_39 : decode cX11_load 39 = .ok (.ireturn, 1) := all_at dvX11_load_0 18 rfl
set_option maxRecDepth 100000 in
theorem dvX11_thread_0 : ([(0, .aload_n 0, 1), (1, .getfield 26, 3), (4, .iload_n 1, 1), (5, .invokevirtual 104, 3), (8, .ifCond .ne 6, 3), (11, .ldc 108, 2), (13, .ireturn, 1), (14, .iload_n 2, 1), (15, .iconst 1, 1), (16, .sipush 999, 3), (19, .invokestatic 89, 3), (22, .ifCond .ne 6, 3), (25, .ldc 93, 2), (27, .ireturn, 1), (28, .aload_n 0, 1), (29, .getfield 26, 3), (32, .getfield 271, 3), (35, .iload_n 1, 1), (36, .iaload, 1), (37, .bipush 12, 2), (39, .if_icmp .lt 8, 3), (42, .ldc 99, 2), (44, .goto 12, 3), (47, .aload_n 0, 1)] : List (Nat × Instr × Nat)).all (fun q => decide (decode cX11_thread q.1 = .ok (q.2.1, q.2.2))) = true := by decide +kernel
theorem dX11_thread_0 : decode cX11_thread 0 = .ok (.aload_n 0, 1) := all_at dvX11_thread_0 0 rfl
theorem dX11_thread_1 : decode cX11_thread 1 = .ok (.getfield 26, 3) := all_at dvX11_thread_0 1 rfl
theorem dX11_thread_4 : decode cX11_thread 4 = .ok (.iload_n 1, 1) := all_at dvX11_thread_0 2 rfl
theorem dX11_thread_5 : decode cX11_thread 5 = .ok (.invokevirtual 104, 3) := all_at dvX11_thread_0 3 rfl
theorem dX11_thread_8 : decode cX11_thread 8 = .ok (.ifCond .ne 6, 3) := all_at dvX11_thread_0 4 rfl
theorem dX11_thread_11 : decode cX11_thread 11 = .ok (.ldc 108, 2) := all_at dvX11_thread_0 5 rfl
theorem dX11_thread_13 : decode cX11_thread 13 = .ok (.ireturn, 1) := all_at dvX11_thread_0 6 rfl
theorem dX11_thread_14 : decode cX11_thread 14 = .ok (.iload_n 2, 1) := all_at dvX11_thread_0 7 rfl
theorem dX11_thread_15 : decode cX11_thread 15 = .ok (.iconst 1, 1) := all_at dvX11_thread_0 8 rfl
theorem dX11_thread_16 : decode cX11_thread 16 = .ok (.sipush 999, 3) := all_at dvX11_thread_0 9 rfl
theorem dX11_thread_19 : decode cX11_thread 19 = .ok (.invokestatic 89, 3) := all_at dvX11_thread_0 10 rfl
theorem dX11_thread_22 : decode cX11_thread 22 = .ok (.ifCond .ne 6, 3) := all_at dvX11_thread_0 11 rfl
theorem dX11_thread_25 : decode cX11_thread 25 = .ok (.ldc 93, 2) := all_at dvX11_thread_0 12 rfl
theorem dX11_thread_27 : decode cX11_thread 27 = .ok (.ireturn, 1) := all_at dvX11_thread_0 13 rfl
theorem dX11_thread_28 : decode cX11_thread 28 = .ok (.aload_n 0, 1) := all_at dvX11_thread_0 14 rfl
theorem dX11_thread_29 : decode cX11_thread 29 = .ok (.getfield 26, 3) := all_at dvX11_thread_0 15 rfl
theorem dX11_thread_32 : decode cX11_thread 32 = .ok (.getfield 271, 3) := all_at dvX11_thread_0 16 rfl
theorem dX11_thread_35 : decode cX11_thread 35 = .ok (.iload_n 1, 1) := all_at dvX11_thread_0 17 rfl
theorem dX11_thread_36 : decode cX11_thread 36 = .ok (.iaload, 1) := all_at dvX11_thread_0 18 rfl
theorem dX11_thread_37 : decode cX11_thread 37 = .ok (.bipush 12, 2) := all_at dvX11_thread_0 19 rfl
theorem dX11_thread_39 : decode cX11_thread 39 = .ok (.if_icmp .lt 8, 3) := all_at dvX11_thread_0 20 rfl
theorem dX11_thread_42 : decode cX11_thread 42 = .ok (.ldc 99, 2) := all_at dvX11_thread_0 21 rfl
theorem dX11_thread_44 : decode cX11_thread 44 = .ok (.goto 12, 3) := all_at dvX11_thread_0 22 rfl
theorem dX11_thread_47 : decode cX11_thread 47 = .ok (.aload_n 0, 1) := all_at dvX11_thread_0 23 rfl
set_option maxRecDepth 100000 in
theorem dvX11_thread_48 : ([(48, .getfield 26, 3), (51, .iload_n 1, 1), (52, .iload_n 2, 1), (53, .invokevirtual 274, 3), (56, .ireturn, 1)] : List (Nat × Instr × Nat)).all (fun q => decide (decode cX11_thread q.1 = .ok (q.2.1, q.2.2))) = true := by decide +kernel
theorem dX11_thread_48 : decode cX11_thread 48 = .ok (.getfield 26, 3) := all_at dvX11_thread_48 0 rfl
theorem dX11_thread_51 : decode cX11_thread 51 = .ok (.iload_n 1, 1) := all_at dvX11_thread_48 1 rfl
theorem dX11_thread_52 : decode cX11_thread 52 = .ok (.iload_n 2, 1) := all_at dvX11_thread_48 2 rfl
theorem dX11_thread_53 : decode cX11_thread 53 = .ok (.invokevirtual 274, 3) := all_at dvX11_thread_48 3 rfl
theorem dX11_thread_56 : decode cX11_thread 56 = .ok (.ireturn, 1) := all_at dvX11_thread_48 4 rfl
set_option maxRecDepth 100000 in
theorem dvX11_turns_0 : ([(0, .aload_n 0, 1), (1, .getfield 26, 3), (4, .iload_n 1, 1), (5, .invokevirtual 104, 3), (8, .ifCond .ne 6, 3), (11, .ldc 108, 2), (13, .ireturn, 1), (14, .iload_n 2, 1), (15, .iconst 0, 1), (16, .sipush 999, 3), (19, .invokestatic 89, 3), (22, .ifCond .ne 6, 3), (25, .ldc 93, 2), (27, .ireturn, 1), (28, .aload_n 0, 1), (29, .getfield 26, 3), (32, .getfield 287, 3), (35, .iload_n 1, 1), (36, .iaload, 1), (37, .bipush 8, 2), (39, .if_icmp .lt 8, 3), (42, .ldc 99, 2), (44, .goto 12, 3), (47, .aload_n 0, 1)] : List (Nat × Instr × Nat)).all (fun q => decide (decode cX11_turns q.1 = .ok (q.2.1, q.2.2))) = true := by decide +kernel
theorem dX11_turns_0 : decode cX11_turns 0 = .ok (.aload_n 0, 1) := all_at dvX11_turns_0 0 rfl
theorem dX11_turns_1 : decode cX11_turns 1 = .ok (.getfield 26, 3) := all_at dvX11_turns_0 1 rfl
theorem dX11_turns_4 : decode cX11_turns 4 = .ok (.iload_n 1, 1) := all_at dvX11_turns_0 2 rfl
theorem dX11_turns_5 : decode cX11_turns 5 = .ok (.invokevirtual 104, 3) := all_at dvX11_turns_0 3 rfl
theorem dX11_turns_8 : decode cX11_turns 8 = .ok (.ifCond .ne 6, 3) := all_at dvX11_turns_0 4 rfl
theorem dX11_turns_11 : decode cX11_turns 11 = .ok (.ldc 108, 2) := all_at dvX11_turns_0 5 rfl
theorem dX11_turns_13 : decode cX11_turns 13 = .ok (.ireturn, 1) := all_at dvX11_turns_0 6 rfl
theorem dX11_turns_14 : decode cX11_turns 14 = .ok (.iload_n 2, 1) := all_at dvX11_turns_0 7 rfl
theorem dX11_turns_15 : decode cX11_turns 15 = .ok (.iconst 0, 1) := all_at dvX11_turns_0 8 rfl
theorem dX11_turns_16 : decode cX11_turns 16 = .ok (.sipush 999, 3) := all_at dvX11_turns_0 9 rfl
theorem dX11_turns_19 : decode cX11_turns 19 = .ok (.invokestatic 89, 3) := all_at dvX11_turns_0 10 rfl
theorem dX11_turns_22 : decode cX11_turns 22 = .ok (.ifCond .ne 6, 3) := all_at dvX11_turns_0 11 rfl
theorem dX11_turns_25 : decode cX11_turns 25 = .ok (.ldc 93, 2) := all_at dvX11_turns_0 12 rfl
theorem dX11_turns_27 : decode cX11_turns 27 = .ok (.ireturn, 1) := all_at dvX11_turns_0 13 rfl
theorem dX11_turns_28 : decode cX11_turns 28 = .ok (.aload_n 0, 1) := all_at dvX11_turns_0 14 rfl
theorem dX11_turns_29 : decode cX11_turns 29 = .ok (.getfield 26, 3) := all_at dvX11_turns_0 15 rfl
theorem dX11_turns_32 : decode cX11_turns 32 = .ok (.getfield 287, 3) := all_at dvX11_turns_0 16 rfl
theorem dX11_turns_35 : decode cX11_turns 35 = .ok (.iload_n 1, 1) := all_at dvX11_turns_0 17 rfl
theorem dX11_turns_36 : decode cX11_turns 36 = .ok (.iaload, 1) := all_at dvX11_turns_0 18 rfl
theorem dX11_turns_37 : decode cX11_turns 37 = .ok (.bipush 8, 2) := all_at dvX11_turns_0 19 rfl
theorem dX11_turns_39 : decode cX11_turns 39 = .ok (.if_icmp .lt 8, 3) := all_at dvX11_turns_0 20 rfl
theorem dX11_turns_42 : decode cX11_turns 42 = .ok (.ldc 99, 2) := all_at dvX11_turns_0 21 rfl
theorem dX11_turns_44 : decode cX11_turns 44 = .ok (.goto 12, 3) := all_at dvX11_turns_0 22 rfl
theorem dX11_turns_47 : decode cX11_turns 47 = .ok (.aload_n 0, 1) := all_at dvX11_turns_0 23 rfl
set_option maxRecDepth 100000 in
theorem dvX11_turns_48 : ([(48, .getfield 26, 3), (51, .iload_n 1, 1), (52, .iload_n 2, 1), (53, .invokevirtual 290, 3), (56, .ireturn, 1)] : List (Nat × Instr × Nat)).all (fun q => decide (decode cX11_turns q.1 = .ok (q.2.1, q.2.2))) = true := by decide +kernel
theorem dX11_turns_48 : decode cX11_turns 48 = .ok (.getfield 26, 3) := all_at dvX11_turns_48 0 rfl
theorem dX11_turns_51 : decode cX11_turns 51 = .ok (.iload_n 1, 1) := all_at dvX11_turns_48 1 rfl
theorem dX11_turns_52 : decode cX11_turns 52 = .ok (.iload_n 2, 1) := all_at dvX11_turns_48 2 rfl
theorem dX11_turns_53 : decode cX11_turns 53 = .ok (.invokevirtual 290, 3) := all_at dvX11_turns_48 3 rfl
theorem dX11_turns_56 : decode cX11_turns 56 = .ok (.ireturn, 1) := all_at dvX11_turns_48 4 rfl
set_option maxRecDepth 100000 in
theorem dvX11_twist_0 : ([(0, .aload_n 0, 1), (1, .getfield 26, 3), (4, .iload_n 1, 1), (5, .invokevirtual 104, 3), (8, .ifCond .eq 14, 3), (11, .aload_n 0, 1), (12, .getfield 26, 3), (15, .iload_n 1, 1), (16, .invokevirtual 293, 3), (19, .goto 5, 3), (22, .ldc 108, 2), (24, .ireturn, 1)] : List (Nat × Instr × Nat)).all (fun q => decide (decode cX11_twist q.1 = .ok (q.2.1, q.2.2))) = true := by decide +kernel
theorem dX11_twist_0 : decode cX11_twist 0 = .ok (.aload_n 0, 1) := all_at dvX11_twist_0 0 rfl
theorem dX11_twist_1 : decode cX11_twist 1 = .ok (.getfield 26, 3) := all_at dvX11_twist_0 1 rfl
theorem dX11_twist_4 : decode cX11_twist 4 = .ok (.iload_n 1, 1) := all_at dvX11_twist_0 2 rfl
theorem dX11_twist_5 : decode cX11_twist 5 = .ok (.invokevirtual 104, 3) := all_at dvX11_twist_0 3 rfl
theorem dX11_twist_8 : decode cX11_twist 8 = .ok (.ifCond .eq 14, 3) := all_at dvX11_twist_0 4 rfl
theorem dX11_twist_11 : decode cX11_twist 11 = .ok (.aload_n 0, 1) := all_at dvX11_twist_0 5 rfl
theorem dX11_twist_12 : decode cX11_twist 12 = .ok (.getfield 26, 3) := all_at dvX11_twist_0 6 rfl
theorem dX11_twist_15 : decode cX11_twist 15 = .ok (.iload_n 1, 1) := all_at dvX11_twist_0 7 rfl
theorem dX11_twist_16 : decode cX11_twist 16 = .ok (.invokevirtual 293, 3) := all_at dvX11_twist_0 8 rfl
theorem dX11_twist_19 : decode cX11_twist 19 = .ok (.goto 5, 3) := all_at dvX11_twist_0 9 rfl
theorem dX11_twist_22 : decode cX11_twist 22 = .ok (.ldc 108, 2) := all_at dvX11_twist_0 10 rfl
theorem dX11_twist_24 : decode cX11_twist 24 = .ok (.ireturn, 1) := all_at dvX11_twist_0 11 rfl
set_option maxHeartbeats 4000000 in
set_option maxRecDepth 100000 in
/-- X11_thread -/
theorem c_X11_thread (l : Launch) (dC : Nat → ClassId) (dI : Nat → Nat → Nat) (sz : Nat) (h : Nat) (g : Nat → Nat → Nat) (ca : Nat → Nat → ClassId) (iv : Nat → Nat → Int32) (lv : Nat → Nat → Int64) (fa : Nat → Nat → Nat → Int32) (la : Nat → Nat → Nat → Int64) (hI : IX iv fa) (a : Int32) (b : Int32) : Met l yX11_thread (wc yX11_thread cX11_thread 3 (some .int)) ({ frames := 1, cells := 0, slots := 0, locals := 22 } : Room) (pW (dC, dI) classes (WX h g ca iv lv fa la) (TX ca) sz [.ref h, .int a, .int b]) (va_Qi (fun r (u : SS) => ∃ (na_0_1 : Nat → Int32) (na_0_5 : Nat → Int32), (∀ j, inb (bA 0 1 j) (na_0_1 j)) ∧ ((-100004) ≤ r.toInt ∧ r.toInt ≤ 12) ∧ u = (iv, lv, (u2 (u2 fa 0 1 na_0_1) 0 5 na_0_5), la)) (bX (dC, dI) h g ca (va_A (WX h g ca iv lv fa la) sz)) (va_A (WX h g ca iv lv fa la) sz)) 0 0 (va_A (WX h g ca iv lv fa la) sz) := by
  refine Met.ofW (cc := cX11_thread) (maxL := 3) (ret := (some .int)) (by decide) rfl ?_
  intro p e s m args below meth c s₁ B hml hv
  obtain ⟨rfl, hsz, hP, hK, hD0⟩ := hv
  have hx := B.exec
  have hb := B.bytes
  have hr := B.returns
  have ht := tb_tl (atoms_spec (ws := wc yX11_thread cX11_thread 3 (some .int)) B.pre)
  have hown : s.vm.findClass RX11 = some m.cls := findClass_of_methodNamed B.named
  have hlocks := B.notSynchronized
  subst hsz
  have hD := hD0.self (sz := s.heap.size)
  generalize hAe : va_A (WX h g ca iv lv fa la) s.heap.size = A at hD ⊢
  have hA : ∀ q : Nat, s.heap.size ≤ q → A q := fun q h => by rw [← hAe]; exact Or.inr h
  have hS : va_S A s.heap s.heap [] := va_S.rf
  have hl := lv_entry [.ref h, .int a, .int b] (n := 3) (Nat.le_of_ble_eq_true rfl)
  rw [lg_entry_eq]
  generalize (lg_sl [.ref h, .int a, .int b] ++ List.replicate (3 - (lg_sl [.ref h, .int a, .int b]).length) Slot.unset).toArray = ls at hl ⊢
  have hl : lv_has ls 3 [(0, .ref h), (1, .int a), (2, .int b)] := hl
  refine lv_aload_n hx hb dX11_thread_0 rfl (lv_at hl 0 rfl) ?_
  refine gX_11_2 hx hb ht hown hK hP m_417 dX11_thread_1 ?_
  refine lv_iload_n hx hb dX11_thread_4 rfl (lv_at hl 1 rfl) ?_
  refine vp_callSi (W.runV (As := [.int a]) (rest := []) ⟨hx, hb, hml, hown, ht⟩ (c_X0_has l dC dI h g ca iv lv fa la hI a) (kV 1 ht m_472 m_473 m_474 m_80 m_475 rfl rfl hd_X0_has_v ⟨Nat.le_of_ble_eq_true rfl, Nat.le_of_ble_eq_true rfl⟩) (vR hP hK (rX_0 hK hP)) rfl rfl hl.1 rfl (lv_room (Nat.le_of_ble_eq_true rfl)) dX11_thread_5 ⟨Nat.le_of_ble_eq_true rfl, Nat.le_of_ble_eq_true rfl⟩) (fun r1 hr1 => ?_)
  rcases hr1 with ⟨rfl, fr1⟩ | ⟨rfl, fr1⟩
  · skip
    have i_0_7 : 0 ≤ (iv 0 7).toInt ∧ (iv 0 7).toInt ≤ 10 := hI.1 0 7
    have fr1 : (0 ≤ (a : Int32).toInt ∧ (a : Int32).toInt < ((iv 0 7) : Int32).toInt) := fr1
    refine lv_if_ne (tgt := 14) hx hb dX11_thread_8 (by decide) (fun c2 => ?_) (fun c2 => ?_)
    · skip
      refine lv_iload_n hx hb dX11_thread_14 rfl (lv_at hl 2 rfl) ?_
      refine lv_iconst (v := 1) hx hb dX11_thread_15 (by decide) ?_
      refine lv_sipush (v := 999) hx hb dX11_thread_16 (by decide) ?_
      refine vp_callSi (W.runS (As := [.int b, .int 1, .int 999]) (rest := []) ⟨hx, hb, hml, hown, ht⟩ (c_X11_within l dC dI b 1 999 (b.toInt) (1) (999) (rfl : (b).toInt = _) (by decide : (1 : Int32).toInt = 1) (by decide : (999 : Int32).toInt = 999)) (kS 3 ht m_453 m_454 m_77 m_455 rfl rfl hd_X11_within_v ⟨Nat.le_of_ble_eq_true rfl, Nat.le_of_ble_eq_true rfl⟩) (sR noP (hK.sub (tys' := []) [] rfl)) rfl rfl hl.1 rfl (lv_room (Nat.le_of_ble_eq_true rfl)) dX11_thread_19 ⟨Nat.le_of_ble_eq_true rfl, Nat.le_of_ble_eq_true rfl⟩) (fun r3 hr3 => ?_)
      rcases hr3 with ⟨rfl, fr3⟩ | ⟨rfl, fr3⟩
      · skip
        refine lv_if_ne (tgt := 28) hx hb dX11_thread_22 (by decide) (fun c4 => ?_) (fun c4 => ?_)
        · skip
          refine lv_aload_n hx hb dX11_thread_28 rfl (lv_at hl 0 rfl) ?_
          refine gX_11_2 hx hb ht hown hK hP m_417 dX11_thread_29 ?_
          refine gX_0_1 hx hb ht hown hK hP m_155 dX11_thread_32 ?_
          refine lv_iload_n hx hb dX11_thread_35 rfl (lv_at hl 1 rfl) ?_
          refine lX_0_1 hx hb hK hP (f := (fa 0 1)) rfl (vp_in_iff.mpr ⟨by omega, by omega⟩) dX11_thread_36 ?_
          refine lv_topi (fun v5 ev5 => ?_)
          have tv5 : 0 ≤ v5.toInt ∧ v5.toInt ≤ 12 := by rw [ev5]; exact hI.2 0 1 _
          refine lv_bipush (v := 12) hx hb dX11_thread_37 (by decide) ?_
          refine lv_icmp_lt (tgt := 47) hx hb dX11_thread_39 (by decide) (fun c6 => ?_) (fun c6 => ?_)
          · have fc6 := z_lt (rfl : (v5).toInt = _) (by decide : (12 : Int32).toInt = 12) c6
            refine lv_aload_n hx hb dX11_thread_47 rfl (lv_at hl 0 rfl) ?_
            refine gX_11_2 hx hb ht hown hK hP m_417 dX11_thread_48 ?_
            refine lv_iload_n hx hb dX11_thread_51 rfl (lv_at hl 1 rfl) ?_
            refine lv_iload_n hx hb dX11_thread_52 rfl (lv_at hl 2 rfl) ?_
            have hFc := free_all hD hS hA
            refine va_calli (va_runV (As := [.int a, .int b]) (rest := []) ⟨hx, hb, hml, hown, ht⟩ (c_X0_reel l dC dI s.heap.size h g ca iv lv fa la hI a b (show 0 ≤ ((fa 0 1) (a : Int32).toNatClampNeg).toInt ∧ ((fa 0 1) (a : Int32).toNatClampNeg).toInt ≤ 11 from by rw [← ev5]; exact ⟨by omega, by omega⟩) ⟨by omega, by omega⟩) (kV 2 ht m_945 m_946 m_947 m_80 m_948 rfl rfl hd_X0_reel_v ⟨Nat.le_of_ble_eq_true rfl, Nat.le_of_ble_eq_true rfl⟩) (vW hP hK hD (rX_0 hK hP)) rfl rfl hl.1 rfl (lv_room (Nat.le_of_ble_eq_true rfl)) dX11_thread_53 ⟨Nat.le_of_ble_eq_true rfl, Nat.le_of_ble_eq_true rfl⟩) hS (fun q _ h => hFc q h) hFc (fun r7 u t H1 locs ht9 hvm hr7 hB hz1 hk1 hS => ?_)
            obtain ⟨n8, n9, hn8, hr7, rfl⟩ := hr7
            have hn9 : ∀ j, inb (bA 0 5 j) (n9 j) := fun j => full_i _
            obtain ⟨hP, hD⟩ := hB
            rw [ht9] at hP
            generalize H1 = H at hP hS ⊢
            have hP : va_P (dC, dI) classes (WX h g ca iv lv (u2 (u2 fa 0 1 n8) 0 5 n9) la) H := hP
            have hD : va_D A (WX h g ca iv lv (u2 (u2 fa 0 1 n8) 0 5 n9) la) := (show va_D _ (WX h g ca iv lv (u2 (u2 fa 0 1 n8) 0 5 n9) la) from hD).weaken (fun _ _ _ h => hFc _ h)
            have hP9 : va_P (dC, dI) classes (WX h g ca iv lv (u2 (u2 fa 0 1 n8) 0 5 n9) la) H := hP
            have hD9 : va_D A (WX h g ca iv lv (u2 (u2 fa 0 1 n8) 0 5 n9) la) := hD
            exact W.iret (v := r7) hx hb hr (fun t ht9 hW => ⟨⟨r7, (iv, lv, (u2 (u2 fa 0 1 n8) 0 5 n9), la), rfl, ⟨n8, n9, hn8, ⟨by omega, by omega⟩, rfl⟩, by rw [ht9]; exact hP9, hD9⟩, hS.F ht9⟩) hS.2.2 dX11_thread_56
          · have fc6 := z_nlt (rfl : (v5).toInt = _) (by decide : (12 : Int32).toInt = 12) c6
            refine lv_ldc hx hb hown (ht _ m_463) dX11_thread_42 ?_
            refine lv_goto (tgt := 56) hx hb dX11_thread_44 (by decide) ?_
            have hP9 : va_P (dC, dI) classes (WX h g ca iv lv (u2 (u2 fa 0 1 (fa 0 1)) 0 5 (fa 0 5)) la) s.heap := hP
            have hD9 : va_D A (WX h g ca iv lv (u2 (u2 fa 0 1 (fa 0 1)) 0 5 (fa 0 5)) la) := hD
            exact W.iret (v := (-100004)) hx hb hr (fun t ht9 hW => ⟨⟨(-100004), (iv, lv, (u2 (u2 fa 0 1 (fa 0 1)) 0 5 (fa 0 5)), la), rfl, ⟨(fa 0 1), (fa 0 5), (hI.2 0 1), ⟨by decide, by decide⟩, rfl⟩, by rw [ht9]; exact hP9, hD9⟩, hS.F ht9⟩) hS.2.2 dX11_thread_56
        · exact absurd c4 (by decide)
      · skip
        refine lv_if_ne (tgt := 28) hx hb dX11_thread_22 (by decide) (fun c10 => ?_) (fun c10 => ?_)
        · exact absurd rfl c10
        · skip
          refine lv_ldc hx hb hown (ht _ m_456) dX11_thread_25 ?_
          have hP9 : va_P (dC, dI) classes (WX h g ca iv lv (u2 (u2 fa 0 1 (fa 0 1)) 0 5 (fa 0 5)) la) s.heap := hP
          have hD9 : va_D A (WX h g ca iv lv (u2 (u2 fa 0 1 (fa 0 1)) 0 5 (fa 0 5)) la) := hD
          exact W.iret (v := (-100002)) hx hb hr (fun t ht9 hW => ⟨⟨(-100002), (iv, lv, (u2 (u2 fa 0 1 (fa 0 1)) 0 5 (fa 0 5)), la), rfl, ⟨(fa 0 1), (fa 0 5), (hI.2 0 1), ⟨by decide, by decide⟩, rfl⟩, by rw [ht9]; exact hP9, hD9⟩, hS.F ht9⟩) hS.2.2 dX11_thread_27
    · exact absurd c2 (by decide)
  · skip
    have i_0_7 : 0 ≤ (iv 0 7).toInt ∧ (iv 0 7).toInt ≤ 10 := hI.1 0 7
    have fr1 : ¬ (0 ≤ (a : Int32).toInt ∧ (a : Int32).toInt < ((iv 0 7) : Int32).toInt) := fr1
    refine lv_if_ne (tgt := 14) hx hb dX11_thread_8 (by decide) (fun c11 => ?_) (fun c11 => ?_)
    · exact absurd rfl c11
    · skip
      refine lv_ldc hx hb hown (ht _ m_476) dX11_thread_11 ?_
      have hP9 : va_P (dC, dI) classes (WX h g ca iv lv (u2 (u2 fa 0 1 (fa 0 1)) 0 5 (fa 0 5)) la) s.heap := hP
      have hD9 : va_D A (WX h g ca iv lv (u2 (u2 fa 0 1 (fa 0 1)) 0 5 (fa 0 5)) la) := hD
      exact W.iret (v := (-100001)) hx hb hr (fun t ht9 hW => ⟨⟨(-100001), (iv, lv, (u2 (u2 fa 0 1 (fa 0 1)) 0 5 (fa 0 5)), la), rfl, ⟨(fa 0 1), (fa 0 5), (hI.2 0 1), ⟨by decide, by decide⟩, rfl⟩, by rw [ht9]; exact hP9, hD9⟩, hS.F ht9⟩) hS.2.2 dX11_thread_13
set_option maxHeartbeats 4000000 in
set_option maxRecDepth 100000 in
/-- X11_turns -/
theorem c_X11_turns (l : Launch) (dC : Nat → ClassId) (dI : Nat → Nat → Nat) (sz : Nat) (h : Nat) (g : Nat → Nat → Nat) (ca : Nat → Nat → ClassId) (iv : Nat → Nat → Int32) (lv : Nat → Nat → Int64) (fa : Nat → Nat → Nat → Int32) (la : Nat → Nat → Nat → Int64) (hI : IX iv fa) (a : Int32) (b : Int32) : Met l yX11_turns (wc yX11_turns cX11_turns 3 (some .int)) ({ frames := 1, cells := 0, slots := 0, locals := 24 } : Room) (pW (dC, dI) classes (WX h g ca iv lv fa la) (TX ca) sz [.ref h, .int a, .int b]) (va_Qi (fun r (u : SS) => ∃ (na_0_2 : Nat → Int32) (na_0_6 : Nat → Int32), (∀ j, inb (bA 0 2 j) (na_0_2 j)) ∧ ((-100004) ≤ r.toInt ∧ r.toInt ≤ 8) ∧ u = (iv, lv, (u2 (u2 fa 0 2 na_0_2) 0 6 na_0_6), la)) (bX (dC, dI) h g ca (va_A (WX h g ca iv lv fa la) sz)) (va_A (WX h g ca iv lv fa la) sz)) 0 0 (va_A (WX h g ca iv lv fa la) sz) := by
  refine Met.ofW (cc := cX11_turns) (maxL := 3) (ret := (some .int)) (by decide) rfl ?_
  intro p e s m args below meth c s₁ B hml hv
  obtain ⟨rfl, hsz, hP, hK, hD0⟩ := hv
  have hx := B.exec
  have hb := B.bytes
  have hr := B.returns
  have ht := tb_tl (atoms_spec (ws := wc yX11_turns cX11_turns 3 (some .int)) B.pre)
  have hown : s.vm.findClass RX11 = some m.cls := findClass_of_methodNamed B.named
  have hlocks := B.notSynchronized
  subst hsz
  have hD := hD0.self (sz := s.heap.size)
  generalize hAe : va_A (WX h g ca iv lv fa la) s.heap.size = A at hD ⊢
  have hA : ∀ q : Nat, s.heap.size ≤ q → A q := fun q h => by rw [← hAe]; exact Or.inr h
  have hS : va_S A s.heap s.heap [] := va_S.rf
  have hl := lv_entry [.ref h, .int a, .int b] (n := 3) (Nat.le_of_ble_eq_true rfl)
  rw [lg_entry_eq]
  generalize (lg_sl [.ref h, .int a, .int b] ++ List.replicate (3 - (lg_sl [.ref h, .int a, .int b]).length) Slot.unset).toArray = ls at hl ⊢
  have hl : lv_has ls 3 [(0, .ref h), (1, .int a), (2, .int b)] := hl
  refine lv_aload_n hx hb dX11_turns_0 rfl (lv_at hl 0 rfl) ?_
  refine gX_11_2 hx hb ht hown hK hP m_417 dX11_turns_1 ?_
  refine lv_iload_n hx hb dX11_turns_4 rfl (lv_at hl 1 rfl) ?_
  refine vp_callSi (W.runV (As := [.int a]) (rest := []) ⟨hx, hb, hml, hown, ht⟩ (c_X0_has l dC dI h g ca iv lv fa la hI a) (kV 1 ht m_472 m_473 m_474 m_80 m_475 rfl rfl hd_X0_has_v ⟨Nat.le_of_ble_eq_true rfl, Nat.le_of_ble_eq_true rfl⟩) (vR hP hK (rX_0 hK hP)) rfl rfl hl.1 rfl (lv_room (Nat.le_of_ble_eq_true rfl)) dX11_turns_5 ⟨Nat.le_of_ble_eq_true rfl, Nat.le_of_ble_eq_true rfl⟩) (fun r1 hr1 => ?_)
  rcases hr1 with ⟨rfl, fr1⟩ | ⟨rfl, fr1⟩
  · skip
    have i_0_7 : 0 ≤ (iv 0 7).toInt ∧ (iv 0 7).toInt ≤ 10 := hI.1 0 7
    have fr1 : (0 ≤ (a : Int32).toInt ∧ (a : Int32).toInt < ((iv 0 7) : Int32).toInt) := fr1
    refine lv_if_ne (tgt := 14) hx hb dX11_turns_8 (by decide) (fun c2 => ?_) (fun c2 => ?_)
    · skip
      refine lv_iload_n hx hb dX11_turns_14 rfl (lv_at hl 2 rfl) ?_
      refine lv_iconst (v := 0) hx hb dX11_turns_15 (by decide) ?_
      refine lv_sipush (v := 999) hx hb dX11_turns_16 (by decide) ?_
      refine vp_callSi (W.runS (As := [.int b, .int 0, .int 999]) (rest := []) ⟨hx, hb, hml, hown, ht⟩ (c_X11_within l dC dI b 0 999 (b.toInt) (0) (999) (rfl : (b).toInt = _) (by decide : (0 : Int32).toInt = 0) (by decide : (999 : Int32).toInt = 999)) (kS 3 ht m_453 m_454 m_77 m_455 rfl rfl hd_X11_within_v ⟨Nat.le_of_ble_eq_true rfl, Nat.le_of_ble_eq_true rfl⟩) (sR noP (hK.sub (tys' := []) [] rfl)) rfl rfl hl.1 rfl (lv_room (Nat.le_of_ble_eq_true rfl)) dX11_turns_19 ⟨Nat.le_of_ble_eq_true rfl, Nat.le_of_ble_eq_true rfl⟩) (fun r3 hr3 => ?_)
      rcases hr3 with ⟨rfl, fr3⟩ | ⟨rfl, fr3⟩
      · skip
        refine lv_if_ne (tgt := 28) hx hb dX11_turns_22 (by decide) (fun c4 => ?_) (fun c4 => ?_)
        · skip
          refine lv_aload_n hx hb dX11_turns_28 rfl (lv_at hl 0 rfl) ?_
          refine gX_11_2 hx hb ht hown hK hP m_417 dX11_turns_29 ?_
          refine gX_0_2 hx hb ht hown hK hP m_157 dX11_turns_32 ?_
          refine lv_iload_n hx hb dX11_turns_35 rfl (lv_at hl 1 rfl) ?_
          refine lX_0_2 hx hb hK hP (f := (fa 0 2)) rfl (vp_in_iff.mpr ⟨by omega, by omega⟩) dX11_turns_36 ?_
          refine lv_topi (fun v5 ev5 => ?_)
          have tv5 : 0 ≤ v5.toInt ∧ v5.toInt ≤ 8 := by rw [ev5]; exact hI.2 0 2 _
          refine lv_bipush (v := 8) hx hb dX11_turns_37 (by decide) ?_
          refine lv_icmp_lt (tgt := 47) hx hb dX11_turns_39 (by decide) (fun c6 => ?_) (fun c6 => ?_)
          · have fc6 := z_lt (rfl : (v5).toInt = _) (by decide : (8 : Int32).toInt = 8) c6
            refine lv_aload_n hx hb dX11_turns_47 rfl (lv_at hl 0 rfl) ?_
            refine gX_11_2 hx hb ht hown hK hP m_417 dX11_turns_48 ?_
            refine lv_iload_n hx hb dX11_turns_51 rfl (lv_at hl 1 rfl) ?_
            refine lv_iload_n hx hb dX11_turns_52 rfl (lv_at hl 2 rfl) ?_
            have hFc := free_all hD hS hA
            refine va_calli (va_runV (As := [.int a, .int b]) (rest := []) ⟨hx, hb, hml, hown, ht⟩ (c_X0_untwist l dC dI s.heap.size h g ca iv lv fa la hI a b (show 0 ≤ ((fa 0 2) (a : Int32).toNatClampNeg).toInt ∧ ((fa 0 2) (a : Int32).toNatClampNeg).toInt ≤ 7 from by rw [← ev5]; exact ⟨by omega, by omega⟩) ⟨by omega, by omega⟩) (kV 2 ht m_977 m_978 m_979 m_80 m_980 rfl rfl hd_X0_untwist_v ⟨Nat.le_of_ble_eq_true rfl, Nat.le_of_ble_eq_true rfl⟩) (vW hP hK hD (rX_0 hK hP)) rfl rfl hl.1 rfl (lv_room (Nat.le_of_ble_eq_true rfl)) dX11_turns_53 ⟨Nat.le_of_ble_eq_true rfl, Nat.le_of_ble_eq_true rfl⟩) hS (fun q _ h => hFc q h) hFc (fun r7 u t H1 locs ht9 hvm hr7 hB hz1 hk1 hS => ?_)
            obtain ⟨n8, n9, hn8, hr7, rfl⟩ := hr7
            have hn9 : ∀ j, inb (bA 0 6 j) (n9 j) := fun j => full_i _
            obtain ⟨hP, hD⟩ := hB
            rw [ht9] at hP
            generalize H1 = H at hP hS ⊢
            have hP : va_P (dC, dI) classes (WX h g ca iv lv (u2 (u2 fa 0 2 n8) 0 6 n9) la) H := hP
            have hD : va_D A (WX h g ca iv lv (u2 (u2 fa 0 2 n8) 0 6 n9) la) := (show va_D _ (WX h g ca iv lv (u2 (u2 fa 0 2 n8) 0 6 n9) la) from hD).weaken (fun _ _ _ h => hFc _ h)
            have hP9 : va_P (dC, dI) classes (WX h g ca iv lv (u2 (u2 fa 0 2 n8) 0 6 n9) la) H := hP
            have hD9 : va_D A (WX h g ca iv lv (u2 (u2 fa 0 2 n8) 0 6 n9) la) := hD
            exact W.iret (v := r7) hx hb hr (fun t ht9 hW => ⟨⟨r7, (iv, lv, (u2 (u2 fa 0 2 n8) 0 6 n9), la), rfl, ⟨n8, n9, hn8, ⟨by omega, by omega⟩, rfl⟩, by rw [ht9]; exact hP9, hD9⟩, hS.F ht9⟩) hS.2.2 dX11_turns_56
          · have fc6 := z_nlt (rfl : (v5).toInt = _) (by decide : (8 : Int32).toInt = 8) c6
            refine lv_ldc hx hb hown (ht _ m_463) dX11_turns_42 ?_
            refine lv_goto (tgt := 56) hx hb dX11_turns_44 (by decide) ?_
            have hP9 : va_P (dC, dI) classes (WX h g ca iv lv (u2 (u2 fa 0 2 (fa 0 2)) 0 6 (fa 0 6)) la) s.heap := hP
            have hD9 : va_D A (WX h g ca iv lv (u2 (u2 fa 0 2 (fa 0 2)) 0 6 (fa 0 6)) la) := hD
            exact W.iret (v := (-100004)) hx hb hr (fun t ht9 hW => ⟨⟨(-100004), (iv, lv, (u2 (u2 fa 0 2 (fa 0 2)) 0 6 (fa 0 6)), la), rfl, ⟨(fa 0 2), (fa 0 6), (hI.2 0 2), ⟨by decide, by decide⟩, rfl⟩, by rw [ht9]; exact hP9, hD9⟩, hS.F ht9⟩) hS.2.2 dX11_turns_56
        · exact absurd c4 (by decide)
      · skip
        refine lv_if_ne (tgt := 28) hx hb dX11_turns_22 (by decide) (fun c10 => ?_) (fun c10 => ?_)
        · exact absurd rfl c10
        · skip
          refine lv_ldc hx hb hown (ht _ m_456) dX11_turns_25 ?_
          have hP9 : va_P (dC, dI) classes (WX h g ca iv lv (u2 (u2 fa 0 2 (fa 0 2)) 0 6 (fa 0 6)) la) s.heap := hP
          have hD9 : va_D A (WX h g ca iv lv (u2 (u2 fa 0 2 (fa 0 2)) 0 6 (fa 0 6)) la) := hD
          exact W.iret (v := (-100002)) hx hb hr (fun t ht9 hW => ⟨⟨(-100002), (iv, lv, (u2 (u2 fa 0 2 (fa 0 2)) 0 6 (fa 0 6)), la), rfl, ⟨(fa 0 2), (fa 0 6), (hI.2 0 2), ⟨by decide, by decide⟩, rfl⟩, by rw [ht9]; exact hP9, hD9⟩, hS.F ht9⟩) hS.2.2 dX11_turns_27
    · exact absurd c2 (by decide)
  · skip
    have i_0_7 : 0 ≤ (iv 0 7).toInt ∧ (iv 0 7).toInt ≤ 10 := hI.1 0 7
    have fr1 : ¬ (0 ≤ (a : Int32).toInt ∧ (a : Int32).toInt < ((iv 0 7) : Int32).toInt) := fr1
    refine lv_if_ne (tgt := 14) hx hb dX11_turns_8 (by decide) (fun c11 => ?_) (fun c11 => ?_)
    · exact absurd rfl c11
    · skip
      refine lv_ldc hx hb hown (ht _ m_476) dX11_turns_11 ?_
      have hP9 : va_P (dC, dI) classes (WX h g ca iv lv (u2 (u2 fa 0 2 (fa 0 2)) 0 6 (fa 0 6)) la) s.heap := hP
      have hD9 : va_D A (WX h g ca iv lv (u2 (u2 fa 0 2 (fa 0 2)) 0 6 (fa 0 6)) la) := hD
      exact W.iret (v := (-100001)) hx hb hr (fun t ht9 hW => ⟨⟨(-100001), (iv, lv, (u2 (u2 fa 0 2 (fa 0 2)) 0 6 (fa 0 6)), la), rfl, ⟨(fa 0 2), (fa 0 6), (hI.2 0 2), ⟨by decide, by decide⟩, rfl⟩, by rw [ht9]; exact hP9, hD9⟩, hS.F ht9⟩) hS.2.2 dX11_turns_13
set_option maxHeartbeats 4000000 in
set_option maxRecDepth 100000 in
/-- X11_twist -/
theorem c_X11_twist (l : Launch) (dC : Nat → ClassId) (dI : Nat → Nat → Nat) (h : Nat) (g : Nat → Nat → Nat) (ca : Nat → Nat → ClassId) (iv : Nat → Nat → Int32) (lv : Nat → Nat → Int64) (fa : Nat → Nat → Nat → Int32) (la : Nat → Nat → Nat → Int64) (hI : IX iv fa) (a : Int32) : Met l yX11_twist (wc yX11_twist cX11_twist 2 (some .int)) ({ frames := 1, cells := 0, slots := 0, locals := 21 } : Room) (pR (dC, dI) classes (WX h g ca iv lv fa la) (TX ca) [.ref h, .int a]) (vp_Si (fun r => True)) 0 0 (fun _ => False) := by
  refine Met.ofW (cc := cX11_twist) (maxL := 2) (ret := (some .int)) (by decide) rfl ?_
  intro p e s m args below meth c s₁ B hml hv
  obtain ⟨rfl, hP, hK⟩ := hv
  have hx := B.exec
  have hb := B.bytes
  have hr := B.returns
  have ht := tb_tl (atoms_spec (ws := wc yX11_twist cX11_twist 2 (some .int)) B.pre)
  have hown : s.vm.findClass RX11 = some m.cls := findClass_of_methodNamed B.named
  have hlocks := B.notSynchronized
  have hl := lv_entry [.ref h, .int a] (n := 2) (Nat.le_of_ble_eq_true rfl)
  rw [lg_entry_eq]
  generalize (lg_sl [.ref h, .int a] ++ List.replicate (2 - (lg_sl [.ref h, .int a]).length) Slot.unset).toArray = ls at hl ⊢
  have hl : lv_has ls 2 [(0, .ref h), (1, .int a)] := hl
  refine lv_aload_n hx hb dX11_twist_0 rfl (lv_at hl 0 rfl) ?_
  refine gX_11_2 hx hb ht hown hK hP m_417 dX11_twist_1 ?_
  refine lv_iload_n hx hb dX11_twist_4 rfl (lv_at hl 1 rfl) ?_
  refine vp_callSi (W.runV (As := [.int a]) (rest := []) ⟨hx, hb, hml, hown, ht⟩ (c_X0_has l dC dI h g ca iv lv fa la hI a) (kV 1 ht m_472 m_473 m_474 m_80 m_475 rfl rfl hd_X0_has_v ⟨Nat.le_of_ble_eq_true rfl, Nat.le_of_ble_eq_true rfl⟩) (vR hP hK (rX_0 hK hP)) rfl rfl hl.1 rfl (lv_room (Nat.le_of_ble_eq_true rfl)) dX11_twist_5 ⟨Nat.le_of_ble_eq_true rfl, Nat.le_of_ble_eq_true rfl⟩) (fun r1 hr1 => ?_)
  rcases hr1 with ⟨rfl, fr1⟩ | ⟨rfl, fr1⟩
  · skip
    have i_0_7 : 0 ≤ (iv 0 7).toInt ∧ (iv 0 7).toInt ≤ 10 := hI.1 0 7
    have fr1 : (0 ≤ (a : Int32).toInt ∧ (a : Int32).toInt < ((iv 0 7) : Int32).toInt) := fr1
    refine lv_if_eq (tgt := 22) hx hb dX11_twist_8 (by decide) (fun c2 => ?_) (fun c2 => ?_)
    · exact absurd c2 (by decide)
    · skip
      refine lv_aload_n hx hb dX11_twist_11 rfl (lv_at hl 0 rfl) ?_
      refine gX_11_2 hx hb ht hown hK hP m_417 dX11_twist_12 ?_
      refine lv_iload_n hx hb dX11_twist_15 rfl (lv_at hl 1 rfl) ?_
      refine vp_callSi (W.runV (As := [.int a]) (rest := []) ⟨hx, hb, hml, hown, ht⟩ (c_X0_middleTwist l dC dI h g ca iv lv fa la hI a ⟨by omega, by omega⟩) (kV 1 ht m_985 m_986 m_987 m_80 m_988 rfl rfl hd_X0_middleTwist_v ⟨Nat.le_of_ble_eq_true rfl, Nat.le_of_ble_eq_true rfl⟩) (vR hP hK (rX_0 hK hP)) rfl rfl hl.1 rfl (lv_room (Nat.le_of_ble_eq_true rfl)) dX11_twist_16 ⟨Nat.le_of_ble_eq_true rfl, Nat.le_of_ble_eq_true rfl⟩) (fun r3 hr3 => ?_)
      refine lv_goto (tgt := 24) hx hb dX11_twist_19 (by decide) ?_
      exact W.iret (v := r3) hx hb hr (fun t ht9 hW => ⟨r3, rfl, trivial, ht9⟩) (fun q hq => by cases hq) dX11_twist_24
  · skip
    have i_0_7 : 0 ≤ (iv 0 7).toInt ∧ (iv 0 7).toInt ≤ 10 := hI.1 0 7
    have fr1 : ¬ (0 ≤ (a : Int32).toInt ∧ (a : Int32).toInt < ((iv 0 7) : Int32).toInt) := fr1
    refine lv_if_eq (tgt := 22) hx hb dX11_twist_8 (by decide) (fun c4 => ?_) (fun c4 => ?_)
    · skip
      refine lv_ldc hx hb hown (ht _ m_476) dX11_twist_22 ?_
      exact W.iret (v := (-100001)) hx hb hr (fun t ht9 hW => ⟨(-100001), rfl, trivial, ht9⟩) (fun q hq => by cases hq) dX11_twist_24
    · exact absurd rfl c4
set_option maxHeartbeats 4000000 in
set_option maxRecDepth 100000 in
/-- X11_burnt -/
theorem c_X11_burnt (l : Launch) (dC : Nat → ClassId) (dI : Nat → Nat → Nat) (sz : Nat) (h : Nat) (g : Nat → Nat → Nat) (ca : Nat → Nat → ClassId) (iv : Nat → Nat → Int32) (lv : Nat → Nat → Int64) (fa : Nat → Nat → Nat → Int32) (la : Nat → Nat → Nat → Int64) (hI : IX iv fa) (a : Int32) (b : Int32) (d : Int32) (k : Int32) : Met l yX11_burnt (wc yX11_burnt cX11_burnt 5 (some .int)) ({ frames := 1, cells := 0, slots := 0, locals := 22 } : Room) (pW (dC, dI) classes (WX h g ca iv lv fa la) (TX ca) sz [.ref h, .int a, .int b, .int d, .int k]) (va_Qi (fun r (u : SS) => ∃ (na_0_3 : Nat → Int32) (na_0_4 : Nat → Int32), ((-100002) ≤ r.toInt ∧ r.toInt ≤ 1) ∧ u = (iv, lv, (u2 (u2 fa 0 3 na_0_3) 0 4 na_0_4), la)) (bX (dC, dI) h g ca (va_A (WX h g ca iv lv fa la) sz)) (va_A (WX h g ca iv lv fa la) sz)) 0 0 (va_A (WX h g ca iv lv fa la) sz) := by
  refine Met.ofW (cc := cX11_burnt) (maxL := 5) (ret := (some .int)) (by decide) rfl ?_
  intro p e s m args below meth c s₁ B hml hv
  obtain ⟨rfl, hsz, hP, hK, hD0⟩ := hv
  have hx := B.exec
  have hb := B.bytes
  have hr := B.returns
  have ht := tb_tl (atoms_spec (ws := wc yX11_burnt cX11_burnt 5 (some .int)) B.pre)
  have hown : s.vm.findClass RX11 = some m.cls := findClass_of_methodNamed B.named
  have hlocks := B.notSynchronized
  subst hsz
  have hD := hD0.self (sz := s.heap.size)
  generalize hAe : va_A (WX h g ca iv lv fa la) s.heap.size = A at hD ⊢
  have hA : ∀ q : Nat, s.heap.size ≤ q → A q := fun q h => by rw [← hAe]; exact Or.inr h
  have hS : va_S A s.heap s.heap [] := va_S.rf
  have hl := lv_entry [.ref h, .int a, .int b, .int d, .int k] (n := 5) (Nat.le_of_ble_eq_true rfl)
  rw [lg_entry_eq]
  generalize (lg_sl [.ref h, .int a, .int b, .int d, .int k] ++ List.replicate (5 - (lg_sl [.ref h, .int a, .int b, .int d, .int k]).length) Slot.unset).toArray = ls at hl ⊢
  have hl : lv_has ls 5 [(0, .ref h), (1, .int a), (2, .int b), (3, .int d), (4, .int k)] := hl
  refine lv_aload_n hx hb dX11_burnt_0 rfl (lv_at hl 0 rfl) ?_
  refine gX_11_2 hx hb ht hown hK hP m_417 dX11_burnt_1 ?_
  refine lv_iload_n hx hb dX11_burnt_4 rfl (lv_at hl 1 rfl) ?_
  refine vp_callSi (W.runV (As := [.int a]) (rest := []) ⟨hx, hb, hml, hown, ht⟩ (c_X0_has l dC dI h g ca iv lv fa la hI a) (kV 1 ht m_472 m_473 m_474 m_80 m_475 rfl rfl hd_X0_has_v ⟨Nat.le_of_ble_eq_true rfl, Nat.le_of_ble_eq_true rfl⟩) (vR hP hK (rX_0 hK hP)) rfl rfl hl.1 rfl (lv_room (Nat.le_of_ble_eq_true rfl)) dX11_burnt_5 ⟨Nat.le_of_ble_eq_true rfl, Nat.le_of_ble_eq_true rfl⟩) (fun r1 hr1 => ?_)
  rcases hr1 with ⟨rfl, fr1⟩ | ⟨rfl, fr1⟩
  · skip
    have i_0_7 : 0 ≤ (iv 0 7).toInt ∧ (iv 0 7).toInt ≤ 10 := hI.1 0 7
    have fr1 : (0 ≤ (a : Int32).toInt ∧ (a : Int32).toInt < ((iv 0 7) : Int32).toInt) := fr1
    refine lv_if_ne (tgt := 14) hx hb dX11_burnt_8 (by decide) (fun c2 => ?_) (fun c2 => ?_)
    · skip
      refine lv_iload_n hx hb dX11_burnt_14 rfl (lv_at hl 2 rfl) ?_
      refine lv_iconst (v := 0) hx hb dX11_burnt_15 (by decide) ?_
      refine lv_iconst (v := 1) hx hb dX11_burnt_16 (by decide) ?_
      refine vp_callSi (W.runS (As := [.int b, .int 0, .int 1]) (rest := []) ⟨hx, hb, hml, hown, ht⟩ (c_X11_within l dC dI b 0 1 (b.toInt) (0) (1) (rfl : (b).toInt = _) (by decide : (0 : Int32).toInt = 0) (by decide : (1 : Int32).toInt = 1)) (kS 3 ht m_453 m_454 m_77 m_455 rfl rfl hd_X11_within_v ⟨Nat.le_of_ble_eq_true rfl, Nat.le_of_ble_eq_true rfl⟩) (sR noP (hK.sub (tys' := []) [] rfl)) rfl rfl hl.1 rfl (lv_room (Nat.le_of_ble_eq_true rfl)) dX11_burnt_17 ⟨Nat.le_of_ble_eq_true rfl, Nat.le_of_ble_eq_true rfl⟩) (fun r3 hr3 => ?_)
      rcases hr3 with ⟨rfl, fr3⟩ | ⟨rfl, fr3⟩
      · skip
        refine lv_if_eq (tgt := 46) hx hb dX11_burnt_20 (by decide) (fun c4 => ?_) (fun c4 => ?_)
        · exact absurd c4 (by decide)
        · skip
          refine lv_iload_n hx hb dX11_burnt_23 rfl (lv_at hl 3 rfl) ?_
          refine lv_iconst (v := 0) hx hb dX11_burnt_24 (by decide) ?_
          refine lv_sipush (v := 999) hx hb dX11_burnt_25 (by decide) ?_
          refine vp_callSi (W.runS (As := [.int d, .int 0, .int 999]) (rest := []) ⟨hx, hb, hml, hown, ht⟩ (c_X11_within l dC dI d 0 999 (d.toInt) (0) (999) (rfl : (d).toInt = _) (by decide : (0 : Int32).toInt = 0) (by decide : (999 : Int32).toInt = 999)) (kS 3 ht m_453 m_454 m_77 m_455 rfl rfl hd_X11_within_v ⟨Nat.le_of_ble_eq_true rfl, Nat.le_of_ble_eq_true rfl⟩) (sR noP (hK.sub (tys' := []) [] rfl)) rfl rfl hl.1 rfl (lv_room (Nat.le_of_ble_eq_true rfl)) dX11_burnt_28 ⟨Nat.le_of_ble_eq_true rfl, Nat.le_of_ble_eq_true rfl⟩) (fun r5 hr5 => ?_)
          rcases hr5 with ⟨rfl, fr5⟩ | ⟨rfl, fr5⟩
          · skip
            refine lv_if_eq (tgt := 46) hx hb dX11_burnt_31 (by decide) (fun c6 => ?_) (fun c6 => ?_)
            · exact absurd c6 (by decide)
            · skip
              refine lv_iload hx hb dX11_burnt_34 (lv_at hl 4 rfl) ?_
              refine lv_iload_n hx hb dX11_burnt_36 rfl (lv_at hl 3 rfl) ?_
              refine lv_sipush (v := 999) hx hb dX11_burnt_37 (by decide) ?_
              refine vp_callSi (W.runS (As := [.int k, .int d, .int 999]) (rest := []) ⟨hx, hb, hml, hown, ht⟩ (c_X11_within l dC dI k d 999 (k.toInt) (d.toInt) (999) (rfl : (k).toInt = _) (rfl : (d).toInt = _) (by decide : (999 : Int32).toInt = 999)) (kS 3 ht m_453 m_454 m_77 m_455 rfl rfl hd_X11_within_v ⟨Nat.le_of_ble_eq_true rfl, Nat.le_of_ble_eq_true rfl⟩) (sR noP (hK.sub (tys' := []) [] rfl)) rfl rfl hl.1 rfl (lv_room (Nat.le_of_ble_eq_true rfl)) dX11_burnt_40 ⟨Nat.le_of_ble_eq_true rfl, Nat.le_of_ble_eq_true rfl⟩) (fun r7 hr7 => ?_)
              rcases hr7 with ⟨rfl, fr7⟩ | ⟨rfl, fr7⟩
              · skip
                refine lv_if_ne (tgt := 49) hx hb dX11_burnt_43 (by decide) (fun c8 => ?_) (fun c8 => ?_)
                · skip
                  refine lv_iload_n hx hb dX11_burnt_49 rfl (lv_at hl 2 rfl) ?_
                  refine lv_if_ne (tgt := 66) hx hb dX11_burnt_50 (by decide) (fun c9 => ?_) (fun c9 => ?_)
                  · have fc9 := z_ne (rfl : (b).toInt = _) (by decide : (0 : Int32).toInt = 0) c9
                    refine lv_aload_n hx hb dX11_burnt_66 rfl (lv_at hl 0 rfl) ?_
                    refine gX_11_2 hx hb ht hown hK hP m_417 dX11_burnt_67 ?_
                    refine gX_0_4 hx hb ht hown hK hP m_161 dX11_burnt_70 ?_
                    refine lv_iload_n hx hb dX11_burnt_73 rfl (lv_at hl 1 rfl) ?_
                    refine lv_iload_n hx hb dX11_burnt_74 rfl (lv_at hl 3 rfl) ?_
                    refine tX_0_4 hx hb hK hP hD hS (f0 := (fa 0 4)) rfl (i := a) (x := d) (vp_in_iff.mpr ⟨by omega, by omega⟩) dX11_burnt_75 (fun f10 ef10 H locs hP hD hS => ?_)
                    have hf10 : ∀ j, inb (bA 0 4 j) (f10 j) := fun j => full_i _
                    refine lv_iconst (v := 1) hx hb dX11_burnt_76 (by decide) ?_
                    have hP9 : va_P (dC, dI) classes (WX h g ca iv lv (u2 (u2 fa 0 3 (fa 0 3)) 0 4 f10) la) H := hP
                    have hD9 : va_D A (WX h g ca iv lv (u2 (u2 fa 0 3 (fa 0 3)) 0 4 f10) la) := hD
                    exact W.iret (v := 1) hx hb hr (fun t ht9 hW => ⟨⟨1, (iv, lv, (u2 (u2 fa 0 3 (fa 0 3)) 0 4 f10), la), rfl, ⟨(fa 0 3), f10, ⟨by decide, by decide⟩, rfl⟩, by rw [ht9]; exact hP9, hD9⟩, hS.F ht9⟩) hS.2.2 dX11_burnt_77
                  · have fc9 := z_eq (rfl : (b).toInt = _) (by decide : (0 : Int32).toInt = 0) c9
                    refine lv_aload_n hx hb dX11_burnt_53 rfl (lv_at hl 0 rfl) ?_
                    refine gX_11_2 hx hb ht hown hK hP m_417 dX11_burnt_54 ?_
                    refine gX_0_3 hx hb ht hown hK hP m_159 dX11_burnt_57 ?_
                    refine lv_iload_n hx hb dX11_burnt_60 rfl (lv_at hl 1 rfl) ?_
                    refine lv_iload_n hx hb dX11_burnt_61 rfl (lv_at hl 3 rfl) ?_
                    refine tX_0_3 hx hb hK hP hD hS (f0 := (fa 0 3)) rfl (i := a) (x := d) (vp_in_iff.mpr ⟨by omega, by omega⟩) dX11_burnt_62 (fun f11 ef11 H locs hP hD hS => ?_)
                    have hf11 : ∀ j, inb (bA 0 3 j) (f11 j) := fun j => full_i _
                    refine lv_goto (tgt := 76) hx hb dX11_burnt_63 (by decide) ?_
                    refine lv_iconst (v := 1) hx hb dX11_burnt_76 (by decide) ?_
                    have hP9 : va_P (dC, dI) classes (WX h g ca iv lv (u2 (u2 fa 0 3 f11) 0 4 (fa 0 4)) la) H := hP
                    have hD9 : va_D A (WX h g ca iv lv (u2 (u2 fa 0 3 f11) 0 4 (fa 0 4)) la) := hD
                    exact W.iret (v := 1) hx hb hr (fun t ht9 hW => ⟨⟨1, (iv, lv, (u2 (u2 fa 0 3 f11) 0 4 (fa 0 4)), la), rfl, ⟨f11, (fa 0 4), ⟨by decide, by decide⟩, rfl⟩, by rw [ht9]; exact hP9, hD9⟩, hS.F ht9⟩) hS.2.2 dX11_burnt_77
                · exact absurd c8 (by decide)
              · skip
                refine lv_if_ne (tgt := 49) hx hb dX11_burnt_43 (by decide) (fun c12 => ?_) (fun c12 => ?_)
                · exact absurd rfl c12
                · skip
                  refine lv_ldc hx hb hown (ht _ m_456) dX11_burnt_46 ?_
                  have hP9 : va_P (dC, dI) classes (WX h g ca iv lv (u2 (u2 fa 0 3 (fa 0 3)) 0 4 (fa 0 4)) la) s.heap := hP
                  have hD9 : va_D A (WX h g ca iv lv (u2 (u2 fa 0 3 (fa 0 3)) 0 4 (fa 0 4)) la) := hD
                  exact W.iret (v := (-100002)) hx hb hr (fun t ht9 hW => ⟨⟨(-100002), (iv, lv, (u2 (u2 fa 0 3 (fa 0 3)) 0 4 (fa 0 4)), la), rfl, ⟨(fa 0 3), (fa 0 4), ⟨by decide, by decide⟩, rfl⟩, by rw [ht9]; exact hP9, hD9⟩, hS.F ht9⟩) hS.2.2 dX11_burnt_48
          · skip
            refine lv_if_eq (tgt := 46) hx hb dX11_burnt_31 (by decide) (fun c13 => ?_) (fun c13 => ?_)
            · skip
              refine lv_ldc hx hb hown (ht _ m_456) dX11_burnt_46 ?_
              have hP9 : va_P (dC, dI) classes (WX h g ca iv lv (u2 (u2 fa 0 3 (fa 0 3)) 0 4 (fa 0 4)) la) s.heap := hP
              have hD9 : va_D A (WX h g ca iv lv (u2 (u2 fa 0 3 (fa 0 3)) 0 4 (fa 0 4)) la) := hD
              exact W.iret (v := (-100002)) hx hb hr (fun t ht9 hW => ⟨⟨(-100002), (iv, lv, (u2 (u2 fa 0 3 (fa 0 3)) 0 4 (fa 0 4)), la), rfl, ⟨(fa 0 3), (fa 0 4), ⟨by decide, by decide⟩, rfl⟩, by rw [ht9]; exact hP9, hD9⟩, hS.F ht9⟩) hS.2.2 dX11_burnt_48
            · exact absurd rfl c13
      · skip
        refine lv_if_eq (tgt := 46) hx hb dX11_burnt_20 (by decide) (fun c14 => ?_) (fun c14 => ?_)
        · skip
          refine lv_ldc hx hb hown (ht _ m_456) dX11_burnt_46 ?_
          have hP9 : va_P (dC, dI) classes (WX h g ca iv lv (u2 (u2 fa 0 3 (fa 0 3)) 0 4 (fa 0 4)) la) s.heap := hP
          have hD9 : va_D A (WX h g ca iv lv (u2 (u2 fa 0 3 (fa 0 3)) 0 4 (fa 0 4)) la) := hD
          exact W.iret (v := (-100002)) hx hb hr (fun t ht9 hW => ⟨⟨(-100002), (iv, lv, (u2 (u2 fa 0 3 (fa 0 3)) 0 4 (fa 0 4)), la), rfl, ⟨(fa 0 3), (fa 0 4), ⟨by decide, by decide⟩, rfl⟩, by rw [ht9]; exact hP9, hD9⟩, hS.F ht9⟩) hS.2.2 dX11_burnt_48
        · exact absurd rfl c14
    · exact absurd c2 (by decide)
  · skip
    have i_0_7 : 0 ≤ (iv 0 7).toInt ∧ (iv 0 7).toInt ≤ 10 := hI.1 0 7
    have fr1 : ¬ (0 ≤ (a : Int32).toInt ∧ (a : Int32).toInt < ((iv 0 7) : Int32).toInt) := fr1
    refine lv_if_ne (tgt := 14) hx hb dX11_burnt_8 (by decide) (fun c15 => ?_) (fun c15 => ?_)
    · exact absurd rfl c15
    · skip
      refine lv_ldc hx hb hown (ht _ m_476) dX11_burnt_11 ?_
      have hP9 : va_P (dC, dI) classes (WX h g ca iv lv (u2 (u2 fa 0 3 (fa 0 3)) 0 4 (fa 0 4)) la) s.heap := hP
      have hD9 : va_D A (WX h g ca iv lv (u2 (u2 fa 0 3 (fa 0 3)) 0 4 (fa 0 4)) la) := hD
      exact W.iret (v := (-100001)) hx hb hr (fun t ht9 hW => ⟨⟨(-100001), (iv, lv, (u2 (u2 fa 0 3 (fa 0 3)) 0 4 (fa 0 4)), la), rfl, ⟨(fa 0 3), (fa 0 4), ⟨by decide, by decide⟩, rfl⟩, by rw [ht9]; exact hP9, hD9⟩, hS.F ht9⟩) hS.2.2 dX11_burnt_13
set_option maxHeartbeats 4000000 in
set_option maxRecDepth 100000 in
/-- X11_load -/
theorem c_X11_load (l : Launch) (dC : Nat → ClassId) (dI : Nat → Nat → Nat) (sz : Nat) (h : Nat) (g : Nat → Nat → Nat) (ca : Nat → Nat → ClassId) (iv : Nat → Nat → Int32) (lv : Nat → Nat → Int64) (fa : Nat → Nat → Nat → Int32) (la : Nat → Nat → Nat → Int64) (hI : IX iv fa) (a : Int32) : Met l yX11_load (wc yX11_load cX11_load 2 (some .int)) ({ frames := 1, cells := 0, slots := 0, locals := 22 } : Room) (pW (dC, dI) classes (WX h g ca iv lv fa la) (TX ca) sz [.ref h, .int a]) (va_Qi (fun r (u : SS) => ∃ (na_5_0 : Nat → Int32) (ni_5_4 : Int32) (ni_5_6 : Int32), inb (bI 5 4) ni_5_4 ∧ ((-100004) ≤ r.toInt ∧ r.toInt ≤ 8) ∧ u = ((u2 (u2 iv 5 4 ni_5_4) 5 6 ni_5_6), lv, (u2 fa 5 0 na_5_0), la)) (bX (dC, dI) h g ca (va_A (WX h g ca iv lv fa la) sz)) (va_A (WX h g ca iv lv fa la) sz)) 0 0 (va_A (WX h g ca iv lv fa la) sz) := by
  refine Met.ofW (cc := cX11_load) (maxL := 2) (ret := (some .int)) (by decide) rfl ?_
  intro p e s m args below meth c s₁ B hml hv
  obtain ⟨rfl, hsz, hP, hK, hD0⟩ := hv
  have hx := B.exec
  have hb := B.bytes
  have hr := B.returns
  have ht := tb_tl (atoms_spec (ws := wc yX11_load cX11_load 2 (some .int)) B.pre)
  have hown : s.vm.findClass RX11 = some m.cls := findClass_of_methodNamed B.named
  have hlocks := B.notSynchronized
  subst hsz
  have hD := hD0.self (sz := s.heap.size)
  generalize hAe : va_A (WX h g ca iv lv fa la) s.heap.size = A at hD ⊢
  have hA : ∀ q : Nat, s.heap.size ≤ q → A q := fun q h => by rw [← hAe]; exact Or.inr h
  have hS : va_S A s.heap s.heap [] := va_S.rf
  have hl := lv_entry [.ref h, .int a] (n := 2) (Nat.le_of_ble_eq_true rfl)
  rw [lg_entry_eq]
  generalize (lg_sl [.ref h, .int a] ++ List.replicate (2 - (lg_sl [.ref h, .int a]).length) Slot.unset).toArray = ls at hl ⊢
  have hl : lv_has ls 2 [(0, .ref h), (1, .int a)] := hl
  refine lv_iload_n hx hb dX11_load_0 rfl (lv_at hl 1 rfl) ?_
  refine lv_iconst (v := 1) hx hb dX11_load_1 (by decide) ?_
  refine lv_sipush (v := 999) hx hb dX11_load_2 (by decide) ?_
  refine vp_callSi (W.runS (As := [.int a, .int 1, .int 999]) (rest := []) ⟨hx, hb, hml, hown, ht⟩ (c_X11_within l dC dI a 1 999 (a.toInt) (1) (999) (rfl : (a).toInt = _) (by decide : (1 : Int32).toInt = 1) (by decide : (999 : Int32).toInt = 999)) (kS 3 ht m_453 m_454 m_77 m_455 rfl rfl hd_X11_within_v ⟨Nat.le_of_ble_eq_true rfl, Nat.le_of_ble_eq_true rfl⟩) (sR noP (hK.sub (tys' := []) [] rfl)) rfl rfl hl.1 rfl (lv_room (Nat.le_of_ble_eq_true rfl)) dX11_load_5 ⟨Nat.le_of_ble_eq_true rfl, Nat.le_of_ble_eq_true rfl⟩) (fun r1 hr1 => ?_)
  rcases hr1 with ⟨rfl, fr1⟩ | ⟨rfl, fr1⟩
  · skip
    refine lv_if_ne (tgt := 14) hx hb dX11_load_8 (by decide) (fun c2 => ?_) (fun c2 => ?_)
    · skip
      refine lv_aload_n hx hb dX11_load_14 rfl (lv_at hl 0 rfl) ?_
      refine gX_11_7 hx hb ht hown hK hP m_422 dX11_load_15 ?_
      have i_5_4 : 0 ≤ (iv 5 4).toInt ∧ (iv 5 4).toInt ≤ 8 := hI.1 5 4
      refine gX_5_4 hx hb ht hown hK hP m_341 (v := (iv 5 4)) rfl dX11_load_18 ?_
      refine lv_bipush (v := 8) hx hb dX11_load_21 (by decide) ?_
      refine lv_icmp_lt (tgt := 31) hx hb dX11_load_23 (by decide) (fun c3 => ?_) (fun c3 => ?_)
      · have fc3 := z_lt (rfl : ((iv 5 4)).toInt = _) (by decide : (8 : Int32).toInt = 8) c3
        refine lv_aload_n hx hb dX11_load_31 rfl (lv_at hl 0 rfl) ?_
        refine gX_11_7 hx hb ht hown hK hP m_422 dX11_load_32 ?_
        refine lv_iload_n hx hb dX11_load_35 rfl (lv_at hl 1 rfl) ?_
        have hFc := free_all hD hS hA
        refine va_calli (va_runV (As := [.int a]) (rest := []) ⟨hx, hb, hml, hown, ht⟩ (c_X5_bring l dC dI s.heap.size h g ca iv lv fa la hI a (show 0 ≤ ((iv 5 4) : Int32).toInt ∧ ((iv 5 4) : Int32).toInt ≤ 7 from ⟨by omega, by omega⟩)) (kV 1 ht m_1005 m_1006 m_1007 m_86 m_1008 rfl rfl hd_X5_bring_v ⟨Nat.le_of_ble_eq_true rfl, Nat.le_of_ble_eq_true rfl⟩) (vW hP hK hD (rX_5 hK hP)) rfl rfl hl.1 rfl (lv_room (Nat.le_of_ble_eq_true rfl)) dX11_load_36 ⟨Nat.le_of_ble_eq_true rfl, Nat.le_of_ble_eq_true rfl⟩) hS (fun q _ h => hFc q h) hFc (fun r4 u t H1 locs ht9 hvm hr4 hB hz1 hk1 hS => ?_)
        obtain ⟨n5, n6, n7, hn6, dn6, hr4, rfl⟩ := hr4
        have hn5 : ∀ j, inb (bA 5 0 j) (n5 j) := fun j => full_i _
        have dn6 : n6.toInt = ((iv 5 4) : Int32).toInt + 1 := dn6
        have hn6 : 0 ≤ n6.toInt ∧ n6.toInt ≤ 8 := hn6
        obtain ⟨hP, hD⟩ := hB
        rw [ht9] at hP
        generalize H1 = H at hP hS ⊢
        have hP : va_P (dC, dI) classes (WX h g ca (u2 (u2 iv 5 4 n6) 5 6 n7) lv (u2 fa 5 0 n5) la) H := hP
        have hD : va_D A (WX h g ca (u2 (u2 iv 5 4 n6) 5 6 n7) lv (u2 fa 5 0 n5) la) := (show va_D _ (WX h g ca (u2 (u2 iv 5 4 n6) 5 6 n7) lv (u2 fa 5 0 n5) la) from hD).weaken (fun _ _ _ h => hFc _ h)
        have hP9 : va_P (dC, dI) classes (WX h g ca (u2 (u2 iv 5 4 n6) 5 6 n7) lv (u2 fa 5 0 n5) la) H := hP
        have hD9 : va_D A (WX h g ca (u2 (u2 iv 5 4 n6) 5 6 n7) lv (u2 fa 5 0 n5) la) := hD
        exact W.iret (v := r4) hx hb hr (fun t ht9 hW => ⟨⟨r4, ((u2 (u2 iv 5 4 n6) 5 6 n7), lv, (u2 fa 5 0 n5), la), rfl, ⟨n5, n6, n7, (show inb (0, 8) n6 from ⟨by omega, by omega⟩), ⟨by omega, by omega⟩, rfl⟩, by rw [ht9]; exact hP9, hD9⟩, hS.F ht9⟩) hS.2.2 dX11_load_39
      · have fc3 := z_nlt (rfl : ((iv 5 4)).toInt = _) (by decide : (8 : Int32).toInt = 8) c3
        refine lv_ldc hx hb hown (ht _ m_463) dX11_load_26 ?_
        refine lv_goto (tgt := 39) hx hb dX11_load_28 (by decide) ?_
        have hP9 : va_P (dC, dI) classes (WX h g ca (u2 (u2 iv 5 4 (iv 5 4)) 5 6 (iv 5 6)) lv (u2 fa 5 0 (fa 5 0)) la) s.heap := hP
        have hD9 : va_D A (WX h g ca (u2 (u2 iv 5 4 (iv 5 4)) 5 6 (iv 5 6)) lv (u2 fa 5 0 (fa 5 0)) la) := hD
        exact W.iret (v := (-100004)) hx hb hr (fun t ht9 hW => ⟨⟨(-100004), ((u2 (u2 iv 5 4 (iv 5 4)) 5 6 (iv 5 6)), lv, (u2 fa 5 0 (fa 5 0)), la), rfl, ⟨(fa 5 0), (iv 5 4), (iv 5 6), (hI.1 5 4), ⟨by decide, by decide⟩, rfl⟩, by rw [ht9]; exact hP9, hD9⟩, hS.F ht9⟩) hS.2.2 dX11_load_39
    · exact absurd c2 (by decide)
  · skip
    refine lv_if_ne (tgt := 14) hx hb dX11_load_8 (by decide) (fun c8 => ?_) (fun c8 => ?_)
    · exact absurd rfl c8
    · skip
      refine lv_ldc hx hb hown (ht _ m_456) dX11_load_11 ?_
      have hP9 : va_P (dC, dI) classes (WX h g ca (u2 (u2 iv 5 4 (iv 5 4)) 5 6 (iv 5 6)) lv (u2 fa 5 0 (fa 5 0)) la) s.heap := hP
      have hD9 : va_D A (WX h g ca (u2 (u2 iv 5 4 (iv 5 4)) 5 6 (iv 5 6)) lv (u2 fa 5 0 (fa 5 0)) la) := hD
      exact W.iret (v := (-100002)) hx hb hr (fun t ht9 hW => ⟨⟨(-100002), ((u2 (u2 iv 5 4 (iv 5 4)) 5 6 (iv 5 6)), lv, (u2 fa 5 0 (fa 5 0)), la), rfl, ⟨(fa 5 0), (iv 5 4), (iv 5 6), (hI.1 5 4), ⟨by decide, by decide⟩, rfl⟩, by rw [ht9]; exact hP9, hD9⟩, hS.F ht9⟩) hS.2.2 dX11_load_13
set_option maxHeartbeats 4000000 in
set_option maxRecDepth 100000 in
/-- X11_empty -/
theorem c_X11_empty (l : Launch) (dC : Nat → ClassId) (dI : Nat → Nat → Nat) (sz : Nat) (h : Nat) (g : Nat → Nat → Nat) (ca : Nat → Nat → ClassId) (iv : Nat → Nat → Int32) (lv : Nat → Nat → Int64) (fa : Nat → Nat → Nat → Int32) (la : Nat → Nat → Nat → Int64) (hI : IX iv fa) : Met l yX11_empty (wc yX11_empty cX11_empty 1 (some .int)) ({ frames := 1, cells := 0, slots := 0, locals := 21 } : Room) (pW (dC, dI) classes (WX h g ca iv lv fa la) (TX ca) sz [.ref h]) (va_Qi (fun r (u : SS) => ∃ (ni_5_4 : Int32) (ni_5_6 : Int32), inb (bI 5 4) ni_5_4 ∧ (0 ≤ r.toInt ∧ r.toInt ≤ 8) ∧ u = ((u2 (u2 iv 5 4 ni_5_4) 5 6 ni_5_6), lv, fa, la)) (bX (dC, dI) h g ca (va_A (WX h g ca iv lv fa la) sz)) (va_A (WX h g ca iv lv fa la) sz)) 0 0 (va_A (WX h g ca iv lv fa la) sz) := by
  refine Met.ofW (cc := cX11_empty) (maxL := 1) (ret := (some .int)) (by decide) rfl ?_
  intro p e s m args below meth c s₁ B hml hv
  obtain ⟨rfl, hsz, hP, hK, hD0⟩ := hv
  have hx := B.exec
  have hb := B.bytes
  have hr := B.returns
  have ht := tb_tl (atoms_spec (ws := wc yX11_empty cX11_empty 1 (some .int)) B.pre)
  have hown : s.vm.findClass RX11 = some m.cls := findClass_of_methodNamed B.named
  have hlocks := B.notSynchronized
  subst hsz
  have hD := hD0.self (sz := s.heap.size)
  generalize hAe : va_A (WX h g ca iv lv fa la) s.heap.size = A at hD ⊢
  have hA : ∀ q : Nat, s.heap.size ≤ q → A q := fun q h => by rw [← hAe]; exact Or.inr h
  have hS : va_S A s.heap s.heap [] := va_S.rf
  have hl := lv_entry [.ref h] (n := 1) (Nat.le_of_ble_eq_true rfl)
  rw [lg_entry_eq]
  generalize (lg_sl [.ref h] ++ List.replicate (1 - (lg_sl [.ref h]).length) Slot.unset).toArray = ls at hl ⊢
  have hl : lv_has ls 1 [(0, .ref h)] := hl
  refine lv_aload_n hx hb dX11_empty_0 rfl (lv_at hl 0 rfl) ?_
  refine gX_11_7 hx hb ht hown hK hP m_422 dX11_empty_1 ?_
  have hFc := free_all hD hS hA
  refine va_calli (va_runV (As := []) (rest := []) ⟨hx, hb, hml, hown, ht⟩ (c_X5_clear l dC dI s.heap.size h g ca iv lv fa la hI) (kV 0 ht m_1030 m_1031 m_1032 m_86 m_1033 rfl rfl hd_X5_clear_v ⟨Nat.le_of_ble_eq_true rfl, Nat.le_of_ble_eq_true rfl⟩) (vW hP hK hD (rX_5 hK hP)) rfl rfl hl.1 rfl (lv_room (Nat.le_of_ble_eq_true rfl)) dX11_empty_4 ⟨Nat.le_of_ble_eq_true rfl, Nat.le_of_ble_eq_true rfl⟩) hS (fun q _ h => hFc q h) hFc (fun r1 u t H1 locs ht9 hvm hr1 hB hz1 hk1 hS => ?_)
  obtain ⟨n2, n3, hn2, hr1, rfl⟩ := hr1
  have hn2 : 0 ≤ n2.toInt ∧ n2.toInt ≤ 8 := hn2
  obtain ⟨hP, hD⟩ := hB
  rw [ht9] at hP
  generalize H1 = H at hP hS ⊢
  have hP : va_P (dC, dI) classes (WX h g ca (u2 (u2 iv 5 4 n2) 5 6 n3) lv fa la) H := hP
  have hD : va_D A (WX h g ca (u2 (u2 iv 5 4 n2) 5 6 n3) lv fa la) := (show va_D _ (WX h g ca (u2 (u2 iv 5 4 n2) 5 6 n3) lv fa la) from hD).weaken (fun _ _ _ h => hFc _ h)
  have hP9 : va_P (dC, dI) classes (WX h g ca (u2 (u2 iv 5 4 n2) 5 6 n3) lv fa la) H := hP
  have hD9 : va_D A (WX h g ca (u2 (u2 iv 5 4 n2) 5 6 n3) lv fa la) := hD
  exact W.iret (v := r1) hx hb hr (fun t ht9 hW => ⟨⟨r1, ((u2 (u2 iv 5 4 n2) 5 6 n3), lv, fa, la), rfl, ⟨n2, n3, (show inb (0, 8) n2 from ⟨by omega, by omega⟩), ⟨by omega, by omega⟩, rfl⟩, by rw [ht9]; exact hP9, hD9⟩, hS.F ht9⟩) hS.2.2 dX11_empty_7
