/-! ===== made ===== -/
theorem m_102 : Cond.methodLink RX11 1 objectInit ∈ tb := mb_1_1 _ (List.mem_of_getElem? (i := 0) rfl)
theorem m_103 : Cond.instanceMethod objectInit ∈ tb := mb_1_1 _ (List.mem_of_getElem? (i := 1) rfl)
theorem m_104 : Cond.code objectInit ⟨#[0xb1]⟩ 1 none ∈ tb := mb_1_1 _ (List.mem_of_getElem? (i := 2) rfl)
theorem m_105 : Cond.classLink RX11 7 RX10 ∈ tb := mb_1_1 _ (List.mem_of_getElem? (i := 3) rfl)
theorem m_106 : Cond.instantiable RX10 3 ∈ tb := mb_1_1 _ (List.mem_of_getElem? (i := 4) rfl)
theorem m_108 : Cond.instanceMethod yX10_init ∈ tb := mb_1_1 _ (List.mem_of_getElem? (i := 5) rfl)
theorem m_109 : Cond.code yX10_init cX10_init 1 none ∈ tb := mb_1_1 _ (List.mem_of_getElem? (i := 6) rfl)
theorem m_110 : Cond.methodLink RX10 3 objectInit ∈ tb := mb_1_1 _ (List.mem_of_getElem? (i := 7) rfl)
theorem m_125 : Cond.arrayClass .int ∈ tb := mb_1_1 _ (List.mem_of_getElem? (i := 15) rfl)
theorem m_126 : Cond.classLink RX11 16 RX9 ∈ tb := mb_1_1 _ (List.mem_of_getElem? (i := 16) rfl)
theorem m_127 : Cond.instantiable RX9 4 ∈ tb := mb_1_1 _ (List.mem_of_getElem? (i := 17) rfl)
theorem m_129 : Cond.instanceMethod yX9_init ∈ tb := mb_1_1 _ (List.mem_of_getElem? (i := 18) rfl)
theorem m_130 : Cond.code yX9_init cX9_init 1 none ∈ tb := mb_1_1 _ (List.mem_of_getElem? (i := 19) rfl)
theorem m_131 : Cond.methodLink RX9 3 objectInit ∈ tb := mb_1_1 _ (List.mem_of_getElem? (i := 20) rfl)
theorem m_146 : Cond.classLink RX11 23 RX0 ∈ tb := mb_1_2 _ (List.mem_of_getElem? (i := 2) rfl)
theorem m_147 : Cond.instantiable RX0 8 ∈ tb := mb_1_2 _ (List.mem_of_getElem? (i := 3) rfl)
theorem m_149 : Cond.instanceMethod yX0_init ∈ tb := mb_1_2 _ (List.mem_of_getElem? (i := 4) rfl)
theorem m_150 : Cond.code yX0_init cX0_init 1 none ∈ tb := mb_1_2 _ (List.mem_of_getElem? (i := 5) rfl)
theorem m_151 : Cond.methodLink RX0 3 objectInit ∈ tb := mb_1_2 _ (List.mem_of_getElem? (i := 6) rfl)
theorem m_158 : Cond.fieldLink RX0 21 "SilkHouse$Bales" "gum" "[I" ∈ tb := mb_1_2 _ (List.mem_of_getElem? (i := 13) rfl)
theorem m_160 : Cond.fieldLink RX0 24 "SilkHouse$Bales" "ash" "[I" ∈ tb := mb_1_2 _ (List.mem_of_getElem? (i := 15) rfl)
theorem m_183 : Cond.classLink RX11 30 RX1 ∈ tb := mb_1_2 _ (List.mem_of_getElem? (i := 21) rfl)
theorem m_184 : Cond.instantiable RX1 9 ∈ tb := mb_1_2 _ (List.mem_of_getElem? (i := 22) rfl)
theorem m_186 : Cond.instanceMethod yX1_init ∈ tb := mb_1_2 _ (List.mem_of_getElem? (i := 23) rfl)
theorem m_187 : Cond.code yX1_init cX1_init 1 none ∈ tb := mb_1_3 _ (List.mem_of_getElem? (i := 0) rfl)
theorem m_188 : Cond.methodLink RX1 3 objectInit ∈ tb := mb_1_3 _ (List.mem_of_getElem? (i := 1) rfl)
theorem m_220 : Cond.arrayClass .byte ∈ tb := mb_1_3 _ (List.mem_of_getElem? (i := 14) rfl)
theorem m_221 : Cond.arrayClass .boolean ∈ tb := mb_1_3 _ (List.mem_of_getElem? (i := 15) rfl)
theorem m_222 : Cond.classLink RX11 37 RX8 ∈ tb := mb_1_3 _ (List.mem_of_getElem? (i := 16) rfl)
theorem m_223 : Cond.instantiable RX8 6 ∈ tb := mb_1_3 _ (List.mem_of_getElem? (i := 17) rfl)
theorem m_224 : Cond.methodLink RX11 39 yX8_init ∈ tb := mb_1_3 _ (List.mem_of_getElem? (i := 18) rfl)
theorem m_225 : Cond.instanceMethod yX8_init ∈ tb := mb_1_3 _ (List.mem_of_getElem? (i := 19) rfl)
theorem m_226 : Cond.code yX8_init cX8_init 2 none ∈ tb := mb_1_3 _ (List.mem_of_getElem? (i := 20) rfl)
theorem m_227 : Cond.methodLink RX8 3 objectInit ∈ tb := mb_1_3 _ (List.mem_of_getElem? (i := 21) rfl)
theorem m_249 : Cond.classLink RX11 46 RX3 ∈ tb := mb_1_4 _ (List.mem_of_getElem? (i := 6) rfl)
theorem m_250 : Cond.instantiable RX3 5 ∈ tb := mb_1_4 _ (List.mem_of_getElem? (i := 7) rfl)
theorem m_251 : Cond.methodLink RX11 48 yX3_init ∈ tb := mb_1_4 _ (List.mem_of_getElem? (i := 8) rfl)
theorem m_252 : Cond.instanceMethod yX3_init ∈ tb := mb_1_4 _ (List.mem_of_getElem? (i := 9) rfl)
theorem m_253 : Cond.code yX3_init cX3_init 3 none ∈ tb := mb_1_4 _ (List.mem_of_getElem? (i := 10) rfl)
theorem m_254 : Cond.methodLink RX3 1 objectInit ∈ tb := mb_1_4 _ (List.mem_of_getElem? (i := 11) rfl)
theorem m_255 : Cond.classLink RX3 7 RX7 ∈ tb := mb_1_4 _ (List.mem_of_getElem? (i := 12) rfl)
theorem m_256 : Cond.instantiable RX7 3 ∈ tb := mb_1_4 _ (List.mem_of_getElem? (i := 13) rfl)
theorem m_258 : Cond.instanceMethod yX7_init ∈ tb := mb_1_4 _ (List.mem_of_getElem? (i := 14) rfl)
theorem m_259 : Cond.code yX7_init cX7_init 1 none ∈ tb := mb_1_4 _ (List.mem_of_getElem? (i := 15) rfl)
theorem m_260 : Cond.methodLink RX7 1 objectInit ∈ tb := mb_1_4 _ (List.mem_of_getElem? (i := 16) rfl)
theorem m_278 : Cond.arrayClass .long ∈ tb := mb_1_5 _ (List.mem_of_getElem? (i := 3) rfl)
theorem m_296 : Cond.classLink RX11 55 RX2 ∈ tb := mb_1_5 _ (List.mem_of_getElem? (i := 10) rfl)
theorem m_297 : Cond.instantiable RX2 8 ∈ tb := mb_1_5 _ (List.mem_of_getElem? (i := 11) rfl)
theorem m_298 : Cond.methodLink RX11 57 yX2_init ∈ tb := mb_1_5 _ (List.mem_of_getElem? (i := 12) rfl)
theorem m_299 : Cond.instanceMethod yX2_init ∈ tb := mb_1_5 _ (List.mem_of_getElem? (i := 13) rfl)
theorem m_300 : Cond.code yX2_init cX2_init 2 none ∈ tb := mb_1_5 _ (List.mem_of_getElem? (i := 14) rfl)
theorem m_301 : Cond.methodLink RX2 3 objectInit ∈ tb := mb_1_5 _ (List.mem_of_getElem? (i := 15) rfl)
theorem m_302 : Cond.classLink RX2 9 RX7 ∈ tb := mb_1_5 _ (List.mem_of_getElem? (i := 16) rfl)
theorem m_329 : Cond.classLink RX11 64 RX5 ∈ tb := mb_2_0 _ (List.mem_of_getElem? (i := 0) rfl)
theorem m_330 : Cond.instantiable RX5 7 ∈ tb := mb_2_0 _ (List.mem_of_getElem? (i := 1) rfl)
theorem m_332 : Cond.instanceMethod yX5_init ∈ tb := mb_2_0 _ (List.mem_of_getElem? (i := 2) rfl)
theorem m_333 : Cond.code yX5_init cX5_init 1 none ∈ tb := mb_2_0 _ (List.mem_of_getElem? (i := 3) rfl)
theorem m_334 : Cond.methodLink RX5 1 objectInit ∈ tb := mb_2_0 _ (List.mem_of_getElem? (i := 4) rfl)
theorem m_360 : Cond.classLink RX11 71 RX4 ∈ tb := mb_2_0 _ (List.mem_of_getElem? (i := 15) rfl)
theorem m_361 : Cond.instantiable RX4 3 ∈ tb := mb_2_0 _ (List.mem_of_getElem? (i := 16) rfl)
theorem m_363 : Cond.instanceMethod yX4_init ∈ tb := mb_2_0 _ (List.mem_of_getElem? (i := 17) rfl)
theorem m_364 : Cond.code yX4_init cX4_init 1 none ∈ tb := mb_2_0 _ (List.mem_of_getElem? (i := 18) rfl)
theorem m_365 : Cond.methodLink RX4 1 objectInit ∈ tb := mb_2_0 _ (List.mem_of_getElem? (i := 19) rfl)
theorem m_377 : Cond.classLink RX11 78 RX6 ∈ tb := mb_2_1 _ (List.mem_of_getElem? (i := 0) rfl)
theorem m_378 : Cond.instantiable RX6 8 ∈ tb := mb_2_1 _ (List.mem_of_getElem? (i := 1) rfl)
theorem m_380 : Cond.instanceMethod yX6_init ∈ tb := mb_2_1 _ (List.mem_of_getElem? (i := 2) rfl)
theorem m_381 : Cond.code yX6_init cX6_init 1 none ∈ tb := mb_2_1 _ (List.mem_of_getElem? (i := 3) rfl)
theorem m_382 : Cond.methodLink RX6 3 objectInit ∈ tb := mb_2_1 _ (List.mem_of_getElem? (i := 4) rfl)
theorem m_1138 : Cond.methodLink RX12 1 objectInit ∈ tb := mb_5_4 _ (List.mem_of_getElem? (i := 3) rfl)
theorem hd_X0_init_i : yX0_init.cls ≠ "java/lang/invoke/MethodHandle" ∧ yX0_init.cls ≠ "java/lang/invoke/VarHandle" ∧ (parseMethodDescriptor yX0_init.desc).map (fun d => d.parameters.length) = some 0 := by decide +kernel
theorem hd_X10_init_i : yX10_init.cls ≠ "java/lang/invoke/MethodHandle" ∧ yX10_init.cls ≠ "java/lang/invoke/VarHandle" ∧ (parseMethodDescriptor yX10_init.desc).map (fun d => d.parameters.length) = some 0 := by decide +kernel
theorem hd_X1_init_i : yX1_init.cls ≠ "java/lang/invoke/MethodHandle" ∧ yX1_init.cls ≠ "java/lang/invoke/VarHandle" ∧ (parseMethodDescriptor yX1_init.desc).map (fun d => d.parameters.length) = some 0 := by decide +kernel
theorem hd_X2_init_i : yX2_init.cls ≠ "java/lang/invoke/MethodHandle" ∧ yX2_init.cls ≠ "java/lang/invoke/VarHandle" ∧ (parseMethodDescriptor yX2_init.desc).map (fun d => d.parameters.length) = some 1 := by decide +kernel
theorem hd_X3_init_i : yX3_init.cls ≠ "java/lang/invoke/MethodHandle" ∧ yX3_init.cls ≠ "java/lang/invoke/VarHandle" ∧ (parseMethodDescriptor yX3_init.desc).map (fun d => d.parameters.length) = some 2 := by decide +kernel
theorem hd_X4_init_i : yX4_init.cls ≠ "java/lang/invoke/MethodHandle" ∧ yX4_init.cls ≠ "java/lang/invoke/VarHandle" ∧ (parseMethodDescriptor yX4_init.desc).map (fun d => d.parameters.length) = some 0 := by decide +kernel
theorem hd_X5_init_i : yX5_init.cls ≠ "java/lang/invoke/MethodHandle" ∧ yX5_init.cls ≠ "java/lang/invoke/VarHandle" ∧ (parseMethodDescriptor yX5_init.desc).map (fun d => d.parameters.length) = some 0 := by decide +kernel
theorem hd_X6_init_i : yX6_init.cls ≠ "java/lang/invoke/MethodHandle" ∧ yX6_init.cls ≠ "java/lang/invoke/VarHandle" ∧ (parseMethodDescriptor yX6_init.desc).map (fun d => d.parameters.length) = some 0 := by decide +kernel
theorem hd_X7_init_i : yX7_init.cls ≠ "java/lang/invoke/MethodHandle" ∧ yX7_init.cls ≠ "java/lang/invoke/VarHandle" ∧ (parseMethodDescriptor yX7_init.desc).map (fun d => d.parameters.length) = some 0 := by decide +kernel
theorem hd_X8_init_i : yX8_init.cls ≠ "java/lang/invoke/MethodHandle" ∧ yX8_init.cls ≠ "java/lang/invoke/VarHandle" ∧ (parseMethodDescriptor yX8_init.desc).map (fun d => d.parameters.length) = some 1 := by decide +kernel
theorem hd_X9_init_i : yX9_init.cls ≠ "java/lang/invoke/MethodHandle" ∧ yX9_init.cls ≠ "java/lang/invoke/VarHandle" ∧ (parseMethodDescriptor yX9_init.desc).map (fun d => d.parameters.length) = some 0 := by decide +kernel
set_option maxRecDepth 100000 in
theorem dvX0_init_0 : ([(0, .aload_n 0, 1), (1, .invokespecial 3, 3), (4, .aload_n 0, 1), (5, .bipush 10, 2), (7, .newarray .int, 2), (9, .putfield 11, 3), (12, .aload_n 0, 1), (13, .bipush 10, 2), (15, .newarray .int, 2), (17, .putfield 15, 3), (20, .aload_n 0, 1), (21, .bipush 10, 2), (23, .newarray .int, 2), (25, .putfield 18, 3), (28, .aload_n 0, 1), (29, .bipush 10, 2), (31, .newarray .int, 2), (33, .putfield 21, 3), (36, .aload_n 0, 1), (37, .bipush 10, 2), (39, .newarray .int, 2), (41, .putfield 24, 3), (44, .aload_n 0, 1), (45, .bipush 120, 2)] : List (Nat × Instr × Nat)).all (fun q => decide (decode cX0_init q.1 = .ok (q.2.1, q.2.2))) = true := by decide +kernel
theorem dX0_init_0 : decode cX0_init 0 = .ok (.aload_n 0, 1) := all_at dvX0_init_0 0 rfl
theorem dX0_init_1 : decode cX0_init 1 = .ok (.invokespecial 3, 3) := all_at dvX0_init_0 1 rfl
theorem dX0_init_4 : decode cX0_init 4 = .ok (.aload_n 0, 1) := all_at dvX0_init_0 2 rfl
theorem dX0_init_5 : decode cX0_init 5 = .ok (.bipush 10, 2) := all_at dvX0_init_0 3 rfl
theorem dX0_init_7 : decode cX0_init 7 = .ok (.newarray .int, 2) := all_at dvX0_init_0 4 rfl
theorem dX0_init_9 : decode cX0_init 9 = .ok (.putfield 11, 3) := all_at dvX0_init_0 5 rfl
theorem dX0_init_12 : decode cX0_init 12 = .ok (.aload_n 0, 1) := all_at dvX0_init_0 6 rfl
theorem dX0_init_13 : decode cX0_init 13 = .ok (.bipush 10, 2) := all_at dvX0_init_0 7 rfl
theorem dX0_init_15 : decode cX0_init 15 = .ok (.newarray .int, 2) := all_at dvX0_init_0 8 rfl
theorem dX0_init_17 : decode cX0_init 17 = .ok (.putfield 15, 3) := all_at dvX0_init_0 9 rfl
theorem dX0_init_20 : decode cX0_init 20 = .ok (.aload_n 0, 1) := all_at dvX0_init_0 10 rfl
theorem dX0_init_21 : decode cX0_init 21 = .ok (.bipush 10, 2) := all_at dvX0_init_0 11 rfl
theorem dX0_init_23 : decode cX0_init 23 = .ok (.newarray .int, 2) := all_at dvX0_init_0 12 rfl
theorem dX0_init_25 : decode cX0_init 25 = .ok (.putfield 18, 3) := all_at dvX0_init_0 13 rfl
theorem dX0_init_28 : decode cX0_init 28 = .ok (.aload_n 0, 1) := all_at dvX0_init_0 14 rfl
theorem dX0_init_29 : decode cX0_init 29 = .ok (.bipush 10, 2) := all_at dvX0_init_0 15 rfl
theorem dX0_init_31 : decode cX0_init 31 = .ok (.newarray .int, 2) := all_at dvX0_init_0 16 rfl
theorem dX0_init_33 : decode cX0_init 33 = .ok (.putfield 21, 3) := all_at dvX0_init_0 17 rfl
theorem dX0_init_36 : decode cX0_init 36 = .ok (.aload_n 0, 1) := all_at dvX0_init_0 18 rfl
theorem dX0_init_37 : decode cX0_init 37 = .ok (.bipush 10, 2) := all_at dvX0_init_0 19 rfl
theorem dX0_init_39 : decode cX0_init 39 = .ok (.newarray .int, 2) := all_at dvX0_init_0 20 rfl
theorem dX0_init_41 : decode cX0_init 41 = .ok (.putfield 24, 3) := all_at dvX0_init_0 21 rfl
theorem dX0_init_44 : decode cX0_init 44 = .ok (.aload_n 0, 1) := all_at dvX0_init_0 22 rfl
theorem dX0_init_45 : decode cX0_init 45 = .ok (.bipush 120, 2) := all_at dvX0_init_0 23 rfl
set_option maxRecDepth 100000 in
theorem dvX0_init_47 : ([(47, .newarray .int, 2), (49, .putfield 27, 3), (52, .aload_n 0, 1), (53, .bipush 80, 2), (55, .newarray .int, 2), (57, .putfield 30, 3), (60, .aload_n 0, 1), (61, .iconst 0, 1), (62, .putfield 33, 3), (65, .return_, 1)] : List (Nat × Instr × Nat)).all (fun q => decide (decode cX0_init q.1 = .ok (q.2.1, q.2.2))) = true := by decide +kernel
theorem dX0_init_47 : decode cX0_init 47 = .ok (.newarray .int, 2) := all_at dvX0_init_47 0 rfl
theorem dX0_init_49 : decode cX0_init 49 = .ok (.putfield 27, 3) := all_at dvX0_init_47 1 rfl
theorem dX0_init_52 : decode cX0_init 52 = .ok (.aload_n 0, 1) := all_at dvX0_init_47 2 rfl
theorem dX0_init_53 : decode cX0_init 53 = .ok (.bipush 80, 2) := all_at dvX0_init_47 3 rfl
theorem dX0_init_55 : decode cX0_init 55 = .ok (.newarray .int, 2) := all_at dvX0_init_47 4 rfl
theorem dX0_init_57 : decode cX0_init 57 = .ok (.putfield 30, 3) := all_at dvX0_init_47 5 rfl
theorem dX0_init_60 : decode cX0_init 60 = .ok (.aload_n 0, 1) := all_at dvX0_init_47 6 rfl
theorem dX0_init_61 : decode cX0_init 61 = .ok (.iconst 0, 1) := all_at dvX0_init_47 7 rfl
theorem dX0_init_62 : decode cX0_init 62 = .ok (.putfield 33, 3) := all_at dvX0_init_47 8 rfl
theorem dX0_init_65 : decode cX0_init 65 = .ok (.return_, 1) := all_at dvX0_init_47 9 rfl
set_option maxRecDepth 100000 in
theorem dvX10_init_0 : ([(0, .aload_n 0, 1), (1, .invokespecial 3, 3), (4, .aload_n 0, 1), (5, .sipush 540, 3), (8, .newarray .int, 2), (10, .putfield 11, 3), (13, .aload_n 0, 1), (14, .iconst 0, 1), (15, .putfield 15, 3), (18, .aload_n 0, 1), (19, .iconst 0, 1), (20, .putfield 19, 3), (23, .return_, 1)] : List (Nat × Instr × Nat)).all (fun q => decide (decode cX10_init q.1 = .ok (q.2.1, q.2.2))) = true := by decide +kernel
theorem dX10_init_0 : decode cX10_init 0 = .ok (.aload_n 0, 1) := all_at dvX10_init_0 0 rfl
theorem dX10_init_1 : decode cX10_init 1 = .ok (.invokespecial 3, 3) := all_at dvX10_init_0 1 rfl
theorem dX10_init_4 : decode cX10_init 4 = .ok (.aload_n 0, 1) := all_at dvX10_init_0 2 rfl
theorem dX10_init_5 : decode cX10_init 5 = .ok (.sipush 540, 3) := all_at dvX10_init_0 3 rfl
theorem dX10_init_8 : decode cX10_init 8 = .ok (.newarray .int, 2) := all_at dvX10_init_0 4 rfl
theorem dX10_init_10 : decode cX10_init 10 = .ok (.putfield 11, 3) := all_at dvX10_init_0 5 rfl
theorem dX10_init_13 : decode cX10_init 13 = .ok (.aload_n 0, 1) := all_at dvX10_init_0 6 rfl
theorem dX10_init_14 : decode cX10_init 14 = .ok (.iconst 0, 1) := all_at dvX10_init_0 7 rfl
theorem dX10_init_15 : decode cX10_init 15 = .ok (.putfield 15, 3) := all_at dvX10_init_0 8 rfl
theorem dX10_init_18 : decode cX10_init 18 = .ok (.aload_n 0, 1) := all_at dvX10_init_0 9 rfl
theorem dX10_init_19 : decode cX10_init 19 = .ok (.iconst 0, 1) := all_at dvX10_init_0 10 rfl
theorem dX10_init_20 : decode cX10_init 20 = .ok (.putfield 19, 3) := all_at dvX10_init_0 11 rfl
theorem dX10_init_23 : decode cX10_init 23 = .ok (.return_, 1) := all_at dvX10_init_0 12 rfl
set_option maxRecDepth 100000 in
theorem dvX11_init_0 : ([(0, .aload_n 0, 1), (1, .invokespecial 1, 3), (4, .aload_n 0, 1), (5, .new 7, 3), (8, .dup, 1), (9, .invokespecial 9, 3), (12, .putfield 10, 3), (15, .aload_n 0, 1), (16, .new 16, 3), (19, .dup, 1), (20, .invokespecial 18, 3), (23, .putfield 19, 3), (26, .aload_n 0, 1), (27, .new 23, 3), (30, .dup, 1), (31, .invokespecial 25, 3), (34, .putfield 26, 3), (37, .aload_n 0, 1), (38, .new 30, 3), (41, .dup, 1), (42, .invokespecial 32, 3), (45, .putfield 33, 3), (48, .aload_n 0, 1), (49, .new 37, 3)] : List (Nat × Instr × Nat)).all (fun q => decide (decode cX11_init q.1 = .ok (q.2.1, q.2.2))) = true := by decide +kernel
theorem dX11_init_0 : decode cX11_init 0 = .ok (.aload_n 0, 1) := all_at dvX11_init_0 0 rfl
theorem dX11_init_1 : decode cX11_init 1 = .ok (.invokespecial 1, 3) := all_at dvX11_init_0 1 rfl
theorem dX11_init_4 : decode cX11_init 4 = .ok (.aload_n 0, 1) := all_at dvX11_init_0 2 rfl
theorem dX11_init_5 : decode cX11_init 5 = .ok (.new 7, 3) := all_at dvX11_init_0 3 rfl
theorem dX11_init_8 : decode cX11_init 8 = .ok (.dup, 1) := all_at dvX11_init_0 4 rfl
theorem dX11_init_9 : decode cX11_init 9 = .ok (.invokespecial 9, 3) := all_at dvX11_init_0 5 rfl
theorem dX11_init_12 : decode cX11_init 12 = .ok (.putfield 10, 3) := all_at dvX11_init_0 6 rfl
theorem dX11_init_15 : decode cX11_init 15 = .ok (.aload_n 0, 1) := all_at dvX11_init_0 7 rfl
theorem dX11_init_16 : decode cX11_init 16 = .ok (.new 16, 3) := all_at dvX11_init_0 8 rfl
theorem dX11_init_19 : decode cX11_init 19 = .ok (.dup, 1) := all_at dvX11_init_0 9 rfl
theorem dX11_init_20 : decode cX11_init 20 = .ok (.invokespecial 18, 3) := all_at dvX11_init_0 10 rfl
theorem dX11_init_23 : decode cX11_init 23 = .ok (.putfield 19, 3) := all_at dvX11_init_0 11 rfl
theorem dX11_init_26 : decode cX11_init 26 = .ok (.aload_n 0, 1) := all_at dvX11_init_0 12 rfl
theorem dX11_init_27 : decode cX11_init 27 = .ok (.new 23, 3) := all_at dvX11_init_0 13 rfl
theorem dX11_init_30 : decode cX11_init 30 = .ok (.dup, 1) := all_at dvX11_init_0 14 rfl
theorem dX11_init_31 : decode cX11_init 31 = .ok (.invokespecial 25, 3) := all_at dvX11_init_0 15 rfl
theorem dX11_init_34 : decode cX11_init 34 = .ok (.putfield 26, 3) := all_at dvX11_init_0 16 rfl
theorem dX11_init_37 : decode cX11_init 37 = .ok (.aload_n 0, 1) := all_at dvX11_init_0 17 rfl
theorem dX11_init_38 : decode cX11_init 38 = .ok (.new 30, 3) := all_at dvX11_init_0 18 rfl
theorem dX11_init_41 : decode cX11_init 41 = .ok (.dup, 1) := all_at dvX11_init_0 19 rfl
theorem dX11_init_42 : decode cX11_init 42 = .ok (.invokespecial 32, 3) := all_at dvX11_init_0 20 rfl
theorem dX11_init_45 : decode cX11_init 45 = .ok (.putfield 33, 3) := all_at dvX11_init_0 21 rfl
theorem dX11_init_48 : decode cX11_init 48 = .ok (.aload_n 0, 1) := all_at dvX11_init_0 22 rfl
theorem dX11_init_49 : decode cX11_init 49 = .ok (.new 37, 3) := all_at dvX11_init_0 23 rfl
set_option maxRecDepth 100000 in
theorem dvX11_init_52 : ([(52, .dup, 1), (53, .aload_n 0, 1), (54, .getfield 33, 3), (57, .invokespecial 39, 3), (60, .putfield 42, 3), (63, .aload_n 0, 1), (64, .new 46, 3), (67, .dup, 1), (68, .aload_n 0, 1), (69, .getfield 10, 3), (72, .aload_n 0, 1), (73, .getfield 33, 3), (76, .invokespecial 48, 3), (79, .putfield 51, 3), (82, .aload_n 0, 1), (83, .new 55, 3), (86, .dup, 1), (87, .aload_n 0, 1), (88, .getfield 10, 3), (91, .invokespecial 57, 3), (94, .putfield 60, 3), (97, .aload_n 0, 1), (98, .new 64, 3), (101, .dup, 1)] : List (Nat × Instr × Nat)).all (fun q => decide (decode cX11_init q.1 = .ok (q.2.1, q.2.2))) = true := by decide +kernel
theorem dX11_init_52 : decode cX11_init 52 = .ok (.dup, 1) := all_at dvX11_init_52 0 rfl
theorem dX11_init_53 : decode cX11_init 53 = .ok (.aload_n 0, 1) := all_at dvX11_init_52 1 rfl
theorem dX11_init_54 : decode cX11_init 54 = .ok (.getfield 33, 3) := all_at dvX11_init_52 2 rfl
theorem dX11_init_57 : decode cX11_init 57 = .ok (.invokespecial 39, 3) := all_at dvX11_init_52 3 rfl
theorem dX11_init_60 : decode cX11_init 60 = .ok (.putfield 42, 3) := all_at dvX11_init_52 4 rfl
theorem dX11_init_63 : decode cX11_init 63 = .ok (.aload_n 0, 1) := all_at dvX11_init_52 5 rfl
theorem dX11_init_64 : decode cX11_init 64 = .ok (.new 46, 3) := all_at dvX11_init_52 6 rfl
theorem dX11_init_67 : decode cX11_init 67 = .ok (.dup, 1) := all_at dvX11_init_52 7 rfl
theorem dX11_init_68 : decode cX11_init 68 = .ok (.aload_n 0, 1) := all_at dvX11_init_52 8 rfl
theorem dX11_init_69 : decode cX11_init 69 = .ok (.getfield 10, 3) := all_at dvX11_init_52 9 rfl
theorem dX11_init_72 : decode cX11_init 72 = .ok (.aload_n 0, 1) := all_at dvX11_init_52 10 rfl
theorem dX11_init_73 : decode cX11_init 73 = .ok (.getfield 33, 3) := all_at dvX11_init_52 11 rfl
theorem dX11_init_76 : decode cX11_init 76 = .ok (.invokespecial 48, 3) := all_at dvX11_init_52 12 rfl
theorem dX11_init_79 : decode cX11_init 79 = .ok (.putfield 51, 3) := all_at dvX11_init_52 13 rfl
theorem dX11_init_82 : decode cX11_init 82 = .ok (.aload_n 0, 1) := all_at dvX11_init_52 14 rfl
theorem dX11_init_83 : decode cX11_init 83 = .ok (.new 55, 3) := all_at dvX11_init_52 15 rfl
theorem dX11_init_86 : decode cX11_init 86 = .ok (.dup, 1) := all_at dvX11_init_52 16 rfl
theorem dX11_init_87 : decode cX11_init 87 = .ok (.aload_n 0, 1) := all_at dvX11_init_52 17 rfl
theorem dX11_init_88 : decode cX11_init 88 = .ok (.getfield 10, 3) := all_at dvX11_init_52 18 rfl
theorem dX11_init_91 : decode cX11_init 91 = .ok (.invokespecial 57, 3) := all_at dvX11_init_52 19 rfl
theorem dX11_init_94 : decode cX11_init 94 = .ok (.putfield 60, 3) := all_at dvX11_init_52 20 rfl
theorem dX11_init_97 : decode cX11_init 97 = .ok (.aload_n 0, 1) := all_at dvX11_init_52 21 rfl
theorem dX11_init_98 : decode cX11_init 98 = .ok (.new 64, 3) := all_at dvX11_init_52 22 rfl
theorem dX11_init_101 : decode cX11_init 101 = .ok (.dup, 1) := all_at dvX11_init_52 23 rfl
set_option maxRecDepth 100000 in
theorem dvX11_init_102 : ([(102, .invokespecial 66, 3), (105, .putfield 67, 3), (108, .aload_n 0, 1), (109, .new 71, 3), (112, .dup, 1), (113, .invokespecial 73, 3), (116, .putfield 74, 3), (119, .aload_n 0, 1), (120, .new 78, 3), (123, .dup, 1), (124, .invokespecial 80, 3), (127, .putfield 81, 3), (130, .aload_n 0, 1), (131, .iconst 0, 1), (132, .putfield 85, 3), (135, .return_, 1)] : List (Nat × Instr × Nat)).all (fun q => decide (decode cX11_init q.1 = .ok (q.2.1, q.2.2))) = true := by decide +kernel
theorem dX11_init_102 : decode cX11_init 102 = .ok (.invokespecial 66, 3) := all_at dvX11_init_102 0 rfl
theorem dX11_init_105 : decode cX11_init 105 = .ok (.putfield 67, 3) := all_at dvX11_init_102 1 rfl
theorem dX11_init_108 : decode cX11_init 108 = .ok (.aload_n 0, 1) := all_at dvX11_init_102 2 rfl
theorem dX11_init_109 : decode cX11_init 109 = .ok (.new 71, 3) := all_at dvX11_init_102 3 rfl
theorem dX11_init_112 : decode cX11_init 112 = .ok (.dup, 1) := all_at dvX11_init_102 4 rfl
theorem dX11_init_113 : decode cX11_init 113 = .ok (.invokespecial 73, 3) := all_at dvX11_init_102 5 rfl
theorem dX11_init_116 : decode cX11_init 116 = .ok (.putfield 74, 3) := all_at dvX11_init_102 6 rfl
theorem dX11_init_119 : decode cX11_init 119 = .ok (.aload_n 0, 1) := all_at dvX11_init_102 7 rfl
theorem dX11_init_120 : decode cX11_init 120 = .ok (.new 78, 3) := all_at dvX11_init_102 8 rfl
theorem dX11_init_123 : decode cX11_init 123 = .ok (.dup, 1) := all_at dvX11_init_102 9 rfl
theorem dX11_init_124 : decode cX11_init 124 = .ok (.invokespecial 80, 3) := all_at dvX11_init_102 10 rfl
theorem dX11_init_127 : decode cX11_init 127 = .ok (.putfield 81, 3) := all_at dvX11_init_102 11 rfl
theorem dX11_init_130 : decode cX11_init 130 = .ok (.aload_n 0, 1) := all_at dvX11_init_102 12 rfl
theorem dX11_init_131 : decode cX11_init 131 = .ok (.iconst 0, 1) := all_at dvX11_init_102 13 rfl
theorem dX11_init_132 : decode cX11_init 132 = .ok (.putfield 85, 3) := all_at dvX11_init_102 14 rfl
theorem dX11_init_135 : decode cX11_init 135 = .ok (.return_, 1) := all_at dvX11_init_102 15 rfl
set_option maxRecDepth 100000 in
theorem dvX12_init_0 : ([(0, .aload_n 0, 1), (1, .invokespecial 1, 3), (4, .aload_n 0, 1), (5, .bipush 10, 2), (7, .newarray .int, 2), (9, .putfield 7, 3), (12, .aload_n 0, 1), (13, .bipush 60, 2), (15, .newarray .int, 2), (17, .putfield 13, 3), (20, .aload_n 0, 1), (21, .bipush 60, 2), (23, .newarray .int, 2), (25, .putfield 16, 3), (28, .aload_n 0, 1), (29, .bipush 60, 2), (31, .newarray .int, 2), (33, .putfield 19, 3), (36, .aload_n 0, 1), (37, .bipush 60, 2), (39, .newarray .int, 2), (41, .putfield 22, 3), (44, .aload_n 0, 1), (45, .bipush 60, 2)] : List (Nat × Instr × Nat)).all (fun q => decide (decode cX12_init q.1 = .ok (q.2.1, q.2.2))) = true := by decide +kernel
theorem dX12_init_0 : decode cX12_init 0 = .ok (.aload_n 0, 1) := all_at dvX12_init_0 0 rfl
theorem dX12_init_1 : decode cX12_init 1 = .ok (.invokespecial 1, 3) := all_at dvX12_init_0 1 rfl
theorem dX12_init_4 : decode cX12_init 4 = .ok (.aload_n 0, 1) := all_at dvX12_init_0 2 rfl
theorem dX12_init_5 : decode cX12_init 5 = .ok (.bipush 10, 2) := all_at dvX12_init_0 3 rfl
theorem dX12_init_7 : decode cX12_init 7 = .ok (.newarray .int, 2) := all_at dvX12_init_0 4 rfl
theorem dX12_init_9 : decode cX12_init 9 = .ok (.putfield 7, 3) := all_at dvX12_init_0 5 rfl
theorem dX12_init_12 : decode cX12_init 12 = .ok (.aload_n 0, 1) := all_at dvX12_init_0 6 rfl
theorem dX12_init_13 : decode cX12_init 13 = .ok (.bipush 60, 2) := all_at dvX12_init_0 7 rfl
theorem dX12_init_15 : decode cX12_init 15 = .ok (.newarray .int, 2) := all_at dvX12_init_0 8 rfl
theorem dX12_init_17 : decode cX12_init 17 = .ok (.putfield 13, 3) := all_at dvX12_init_0 9 rfl
theorem dX12_init_20 : decode cX12_init 20 = .ok (.aload_n 0, 1) := all_at dvX12_init_0 10 rfl
theorem dX12_init_21 : decode cX12_init 21 = .ok (.bipush 60, 2) := all_at dvX12_init_0 11 rfl
theorem dX12_init_23 : decode cX12_init 23 = .ok (.newarray .int, 2) := all_at dvX12_init_0 12 rfl
theorem dX12_init_25 : decode cX12_init 25 = .ok (.putfield 16, 3) := all_at dvX12_init_0 13 rfl
theorem dX12_init_28 : decode cX12_init 28 = .ok (.aload_n 0, 1) := all_at dvX12_init_0 14 rfl
theorem dX12_init_29 : decode cX12_init 29 = .ok (.bipush 60, 2) := all_at dvX12_init_0 15 rfl
theorem dX12_init_31 : decode cX12_init 31 = .ok (.newarray .int, 2) := all_at dvX12_init_0 16 rfl
theorem dX12_init_33 : decode cX12_init 33 = .ok (.putfield 19, 3) := all_at dvX12_init_0 17 rfl
theorem dX12_init_36 : decode cX12_init 36 = .ok (.aload_n 0, 1) := all_at dvX12_init_0 18 rfl
theorem dX12_init_37 : decode cX12_init 37 = .ok (.bipush 60, 2) := all_at dvX12_init_0 19 rfl
theorem dX12_init_39 : decode cX12_init 39 = .ok (.newarray .int, 2) := all_at dvX12_init_0 20 rfl
theorem dX12_init_41 : decode cX12_init 41 = .ok (.putfield 22, 3) := all_at dvX12_init_0 21 rfl
theorem dX12_init_44 : decode cX12_init 44 = .ok (.aload_n 0, 1) := all_at dvX12_init_0 22 rfl
theorem dX12_init_45 : decode cX12_init 45 = .ok (.bipush 60, 2) := all_at dvX12_init_0 23 rfl
set_option maxRecDepth 100000 in
theorem dvX12_init_47 : ([(47, .newarray .int, 2), (49, .putfield 25, 3), (52, .aload_n 0, 1), (53, .bipush 60, 2), (55, .newarray .int, 2), (57, .putfield 28, 3), (60, .aload_n 0, 1), (61, .bipush 60, 2), (63, .newarray .int, 2), (65, .putfield 31, 3), (68, .aload_n 0, 1), (69, .bipush 60, 2), (71, .newarray .int, 2), (73, .putfield 34, 3), (76, .aload_n 0, 1), (77, .bipush 60, 2), (79, .newarray .int, 2), (81, .putfield 37, 3), (84, .aload_n 0, 1), (85, .bipush 30, 2), (87, .newarray .int, 2), (89, .putfield 40, 3), (92, .aload_n 0, 1), (93, .bipush 30, 2)] : List (Nat × Instr × Nat)).all (fun q => decide (decode cX12_init q.1 = .ok (q.2.1, q.2.2))) = true := by decide +kernel
theorem dX12_init_47 : decode cX12_init 47 = .ok (.newarray .int, 2) := all_at dvX12_init_47 0 rfl
theorem dX12_init_49 : decode cX12_init 49 = .ok (.putfield 25, 3) := all_at dvX12_init_47 1 rfl
theorem dX12_init_52 : decode cX12_init 52 = .ok (.aload_n 0, 1) := all_at dvX12_init_47 2 rfl
theorem dX12_init_53 : decode cX12_init 53 = .ok (.bipush 60, 2) := all_at dvX12_init_47 3 rfl
theorem dX12_init_55 : decode cX12_init 55 = .ok (.newarray .int, 2) := all_at dvX12_init_47 4 rfl
theorem dX12_init_57 : decode cX12_init 57 = .ok (.putfield 28, 3) := all_at dvX12_init_47 5 rfl
theorem dX12_init_60 : decode cX12_init 60 = .ok (.aload_n 0, 1) := all_at dvX12_init_47 6 rfl
theorem dX12_init_61 : decode cX12_init 61 = .ok (.bipush 60, 2) := all_at dvX12_init_47 7 rfl
theorem dX12_init_63 : decode cX12_init 63 = .ok (.newarray .int, 2) := all_at dvX12_init_47 8 rfl
theorem dX12_init_65 : decode cX12_init 65 = .ok (.putfield 31, 3) := all_at dvX12_init_47 9 rfl
theorem dX12_init_68 : decode cX12_init 68 = .ok (.aload_n 0, 1) := all_at dvX12_init_47 10 rfl
theorem dX12_init_69 : decode cX12_init 69 = .ok (.bipush 60, 2) := all_at dvX12_init_47 11 rfl
theorem dX12_init_71 : decode cX12_init 71 = .ok (.newarray .int, 2) := all_at dvX12_init_47 12 rfl
theorem dX12_init_73 : decode cX12_init 73 = .ok (.putfield 34, 3) := all_at dvX12_init_47 13 rfl
theorem dX12_init_76 : decode cX12_init 76 = .ok (.aload_n 0, 1) := all_at dvX12_init_47 14 rfl
theorem dX12_init_77 : decode cX12_init 77 = .ok (.bipush 60, 2) := all_at dvX12_init_47 15 rfl
theorem dX12_init_79 : decode cX12_init 79 = .ok (.newarray .int, 2) := all_at dvX12_init_47 16 rfl
theorem dX12_init_81 : decode cX12_init 81 = .ok (.putfield 37, 3) := all_at dvX12_init_47 17 rfl
theorem dX12_init_84 : decode cX12_init 84 = .ok (.aload_n 0, 1) := all_at dvX12_init_47 18 rfl
theorem dX12_init_85 : decode cX12_init 85 = .ok (.bipush 30, 2) := all_at dvX12_init_47 19 rfl
theorem dX12_init_87 : decode cX12_init 87 = .ok (.newarray .int, 2) := all_at dvX12_init_47 20 rfl
theorem dX12_init_89 : decode cX12_init 89 = .ok (.putfield 40, 3) := all_at dvX12_init_47 21 rfl
theorem dX12_init_92 : decode cX12_init 92 = .ok (.aload_n 0, 1) := all_at dvX12_init_47 22 rfl
theorem dX12_init_93 : decode cX12_init 93 = .ok (.bipush 30, 2) := all_at dvX12_init_47 23 rfl
set_option maxRecDepth 100000 in
theorem dvX12_init_95 : ([(95, .newarray .int, 2), (97, .putfield 43, 3), (100, .aload_n 0, 1), (101, .bipush 30, 2), (103, .newarray .int, 2), (105, .putfield 46, 3), (108, .aload_n 0, 1), (109, .iconst (-1), 1), (110, .putfield 49, 3), (113, .aload_n 0, 1), (114, .iconst (-1), 1), (115, .putfield 53, 3), (118, .aload_n 0, 1), (119, .iconst (-1), 1), (120, .putfield 56, 3), (123, .aload_n 0, 1), (124, .bipush 8, 2), (126, .newarray .int, 2), (128, .putfield 59, 3), (131, .aload_n 0, 1), (132, .bipush 8, 2), (134, .newarray .int, 2), (136, .putfield 62, 3), (139, .aload_n 0, 1)] : List (Nat × Instr × Nat)).all (fun q => decide (decode cX12_init q.1 = .ok (q.2.1, q.2.2))) = true := by decide +kernel
theorem dX12_init_95 : decode cX12_init 95 = .ok (.newarray .int, 2) := all_at dvX12_init_95 0 rfl
theorem dX12_init_97 : decode cX12_init 97 = .ok (.putfield 43, 3) := all_at dvX12_init_95 1 rfl
theorem dX12_init_100 : decode cX12_init 100 = .ok (.aload_n 0, 1) := all_at dvX12_init_95 2 rfl
theorem dX12_init_101 : decode cX12_init 101 = .ok (.bipush 30, 2) := all_at dvX12_init_95 3 rfl
theorem dX12_init_103 : decode cX12_init 103 = .ok (.newarray .int, 2) := all_at dvX12_init_95 4 rfl
theorem dX12_init_105 : decode cX12_init 105 = .ok (.putfield 46, 3) := all_at dvX12_init_95 5 rfl
theorem dX12_init_108 : decode cX12_init 108 = .ok (.aload_n 0, 1) := all_at dvX12_init_95 6 rfl
theorem dX12_init_109 : decode cX12_init 109 = .ok (.iconst (-1), 1) := all_at dvX12_init_95 7 rfl
theorem dX12_init_110 : decode cX12_init 110 = .ok (.putfield 49, 3) := all_at dvX12_init_95 8 rfl
theorem dX12_init_113 : decode cX12_init 113 = .ok (.aload_n 0, 1) := all_at dvX12_init_95 9 rfl
theorem dX12_init_114 : decode cX12_init 114 = .ok (.iconst (-1), 1) := all_at dvX12_init_95 10 rfl
theorem dX12_init_115 : decode cX12_init 115 = .ok (.putfield 53, 3) := all_at dvX12_init_95 11 rfl
theorem dX12_init_118 : decode cX12_init 118 = .ok (.aload_n 0, 1) := all_at dvX12_init_95 12 rfl
theorem dX12_init_119 : decode cX12_init 119 = .ok (.iconst (-1), 1) := all_at dvX12_init_95 13 rfl
theorem dX12_init_120 : decode cX12_init 120 = .ok (.putfield 56, 3) := all_at dvX12_init_95 14 rfl
theorem dX12_init_123 : decode cX12_init 123 = .ok (.aload_n 0, 1) := all_at dvX12_init_95 15 rfl
theorem dX12_init_124 : decode cX12_init 124 = .ok (.bipush 8, 2) := all_at dvX12_init_95 16 rfl
theorem dX12_init_126 : decode cX12_init 126 = .ok (.newarray .int, 2) := all_at dvX12_init_95 17 rfl
theorem dX12_init_128 : decode cX12_init 128 = .ok (.putfield 59, 3) := all_at dvX12_init_95 18 rfl
theorem dX12_init_131 : decode cX12_init 131 = .ok (.aload_n 0, 1) := all_at dvX12_init_95 19 rfl
theorem dX12_init_132 : decode cX12_init 132 = .ok (.bipush 8, 2) := all_at dvX12_init_95 20 rfl
theorem dX12_init_134 : decode cX12_init 134 = .ok (.newarray .int, 2) := all_at dvX12_init_95 21 rfl
theorem dX12_init_136 : decode cX12_init 136 = .ok (.putfield 62, 3) := all_at dvX12_init_95 22 rfl
theorem dX12_init_139 : decode cX12_init 139 = .ok (.aload_n 0, 1) := all_at dvX12_init_95 23 rfl
set_option maxRecDepth 100000 in
theorem dvX12_init_140 : ([(140, .bipush 96, 2), (142, .newarray .int, 2), (144, .putfield 65, 3), (147, .aload_n 0, 1), (148, .bipush 96, 2), (150, .newarray .int, 2), (152, .putfield 68, 3), (155, .aload_n 0, 1), (156, .bipush 96, 2), (158, .newarray .int, 2), (160, .putfield 71, 3), (163, .aload_n 0, 1), (164, .bipush 96, 2), (166, .newarray .int, 2), (168, .putfield 74, 3), (171, .aload_n 0, 1), (172, .bipush 96, 2), (174, .newarray .int, 2), (176, .putfield 77, 3), (179, .aload_n 0, 1), (180, .sipush 768, 3), (183, .newarray .int, 2), (185, .putfield 80, 3), (188, .aload_n 0, 1)] : List (Nat × Instr × Nat)).all (fun q => decide (decode cX12_init q.1 = .ok (q.2.1, q.2.2))) = true := by decide +kernel
theorem dX12_init_140 : decode cX12_init 140 = .ok (.bipush 96, 2) := all_at dvX12_init_140 0 rfl
theorem dX12_init_142 : decode cX12_init 142 = .ok (.newarray .int, 2) := all_at dvX12_init_140 1 rfl
theorem dX12_init_144 : decode cX12_init 144 = .ok (.putfield 65, 3) := all_at dvX12_init_140 2 rfl
theorem dX12_init_147 : decode cX12_init 147 = .ok (.aload_n 0, 1) := all_at dvX12_init_140 3 rfl
theorem dX12_init_148 : decode cX12_init 148 = .ok (.bipush 96, 2) := all_at dvX12_init_140 4 rfl
theorem dX12_init_150 : decode cX12_init 150 = .ok (.newarray .int, 2) := all_at dvX12_init_140 5 rfl
theorem dX12_init_152 : decode cX12_init 152 = .ok (.putfield 68, 3) := all_at dvX12_init_140 6 rfl
theorem dX12_init_155 : decode cX12_init 155 = .ok (.aload_n 0, 1) := all_at dvX12_init_140 7 rfl
theorem dX12_init_156 : decode cX12_init 156 = .ok (.bipush 96, 2) := all_at dvX12_init_140 8 rfl
theorem dX12_init_158 : decode cX12_init 158 = .ok (.newarray .int, 2) := all_at dvX12_init_140 9 rfl
theorem dX12_init_160 : decode cX12_init 160 = .ok (.putfield 71, 3) := all_at dvX12_init_140 10 rfl
theorem dX12_init_163 : decode cX12_init 163 = .ok (.aload_n 0, 1) := all_at dvX12_init_140 11 rfl
theorem dX12_init_164 : decode cX12_init 164 = .ok (.bipush 96, 2) := all_at dvX12_init_140 12 rfl
theorem dX12_init_166 : decode cX12_init 166 = .ok (.newarray .int, 2) := all_at dvX12_init_140 13 rfl
theorem dX12_init_168 : decode cX12_init 168 = .ok (.putfield 74, 3) := all_at dvX12_init_140 14 rfl
theorem dX12_init_171 : decode cX12_init 171 = .ok (.aload_n 0, 1) := all_at dvX12_init_140 15 rfl
theorem dX12_init_172 : decode cX12_init 172 = .ok (.bipush 96, 2) := all_at dvX12_init_140 16 rfl
theorem dX12_init_174 : decode cX12_init 174 = .ok (.newarray .int, 2) := all_at dvX12_init_140 17 rfl
theorem dX12_init_176 : decode cX12_init 176 = .ok (.putfield 77, 3) := all_at dvX12_init_140 18 rfl
theorem dX12_init_179 : decode cX12_init 179 = .ok (.aload_n 0, 1) := all_at dvX12_init_140 19 rfl
theorem dX12_init_180 : decode cX12_init 180 = .ok (.sipush 768, 3) := all_at dvX12_init_140 20 rfl
theorem dX12_init_183 : decode cX12_init 183 = .ok (.newarray .int, 2) := all_at dvX12_init_140 21 rfl
theorem dX12_init_185 : decode cX12_init 185 = .ok (.putfield 80, 3) := all_at dvX12_init_140 22 rfl
theorem dX12_init_188 : decode cX12_init 188 = .ok (.aload_n 0, 1) := all_at dvX12_init_140 23 rfl
set_option maxRecDepth 100000 in
theorem dvX12_init_189 : ([(189, .sipush 200, 3), (192, .newarray .int, 2), (194, .putfield 83, 3), (197, .aload_n 0, 1), (198, .iconst (-1), 1), (199, .putfield 86, 3), (202, .aload_n 0, 1), (203, .bipush 8, 2), (205, .newarray .boolean, 2), (207, .putfield 89, 3), (210, .aload_n 0, 1), (211, .bipush 8, 2), (213, .newarray .int, 2), (215, .putfield 93, 3), (218, .aload_n 0, 1), (219, .iconst 3, 1), (220, .newarray .long, 2), (222, .putfield 96, 3), (225, .aload_n 0, 1), (226, .iconst 3, 1), (227, .newarray .long, 2), (229, .putfield 100, 3), (232, .aload_n 0, 1), (233, .bipush 80, 2)] : List (Nat × Instr × Nat)).all (fun q => decide (decode cX12_init q.1 = .ok (q.2.1, q.2.2))) = true := by decide +kernel
theorem dX12_init_189 : decode cX12_init 189 = .ok (.sipush 200, 3) := all_at dvX12_init_189 0 rfl
theorem dX12_init_192 : decode cX12_init 192 = .ok (.newarray .int, 2) := all_at dvX12_init_189 1 rfl
theorem dX12_init_194 : decode cX12_init 194 = .ok (.putfield 83, 3) := all_at dvX12_init_189 2 rfl
theorem dX12_init_197 : decode cX12_init 197 = .ok (.aload_n 0, 1) := all_at dvX12_init_189 3 rfl
theorem dX12_init_198 : decode cX12_init 198 = .ok (.iconst (-1), 1) := all_at dvX12_init_189 4 rfl
theorem dX12_init_199 : decode cX12_init 199 = .ok (.putfield 86, 3) := all_at dvX12_init_189 5 rfl
theorem dX12_init_202 : decode cX12_init 202 = .ok (.aload_n 0, 1) := all_at dvX12_init_189 6 rfl
theorem dX12_init_203 : decode cX12_init 203 = .ok (.bipush 8, 2) := all_at dvX12_init_189 7 rfl
theorem dX12_init_205 : decode cX12_init 205 = .ok (.newarray .boolean, 2) := all_at dvX12_init_189 8 rfl
theorem dX12_init_207 : decode cX12_init 207 = .ok (.putfield 89, 3) := all_at dvX12_init_189 9 rfl
theorem dX12_init_210 : decode cX12_init 210 = .ok (.aload_n 0, 1) := all_at dvX12_init_189 10 rfl
theorem dX12_init_211 : decode cX12_init 211 = .ok (.bipush 8, 2) := all_at dvX12_init_189 11 rfl
theorem dX12_init_213 : decode cX12_init 213 = .ok (.newarray .int, 2) := all_at dvX12_init_189 12 rfl
theorem dX12_init_215 : decode cX12_init 215 = .ok (.putfield 93, 3) := all_at dvX12_init_189 13 rfl
theorem dX12_init_218 : decode cX12_init 218 = .ok (.aload_n 0, 1) := all_at dvX12_init_189 14 rfl
theorem dX12_init_219 : decode cX12_init 219 = .ok (.iconst 3, 1) := all_at dvX12_init_189 15 rfl
theorem dX12_init_220 : decode cX12_init 220 = .ok (.newarray .long, 2) := all_at dvX12_init_189 16 rfl
theorem dX12_init_222 : decode cX12_init 222 = .ok (.putfield 96, 3) := all_at dvX12_init_189 17 rfl
theorem dX12_init_225 : decode cX12_init 225 = .ok (.aload_n 0, 1) := all_at dvX12_init_189 18 rfl
theorem dX12_init_226 : decode cX12_init 226 = .ok (.iconst 3, 1) := all_at dvX12_init_189 19 rfl
theorem dX12_init_227 : decode cX12_init 227 = .ok (.newarray .long, 2) := all_at dvX12_init_189 20 rfl
theorem dX12_init_229 : decode cX12_init 229 = .ok (.putfield 100, 3) := all_at dvX12_init_189 21 rfl
theorem dX12_init_232 : decode cX12_init 232 = .ok (.aload_n 0, 1) := all_at dvX12_init_189 22 rfl
theorem dX12_init_233 : decode cX12_init 233 = .ok (.bipush 80, 2) := all_at dvX12_init_189 23 rfl
set_option maxRecDepth 100000 in
theorem dvX12_init_235 : ([(235, .newarray .int, 2), (237, .putfield 103, 3), (240, .aload_n 0, 1), (241, .bipush 12, 2), (243, .newarray .int, 2), (245, .putfield 106, 3), (248, .aload_n 0, 1), (249, .bipush 10, 2), (251, .newarray .int, 2), (253, .putfield 109, 3), (256, .aload_n 0, 1), (257, .bipush 120, 2), (259, .newarray .int, 2), (261, .putfield 112, 3), (264, .aload_n 0, 1), (265, .bipush 10, 2), (267, .newarray .int, 2), (269, .putfield 115, 3), (272, .aload_n 0, 1), (273, .bipush 80, 2), (275, .newarray .int, 2), (277, .putfield 118, 3), (280, .aload_n 0, 1), (281, .bipush 10, 2)] : List (Nat × Instr × Nat)).all (fun q => decide (decode cX12_init q.1 = .ok (q.2.1, q.2.2))) = true := by decide +kernel
theorem dX12_init_235 : decode cX12_init 235 = .ok (.newarray .int, 2) := all_at dvX12_init_235 0 rfl
theorem dX12_init_237 : decode cX12_init 237 = .ok (.putfield 103, 3) := all_at dvX12_init_235 1 rfl
theorem dX12_init_240 : decode cX12_init 240 = .ok (.aload_n 0, 1) := all_at dvX12_init_235 2 rfl
theorem dX12_init_241 : decode cX12_init 241 = .ok (.bipush 12, 2) := all_at dvX12_init_235 3 rfl
theorem dX12_init_243 : decode cX12_init 243 = .ok (.newarray .int, 2) := all_at dvX12_init_235 4 rfl
theorem dX12_init_245 : decode cX12_init 245 = .ok (.putfield 106, 3) := all_at dvX12_init_235 5 rfl
theorem dX12_init_248 : decode cX12_init 248 = .ok (.aload_n 0, 1) := all_at dvX12_init_235 6 rfl
theorem dX12_init_249 : decode cX12_init 249 = .ok (.bipush 10, 2) := all_at dvX12_init_235 7 rfl
theorem dX12_init_251 : decode cX12_init 251 = .ok (.newarray .int, 2) := all_at dvX12_init_235 8 rfl
theorem dX12_init_253 : decode cX12_init 253 = .ok (.putfield 109, 3) := all_at dvX12_init_235 9 rfl
theorem dX12_init_256 : decode cX12_init 256 = .ok (.aload_n 0, 1) := all_at dvX12_init_235 10 rfl
theorem dX12_init_257 : decode cX12_init 257 = .ok (.bipush 120, 2) := all_at dvX12_init_235 11 rfl
theorem dX12_init_259 : decode cX12_init 259 = .ok (.newarray .int, 2) := all_at dvX12_init_235 12 rfl
theorem dX12_init_261 : decode cX12_init 261 = .ok (.putfield 112, 3) := all_at dvX12_init_235 13 rfl
theorem dX12_init_264 : decode cX12_init 264 = .ok (.aload_n 0, 1) := all_at dvX12_init_235 14 rfl
theorem dX12_init_265 : decode cX12_init 265 = .ok (.bipush 10, 2) := all_at dvX12_init_235 15 rfl
theorem dX12_init_267 : decode cX12_init 267 = .ok (.newarray .int, 2) := all_at dvX12_init_235 16 rfl
theorem dX12_init_269 : decode cX12_init 269 = .ok (.putfield 115, 3) := all_at dvX12_init_235 17 rfl
theorem dX12_init_272 : decode cX12_init 272 = .ok (.aload_n 0, 1) := all_at dvX12_init_235 18 rfl
theorem dX12_init_273 : decode cX12_init 273 = .ok (.bipush 80, 2) := all_at dvX12_init_235 19 rfl
theorem dX12_init_275 : decode cX12_init 275 = .ok (.newarray .int, 2) := all_at dvX12_init_235 20 rfl
theorem dX12_init_277 : decode cX12_init 277 = .ok (.putfield 118, 3) := all_at dvX12_init_235 21 rfl
theorem dX12_init_280 : decode cX12_init 280 = .ok (.aload_n 0, 1) := all_at dvX12_init_235 22 rfl
theorem dX12_init_281 : decode cX12_init 281 = .ok (.bipush 10, 2) := all_at dvX12_init_235 23 rfl
set_option maxRecDepth 100000 in
theorem dvX12_init_283 : ([(283, .newarray .int, 2), (285, .putfield 121, 3), (288, .aload_n 0, 1), (289, .bipush 10, 2), (291, .newarray .int, 2), (293, .putfield 124, 3), (296, .aload_n 0, 1), (297, .bipush 8, 2), (299, .newarray .int, 2), (301, .putfield 127, 3), (304, .aload_n 0, 1), (305, .iconst 3, 1), (306, .newarray .int, 2), (308, .putfield 130, 3), (311, .aload_n 0, 1), (312, .bipush 8, 2), (314, .newarray .int, 2), (316, .putfield 133, 3), (319, .aload_n 0, 1), (320, .bipush 8, 2), (322, .newarray .int, 2), (324, .putfield 136, 3), (327, .aload_n 0, 1), (328, .bipush 40, 2)] : List (Nat × Instr × Nat)).all (fun q => decide (decode cX12_init q.1 = .ok (q.2.1, q.2.2))) = true := by decide +kernel
theorem dX12_init_283 : decode cX12_init 283 = .ok (.newarray .int, 2) := all_at dvX12_init_283 0 rfl
theorem dX12_init_285 : decode cX12_init 285 = .ok (.putfield 121, 3) := all_at dvX12_init_283 1 rfl
theorem dX12_init_288 : decode cX12_init 288 = .ok (.aload_n 0, 1) := all_at dvX12_init_283 2 rfl
theorem dX12_init_289 : decode cX12_init 289 = .ok (.bipush 10, 2) := all_at dvX12_init_283 3 rfl
theorem dX12_init_291 : decode cX12_init 291 = .ok (.newarray .int, 2) := all_at dvX12_init_283 4 rfl
theorem dX12_init_293 : decode cX12_init 293 = .ok (.putfield 124, 3) := all_at dvX12_init_283 5 rfl
theorem dX12_init_296 : decode cX12_init 296 = .ok (.aload_n 0, 1) := all_at dvX12_init_283 6 rfl
theorem dX12_init_297 : decode cX12_init 297 = .ok (.bipush 8, 2) := all_at dvX12_init_283 7 rfl
theorem dX12_init_299 : decode cX12_init 299 = .ok (.newarray .int, 2) := all_at dvX12_init_283 8 rfl
theorem dX12_init_301 : decode cX12_init 301 = .ok (.putfield 127, 3) := all_at dvX12_init_283 9 rfl
theorem dX12_init_304 : decode cX12_init 304 = .ok (.aload_n 0, 1) := all_at dvX12_init_283 10 rfl
theorem dX12_init_305 : decode cX12_init 305 = .ok (.iconst 3, 1) := all_at dvX12_init_283 11 rfl
theorem dX12_init_306 : decode cX12_init 306 = .ok (.newarray .int, 2) := all_at dvX12_init_283 12 rfl
theorem dX12_init_308 : decode cX12_init 308 = .ok (.putfield 130, 3) := all_at dvX12_init_283 13 rfl
theorem dX12_init_311 : decode cX12_init 311 = .ok (.aload_n 0, 1) := all_at dvX12_init_283 14 rfl
theorem dX12_init_312 : decode cX12_init 312 = .ok (.bipush 8, 2) := all_at dvX12_init_283 15 rfl
theorem dX12_init_314 : decode cX12_init 314 = .ok (.newarray .int, 2) := all_at dvX12_init_283 16 rfl
theorem dX12_init_316 : decode cX12_init 316 = .ok (.putfield 133, 3) := all_at dvX12_init_283 17 rfl
theorem dX12_init_319 : decode cX12_init 319 = .ok (.aload_n 0, 1) := all_at dvX12_init_283 18 rfl
theorem dX12_init_320 : decode cX12_init 320 = .ok (.bipush 8, 2) := all_at dvX12_init_283 19 rfl
theorem dX12_init_322 : decode cX12_init 322 = .ok (.newarray .int, 2) := all_at dvX12_init_283 20 rfl
theorem dX12_init_324 : decode cX12_init 324 = .ok (.putfield 136, 3) := all_at dvX12_init_283 21 rfl
theorem dX12_init_327 : decode cX12_init 327 = .ok (.aload_n 0, 1) := all_at dvX12_init_283 22 rfl
theorem dX12_init_328 : decode cX12_init 328 = .ok (.bipush 40, 2) := all_at dvX12_init_283 23 rfl
set_option maxRecDepth 100000 in
theorem dvX12_init_330 : ([(330, .newarray .int, 2), (332, .putfield 139, 3), (335, .aload_n 0, 1), (336, .bipush 40, 2), (338, .newarray .int, 2), (340, .putfield 142, 3), (343, .aload_n 0, 1), (344, .bipush 40, 2), (346, .newarray .long, 2), (348, .putfield 145, 3), (351, .aload_n 0, 1), (352, .bipush 40, 2), (354, .newarray .int, 2), (356, .putfield 148, 3), (359, .aload_n 0, 1), (360, .bipush 40, 2), (362, .newarray .int, 2), (364, .putfield 151, 3), (367, .aload_n 0, 1), (368, .bipush 40, 2), (370, .newarray .int, 2), (372, .putfield 154, 3), (375, .aload_n 0, 1), (376, .bipush 40, 2)] : List (Nat × Instr × Nat)).all (fun q => decide (decode cX12_init q.1 = .ok (q.2.1, q.2.2))) = true := by decide +kernel
theorem dX12_init_330 : decode cX12_init 330 = .ok (.newarray .int, 2) := all_at dvX12_init_330 0 rfl
theorem dX12_init_332 : decode cX12_init 332 = .ok (.putfield 139, 3) := all_at dvX12_init_330 1 rfl
theorem dX12_init_335 : decode cX12_init 335 = .ok (.aload_n 0, 1) := all_at dvX12_init_330 2 rfl
theorem dX12_init_336 : decode cX12_init 336 = .ok (.bipush 40, 2) := all_at dvX12_init_330 3 rfl
theorem dX12_init_338 : decode cX12_init 338 = .ok (.newarray .int, 2) := all_at dvX12_init_330 4 rfl
theorem dX12_init_340 : decode cX12_init 340 = .ok (.putfield 142, 3) := all_at dvX12_init_330 5 rfl
theorem dX12_init_343 : decode cX12_init 343 = .ok (.aload_n 0, 1) := all_at dvX12_init_330 6 rfl
theorem dX12_init_344 : decode cX12_init 344 = .ok (.bipush 40, 2) := all_at dvX12_init_330 7 rfl
theorem dX12_init_346 : decode cX12_init 346 = .ok (.newarray .long, 2) := all_at dvX12_init_330 8 rfl
theorem dX12_init_348 : decode cX12_init 348 = .ok (.putfield 145, 3) := all_at dvX12_init_330 9 rfl
theorem dX12_init_351 : decode cX12_init 351 = .ok (.aload_n 0, 1) := all_at dvX12_init_330 10 rfl
theorem dX12_init_352 : decode cX12_init 352 = .ok (.bipush 40, 2) := all_at dvX12_init_330 11 rfl
theorem dX12_init_354 : decode cX12_init 354 = .ok (.newarray .int, 2) := all_at dvX12_init_330 12 rfl
theorem dX12_init_356 : decode cX12_init 356 = .ok (.putfield 148, 3) := all_at dvX12_init_330 13 rfl
theorem dX12_init_359 : decode cX12_init 359 = .ok (.aload_n 0, 1) := all_at dvX12_init_330 14 rfl
theorem dX12_init_360 : decode cX12_init 360 = .ok (.bipush 40, 2) := all_at dvX12_init_330 15 rfl
theorem dX12_init_362 : decode cX12_init 362 = .ok (.newarray .int, 2) := all_at dvX12_init_330 16 rfl
theorem dX12_init_364 : decode cX12_init 364 = .ok (.putfield 151, 3) := all_at dvX12_init_330 17 rfl
theorem dX12_init_367 : decode cX12_init 367 = .ok (.aload_n 0, 1) := all_at dvX12_init_330 18 rfl
theorem dX12_init_368 : decode cX12_init 368 = .ok (.bipush 40, 2) := all_at dvX12_init_330 19 rfl
theorem dX12_init_370 : decode cX12_init 370 = .ok (.newarray .int, 2) := all_at dvX12_init_330 20 rfl
theorem dX12_init_372 : decode cX12_init 372 = .ok (.putfield 154, 3) := all_at dvX12_init_330 21 rfl
theorem dX12_init_375 : decode cX12_init 375 = .ok (.aload_n 0, 1) := all_at dvX12_init_330 22 rfl
theorem dX12_init_376 : decode cX12_init 376 = .ok (.bipush 40, 2) := all_at dvX12_init_330 23 rfl
theorem dX12_init_378 : decode cX12_init 378 = .ok (.newarray .int, 2) := by decide +kernel
theorem dX12_init_380 : decode cX12_init 380 = .ok (.putfield 157, 3) := by decide +kernel
theorem dX12_init_383 : decode cX12_init 383 = .ok (.return_, 1) := by decide +kernel
set_option maxRecDepth 100000 in
theorem dvX1_init_0 : ([(0, .aload_n 0, 1), (1, .invokespecial 3, 3), (4, .aload_n 0, 1), (5, .bipush 8, 2), (7, .newarray .int, 2), (9, .putfield 11, 3), (12, .aload_n 0, 1), (13, .bipush 8, 2), (15, .newarray .int, 2), (17, .putfield 15, 3), (20, .aload_n 0, 1), (21, .bipush 96, 2), (23, .newarray .int, 2), (25, .putfield 18, 3), (28, .aload_n 0, 1), (29, .bipush 96, 2), (31, .newarray .int, 2), (33, .putfield 21, 3), (36, .aload_n 0, 1), (37, .bipush 96, 2), (39, .newarray .int, 2), (41, .putfield 24, 3), (44, .aload_n 0, 1), (45, .sipush 768, 3)] : List (Nat × Instr × Nat)).all (fun q => decide (decode cX1_init q.1 = .ok (q.2.1, q.2.2))) = true := by decide +kernel
theorem dX1_init_0 : decode cX1_init 0 = .ok (.aload_n 0, 1) := all_at dvX1_init_0 0 rfl
theorem dX1_init_1 : decode cX1_init 1 = .ok (.invokespecial 3, 3) := all_at dvX1_init_0 1 rfl
theorem dX1_init_4 : decode cX1_init 4 = .ok (.aload_n 0, 1) := all_at dvX1_init_0 2 rfl
theorem dX1_init_5 : decode cX1_init 5 = .ok (.bipush 8, 2) := all_at dvX1_init_0 3 rfl
theorem dX1_init_7 : decode cX1_init 7 = .ok (.newarray .int, 2) := all_at dvX1_init_0 4 rfl
theorem dX1_init_9 : decode cX1_init 9 = .ok (.putfield 11, 3) := all_at dvX1_init_0 5 rfl
theorem dX1_init_12 : decode cX1_init 12 = .ok (.aload_n 0, 1) := all_at dvX1_init_0 6 rfl
theorem dX1_init_13 : decode cX1_init 13 = .ok (.bipush 8, 2) := all_at dvX1_init_0 7 rfl
theorem dX1_init_15 : decode cX1_init 15 = .ok (.newarray .int, 2) := all_at dvX1_init_0 8 rfl
theorem dX1_init_17 : decode cX1_init 17 = .ok (.putfield 15, 3) := all_at dvX1_init_0 9 rfl
theorem dX1_init_20 : decode cX1_init 20 = .ok (.aload_n 0, 1) := all_at dvX1_init_0 10 rfl
theorem dX1_init_21 : decode cX1_init 21 = .ok (.bipush 96, 2) := all_at dvX1_init_0 11 rfl
theorem dX1_init_23 : decode cX1_init 23 = .ok (.newarray .int, 2) := all_at dvX1_init_0 12 rfl
theorem dX1_init_25 : decode cX1_init 25 = .ok (.putfield 18, 3) := all_at dvX1_init_0 13 rfl
theorem dX1_init_28 : decode cX1_init 28 = .ok (.aload_n 0, 1) := all_at dvX1_init_0 14 rfl
theorem dX1_init_29 : decode cX1_init 29 = .ok (.bipush 96, 2) := all_at dvX1_init_0 15 rfl
theorem dX1_init_31 : decode cX1_init 31 = .ok (.newarray .int, 2) := all_at dvX1_init_0 16 rfl
theorem dX1_init_33 : decode cX1_init 33 = .ok (.putfield 21, 3) := all_at dvX1_init_0 17 rfl
theorem dX1_init_36 : decode cX1_init 36 = .ok (.aload_n 0, 1) := all_at dvX1_init_0 18 rfl
theorem dX1_init_37 : decode cX1_init 37 = .ok (.bipush 96, 2) := all_at dvX1_init_0 19 rfl
theorem dX1_init_39 : decode cX1_init 39 = .ok (.newarray .int, 2) := all_at dvX1_init_0 20 rfl
theorem dX1_init_41 : decode cX1_init 41 = .ok (.putfield 24, 3) := all_at dvX1_init_0 21 rfl
theorem dX1_init_44 : decode cX1_init 44 = .ok (.aload_n 0, 1) := all_at dvX1_init_0 22 rfl
theorem dX1_init_45 : decode cX1_init 45 = .ok (.sipush 768, 3) := all_at dvX1_init_0 23 rfl
set_option maxRecDepth 100000 in
theorem dvX1_init_48 : ([(48, .newarray .byte, 2), (50, .putfield 27, 3), (53, .aload_n 0, 1), (54, .bipush 8, 2), (56, .newarray .boolean, 2), (58, .putfield 31, 3), (61, .aload_n 0, 1), (62, .iconst 0, 1), (63, .putfield 35, 3), (66, .aload_n 0, 1), (67, .iconst 0, 1), (68, .putfield 39, 3), (71, .return_, 1)] : List (Nat × Instr × Nat)).all (fun q => decide (decode cX1_init q.1 = .ok (q.2.1, q.2.2))) = true := by decide +kernel
theorem dX1_init_48 : decode cX1_init 48 = .ok (.newarray .byte, 2) := all_at dvX1_init_48 0 rfl
theorem dX1_init_50 : decode cX1_init 50 = .ok (.putfield 27, 3) := all_at dvX1_init_48 1 rfl
theorem dX1_init_53 : decode cX1_init 53 = .ok (.aload_n 0, 1) := all_at dvX1_init_48 2 rfl
theorem dX1_init_54 : decode cX1_init 54 = .ok (.bipush 8, 2) := all_at dvX1_init_48 3 rfl
theorem dX1_init_56 : decode cX1_init 56 = .ok (.newarray .boolean, 2) := all_at dvX1_init_48 4 rfl
theorem dX1_init_58 : decode cX1_init 58 = .ok (.putfield 31, 3) := all_at dvX1_init_48 5 rfl
theorem dX1_init_61 : decode cX1_init 61 = .ok (.aload_n 0, 1) := all_at dvX1_init_48 6 rfl
theorem dX1_init_62 : decode cX1_init 62 = .ok (.iconst 0, 1) := all_at dvX1_init_48 7 rfl
theorem dX1_init_63 : decode cX1_init 63 = .ok (.putfield 35, 3) := all_at dvX1_init_48 8 rfl
theorem dX1_init_66 : decode cX1_init 66 = .ok (.aload_n 0, 1) := all_at dvX1_init_48 9 rfl
theorem dX1_init_67 : decode cX1_init 67 = .ok (.iconst 0, 1) := all_at dvX1_init_48 10 rfl
theorem dX1_init_68 : decode cX1_init 68 = .ok (.putfield 39, 3) := all_at dvX1_init_48 11 rfl
theorem dX1_init_71 : decode cX1_init 71 = .ok (.return_, 1) := all_at dvX1_init_48 12 rfl
set_option maxRecDepth 100000 in
theorem dvX2_init_0 : ([(0, .aload_n 0, 1), (1, .invokespecial 3, 3), (4, .aload_n 0, 1), (5, .new 9, 3), (8, .dup, 1), (9, .invokespecial 11, 3), (12, .putfield 12, 3), (15, .aload_n 0, 1), (16, .bipush 12, 2), (18, .newarray .int, 2), (20, .putfield 20, 3), (23, .aload_n 0, 1), (24, .iconst 0, 1), (25, .putfield 24, 3), (28, .aload_n 0, 1), (29, .iconst 0, 1), (30, .putfield 28, 3), (33, .aload_n 0, 1), (34, .iconst 0, 1), (35, .putfield 31, 3), (38, .aload_n 0, 1), (39, .iconst 0, 1), (40, .putfield 34, 3), (43, .aload_n 0, 1)] : List (Nat × Instr × Nat)).all (fun q => decide (decode cX2_init q.1 = .ok (q.2.1, q.2.2))) = true := by decide +kernel
theorem dX2_init_0 : decode cX2_init 0 = .ok (.aload_n 0, 1) := all_at dvX2_init_0 0 rfl
theorem dX2_init_1 : decode cX2_init 1 = .ok (.invokespecial 3, 3) := all_at dvX2_init_0 1 rfl
theorem dX2_init_4 : decode cX2_init 4 = .ok (.aload_n 0, 1) := all_at dvX2_init_0 2 rfl
theorem dX2_init_5 : decode cX2_init 5 = .ok (.new 9, 3) := all_at dvX2_init_0 3 rfl
theorem dX2_init_8 : decode cX2_init 8 = .ok (.dup, 1) := all_at dvX2_init_0 4 rfl
theorem dX2_init_9 : decode cX2_init 9 = .ok (.invokespecial 11, 3) := all_at dvX2_init_0 5 rfl
theorem dX2_init_12 : decode cX2_init 12 = .ok (.putfield 12, 3) := all_at dvX2_init_0 6 rfl
theorem dX2_init_15 : decode cX2_init 15 = .ok (.aload_n 0, 1) := all_at dvX2_init_0 7 rfl
theorem dX2_init_16 : decode cX2_init 16 = .ok (.bipush 12, 2) := all_at dvX2_init_0 8 rfl
theorem dX2_init_18 : decode cX2_init 18 = .ok (.newarray .int, 2) := all_at dvX2_init_0 9 rfl
theorem dX2_init_20 : decode cX2_init 20 = .ok (.putfield 20, 3) := all_at dvX2_init_0 10 rfl
theorem dX2_init_23 : decode cX2_init 23 = .ok (.aload_n 0, 1) := all_at dvX2_init_0 11 rfl
theorem dX2_init_24 : decode cX2_init 24 = .ok (.iconst 0, 1) := all_at dvX2_init_0 12 rfl
theorem dX2_init_25 : decode cX2_init 25 = .ok (.putfield 24, 3) := all_at dvX2_init_0 13 rfl
theorem dX2_init_28 : decode cX2_init 28 = .ok (.aload_n 0, 1) := all_at dvX2_init_0 14 rfl
theorem dX2_init_29 : decode cX2_init 29 = .ok (.iconst 0, 1) := all_at dvX2_init_0 15 rfl
theorem dX2_init_30 : decode cX2_init 30 = .ok (.putfield 28, 3) := all_at dvX2_init_0 16 rfl
theorem dX2_init_33 : decode cX2_init 33 = .ok (.aload_n 0, 1) := all_at dvX2_init_0 17 rfl
theorem dX2_init_34 : decode cX2_init 34 = .ok (.iconst 0, 1) := all_at dvX2_init_0 18 rfl
theorem dX2_init_35 : decode cX2_init 35 = .ok (.putfield 31, 3) := all_at dvX2_init_0 19 rfl
theorem dX2_init_38 : decode cX2_init 38 = .ok (.aload_n 0, 1) := all_at dvX2_init_0 20 rfl
theorem dX2_init_39 : decode cX2_init 39 = .ok (.iconst 0, 1) := all_at dvX2_init_0 21 rfl
theorem dX2_init_40 : decode cX2_init 40 = .ok (.putfield 34, 3) := all_at dvX2_init_0 22 rfl
theorem dX2_init_43 : decode cX2_init 43 = .ok (.aload_n 0, 1) := all_at dvX2_init_0 23 rfl
set_option maxRecDepth 100000 in
theorem dvX2_init_44 : ([(44, .iconst 0, 1), (45, .putfield 37, 3), (48, .aload_n 0, 1), (49, .aload_n 1, 1), (50, .putfield 40, 3), (53, .return_, 1)] : List (Nat × Instr × Nat)).all (fun q => decide (decode cX2_init q.1 = .ok (q.2.1, q.2.2))) = true := by decide +kernel
theorem dX2_init_44 : decode cX2_init 44 = .ok (.iconst 0, 1) := all_at dvX2_init_44 0 rfl
theorem dX2_init_45 : decode cX2_init 45 = .ok (.putfield 37, 3) := all_at dvX2_init_44 1 rfl
theorem dX2_init_48 : decode cX2_init 48 = .ok (.aload_n 0, 1) := all_at dvX2_init_44 2 rfl
theorem dX2_init_49 : decode cX2_init 49 = .ok (.aload_n 1, 1) := all_at dvX2_init_44 3 rfl
theorem dX2_init_50 : decode cX2_init 50 = .ok (.putfield 40, 3) := all_at dvX2_init_44 4 rfl
theorem dX2_init_53 : decode cX2_init 53 = .ok (.return_, 1) := all_at dvX2_init_44 5 rfl
set_option maxRecDepth 100000 in
theorem dvX3_init_0 : ([(0, .aload_n 0, 1), (1, .invokespecial 1, 3), (4, .aload_n 0, 1), (5, .new 7, 3), (8, .dup, 1), (9, .invokespecial 9, 3), (12, .putfield 10, 3), (15, .aload_n 0, 1), (16, .iconst 0, 1), (17, .putfield 16, 3), (20, .aload_n 0, 1), (21, .iconst 0, 1), (22, .putfield 20, 3), (25, .aload_n 0, 1), (26, .aload_n 1, 1), (27, .putfield 23, 3), (30, .aload_n 0, 1), (31, .aload_n 2, 1), (32, .putfield 27, 3), (35, .return_, 1)] : List (Nat × Instr × Nat)).all (fun q => decide (decode cX3_init q.1 = .ok (q.2.1, q.2.2))) = true := by decide +kernel
theorem dX3_init_0 : decode cX3_init 0 = .ok (.aload_n 0, 1) := all_at dvX3_init_0 0 rfl
theorem dX3_init_1 : decode cX3_init 1 = .ok (.invokespecial 1, 3) := all_at dvX3_init_0 1 rfl
theorem dX3_init_4 : decode cX3_init 4 = .ok (.aload_n 0, 1) := all_at dvX3_init_0 2 rfl
theorem dX3_init_5 : decode cX3_init 5 = .ok (.new 7, 3) := all_at dvX3_init_0 3 rfl
theorem dX3_init_8 : decode cX3_init 8 = .ok (.dup, 1) := all_at dvX3_init_0 4 rfl
theorem dX3_init_9 : decode cX3_init 9 = .ok (.invokespecial 9, 3) := all_at dvX3_init_0 5 rfl
theorem dX3_init_12 : decode cX3_init 12 = .ok (.putfield 10, 3) := all_at dvX3_init_0 6 rfl
theorem dX3_init_15 : decode cX3_init 15 = .ok (.aload_n 0, 1) := all_at dvX3_init_0 7 rfl
theorem dX3_init_16 : decode cX3_init 16 = .ok (.iconst 0, 1) := all_at dvX3_init_0 8 rfl
theorem dX3_init_17 : decode cX3_init 17 = .ok (.putfield 16, 3) := all_at dvX3_init_0 9 rfl
theorem dX3_init_20 : decode cX3_init 20 = .ok (.aload_n 0, 1) := all_at dvX3_init_0 10 rfl
theorem dX3_init_21 : decode cX3_init 21 = .ok (.iconst 0, 1) := all_at dvX3_init_0 11 rfl
theorem dX3_init_22 : decode cX3_init 22 = .ok (.putfield 20, 3) := all_at dvX3_init_0 12 rfl
theorem dX3_init_25 : decode cX3_init 25 = .ok (.aload_n 0, 1) := all_at dvX3_init_0 13 rfl
theorem dX3_init_26 : decode cX3_init 26 = .ok (.aload_n 1, 1) := all_at dvX3_init_0 14 rfl
theorem dX3_init_27 : decode cX3_init 27 = .ok (.putfield 23, 3) := all_at dvX3_init_0 15 rfl
theorem dX3_init_30 : decode cX3_init 30 = .ok (.aload_n 0, 1) := all_at dvX3_init_0 16 rfl
theorem dX3_init_31 : decode cX3_init 31 = .ok (.aload_n 2, 1) := all_at dvX3_init_0 17 rfl
theorem dX3_init_32 : decode cX3_init 32 = .ok (.putfield 27, 3) := all_at dvX3_init_0 18 rfl
theorem dX3_init_35 : decode cX3_init 35 = .ok (.return_, 1) := all_at dvX3_init_0 19 rfl
set_option maxRecDepth 100000 in
theorem dvX4_init_0 : ([(0, .aload_n 0, 1), (1, .invokespecial 1, 3), (4, .aload_n 0, 1), (5, .bipush 8, 2), (7, .newarray .int, 2), (9, .putfield 9, 3), (12, .aload_n 0, 1), (13, .bipush 8, 2), (15, .newarray .int, 2), (17, .putfield 13, 3), (20, .aload_n 0, 1), (21, .iconst 0, 1), (22, .putfield 16, 3), (25, .return_, 1)] : List (Nat × Instr × Nat)).all (fun q => decide (decode cX4_init q.1 = .ok (q.2.1, q.2.2))) = true := by decide +kernel
theorem dX4_init_0 : decode cX4_init 0 = .ok (.aload_n 0, 1) := all_at dvX4_init_0 0 rfl
theorem dX4_init_1 : decode cX4_init 1 = .ok (.invokespecial 1, 3) := all_at dvX4_init_0 1 rfl
theorem dX4_init_4 : decode cX4_init 4 = .ok (.aload_n 0, 1) := all_at dvX4_init_0 2 rfl
theorem dX4_init_5 : decode cX4_init 5 = .ok (.bipush 8, 2) := all_at dvX4_init_0 3 rfl
theorem dX4_init_7 : decode cX4_init 7 = .ok (.newarray .int, 2) := all_at dvX4_init_0 4 rfl
theorem dX4_init_9 : decode cX4_init 9 = .ok (.putfield 9, 3) := all_at dvX4_init_0 5 rfl
theorem dX4_init_12 : decode cX4_init 12 = .ok (.aload_n 0, 1) := all_at dvX4_init_0 6 rfl
theorem dX4_init_13 : decode cX4_init 13 = .ok (.bipush 8, 2) := all_at dvX4_init_0 7 rfl
theorem dX4_init_15 : decode cX4_init 15 = .ok (.newarray .int, 2) := all_at dvX4_init_0 8 rfl
theorem dX4_init_17 : decode cX4_init 17 = .ok (.putfield 13, 3) := all_at dvX4_init_0 9 rfl
theorem dX4_init_20 : decode cX4_init 20 = .ok (.aload_n 0, 1) := all_at dvX4_init_0 10 rfl
theorem dX4_init_21 : decode cX4_init 21 = .ok (.iconst 0, 1) := all_at dvX4_init_0 11 rfl
theorem dX4_init_22 : decode cX4_init 22 = .ok (.putfield 16, 3) := all_at dvX4_init_0 12 rfl
theorem dX4_init_25 : decode cX4_init 25 = .ok (.return_, 1) := all_at dvX4_init_0 13 rfl
set_option maxRecDepth 100000 in
theorem dvX5_init_0 : ([(0, .aload_n 0, 1), (1, .invokespecial 1, 3), (4, .aload_n 0, 1), (5, .bipush 8, 2), (7, .newarray .int, 2), (9, .putfield 9, 3), (12, .aload_n 0, 1), (13, .bipush 8, 2), (15, .newarray .int, 2), (17, .putfield 13, 3), (20, .aload_n 0, 1), (21, .iconst 3, 1), (22, .newarray .int, 2), (24, .putfield 16, 3), (27, .aload_n 0, 1), (28, .bipush 8, 2), (30, .newarray .int, 2), (32, .putfield 19, 3), (35, .aload_n 0, 1), (36, .iconst 0, 1), (37, .putfield 22, 3), (40, .aload_n 0, 1), (41, .iconst 0, 1), (42, .putfield 26, 3)] : List (Nat × Instr × Nat)).all (fun q => decide (decode cX5_init q.1 = .ok (q.2.1, q.2.2))) = true := by decide +kernel
theorem dX5_init_0 : decode cX5_init 0 = .ok (.aload_n 0, 1) := all_at dvX5_init_0 0 rfl
theorem dX5_init_1 : decode cX5_init 1 = .ok (.invokespecial 1, 3) := all_at dvX5_init_0 1 rfl
theorem dX5_init_4 : decode cX5_init 4 = .ok (.aload_n 0, 1) := all_at dvX5_init_0 2 rfl
theorem dX5_init_5 : decode cX5_init 5 = .ok (.bipush 8, 2) := all_at dvX5_init_0 3 rfl
theorem dX5_init_7 : decode cX5_init 7 = .ok (.newarray .int, 2) := all_at dvX5_init_0 4 rfl
theorem dX5_init_9 : decode cX5_init 9 = .ok (.putfield 9, 3) := all_at dvX5_init_0 5 rfl
theorem dX5_init_12 : decode cX5_init 12 = .ok (.aload_n 0, 1) := all_at dvX5_init_0 6 rfl
theorem dX5_init_13 : decode cX5_init 13 = .ok (.bipush 8, 2) := all_at dvX5_init_0 7 rfl
theorem dX5_init_15 : decode cX5_init 15 = .ok (.newarray .int, 2) := all_at dvX5_init_0 8 rfl
theorem dX5_init_17 : decode cX5_init 17 = .ok (.putfield 13, 3) := all_at dvX5_init_0 9 rfl
theorem dX5_init_20 : decode cX5_init 20 = .ok (.aload_n 0, 1) := all_at dvX5_init_0 10 rfl
theorem dX5_init_21 : decode cX5_init 21 = .ok (.iconst 3, 1) := all_at dvX5_init_0 11 rfl
theorem dX5_init_22 : decode cX5_init 22 = .ok (.newarray .int, 2) := all_at dvX5_init_0 12 rfl
theorem dX5_init_24 : decode cX5_init 24 = .ok (.putfield 16, 3) := all_at dvX5_init_0 13 rfl
theorem dX5_init_27 : decode cX5_init 27 = .ok (.aload_n 0, 1) := all_at dvX5_init_0 14 rfl
theorem dX5_init_28 : decode cX5_init 28 = .ok (.bipush 8, 2) := all_at dvX5_init_0 15 rfl
theorem dX5_init_30 : decode cX5_init 30 = .ok (.newarray .int, 2) := all_at dvX5_init_0 16 rfl
theorem dX5_init_32 : decode cX5_init 32 = .ok (.putfield 19, 3) := all_at dvX5_init_0 17 rfl
theorem dX5_init_35 : decode cX5_init 35 = .ok (.aload_n 0, 1) := all_at dvX5_init_0 18 rfl
theorem dX5_init_36 : decode cX5_init 36 = .ok (.iconst 0, 1) := all_at dvX5_init_0 19 rfl
theorem dX5_init_37 : decode cX5_init 37 = .ok (.putfield 22, 3) := all_at dvX5_init_0 20 rfl
theorem dX5_init_40 : decode cX5_init 40 = .ok (.aload_n 0, 1) := all_at dvX5_init_0 21 rfl
theorem dX5_init_41 : decode cX5_init 41 = .ok (.iconst 0, 1) := all_at dvX5_init_0 22 rfl
theorem dX5_init_42 : decode cX5_init 42 = .ok (.putfield 26, 3) := all_at dvX5_init_0 23 rfl
set_option maxRecDepth 100000 in
theorem dvX5_init_45 : ([(45, .aload_n 0, 1), (46, .iconst 0, 1), (47, .putfield 29, 3), (50, .return_, 1)] : List (Nat × Instr × Nat)).all (fun q => decide (decode cX5_init q.1 = .ok (q.2.1, q.2.2))) = true := by decide +kernel
theorem dX5_init_45 : decode cX5_init 45 = .ok (.aload_n 0, 1) := all_at dvX5_init_45 0 rfl
theorem dX5_init_46 : decode cX5_init 46 = .ok (.iconst 0, 1) := all_at dvX5_init_45 1 rfl
theorem dX5_init_47 : decode cX5_init 47 = .ok (.putfield 29, 3) := all_at dvX5_init_45 2 rfl
theorem dX5_init_50 : decode cX5_init 50 = .ok (.return_, 1) := all_at dvX5_init_45 3 rfl
set_option maxRecDepth 100000 in
theorem dvX6_init_0 : ([(0, .aload_n 0, 1), (1, .invokespecial 3, 3), (4, .aload_n 0, 1), (5, .bipush 40, 2), (7, .newarray .int, 2), (9, .putfield 11, 3), (12, .aload_n 0, 1), (13, .bipush 40, 2), (15, .newarray .int, 2), (17, .putfield 15, 3), (20, .aload_n 0, 1), (21, .bipush 40, 2), (23, .newarray .int, 2), (25, .putfield 18, 3), (28, .aload_n 0, 1), (29, .bipush 40, 2), (31, .newarray .int, 2), (33, .putfield 21, 3), (36, .aload_n 0, 1), (37, .bipush 40, 2), (39, .newarray .int, 2), (41, .putfield 24, 3), (44, .aload_n 0, 1), (45, .bipush 40, 2)] : List (Nat × Instr × Nat)).all (fun q => decide (decode cX6_init q.1 = .ok (q.2.1, q.2.2))) = true := by decide +kernel
theorem dX6_init_0 : decode cX6_init 0 = .ok (.aload_n 0, 1) := all_at dvX6_init_0 0 rfl
theorem dX6_init_1 : decode cX6_init 1 = .ok (.invokespecial 3, 3) := all_at dvX6_init_0 1 rfl
theorem dX6_init_4 : decode cX6_init 4 = .ok (.aload_n 0, 1) := all_at dvX6_init_0 2 rfl
theorem dX6_init_5 : decode cX6_init 5 = .ok (.bipush 40, 2) := all_at dvX6_init_0 3 rfl
theorem dX6_init_7 : decode cX6_init 7 = .ok (.newarray .int, 2) := all_at dvX6_init_0 4 rfl
theorem dX6_init_9 : decode cX6_init 9 = .ok (.putfield 11, 3) := all_at dvX6_init_0 5 rfl
theorem dX6_init_12 : decode cX6_init 12 = .ok (.aload_n 0, 1) := all_at dvX6_init_0 6 rfl
theorem dX6_init_13 : decode cX6_init 13 = .ok (.bipush 40, 2) := all_at dvX6_init_0 7 rfl
theorem dX6_init_15 : decode cX6_init 15 = .ok (.newarray .int, 2) := all_at dvX6_init_0 8 rfl
theorem dX6_init_17 : decode cX6_init 17 = .ok (.putfield 15, 3) := all_at dvX6_init_0 9 rfl
theorem dX6_init_20 : decode cX6_init 20 = .ok (.aload_n 0, 1) := all_at dvX6_init_0 10 rfl
theorem dX6_init_21 : decode cX6_init 21 = .ok (.bipush 40, 2) := all_at dvX6_init_0 11 rfl
theorem dX6_init_23 : decode cX6_init 23 = .ok (.newarray .int, 2) := all_at dvX6_init_0 12 rfl
theorem dX6_init_25 : decode cX6_init 25 = .ok (.putfield 18, 3) := all_at dvX6_init_0 13 rfl
theorem dX6_init_28 : decode cX6_init 28 = .ok (.aload_n 0, 1) := all_at dvX6_init_0 14 rfl
theorem dX6_init_29 : decode cX6_init 29 = .ok (.bipush 40, 2) := all_at dvX6_init_0 15 rfl
theorem dX6_init_31 : decode cX6_init 31 = .ok (.newarray .int, 2) := all_at dvX6_init_0 16 rfl
theorem dX6_init_33 : decode cX6_init 33 = .ok (.putfield 21, 3) := all_at dvX6_init_0 17 rfl
theorem dX6_init_36 : decode cX6_init 36 = .ok (.aload_n 0, 1) := all_at dvX6_init_0 18 rfl
theorem dX6_init_37 : decode cX6_init 37 = .ok (.bipush 40, 2) := all_at dvX6_init_0 19 rfl
theorem dX6_init_39 : decode cX6_init 39 = .ok (.newarray .int, 2) := all_at dvX6_init_0 20 rfl
theorem dX6_init_41 : decode cX6_init 41 = .ok (.putfield 24, 3) := all_at dvX6_init_0 21 rfl
theorem dX6_init_44 : decode cX6_init 44 = .ok (.aload_n 0, 1) := all_at dvX6_init_0 22 rfl
theorem dX6_init_45 : decode cX6_init 45 = .ok (.bipush 40, 2) := all_at dvX6_init_0 23 rfl
set_option maxRecDepth 100000 in
theorem dvX6_init_47 : ([(47, .newarray .int, 2), (49, .putfield 27, 3), (52, .aload_n 0, 1), (53, .bipush 40, 2), (55, .newarray .boolean, 2), (57, .putfield 30, 3), (60, .aload_n 0, 1), (61, .iconst 0, 1), (62, .putfield 34, 3), (65, .return_, 1)] : List (Nat × Instr × Nat)).all (fun q => decide (decode cX6_init q.1 = .ok (q.2.1, q.2.2))) = true := by decide +kernel
theorem dX6_init_47 : decode cX6_init 47 = .ok (.newarray .int, 2) := all_at dvX6_init_47 0 rfl
theorem dX6_init_49 : decode cX6_init 49 = .ok (.putfield 27, 3) := all_at dvX6_init_47 1 rfl
theorem dX6_init_52 : decode cX6_init 52 = .ok (.aload_n 0, 1) := all_at dvX6_init_47 2 rfl
theorem dX6_init_53 : decode cX6_init 53 = .ok (.bipush 40, 2) := all_at dvX6_init_47 3 rfl
theorem dX6_init_55 : decode cX6_init 55 = .ok (.newarray .boolean, 2) := all_at dvX6_init_47 4 rfl
theorem dX6_init_57 : decode cX6_init 57 = .ok (.putfield 30, 3) := all_at dvX6_init_47 5 rfl
theorem dX6_init_60 : decode cX6_init 60 = .ok (.aload_n 0, 1) := all_at dvX6_init_47 6 rfl
theorem dX6_init_61 : decode cX6_init 61 = .ok (.iconst 0, 1) := all_at dvX6_init_47 7 rfl
theorem dX6_init_62 : decode cX6_init 62 = .ok (.putfield 34, 3) := all_at dvX6_init_47 8 rfl
theorem dX6_init_65 : decode cX6_init 65 = .ok (.return_, 1) := all_at dvX6_init_47 9 rfl
set_option maxRecDepth 100000 in
theorem dvX7_init_0 : ([(0, .aload_n 0, 1), (1, .invokespecial 1, 3), (4, .aload_n 0, 1), (5, .iconst 3, 1), (6, .newarray .long, 2), (8, .putfield 7, 3), (11, .aload_n 0, 1), (12, .iconst 3, 1), (13, .newarray .long, 2), (15, .putfield 13, 3), (18, .aload_n 0, 1), (19, .iconst 3, 1), (20, .newarray .int, 2), (22, .putfield 16, 3), (25, .return_, 1)] : List (Nat × Instr × Nat)).all (fun q => decide (decode cX7_init q.1 = .ok (q.2.1, q.2.2))) = true := by decide +kernel
theorem dX7_init_0 : decode cX7_init 0 = .ok (.aload_n 0, 1) := all_at dvX7_init_0 0 rfl
theorem dX7_init_1 : decode cX7_init 1 = .ok (.invokespecial 1, 3) := all_at dvX7_init_0 1 rfl
theorem dX7_init_4 : decode cX7_init 4 = .ok (.aload_n 0, 1) := all_at dvX7_init_0 2 rfl
theorem dX7_init_5 : decode cX7_init 5 = .ok (.iconst 3, 1) := all_at dvX7_init_0 3 rfl
theorem dX7_init_6 : decode cX7_init 6 = .ok (.newarray .long, 2) := all_at dvX7_init_0 4 rfl
theorem dX7_init_8 : decode cX7_init 8 = .ok (.putfield 7, 3) := all_at dvX7_init_0 5 rfl
theorem dX7_init_11 : decode cX7_init 11 = .ok (.aload_n 0, 1) := all_at dvX7_init_0 6 rfl
theorem dX7_init_12 : decode cX7_init 12 = .ok (.iconst 3, 1) := all_at dvX7_init_0 7 rfl
theorem dX7_init_13 : decode cX7_init 13 = .ok (.newarray .long, 2) := all_at dvX7_init_0 8 rfl
theorem dX7_init_15 : decode cX7_init 15 = .ok (.putfield 13, 3) := all_at dvX7_init_0 9 rfl
theorem dX7_init_18 : decode cX7_init 18 = .ok (.aload_n 0, 1) := all_at dvX7_init_0 10 rfl
theorem dX7_init_19 : decode cX7_init 19 = .ok (.iconst 3, 1) := all_at dvX7_init_0 11 rfl
theorem dX7_init_20 : decode cX7_init 20 = .ok (.newarray .int, 2) := all_at dvX7_init_0 12 rfl
theorem dX7_init_22 : decode cX7_init 22 = .ok (.putfield 16, 3) := all_at dvX7_init_0 13 rfl
theorem dX7_init_25 : decode cX7_init 25 = .ok (.return_, 1) := all_at dvX7_init_0 14 rfl
set_option maxRecDepth 100000 in
theorem dvX8_init_0 : ([(0, .aload_n 0, 1), (1, .invokespecial 3, 3), (4, .aload_n 0, 1), (5, .sipush 200, 3), (8, .newarray .byte, 2), (10, .putfield 11, 3), (13, .aload_n 0, 1), (14, .iconst 0, 1), (15, .putfield 15, 3), (18, .aload_n 0, 1), (19, .iconst (-1), 1), (20, .putfield 19, 3), (23, .aload_n 0, 1), (24, .iconst 0, 1), (25, .putfield 22, 3), (28, .aload_n 0, 1), (29, .iconst 0, 1), (30, .putfield 25, 3), (33, .aload_n 0, 1), (34, .aload_n 1, 1), (35, .putfield 28, 3), (38, .return_, 1)] : List (Nat × Instr × Nat)).all (fun q => decide (decode cX8_init q.1 = .ok (q.2.1, q.2.2))) = true := by decide +kernel
theorem dX8_init_0 : decode cX8_init 0 = .ok (.aload_n 0, 1) := all_at dvX8_init_0 0 rfl
theorem dX8_init_1 : decode cX8_init 1 = .ok (.invokespecial 3, 3) := all_at dvX8_init_0 1 rfl
theorem dX8_init_4 : decode cX8_init 4 = .ok (.aload_n 0, 1) := all_at dvX8_init_0 2 rfl
theorem dX8_init_5 : decode cX8_init 5 = .ok (.sipush 200, 3) := all_at dvX8_init_0 3 rfl
theorem dX8_init_8 : decode cX8_init 8 = .ok (.newarray .byte, 2) := all_at dvX8_init_0 4 rfl
theorem dX8_init_10 : decode cX8_init 10 = .ok (.putfield 11, 3) := all_at dvX8_init_0 5 rfl
theorem dX8_init_13 : decode cX8_init 13 = .ok (.aload_n 0, 1) := all_at dvX8_init_0 6 rfl
theorem dX8_init_14 : decode cX8_init 14 = .ok (.iconst 0, 1) := all_at dvX8_init_0 7 rfl
theorem dX8_init_15 : decode cX8_init 15 = .ok (.putfield 15, 3) := all_at dvX8_init_0 8 rfl
theorem dX8_init_18 : decode cX8_init 18 = .ok (.aload_n 0, 1) := all_at dvX8_init_0 9 rfl
theorem dX8_init_19 : decode cX8_init 19 = .ok (.iconst (-1), 1) := all_at dvX8_init_0 10 rfl
theorem dX8_init_20 : decode cX8_init 20 = .ok (.putfield 19, 3) := all_at dvX8_init_0 11 rfl
theorem dX8_init_23 : decode cX8_init 23 = .ok (.aload_n 0, 1) := all_at dvX8_init_0 12 rfl
theorem dX8_init_24 : decode cX8_init 24 = .ok (.iconst 0, 1) := all_at dvX8_init_0 13 rfl
theorem dX8_init_25 : decode cX8_init 25 = .ok (.putfield 22, 3) := all_at dvX8_init_0 14 rfl
theorem dX8_init_28 : decode cX8_init 28 = .ok (.aload_n 0, 1) := all_at dvX8_init_0 15 rfl
theorem dX8_init_29 : decode cX8_init 29 = .ok (.iconst 0, 1) := all_at dvX8_init_0 16 rfl
theorem dX8_init_30 : decode cX8_init 30 = .ok (.putfield 25, 3) := all_at dvX8_init_0 17 rfl
theorem dX8_init_33 : decode cX8_init 33 = .ok (.aload_n 0, 1) := all_at dvX8_init_0 18 rfl
theorem dX8_init_34 : decode cX8_init 34 = .ok (.aload_n 1, 1) := all_at dvX8_init_0 19 rfl
theorem dX8_init_35 : decode cX8_init 35 = .ok (.putfield 28, 3) := all_at dvX8_init_0 20 rfl
theorem dX8_init_38 : decode cX8_init 38 = .ok (.return_, 1) := all_at dvX8_init_0 21 rfl
set_option maxRecDepth 100000 in
theorem dvX9_init_0 : ([(0, .aload_n 0, 1), (1, .invokespecial 3, 3), (4, .aload_n 0, 1), (5, .bipush 30, 2), (7, .newarray .int, 2), (9, .putfield 11, 3), (12, .aload_n 0, 1), (13, .bipush 30, 2), (15, .newarray .int, 2), (17, .putfield 15, 3), (20, .aload_n 0, 1), (21, .bipush 30, 2), (23, .newarray .int, 2), (25, .putfield 18, 3), (28, .aload_n 0, 1), (29, .iconst 0, 1), (30, .putfield 21, 3), (33, .return_, 1)] : List (Nat × Instr × Nat)).all (fun q => decide (decode cX9_init q.1 = .ok (q.2.1, q.2.2))) = true := by decide +kernel
theorem dX9_init_0 : decode cX9_init 0 = .ok (.aload_n 0, 1) := all_at dvX9_init_0 0 rfl
theorem dX9_init_1 : decode cX9_init 1 = .ok (.invokespecial 3, 3) := all_at dvX9_init_0 1 rfl
theorem dX9_init_4 : decode cX9_init 4 = .ok (.aload_n 0, 1) := all_at dvX9_init_0 2 rfl
theorem dX9_init_5 : decode cX9_init 5 = .ok (.bipush 30, 2) := all_at dvX9_init_0 3 rfl
theorem dX9_init_7 : decode cX9_init 7 = .ok (.newarray .int, 2) := all_at dvX9_init_0 4 rfl
theorem dX9_init_9 : decode cX9_init 9 = .ok (.putfield 11, 3) := all_at dvX9_init_0 5 rfl
theorem dX9_init_12 : decode cX9_init 12 = .ok (.aload_n 0, 1) := all_at dvX9_init_0 6 rfl
theorem dX9_init_13 : decode cX9_init 13 = .ok (.bipush 30, 2) := all_at dvX9_init_0 7 rfl
theorem dX9_init_15 : decode cX9_init 15 = .ok (.newarray .int, 2) := all_at dvX9_init_0 8 rfl
theorem dX9_init_17 : decode cX9_init 17 = .ok (.putfield 15, 3) := all_at dvX9_init_0 9 rfl
theorem dX9_init_20 : decode cX9_init 20 = .ok (.aload_n 0, 1) := all_at dvX9_init_0 10 rfl
theorem dX9_init_21 : decode cX9_init 21 = .ok (.bipush 30, 2) := all_at dvX9_init_0 11 rfl
theorem dX9_init_23 : decode cX9_init 23 = .ok (.newarray .int, 2) := all_at dvX9_init_0 12 rfl
theorem dX9_init_25 : decode cX9_init 25 = .ok (.putfield 18, 3) := all_at dvX9_init_0 13 rfl
theorem dX9_init_28 : decode cX9_init 28 = .ok (.aload_n 0, 1) := all_at dvX9_init_0 14 rfl
theorem dX9_init_29 : decode cX9_init 29 = .ok (.iconst 0, 1) := all_at dvX9_init_0 15 rfl
theorem dX9_init_30 : decode cX9_init 30 = .ok (.putfield 21, 3) := all_at dvX9_init_0 16 rfl
theorem dX9_init_33 : decode cX9_init 33 = .ok (.return_, 1) := all_at dvX9_init_0 17 rfl
set_option maxRecDepth 100000 in
theorem new_X0 : ∀ j, j < 8 → defaultValue (tyX0 j) = vp_V [.null, .null, .null, .null, .null, .null, .null, .int 0] j := by
  intro j hj
  have h : ∀ i : Fin 8, defaultValue (tyX0 i.val) = vp_V [.null, .null, .null, .null, .null, .null, .null, .int 0] i.val := by decide +kernel
  exact h ⟨j, hj⟩
set_option maxRecDepth 100000 in
theorem new_X1 : ∀ j, j < 9 → defaultValue (tyX1 j) = vp_V [.null, .null, .null, .null, .null, .null, .null, .int 0, .int 0] j := by
  intro j hj
  have h : ∀ i : Fin 9, defaultValue (tyX1 i.val) = vp_V [.null, .null, .null, .null, .null, .null, .null, .int 0, .int 0] i.val := by decide +kernel
  exact h ⟨j, hj⟩
set_option maxRecDepth 100000 in
theorem new_X2 : ∀ j, j < 8 → defaultValue (tyX2 j) = vp_V [.null, .null, .null, .int 0, .int 0, .int 0, .int 0, .int 0] j := by
  intro j hj
  have h : ∀ i : Fin 8, defaultValue (tyX2 i.val) = vp_V [.null, .null, .null, .int 0, .int 0, .int 0, .int 0, .int 0] i.val := by decide +kernel
  exact h ⟨j, hj⟩
set_option maxRecDepth 100000 in
theorem new_X3 : ∀ j, j < 5 → defaultValue (tyX3 j) = vp_V [.null, .null, .null, .int 0, .int 0] j := by
  intro j hj
  have h : ∀ i : Fin 5, defaultValue (tyX3 i.val) = vp_V [.null, .null, .null, .int 0, .int 0] i.val := by decide +kernel
  exact h ⟨j, hj⟩
set_option maxRecDepth 100000 in
theorem new_X4 : ∀ j, j < 3 → defaultValue (tyX4 j) = vp_V [.null, .null, .int 0] j := by
  intro j hj
  have h : ∀ i : Fin 3, defaultValue (tyX4 i.val) = vp_V [.null, .null, .int 0] i.val := by decide +kernel
  exact h ⟨j, hj⟩
set_option maxRecDepth 100000 in
theorem new_X5 : ∀ j, j < 7 → defaultValue (tyX5 j) = vp_V [.null, .null, .null, .null, .int 0, .int 0, .int 0] j := by
  intro j hj
  have h : ∀ i : Fin 7, defaultValue (tyX5 i.val) = vp_V [.null, .null, .null, .null, .int 0, .int 0, .int 0] i.val := by decide +kernel
  exact h ⟨j, hj⟩
set_option maxRecDepth 100000 in
theorem new_X6 : ∀ j, j < 8 → defaultValue (tyX6 j) = vp_V [.null, .null, .null, .null, .null, .null, .null, .int 0] j := by
  intro j hj
  have h : ∀ i : Fin 8, defaultValue (tyX6 i.val) = vp_V [.null, .null, .null, .null, .null, .null, .null, .int 0] i.val := by decide +kernel
  exact h ⟨j, hj⟩
set_option maxRecDepth 100000 in
theorem new_X7 : ∀ j, j < 3 → defaultValue (tyX7 j) = vp_V [.null, .null, .null] j := by
  intro j hj
  have h : ∀ i : Fin 3, defaultValue (tyX7 i.val) = vp_V [.null, .null, .null] i.val := by decide +kernel
  exact h ⟨j, hj⟩
set_option maxRecDepth 100000 in
theorem new_X8 : ∀ j, j < 6 → defaultValue (tyX8 j) = vp_V [.null, .null, .int 0, .int 0, .int 0, .int 0] j := by
  intro j hj
  have h : ∀ i : Fin 6, defaultValue (tyX8 i.val) = vp_V [.null, .null, .int 0, .int 0, .int 0, .int 0] i.val := by decide +kernel
  exact h ⟨j, hj⟩
set_option maxRecDepth 100000 in
theorem new_X9 : ∀ j, j < 4 → defaultValue (tyX9 j) = vp_V [.null, .null, .null, .int 0] j := by
  intro j hj
  have h : ∀ i : Fin 4, defaultValue (tyX9 i.val) = vp_V [.null, .null, .null, .int 0] i.val := by decide +kernel
  exact h ⟨j, hj⟩
set_option maxRecDepth 100000 in
theorem new_X10 : ∀ j, j < 3 → defaultValue (tyX10 j) = vp_V [.null, .int 0, .int 0] j := by
  intro j hj
  have h : ∀ i : Fin 3, defaultValue (tyX10 i.val) = vp_V [.null, .int 0, .int 0] i.val := by decide +kernel
  exact h ⟨j, hj⟩
set_option maxRecDepth 100000 in
theorem new_X11 : ∀ j, j < 11 → defaultValue (tyX11 j) = vp_V [.null, .null, .null, .null, .null, .null, .null, .null, .null, .null, .int 0] j := by
  intro j hj
  have h : ∀ i : Fin 11, defaultValue (tyX11 i.val) = vp_V [.null, .null, .null, .null, .null, .null, .null, .null, .null, .null, .int 0] i.val := by decide +kernel
  exact h ⟨j, hj⟩
set_option maxRecDepth 100000 in
theorem new_X12 : ∀ j, j < 75 → defaultValue (tyX12 j) = vp_V [.int 0, .int 0, .null, .int 0, .null, .null, .null, .null, .null, .null, .null, .null, .null, .int 0, .null, .null, .null, .long 0, .long 0, .int 0, .int 0, .int 0, .int 0, .int 0, .null, .null, .null, .null, .null, .null, .null, .null, .null, .int 0, .int 0, .int 0, .int 0, .int 0, .int 0, .null, .null, .int 0, .null, .null, .long 0, .long 0, .long 0, .long 0, .int 0, .null, .null, .null, .null, .null, .null, .null, .null, .int 0, .null, .null, .int 0, .int 0, .int 0, .null, .null, .int 0, .int 0, .int 0, .null, .null, .null, .null, .null, .null, .null] j := by
  intro j hj
  have h : ∀ i : Fin 75, defaultValue (tyX12 i.val) = vp_V [.int 0, .int 0, .null, .int 0, .null, .null, .null, .null, .null, .null, .null, .null, .null, .int 0, .null, .null, .null, .long 0, .long 0, .int 0, .int 0, .int 0, .int 0, .int 0, .null, .null, .null, .null, .null, .null, .null, .null, .null, .int 0, .int 0, .int 0, .int 0, .int 0, .int 0, .null, .null, .int 0, .null, .null, .long 0, .long 0, .long 0, .long 0, .int 0, .null, .null, .null, .null, .null, .null, .null, .null, .int 0, .null, .null, .int 0, .int 0, .int 0, .null, .null, .int 0, .int 0, .int 0, .null, .null, .null, .null, .null, .null, .null] i.val := by decide +kernel
  exact h ⟨j, hj⟩
def NL : List (String × Nat × MethodName × String) := [(RX11, 9, yX10_init, RX11), (RX11, 18, yX9_init, RX11), (RX11, 25, yX0_init, RX11), (RX11, 32, yX1_init, RX11), (RX3, 9, yX7_init, RX11), (RX2, 11, yX7_init, RX11), (RX11, 66, yX5_init, RX11), (RX11, 73, yX4_init, RX11), (RX11, 80, yX6_init, RX11), (RX8, 120, yX11_within, RX11), (RX2, 92, yX11_within, RX11)]
def nw (U : State) : Prop := ∀ q ∈ NL, va_Nw (.methodLinkNest q.1 q.2.1 q.2.2.1 q.2.2.2) U
theorem sWN {D : va_G} {cl : List vw_C} {ws : va_W} {tys : List (ClassId × FieldType)} {A : Nat → Prop} {s : State} {H : Heap} {As : List Value} (hP : va_P D cl ws H) (hK : va_K D cl tys s) (hD : va_D A ws) (hN : nw s) : PreS s H (va_Pc As (fun U => U.heap.size = H.size ∧ va_P D cl ws U.heap ∧ va_K D cl tys U ∧ va_D (fun _ => True) ws ∧ nw U)) As :=
  ⟨fun a U g mk q => ⟨q.1, q.2.1, q.2.2.1, va_K.moved (u := U) (U := U.calling g mk a) (Vm.Alike.refl U.vm) q.2.2.2.1, q.2.2.2.2.1, fun w hw => va_Nw.same rfl rfl (q.2.2.2.2.2 w hw)⟩, fun U hU hW => ⟨rfl, by rw [hU], by rw [hU]; exact hP, va_K.moved hW.alike hK, hD.weaken (fun _ _ _ _ => trivial), fun w hw => va_Nw.warmM hW (hN w hw)⟩⟩
set_option maxRecDepth 100000 in
theorem nw_of {args : Array Value} {s : State} (h : ∀ w ∈ lw_tbl, w.before args s = true) : nw s := by
  intro q hq
  simp only [NL, List.mem_cons, List.not_mem_nil, or_false] at hq
  rcases hq with rfl | rfl | rfl | rfl | rfl | rfl | rfl | rfl | rfl | rfl | rfl
  · exact va_Nw.of rfl (h _ (List.mem_of_getElem? (i := 107) rfl))
  · exact va_Nw.of rfl (h _ (List.mem_of_getElem? (i := 128) rfl))
  · exact va_Nw.of rfl (h _ (List.mem_of_getElem? (i := 148) rfl))
  · exact va_Nw.of rfl (h _ (List.mem_of_getElem? (i := 185) rfl))
  · exact va_Nw.of rfl (h _ (List.mem_of_getElem? (i := 257) rfl))
  · exact va_Nw.of rfl (h _ (List.mem_of_getElem? (i := 303) rfl))
  · exact va_Nw.of rfl (h _ (List.mem_of_getElem? (i := 331) rfl))
  · exact va_Nw.of rfl (h _ (List.mem_of_getElem? (i := 362) rfl))
  · exact va_Nw.of rfl (h _ (List.mem_of_getElem? (i := 379) rfl))
  · exact va_Nw.of rfl (h _ (List.mem_of_getElem? (i := 774) rfl))
  · exact va_Nw.of rfl (h _ (List.mem_of_getElem? (i := 908) rfl))
theorem nwl_0 {s : State} (h : nw s) : va_Nw (.methodLinkNest RX11 9 yX10_init RX11) s := h (RX11, 9, yX10_init, RX11) (List.mem_of_getElem? (l := NL) (i := 0) rfl)
theorem nwl_1 {s : State} (h : nw s) : va_Nw (.methodLinkNest RX11 18 yX9_init RX11) s := h (RX11, 18, yX9_init, RX11) (List.mem_of_getElem? (l := NL) (i := 1) rfl)
theorem nwl_2 {s : State} (h : nw s) : va_Nw (.methodLinkNest RX11 25 yX0_init RX11) s := h (RX11, 25, yX0_init, RX11) (List.mem_of_getElem? (l := NL) (i := 2) rfl)
theorem nwl_3 {s : State} (h : nw s) : va_Nw (.methodLinkNest RX11 32 yX1_init RX11) s := h (RX11, 32, yX1_init, RX11) (List.mem_of_getElem? (l := NL) (i := 3) rfl)
theorem nwl_4 {s : State} (h : nw s) : va_Nw (.methodLinkNest RX3 9 yX7_init RX11) s := h (RX3, 9, yX7_init, RX11) (List.mem_of_getElem? (l := NL) (i := 4) rfl)
theorem nwl_5 {s : State} (h : nw s) : va_Nw (.methodLinkNest RX2 11 yX7_init RX11) s := h (RX2, 11, yX7_init, RX11) (List.mem_of_getElem? (l := NL) (i := 5) rfl)
theorem nwl_6 {s : State} (h : nw s) : va_Nw (.methodLinkNest RX11 66 yX5_init RX11) s := h (RX11, 66, yX5_init, RX11) (List.mem_of_getElem? (l := NL) (i := 6) rfl)
theorem nwl_7 {s : State} (h : nw s) : va_Nw (.methodLinkNest RX11 73 yX4_init RX11) s := h (RX11, 73, yX4_init, RX11) (List.mem_of_getElem? (l := NL) (i := 7) rfl)
theorem nwl_8 {s : State} (h : nw s) : va_Nw (.methodLinkNest RX11 80 yX6_init RX11) s := h (RX11, 80, yX6_init, RX11) (List.mem_of_getElem? (l := NL) (i := 8) rfl)
theorem nwl_9 {s : State} (h : nw s) : va_Nw (.methodLinkNest RX8 120 yX11_within RX11) s := h (RX8, 120, yX11_within, RX11) (List.mem_of_getElem? (l := NL) (i := 9) rfl)
theorem nwl_10 {s : State} (h : nw s) : va_Nw (.methodLinkNest RX2 92 yX11_within RX11) s := h (RX2, 92, yX11_within, RX11) (List.mem_of_getElem? (l := NL) (i := 10) rfl)
set_option maxHeartbeats 4000000 in
set_option maxRecDepth 100000 in
/-- X10_init -/
theorem c_X10_init (l : Launch) (dC : Nat → ClassId) (dI : Nat → Nat → Nat) (sz : Nat) (h : Nat) : Met l yX10_init (wc yX10_init cX10_init 1 none) ({ frames := 1, cells := 1, slots := 540, locals := 40 } : Room) (pW (dC, dI) classes [(h, .inr (10, [.null, .int 0, .int 0]))] [] sz [.ref h]) (va_Qv (fun _ : ((Nat → Nat → Nat) × (Nat → Nat → ClassId)) => True) (fun u t => va_P (dC, dI) classes [(h, .inr (10, [.ref (u.1 10 0), .int 0, .int 0])), ((u.1 10 0), .inl ((u.2 10 0), 540, .inl (fun _ => 0)))] t.heap ∧ va_K (dC, dI) classes [((u.2 10 0), .int)] t ∧ va_D (va_A [(h, .inr (10, [.null, .int 0, .int 0]))] sz) [(h, .inr (10, [.ref (u.1 10 0), .int 0, .int 0])), ((u.1 10 0), .inl ((u.2 10 0), 540, .inl (fun _ => 0)))]) (va_A [(h, .inr (10, [.null, .int 0, .int 0]))] sz)) 1 540 (va_A [(h, .inr (10, [.null, .int 0, .int 0]))] sz) := by
  refine Met.ofW (cc := cX10_init) (maxL := 1) (ret := none) (by decide) rfl ?_
  intro p e s m args below meth c s₁ B hml hv
  obtain ⟨rfl, hsz, hP, hK, hD0⟩ := hv
  have hx := B.exec
  have hb := B.bytes
  have hr := B.returns
  have ht := tb_tl (atoms_spec (ws := wc yX10_init cX10_init 1 none) B.pre)
  have hown : s.vm.findClass RX10 = some m.cls := findClass_of_methodNamed B.named
  have hlocks := B.notSynchronized
  have hin : meth.name = "<init>" := (name_of_methodNamed B.named B.method).1
  subst hsz
  have hD := hD0.self (sz := s.heap.size)
  generalize hAe : va_A [(h, .inr (10, [.null, .int 0, .int 0]))] s.heap.size = A at hD ⊢
  have hA : ∀ q : Nat, s.heap.size ≤ q → A q := fun q h => by rw [← hAe]; exact Or.inr h
  have hS : va_S A s.heap s.heap [] := va_S.rf
  have hP : va_P (dC, dI) classes [(h, .inr (10, [.null, .int 0, .int 0]))] s.heap := hP
  have hl := lv_entry [.ref h] (n := 1) (Nat.le_of_ble_eq_true rfl)
  rw [lg_entry_eq]
  generalize (lg_sl [.ref h] ++ List.replicate (1 - (lg_sl [.ref h]).length) Slot.unset).toArray = ls at hl ⊢
  have hl : lv_has ls 1 [(0, .ref h)] := hl
  refine lv_aload_n hx hb dX10_init_0 rfl (lv_at hl 0 rfl) ?_
  refine W.objInit hx hb hown (ht _ m_110) (ht _ m_103) (ht _ m_104) rfl (by rw [hml]; exact hl.1) rfl dX10_init_1 (Nat.le_of_ble_eq_true rfl) (Nat.le_of_ble_eq_true rfl) ?_
  refine W.eq (g2 := F0 m 4 ls []) rfl ?_
  refine lv_aload_n hx hb dX10_init_4 rfl (lv_at hl 0 rfl) ?_
  refine lv_sipush (v := 540) hx hb dX10_init_5 (by decide) ?_
  refine va_newa (atype := .int) (ty := .int) (a0 := (540, .inl (fun _ => 0))) (N' := 540) hx hb (ht _ m_125) rfl hK hP hD hS hA (fun _ => rfl) (by decide) (by decide) (by decide) (Nat.le_of_ble_eq_true rfl) (Nat.le_of_ble_eq_true rfl) dX10_init_8 (fun q1 ca2 H hK hP hD hS => ?_)
  obtain ⟨ws9, hP, hD, he9⟩ : ∃ ws9 : va_W, va_P (dC, dI) classes ws9 H ∧ va_D A ws9 ∧ ws9 = [(h, .inr (10, [.null, .int 0, .int 0])), (q1, .inl (ca2, 540, .inl (fun _ => 0)))] := ⟨_, hP, hD, rfl⟩
  subst he9
  have hK : va_K (dC, dI) classes [(ca2, .int)] s := hK
  refine W.widen (k := 1) (n := 540) (by decide) (by decide) ?_
  refine va_putF (D := (dC, dI)) (ci := 10) (v := .ref q1) (ty := (.array .int)) (C := RX10) (T := TX10) (N := 3) hx hb ht inX10 tyX10 tyX10_ok nmX10 hown hK hP hD hS 0 rfl rfl 0 (by decide) (ht _ m_111) (fun _ h9 => h9) rfl hin rfl (by decide +kernel) rfl rfl (Nat.le_of_ble_eq_true rfl) dX10_init_10 (fun H locs hP hD hS => ?_)
  obtain ⟨ws9, hP, hD, he9⟩ : ∃ ws9 : va_W, va_P (dC, dI) classes ws9 H ∧ va_D A ws9 ∧ ws9 = [(h, .inr (10, [.ref q1, .int 0, .int 0])), (q1, .inl (ca2, 540, .inl (fun _ => 0)))] := ⟨_, hP, hD, rfl⟩
  subst he9
  refine lv_aload_n hx hb dX10_init_13 rfl (lv_at hl 0 rfl) ?_
  refine lv_iconst (v := 0) hx hb dX10_init_14 (by decide) ?_
  refine va_put (D := (dC, dI)) (ci := 10) (v := .int 0) (ty := (.int)) (C := RX10) (T := TX10) (N := 3) hx hb ht inX10 tyX10 tyX10_ok nmX10 hown hK hP hD hS 0 rfl rfl 1 (by decide) (ht _ m_112) (fun _ h9 => h9) rfl (by decide +kernel) rfl rfl (Nat.le_of_ble_eq_true rfl) dX10_init_15 (fun H locs hP hD hS => ?_)
  obtain ⟨ws9, hP, hD, he9⟩ : ∃ ws9 : va_W, va_P (dC, dI) classes ws9 H ∧ va_D A ws9 ∧ ws9 = [(h, .inr (10, [.ref q1, .int 0, .int 0])), (q1, .inl (ca2, 540, .inl (fun _ => 0)))] := ⟨_, hP, hD, rfl⟩
  subst he9
  refine lv_aload_n hx hb dX10_init_18 rfl (lv_at hl 0 rfl) ?_
  refine lv_iconst (v := 0) hx hb dX10_init_19 (by decide) ?_
  refine va_put (D := (dC, dI)) (ci := 10) (v := .int 0) (ty := (.int)) (C := RX10) (T := TX10) (N := 3) hx hb ht inX10 tyX10 tyX10_ok nmX10 hown hK hP hD hS 0 rfl rfl 2 (by decide) (ht _ m_116) (fun _ h9 => h9) rfl (by decide +kernel) rfl rfl (Nat.le_of_ble_eq_true rfl) dX10_init_20 (fun H locs hP hD hS => ?_)
  obtain ⟨ws9, hP, hD, he9⟩ : ∃ ws9 : va_W, va_P (dC, dI) classes ws9 H ∧ va_D A ws9 ∧ ws9 = [(h, .inr (10, [.ref q1, .int 0, .int 0])), (q1, .inl (ca2, 540, .inl (fun _ => 0)))] := ⟨_, hP, hD, rfl⟩
  subst he9
  have hP9 := hP.sub (ws' := [(h, .inr (10, [.ref q1, .int 0, .int 0])), (q1, .inl (ca2, 540, .inl (fun _ => 0)))]) [0, 1] rfl
  have hD9 := hD.sub (ws' := [(h, .inr (10, [.ref q1, .int 0, .int 0])), (q1, .inl (ca2, 540, .inl (fun _ => 0)))]) [0, 1] (by decide) rfl
  have hK9 := hK.sub (tys' := [(ca2, .int)]) [0] rfl
  obtain ⟨u9, hu9⟩ : ∃ u : (Nat → Nat → Nat) × (Nat → Nat → ClassId), u = ((fun i j => (([[], [], [], [], [], [], [], [], [], [], [q1]] : List (List _)).getD i []).getD j 0), (fun i j => (([[], [], [], [], [], [], [], [], [], [], [ca2]] : List (List _)).getD i []).getD j ca2)) := ⟨_, rfl⟩
  have hB9 : ∀ t : State, t.heap = H → s.WarmedH t.vm → (fun u t => va_P (dC, dI) classes [(h, .inr (10, [.ref (u.1 10 0), .int 0, .int 0])), ((u.1 10 0), .inl ((u.2 10 0), 540, .inl (fun _ => 0)))] t.heap ∧ va_K (dC, dI) classes [((u.2 10 0), .int)] t ∧ va_D A [(h, .inr (10, [.ref (u.1 10 0), .int 0, .int 0])), ((u.1 10 0), .inl ((u.2 10 0), 540, .inl (fun _ => 0)))]) u9 t := by
    intro t ht9 hW
    rw [hu9]
    exact ⟨by rw [ht9]; exact hP9, va_K.moved hW.alike hK9, hD9⟩
  exact W.vret hx hb hr (fun t ht9 hW => ⟨⟨u9, rfl, trivial, hB9 t ht9 hW⟩, hS.F ht9⟩) hS.2.2 dX10_init_23
set_option maxHeartbeats 4000000 in
set_option maxRecDepth 100000 in
/-- X9_init -/
theorem c_X9_init (l : Launch) (dC : Nat → ClassId) (dI : Nat → Nat → Nat) (sz : Nat) (h : Nat) : Met l yX9_init (wc yX9_init cX9_init 1 none) ({ frames := 1, cells := 3, slots := 90, locals := 40 } : Room) (pW (dC, dI) classes [(h, .inr (9, [.null, .null, .null, .int 0]))] [] sz [.ref h]) (va_Qv (fun _ : ((Nat → Nat → Nat) × (Nat → Nat → ClassId)) => True) (fun u t => va_P (dC, dI) classes [(h, .inr (9, [.ref (u.1 9 0), .ref (u.1 9 1), .ref (u.1 9 2), .int 0])), ((u.1 9 0), .inl ((u.2 9 0), 30, .inl (fun _ => 0))), ((u.1 9 1), .inl ((u.2 9 1), 30, .inl (fun _ => 0))), ((u.1 9 2), .inl ((u.2 9 2), 30, .inl (fun _ => 0)))] t.heap ∧ va_K (dC, dI) classes [((u.2 9 0), .int), ((u.2 9 1), .int), ((u.2 9 2), .int)] t ∧ va_D (va_A [(h, .inr (9, [.null, .null, .null, .int 0]))] sz) [(h, .inr (9, [.ref (u.1 9 0), .ref (u.1 9 1), .ref (u.1 9 2), .int 0])), ((u.1 9 0), .inl ((u.2 9 0), 30, .inl (fun _ => 0))), ((u.1 9 1), .inl ((u.2 9 1), 30, .inl (fun _ => 0))), ((u.1 9 2), .inl ((u.2 9 2), 30, .inl (fun _ => 0)))]) (va_A [(h, .inr (9, [.null, .null, .null, .int 0]))] sz)) 3 90 (va_A [(h, .inr (9, [.null, .null, .null, .int 0]))] sz) := by
  refine Met.ofW (cc := cX9_init) (maxL := 1) (ret := none) (by decide) rfl ?_
  intro p e s m args below meth c s₁ B hml hv
  obtain ⟨rfl, hsz, hP, hK, hD0⟩ := hv
  have hx := B.exec
  have hb := B.bytes
  have hr := B.returns
  have ht := tb_tl (atoms_spec (ws := wc yX9_init cX9_init 1 none) B.pre)
  have hown : s.vm.findClass RX9 = some m.cls := findClass_of_methodNamed B.named
  have hlocks := B.notSynchronized
  have hin : meth.name = "<init>" := (name_of_methodNamed B.named B.method).1
  subst hsz
  have hD := hD0.self (sz := s.heap.size)
  generalize hAe : va_A [(h, .inr (9, [.null, .null, .null, .int 0]))] s.heap.size = A at hD ⊢
  have hA : ∀ q : Nat, s.heap.size ≤ q → A q := fun q h => by rw [← hAe]; exact Or.inr h
  have hS : va_S A s.heap s.heap [] := va_S.rf
  have hP : va_P (dC, dI) classes [(h, .inr (9, [.null, .null, .null, .int 0]))] s.heap := hP
  have hl := lv_entry [.ref h] (n := 1) (Nat.le_of_ble_eq_true rfl)
  rw [lg_entry_eq]
  generalize (lg_sl [.ref h] ++ List.replicate (1 - (lg_sl [.ref h]).length) Slot.unset).toArray = ls at hl ⊢
  have hl : lv_has ls 1 [(0, .ref h)] := hl
  refine lv_aload_n hx hb dX9_init_0 rfl (lv_at hl 0 rfl) ?_
  refine W.objInit hx hb hown (ht _ m_131) (ht _ m_103) (ht _ m_104) rfl (by rw [hml]; exact hl.1) rfl dX9_init_1 (Nat.le_of_ble_eq_true rfl) (Nat.le_of_ble_eq_true rfl) ?_
  refine W.eq (g2 := F0 m 4 ls []) rfl ?_
  refine lv_aload_n hx hb dX9_init_4 rfl (lv_at hl 0 rfl) ?_
  refine lv_bipush (v := 30) hx hb dX9_init_5 (by decide) ?_
  refine va_newa (atype := .int) (ty := .int) (a0 := (30, .inl (fun _ => 0))) (N' := 30) hx hb (ht _ m_125) rfl hK hP hD hS hA (fun _ => rfl) (by decide) (by decide) (by decide) (Nat.le_of_ble_eq_true rfl) (Nat.le_of_ble_eq_true rfl) dX9_init_7 (fun q1 ca2 H hK hP hD hS => ?_)
  obtain ⟨ws9, hP, hD, he9⟩ : ∃ ws9 : va_W, va_P (dC, dI) classes ws9 H ∧ va_D A ws9 ∧ ws9 = [(h, .inr (9, [.null, .null, .null, .int 0])), (q1, .inl (ca2, 30, .inl (fun _ => 0)))] := ⟨_, hP, hD, rfl⟩
  subst he9
  have hK : va_K (dC, dI) classes [(ca2, .int)] s := hK
  refine W.widen (k := 1) (n := 30) (by decide) (by decide) ?_
  refine va_putF (D := (dC, dI)) (ci := 9) (v := .ref q1) (ty := (.array .int)) (C := RX9) (T := TX9) (N := 4) hx hb ht inX9 tyX9 tyX9_ok nmX9 hown hK hP hD hS 0 rfl rfl 0 (by decide) (ht _ m_132) (fun _ h9 => h9) rfl hin rfl (by decide +kernel) rfl rfl (Nat.le_of_ble_eq_true rfl) dX9_init_9 (fun H locs hP hD hS => ?_)
  obtain ⟨ws9, hP, hD, he9⟩ : ∃ ws9 : va_W, va_P (dC, dI) classes ws9 H ∧ va_D A ws9 ∧ ws9 = [(h, .inr (9, [.ref q1, .null, .null, .int 0])), (q1, .inl (ca2, 30, .inl (fun _ => 0)))] := ⟨_, hP, hD, rfl⟩
  subst he9
  refine lv_aload_n hx hb dX9_init_12 rfl (lv_at hl 0 rfl) ?_
  refine lv_bipush (v := 30) hx hb dX9_init_13 (by decide) ?_
  refine va_newa (atype := .int) (ty := .int) (a0 := (30, .inl (fun _ => 0))) (N' := 30) hx hb (ht _ m_125) rfl hK hP hD hS hA (fun _ => rfl) (by decide) (by decide) (by decide) (Nat.le_of_ble_eq_true rfl) (Nat.le_of_ble_eq_true rfl) dX9_init_15 (fun q3 ca4 H hK hP hD hS => ?_)
  obtain ⟨ws9, hP, hD, he9⟩ : ∃ ws9 : va_W, va_P (dC, dI) classes ws9 H ∧ va_D A ws9 ∧ ws9 = [(h, .inr (9, [.ref q1, .null, .null, .int 0])), (q1, .inl (ca2, 30, .inl (fun _ => 0))), (q3, .inl (ca4, 30, .inl (fun _ => 0)))] := ⟨_, hP, hD, rfl⟩
  subst he9
  have hK : va_K (dC, dI) classes [(ca2, .int), (ca4, .int)] s := hK
  refine W.widen (k := 2) (n := 60) (by decide) (by decide) ?_
  refine va_putF (D := (dC, dI)) (ci := 9) (v := .ref q3) (ty := (.array .int)) (C := RX9) (T := TX9) (N := 4) hx hb ht inX9 tyX9 tyX9_ok nmX9 hown hK hP hD hS 0 rfl rfl 1 (by decide) (ht _ m_133) (fun _ h9 => h9) rfl hin rfl (by decide +kernel) rfl rfl (Nat.le_of_ble_eq_true rfl) dX9_init_17 (fun H locs hP hD hS => ?_)
  obtain ⟨ws9, hP, hD, he9⟩ : ∃ ws9 : va_W, va_P (dC, dI) classes ws9 H ∧ va_D A ws9 ∧ ws9 = [(h, .inr (9, [.ref q1, .ref q3, .null, .int 0])), (q1, .inl (ca2, 30, .inl (fun _ => 0))), (q3, .inl (ca4, 30, .inl (fun _ => 0)))] := ⟨_, hP, hD, rfl⟩
  subst he9
  refine lv_aload_n hx hb dX9_init_20 rfl (lv_at hl 0 rfl) ?_
  refine lv_bipush (v := 30) hx hb dX9_init_21 (by decide) ?_
  refine va_newa (atype := .int) (ty := .int) (a0 := (30, .inl (fun _ => 0))) (N' := 30) hx hb (ht _ m_125) rfl hK hP hD hS hA (fun _ => rfl) (by decide) (by decide) (by decide) (Nat.le_of_ble_eq_true rfl) (Nat.le_of_ble_eq_true rfl) dX9_init_23 (fun q5 ca6 H hK hP hD hS => ?_)
  obtain ⟨ws9, hP, hD, he9⟩ : ∃ ws9 : va_W, va_P (dC, dI) classes ws9 H ∧ va_D A ws9 ∧ ws9 = [(h, .inr (9, [.ref q1, .ref q3, .null, .int 0])), (q1, .inl (ca2, 30, .inl (fun _ => 0))), (q3, .inl (ca4, 30, .inl (fun _ => 0))), (q5, .inl (ca6, 30, .inl (fun _ => 0)))] := ⟨_, hP, hD, rfl⟩
  subst he9
  have hK : va_K (dC, dI) classes [(ca2, .int), (ca4, .int), (ca6, .int)] s := hK
  refine W.widen (k := 3) (n := 90) (by decide) (by decide) ?_
  refine va_putF (D := (dC, dI)) (ci := 9) (v := .ref q5) (ty := (.array .int)) (C := RX9) (T := TX9) (N := 4) hx hb ht inX9 tyX9 tyX9_ok nmX9 hown hK hP hD hS 0 rfl rfl 2 (by decide) (ht _ m_134) (fun _ h9 => h9) rfl hin rfl (by decide +kernel) rfl rfl (Nat.le_of_ble_eq_true rfl) dX9_init_25 (fun H locs hP hD hS => ?_)
  obtain ⟨ws9, hP, hD, he9⟩ : ∃ ws9 : va_W, va_P (dC, dI) classes ws9 H ∧ va_D A ws9 ∧ ws9 = [(h, .inr (9, [.ref q1, .ref q3, .ref q5, .int 0])), (q1, .inl (ca2, 30, .inl (fun _ => 0))), (q3, .inl (ca4, 30, .inl (fun _ => 0))), (q5, .inl (ca6, 30, .inl (fun _ => 0)))] := ⟨_, hP, hD, rfl⟩
  subst he9
  refine lv_aload_n hx hb dX9_init_28 rfl (lv_at hl 0 rfl) ?_
  refine lv_iconst (v := 0) hx hb dX9_init_29 (by decide) ?_
  refine va_put (D := (dC, dI)) (ci := 9) (v := .int 0) (ty := (.int)) (C := RX9) (T := TX9) (N := 4) hx hb ht inX9 tyX9 tyX9_ok nmX9 hown hK hP hD hS 0 rfl rfl 3 (by decide) (ht _ m_135) (fun _ h9 => h9) rfl (by decide +kernel) rfl rfl (Nat.le_of_ble_eq_true rfl) dX9_init_30 (fun H locs hP hD hS => ?_)
  obtain ⟨ws9, hP, hD, he9⟩ : ∃ ws9 : va_W, va_P (dC, dI) classes ws9 H ∧ va_D A ws9 ∧ ws9 = [(h, .inr (9, [.ref q1, .ref q3, .ref q5, .int 0])), (q1, .inl (ca2, 30, .inl (fun _ => 0))), (q3, .inl (ca4, 30, .inl (fun _ => 0))), (q5, .inl (ca6, 30, .inl (fun _ => 0)))] := ⟨_, hP, hD, rfl⟩
  subst he9
  have hP9 := hP.sub (ws' := [(h, .inr (9, [.ref q1, .ref q3, .ref q5, .int 0])), (q1, .inl (ca2, 30, .inl (fun _ => 0))), (q3, .inl (ca4, 30, .inl (fun _ => 0))), (q5, .inl (ca6, 30, .inl (fun _ => 0)))]) [0, 1, 2, 3] rfl
  have hD9 := hD.sub (ws' := [(h, .inr (9, [.ref q1, .ref q3, .ref q5, .int 0])), (q1, .inl (ca2, 30, .inl (fun _ => 0))), (q3, .inl (ca4, 30, .inl (fun _ => 0))), (q5, .inl (ca6, 30, .inl (fun _ => 0)))]) [0, 1, 2, 3] (by decide) rfl
  have hK9 := hK.sub (tys' := [(ca2, .int), (ca4, .int), (ca6, .int)]) [0, 1, 2] rfl
  obtain ⟨u9, hu9⟩ : ∃ u : (Nat → Nat → Nat) × (Nat → Nat → ClassId), u = ((fun i j => (([[], [], [], [], [], [], [], [], [], [q1, q3, q5]] : List (List _)).getD i []).getD j 0), (fun i j => (([[], [], [], [], [], [], [], [], [], [ca2, ca4, ca6]] : List (List _)).getD i []).getD j ca2)) := ⟨_, rfl⟩
  have hB9 : ∀ t : State, t.heap = H → s.WarmedH t.vm → (fun u t => va_P (dC, dI) classes [(h, .inr (9, [.ref (u.1 9 0), .ref (u.1 9 1), .ref (u.1 9 2), .int 0])), ((u.1 9 0), .inl ((u.2 9 0), 30, .inl (fun _ => 0))), ((u.1 9 1), .inl ((u.2 9 1), 30, .inl (fun _ => 0))), ((u.1 9 2), .inl ((u.2 9 2), 30, .inl (fun _ => 0)))] t.heap ∧ va_K (dC, dI) classes [((u.2 9 0), .int), ((u.2 9 1), .int), ((u.2 9 2), .int)] t ∧ va_D A [(h, .inr (9, [.ref (u.1 9 0), .ref (u.1 9 1), .ref (u.1 9 2), .int 0])), ((u.1 9 0), .inl ((u.2 9 0), 30, .inl (fun _ => 0))), ((u.1 9 1), .inl ((u.2 9 1), 30, .inl (fun _ => 0))), ((u.1 9 2), .inl ((u.2 9 2), 30, .inl (fun _ => 0)))]) u9 t := by
    intro t ht9 hW
    rw [hu9]
    exact ⟨by rw [ht9]; exact hP9, va_K.moved hW.alike hK9, hD9⟩
  exact W.vret hx hb hr (fun t ht9 hW => ⟨⟨u9, rfl, trivial, hB9 t ht9 hW⟩, hS.F ht9⟩) hS.2.2 dX9_init_33
set_option maxHeartbeats 4000000 in
set_option maxRecDepth 100000 in
/-- X0_init -/
theorem c_X0_init (l : Launch) (dC : Nat → ClassId) (dI : Nat → Nat → Nat) (sz : Nat) (h : Nat) : Met l yX0_init (wc yX0_init cX0_init 1 none) ({ frames := 1, cells := 7, slots := 250, locals := 40 } : Room) (pW (dC, dI) classes [(h, .inr (0, [.null, .null, .null, .null, .null, .null, .null, .int 0]))] [] sz [.ref h]) (va_Qv (fun _ : ((Nat → Nat → Nat) × (Nat → Nat → ClassId)) => True) (fun u t => va_P (dC, dI) classes [(h, .inr (0, [.ref (u.1 0 0), .ref (u.1 0 1), .ref (u.1 0 2), .ref (u.1 0 3), .ref (u.1 0 4), .ref (u.1 0 5), .ref (u.1 0 6), .int 0])), ((u.1 0 0), .inl ((u.2 0 0), 10, .inl (fun _ => 0))), ((u.1 0 1), .inl ((u.2 0 1), 10, .inl (fun _ => 0))), ((u.1 0 2), .inl ((u.2 0 2), 10, .inl (fun _ => 0))), ((u.1 0 3), .inl ((u.2 0 3), 10, .inl (fun _ => 0))), ((u.1 0 4), .inl ((u.2 0 4), 10, .inl (fun _ => 0))), ((u.1 0 5), .inl ((u.2 0 5), 120, .inl (fun _ => 0))), ((u.1 0 6), .inl ((u.2 0 6), 80, .inl (fun _ => 0)))] t.heap ∧ va_K (dC, dI) classes [((u.2 0 0), .int), ((u.2 0 1), .int), ((u.2 0 2), .int), ((u.2 0 3), .int), ((u.2 0 4), .int), ((u.2 0 5), .int), ((u.2 0 6), .int)] t ∧ va_D (va_A [(h, .inr (0, [.null, .null, .null, .null, .null, .null, .null, .int 0]))] sz) [(h, .inr (0, [.ref (u.1 0 0), .ref (u.1 0 1), .ref (u.1 0 2), .ref (u.1 0 3), .ref (u.1 0 4), .ref (u.1 0 5), .ref (u.1 0 6), .int 0])), ((u.1 0 0), .inl ((u.2 0 0), 10, .inl (fun _ => 0))), ((u.1 0 1), .inl ((u.2 0 1), 10, .inl (fun _ => 0))), ((u.1 0 2), .inl ((u.2 0 2), 10, .inl (fun _ => 0))), ((u.1 0 3), .inl ((u.2 0 3), 10, .inl (fun _ => 0))), ((u.1 0 4), .inl ((u.2 0 4), 10, .inl (fun _ => 0))), ((u.1 0 5), .inl ((u.2 0 5), 120, .inl (fun _ => 0))), ((u.1 0 6), .inl ((u.2 0 6), 80, .inl (fun _ => 0)))]) (va_A [(h, .inr (0, [.null, .null, .null, .null, .null, .null, .null, .int 0]))] sz)) 7 250 (va_A [(h, .inr (0, [.null, .null, .null, .null, .null, .null, .null, .int 0]))] sz) := by
  refine Met.ofW (cc := cX0_init) (maxL := 1) (ret := none) (by decide) rfl ?_
  intro p e s m args below meth c s₁ B hml hv
  obtain ⟨rfl, hsz, hP, hK, hD0⟩ := hv
  have hx := B.exec
  have hb := B.bytes
  have hr := B.returns
  have ht := tb_tl (atoms_spec (ws := wc yX0_init cX0_init 1 none) B.pre)
  have hown : s.vm.findClass RX0 = some m.cls := findClass_of_methodNamed B.named
  have hlocks := B.notSynchronized
  have hin : meth.name = "<init>" := (name_of_methodNamed B.named B.method).1
  subst hsz
  have hD := hD0.self (sz := s.heap.size)
  generalize hAe : va_A [(h, .inr (0, [.null, .null, .null, .null, .null, .null, .null, .int 0]))] s.heap.size = A at hD ⊢
  have hA : ∀ q : Nat, s.heap.size ≤ q → A q := fun q h => by rw [← hAe]; exact Or.inr h
  have hS : va_S A s.heap s.heap [] := va_S.rf
  have hP : va_P (dC, dI) classes [(h, .inr (0, [.null, .null, .null, .null, .null, .null, .null, .int 0]))] s.heap := hP
  have hl := lv_entry [.ref h] (n := 1) (Nat.le_of_ble_eq_true rfl)
  rw [lg_entry_eq]
  generalize (lg_sl [.ref h] ++ List.replicate (1 - (lg_sl [.ref h]).length) Slot.unset).toArray = ls at hl ⊢
  have hl : lv_has ls 1 [(0, .ref h)] := hl
  refine lv_aload_n hx hb dX0_init_0 rfl (lv_at hl 0 rfl) ?_
  refine W.objInit hx hb hown (ht _ m_151) (ht _ m_103) (ht _ m_104) rfl (by rw [hml]; exact hl.1) rfl dX0_init_1 (Nat.le_of_ble_eq_true rfl) (Nat.le_of_ble_eq_true rfl) ?_
  refine W.eq (g2 := F0 m 4 ls []) rfl ?_
  refine lv_aload_n hx hb dX0_init_4 rfl (lv_at hl 0 rfl) ?_
  refine lv_bipush (v := 10) hx hb dX0_init_5 (by decide) ?_
  refine va_newa (atype := .int) (ty := .int) (a0 := (10, .inl (fun _ => 0))) (N' := 10) hx hb (ht _ m_125) rfl hK hP hD hS hA (fun _ => rfl) (by decide) (by decide) (by decide) (Nat.le_of_ble_eq_true rfl) (Nat.le_of_ble_eq_true rfl) dX0_init_7 (fun q1 ca2 H hK hP hD hS => ?_)
  obtain ⟨ws9, hP, hD, he9⟩ : ∃ ws9 : va_W, va_P (dC, dI) classes ws9 H ∧ va_D A ws9 ∧ ws9 = [(h, .inr (0, [.null, .null, .null, .null, .null, .null, .null, .int 0])), (q1, .inl (ca2, 10, .inl (fun _ => 0)))] := ⟨_, hP, hD, rfl⟩
  subst he9
  have hK : va_K (dC, dI) classes [(ca2, .int)] s := hK
  refine W.widen (k := 1) (n := 10) (by decide) (by decide) ?_
  refine va_putF (D := (dC, dI)) (ci := 0) (v := .ref q1) (ty := (.array .int)) (C := RX0) (T := TX0) (N := 8) hx hb ht inX0 tyX0 tyX0_ok nmX0 hown hK hP hD hS 0 rfl rfl 0 (by decide) (ht _ m_152) (fun _ h9 => h9) rfl hin rfl (by decide +kernel) rfl rfl (Nat.le_of_ble_eq_true rfl) dX0_init_9 (fun H locs hP hD hS => ?_)
  obtain ⟨ws9, hP, hD, he9⟩ : ∃ ws9 : va_W, va_P (dC, dI) classes ws9 H ∧ va_D A ws9 ∧ ws9 = [(h, .inr (0, [.ref q1, .null, .null, .null, .null, .null, .null, .int 0])), (q1, .inl (ca2, 10, .inl (fun _ => 0)))] := ⟨_, hP, hD, rfl⟩
  subst he9
  refine lv_aload_n hx hb dX0_init_12 rfl (lv_at hl 0 rfl) ?_
  refine lv_bipush (v := 10) hx hb dX0_init_13 (by decide) ?_
  refine va_newa (atype := .int) (ty := .int) (a0 := (10, .inl (fun _ => 0))) (N' := 10) hx hb (ht _ m_125) rfl hK hP hD hS hA (fun _ => rfl) (by decide) (by decide) (by decide) (Nat.le_of_ble_eq_true rfl) (Nat.le_of_ble_eq_true rfl) dX0_init_15 (fun q3 ca4 H hK hP hD hS => ?_)
  obtain ⟨ws9, hP, hD, he9⟩ : ∃ ws9 : va_W, va_P (dC, dI) classes ws9 H ∧ va_D A ws9 ∧ ws9 = [(h, .inr (0, [.ref q1, .null, .null, .null, .null, .null, .null, .int 0])), (q1, .inl (ca2, 10, .inl (fun _ => 0))), (q3, .inl (ca4, 10, .inl (fun _ => 0)))] := ⟨_, hP, hD, rfl⟩
  subst he9
  have hK : va_K (dC, dI) classes [(ca2, .int), (ca4, .int)] s := hK
  refine W.widen (k := 2) (n := 20) (by decide) (by decide) ?_
  refine va_putF (D := (dC, dI)) (ci := 0) (v := .ref q3) (ty := (.array .int)) (C := RX0) (T := TX0) (N := 8) hx hb ht inX0 tyX0 tyX0_ok nmX0 hown hK hP hD hS 0 rfl rfl 1 (by decide) (ht _ m_154) (fun _ h9 => h9) rfl hin rfl (by decide +kernel) rfl rfl (Nat.le_of_ble_eq_true rfl) dX0_init_17 (fun H locs hP hD hS => ?_)
  obtain ⟨ws9, hP, hD, he9⟩ : ∃ ws9 : va_W, va_P (dC, dI) classes ws9 H ∧ va_D A ws9 ∧ ws9 = [(h, .inr (0, [.ref q1, .ref q3, .null, .null, .null, .null, .null, .int 0])), (q1, .inl (ca2, 10, .inl (fun _ => 0))), (q3, .inl (ca4, 10, .inl (fun _ => 0)))] := ⟨_, hP, hD, rfl⟩
  subst he9
  refine lv_aload_n hx hb dX0_init_20 rfl (lv_at hl 0 rfl) ?_
  refine lv_bipush (v := 10) hx hb dX0_init_21 (by decide) ?_
  refine va_newa (atype := .int) (ty := .int) (a0 := (10, .inl (fun _ => 0))) (N' := 10) hx hb (ht _ m_125) rfl hK hP hD hS hA (fun _ => rfl) (by decide) (by decide) (by decide) (Nat.le_of_ble_eq_true rfl) (Nat.le_of_ble_eq_true rfl) dX0_init_23 (fun q5 ca6 H hK hP hD hS => ?_)
  obtain ⟨ws9, hP, hD, he9⟩ : ∃ ws9 : va_W, va_P (dC, dI) classes ws9 H ∧ va_D A ws9 ∧ ws9 = [(h, .inr (0, [.ref q1, .ref q3, .null, .null, .null, .null, .null, .int 0])), (q1, .inl (ca2, 10, .inl (fun _ => 0))), (q3, .inl (ca4, 10, .inl (fun _ => 0))), (q5, .inl (ca6, 10, .inl (fun _ => 0)))] := ⟨_, hP, hD, rfl⟩
  subst he9
  have hK : va_K (dC, dI) classes [(ca2, .int), (ca4, .int), (ca6, .int)] s := hK
  refine W.widen (k := 3) (n := 30) (by decide) (by decide) ?_
  refine va_putF (D := (dC, dI)) (ci := 0) (v := .ref q5) (ty := (.array .int)) (C := RX0) (T := TX0) (N := 8) hx hb ht inX0 tyX0 tyX0_ok nmX0 hown hK hP hD hS 0 rfl rfl 2 (by decide) (ht _ m_156) (fun _ h9 => h9) rfl hin rfl (by decide +kernel) rfl rfl (Nat.le_of_ble_eq_true rfl) dX0_init_25 (fun H locs hP hD hS => ?_)
  obtain ⟨ws9, hP, hD, he9⟩ : ∃ ws9 : va_W, va_P (dC, dI) classes ws9 H ∧ va_D A ws9 ∧ ws9 = [(h, .inr (0, [.ref q1, .ref q3, .ref q5, .null, .null, .null, .null, .int 0])), (q1, .inl (ca2, 10, .inl (fun _ => 0))), (q3, .inl (ca4, 10, .inl (fun _ => 0))), (q5, .inl (ca6, 10, .inl (fun _ => 0)))] := ⟨_, hP, hD, rfl⟩
  subst he9
  refine lv_aload_n hx hb dX0_init_28 rfl (lv_at hl 0 rfl) ?_
  refine lv_bipush (v := 10) hx hb dX0_init_29 (by decide) ?_
  refine va_newa (atype := .int) (ty := .int) (a0 := (10, .inl (fun _ => 0))) (N' := 10) hx hb (ht _ m_125) rfl hK hP hD hS hA (fun _ => rfl) (by decide) (by decide) (by decide) (Nat.le_of_ble_eq_true rfl) (Nat.le_of_ble_eq_true rfl) dX0_init_31 (fun q7 ca8 H hK hP hD hS => ?_)
  obtain ⟨ws9, hP, hD, he9⟩ : ∃ ws9 : va_W, va_P (dC, dI) classes ws9 H ∧ va_D A ws9 ∧ ws9 = [(h, .inr (0, [.ref q1, .ref q3, .ref q5, .null, .null, .null, .null, .int 0])), (q1, .inl (ca2, 10, .inl (fun _ => 0))), (q3, .inl (ca4, 10, .inl (fun _ => 0))), (q5, .inl (ca6, 10, .inl (fun _ => 0))), (q7, .inl (ca8, 10, .inl (fun _ => 0)))] := ⟨_, hP, hD, rfl⟩
  subst he9
  have hK : va_K (dC, dI) classes [(ca2, .int), (ca4, .int), (ca6, .int), (ca8, .int)] s := hK
  refine W.widen (k := 4) (n := 40) (by decide) (by decide) ?_
  refine va_putF (D := (dC, dI)) (ci := 0) (v := .ref q7) (ty := (.array .int)) (C := RX0) (T := TX0) (N := 8) hx hb ht inX0 tyX0 tyX0_ok nmX0 hown hK hP hD hS 0 rfl rfl 3 (by decide) (ht _ m_158) (fun _ h9 => h9) rfl hin rfl (by decide +kernel) rfl rfl (Nat.le_of_ble_eq_true rfl) dX0_init_33 (fun H locs hP hD hS => ?_)
  obtain ⟨ws9, hP, hD, he9⟩ : ∃ ws9 : va_W, va_P (dC, dI) classes ws9 H ∧ va_D A ws9 ∧ ws9 = [(h, .inr (0, [.ref q1, .ref q3, .ref q5, .ref q7, .null, .null, .null, .int 0])), (q1, .inl (ca2, 10, .inl (fun _ => 0))), (q3, .inl (ca4, 10, .inl (fun _ => 0))), (q5, .inl (ca6, 10, .inl (fun _ => 0))), (q7, .inl (ca8, 10, .inl (fun _ => 0)))] := ⟨_, hP, hD, rfl⟩
  subst he9
  refine lv_aload_n hx hb dX0_init_36 rfl (lv_at hl 0 rfl) ?_
  refine lv_bipush (v := 10) hx hb dX0_init_37 (by decide) ?_
  refine va_newa (atype := .int) (ty := .int) (a0 := (10, .inl (fun _ => 0))) (N' := 10) hx hb (ht _ m_125) rfl hK hP hD hS hA (fun _ => rfl) (by decide) (by decide) (by decide) (Nat.le_of_ble_eq_true rfl) (Nat.le_of_ble_eq_true rfl) dX0_init_39 (fun q9 ca10 H hK hP hD hS => ?_)
  obtain ⟨ws9, hP, hD, he9⟩ : ∃ ws9 : va_W, va_P (dC, dI) classes ws9 H ∧ va_D A ws9 ∧ ws9 = [(h, .inr (0, [.ref q1, .ref q3, .ref q5, .ref q7, .null, .null, .null, .int 0])), (q1, .inl (ca2, 10, .inl (fun _ => 0))), (q3, .inl (ca4, 10, .inl (fun _ => 0))), (q5, .inl (ca6, 10, .inl (fun _ => 0))), (q7, .inl (ca8, 10, .inl (fun _ => 0))), (q9, .inl (ca10, 10, .inl (fun _ => 0)))] := ⟨_, hP, hD, rfl⟩
  subst he9
  have hK : va_K (dC, dI) classes [(ca2, .int), (ca4, .int), (ca6, .int), (ca8, .int), (ca10, .int)] s := hK
  refine W.widen (k := 5) (n := 50) (by decide) (by decide) ?_
  refine va_putF (D := (dC, dI)) (ci := 0) (v := .ref q9) (ty := (.array .int)) (C := RX0) (T := TX0) (N := 8) hx hb ht inX0 tyX0 tyX0_ok nmX0 hown hK hP hD hS 0 rfl rfl 4 (by decide) (ht _ m_160) (fun _ h9 => h9) rfl hin rfl (by decide +kernel) rfl rfl (Nat.le_of_ble_eq_true rfl) dX0_init_41 (fun H locs hP hD hS => ?_)
  obtain ⟨ws9, hP, hD, he9⟩ : ∃ ws9 : va_W, va_P (dC, dI) classes ws9 H ∧ va_D A ws9 ∧ ws9 = [(h, .inr (0, [.ref q1, .ref q3, .ref q5, .ref q7, .ref q9, .null, .null, .int 0])), (q1, .inl (ca2, 10, .inl (fun _ => 0))), (q3, .inl (ca4, 10, .inl (fun _ => 0))), (q5, .inl (ca6, 10, .inl (fun _ => 0))), (q7, .inl (ca8, 10, .inl (fun _ => 0))), (q9, .inl (ca10, 10, .inl (fun _ => 0)))] := ⟨_, hP, hD, rfl⟩
  subst he9
  refine lv_aload_n hx hb dX0_init_44 rfl (lv_at hl 0 rfl) ?_
  refine lv_bipush (v := 120) hx hb dX0_init_45 (by decide) ?_
  refine va_newa (atype := .int) (ty := .int) (a0 := (120, .inl (fun _ => 0))) (N' := 120) hx hb (ht _ m_125) rfl hK hP hD hS hA (fun _ => rfl) (by decide) (by decide) (by decide) (Nat.le_of_ble_eq_true rfl) (Nat.le_of_ble_eq_true rfl) dX0_init_47 (fun q11 ca12 H hK hP hD hS => ?_)
  obtain ⟨ws9, hP, hD, he9⟩ : ∃ ws9 : va_W, va_P (dC, dI) classes ws9 H ∧ va_D A ws9 ∧ ws9 = [(h, .inr (0, [.ref q1, .ref q3, .ref q5, .ref q7, .ref q9, .null, .null, .int 0])), (q1, .inl (ca2, 10, .inl (fun _ => 0))), (q3, .inl (ca4, 10, .inl (fun _ => 0))), (q5, .inl (ca6, 10, .inl (fun _ => 0))), (q7, .inl (ca8, 10, .inl (fun _ => 0))), (q9, .inl (ca10, 10, .inl (fun _ => 0))), (q11, .inl (ca12, 120, .inl (fun _ => 0)))] := ⟨_, hP, hD, rfl⟩
  subst he9
  have hK : va_K (dC, dI) classes [(ca2, .int), (ca4, .int), (ca6, .int), (ca8, .int), (ca10, .int), (ca12, .int)] s := hK
  refine W.widen (k := 6) (n := 170) (by decide) (by decide) ?_
  refine va_putF (D := (dC, dI)) (ci := 0) (v := .ref q11) (ty := (.array .int)) (C := RX0) (T := TX0) (N := 8) hx hb ht inX0 tyX0 tyX0_ok nmX0 hown hK hP hD hS 0 rfl rfl 5 (by decide) (ht _ m_162) (fun _ h9 => h9) rfl hin rfl (by decide +kernel) rfl rfl (Nat.le_of_ble_eq_true rfl) dX0_init_49 (fun H locs hP hD hS => ?_)
  obtain ⟨ws9, hP, hD, he9⟩ : ∃ ws9 : va_W, va_P (dC, dI) classes ws9 H ∧ va_D A ws9 ∧ ws9 = [(h, .inr (0, [.ref q1, .ref q3, .ref q5, .ref q7, .ref q9, .ref q11, .null, .int 0])), (q1, .inl (ca2, 10, .inl (fun _ => 0))), (q3, .inl (ca4, 10, .inl (fun _ => 0))), (q5, .inl (ca6, 10, .inl (fun _ => 0))), (q7, .inl (ca8, 10, .inl (fun _ => 0))), (q9, .inl (ca10, 10, .inl (fun _ => 0))), (q11, .inl (ca12, 120, .inl (fun _ => 0)))] := ⟨_, hP, hD, rfl⟩
  subst he9
  refine lv_aload_n hx hb dX0_init_52 rfl (lv_at hl 0 rfl) ?_
  refine lv_bipush (v := 80) hx hb dX0_init_53 (by decide) ?_
  refine va_newa (atype := .int) (ty := .int) (a0 := (80, .inl (fun _ => 0))) (N' := 80) hx hb (ht _ m_125) rfl hK hP hD hS hA (fun _ => rfl) (by decide) (by decide) (by decide) (Nat.le_of_ble_eq_true rfl) (Nat.le_of_ble_eq_true rfl) dX0_init_55 (fun q13 ca14 H hK hP hD hS => ?_)
  obtain ⟨ws9, hP, hD, he9⟩ : ∃ ws9 : va_W, va_P (dC, dI) classes ws9 H ∧ va_D A ws9 ∧ ws9 = [(h, .inr (0, [.ref q1, .ref q3, .ref q5, .ref q7, .ref q9, .ref q11, .null, .int 0])), (q1, .inl (ca2, 10, .inl (fun _ => 0))), (q3, .inl (ca4, 10, .inl (fun _ => 0))), (q5, .inl (ca6, 10, .inl (fun _ => 0))), (q7, .inl (ca8, 10, .inl (fun _ => 0))), (q9, .inl (ca10, 10, .inl (fun _ => 0))), (q11, .inl (ca12, 120, .inl (fun _ => 0))), (q13, .inl (ca14, 80, .inl (fun _ => 0)))] := ⟨_, hP, hD, rfl⟩
  subst he9
  have hK : va_K (dC, dI) classes [(ca2, .int), (ca4, .int), (ca6, .int), (ca8, .int), (ca10, .int), (ca12, .int), (ca14, .int)] s := hK
  refine W.widen (k := 7) (n := 250) (by decide) (by decide) ?_
  refine va_putF (D := (dC, dI)) (ci := 0) (v := .ref q13) (ty := (.array .int)) (C := RX0) (T := TX0) (N := 8) hx hb ht inX0 tyX0 tyX0_ok nmX0 hown hK hP hD hS 0 rfl rfl 6 (by decide) (ht _ m_163) (fun _ h9 => h9) rfl hin rfl (by decide +kernel) rfl rfl (Nat.le_of_ble_eq_true rfl) dX0_init_57 (fun H locs hP hD hS => ?_)
  obtain ⟨ws9, hP, hD, he9⟩ : ∃ ws9 : va_W, va_P (dC, dI) classes ws9 H ∧ va_D A ws9 ∧ ws9 = [(h, .inr (0, [.ref q1, .ref q3, .ref q5, .ref q7, .ref q9, .ref q11, .ref q13, .int 0])), (q1, .inl (ca2, 10, .inl (fun _ => 0))), (q3, .inl (ca4, 10, .inl (fun _ => 0))), (q5, .inl (ca6, 10, .inl (fun _ => 0))), (q7, .inl (ca8, 10, .inl (fun _ => 0))), (q9, .inl (ca10, 10, .inl (fun _ => 0))), (q11, .inl (ca12, 120, .inl (fun _ => 0))), (q13, .inl (ca14, 80, .inl (fun _ => 0)))] := ⟨_, hP, hD, rfl⟩
  subst he9
  refine lv_aload_n hx hb dX0_init_60 rfl (lv_at hl 0 rfl) ?_
  refine lv_iconst (v := 0) hx hb dX0_init_61 (by decide) ?_
  refine va_put (D := (dC, dI)) (ci := 0) (v := .int 0) (ty := (.int)) (C := RX0) (T := TX0) (N := 8) hx hb ht inX0 tyX0 tyX0_ok nmX0 hown hK hP hD hS 0 rfl rfl 7 (by decide) (ht _ m_164) (fun _ h9 => h9) rfl (by decide +kernel) rfl rfl (Nat.le_of_ble_eq_true rfl) dX0_init_62 (fun H locs hP hD hS => ?_)
  obtain ⟨ws9, hP, hD, he9⟩ : ∃ ws9 : va_W, va_P (dC, dI) classes ws9 H ∧ va_D A ws9 ∧ ws9 = [(h, .inr (0, [.ref q1, .ref q3, .ref q5, .ref q7, .ref q9, .ref q11, .ref q13, .int 0])), (q1, .inl (ca2, 10, .inl (fun _ => 0))), (q3, .inl (ca4, 10, .inl (fun _ => 0))), (q5, .inl (ca6, 10, .inl (fun _ => 0))), (q7, .inl (ca8, 10, .inl (fun _ => 0))), (q9, .inl (ca10, 10, .inl (fun _ => 0))), (q11, .inl (ca12, 120, .inl (fun _ => 0))), (q13, .inl (ca14, 80, .inl (fun _ => 0)))] := ⟨_, hP, hD, rfl⟩
  subst he9
  have hP9 := hP.sub (ws' := [(h, .inr (0, [.ref q1, .ref q3, .ref q5, .ref q7, .ref q9, .ref q11, .ref q13, .int 0])), (q1, .inl (ca2, 10, .inl (fun _ => 0))), (q3, .inl (ca4, 10, .inl (fun _ => 0))), (q5, .inl (ca6, 10, .inl (fun _ => 0))), (q7, .inl (ca8, 10, .inl (fun _ => 0))), (q9, .inl (ca10, 10, .inl (fun _ => 0))), (q11, .inl (ca12, 120, .inl (fun _ => 0))), (q13, .inl (ca14, 80, .inl (fun _ => 0)))]) [0, 1, 2, 3, 4, 5, 6, 7] rfl
  have hD9 := hD.sub (ws' := [(h, .inr (0, [.ref q1, .ref q3, .ref q5, .ref q7, .ref q9, .ref q11, .ref q13, .int 0])), (q1, .inl (ca2, 10, .inl (fun _ => 0))), (q3, .inl (ca4, 10, .inl (fun _ => 0))), (q5, .inl (ca6, 10, .inl (fun _ => 0))), (q7, .inl (ca8, 10, .inl (fun _ => 0))), (q9, .inl (ca10, 10, .inl (fun _ => 0))), (q11, .inl (ca12, 120, .inl (fun _ => 0))), (q13, .inl (ca14, 80, .inl (fun _ => 0)))]) [0, 1, 2, 3, 4, 5, 6, 7] (by decide) rfl
  have hK9 := hK.sub (tys' := [(ca2, .int), (ca4, .int), (ca6, .int), (ca8, .int), (ca10, .int), (ca12, .int), (ca14, .int)]) [0, 1, 2, 3, 4, 5, 6] rfl
  obtain ⟨u9, hu9⟩ : ∃ u : (Nat → Nat → Nat) × (Nat → Nat → ClassId), u = ((fun i j => (([[q1, q3, q5, q7, q9, q11, q13]] : List (List _)).getD i []).getD j 0), (fun i j => (([[ca2, ca4, ca6, ca8, ca10, ca12, ca14]] : List (List _)).getD i []).getD j ca2)) := ⟨_, rfl⟩
  have hB9 : ∀ t : State, t.heap = H → s.WarmedH t.vm → (fun u t => va_P (dC, dI) classes [(h, .inr (0, [.ref (u.1 0 0), .ref (u.1 0 1), .ref (u.1 0 2), .ref (u.1 0 3), .ref (u.1 0 4), .ref (u.1 0 5), .ref (u.1 0 6), .int 0])), ((u.1 0 0), .inl ((u.2 0 0), 10, .inl (fun _ => 0))), ((u.1 0 1), .inl ((u.2 0 1), 10, .inl (fun _ => 0))), ((u.1 0 2), .inl ((u.2 0 2), 10, .inl (fun _ => 0))), ((u.1 0 3), .inl ((u.2 0 3), 10, .inl (fun _ => 0))), ((u.1 0 4), .inl ((u.2 0 4), 10, .inl (fun _ => 0))), ((u.1 0 5), .inl ((u.2 0 5), 120, .inl (fun _ => 0))), ((u.1 0 6), .inl ((u.2 0 6), 80, .inl (fun _ => 0)))] t.heap ∧ va_K (dC, dI) classes [((u.2 0 0), .int), ((u.2 0 1), .int), ((u.2 0 2), .int), ((u.2 0 3), .int), ((u.2 0 4), .int), ((u.2 0 5), .int), ((u.2 0 6), .int)] t ∧ va_D A [(h, .inr (0, [.ref (u.1 0 0), .ref (u.1 0 1), .ref (u.1 0 2), .ref (u.1 0 3), .ref (u.1 0 4), .ref (u.1 0 5), .ref (u.1 0 6), .int 0])), ((u.1 0 0), .inl ((u.2 0 0), 10, .inl (fun _ => 0))), ((u.1 0 1), .inl ((u.2 0 1), 10, .inl (fun _ => 0))), ((u.1 0 2), .inl ((u.2 0 2), 10, .inl (fun _ => 0))), ((u.1 0 3), .inl ((u.2 0 3), 10, .inl (fun _ => 0))), ((u.1 0 4), .inl ((u.2 0 4), 10, .inl (fun _ => 0))), ((u.1 0 5), .inl ((u.2 0 5), 120, .inl (fun _ => 0))), ((u.1 0 6), .inl ((u.2 0 6), 80, .inl (fun _ => 0)))]) u9 t := by
    intro t ht9 hW
    rw [hu9]
    exact ⟨by rw [ht9]; exact hP9, va_K.moved hW.alike hK9, hD9⟩
  exact W.vret hx hb hr (fun t ht9 hW => ⟨⟨u9, rfl, trivial, hB9 t ht9 hW⟩, hS.F ht9⟩) hS.2.2 dX0_init_65
set_option maxHeartbeats 4000000 in
set_option maxRecDepth 100000 in
/-- X1_init -/
theorem c_X1_init (l : Launch) (dC : Nat → ClassId) (dI : Nat → Nat → Nat) (sz : Nat) (h : Nat) : Met l yX1_init (wc yX1_init cX1_init 1 none) ({ frames := 1, cells := 7, slots := 1080, locals := 40 } : Room) (pW (dC, dI) classes [(h, .inr (1, [.null, .null, .null, .null, .null, .null, .null, .int 0, .int 0]))] [] sz [.ref h]) (va_Qv (fun _ : ((Nat → Nat → Nat) × (Nat → Nat → ClassId)) => True) (fun u t => va_P (dC, dI) classes [(h, .inr (1, [.ref (u.1 1 0), .ref (u.1 1 1), .ref (u.1 1 2), .ref (u.1 1 3), .ref (u.1 1 4), .ref (u.1 1 5), .ref (u.1 1 6), .int 0, .int 0])), ((u.1 1 0), .inl ((u.2 1 0), 8, .inl (fun _ => 0))), ((u.1 1 1), .inl ((u.2 1 1), 8, .inl (fun _ => 0))), ((u.1 1 2), .inl ((u.2 1 2), 96, .inl (fun _ => 0))), ((u.1 1 3), .inl ((u.2 1 3), 96, .inl (fun _ => 0))), ((u.1 1 4), .inl ((u.2 1 4), 96, .inl (fun _ => 0))), ((u.1 1 5), .inl ((u.2 1 5), 768, .inl (fun _ => 0))), ((u.1 1 6), .inl ((u.2 1 6), 8, .inl (fun _ => 0)))] t.heap ∧ va_K (dC, dI) classes [((u.2 1 0), .int), ((u.2 1 1), .int), ((u.2 1 2), .int), ((u.2 1 3), .int), ((u.2 1 4), .int), ((u.2 1 5), .byte), ((u.2 1 6), .boolean)] t ∧ va_D (va_A [(h, .inr (1, [.null, .null, .null, .null, .null, .null, .null, .int 0, .int 0]))] sz) [(h, .inr (1, [.ref (u.1 1 0), .ref (u.1 1 1), .ref (u.1 1 2), .ref (u.1 1 3), .ref (u.1 1 4), .ref (u.1 1 5), .ref (u.1 1 6), .int 0, .int 0])), ((u.1 1 0), .inl ((u.2 1 0), 8, .inl (fun _ => 0))), ((u.1 1 1), .inl ((u.2 1 1), 8, .inl (fun _ => 0))), ((u.1 1 2), .inl ((u.2 1 2), 96, .inl (fun _ => 0))), ((u.1 1 3), .inl ((u.2 1 3), 96, .inl (fun _ => 0))), ((u.1 1 4), .inl ((u.2 1 4), 96, .inl (fun _ => 0))), ((u.1 1 5), .inl ((u.2 1 5), 768, .inl (fun _ => 0))), ((u.1 1 6), .inl ((u.2 1 6), 8, .inl (fun _ => 0)))]) (va_A [(h, .inr (1, [.null, .null, .null, .null, .null, .null, .null, .int 0, .int 0]))] sz)) 7 1080 (va_A [(h, .inr (1, [.null, .null, .null, .null, .null, .null, .null, .int 0, .int 0]))] sz) := by
  refine Met.ofW (cc := cX1_init) (maxL := 1) (ret := none) (by decide) rfl ?_
  intro p e s m args below meth c s₁ B hml hv
  obtain ⟨rfl, hsz, hP, hK, hD0⟩ := hv
  have hx := B.exec
  have hb := B.bytes
  have hr := B.returns
  have ht := tb_tl (atoms_spec (ws := wc yX1_init cX1_init 1 none) B.pre)
  have hown : s.vm.findClass RX1 = some m.cls := findClass_of_methodNamed B.named
  have hlocks := B.notSynchronized
  have hin : meth.name = "<init>" := (name_of_methodNamed B.named B.method).1
  subst hsz
  have hD := hD0.self (sz := s.heap.size)
  generalize hAe : va_A [(h, .inr (1, [.null, .null, .null, .null, .null, .null, .null, .int 0, .int 0]))] s.heap.size = A at hD ⊢
  have hA : ∀ q : Nat, s.heap.size ≤ q → A q := fun q h => by rw [← hAe]; exact Or.inr h
  have hS : va_S A s.heap s.heap [] := va_S.rf
  have hP : va_P (dC, dI) classes [(h, .inr (1, [.null, .null, .null, .null, .null, .null, .null, .int 0, .int 0]))] s.heap := hP
  have hl := lv_entry [.ref h] (n := 1) (Nat.le_of_ble_eq_true rfl)
  rw [lg_entry_eq]
  generalize (lg_sl [.ref h] ++ List.replicate (1 - (lg_sl [.ref h]).length) Slot.unset).toArray = ls at hl ⊢
  have hl : lv_has ls 1 [(0, .ref h)] := hl
  refine lv_aload_n hx hb dX1_init_0 rfl (lv_at hl 0 rfl) ?_
  refine W.objInit hx hb hown (ht _ m_188) (ht _ m_103) (ht _ m_104) rfl (by rw [hml]; exact hl.1) rfl dX1_init_1 (Nat.le_of_ble_eq_true rfl) (Nat.le_of_ble_eq_true rfl) ?_
  refine W.eq (g2 := F0 m 4 ls []) rfl ?_
  refine lv_aload_n hx hb dX1_init_4 rfl (lv_at hl 0 rfl) ?_
  refine lv_bipush (v := 8) hx hb dX1_init_5 (by decide) ?_
  refine va_newa (atype := .int) (ty := .int) (a0 := (8, .inl (fun _ => 0))) (N' := 8) hx hb (ht _ m_125) rfl hK hP hD hS hA (fun _ => rfl) (by decide) (by decide) (by decide) (Nat.le_of_ble_eq_true rfl) (Nat.le_of_ble_eq_true rfl) dX1_init_7 (fun q1 ca2 H hK hP hD hS => ?_)
  obtain ⟨ws9, hP, hD, he9⟩ : ∃ ws9 : va_W, va_P (dC, dI) classes ws9 H ∧ va_D A ws9 ∧ ws9 = [(h, .inr (1, [.null, .null, .null, .null, .null, .null, .null, .int 0, .int 0])), (q1, .inl (ca2, 8, .inl (fun _ => 0)))] := ⟨_, hP, hD, rfl⟩
  subst he9
  have hK : va_K (dC, dI) classes [(ca2, .int)] s := hK
  refine W.widen (k := 1) (n := 8) (by decide) (by decide) ?_
  refine va_putF (D := (dC, dI)) (ci := 1) (v := .ref q1) (ty := (.array .int)) (C := RX1) (T := TX1) (N := 9) hx hb ht inX1 tyX1 tyX1_ok nmX1 hown hK hP hD hS 0 rfl rfl 0 (by decide) (ht _ m_189) (fun _ h9 => h9) rfl hin rfl (by decide +kernel) rfl rfl (Nat.le_of_ble_eq_true rfl) dX1_init_9 (fun H locs hP hD hS => ?_)
  obtain ⟨ws9, hP, hD, he9⟩ : ∃ ws9 : va_W, va_P (dC, dI) classes ws9 H ∧ va_D A ws9 ∧ ws9 = [(h, .inr (1, [.ref q1, .null, .null, .null, .null, .null, .null, .int 0, .int 0])), (q1, .inl (ca2, 8, .inl (fun _ => 0)))] := ⟨_, hP, hD, rfl⟩
  subst he9
  refine lv_aload_n hx hb dX1_init_12 rfl (lv_at hl 0 rfl) ?_
  refine lv_bipush (v := 8) hx hb dX1_init_13 (by decide) ?_
  refine va_newa (atype := .int) (ty := .int) (a0 := (8, .inl (fun _ => 0))) (N' := 8) hx hb (ht _ m_125) rfl hK hP hD hS hA (fun _ => rfl) (by decide) (by decide) (by decide) (Nat.le_of_ble_eq_true rfl) (Nat.le_of_ble_eq_true rfl) dX1_init_15 (fun q3 ca4 H hK hP hD hS => ?_)
  obtain ⟨ws9, hP, hD, he9⟩ : ∃ ws9 : va_W, va_P (dC, dI) classes ws9 H ∧ va_D A ws9 ∧ ws9 = [(h, .inr (1, [.ref q1, .null, .null, .null, .null, .null, .null, .int 0, .int 0])), (q1, .inl (ca2, 8, .inl (fun _ => 0))), (q3, .inl (ca4, 8, .inl (fun _ => 0)))] := ⟨_, hP, hD, rfl⟩
  subst he9
  have hK : va_K (dC, dI) classes [(ca2, .int), (ca4, .int)] s := hK
  refine W.widen (k := 2) (n := 16) (by decide) (by decide) ?_
  refine va_putF (D := (dC, dI)) (ci := 1) (v := .ref q3) (ty := (.array .int)) (C := RX1) (T := TX1) (N := 9) hx hb ht inX1 tyX1 tyX1_ok nmX1 hown hK hP hD hS 0 rfl rfl 1 (by decide) (ht _ m_190) (fun _ h9 => h9) rfl hin rfl (by decide +kernel) rfl rfl (Nat.le_of_ble_eq_true rfl) dX1_init_17 (fun H locs hP hD hS => ?_)
  obtain ⟨ws9, hP, hD, he9⟩ : ∃ ws9 : va_W, va_P (dC, dI) classes ws9 H ∧ va_D A ws9 ∧ ws9 = [(h, .inr (1, [.ref q1, .ref q3, .null, .null, .null, .null, .null, .int 0, .int 0])), (q1, .inl (ca2, 8, .inl (fun _ => 0))), (q3, .inl (ca4, 8, .inl (fun _ => 0)))] := ⟨_, hP, hD, rfl⟩
  subst he9
  refine lv_aload_n hx hb dX1_init_20 rfl (lv_at hl 0 rfl) ?_
  refine lv_bipush (v := 96) hx hb dX1_init_21 (by decide) ?_
  refine va_newa (atype := .int) (ty := .int) (a0 := (96, .inl (fun _ => 0))) (N' := 96) hx hb (ht _ m_125) rfl hK hP hD hS hA (fun _ => rfl) (by decide) (by decide) (by decide) (Nat.le_of_ble_eq_true rfl) (Nat.le_of_ble_eq_true rfl) dX1_init_23 (fun q5 ca6 H hK hP hD hS => ?_)
  obtain ⟨ws9, hP, hD, he9⟩ : ∃ ws9 : va_W, va_P (dC, dI) classes ws9 H ∧ va_D A ws9 ∧ ws9 = [(h, .inr (1, [.ref q1, .ref q3, .null, .null, .null, .null, .null, .int 0, .int 0])), (q1, .inl (ca2, 8, .inl (fun _ => 0))), (q3, .inl (ca4, 8, .inl (fun _ => 0))), (q5, .inl (ca6, 96, .inl (fun _ => 0)))] := ⟨_, hP, hD, rfl⟩
  subst he9
  have hK : va_K (dC, dI) classes [(ca2, .int), (ca4, .int), (ca6, .int)] s := hK
  refine W.widen (k := 3) (n := 112) (by decide) (by decide) ?_
  refine va_putF (D := (dC, dI)) (ci := 1) (v := .ref q5) (ty := (.array .int)) (C := RX1) (T := TX1) (N := 9) hx hb ht inX1 tyX1 tyX1_ok nmX1 hown hK hP hD hS 0 rfl rfl 2 (by decide) (ht _ m_191) (fun _ h9 => h9) rfl hin rfl (by decide +kernel) rfl rfl (Nat.le_of_ble_eq_true rfl) dX1_init_25 (fun H locs hP hD hS => ?_)
  obtain ⟨ws9, hP, hD, he9⟩ : ∃ ws9 : va_W, va_P (dC, dI) classes ws9 H ∧ va_D A ws9 ∧ ws9 = [(h, .inr (1, [.ref q1, .ref q3, .ref q5, .null, .null, .null, .null, .int 0, .int 0])), (q1, .inl (ca2, 8, .inl (fun _ => 0))), (q3, .inl (ca4, 8, .inl (fun _ => 0))), (q5, .inl (ca6, 96, .inl (fun _ => 0)))] := ⟨_, hP, hD, rfl⟩
  subst he9
  refine lv_aload_n hx hb dX1_init_28 rfl (lv_at hl 0 rfl) ?_
  refine lv_bipush (v := 96) hx hb dX1_init_29 (by decide) ?_
  refine va_newa (atype := .int) (ty := .int) (a0 := (96, .inl (fun _ => 0))) (N' := 96) hx hb (ht _ m_125) rfl hK hP hD hS hA (fun _ => rfl) (by decide) (by decide) (by decide) (Nat.le_of_ble_eq_true rfl) (Nat.le_of_ble_eq_true rfl) dX1_init_31 (fun q7 ca8 H hK hP hD hS => ?_)
  obtain ⟨ws9, hP, hD, he9⟩ : ∃ ws9 : va_W, va_P (dC, dI) classes ws9 H ∧ va_D A ws9 ∧ ws9 = [(h, .inr (1, [.ref q1, .ref q3, .ref q5, .null, .null, .null, .null, .int 0, .int 0])), (q1, .inl (ca2, 8, .inl (fun _ => 0))), (q3, .inl (ca4, 8, .inl (fun _ => 0))), (q5, .inl (ca6, 96, .inl (fun _ => 0))), (q7, .inl (ca8, 96, .inl (fun _ => 0)))] := ⟨_, hP, hD, rfl⟩
  subst he9
  have hK : va_K (dC, dI) classes [(ca2, .int), (ca4, .int), (ca6, .int), (ca8, .int)] s := hK
  refine W.widen (k := 4) (n := 208) (by decide) (by decide) ?_
  refine va_putF (D := (dC, dI)) (ci := 1) (v := .ref q7) (ty := (.array .int)) (C := RX1) (T := TX1) (N := 9) hx hb ht inX1 tyX1 tyX1_ok nmX1 hown hK hP hD hS 0 rfl rfl 3 (by decide) (ht _ m_192) (fun _ h9 => h9) rfl hin rfl (by decide +kernel) rfl rfl (Nat.le_of_ble_eq_true rfl) dX1_init_33 (fun H locs hP hD hS => ?_)
  obtain ⟨ws9, hP, hD, he9⟩ : ∃ ws9 : va_W, va_P (dC, dI) classes ws9 H ∧ va_D A ws9 ∧ ws9 = [(h, .inr (1, [.ref q1, .ref q3, .ref q5, .ref q7, .null, .null, .null, .int 0, .int 0])), (q1, .inl (ca2, 8, .inl (fun _ => 0))), (q3, .inl (ca4, 8, .inl (fun _ => 0))), (q5, .inl (ca6, 96, .inl (fun _ => 0))), (q7, .inl (ca8, 96, .inl (fun _ => 0)))] := ⟨_, hP, hD, rfl⟩
  subst he9
  refine lv_aload_n hx hb dX1_init_36 rfl (lv_at hl 0 rfl) ?_
  refine lv_bipush (v := 96) hx hb dX1_init_37 (by decide) ?_
  refine va_newa (atype := .int) (ty := .int) (a0 := (96, .inl (fun _ => 0))) (N' := 96) hx hb (ht _ m_125) rfl hK hP hD hS hA (fun _ => rfl) (by decide) (by decide) (by decide) (Nat.le_of_ble_eq_true rfl) (Nat.le_of_ble_eq_true rfl) dX1_init_39 (fun q9 ca10 H hK hP hD hS => ?_)
  obtain ⟨ws9, hP, hD, he9⟩ : ∃ ws9 : va_W, va_P (dC, dI) classes ws9 H ∧ va_D A ws9 ∧ ws9 = [(h, .inr (1, [.ref q1, .ref q3, .ref q5, .ref q7, .null, .null, .null, .int 0, .int 0])), (q1, .inl (ca2, 8, .inl (fun _ => 0))), (q3, .inl (ca4, 8, .inl (fun _ => 0))), (q5, .inl (ca6, 96, .inl (fun _ => 0))), (q7, .inl (ca8, 96, .inl (fun _ => 0))), (q9, .inl (ca10, 96, .inl (fun _ => 0)))] := ⟨_, hP, hD, rfl⟩
  subst he9
  have hK : va_K (dC, dI) classes [(ca2, .int), (ca4, .int), (ca6, .int), (ca8, .int), (ca10, .int)] s := hK
  refine W.widen (k := 5) (n := 304) (by decide) (by decide) ?_
  refine va_putF (D := (dC, dI)) (ci := 1) (v := .ref q9) (ty := (.array .int)) (C := RX1) (T := TX1) (N := 9) hx hb ht inX1 tyX1 tyX1_ok nmX1 hown hK hP hD hS 0 rfl rfl 4 (by decide) (ht _ m_193) (fun _ h9 => h9) rfl hin rfl (by decide +kernel) rfl rfl (Nat.le_of_ble_eq_true rfl) dX1_init_41 (fun H locs hP hD hS => ?_)
  obtain ⟨ws9, hP, hD, he9⟩ : ∃ ws9 : va_W, va_P (dC, dI) classes ws9 H ∧ va_D A ws9 ∧ ws9 = [(h, .inr (1, [.ref q1, .ref q3, .ref q5, .ref q7, .ref q9, .null, .null, .int 0, .int 0])), (q1, .inl (ca2, 8, .inl (fun _ => 0))), (q3, .inl (ca4, 8, .inl (fun _ => 0))), (q5, .inl (ca6, 96, .inl (fun _ => 0))), (q7, .inl (ca8, 96, .inl (fun _ => 0))), (q9, .inl (ca10, 96, .inl (fun _ => 0)))] := ⟨_, hP, hD, rfl⟩
  subst he9
  refine lv_aload_n hx hb dX1_init_44 rfl (lv_at hl 0 rfl) ?_
  refine lv_sipush (v := 768) hx hb dX1_init_45 (by decide) ?_
  refine va_newa (atype := .byte) (ty := .byte) (a0 := (768, .inl (fun _ => 0))) (N' := 768) hx hb (ht _ m_220) rfl hK hP hD hS hA (fun _ => rfl) (by decide) (by decide) (by decide) (Nat.le_of_ble_eq_true rfl) (Nat.le_of_ble_eq_true rfl) dX1_init_48 (fun q11 ca12 H hK hP hD hS => ?_)
  obtain ⟨ws9, hP, hD, he9⟩ : ∃ ws9 : va_W, va_P (dC, dI) classes ws9 H ∧ va_D A ws9 ∧ ws9 = [(h, .inr (1, [.ref q1, .ref q3, .ref q5, .ref q7, .ref q9, .null, .null, .int 0, .int 0])), (q1, .inl (ca2, 8, .inl (fun _ => 0))), (q3, .inl (ca4, 8, .inl (fun _ => 0))), (q5, .inl (ca6, 96, .inl (fun _ => 0))), (q7, .inl (ca8, 96, .inl (fun _ => 0))), (q9, .inl (ca10, 96, .inl (fun _ => 0))), (q11, .inl (ca12, 768, .inl (fun _ => 0)))] := ⟨_, hP, hD, rfl⟩
  subst he9
  have hK : va_K (dC, dI) classes [(ca2, .int), (ca4, .int), (ca6, .int), (ca8, .int), (ca10, .int), (ca12, .byte)] s := hK
  refine W.widen (k := 6) (n := 1072) (by decide) (by decide) ?_
  refine va_putF (D := (dC, dI)) (ci := 1) (v := .ref q11) (ty := (.array .byte)) (C := RX1) (T := TX1) (N := 9) hx hb ht inX1 tyX1 tyX1_ok nmX1 hown hK hP hD hS 0 rfl rfl 5 (by decide) (ht _ m_194) (fun _ h9 => h9) rfl hin rfl (by decide +kernel) rfl rfl (Nat.le_of_ble_eq_true rfl) dX1_init_50 (fun H locs hP hD hS => ?_)
  obtain ⟨ws9, hP, hD, he9⟩ : ∃ ws9 : va_W, va_P (dC, dI) classes ws9 H ∧ va_D A ws9 ∧ ws9 = [(h, .inr (1, [.ref q1, .ref q3, .ref q5, .ref q7, .ref q9, .ref q11, .null, .int 0, .int 0])), (q1, .inl (ca2, 8, .inl (fun _ => 0))), (q3, .inl (ca4, 8, .inl (fun _ => 0))), (q5, .inl (ca6, 96, .inl (fun _ => 0))), (q7, .inl (ca8, 96, .inl (fun _ => 0))), (q9, .inl (ca10, 96, .inl (fun _ => 0))), (q11, .inl (ca12, 768, .inl (fun _ => 0)))] := ⟨_, hP, hD, rfl⟩
  subst he9
  refine lv_aload_n hx hb dX1_init_53 rfl (lv_at hl 0 rfl) ?_
  refine lv_bipush (v := 8) hx hb dX1_init_54 (by decide) ?_
  refine va_newa (atype := .boolean) (ty := .boolean) (a0 := (8, .inl (fun _ => 0))) (N' := 8) hx hb (ht _ m_221) rfl hK hP hD hS hA (fun _ => rfl) (by decide) (by decide) (by decide) (Nat.le_of_ble_eq_true rfl) (Nat.le_of_ble_eq_true rfl) dX1_init_56 (fun q13 ca14 H hK hP hD hS => ?_)
  obtain ⟨ws9, hP, hD, he9⟩ : ∃ ws9 : va_W, va_P (dC, dI) classes ws9 H ∧ va_D A ws9 ∧ ws9 = [(h, .inr (1, [.ref q1, .ref q3, .ref q5, .ref q7, .ref q9, .ref q11, .null, .int 0, .int 0])), (q1, .inl (ca2, 8, .inl (fun _ => 0))), (q3, .inl (ca4, 8, .inl (fun _ => 0))), (q5, .inl (ca6, 96, .inl (fun _ => 0))), (q7, .inl (ca8, 96, .inl (fun _ => 0))), (q9, .inl (ca10, 96, .inl (fun _ => 0))), (q11, .inl (ca12, 768, .inl (fun _ => 0))), (q13, .inl (ca14, 8, .inl (fun _ => 0)))] := ⟨_, hP, hD, rfl⟩
  subst he9
  have hK : va_K (dC, dI) classes [(ca2, .int), (ca4, .int), (ca6, .int), (ca8, .int), (ca10, .int), (ca12, .byte), (ca14, .boolean)] s := hK
  refine W.widen (k := 7) (n := 1080) (by decide) (by decide) ?_
  refine va_putF (D := (dC, dI)) (ci := 1) (v := .ref q13) (ty := (.array .boolean)) (C := RX1) (T := TX1) (N := 9) hx hb ht inX1 tyX1 tyX1_ok nmX1 hown hK hP hD hS 0 rfl rfl 6 (by decide) (ht _ m_195) (fun _ h9 => h9) rfl hin rfl (by decide +kernel) rfl rfl (Nat.le_of_ble_eq_true rfl) dX1_init_58 (fun H locs hP hD hS => ?_)
  obtain ⟨ws9, hP, hD, he9⟩ : ∃ ws9 : va_W, va_P (dC, dI) classes ws9 H ∧ va_D A ws9 ∧ ws9 = [(h, .inr (1, [.ref q1, .ref q3, .ref q5, .ref q7, .ref q9, .ref q11, .ref q13, .int 0, .int 0])), (q1, .inl (ca2, 8, .inl (fun _ => 0))), (q3, .inl (ca4, 8, .inl (fun _ => 0))), (q5, .inl (ca6, 96, .inl (fun _ => 0))), (q7, .inl (ca8, 96, .inl (fun _ => 0))), (q9, .inl (ca10, 96, .inl (fun _ => 0))), (q11, .inl (ca12, 768, .inl (fun _ => 0))), (q13, .inl (ca14, 8, .inl (fun _ => 0)))] := ⟨_, hP, hD, rfl⟩
  subst he9
  refine lv_aload_n hx hb dX1_init_61 rfl (lv_at hl 0 rfl) ?_
  refine lv_iconst (v := 0) hx hb dX1_init_62 (by decide) ?_
  refine va_put (D := (dC, dI)) (ci := 1) (v := .int 0) (ty := (.int)) (C := RX1) (T := TX1) (N := 9) hx hb ht inX1 tyX1 tyX1_ok nmX1 hown hK hP hD hS 0 rfl rfl 7 (by decide) (ht _ m_196) (fun _ h9 => h9) rfl (by decide +kernel) rfl rfl (Nat.le_of_ble_eq_true rfl) dX1_init_63 (fun H locs hP hD hS => ?_)
  obtain ⟨ws9, hP, hD, he9⟩ : ∃ ws9 : va_W, va_P (dC, dI) classes ws9 H ∧ va_D A ws9 ∧ ws9 = [(h, .inr (1, [.ref q1, .ref q3, .ref q5, .ref q7, .ref q9, .ref q11, .ref q13, .int 0, .int 0])), (q1, .inl (ca2, 8, .inl (fun _ => 0))), (q3, .inl (ca4, 8, .inl (fun _ => 0))), (q5, .inl (ca6, 96, .inl (fun _ => 0))), (q7, .inl (ca8, 96, .inl (fun _ => 0))), (q9, .inl (ca10, 96, .inl (fun _ => 0))), (q11, .inl (ca12, 768, .inl (fun _ => 0))), (q13, .inl (ca14, 8, .inl (fun _ => 0)))] := ⟨_, hP, hD, rfl⟩
  subst he9
  refine lv_aload_n hx hb dX1_init_66 rfl (lv_at hl 0 rfl) ?_
  refine lv_iconst (v := 0) hx hb dX1_init_67 (by decide) ?_
  refine va_put (D := (dC, dI)) (ci := 1) (v := .int 0) (ty := (.int)) (C := RX1) (T := TX1) (N := 9) hx hb ht inX1 tyX1 tyX1_ok nmX1 hown hK hP hD hS 0 rfl rfl 8 (by decide) (ht _ m_199) (fun _ h9 => h9) rfl (by decide +kernel) rfl rfl (Nat.le_of_ble_eq_true rfl) dX1_init_68 (fun H locs hP hD hS => ?_)
  obtain ⟨ws9, hP, hD, he9⟩ : ∃ ws9 : va_W, va_P (dC, dI) classes ws9 H ∧ va_D A ws9 ∧ ws9 = [(h, .inr (1, [.ref q1, .ref q3, .ref q5, .ref q7, .ref q9, .ref q11, .ref q13, .int 0, .int 0])), (q1, .inl (ca2, 8, .inl (fun _ => 0))), (q3, .inl (ca4, 8, .inl (fun _ => 0))), (q5, .inl (ca6, 96, .inl (fun _ => 0))), (q7, .inl (ca8, 96, .inl (fun _ => 0))), (q9, .inl (ca10, 96, .inl (fun _ => 0))), (q11, .inl (ca12, 768, .inl (fun _ => 0))), (q13, .inl (ca14, 8, .inl (fun _ => 0)))] := ⟨_, hP, hD, rfl⟩
  subst he9
  have hP9 := hP.sub (ws' := [(h, .inr (1, [.ref q1, .ref q3, .ref q5, .ref q7, .ref q9, .ref q11, .ref q13, .int 0, .int 0])), (q1, .inl (ca2, 8, .inl (fun _ => 0))), (q3, .inl (ca4, 8, .inl (fun _ => 0))), (q5, .inl (ca6, 96, .inl (fun _ => 0))), (q7, .inl (ca8, 96, .inl (fun _ => 0))), (q9, .inl (ca10, 96, .inl (fun _ => 0))), (q11, .inl (ca12, 768, .inl (fun _ => 0))), (q13, .inl (ca14, 8, .inl (fun _ => 0)))]) [0, 1, 2, 3, 4, 5, 6, 7] rfl
  have hD9 := hD.sub (ws' := [(h, .inr (1, [.ref q1, .ref q3, .ref q5, .ref q7, .ref q9, .ref q11, .ref q13, .int 0, .int 0])), (q1, .inl (ca2, 8, .inl (fun _ => 0))), (q3, .inl (ca4, 8, .inl (fun _ => 0))), (q5, .inl (ca6, 96, .inl (fun _ => 0))), (q7, .inl (ca8, 96, .inl (fun _ => 0))), (q9, .inl (ca10, 96, .inl (fun _ => 0))), (q11, .inl (ca12, 768, .inl (fun _ => 0))), (q13, .inl (ca14, 8, .inl (fun _ => 0)))]) [0, 1, 2, 3, 4, 5, 6, 7] (by decide) rfl
  have hK9 := hK.sub (tys' := [(ca2, .int), (ca4, .int), (ca6, .int), (ca8, .int), (ca10, .int), (ca12, .byte), (ca14, .boolean)]) [0, 1, 2, 3, 4, 5, 6] rfl
  obtain ⟨u9, hu9⟩ : ∃ u : (Nat → Nat → Nat) × (Nat → Nat → ClassId), u = ((fun i j => (([[], [q1, q3, q5, q7, q9, q11, q13]] : List (List _)).getD i []).getD j 0), (fun i j => (([[], [ca2, ca4, ca6, ca8, ca10, ca12, ca14]] : List (List _)).getD i []).getD j ca2)) := ⟨_, rfl⟩
  have hB9 : ∀ t : State, t.heap = H → s.WarmedH t.vm → (fun u t => va_P (dC, dI) classes [(h, .inr (1, [.ref (u.1 1 0), .ref (u.1 1 1), .ref (u.1 1 2), .ref (u.1 1 3), .ref (u.1 1 4), .ref (u.1 1 5), .ref (u.1 1 6), .int 0, .int 0])), ((u.1 1 0), .inl ((u.2 1 0), 8, .inl (fun _ => 0))), ((u.1 1 1), .inl ((u.2 1 1), 8, .inl (fun _ => 0))), ((u.1 1 2), .inl ((u.2 1 2), 96, .inl (fun _ => 0))), ((u.1 1 3), .inl ((u.2 1 3), 96, .inl (fun _ => 0))), ((u.1 1 4), .inl ((u.2 1 4), 96, .inl (fun _ => 0))), ((u.1 1 5), .inl ((u.2 1 5), 768, .inl (fun _ => 0))), ((u.1 1 6), .inl ((u.2 1 6), 8, .inl (fun _ => 0)))] t.heap ∧ va_K (dC, dI) classes [((u.2 1 0), .int), ((u.2 1 1), .int), ((u.2 1 2), .int), ((u.2 1 3), .int), ((u.2 1 4), .int), ((u.2 1 5), .byte), ((u.2 1 6), .boolean)] t ∧ va_D A [(h, .inr (1, [.ref (u.1 1 0), .ref (u.1 1 1), .ref (u.1 1 2), .ref (u.1 1 3), .ref (u.1 1 4), .ref (u.1 1 5), .ref (u.1 1 6), .int 0, .int 0])), ((u.1 1 0), .inl ((u.2 1 0), 8, .inl (fun _ => 0))), ((u.1 1 1), .inl ((u.2 1 1), 8, .inl (fun _ => 0))), ((u.1 1 2), .inl ((u.2 1 2), 96, .inl (fun _ => 0))), ((u.1 1 3), .inl ((u.2 1 3), 96, .inl (fun _ => 0))), ((u.1 1 4), .inl ((u.2 1 4), 96, .inl (fun _ => 0))), ((u.1 1 5), .inl ((u.2 1 5), 768, .inl (fun _ => 0))), ((u.1 1 6), .inl ((u.2 1 6), 8, .inl (fun _ => 0)))]) u9 t := by
    intro t ht9 hW
    rw [hu9]
    exact ⟨by rw [ht9]; exact hP9, va_K.moved hW.alike hK9, hD9⟩
  exact W.vret hx hb hr (fun t ht9 hW => ⟨⟨u9, rfl, trivial, hB9 t ht9 hW⟩, hS.F ht9⟩) hS.2.2 dX1_init_71
set_option maxHeartbeats 4000000 in
set_option maxRecDepth 100000 in
/-- X8_init -/
theorem c_X8_init (l : Launch) (dC : Nat → ClassId) (dI : Nat → Nat → Nat) (sz : Nat) (h : Nat) (b : Nat) : Met l yX8_init (wc yX8_init cX8_init 2 none) ({ frames := 1, cells := 1, slots := 200, locals := 40 } : Room) (pW (dC, dI) classes [(h, .inr (8, [.null, .null, .int 0, .int 0, .int 0, .int 0]))] [] sz [.ref h, .ref b]) (va_Qv (fun _ : ((Nat → Nat → Nat) × (Nat → Nat → ClassId)) => True) (fun u t => va_P (dC, dI) classes [(h, .inr (8, [.ref b, .ref (u.1 8 1), .int 0, .int (-1), .int 0, .int 0])), ((u.1 8 1), .inl ((u.2 8 1), 200, .inl (fun _ => 0)))] t.heap ∧ va_K (dC, dI) classes [((u.2 8 1), .byte)] t ∧ va_D (va_A [(h, .inr (8, [.null, .null, .int 0, .int 0, .int 0, .int 0]))] sz) [(h, .inr (8, [.ref b, .ref (u.1 8 1), .int 0, .int (-1), .int 0, .int 0])), ((u.1 8 1), .inl ((u.2 8 1), 200, .inl (fun _ => 0)))]) (va_A [(h, .inr (8, [.null, .null, .int 0, .int 0, .int 0, .int 0]))] sz)) 1 200 (va_A [(h, .inr (8, [.null, .null, .int 0, .int 0, .int 0, .int 0]))] sz) := by
  refine Met.ofW (cc := cX8_init) (maxL := 2) (ret := none) (by decide) rfl ?_
  intro p e s m args below meth c s₁ B hml hv
  obtain ⟨rfl, hsz, hP, hK, hD0⟩ := hv
  have hx := B.exec
  have hb := B.bytes
  have hr := B.returns
  have ht := tb_tl (atoms_spec (ws := wc yX8_init cX8_init 2 none) B.pre)
  have hown : s.vm.findClass RX8 = some m.cls := findClass_of_methodNamed B.named
  have hlocks := B.notSynchronized
  have hin : meth.name = "<init>" := (name_of_methodNamed B.named B.method).1
  subst hsz
  have hD := hD0.self (sz := s.heap.size)
  generalize hAe : va_A [(h, .inr (8, [.null, .null, .int 0, .int 0, .int 0, .int 0]))] s.heap.size = A at hD ⊢
  have hA : ∀ q : Nat, s.heap.size ≤ q → A q := fun q h => by rw [← hAe]; exact Or.inr h
  have hS : va_S A s.heap s.heap [] := va_S.rf
  have hP : va_P (dC, dI) classes [(h, .inr (8, [.null, .null, .int 0, .int 0, .int 0, .int 0]))] s.heap := hP
  have hl := lv_entry [.ref h, .ref b] (n := 2) (Nat.le_of_ble_eq_true rfl)
  rw [lg_entry_eq]
  generalize (lg_sl [.ref h, .ref b] ++ List.replicate (2 - (lg_sl [.ref h, .ref b]).length) Slot.unset).toArray = ls at hl ⊢
  have hl : lv_has ls 2 [(0, .ref h), (1, .ref b)] := hl
  refine lv_aload_n hx hb dX8_init_0 rfl (lv_at hl 0 rfl) ?_
  refine W.objInit hx hb hown (ht _ m_227) (ht _ m_103) (ht _ m_104) rfl (by rw [hml]; exact hl.1) rfl dX8_init_1 (Nat.le_of_ble_eq_true rfl) (Nat.le_of_ble_eq_true rfl) ?_
  refine W.eq (g2 := F0 m 4 ls []) rfl ?_
  refine lv_aload_n hx hb dX8_init_4 rfl (lv_at hl 0 rfl) ?_
  refine lv_sipush (v := 200) hx hb dX8_init_5 (by decide) ?_
  refine va_newa (atype := .byte) (ty := .byte) (a0 := (200, .inl (fun _ => 0))) (N' := 200) hx hb (ht _ m_220) rfl hK hP hD hS hA (fun _ => rfl) (by decide) (by decide) (by decide) (Nat.le_of_ble_eq_true rfl) (Nat.le_of_ble_eq_true rfl) dX8_init_8 (fun q1 ca2 H hK hP hD hS => ?_)
  obtain ⟨ws9, hP, hD, he9⟩ : ∃ ws9 : va_W, va_P (dC, dI) classes ws9 H ∧ va_D A ws9 ∧ ws9 = [(h, .inr (8, [.null, .null, .int 0, .int 0, .int 0, .int 0])), (q1, .inl (ca2, 200, .inl (fun _ => 0)))] := ⟨_, hP, hD, rfl⟩
  subst he9
  have hK : va_K (dC, dI) classes [(ca2, .byte)] s := hK
  refine W.widen (k := 1) (n := 200) (by decide) (by decide) ?_
  refine va_putF (D := (dC, dI)) (ci := 8) (v := .ref q1) (ty := (.array .byte)) (C := RX8) (T := TX8) (N := 6) hx hb ht inX8 tyX8 tyX8_ok nmX8 hown hK hP hD hS 0 rfl rfl 1 (by decide) (ht _ m_229) (fun _ h9 => h9) rfl hin rfl (by decide +kernel) rfl rfl (Nat.le_of_ble_eq_true rfl) dX8_init_10 (fun H locs hP hD hS => ?_)
  obtain ⟨ws9, hP, hD, he9⟩ : ∃ ws9 : va_W, va_P (dC, dI) classes ws9 H ∧ va_D A ws9 ∧ ws9 = [(h, .inr (8, [.null, .ref q1, .int 0, .int 0, .int 0, .int 0])), (q1, .inl (ca2, 200, .inl (fun _ => 0)))] := ⟨_, hP, hD, rfl⟩
  subst he9
  refine lv_aload_n hx hb dX8_init_13 rfl (lv_at hl 0 rfl) ?_
  refine lv_iconst (v := 0) hx hb dX8_init_14 (by decide) ?_
  refine va_put (D := (dC, dI)) (ci := 8) (v := .int 0) (ty := (.int)) (C := RX8) (T := TX8) (N := 6) hx hb ht inX8 tyX8 tyX8_ok nmX8 hown hK hP hD hS 0 rfl rfl 2 (by decide) (ht _ m_230) (fun _ h9 => h9) rfl (by decide +kernel) rfl rfl (Nat.le_of_ble_eq_true rfl) dX8_init_15 (fun H locs hP hD hS => ?_)
  obtain ⟨ws9, hP, hD, he9⟩ : ∃ ws9 : va_W, va_P (dC, dI) classes ws9 H ∧ va_D A ws9 ∧ ws9 = [(h, .inr (8, [.null, .ref q1, .int 0, .int 0, .int 0, .int 0])), (q1, .inl (ca2, 200, .inl (fun _ => 0)))] := ⟨_, hP, hD, rfl⟩
  subst he9
  refine lv_aload_n hx hb dX8_init_18 rfl (lv_at hl 0 rfl) ?_
  refine lv_iconst (v := (-1)) hx hb dX8_init_19 (by decide) ?_
  refine va_put (D := (dC, dI)) (ci := 8) (v := .int (-1)) (ty := (.int)) (C := RX8) (T := TX8) (N := 6) hx hb ht inX8 tyX8 tyX8_ok nmX8 hown hK hP hD hS 0 rfl rfl 3 (by decide) (ht _ m_232) (fun _ h9 => h9) rfl (by decide +kernel) rfl rfl (Nat.le_of_ble_eq_true rfl) dX8_init_20 (fun H locs hP hD hS => ?_)
  obtain ⟨ws9, hP, hD, he9⟩ : ∃ ws9 : va_W, va_P (dC, dI) classes ws9 H ∧ va_D A ws9 ∧ ws9 = [(h, .inr (8, [.null, .ref q1, .int 0, .int (-1), .int 0, .int 0])), (q1, .inl (ca2, 200, .inl (fun _ => 0)))] := ⟨_, hP, hD, rfl⟩
  subst he9
  refine lv_aload_n hx hb dX8_init_23 rfl (lv_at hl 0 rfl) ?_
  refine lv_iconst (v := 0) hx hb dX8_init_24 (by decide) ?_
  refine va_put (D := (dC, dI)) (ci := 8) (v := .int 0) (ty := (.int)) (C := RX8) (T := TX8) (N := 6) hx hb ht inX8 tyX8 tyX8_ok nmX8 hown hK hP hD hS 0 rfl rfl 4 (by decide) (ht _ m_234) (fun _ h9 => h9) rfl (by decide +kernel) rfl rfl (Nat.le_of_ble_eq_true rfl) dX8_init_25 (fun H locs hP hD hS => ?_)
  obtain ⟨ws9, hP, hD, he9⟩ : ∃ ws9 : va_W, va_P (dC, dI) classes ws9 H ∧ va_D A ws9 ∧ ws9 = [(h, .inr (8, [.null, .ref q1, .int 0, .int (-1), .int 0, .int 0])), (q1, .inl (ca2, 200, .inl (fun _ => 0)))] := ⟨_, hP, hD, rfl⟩
  subst he9
  refine lv_aload_n hx hb dX8_init_28 rfl (lv_at hl 0 rfl) ?_
  refine lv_iconst (v := 0) hx hb dX8_init_29 (by decide) ?_
  refine va_put (D := (dC, dI)) (ci := 8) (v := .int 0) (ty := (.int)) (C := RX8) (T := TX8) (N := 6) hx hb ht inX8 tyX8 tyX8_ok nmX8 hown hK hP hD hS 0 rfl rfl 5 (by decide) (ht _ m_235) (fun _ h9 => h9) rfl (by decide +kernel) rfl rfl (Nat.le_of_ble_eq_true rfl) dX8_init_30 (fun H locs hP hD hS => ?_)
  obtain ⟨ws9, hP, hD, he9⟩ : ∃ ws9 : va_W, va_P (dC, dI) classes ws9 H ∧ va_D A ws9 ∧ ws9 = [(h, .inr (8, [.null, .ref q1, .int 0, .int (-1), .int 0, .int 0])), (q1, .inl (ca2, 200, .inl (fun _ => 0)))] := ⟨_, hP, hD, rfl⟩
  subst he9
  refine lv_aload_n hx hb dX8_init_33 rfl (lv_at hl 0 rfl) ?_
  refine lv_aload_n hx hb dX8_init_34 rfl (lv_at hl 1 rfl) ?_
  refine va_putF (D := (dC, dI)) (ci := 8) (v := .ref b) (ty := (.object "SilkHouse$Book")) (C := RX8) (T := TX8) (N := 6) hx hb ht inX8 tyX8 tyX8_ok nmX8 hown hK hP hD hS 0 rfl rfl 0 (by decide) (ht _ m_228) (fun _ h9 => h9) rfl hin rfl (by decide +kernel) rfl rfl (Nat.le_of_ble_eq_true rfl) dX8_init_35 (fun H locs hP hD hS => ?_)
  obtain ⟨ws9, hP, hD, he9⟩ : ∃ ws9 : va_W, va_P (dC, dI) classes ws9 H ∧ va_D A ws9 ∧ ws9 = [(h, .inr (8, [.ref b, .ref q1, .int 0, .int (-1), .int 0, .int 0])), (q1, .inl (ca2, 200, .inl (fun _ => 0)))] := ⟨_, hP, hD, rfl⟩
  subst he9
  have hP9 := hP.sub (ws' := [(h, .inr (8, [.ref b, .ref q1, .int 0, .int (-1), .int 0, .int 0])), (q1, .inl (ca2, 200, .inl (fun _ => 0)))]) [0, 1] rfl
  have hD9 := hD.sub (ws' := [(h, .inr (8, [.ref b, .ref q1, .int 0, .int (-1), .int 0, .int 0])), (q1, .inl (ca2, 200, .inl (fun _ => 0)))]) [0, 1] (by decide) rfl
  have hK9 := hK.sub (tys' := [(ca2, .byte)]) [0] rfl
  obtain ⟨u9, hu9⟩ : ∃ u : (Nat → Nat → Nat) × (Nat → Nat → ClassId), u = ((fun i j => (([[], [], [], [], [], [], [], [], [0, q1]] : List (List _)).getD i []).getD j 0), (fun i j => (([[], [], [], [], [], [], [], [], [ca2, ca2]] : List (List _)).getD i []).getD j ca2)) := ⟨_, rfl⟩
  have hB9 : ∀ t : State, t.heap = H → s.WarmedH t.vm → (fun u t => va_P (dC, dI) classes [(h, .inr (8, [.ref b, .ref (u.1 8 1), .int 0, .int (-1), .int 0, .int 0])), ((u.1 8 1), .inl ((u.2 8 1), 200, .inl (fun _ => 0)))] t.heap ∧ va_K (dC, dI) classes [((u.2 8 1), .byte)] t ∧ va_D A [(h, .inr (8, [.ref b, .ref (u.1 8 1), .int 0, .int (-1), .int 0, .int 0])), ((u.1 8 1), .inl ((u.2 8 1), 200, .inl (fun _ => 0)))]) u9 t := by
    intro t ht9 hW
    rw [hu9]
    exact ⟨by rw [ht9]; exact hP9, va_K.moved hW.alike hK9, hD9⟩
  exact W.vret hx hb hr (fun t ht9 hW => ⟨⟨u9, rfl, trivial, hB9 t ht9 hW⟩, hS.F ht9⟩) hS.2.2 dX8_init_38
set_option maxHeartbeats 4000000 in
set_option maxRecDepth 100000 in
/-- X7_init -/
theorem c_X7_init (l : Launch) (dC : Nat → ClassId) (dI : Nat → Nat → Nat) (sz : Nat) (h : Nat) : Met l yX7_init (wc yX7_init cX7_init 1 none) ({ frames := 1, cells := 3, slots := 9, locals := 40 } : Room) (pW (dC, dI) classes [(h, .inr (7, [.null, .null, .null]))] [] sz [.ref h]) (va_Qv (fun _ : ((Nat → Nat → Nat) × (Nat → Nat → ClassId)) => True) (fun u t => va_P (dC, dI) classes [(h, .inr (7, [.ref (u.1 7 0), .ref (u.1 7 1), .ref (u.1 7 2)])), ((u.1 7 0), .inl ((u.2 7 0), 3, .inr (.inl (fun _ => 0)))), ((u.1 7 1), .inl ((u.2 7 1), 3, .inr (.inl (fun _ => 0)))), ((u.1 7 2), .inl ((u.2 7 2), 3, .inl (fun _ => 0)))] t.heap ∧ va_K (dC, dI) classes [((u.2 7 0), .long), ((u.2 7 1), .long), ((u.2 7 2), .int)] t ∧ va_D (va_A [(h, .inr (7, [.null, .null, .null]))] sz) [(h, .inr (7, [.ref (u.1 7 0), .ref (u.1 7 1), .ref (u.1 7 2)])), ((u.1 7 0), .inl ((u.2 7 0), 3, .inr (.inl (fun _ => 0)))), ((u.1 7 1), .inl ((u.2 7 1), 3, .inr (.inl (fun _ => 0)))), ((u.1 7 2), .inl ((u.2 7 2), 3, .inl (fun _ => 0)))]) (va_A [(h, .inr (7, [.null, .null, .null]))] sz)) 3 9 (va_A [(h, .inr (7, [.null, .null, .null]))] sz) := by
  refine Met.ofW (cc := cX7_init) (maxL := 1) (ret := none) (by decide) rfl ?_
  intro p e s m args below meth c s₁ B hml hv
  obtain ⟨rfl, hsz, hP, hK, hD0⟩ := hv
  have hx := B.exec
  have hb := B.bytes
  have hr := B.returns
  have ht := tb_tl (atoms_spec (ws := wc yX7_init cX7_init 1 none) B.pre)
  have hown : s.vm.findClass RX7 = some m.cls := findClass_of_methodNamed B.named
  have hlocks := B.notSynchronized
  have hin : meth.name = "<init>" := (name_of_methodNamed B.named B.method).1
  subst hsz
  have hD := hD0.self (sz := s.heap.size)
  generalize hAe : va_A [(h, .inr (7, [.null, .null, .null]))] s.heap.size = A at hD ⊢
  have hA : ∀ q : Nat, s.heap.size ≤ q → A q := fun q h => by rw [← hAe]; exact Or.inr h
  have hS : va_S A s.heap s.heap [] := va_S.rf
  have hP : va_P (dC, dI) classes [(h, .inr (7, [.null, .null, .null]))] s.heap := hP
  have hl := lv_entry [.ref h] (n := 1) (Nat.le_of_ble_eq_true rfl)
  rw [lg_entry_eq]
  generalize (lg_sl [.ref h] ++ List.replicate (1 - (lg_sl [.ref h]).length) Slot.unset).toArray = ls at hl ⊢
  have hl : lv_has ls 1 [(0, .ref h)] := hl
  refine lv_aload_n hx hb dX7_init_0 rfl (lv_at hl 0 rfl) ?_
  refine W.objInit hx hb hown (ht _ m_260) (ht _ m_103) (ht _ m_104) rfl (by rw [hml]; exact hl.1) rfl dX7_init_1 (Nat.le_of_ble_eq_true rfl) (Nat.le_of_ble_eq_true rfl) ?_
  refine W.eq (g2 := F0 m 4 ls []) rfl ?_
  refine lv_aload_n hx hb dX7_init_4 rfl (lv_at hl 0 rfl) ?_
  refine lv_iconst (v := 3) hx hb dX7_init_5 (by decide) ?_
  refine va_newa (atype := .long) (ty := .long) (a0 := (3, .inr (.inl (fun _ => 0)))) (N' := 3) hx hb (ht _ m_278) rfl hK hP hD hS hA (fun _ => rfl) (by decide) (by decide) (by decide) (Nat.le_of_ble_eq_true rfl) (Nat.le_of_ble_eq_true rfl) dX7_init_6 (fun q1 ca2 H hK hP hD hS => ?_)
  obtain ⟨ws9, hP, hD, he9⟩ : ∃ ws9 : va_W, va_P (dC, dI) classes ws9 H ∧ va_D A ws9 ∧ ws9 = [(h, .inr (7, [.null, .null, .null])), (q1, .inl (ca2, 3, .inr (.inl (fun _ => 0))))] := ⟨_, hP, hD, rfl⟩
  subst he9
  have hK : va_K (dC, dI) classes [(ca2, .long)] s := hK
  refine W.widen (k := 1) (n := 3) (by decide) (by decide) ?_
  refine va_putF (D := (dC, dI)) (ci := 7) (v := .ref q1) (ty := (.array .long)) (C := RX7) (T := TX7) (N := 3) hx hb ht inX7 tyX7 tyX7_ok nmX7 hown hK hP hD hS 0 rfl rfl 0 (by decide) (ht _ m_261) (fun _ h9 => h9) rfl hin rfl (by decide +kernel) rfl rfl (Nat.le_of_ble_eq_true rfl) dX7_init_8 (fun H locs hP hD hS => ?_)
  obtain ⟨ws9, hP, hD, he9⟩ : ∃ ws9 : va_W, va_P (dC, dI) classes ws9 H ∧ va_D A ws9 ∧ ws9 = [(h, .inr (7, [.ref q1, .null, .null])), (q1, .inl (ca2, 3, .inr (.inl (fun _ => 0))))] := ⟨_, hP, hD, rfl⟩
  subst he9
  refine lv_aload_n hx hb dX7_init_11 rfl (lv_at hl 0 rfl) ?_
  refine lv_iconst (v := 3) hx hb dX7_init_12 (by decide) ?_
  refine va_newa (atype := .long) (ty := .long) (a0 := (3, .inr (.inl (fun _ => 0)))) (N' := 3) hx hb (ht _ m_278) rfl hK hP hD hS hA (fun _ => rfl) (by decide) (by decide) (by decide) (Nat.le_of_ble_eq_true rfl) (Nat.le_of_ble_eq_true rfl) dX7_init_13 (fun q3 ca4 H hK hP hD hS => ?_)
  obtain ⟨ws9, hP, hD, he9⟩ : ∃ ws9 : va_W, va_P (dC, dI) classes ws9 H ∧ va_D A ws9 ∧ ws9 = [(h, .inr (7, [.ref q1, .null, .null])), (q1, .inl (ca2, 3, .inr (.inl (fun _ => 0)))), (q3, .inl (ca4, 3, .inr (.inl (fun _ => 0))))] := ⟨_, hP, hD, rfl⟩
  subst he9
  have hK : va_K (dC, dI) classes [(ca2, .long), (ca4, .long)] s := hK
  refine W.widen (k := 2) (n := 6) (by decide) (by decide) ?_
  refine va_putF (D := (dC, dI)) (ci := 7) (v := .ref q3) (ty := (.array .long)) (C := RX7) (T := TX7) (N := 3) hx hb ht inX7 tyX7 tyX7_ok nmX7 hown hK hP hD hS 0 rfl rfl 1 (by decide) (ht _ m_264) (fun _ h9 => h9) rfl hin rfl (by decide +kernel) rfl rfl (Nat.le_of_ble_eq_true rfl) dX7_init_15 (fun H locs hP hD hS => ?_)
  obtain ⟨ws9, hP, hD, he9⟩ : ∃ ws9 : va_W, va_P (dC, dI) classes ws9 H ∧ va_D A ws9 ∧ ws9 = [(h, .inr (7, [.ref q1, .ref q3, .null])), (q1, .inl (ca2, 3, .inr (.inl (fun _ => 0)))), (q3, .inl (ca4, 3, .inr (.inl (fun _ => 0))))] := ⟨_, hP, hD, rfl⟩
  subst he9
  refine lv_aload_n hx hb dX7_init_18 rfl (lv_at hl 0 rfl) ?_
  refine lv_iconst (v := 3) hx hb dX7_init_19 (by decide) ?_
  refine va_newa (atype := .int) (ty := .int) (a0 := (3, .inl (fun _ => 0))) (N' := 3) hx hb (ht _ m_125) rfl hK hP hD hS hA (fun _ => rfl) (by decide) (by decide) (by decide) (Nat.le_of_ble_eq_true rfl) (Nat.le_of_ble_eq_true rfl) dX7_init_20 (fun q5 ca6 H hK hP hD hS => ?_)
  obtain ⟨ws9, hP, hD, he9⟩ : ∃ ws9 : va_W, va_P (dC, dI) classes ws9 H ∧ va_D A ws9 ∧ ws9 = [(h, .inr (7, [.ref q1, .ref q3, .null])), (q1, .inl (ca2, 3, .inr (.inl (fun _ => 0)))), (q3, .inl (ca4, 3, .inr (.inl (fun _ => 0)))), (q5, .inl (ca6, 3, .inl (fun _ => 0)))] := ⟨_, hP, hD, rfl⟩
  subst he9
  have hK : va_K (dC, dI) classes [(ca2, .long), (ca4, .long), (ca6, .int)] s := hK
  refine W.widen (k := 3) (n := 9) (by decide) (by decide) ?_
  refine va_putF (D := (dC, dI)) (ci := 7) (v := .ref q5) (ty := (.array .int)) (C := RX7) (T := TX7) (N := 3) hx hb ht inX7 tyX7 tyX7_ok nmX7 hown hK hP hD hS 0 rfl rfl 2 (by decide) (ht _ m_267) (fun _ h9 => h9) rfl hin rfl (by decide +kernel) rfl rfl (Nat.le_of_ble_eq_true rfl) dX7_init_22 (fun H locs hP hD hS => ?_)
  obtain ⟨ws9, hP, hD, he9⟩ : ∃ ws9 : va_W, va_P (dC, dI) classes ws9 H ∧ va_D A ws9 ∧ ws9 = [(h, .inr (7, [.ref q1, .ref q3, .ref q5])), (q1, .inl (ca2, 3, .inr (.inl (fun _ => 0)))), (q3, .inl (ca4, 3, .inr (.inl (fun _ => 0)))), (q5, .inl (ca6, 3, .inl (fun _ => 0)))] := ⟨_, hP, hD, rfl⟩
  subst he9
  have hP9 := hP.sub (ws' := [(h, .inr (7, [.ref q1, .ref q3, .ref q5])), (q1, .inl (ca2, 3, .inr (.inl (fun _ => 0)))), (q3, .inl (ca4, 3, .inr (.inl (fun _ => 0)))), (q5, .inl (ca6, 3, .inl (fun _ => 0)))]) [0, 1, 2, 3] rfl
  have hD9 := hD.sub (ws' := [(h, .inr (7, [.ref q1, .ref q3, .ref q5])), (q1, .inl (ca2, 3, .inr (.inl (fun _ => 0)))), (q3, .inl (ca4, 3, .inr (.inl (fun _ => 0)))), (q5, .inl (ca6, 3, .inl (fun _ => 0)))]) [0, 1, 2, 3] (by decide) rfl
  have hK9 := hK.sub (tys' := [(ca2, .long), (ca4, .long), (ca6, .int)]) [0, 1, 2] rfl
  obtain ⟨u9, hu9⟩ : ∃ u : (Nat → Nat → Nat) × (Nat → Nat → ClassId), u = ((fun i j => (([[], [], [], [], [], [], [], [q1, q3, q5]] : List (List _)).getD i []).getD j 0), (fun i j => (([[], [], [], [], [], [], [], [ca2, ca4, ca6]] : List (List _)).getD i []).getD j ca2)) := ⟨_, rfl⟩
  have hB9 : ∀ t : State, t.heap = H → s.WarmedH t.vm → (fun u t => va_P (dC, dI) classes [(h, .inr (7, [.ref (u.1 7 0), .ref (u.1 7 1), .ref (u.1 7 2)])), ((u.1 7 0), .inl ((u.2 7 0), 3, .inr (.inl (fun _ => 0)))), ((u.1 7 1), .inl ((u.2 7 1), 3, .inr (.inl (fun _ => 0)))), ((u.1 7 2), .inl ((u.2 7 2), 3, .inl (fun _ => 0)))] t.heap ∧ va_K (dC, dI) classes [((u.2 7 0), .long), ((u.2 7 1), .long), ((u.2 7 2), .int)] t ∧ va_D A [(h, .inr (7, [.ref (u.1 7 0), .ref (u.1 7 1), .ref (u.1 7 2)])), ((u.1 7 0), .inl ((u.2 7 0), 3, .inr (.inl (fun _ => 0)))), ((u.1 7 1), .inl ((u.2 7 1), 3, .inr (.inl (fun _ => 0)))), ((u.1 7 2), .inl ((u.2 7 2), 3, .inl (fun _ => 0)))]) u9 t := by
    intro t ht9 hW
    rw [hu9]
    exact ⟨by rw [ht9]; exact hP9, va_K.moved hW.alike hK9, hD9⟩
  exact W.vret hx hb hr (fun t ht9 hW => ⟨⟨u9, rfl, trivial, hB9 t ht9 hW⟩, hS.F ht9⟩) hS.2.2 dX7_init_25
set_option maxHeartbeats 4000000 in
set_option maxRecDepth 100000 in
/-- X3_init -/
theorem c_X3_init (l : Launch) (dC : Nat → ClassId) (dI : Nat → Nat → Nat) (sz : Nat) (h : Nat) (a : Nat) (b : Nat) : Met l yX3_init (wc yX3_init cX3_init 3 none) ({ frames := 2, cells := 4, slots := 12, locals := 60 } : Room) (va_Pc [.ref h, .ref a, .ref b] (fun U => U.heap.size = sz ∧ va_P (dC, dI) classes [(h, .inr (3, [.null, .null, .null, .int 0, .int 0]))] U.heap ∧ va_K (dC, dI) classes [] U ∧ va_D (fun _ => True) [(h, .inr (3, [.null, .null, .null, .int 0, .int 0]))] ∧ nw U)) (va_Qv (fun _ : ((Nat → Nat → Nat) × (Nat → Nat → ClassId)) => True) (fun u t => va_P (dC, dI) classes [(h, .inr (3, [.ref a, .ref b, .ref (u.1 3 2), .int 0, .int 0])), ((u.1 3 2), .inr (7, [.ref (u.1 30 0), .ref (u.1 30 1), .ref (u.1 30 2)])), ((u.1 30 0), .inl ((u.2 30 0), 3, .inr (.inl (fun _ => 0)))), ((u.1 30 1), .inl ((u.2 30 1), 3, .inr (.inl (fun _ => 0)))), ((u.1 30 2), .inl ((u.2 30 2), 3, .inl (fun _ => 0)))] t.heap ∧ va_K (dC, dI) classes [((u.2 30 0), .long), ((u.2 30 1), .long), ((u.2 30 2), .int)] t ∧ va_D (va_A [(h, .inr (3, [.null, .null, .null, .int 0, .int 0]))] sz) [(h, .inr (3, [.ref a, .ref b, .ref (u.1 3 2), .int 0, .int 0])), ((u.1 3 2), .inr (7, [.ref (u.1 30 0), .ref (u.1 30 1), .ref (u.1 30 2)])), ((u.1 30 0), .inl ((u.2 30 0), 3, .inr (.inl (fun _ => 0)))), ((u.1 30 1), .inl ((u.2 30 1), 3, .inr (.inl (fun _ => 0)))), ((u.1 30 2), .inl ((u.2 30 2), 3, .inl (fun _ => 0)))]) (va_A [(h, .inr (3, [.null, .null, .null, .int 0, .int 0]))] sz)) 4 12 (va_A [(h, .inr (3, [.null, .null, .null, .int 0, .int 0]))] sz) := by
  refine Met.ofW (cc := cX3_init) (maxL := 3) (ret := none) (by decide) rfl ?_
  intro p e s m args below meth c s₁ B hml hv
  obtain ⟨rfl, hsz, hP, hK, hD0, hN⟩ := hv
  have hx := B.exec
  have hb := B.bytes
  have hr := B.returns
  have ht := tb_tl (atoms_spec (ws := wc yX3_init cX3_init 3 none) B.pre)
  have hown : s.vm.findClass RX3 = some m.cls := findClass_of_methodNamed B.named
  have hlocks := B.notSynchronized
  have hin : meth.name = "<init>" := (name_of_methodNamed B.named B.method).1
  subst hsz
  have hD := hD0.self (sz := s.heap.size)
  generalize hAe : va_A [(h, .inr (3, [.null, .null, .null, .int 0, .int 0]))] s.heap.size = A at hD ⊢
  have hA : ∀ q : Nat, s.heap.size ≤ q → A q := fun q h => by rw [← hAe]; exact Or.inr h
  have hS : va_S A s.heap s.heap [] := va_S.rf
  have hP : va_P (dC, dI) classes [(h, .inr (3, [.null, .null, .null, .int 0, .int 0]))] s.heap := hP
  have hl := lv_entry [.ref h, .ref a, .ref b] (n := 3) (Nat.le_of_ble_eq_true rfl)
  rw [lg_entry_eq]
  generalize (lg_sl [.ref h, .ref a, .ref b] ++ List.replicate (3 - (lg_sl [.ref h, .ref a, .ref b]).length) Slot.unset).toArray = ls at hl ⊢
  have hl : lv_has ls 3 [(0, .ref h), (1, .ref a), (2, .ref b)] := hl
  refine lv_aload_n hx hb dX3_init_0 rfl (lv_at hl 0 rfl) ?_
  refine W.objInit hx hb hown (ht _ m_254) (ht _ m_103) (ht _ m_104) rfl (by rw [hml]; exact hl.1) rfl dX3_init_1 (Nat.le_of_ble_eq_true rfl) (Nat.le_of_ble_eq_true rfl) ?_
  refine W.eq (g2 := F0 m 4 ls []) rfl ?_
  refine lv_aload_n hx hb dX3_init_4 rfl (lv_at hl 0 rfl) ?_
  refine va_new (ci := 7) (fs := [.null, .null, .null]) (C := RX7) (T := TX7) (N := 3) hx hb ht inX7 tyX7 tyX7_ok hown (ht _ m_255) (ht _ m_256) (ht _ m_84) hK hP hD hS hA rfl (new_X7) (Nat.le_of_ble_eq_true rfl) (Nat.le_of_ble_eq_true rfl) dX3_init_5 (fun q1 H hP hD hS => ?_)
  obtain ⟨ws9, hP, hD, he9⟩ : ∃ ws9 : va_W, va_P (dC, dI) classes ws9 H ∧ va_D A ws9 ∧ ws9 = [(h, .inr (3, [.null, .null, .null, .int 0, .int 0])), (q1, .inr (7, [.null, .null, .null]))] := ⟨_, hP, hD, rfl⟩
  subst he9
  refine W.widen (k := 1) (n := 3) (by decide) (by decide) ?_
  refine lv_dup hx hb dX3_init_8 rfl ?_
  have hPc := hP.sub (ws' := [(q1, .inr (7, [.null, .null, .null]))]) [1] rfl
  have hKc := hK.sub (tys' := []) [] rfl
  have hDc := hD.sub (ws' := [(q1, .inr (7, [.null, .null, .null]))]) [1] (by decide) rfl
  have hFc := va_free (wc := [(q1, .inr (7, [.null, .null, .null]))]) hD hS hA [1] rfl
  refine va_callv (va_runIN (As := []) (rest := [.ref q1, .ref h]) ⟨hx, hb, hml, hown, ht⟩ (c_X7_init l dC dI H.size q1) ⟨va_cnB 0 ht (tb_wc m_259) rfl rfl rfl (nwl_4 hN) (ht _ m_84) hd_X7_init_i ⟨Nat.le_of_ble_eq_true rfl, Nat.le_of_ble_eq_true rfl⟩, rfl, ht _ m_258⟩ (sW hPc hKc hDc) rfl rfl hl.1 rfl (lv_room (Nat.le_of_ble_eq_true rfl)) dX3_init_9 ⟨Nat.le_of_ble_eq_true rfl, Nat.le_of_ble_eq_true rfl⟩) hS (fun q _ h => hFc q h) hFc (fun u t H1 locs ht9 hvm hw hB hz1 hk1 hS => ?_)
  obtain ⟨g3, c3⟩ := u
  obtain ⟨hP1, hK1, hD1⟩ := hB
  rw [ht9] at hP1
  have hK1 := va_K.moved hvm.symm hK1
  have hP1 : va_P (dC, dI) classes [(q1, .inr (7, [.ref (g3 7 0), .ref (g3 7 1), .ref (g3 7 2)])), ((g3 7 0), .inl ((c3 7 0), 3, .inr (.inl (fun _ => 0)))), ((g3 7 1), .inl ((c3 7 1), 3, .inr (.inl (fun _ => 0)))), ((g3 7 2), .inl ((c3 7 2), 3, .inl (fun _ => 0)))] H1 := hP1
  have hD1 : va_D (va_A [(q1, .inr (7, [.null, .null, .null]))] H.size) [(q1, .inr (7, [.ref (g3 7 0), .ref (g3 7 1), .ref (g3 7 2)])), ((g3 7 0), .inl ((c3 7 0), 3, .inr (.inl (fun _ => 0)))), ((g3 7 1), .inl ((c3 7 1), 3, .inr (.inl (fun _ => 0)))), ((g3 7 2), .inl ((c3 7 2), 3, .inl (fun _ => 0)))] := hD1
  have hK1 : va_K (dC, dI) classes [((c3 7 0), .long), ((c3 7 1), .long), ((c3 7 2), .int)] s := hK1
  obtain ⟨hP, hD⟩ := va_join (wr := [(h, .inr (3, [.null, .null, .null, .int 0, .int 0]))]) (w1 := [(q1, .inr (7, [.ref (g3 7 0), .ref (g3 7 1), .ref (g3 7 2)])), ((g3 7 0), .inl ((c3 7 0), 3, .inr (.inl (fun _ => 0)))), ((g3 7 1), .inl ((c3 7 1), 3, .inr (.inl (fun _ => 0)))), ((g3 7 2), .inl ((c3 7 2), 3, .inl (fun _ => 0)))]) hP hD [1] [0] rfl rfl (by decide) (by decide) hk1 hFc hP1 hD1
  have hK := hK.app hK1
  generalize H1 = H at hP hS ⊢
  obtain ⟨ws9, hP, hD, he9⟩ : ∃ ws9 : va_W, va_P (dC, dI) classes ws9 H ∧ va_D A ws9 ∧ ws9 = [(h, .inr (3, [.null, .null, .null, .int 0, .int 0])), (q1, .inr (7, [.ref (g3 7 0), .ref (g3 7 1), .ref (g3 7 2)])), ((g3 7 0), .inl ((c3 7 0), 3, .inr (.inl (fun _ => 0)))), ((g3 7 1), .inl ((c3 7 1), 3, .inr (.inl (fun _ => 0)))), ((g3 7 2), .inl ((c3 7 2), 3, .inl (fun _ => 0)))] := ⟨_, hP, hD, rfl⟩
  subst he9
  have hK : va_K (dC, dI) classes [((c3 7 0), .long), ((c3 7 1), .long), ((c3 7 2), .int)] s := hK
  refine W.widen (k := 4) (n := 12) (by decide) (by decide) ?_
  refine va_putF (D := (dC, dI)) (ci := 3) (v := .ref q1) (ty := (.object "SilkHouse$Piles")) (C := RX3) (T := TX3) (N := 5) hx hb ht inX3 tyX3 tyX3_ok nmX3 hown hK hP hD hS 0 rfl rfl 2 (by decide) (ht _ m_281) (fun _ h9 => h9) rfl hin rfl (by decide +kernel) rfl rfl (Nat.le_of_ble_eq_true rfl) dX3_init_12 (fun H locs hP hD hS => ?_)
  obtain ⟨ws9, hP, hD, he9⟩ : ∃ ws9 : va_W, va_P (dC, dI) classes ws9 H ∧ va_D A ws9 ∧ ws9 = [(h, .inr (3, [.null, .null, .ref q1, .int 0, .int 0])), (q1, .inr (7, [.ref (g3 7 0), .ref (g3 7 1), .ref (g3 7 2)])), ((g3 7 0), .inl ((c3 7 0), 3, .inr (.inl (fun _ => 0)))), ((g3 7 1), .inl ((c3 7 1), 3, .inr (.inl (fun _ => 0)))), ((g3 7 2), .inl ((c3 7 2), 3, .inl (fun _ => 0)))] := ⟨_, hP, hD, rfl⟩
  subst he9
  refine lv_aload_n hx hb dX3_init_15 rfl (lv_at hl 0 rfl) ?_
  refine lv_iconst (v := 0) hx hb dX3_init_16 (by decide) ?_
  refine va_put (D := (dC, dI)) (ci := 3) (v := .int 0) (ty := (.int)) (C := RX3) (T := TX3) (N := 5) hx hb ht inX3 tyX3 tyX3_ok nmX3 hown hK hP hD hS 0 rfl rfl 3 (by decide) (ht _ m_283) (fun _ h9 => h9) rfl (by decide +kernel) rfl rfl (Nat.le_of_ble_eq_true rfl) dX3_init_17 (fun H locs hP hD hS => ?_)
  obtain ⟨ws9, hP, hD, he9⟩ : ∃ ws9 : va_W, va_P (dC, dI) classes ws9 H ∧ va_D A ws9 ∧ ws9 = [(h, .inr (3, [.null, .null, .ref q1, .int 0, .int 0])), (q1, .inr (7, [.ref (g3 7 0), .ref (g3 7 1), .ref (g3 7 2)])), ((g3 7 0), .inl ((c3 7 0), 3, .inr (.inl (fun _ => 0)))), ((g3 7 1), .inl ((c3 7 1), 3, .inr (.inl (fun _ => 0)))), ((g3 7 2), .inl ((c3 7 2), 3, .inl (fun _ => 0)))] := ⟨_, hP, hD, rfl⟩
  subst he9
  refine lv_aload_n hx hb dX3_init_20 rfl (lv_at hl 0 rfl) ?_
  refine lv_iconst (v := 0) hx hb dX3_init_21 (by decide) ?_
  refine va_put (D := (dC, dI)) (ci := 3) (v := .int 0) (ty := (.int)) (C := RX3) (T := TX3) (N := 5) hx hb ht inX3 tyX3 tyX3_ok nmX3 hown hK hP hD hS 0 rfl rfl 4 (by decide) (ht _ m_284) (fun _ h9 => h9) rfl (by decide +kernel) rfl rfl (Nat.le_of_ble_eq_true rfl) dX3_init_22 (fun H locs hP hD hS => ?_)
  obtain ⟨ws9, hP, hD, he9⟩ : ∃ ws9 : va_W, va_P (dC, dI) classes ws9 H ∧ va_D A ws9 ∧ ws9 = [(h, .inr (3, [.null, .null, .ref q1, .int 0, .int 0])), (q1, .inr (7, [.ref (g3 7 0), .ref (g3 7 1), .ref (g3 7 2)])), ((g3 7 0), .inl ((c3 7 0), 3, .inr (.inl (fun _ => 0)))), ((g3 7 1), .inl ((c3 7 1), 3, .inr (.inl (fun _ => 0)))), ((g3 7 2), .inl ((c3 7 2), 3, .inl (fun _ => 0)))] := ⟨_, hP, hD, rfl⟩
  subst he9
  refine lv_aload_n hx hb dX3_init_25 rfl (lv_at hl 0 rfl) ?_
  refine lv_aload_n hx hb dX3_init_26 rfl (lv_at hl 1 rfl) ?_
  refine va_putF (D := (dC, dI)) (ci := 3) (v := .ref a) (ty := (.object "SilkHouse$Skeins")) (C := RX3) (T := TX3) (N := 5) hx hb ht inX3 tyX3 tyX3_ok nmX3 hown hK hP hD hS 0 rfl rfl 0 (by decide) (ht _ m_279) (fun _ h9 => h9) rfl hin rfl (by decide +kernel) rfl rfl (Nat.le_of_ble_eq_true rfl) dX3_init_27 (fun H locs hP hD hS => ?_)
  obtain ⟨ws9, hP, hD, he9⟩ : ∃ ws9 : va_W, va_P (dC, dI) classes ws9 H ∧ va_D A ws9 ∧ ws9 = [(h, .inr (3, [.ref a, .null, .ref q1, .int 0, .int 0])), (q1, .inr (7, [.ref (g3 7 0), .ref (g3 7 1), .ref (g3 7 2)])), ((g3 7 0), .inl ((c3 7 0), 3, .inr (.inl (fun _ => 0)))), ((g3 7 1), .inl ((c3 7 1), 3, .inr (.inl (fun _ => 0)))), ((g3 7 2), .inl ((c3 7 2), 3, .inl (fun _ => 0)))] := ⟨_, hP, hD, rfl⟩
  subst he9
  refine lv_aload_n hx hb dX3_init_30 rfl (lv_at hl 0 rfl) ?_
  refine lv_aload_n hx hb dX3_init_31 rfl (lv_at hl 2 rfl) ?_
  refine va_putF (D := (dC, dI)) (ci := 3) (v := .ref b) (ty := (.object "SilkHouse$Book")) (C := RX3) (T := TX3) (N := 5) hx hb ht inX3 tyX3 tyX3_ok nmX3 hown hK hP hD hS 0 rfl rfl 1 (by decide) (ht _ m_280) (fun _ h9 => h9) rfl hin rfl (by decide +kernel) rfl rfl (Nat.le_of_ble_eq_true rfl) dX3_init_32 (fun H locs hP hD hS => ?_)
  obtain ⟨ws9, hP, hD, he9⟩ : ∃ ws9 : va_W, va_P (dC, dI) classes ws9 H ∧ va_D A ws9 ∧ ws9 = [(h, .inr (3, [.ref a, .ref b, .ref q1, .int 0, .int 0])), (q1, .inr (7, [.ref (g3 7 0), .ref (g3 7 1), .ref (g3 7 2)])), ((g3 7 0), .inl ((c3 7 0), 3, .inr (.inl (fun _ => 0)))), ((g3 7 1), .inl ((c3 7 1), 3, .inr (.inl (fun _ => 0)))), ((g3 7 2), .inl ((c3 7 2), 3, .inl (fun _ => 0)))] := ⟨_, hP, hD, rfl⟩
  subst he9
  have hP9 := hP.sub (ws' := [(h, .inr (3, [.ref a, .ref b, .ref q1, .int 0, .int 0])), (q1, .inr (7, [.ref (g3 7 0), .ref (g3 7 1), .ref (g3 7 2)])), ((g3 7 0), .inl ((c3 7 0), 3, .inr (.inl (fun _ => 0)))), ((g3 7 1), .inl ((c3 7 1), 3, .inr (.inl (fun _ => 0)))), ((g3 7 2), .inl ((c3 7 2), 3, .inl (fun _ => 0)))]) [0, 1, 2, 3, 4] rfl
  have hD9 := hD.sub (ws' := [(h, .inr (3, [.ref a, .ref b, .ref q1, .int 0, .int 0])), (q1, .inr (7, [.ref (g3 7 0), .ref (g3 7 1), .ref (g3 7 2)])), ((g3 7 0), .inl ((c3 7 0), 3, .inr (.inl (fun _ => 0)))), ((g3 7 1), .inl ((c3 7 1), 3, .inr (.inl (fun _ => 0)))), ((g3 7 2), .inl ((c3 7 2), 3, .inl (fun _ => 0)))]) [0, 1, 2, 3, 4] (by decide) rfl
  have hK9 := hK.sub (tys' := [((c3 7 0), .long), ((c3 7 1), .long), ((c3 7 2), .int)]) [0, 1, 2] rfl
  obtain ⟨u9, hu9⟩ : ∃ u : (Nat → Nat → Nat) × (Nat → Nat → ClassId), u = ((fun i j => (([[], [], [], [0, 0, q1], [], [], [], [], [], [], [], [], [], [], [], [], [], [], [], [], [], [], [], [], [], [], [], [], [], [], [(g3 7 0), (g3 7 1), (g3 7 2)]] : List (List _)).getD i []).getD j 0), (fun i j => (([[], [], [], [], [], [], [], [], [], [], [], [], [], [], [], [], [], [], [], [], [], [], [], [], [], [], [], [], [], [], [(c3 7 0), (c3 7 1), (c3 7 2)]] : List (List _)).getD i []).getD j (c3 7 0))) := ⟨_, rfl⟩
  have hB9 : ∀ t : State, t.heap = H → s.WarmedH t.vm → (fun u t => va_P (dC, dI) classes [(h, .inr (3, [.ref a, .ref b, .ref (u.1 3 2), .int 0, .int 0])), ((u.1 3 2), .inr (7, [.ref (u.1 30 0), .ref (u.1 30 1), .ref (u.1 30 2)])), ((u.1 30 0), .inl ((u.2 30 0), 3, .inr (.inl (fun _ => 0)))), ((u.1 30 1), .inl ((u.2 30 1), 3, .inr (.inl (fun _ => 0)))), ((u.1 30 2), .inl ((u.2 30 2), 3, .inl (fun _ => 0)))] t.heap ∧ va_K (dC, dI) classes [((u.2 30 0), .long), ((u.2 30 1), .long), ((u.2 30 2), .int)] t ∧ va_D A [(h, .inr (3, [.ref a, .ref b, .ref (u.1 3 2), .int 0, .int 0])), ((u.1 3 2), .inr (7, [.ref (u.1 30 0), .ref (u.1 30 1), .ref (u.1 30 2)])), ((u.1 30 0), .inl ((u.2 30 0), 3, .inr (.inl (fun _ => 0)))), ((u.1 30 1), .inl ((u.2 30 1), 3, .inr (.inl (fun _ => 0)))), ((u.1 30 2), .inl ((u.2 30 2), 3, .inl (fun _ => 0)))]) u9 t := by
    intro t ht9 hW
    rw [hu9]
    exact ⟨by rw [ht9]; exact hP9, va_K.moved hW.alike hK9, hD9⟩
  exact W.vret hx hb hr (fun t ht9 hW => ⟨⟨u9, rfl, trivial, hB9 t ht9 hW⟩, hS.F ht9⟩) hS.2.2 dX3_init_35
set_option maxHeartbeats 4000000 in
set_option maxRecDepth 100000 in
/-- X2_init -/
theorem c_X2_init (l : Launch) (dC : Nat → ClassId) (dI : Nat → Nat → Nat) (sz : Nat) (h : Nat) (a : Nat) : Met l yX2_init (wc yX2_init cX2_init 2 none) ({ frames := 2, cells := 5, slots := 24, locals := 60 } : Room) (va_Pc [.ref h, .ref a] (fun U => U.heap.size = sz ∧ va_P (dC, dI) classes [(h, .inr (2, [.null, .null, .null, .int 0, .int 0, .int 0, .int 0, .int 0]))] U.heap ∧ va_K (dC, dI) classes [] U ∧ va_D (fun _ => True) [(h, .inr (2, [.null, .null, .null, .int 0, .int 0, .int 0, .int 0, .int 0]))] ∧ nw U)) (va_Qv (fun _ : ((Nat → Nat → Nat) × (Nat → Nat → ClassId)) => True) (fun u t => va_P (dC, dI) classes [(h, .inr (2, [.ref a, .ref (u.1 2 1), .ref (u.1 2 2), .int 0, .int 0, .int 0, .int 0, .int 0])), ((u.1 2 1), .inr (7, [.ref (u.1 20 0), .ref (u.1 20 1), .ref (u.1 20 2)])), ((u.1 20 0), .inl ((u.2 20 0), 3, .inr (.inl (fun _ => 0)))), ((u.1 20 1), .inl ((u.2 20 1), 3, .inr (.inl (fun _ => 0)))), ((u.1 20 2), .inl ((u.2 20 2), 3, .inl (fun _ => 0))), ((u.1 2 2), .inl ((u.2 2 2), 12, .inl (fun _ => 0)))] t.heap ∧ va_K (dC, dI) classes [((u.2 20 0), .long), ((u.2 20 1), .long), ((u.2 20 2), .int), ((u.2 2 2), .int)] t ∧ va_D (va_A [(h, .inr (2, [.null, .null, .null, .int 0, .int 0, .int 0, .int 0, .int 0]))] sz) [(h, .inr (2, [.ref a, .ref (u.1 2 1), .ref (u.1 2 2), .int 0, .int 0, .int 0, .int 0, .int 0])), ((u.1 2 1), .inr (7, [.ref (u.1 20 0), .ref (u.1 20 1), .ref (u.1 20 2)])), ((u.1 20 0), .inl ((u.2 20 0), 3, .inr (.inl (fun _ => 0)))), ((u.1 20 1), .inl ((u.2 20 1), 3, .inr (.inl (fun _ => 0)))), ((u.1 20 2), .inl ((u.2 20 2), 3, .inl (fun _ => 0))), ((u.1 2 2), .inl ((u.2 2 2), 12, .inl (fun _ => 0)))]) (va_A [(h, .inr (2, [.null, .null, .null, .int 0, .int 0, .int 0, .int 0, .int 0]))] sz)) 5 24 (va_A [(h, .inr (2, [.null, .null, .null, .int 0, .int 0, .int 0, .int 0, .int 0]))] sz) := by
  refine Met.ofW (cc := cX2_init) (maxL := 2) (ret := none) (by decide) rfl ?_
  intro p e s m args below meth c s₁ B hml hv
  obtain ⟨rfl, hsz, hP, hK, hD0, hN⟩ := hv
  have hx := B.exec
  have hb := B.bytes
  have hr := B.returns
  have ht := tb_tl (atoms_spec (ws := wc yX2_init cX2_init 2 none) B.pre)
  have hown : s.vm.findClass RX2 = some m.cls := findClass_of_methodNamed B.named
  have hlocks := B.notSynchronized
  have hin : meth.name = "<init>" := (name_of_methodNamed B.named B.method).1
  subst hsz
  have hD := hD0.self (sz := s.heap.size)
  generalize hAe : va_A [(h, .inr (2, [.null, .null, .null, .int 0, .int 0, .int 0, .int 0, .int 0]))] s.heap.size = A at hD ⊢
  have hA : ∀ q : Nat, s.heap.size ≤ q → A q := fun q h => by rw [← hAe]; exact Or.inr h
  have hS : va_S A s.heap s.heap [] := va_S.rf
  have hP : va_P (dC, dI) classes [(h, .inr (2, [.null, .null, .null, .int 0, .int 0, .int 0, .int 0, .int 0]))] s.heap := hP
  have hl := lv_entry [.ref h, .ref a] (n := 2) (Nat.le_of_ble_eq_true rfl)
  rw [lg_entry_eq]
  generalize (lg_sl [.ref h, .ref a] ++ List.replicate (2 - (lg_sl [.ref h, .ref a]).length) Slot.unset).toArray = ls at hl ⊢
  have hl : lv_has ls 2 [(0, .ref h), (1, .ref a)] := hl
  refine lv_aload_n hx hb dX2_init_0 rfl (lv_at hl 0 rfl) ?_
  refine W.objInit hx hb hown (ht _ m_301) (ht _ m_103) (ht _ m_104) rfl (by rw [hml]; exact hl.1) rfl dX2_init_1 (Nat.le_of_ble_eq_true rfl) (Nat.le_of_ble_eq_true rfl) ?_
  refine W.eq (g2 := F0 m 4 ls []) rfl ?_
  refine lv_aload_n hx hb dX2_init_4 rfl (lv_at hl 0 rfl) ?_
  refine va_new (ci := 7) (fs := [.null, .null, .null]) (C := RX7) (T := TX7) (N := 3) hx hb ht inX7 tyX7 tyX7_ok hown (ht _ m_302) (ht _ m_256) (ht _ m_84) hK hP hD hS hA rfl (new_X7) (Nat.le_of_ble_eq_true rfl) (Nat.le_of_ble_eq_true rfl) dX2_init_5 (fun q1 H hP hD hS => ?_)
  obtain ⟨ws9, hP, hD, he9⟩ : ∃ ws9 : va_W, va_P (dC, dI) classes ws9 H ∧ va_D A ws9 ∧ ws9 = [(h, .inr (2, [.null, .null, .null, .int 0, .int 0, .int 0, .int 0, .int 0])), (q1, .inr (7, [.null, .null, .null]))] := ⟨_, hP, hD, rfl⟩
  subst he9
  refine W.widen (k := 1) (n := 3) (by decide) (by decide) ?_
  refine lv_dup hx hb dX2_init_8 rfl ?_
  have hPc := hP.sub (ws' := [(q1, .inr (7, [.null, .null, .null]))]) [1] rfl
  have hKc := hK.sub (tys' := []) [] rfl
  have hDc := hD.sub (ws' := [(q1, .inr (7, [.null, .null, .null]))]) [1] (by decide) rfl
  have hFc := va_free (wc := [(q1, .inr (7, [.null, .null, .null]))]) hD hS hA [1] rfl
  refine va_callv (va_runIN (As := []) (rest := [.ref q1, .ref h]) ⟨hx, hb, hml, hown, ht⟩ (c_X7_init l dC dI H.size q1) ⟨va_cnB 0 ht (tb_wc m_259) rfl rfl rfl (nwl_5 hN) (ht _ m_84) hd_X7_init_i ⟨Nat.le_of_ble_eq_true rfl, Nat.le_of_ble_eq_true rfl⟩, rfl, ht _ m_258⟩ (sW hPc hKc hDc) rfl rfl hl.1 rfl (lv_room (Nat.le_of_ble_eq_true rfl)) dX2_init_9 ⟨Nat.le_of_ble_eq_true rfl, Nat.le_of_ble_eq_true rfl⟩) hS (fun q _ h => hFc q h) hFc (fun u t H1 locs ht9 hvm hw hB hz1 hk1 hS => ?_)
  obtain ⟨g3, c3⟩ := u
  obtain ⟨hP1, hK1, hD1⟩ := hB
  rw [ht9] at hP1
  have hK1 := va_K.moved hvm.symm hK1
  have hP1 : va_P (dC, dI) classes [(q1, .inr (7, [.ref (g3 7 0), .ref (g3 7 1), .ref (g3 7 2)])), ((g3 7 0), .inl ((c3 7 0), 3, .inr (.inl (fun _ => 0)))), ((g3 7 1), .inl ((c3 7 1), 3, .inr (.inl (fun _ => 0)))), ((g3 7 2), .inl ((c3 7 2), 3, .inl (fun _ => 0)))] H1 := hP1
  have hD1 : va_D (va_A [(q1, .inr (7, [.null, .null, .null]))] H.size) [(q1, .inr (7, [.ref (g3 7 0), .ref (g3 7 1), .ref (g3 7 2)])), ((g3 7 0), .inl ((c3 7 0), 3, .inr (.inl (fun _ => 0)))), ((g3 7 1), .inl ((c3 7 1), 3, .inr (.inl (fun _ => 0)))), ((g3 7 2), .inl ((c3 7 2), 3, .inl (fun _ => 0)))] := hD1
  have hK1 : va_K (dC, dI) classes [((c3 7 0), .long), ((c3 7 1), .long), ((c3 7 2), .int)] s := hK1
  obtain ⟨hP, hD⟩ := va_join (wr := [(h, .inr (2, [.null, .null, .null, .int 0, .int 0, .int 0, .int 0, .int 0]))]) (w1 := [(q1, .inr (7, [.ref (g3 7 0), .ref (g3 7 1), .ref (g3 7 2)])), ((g3 7 0), .inl ((c3 7 0), 3, .inr (.inl (fun _ => 0)))), ((g3 7 1), .inl ((c3 7 1), 3, .inr (.inl (fun _ => 0)))), ((g3 7 2), .inl ((c3 7 2), 3, .inl (fun _ => 0)))]) hP hD [1] [0] rfl rfl (by decide) (by decide) hk1 hFc hP1 hD1
  have hK := hK.app hK1
  generalize H1 = H at hP hS ⊢
  obtain ⟨ws9, hP, hD, he9⟩ : ∃ ws9 : va_W, va_P (dC, dI) classes ws9 H ∧ va_D A ws9 ∧ ws9 = [(h, .inr (2, [.null, .null, .null, .int 0, .int 0, .int 0, .int 0, .int 0])), (q1, .inr (7, [.ref (g3 7 0), .ref (g3 7 1), .ref (g3 7 2)])), ((g3 7 0), .inl ((c3 7 0), 3, .inr (.inl (fun _ => 0)))), ((g3 7 1), .inl ((c3 7 1), 3, .inr (.inl (fun _ => 0)))), ((g3 7 2), .inl ((c3 7 2), 3, .inl (fun _ => 0)))] := ⟨_, hP, hD, rfl⟩
  subst he9
  have hK : va_K (dC, dI) classes [((c3 7 0), .long), ((c3 7 1), .long), ((c3 7 2), .int)] s := hK
  refine W.widen (k := 4) (n := 12) (by decide) (by decide) ?_
  refine va_putF (D := (dC, dI)) (ci := 2) (v := .ref q1) (ty := (.object "SilkHouse$Piles")) (C := RX2) (T := TX2) (N := 8) hx hb ht inX2 tyX2 tyX2_ok nmX2 hown hK hP hD hS 0 rfl rfl 1 (by decide) (ht _ m_305) (fun _ h9 => h9) rfl hin rfl (by decide +kernel) rfl rfl (Nat.le_of_ble_eq_true rfl) dX2_init_12 (fun H locs hP hD hS => ?_)
  obtain ⟨ws9, hP, hD, he9⟩ : ∃ ws9 : va_W, va_P (dC, dI) classes ws9 H ∧ va_D A ws9 ∧ ws9 = [(h, .inr (2, [.null, .ref q1, .null, .int 0, .int 0, .int 0, .int 0, .int 0])), (q1, .inr (7, [.ref (g3 7 0), .ref (g3 7 1), .ref (g3 7 2)])), ((g3 7 0), .inl ((c3 7 0), 3, .inr (.inl (fun _ => 0)))), ((g3 7 1), .inl ((c3 7 1), 3, .inr (.inl (fun _ => 0)))), ((g3 7 2), .inl ((c3 7 2), 3, .inl (fun _ => 0)))] := ⟨_, hP, hD, rfl⟩
  subst he9
  refine lv_aload_n hx hb dX2_init_15 rfl (lv_at hl 0 rfl) ?_
  refine lv_bipush (v := 12) hx hb dX2_init_16 (by decide) ?_
  refine va_newa (atype := .int) (ty := .int) (a0 := (12, .inl (fun _ => 0))) (N' := 12) hx hb (ht _ m_125) rfl hK hP hD hS hA (fun _ => rfl) (by decide) (by decide) (by decide) (Nat.le_of_ble_eq_true rfl) (Nat.le_of_ble_eq_true rfl) dX2_init_18 (fun q4 ca5 H hK hP hD hS => ?_)
  obtain ⟨ws9, hP, hD, he9⟩ : ∃ ws9 : va_W, va_P (dC, dI) classes ws9 H ∧ va_D A ws9 ∧ ws9 = [(h, .inr (2, [.null, .ref q1, .null, .int 0, .int 0, .int 0, .int 0, .int 0])), (q1, .inr (7, [.ref (g3 7 0), .ref (g3 7 1), .ref (g3 7 2)])), ((g3 7 0), .inl ((c3 7 0), 3, .inr (.inl (fun _ => 0)))), ((g3 7 1), .inl ((c3 7 1), 3, .inr (.inl (fun _ => 0)))), ((g3 7 2), .inl ((c3 7 2), 3, .inl (fun _ => 0))), (q4, .inl (ca5, 12, .inl (fun _ => 0)))] := ⟨_, hP, hD, rfl⟩
  subst he9
  have hK : va_K (dC, dI) classes [((c3 7 0), .long), ((c3 7 1), .long), ((c3 7 2), .int), (ca5, .int)] s := hK
  refine W.widen (k := 5) (n := 24) (by decide) (by decide) ?_
  refine va_putF (D := (dC, dI)) (ci := 2) (v := .ref q4) (ty := (.array .int)) (C := RX2) (T := TX2) (N := 8) hx hb ht inX2 tyX2 tyX2_ok nmX2 hown hK hP hD hS 0 rfl rfl 2 (by decide) (ht _ m_306) (fun _ h9 => h9) rfl hin rfl (by decide +kernel) rfl rfl (Nat.le_of_ble_eq_true rfl) dX2_init_20 (fun H locs hP hD hS => ?_)
  obtain ⟨ws9, hP, hD, he9⟩ : ∃ ws9 : va_W, va_P (dC, dI) classes ws9 H ∧ va_D A ws9 ∧ ws9 = [(h, .inr (2, [.null, .ref q1, .ref q4, .int 0, .int 0, .int 0, .int 0, .int 0])), (q1, .inr (7, [.ref (g3 7 0), .ref (g3 7 1), .ref (g3 7 2)])), ((g3 7 0), .inl ((c3 7 0), 3, .inr (.inl (fun _ => 0)))), ((g3 7 1), .inl ((c3 7 1), 3, .inr (.inl (fun _ => 0)))), ((g3 7 2), .inl ((c3 7 2), 3, .inl (fun _ => 0))), (q4, .inl (ca5, 12, .inl (fun _ => 0)))] := ⟨_, hP, hD, rfl⟩
  subst he9
  refine lv_aload_n hx hb dX2_init_23 rfl (lv_at hl 0 rfl) ?_
  refine lv_iconst (v := 0) hx hb dX2_init_24 (by decide) ?_
  refine va_put (D := (dC, dI)) (ci := 2) (v := .int 0) (ty := (.int)) (C := RX2) (T := TX2) (N := 8) hx hb ht inX2 tyX2 tyX2_ok nmX2 hown hK hP hD hS 0 rfl rfl 3 (by decide) (ht _ m_307) (fun _ h9 => h9) rfl (by decide +kernel) rfl rfl (Nat.le_of_ble_eq_true rfl) dX2_init_25 (fun H locs hP hD hS => ?_)
  obtain ⟨ws9, hP, hD, he9⟩ : ∃ ws9 : va_W, va_P (dC, dI) classes ws9 H ∧ va_D A ws9 ∧ ws9 = [(h, .inr (2, [.null, .ref q1, .ref q4, .int 0, .int 0, .int 0, .int 0, .int 0])), (q1, .inr (7, [.ref (g3 7 0), .ref (g3 7 1), .ref (g3 7 2)])), ((g3 7 0), .inl ((c3 7 0), 3, .inr (.inl (fun _ => 0)))), ((g3 7 1), .inl ((c3 7 1), 3, .inr (.inl (fun _ => 0)))), ((g3 7 2), .inl ((c3 7 2), 3, .inl (fun _ => 0))), (q4, .inl (ca5, 12, .inl (fun _ => 0)))] := ⟨_, hP, hD, rfl⟩
  subst he9
  refine lv_aload_n hx hb dX2_init_28 rfl (lv_at hl 0 rfl) ?_
  refine lv_iconst (v := 0) hx hb dX2_init_29 (by decide) ?_
  refine va_put (D := (dC, dI)) (ci := 2) (v := .int 0) (ty := (.int)) (C := RX2) (T := TX2) (N := 8) hx hb ht inX2 tyX2 tyX2_ok nmX2 hown hK hP hD hS 0 rfl rfl 4 (by decide) (ht _ m_308) (fun _ h9 => h9) rfl (by decide +kernel) rfl rfl (Nat.le_of_ble_eq_true rfl) dX2_init_30 (fun H locs hP hD hS => ?_)
  obtain ⟨ws9, hP, hD, he9⟩ : ∃ ws9 : va_W, va_P (dC, dI) classes ws9 H ∧ va_D A ws9 ∧ ws9 = [(h, .inr (2, [.null, .ref q1, .ref q4, .int 0, .int 0, .int 0, .int 0, .int 0])), (q1, .inr (7, [.ref (g3 7 0), .ref (g3 7 1), .ref (g3 7 2)])), ((g3 7 0), .inl ((c3 7 0), 3, .inr (.inl (fun _ => 0)))), ((g3 7 1), .inl ((c3 7 1), 3, .inr (.inl (fun _ => 0)))), ((g3 7 2), .inl ((c3 7 2), 3, .inl (fun _ => 0))), (q4, .inl (ca5, 12, .inl (fun _ => 0)))] := ⟨_, hP, hD, rfl⟩
  subst he9
  refine lv_aload_n hx hb dX2_init_33 rfl (lv_at hl 0 rfl) ?_
  refine lv_iconst (v := 0) hx hb dX2_init_34 (by decide) ?_
  refine va_put (D := (dC, dI)) (ci := 2) (v := .int 0) (ty := (.int)) (C := RX2) (T := TX2) (N := 8) hx hb ht inX2 tyX2 tyX2_ok nmX2 hown hK hP hD hS 0 rfl rfl 5 (by decide) (ht _ m_309) (fun _ h9 => h9) rfl (by decide +kernel) rfl rfl (Nat.le_of_ble_eq_true rfl) dX2_init_35 (fun H locs hP hD hS => ?_)
  obtain ⟨ws9, hP, hD, he9⟩ : ∃ ws9 : va_W, va_P (dC, dI) classes ws9 H ∧ va_D A ws9 ∧ ws9 = [(h, .inr (2, [.null, .ref q1, .ref q4, .int 0, .int 0, .int 0, .int 0, .int 0])), (q1, .inr (7, [.ref (g3 7 0), .ref (g3 7 1), .ref (g3 7 2)])), ((g3 7 0), .inl ((c3 7 0), 3, .inr (.inl (fun _ => 0)))), ((g3 7 1), .inl ((c3 7 1), 3, .inr (.inl (fun _ => 0)))), ((g3 7 2), .inl ((c3 7 2), 3, .inl (fun _ => 0))), (q4, .inl (ca5, 12, .inl (fun _ => 0)))] := ⟨_, hP, hD, rfl⟩
  subst he9
  refine lv_aload_n hx hb dX2_init_38 rfl (lv_at hl 0 rfl) ?_
  refine lv_iconst (v := 0) hx hb dX2_init_39 (by decide) ?_
  refine va_put (D := (dC, dI)) (ci := 2) (v := .int 0) (ty := (.int)) (C := RX2) (T := TX2) (N := 8) hx hb ht inX2 tyX2 tyX2_ok nmX2 hown hK hP hD hS 0 rfl rfl 6 (by decide) (ht _ m_310) (fun _ h9 => h9) rfl (by decide +kernel) rfl rfl (Nat.le_of_ble_eq_true rfl) dX2_init_40 (fun H locs hP hD hS => ?_)
  obtain ⟨ws9, hP, hD, he9⟩ : ∃ ws9 : va_W, va_P (dC, dI) classes ws9 H ∧ va_D A ws9 ∧ ws9 = [(h, .inr (2, [.null, .ref q1, .ref q4, .int 0, .int 0, .int 0, .int 0, .int 0])), (q1, .inr (7, [.ref (g3 7 0), .ref (g3 7 1), .ref (g3 7 2)])), ((g3 7 0), .inl ((c3 7 0), 3, .inr (.inl (fun _ => 0)))), ((g3 7 1), .inl ((c3 7 1), 3, .inr (.inl (fun _ => 0)))), ((g3 7 2), .inl ((c3 7 2), 3, .inl (fun _ => 0))), (q4, .inl (ca5, 12, .inl (fun _ => 0)))] := ⟨_, hP, hD, rfl⟩
  subst he9
  refine lv_aload_n hx hb dX2_init_43 rfl (lv_at hl 0 rfl) ?_
  refine lv_iconst (v := 0) hx hb dX2_init_44 (by decide) ?_
  refine va_put (D := (dC, dI)) (ci := 2) (v := .int 0) (ty := (.int)) (C := RX2) (T := TX2) (N := 8) hx hb ht inX2 tyX2 tyX2_ok nmX2 hown hK hP hD hS 0 rfl rfl 7 (by decide) (ht _ m_311) (fun _ h9 => h9) rfl (by decide +kernel) rfl rfl (Nat.le_of_ble_eq_true rfl) dX2_init_45 (fun H locs hP hD hS => ?_)
  obtain ⟨ws9, hP, hD, he9⟩ : ∃ ws9 : va_W, va_P (dC, dI) classes ws9 H ∧ va_D A ws9 ∧ ws9 = [(h, .inr (2, [.null, .ref q1, .ref q4, .int 0, .int 0, .int 0, .int 0, .int 0])), (q1, .inr (7, [.ref (g3 7 0), .ref (g3 7 1), .ref (g3 7 2)])), ((g3 7 0), .inl ((c3 7 0), 3, .inr (.inl (fun _ => 0)))), ((g3 7 1), .inl ((c3 7 1), 3, .inr (.inl (fun _ => 0)))), ((g3 7 2), .inl ((c3 7 2), 3, .inl (fun _ => 0))), (q4, .inl (ca5, 12, .inl (fun _ => 0)))] := ⟨_, hP, hD, rfl⟩
  subst he9
  refine lv_aload_n hx hb dX2_init_48 rfl (lv_at hl 0 rfl) ?_
  refine lv_aload_n hx hb dX2_init_49 rfl (lv_at hl 1 rfl) ?_
  refine va_putF (D := (dC, dI)) (ci := 2) (v := .ref a) (ty := (.object "SilkHouse$Skeins")) (C := RX2) (T := TX2) (N := 8) hx hb ht inX2 tyX2 tyX2_ok nmX2 hown hK hP hD hS 0 rfl rfl 0 (by decide) (ht _ m_304) (fun _ h9 => h9) rfl hin rfl (by decide +kernel) rfl rfl (Nat.le_of_ble_eq_true rfl) dX2_init_50 (fun H locs hP hD hS => ?_)
  obtain ⟨ws9, hP, hD, he9⟩ : ∃ ws9 : va_W, va_P (dC, dI) classes ws9 H ∧ va_D A ws9 ∧ ws9 = [(h, .inr (2, [.ref a, .ref q1, .ref q4, .int 0, .int 0, .int 0, .int 0, .int 0])), (q1, .inr (7, [.ref (g3 7 0), .ref (g3 7 1), .ref (g3 7 2)])), ((g3 7 0), .inl ((c3 7 0), 3, .inr (.inl (fun _ => 0)))), ((g3 7 1), .inl ((c3 7 1), 3, .inr (.inl (fun _ => 0)))), ((g3 7 2), .inl ((c3 7 2), 3, .inl (fun _ => 0))), (q4, .inl (ca5, 12, .inl (fun _ => 0)))] := ⟨_, hP, hD, rfl⟩
  subst he9
  have hP9 := hP.sub (ws' := [(h, .inr (2, [.ref a, .ref q1, .ref q4, .int 0, .int 0, .int 0, .int 0, .int 0])), (q1, .inr (7, [.ref (g3 7 0), .ref (g3 7 1), .ref (g3 7 2)])), ((g3 7 0), .inl ((c3 7 0), 3, .inr (.inl (fun _ => 0)))), ((g3 7 1), .inl ((c3 7 1), 3, .inr (.inl (fun _ => 0)))), ((g3 7 2), .inl ((c3 7 2), 3, .inl (fun _ => 0))), (q4, .inl (ca5, 12, .inl (fun _ => 0)))]) [0, 1, 2, 3, 4, 5] rfl
  have hD9 := hD.sub (ws' := [(h, .inr (2, [.ref a, .ref q1, .ref q4, .int 0, .int 0, .int 0, .int 0, .int 0])), (q1, .inr (7, [.ref (g3 7 0), .ref (g3 7 1), .ref (g3 7 2)])), ((g3 7 0), .inl ((c3 7 0), 3, .inr (.inl (fun _ => 0)))), ((g3 7 1), .inl ((c3 7 1), 3, .inr (.inl (fun _ => 0)))), ((g3 7 2), .inl ((c3 7 2), 3, .inl (fun _ => 0))), (q4, .inl (ca5, 12, .inl (fun _ => 0)))]) [0, 1, 2, 3, 4, 5] (by decide) rfl
  have hK9 := hK.sub (tys' := [((c3 7 0), .long), ((c3 7 1), .long), ((c3 7 2), .int), (ca5, .int)]) [0, 1, 2, 3] rfl
  obtain ⟨u9, hu9⟩ : ∃ u : (Nat → Nat → Nat) × (Nat → Nat → ClassId), u = ((fun i j => (([[], [], [0, q1, q4], [], [], [], [], [], [], [], [], [], [], [], [], [], [], [], [], [], [(g3 7 0), (g3 7 1), (g3 7 2)]] : List (List _)).getD i []).getD j 0), (fun i j => (([[], [], [(c3 7 0), (c3 7 0), ca5], [], [], [], [], [], [], [], [], [], [], [], [], [], [], [], [], [], [(c3 7 0), (c3 7 1), (c3 7 2)]] : List (List _)).getD i []).getD j (c3 7 0))) := ⟨_, rfl⟩
  have hB9 : ∀ t : State, t.heap = H → s.WarmedH t.vm → (fun u t => va_P (dC, dI) classes [(h, .inr (2, [.ref a, .ref (u.1 2 1), .ref (u.1 2 2), .int 0, .int 0, .int 0, .int 0, .int 0])), ((u.1 2 1), .inr (7, [.ref (u.1 20 0), .ref (u.1 20 1), .ref (u.1 20 2)])), ((u.1 20 0), .inl ((u.2 20 0), 3, .inr (.inl (fun _ => 0)))), ((u.1 20 1), .inl ((u.2 20 1), 3, .inr (.inl (fun _ => 0)))), ((u.1 20 2), .inl ((u.2 20 2), 3, .inl (fun _ => 0))), ((u.1 2 2), .inl ((u.2 2 2), 12, .inl (fun _ => 0)))] t.heap ∧ va_K (dC, dI) classes [((u.2 20 0), .long), ((u.2 20 1), .long), ((u.2 20 2), .int), ((u.2 2 2), .int)] t ∧ va_D A [(h, .inr (2, [.ref a, .ref (u.1 2 1), .ref (u.1 2 2), .int 0, .int 0, .int 0, .int 0, .int 0])), ((u.1 2 1), .inr (7, [.ref (u.1 20 0), .ref (u.1 20 1), .ref (u.1 20 2)])), ((u.1 20 0), .inl ((u.2 20 0), 3, .inr (.inl (fun _ => 0)))), ((u.1 20 1), .inl ((u.2 20 1), 3, .inr (.inl (fun _ => 0)))), ((u.1 20 2), .inl ((u.2 20 2), 3, .inl (fun _ => 0))), ((u.1 2 2), .inl ((u.2 2 2), 12, .inl (fun _ => 0)))]) u9 t := by
    intro t ht9 hW
    rw [hu9]
    exact ⟨by rw [ht9]; exact hP9, va_K.moved hW.alike hK9, hD9⟩
  exact W.vret hx hb hr (fun t ht9 hW => ⟨⟨u9, rfl, trivial, hB9 t ht9 hW⟩, hS.F ht9⟩) hS.2.2 dX2_init_53
