/-! ===== law ===== -/
set_option maxRecDepth 100000 in
theorem m_449 : Cond.methodLink RL 13 yX11_go ∈ tb := tb_in 449 (by decide +kernel) rfl
set_option maxRecDepth 100000 in
theorem m_450 : Cond.instanceMethod yX11_go ∈ tb := tb_in 450 (by decide +kernel) rfl
set_option maxRecDepth 100000 in
theorem m_451 : Cond.selects RX11 yX11_go yX11_go ∈ tb := tb_in 451 (by decide +kernel) rfl
set_option maxRecDepth 100000 in
theorem m_452 : Cond.code yX11_go cX11_go 2 (some .int) ∈ tb := tb_in 452 rfl rfl
set_option maxRecDepth 100000 in
theorem m_458 : Cond.methodLink RL 18 yX11_bale ∈ tb := tb_in 458 (by decide +kernel) rfl
set_option maxRecDepth 100000 in
theorem m_459 : Cond.instanceMethod yX11_bale ∈ tb := tb_in 459 (by decide +kernel) rfl
set_option maxRecDepth 100000 in
theorem m_460 : Cond.selects RX11 yX11_bale yX11_bale ∈ tb := tb_in 460 (by decide +kernel) rfl
set_option maxRecDepth 100000 in
theorem m_461 : Cond.code yX11_bale cX11_bale 2 (some .int) ∈ tb := tb_in 461 rfl rfl
set_option maxRecDepth 100000 in
theorem m_468 : Cond.methodLink RL 22 yX11_skein ∈ tb := tb_in 468 (by decide +kernel) rfl
set_option maxRecDepth 100000 in
theorem m_469 : Cond.instanceMethod yX11_skein ∈ tb := tb_in 469 (by decide +kernel) rfl
set_option maxRecDepth 100000 in
theorem m_470 : Cond.selects RX11 yX11_skein yX11_skein ∈ tb := tb_in 470 (by decide +kernel) rfl
set_option maxRecDepth 100000 in
theorem m_471 : Cond.code yX11_skein cX11_skein 9 (some .int) ∈ tb := tb_in 471 rfl rfl
set_option maxRecDepth 100000 in
theorem m_505 : Cond.methodLink RL 27 yX11_lose ∈ tb := tb_in 505 (by decide +kernel) rfl
set_option maxRecDepth 100000 in
theorem m_506 : Cond.instanceMethod yX11_lose ∈ tb := tb_in 506 (by decide +kernel) rfl
set_option maxRecDepth 100000 in
theorem m_507 : Cond.selects RX11 yX11_lose yX11_lose ∈ tb := tb_in 507 (by decide +kernel) rfl
set_option maxRecDepth 100000 in
theorem m_508 : Cond.code yX11_lose cX11_lose 2 (some .int) ∈ tb := tb_in 508 rfl rfl
set_option maxRecDepth 100000 in
theorem m_518 : Cond.methodLink RL 31 yX11_told ∈ tb := tb_in 518 (by decide +kernel) rfl
set_option maxRecDepth 100000 in
theorem m_519 : Cond.instanceMethod yX11_told ∈ tb := tb_in 519 (by decide +kernel) rfl
set_option maxRecDepth 100000 in
theorem m_520 : Cond.selects RX11 yX11_told yX11_told ∈ tb := tb_in 520 (by decide +kernel) rfl
set_option maxRecDepth 100000 in
theorem m_521 : Cond.code yX11_told cX11_told 3 (some .int) ∈ tb := tb_in 521 rfl rfl
set_option maxRecDepth 100000 in
theorem m_1365 : Cond.methodLink RL 17 yX12_go ∈ tb := tb_in 1365 (by decide +kernel) rfl
set_option maxRecDepth 100000 in
theorem m_1366 : Cond.instanceMethod yX12_go ∈ tb := tb_in 1366 (by decide +kernel) rfl
set_option maxRecDepth 100000 in
theorem m_1367 : Cond.selects RX12 yX12_go yX12_go ∈ tb := tb_in 1367 (by decide +kernel) rfl
set_option maxRecDepth 100000 in
theorem m_1368 : Cond.code yX12_go cX12_go 2 (some .int) ∈ tb := tb_in 1368 rfl rfl
set_option maxRecDepth 100000 in
theorem m_1375 : Cond.methodLink RL 21 yX12_bale ∈ tb := tb_in 1375 (by decide +kernel) rfl
set_option maxRecDepth 100000 in
theorem m_1376 : Cond.instanceMethod yX12_bale ∈ tb := tb_in 1376 (by decide +kernel) rfl
set_option maxRecDepth 100000 in
theorem m_1377 : Cond.selects RX12 yX12_bale yX12_bale ∈ tb := tb_in 1377 (by decide +kernel) rfl
set_option maxRecDepth 100000 in
theorem m_1378 : Cond.code yX12_bale cX12_bale 2 (some .int) ∈ tb := tb_in 1378 rfl rfl
set_option maxRecDepth 100000 in
theorem m_1381 : Cond.methodLink RL 26 yX12_skein ∈ tb := tb_in 1381 (by decide +kernel) rfl
set_option maxRecDepth 100000 in
theorem m_1382 : Cond.instanceMethod yX12_skein ∈ tb := tb_in 1382 (by decide +kernel) rfl
set_option maxRecDepth 100000 in
theorem m_1383 : Cond.selects RX12 yX12_skein yX12_skein ∈ tb := tb_in 1383 (by decide +kernel) rfl
set_option maxRecDepth 100000 in
theorem m_1384 : Cond.code yX12_skein cX12_skein 10 (some .int) ∈ tb := tb_in 1384 rfl rfl
set_option maxRecDepth 100000 in
theorem m_1399 : Cond.methodLink RL 30 yX12_lose ∈ tb := tb_in 1399 (by decide +kernel) rfl
set_option maxRecDepth 100000 in
theorem m_1400 : Cond.instanceMethod yX12_lose ∈ tb := tb_in 1400 (by decide +kernel) rfl
set_option maxRecDepth 100000 in
theorem m_1401 : Cond.selects RX12 yX12_lose yX12_lose ∈ tb := tb_in 1401 (by decide +kernel) rfl
set_option maxRecDepth 100000 in
theorem m_1402 : Cond.code yX12_lose cX12_lose 2 (some .int) ∈ tb := tb_in 1402 rfl rfl
set_option maxRecDepth 100000 in
theorem m_1407 : Cond.methodLink RL 35 yX12_told ∈ tb := tb_in 1407 (by decide +kernel) rfl
set_option maxRecDepth 100000 in
theorem m_1408 : Cond.instanceMethod yX12_told ∈ tb := tb_in 1408 (by decide +kernel) rfl
set_option maxRecDepth 100000 in
theorem m_1409 : Cond.selects RX12 yX12_told yX12_told ∈ tb := tb_in 1409 (by decide +kernel) rfl
set_option maxRecDepth 100000 in
theorem m_1410 : Cond.code yX12_told cX12_told 3 (some .int) ∈ tb := tb_in 1410 rfl rfl
theorem hd_X11_bale_v : yX11_bale.cls = RX11 ∧ yX11_bale.cls ≠ "java/lang/invoke/MethodHandle" ∧ yX11_bale.cls ≠ "java/lang/invoke/VarHandle" ∧ (parseMethodDescriptor yX11_bale.desc).map (fun d => d.parameters.length) = some 1 := by decide +kernel
theorem hd_X11_go_v : yX11_go.cls = RX11 ∧ yX11_go.cls ≠ "java/lang/invoke/MethodHandle" ∧ yX11_go.cls ≠ "java/lang/invoke/VarHandle" ∧ (parseMethodDescriptor yX11_go.desc).map (fun d => d.parameters.length) = some 1 := by decide +kernel
theorem hd_X11_lose_v : yX11_lose.cls = RX11 ∧ yX11_lose.cls ≠ "java/lang/invoke/MethodHandle" ∧ yX11_lose.cls ≠ "java/lang/invoke/VarHandle" ∧ (parseMethodDescriptor yX11_lose.desc).map (fun d => d.parameters.length) = some 1 := by decide +kernel
theorem hd_X11_skein_v : yX11_skein.cls = RX11 ∧ yX11_skein.cls ≠ "java/lang/invoke/MethodHandle" ∧ yX11_skein.cls ≠ "java/lang/invoke/VarHandle" ∧ (parseMethodDescriptor yX11_skein.desc).map (fun d => d.parameters.length) = some 7 := by decide +kernel
theorem hd_X11_told_v : yX11_told.cls = RX11 ∧ yX11_told.cls ≠ "java/lang/invoke/MethodHandle" ∧ yX11_told.cls ≠ "java/lang/invoke/VarHandle" ∧ (parseMethodDescriptor yX11_told.desc).map (fun d => d.parameters.length) = some 2 := by decide +kernel
theorem hd_X12_bale_v : yX12_bale.cls = RX12 ∧ yX12_bale.cls ≠ "java/lang/invoke/MethodHandle" ∧ yX12_bale.cls ≠ "java/lang/invoke/VarHandle" ∧ (parseMethodDescriptor yX12_bale.desc).map (fun d => d.parameters.length) = some 1 := by decide +kernel
theorem hd_X12_go_v : yX12_go.cls = RX12 ∧ yX12_go.cls ≠ "java/lang/invoke/MethodHandle" ∧ yX12_go.cls ≠ "java/lang/invoke/VarHandle" ∧ (parseMethodDescriptor yX12_go.desc).map (fun d => d.parameters.length) = some 1 := by decide +kernel
theorem hd_X12_lose_v : yX12_lose.cls = RX12 ∧ yX12_lose.cls ≠ "java/lang/invoke/MethodHandle" ∧ yX12_lose.cls ≠ "java/lang/invoke/VarHandle" ∧ (parseMethodDescriptor yX12_lose.desc).map (fun d => d.parameters.length) = some 1 := by decide +kernel
theorem hd_X12_skein_v : yX12_skein.cls = RX12 ∧ yX12_skein.cls ≠ "java/lang/invoke/MethodHandle" ∧ yX12_skein.cls ≠ "java/lang/invoke/VarHandle" ∧ (parseMethodDescriptor yX12_skein.desc).map (fun d => d.parameters.length) = some 7 := by decide +kernel
theorem hd_X12_told_v : yX12_told.cls = RX12 ∧ yX12_told.cls ≠ "java/lang/invoke/MethodHandle" ∧ yX12_told.cls ≠ "java/lang/invoke/VarHandle" ∧ (parseMethodDescriptor yX12_told.desc).map (fun d => d.parameters.length) = some 2 := by decide +kernel
set_option maxRecDepth 100000 in
theorem dvL_law_200 : ([(200, .aload_n 1, 1), (201, .aload_n 0, 1), (202, .iload_n 3, 1), (203, .iconst 1, 1), (204, .iadd, 1), (205, .iaload, 1), (206, .invokevirtual 13, 3), (209, .pop, 1), (210, .aload_n 2, 1), (211, .aload_n 0, 1), (212, .iload_n 3, 1), (213, .iconst 1, 1), (214, .iadd, 1), (215, .iaload, 1), (216, .invokevirtual 17, 3), (219, .pop, 1), (220, .goto 1288, 3), (223, .aload_n 1, 1), (224, .aload_n 0, 1), (225, .iload_n 3, 1), (226, .iconst 1, 1), (227, .iadd, 1), (228, .iaload, 1), (229, .invokevirtual 18, 3)] : List (Nat × Instr × Nat)).all (fun q => decide (decode cL_law q.1 = .ok (q.2.1, q.2.2))) = true := by decide +kernel
theorem dL_law_200 : decode cL_law 200 = .ok (.aload_n 1, 1) := all_at dvL_law_200 0 rfl
theorem dL_law_201 : decode cL_law 201 = .ok (.aload_n 0, 1) := all_at dvL_law_200 1 rfl
theorem dL_law_202 : decode cL_law 202 = .ok (.iload_n 3, 1) := all_at dvL_law_200 2 rfl
theorem dL_law_203 : decode cL_law 203 = .ok (.iconst 1, 1) := all_at dvL_law_200 3 rfl
theorem dL_law_204 : decode cL_law 204 = .ok (.iadd, 1) := all_at dvL_law_200 4 rfl
theorem dL_law_205 : decode cL_law 205 = .ok (.iaload, 1) := all_at dvL_law_200 5 rfl
theorem dL_law_206 : decode cL_law 206 = .ok (.invokevirtual 13, 3) := all_at dvL_law_200 6 rfl
theorem dL_law_209 : decode cL_law 209 = .ok (.pop, 1) := all_at dvL_law_200 7 rfl
theorem dL_law_210 : decode cL_law 210 = .ok (.aload_n 2, 1) := all_at dvL_law_200 8 rfl
theorem dL_law_211 : decode cL_law 211 = .ok (.aload_n 0, 1) := all_at dvL_law_200 9 rfl
theorem dL_law_212 : decode cL_law 212 = .ok (.iload_n 3, 1) := all_at dvL_law_200 10 rfl
theorem dL_law_213 : decode cL_law 213 = .ok (.iconst 1, 1) := all_at dvL_law_200 11 rfl
theorem dL_law_214 : decode cL_law 214 = .ok (.iadd, 1) := all_at dvL_law_200 12 rfl
theorem dL_law_215 : decode cL_law 215 = .ok (.iaload, 1) := all_at dvL_law_200 13 rfl
theorem dL_law_216 : decode cL_law 216 = .ok (.invokevirtual 17, 3) := all_at dvL_law_200 14 rfl
theorem dL_law_219 : decode cL_law 219 = .ok (.pop, 1) := all_at dvL_law_200 15 rfl
theorem dL_law_220 : decode cL_law 220 = .ok (.goto 1288, 3) := all_at dvL_law_200 16 rfl
theorem dL_law_223 : decode cL_law 223 = .ok (.aload_n 1, 1) := all_at dvL_law_200 17 rfl
theorem dL_law_224 : decode cL_law 224 = .ok (.aload_n 0, 1) := all_at dvL_law_200 18 rfl
theorem dL_law_225 : decode cL_law 225 = .ok (.iload_n 3, 1) := all_at dvL_law_200 19 rfl
theorem dL_law_226 : decode cL_law 226 = .ok (.iconst 1, 1) := all_at dvL_law_200 20 rfl
theorem dL_law_227 : decode cL_law 227 = .ok (.iadd, 1) := all_at dvL_law_200 21 rfl
theorem dL_law_228 : decode cL_law 228 = .ok (.iaload, 1) := all_at dvL_law_200 22 rfl
theorem dL_law_229 : decode cL_law 229 = .ok (.invokevirtual 18, 3) := all_at dvL_law_200 23 rfl
set_option maxRecDepth 100000 in
theorem dvL_law_232 : ([(232, .pop, 1), (233, .aload_n 2, 1), (234, .aload_n 0, 1), (235, .iload_n 3, 1), (236, .iconst 1, 1), (237, .iadd, 1), (238, .iaload, 1), (239, .invokevirtual 21, 3), (242, .pop, 1), (243, .goto 1265, 3), (246, .aload_n 1, 1), (247, .aload_n 0, 1), (248, .iload_n 3, 1), (249, .iconst 1, 1), (250, .iadd, 1), (251, .iaload, 1), (252, .aload_n 0, 1), (253, .iload_n 3, 1), (254, .iconst 2, 1), (255, .iadd, 1), (256, .iaload, 1), (257, .aload_n 0, 1), (258, .iload_n 3, 1), (259, .iconst 3, 1)] : List (Nat × Instr × Nat)).all (fun q => decide (decode cL_law q.1 = .ok (q.2.1, q.2.2))) = true := by decide +kernel
theorem dL_law_232 : decode cL_law 232 = .ok (.pop, 1) := all_at dvL_law_232 0 rfl
theorem dL_law_233 : decode cL_law 233 = .ok (.aload_n 2, 1) := all_at dvL_law_232 1 rfl
theorem dL_law_234 : decode cL_law 234 = .ok (.aload_n 0, 1) := all_at dvL_law_232 2 rfl
theorem dL_law_235 : decode cL_law 235 = .ok (.iload_n 3, 1) := all_at dvL_law_232 3 rfl
theorem dL_law_236 : decode cL_law 236 = .ok (.iconst 1, 1) := all_at dvL_law_232 4 rfl
theorem dL_law_237 : decode cL_law 237 = .ok (.iadd, 1) := all_at dvL_law_232 5 rfl
theorem dL_law_238 : decode cL_law 238 = .ok (.iaload, 1) := all_at dvL_law_232 6 rfl
theorem dL_law_239 : decode cL_law 239 = .ok (.invokevirtual 21, 3) := all_at dvL_law_232 7 rfl
theorem dL_law_242 : decode cL_law 242 = .ok (.pop, 1) := all_at dvL_law_232 8 rfl
theorem dL_law_243 : decode cL_law 243 = .ok (.goto 1265, 3) := all_at dvL_law_232 9 rfl
theorem dL_law_246 : decode cL_law 246 = .ok (.aload_n 1, 1) := all_at dvL_law_232 10 rfl
theorem dL_law_247 : decode cL_law 247 = .ok (.aload_n 0, 1) := all_at dvL_law_232 11 rfl
theorem dL_law_248 : decode cL_law 248 = .ok (.iload_n 3, 1) := all_at dvL_law_232 12 rfl
theorem dL_law_249 : decode cL_law 249 = .ok (.iconst 1, 1) := all_at dvL_law_232 13 rfl
theorem dL_law_250 : decode cL_law 250 = .ok (.iadd, 1) := all_at dvL_law_232 14 rfl
theorem dL_law_251 : decode cL_law 251 = .ok (.iaload, 1) := all_at dvL_law_232 15 rfl
theorem dL_law_252 : decode cL_law 252 = .ok (.aload_n 0, 1) := all_at dvL_law_232 16 rfl
theorem dL_law_253 : decode cL_law 253 = .ok (.iload_n 3, 1) := all_at dvL_law_232 17 rfl
theorem dL_law_254 : decode cL_law 254 = .ok (.iconst 2, 1) := all_at dvL_law_232 18 rfl
theorem dL_law_255 : decode cL_law 255 = .ok (.iadd, 1) := all_at dvL_law_232 19 rfl
theorem dL_law_256 : decode cL_law 256 = .ok (.iaload, 1) := all_at dvL_law_232 20 rfl
theorem dL_law_257 : decode cL_law 257 = .ok (.aload_n 0, 1) := all_at dvL_law_232 21 rfl
theorem dL_law_258 : decode cL_law 258 = .ok (.iload_n 3, 1) := all_at dvL_law_232 22 rfl
theorem dL_law_259 : decode cL_law 259 = .ok (.iconst 3, 1) := all_at dvL_law_232 23 rfl
set_option maxRecDepth 100000 in
theorem dvL_law_260 : ([(260, .iadd, 1), (261, .iaload, 1), (262, .aload_n 0, 1), (263, .iload_n 3, 1), (264, .iconst 4, 1), (265, .iadd, 1), (266, .iaload, 1), (267, .aload_n 0, 1), (268, .iload_n 3, 1), (269, .iconst 5, 1), (270, .iadd, 1), (271, .iaload, 1), (272, .aload_n 0, 1), (273, .iload_n 3, 1), (274, .bipush 6, 2), (276, .iadd, 1), (277, .iaload, 1), (278, .aload_n 0, 1), (279, .iload_n 3, 1), (280, .bipush 7, 2), (282, .iadd, 1), (283, .iaload, 1), (284, .invokevirtual 22, 3), (287, .pop, 1)] : List (Nat × Instr × Nat)).all (fun q => decide (decode cL_law q.1 = .ok (q.2.1, q.2.2))) = true := by decide +kernel
theorem dL_law_260 : decode cL_law 260 = .ok (.iadd, 1) := all_at dvL_law_260 0 rfl
theorem dL_law_261 : decode cL_law 261 = .ok (.iaload, 1) := all_at dvL_law_260 1 rfl
theorem dL_law_262 : decode cL_law 262 = .ok (.aload_n 0, 1) := all_at dvL_law_260 2 rfl
theorem dL_law_263 : decode cL_law 263 = .ok (.iload_n 3, 1) := all_at dvL_law_260 3 rfl
theorem dL_law_264 : decode cL_law 264 = .ok (.iconst 4, 1) := all_at dvL_law_260 4 rfl
theorem dL_law_265 : decode cL_law 265 = .ok (.iadd, 1) := all_at dvL_law_260 5 rfl
theorem dL_law_266 : decode cL_law 266 = .ok (.iaload, 1) := all_at dvL_law_260 6 rfl
theorem dL_law_267 : decode cL_law 267 = .ok (.aload_n 0, 1) := all_at dvL_law_260 7 rfl
theorem dL_law_268 : decode cL_law 268 = .ok (.iload_n 3, 1) := all_at dvL_law_260 8 rfl
theorem dL_law_269 : decode cL_law 269 = .ok (.iconst 5, 1) := all_at dvL_law_260 9 rfl
theorem dL_law_270 : decode cL_law 270 = .ok (.iadd, 1) := all_at dvL_law_260 10 rfl
theorem dL_law_271 : decode cL_law 271 = .ok (.iaload, 1) := all_at dvL_law_260 11 rfl
theorem dL_law_272 : decode cL_law 272 = .ok (.aload_n 0, 1) := all_at dvL_law_260 12 rfl
theorem dL_law_273 : decode cL_law 273 = .ok (.iload_n 3, 1) := all_at dvL_law_260 13 rfl
theorem dL_law_274 : decode cL_law 274 = .ok (.bipush 6, 2) := all_at dvL_law_260 14 rfl
theorem dL_law_276 : decode cL_law 276 = .ok (.iadd, 1) := all_at dvL_law_260 15 rfl
theorem dL_law_277 : decode cL_law 277 = .ok (.iaload, 1) := all_at dvL_law_260 16 rfl
theorem dL_law_278 : decode cL_law 278 = .ok (.aload_n 0, 1) := all_at dvL_law_260 17 rfl
theorem dL_law_279 : decode cL_law 279 = .ok (.iload_n 3, 1) := all_at dvL_law_260 18 rfl
theorem dL_law_280 : decode cL_law 280 = .ok (.bipush 7, 2) := all_at dvL_law_260 19 rfl
theorem dL_law_282 : decode cL_law 282 = .ok (.iadd, 1) := all_at dvL_law_260 20 rfl
theorem dL_law_283 : decode cL_law 283 = .ok (.iaload, 1) := all_at dvL_law_260 21 rfl
theorem dL_law_284 : decode cL_law 284 = .ok (.invokevirtual 22, 3) := all_at dvL_law_260 22 rfl
theorem dL_law_287 : decode cL_law 287 = .ok (.pop, 1) := all_at dvL_law_260 23 rfl
set_option maxRecDepth 100000 in
theorem dvL_law_288 : ([(288, .aload_n 2, 1), (289, .aload_n 0, 1), (290, .iload_n 3, 1), (291, .iconst 1, 1), (292, .iadd, 1), (293, .iaload, 1), (294, .aload_n 0, 1), (295, .iload_n 3, 1), (296, .iconst 2, 1), (297, .iadd, 1), (298, .iaload, 1), (299, .aload_n 0, 1), (300, .iload_n 3, 1), (301, .iconst 3, 1), (302, .iadd, 1), (303, .iaload, 1), (304, .aload_n 0, 1), (305, .iload_n 3, 1), (306, .iconst 4, 1), (307, .iadd, 1), (308, .iaload, 1), (309, .aload_n 0, 1), (310, .iload_n 3, 1), (311, .iconst 5, 1)] : List (Nat × Instr × Nat)).all (fun q => decide (decode cL_law q.1 = .ok (q.2.1, q.2.2))) = true := by decide +kernel
theorem dL_law_288 : decode cL_law 288 = .ok (.aload_n 2, 1) := all_at dvL_law_288 0 rfl
theorem dL_law_289 : decode cL_law 289 = .ok (.aload_n 0, 1) := all_at dvL_law_288 1 rfl
theorem dL_law_290 : decode cL_law 290 = .ok (.iload_n 3, 1) := all_at dvL_law_288 2 rfl
theorem dL_law_291 : decode cL_law 291 = .ok (.iconst 1, 1) := all_at dvL_law_288 3 rfl
theorem dL_law_292 : decode cL_law 292 = .ok (.iadd, 1) := all_at dvL_law_288 4 rfl
theorem dL_law_293 : decode cL_law 293 = .ok (.iaload, 1) := all_at dvL_law_288 5 rfl
theorem dL_law_294 : decode cL_law 294 = .ok (.aload_n 0, 1) := all_at dvL_law_288 6 rfl
theorem dL_law_295 : decode cL_law 295 = .ok (.iload_n 3, 1) := all_at dvL_law_288 7 rfl
theorem dL_law_296 : decode cL_law 296 = .ok (.iconst 2, 1) := all_at dvL_law_288 8 rfl
theorem dL_law_297 : decode cL_law 297 = .ok (.iadd, 1) := all_at dvL_law_288 9 rfl
theorem dL_law_298 : decode cL_law 298 = .ok (.iaload, 1) := all_at dvL_law_288 10 rfl
theorem dL_law_299 : decode cL_law 299 = .ok (.aload_n 0, 1) := all_at dvL_law_288 11 rfl
theorem dL_law_300 : decode cL_law 300 = .ok (.iload_n 3, 1) := all_at dvL_law_288 12 rfl
theorem dL_law_301 : decode cL_law 301 = .ok (.iconst 3, 1) := all_at dvL_law_288 13 rfl
theorem dL_law_302 : decode cL_law 302 = .ok (.iadd, 1) := all_at dvL_law_288 14 rfl
theorem dL_law_303 : decode cL_law 303 = .ok (.iaload, 1) := all_at dvL_law_288 15 rfl
theorem dL_law_304 : decode cL_law 304 = .ok (.aload_n 0, 1) := all_at dvL_law_288 16 rfl
theorem dL_law_305 : decode cL_law 305 = .ok (.iload_n 3, 1) := all_at dvL_law_288 17 rfl
theorem dL_law_306 : decode cL_law 306 = .ok (.iconst 4, 1) := all_at dvL_law_288 18 rfl
theorem dL_law_307 : decode cL_law 307 = .ok (.iadd, 1) := all_at dvL_law_288 19 rfl
theorem dL_law_308 : decode cL_law 308 = .ok (.iaload, 1) := all_at dvL_law_288 20 rfl
theorem dL_law_309 : decode cL_law 309 = .ok (.aload_n 0, 1) := all_at dvL_law_288 21 rfl
theorem dL_law_310 : decode cL_law 310 = .ok (.iload_n 3, 1) := all_at dvL_law_288 22 rfl
theorem dL_law_311 : decode cL_law 311 = .ok (.iconst 5, 1) := all_at dvL_law_288 23 rfl
set_option maxRecDepth 100000 in
theorem dvL_law_312 : ([(312, .iadd, 1), (313, .iaload, 1), (314, .aload_n 0, 1), (315, .iload_n 3, 1), (316, .bipush 6, 2), (318, .iadd, 1), (319, .iaload, 1), (320, .aload_n 0, 1), (321, .iload_n 3, 1), (322, .bipush 7, 2), (324, .iadd, 1), (325, .iaload, 1), (326, .invokevirtual 26, 3), (329, .pop, 1), (330, .goto 1178, 3), (333, .aload_n 1, 1), (334, .aload_n 0, 1), (335, .iload_n 3, 1), (336, .iconst 1, 1), (337, .iadd, 1), (338, .iaload, 1), (339, .invokevirtual 27, 3), (342, .pop, 1), (343, .aload_n 2, 1)] : List (Nat × Instr × Nat)).all (fun q => decide (decode cL_law q.1 = .ok (q.2.1, q.2.2))) = true := by decide +kernel
theorem dL_law_312 : decode cL_law 312 = .ok (.iadd, 1) := all_at dvL_law_312 0 rfl
theorem dL_law_313 : decode cL_law 313 = .ok (.iaload, 1) := all_at dvL_law_312 1 rfl
theorem dL_law_314 : decode cL_law 314 = .ok (.aload_n 0, 1) := all_at dvL_law_312 2 rfl
theorem dL_law_315 : decode cL_law 315 = .ok (.iload_n 3, 1) := all_at dvL_law_312 3 rfl
theorem dL_law_316 : decode cL_law 316 = .ok (.bipush 6, 2) := all_at dvL_law_312 4 rfl
theorem dL_law_318 : decode cL_law 318 = .ok (.iadd, 1) := all_at dvL_law_312 5 rfl
theorem dL_law_319 : decode cL_law 319 = .ok (.iaload, 1) := all_at dvL_law_312 6 rfl
theorem dL_law_320 : decode cL_law 320 = .ok (.aload_n 0, 1) := all_at dvL_law_312 7 rfl
theorem dL_law_321 : decode cL_law 321 = .ok (.iload_n 3, 1) := all_at dvL_law_312 8 rfl
theorem dL_law_322 : decode cL_law 322 = .ok (.bipush 7, 2) := all_at dvL_law_312 9 rfl
theorem dL_law_324 : decode cL_law 324 = .ok (.iadd, 1) := all_at dvL_law_312 10 rfl
theorem dL_law_325 : decode cL_law 325 = .ok (.iaload, 1) := all_at dvL_law_312 11 rfl
theorem dL_law_326 : decode cL_law 326 = .ok (.invokevirtual 26, 3) := all_at dvL_law_312 12 rfl
theorem dL_law_329 : decode cL_law 329 = .ok (.pop, 1) := all_at dvL_law_312 13 rfl
theorem dL_law_330 : decode cL_law 330 = .ok (.goto 1178, 3) := all_at dvL_law_312 14 rfl
theorem dL_law_333 : decode cL_law 333 = .ok (.aload_n 1, 1) := all_at dvL_law_312 15 rfl
theorem dL_law_334 : decode cL_law 334 = .ok (.aload_n 0, 1) := all_at dvL_law_312 16 rfl
theorem dL_law_335 : decode cL_law 335 = .ok (.iload_n 3, 1) := all_at dvL_law_312 17 rfl
theorem dL_law_336 : decode cL_law 336 = .ok (.iconst 1, 1) := all_at dvL_law_312 18 rfl
theorem dL_law_337 : decode cL_law 337 = .ok (.iadd, 1) := all_at dvL_law_312 19 rfl
theorem dL_law_338 : decode cL_law 338 = .ok (.iaload, 1) := all_at dvL_law_312 20 rfl
theorem dL_law_339 : decode cL_law 339 = .ok (.invokevirtual 27, 3) := all_at dvL_law_312 21 rfl
theorem dL_law_342 : decode cL_law 342 = .ok (.pop, 1) := all_at dvL_law_312 22 rfl
theorem dL_law_343 : decode cL_law 343 = .ok (.aload_n 2, 1) := all_at dvL_law_312 23 rfl
set_option maxRecDepth 100000 in
theorem dvL_law_344 : ([(344, .aload_n 0, 1), (345, .iload_n 3, 1), (346, .iconst 1, 1), (347, .iadd, 1), (348, .iaload, 1), (349, .invokevirtual 30, 3), (352, .pop, 1), (353, .goto 1155, 3), (356, .aload_n 1, 1), (357, .aload_n 0, 1), (358, .iload_n 3, 1), (359, .iconst 1, 1), (360, .iadd, 1), (361, .iaload, 1), (362, .aload_n 0, 1), (363, .iload_n 3, 1), (364, .iconst 2, 1), (365, .iadd, 1), (366, .iaload, 1), (367, .invokevirtual 31, 3), (370, .pop, 1), (371, .aload_n 2, 1), (372, .aload_n 0, 1), (373, .iload_n 3, 1)] : List (Nat × Instr × Nat)).all (fun q => decide (decode cL_law q.1 = .ok (q.2.1, q.2.2))) = true := by decide +kernel
theorem dL_law_344 : decode cL_law 344 = .ok (.aload_n 0, 1) := all_at dvL_law_344 0 rfl
theorem dL_law_345 : decode cL_law 345 = .ok (.iload_n 3, 1) := all_at dvL_law_344 1 rfl
theorem dL_law_346 : decode cL_law 346 = .ok (.iconst 1, 1) := all_at dvL_law_344 2 rfl
theorem dL_law_347 : decode cL_law 347 = .ok (.iadd, 1) := all_at dvL_law_344 3 rfl
theorem dL_law_348 : decode cL_law 348 = .ok (.iaload, 1) := all_at dvL_law_344 4 rfl
theorem dL_law_349 : decode cL_law 349 = .ok (.invokevirtual 30, 3) := all_at dvL_law_344 5 rfl
theorem dL_law_352 : decode cL_law 352 = .ok (.pop, 1) := all_at dvL_law_344 6 rfl
theorem dL_law_353 : decode cL_law 353 = .ok (.goto 1155, 3) := all_at dvL_law_344 7 rfl
theorem dL_law_356 : decode cL_law 356 = .ok (.aload_n 1, 1) := all_at dvL_law_344 8 rfl
theorem dL_law_357 : decode cL_law 357 = .ok (.aload_n 0, 1) := all_at dvL_law_344 9 rfl
theorem dL_law_358 : decode cL_law 358 = .ok (.iload_n 3, 1) := all_at dvL_law_344 10 rfl
theorem dL_law_359 : decode cL_law 359 = .ok (.iconst 1, 1) := all_at dvL_law_344 11 rfl
theorem dL_law_360 : decode cL_law 360 = .ok (.iadd, 1) := all_at dvL_law_344 12 rfl
theorem dL_law_361 : decode cL_law 361 = .ok (.iaload, 1) := all_at dvL_law_344 13 rfl
theorem dL_law_362 : decode cL_law 362 = .ok (.aload_n 0, 1) := all_at dvL_law_344 14 rfl
theorem dL_law_363 : decode cL_law 363 = .ok (.iload_n 3, 1) := all_at dvL_law_344 15 rfl
theorem dL_law_364 : decode cL_law 364 = .ok (.iconst 2, 1) := all_at dvL_law_344 16 rfl
theorem dL_law_365 : decode cL_law 365 = .ok (.iadd, 1) := all_at dvL_law_344 17 rfl
theorem dL_law_366 : decode cL_law 366 = .ok (.iaload, 1) := all_at dvL_law_344 18 rfl
theorem dL_law_367 : decode cL_law 367 = .ok (.invokevirtual 31, 3) := all_at dvL_law_344 19 rfl
theorem dL_law_370 : decode cL_law 370 = .ok (.pop, 1) := all_at dvL_law_344 20 rfl
theorem dL_law_371 : decode cL_law 371 = .ok (.aload_n 2, 1) := all_at dvL_law_344 21 rfl
theorem dL_law_372 : decode cL_law 372 = .ok (.aload_n 0, 1) := all_at dvL_law_344 22 rfl
theorem dL_law_373 : decode cL_law 373 = .ok (.iload_n 3, 1) := all_at dvL_law_344 23 rfl
set_option maxRecDepth 100000 in
theorem dvL_law_374 : ([(374, .iconst 1, 1), (375, .iadd, 1), (376, .iaload, 1), (377, .aload_n 0, 1), (378, .iload_n 3, 1), (379, .iconst 2, 1), (380, .iadd, 1), (381, .iaload, 1), (382, .invokevirtual 35, 3), (385, .pop, 1), (386, .goto 1122, 3)] : List (Nat × Instr × Nat)).all (fun q => decide (decode cL_law q.1 = .ok (q.2.1, q.2.2))) = true := by decide +kernel
theorem dL_law_374 : decode cL_law 374 = .ok (.iconst 1, 1) := all_at dvL_law_374 0 rfl
theorem dL_law_375 : decode cL_law 375 = .ok (.iadd, 1) := all_at dvL_law_374 1 rfl
theorem dL_law_376 : decode cL_law 376 = .ok (.iaload, 1) := all_at dvL_law_374 2 rfl
theorem dL_law_377 : decode cL_law 377 = .ok (.aload_n 0, 1) := all_at dvL_law_374 3 rfl
theorem dL_law_378 : decode cL_law 378 = .ok (.iload_n 3, 1) := all_at dvL_law_374 4 rfl
theorem dL_law_379 : decode cL_law 379 = .ok (.iconst 2, 1) := all_at dvL_law_374 5 rfl
theorem dL_law_380 : decode cL_law 380 = .ok (.iadd, 1) := all_at dvL_law_374 6 rfl
theorem dL_law_381 : decode cL_law 381 = .ok (.iaload, 1) := all_at dvL_law_374 7 rfl
theorem dL_law_382 : decode cL_law 382 = .ok (.invokevirtual 35, 3) := all_at dvL_law_374 8 rfl
theorem dL_law_385 : decode cL_law 385 = .ok (.pop, 1) := all_at dvL_law_374 9 rfl
theorem dL_law_386 : decode cL_law 386 = .ok (.goto 1122, 3) := all_at dvL_law_374 10 rfl
set_option maxHeartbeats 4000000 in
set_option maxRecDepth 100000 in
theorem law_0 {p : Program} {e : Env} {s : State} {m : MethodId} {below : List Frame} {meth : Method} {c : Code} (l : Launch) {b L : Nat} {xs : Nat → Int32} (hL : L ≤ 4096) (C0 : lw_At p s m meth c b L xs) {dC : Nat → ClassId} {dI : Nat → Nat → Nat} {A : Nat → Prop} (hA : ∀ q : Nat, s.heap.size ≤ q → A q) (hbA : ¬ A b) (hAs : ∀ q : Nat, A q → s.heap.size ≤ q) {x y : Nat} {gx gy : Nat → Nat → Nat} {cax cay : Nat → Nat → ClassId} {ak av : Nat → Nat} (hKx : va_K (dC, dI) classes (TX cax) s) (hKy : va_K (dC, dI) classes (TM cay) s) (hXY : ∀ a ∈ AdX x gx, ∀ b ∈ AdM y gy, a ≠ b) (hZ : zC ak av A s s.heap) {H : Heap} {locs : List Loc} {ivx : Nat → Nat → Int32} {lvx : Nat → Nat → Int64} {fax : Nat → Nat → Nat → Int32} {lax : Nat → Nat → Nat → Int64} {ivy : Nat → Nat → Int32} {lvy : Nat → Nat → Int64} {fay : Nat → Nat → Nat → Int32} {lay : Nat → Nat → Nat → Int64} (hIx : IX ivx fax) (hIy : IX ivy fay) (hJC : JCf (ivy 12 23).toInt (fay 12 25) (fay 12 26) (fay 12 27) (fay 12 28)) (hJR : JRf (ivy 12 3).toInt (fay 12 7)) (hJN : JNf (ivy 12 3).toInt (fay 12 4) (fay 12 5)) (hJO : ((ivy 12 20).toInt = -1 ∧ (ivy 12 21).toInt = -1 ∧ (ivy 12 22).toInt = -1)) (hq_bales : ivx 0 7 = ivy 12 1) (ha_thread : (∀ j : Nat, fax 0 1 j = fay 12 51 j)) (hz_thread : (∀ j : Nat, (ivx 0 7).toInt ≤ (j : Int) → (fax 0 1 j).toInt = 0)) (hsz : (∀ j : Nat, (fax 0 5 j).toInt = 2 * (fay 12 52 j).toInt ∧ 0 ≤ (fay 12 52 j).toInt ∧ (fay 12 52 j).toInt ≤ 999)) (hPx : va_P (dC, dI) classes (WX x gx cax ivx lvx fax lax) H) (hDx : va_D A (WX x gx cax ivx lvx fax lax)) (hPy : va_P (dC, dI) classes (WM y gy cay ivy lvy fay lay) H) (hDy : va_D A (WM y gy cay ivy lvy fay lay)) (hS : va_S A s.heap H locs) {i : Int32} {ls : Array Slot} (hl : lv_has ls 4 [(3, .int i), (2, .ref y), (1, .ref x), (0, .ref b)]) (hi : 0 ≤ i.toInt ∧ i.toInt ≤ 4088) (hi8 : i.toInt + 8 ≤ (L : Int)) (kk : ∀ (H : Heap) (locs : List Loc) (ivx : Nat → Nat → Int32) (lvx : Nat → Nat → Int64) (fax : Nat → Nat → Nat → Int32) (lax : Nat → Nat → Nat → Int64) (ivy : Nat → Nat → Int32) (lvy : Nat → Nat → Int64) (fay : Nat → Nat → Nat → Int32) (lay : Nat → Nat → Nat → Int64), IX ivx fax → IX ivy fay → JCf (ivy 12 23).toInt (fay 12 25) (fay 12 26) (fay 12 27) (fay 12 28) → JRf (ivy 12 3).toInt (fay 12 7) → JNf (ivy 12 3).toInt (fay 12 4) (fay 12 5) → ((ivy 12 20).toInt = -1 ∧ (ivy 12 21).toInt = -1 ∧ (ivy 12 22).toInt = -1) → ivx 0 7 = ivy 12 1 → (∀ j : Nat, fax 0 1 j = fay 12 51 j) → (∀ j : Nat, (ivx 0 7).toInt ≤ (j : Int) → (fax 0 1 j).toInt = 0) → (∀ j : Nat, (fax 0 5 j).toInt = 2 * (fay 12 52 j).toInt ∧ 0 ≤ (fay 12 52 j).toInt ∧ (fay 12 52 j).toInt ≤ 999) → va_P (dC, dI) classes (WX x gx cax ivx lvx fax lax) H → va_D A (WX x gx cax ivx lvx fax lax) → va_P (dC, dI) classes (WM y gy cay ivy lvy fay lay) H → va_D A (WM y gy cay ivy lvy fay lay) → va_S A s.heap H locs → W p l e room_1 s m #[Value.ref b] below meth c H locs 98 5431 (lw_Z below #[Value.ref b] s) (F0 m 1508 ls [])) : W p l e room_1 s m #[Value.ref b] below meth c H locs 98 5431 (lw_Z below #[Value.ref b] s) (F0 m 200 ls []) := by
  obtain ⟨hx, hb, hr, hml, hown, hts, hX, hbl, hlocks, hgv⟩ := id C0
  have ht := tb_of hts
  have hJV : ∀ j : Nat, 0 ≤ (fay 12 52 j).toInt ∧ (fay 12 52 j).toInt ≤ 999 := fun j => (hsz j).2
  have hJZ : ∀ j : Nat, 0 ≤ (fax 0 5 j).toInt ∧ (fax 0 5 j).toInt ≤ 1998 := fun j => by have h5 := hsz j; omega
  refine lv_aload_n hx hb dL_law_200 rfl (lv_at hl 2 rfl) ?_
  refine lv_aload_n hx hb dL_law_201 rfl (lv_at hl 3 rfl) ?_
  refine lv_iload_n hx hb dL_law_202 rfl (lv_at hl 0 rfl) ?_
  refine lv_iconst (v := 1) hx hb dL_law_203 (by decide) ?_
  refine lv_iadd hx hb dL_law_204 ?_
  refine lv_topi (fun v1 ev1 => ?_)
  have tv1 := z_add ev1 (rfl : (i).toInt = _) (by decide : (1 : Int32).toInt = 1) (by omega) (by omega)
  refine va_sld hx hb hX hbl hbA hS (vp_in_iff.mpr ⟨by omega, by omega⟩ : vp_in v1 L) dL_law_205 ?_
  refine lv_topi (fun v2 ev2 => ?_)
  have hFc := free_all hDx hS hA
  refine va_calli (va_runV (As := [.int v2]) (rest := []) ⟨hx, hb, hml, hown, ht⟩ (c_X11_go l dC dI H.size x gx cax ivx lvx fax lax hIx v2) (kV 1 ht m_449 m_450 m_451 m_77 m_452 rfl rfl hd_X11_go_v ⟨Nat.le_of_ble_eq_true rfl, Nat.le_of_ble_eq_true rfl⟩) (vW hPx hKx hDx (rX_11 hKx hPx)) rfl rfl hl.1 rfl (lv_room (Nat.le_of_ble_eq_true rfl)) dL_law_206 ⟨Nat.le_of_ble_eq_true rfl, Nat.le_of_ble_eq_true rfl⟩) hS (fun q _ h => hFc q h) hFc (fun r3 u t H1 locs ht9 hvm hr3 hB hz1 hk1 hS => ?_)
  obtain ⟨n4, hn4, hr3, rfl⟩ := hr3
  obtain ⟨hPx, hDx⟩ := hB
  rw [ht9] at hPx
  have hPy := P_kept hPy (la := AdM y gy) (lb := AdX x gx) wmM wmX (fun a ha b hb => (hXY b hb a ha).symm) hk1
  generalize H1 = H at hPx hPy hS ⊢
  have hPx : va_P (dC, dI) classes (WX x gx cax (u2 ivx 11 10 n4) lvx fax lax) H := hPx
  have hDx : va_D A (WX x gx cax (u2 ivx 11 10 n4) lvx fax lax) := (show va_D _ (WX x gx cax (u2 ivx 11 10 n4) lvx fax lax) from hDx).weaken (fun _ _ _ h => hFc _ h)
  refine lv_pop hx hb dL_law_209 rfl ?_
  refine lv_aload_n hx hb dL_law_210 rfl (lv_at hl 1 rfl) ?_
  refine lv_aload_n hx hb dL_law_211 rfl (lv_at hl 3 rfl) ?_
  refine lv_iload_n hx hb dL_law_212 rfl (lv_at hl 0 rfl) ?_
  refine lv_iconst (v := 1) hx hb dL_law_213 (by decide) ?_
  refine lv_iadd hx hb dL_law_214 ?_
  refine lv_topi (fun v5 ev5 => ?_)
  have tv5 := z_add ev5 (rfl : (i).toInt = _) (by decide : (1 : Int32).toInt = 1) (by omega) (by omega)
  refine va_sld hx hb hX hbl hbA hS (vp_in_iff.mpr ⟨by omega, by omega⟩ : vp_in v5 L) dL_law_215 ?_
  refine lv_topi (fun v6 ev6 => ?_)
  have hFc := free_all hDy hS hA
  refine va_calli (va_runV (As := [.int v6]) (rest := []) ⟨hx, hb, hml, hown, ht⟩ (c_X12_go l dC dI H.size y gy cay ivy lvy fay lay hIy v6) (kV 1 ht m_1365 m_1366 m_1367 m_89 m_1368 rfl rfl hd_X12_go_v ⟨Nat.le_of_ble_eq_true rfl, Nat.le_of_ble_eq_true rfl⟩) (vW hPy hKy hDy (rM_12 hKy hPy)) rfl rfl hl.1 rfl (lv_room (Nat.le_of_ble_eq_true rfl)) dL_law_216 ⟨Nat.le_of_ble_eq_true rfl, Nat.le_of_ble_eq_true rfl⟩) hS (fun q _ h => hFc q h) hFc (fun r7 u t H1 locs ht9 hvm hr7 hB hz1 hk1 hS => ?_)
  obtain ⟨n8, hn8, hr7, rfl⟩ := hr7
  obtain ⟨hPy, hDy⟩ := hB
  rw [ht9] at hPy
  have hPx := P_kept hPx (la := AdX x gx) (lb := AdM y gy) wmX wmM hXY hk1
  generalize H1 = H at hPx hPy hS ⊢
  have hPy : va_P (dC, dI) classes (WM y gy cay (u2 ivy 12 0 n8) lvy fay lay) H := hPy
  have hDy : va_D A (WM y gy cay (u2 ivy 12 0 n8) lvy fay lay) := (show va_D _ (WM y gy cay (u2 ivy 12 0 n8) lvy fay lay) from hDy).weaken (fun _ _ _ h => hFc _ h)
  refine lv_pop hx hb dL_law_219 rfl ?_
  refine lv_goto (tgt := 1508) hx hb dL_law_220 (by decide) ?_
  exact kk _ _ (u2 ivx 11 10 n4) lvx fax lax (u2 ivy 12 0 n8) lvy fay lay (IX_i (c := 11) (k := 10) hIx hn4) (IX_i (c := 12) (k := 0) hIy hn8) hJC hJR hJN hJO hq_bales ha_thread hz_thread hsz hPx hDx hPy hDy hS
set_option maxHeartbeats 4000000 in
set_option maxRecDepth 100000 in
theorem law_1 {p : Program} {e : Env} {s : State} {m : MethodId} {below : List Frame} {meth : Method} {c : Code} (l : Launch) {b L : Nat} {xs : Nat → Int32} (hL : L ≤ 4096) (C0 : lw_At p s m meth c b L xs) {dC : Nat → ClassId} {dI : Nat → Nat → Nat} {A : Nat → Prop} (hA : ∀ q : Nat, s.heap.size ≤ q → A q) (hbA : ¬ A b) (hAs : ∀ q : Nat, A q → s.heap.size ≤ q) {x y : Nat} {gx gy : Nat → Nat → Nat} {cax cay : Nat → Nat → ClassId} {ak av : Nat → Nat} (hKx : va_K (dC, dI) classes (TX cax) s) (hKy : va_K (dC, dI) classes (TM cay) s) (hXY : ∀ a ∈ AdX x gx, ∀ b ∈ AdM y gy, a ≠ b) (hZ : zC ak av A s s.heap) {H : Heap} {locs : List Loc} {ivx : Nat → Nat → Int32} {lvx : Nat → Nat → Int64} {fax : Nat → Nat → Nat → Int32} {lax : Nat → Nat → Nat → Int64} {ivy : Nat → Nat → Int32} {lvy : Nat → Nat → Int64} {fay : Nat → Nat → Nat → Int32} {lay : Nat → Nat → Nat → Int64} (hIx : IX ivx fax) (hIy : IX ivy fay) (hJC : JCf (ivy 12 23).toInt (fay 12 25) (fay 12 26) (fay 12 27) (fay 12 28)) (hJR : JRf (ivy 12 3).toInt (fay 12 7)) (hJN : JNf (ivy 12 3).toInt (fay 12 4) (fay 12 5)) (hJO : ((ivy 12 20).toInt = -1 ∧ (ivy 12 21).toInt = -1 ∧ (ivy 12 22).toInt = -1)) (hq_bales : ivx 0 7 = ivy 12 1) (ha_thread : (∀ j : Nat, fax 0 1 j = fay 12 51 j)) (hz_thread : (∀ j : Nat, (ivx 0 7).toInt ≤ (j : Int) → (fax 0 1 j).toInt = 0)) (hsz : (∀ j : Nat, (fax 0 5 j).toInt = 2 * (fay 12 52 j).toInt ∧ 0 ≤ (fay 12 52 j).toInt ∧ (fay 12 52 j).toInt ≤ 999)) (hPx : va_P (dC, dI) classes (WX x gx cax ivx lvx fax lax) H) (hDx : va_D A (WX x gx cax ivx lvx fax lax)) (hPy : va_P (dC, dI) classes (WM y gy cay ivy lvy fay lay) H) (hDy : va_D A (WM y gy cay ivy lvy fay lay)) (hS : va_S A s.heap H locs) {i : Int32} {ls : Array Slot} (hl : lv_has ls 4 [(3, .int i), (2, .ref y), (1, .ref x), (0, .ref b)]) (hi : 0 ≤ i.toInt ∧ i.toInt ≤ 4088) (hi8 : i.toInt + 8 ≤ (L : Int)) (kk : ∀ (H : Heap) (locs : List Loc) (ivx : Nat → Nat → Int32) (lvx : Nat → Nat → Int64) (fax : Nat → Nat → Nat → Int32) (lax : Nat → Nat → Nat → Int64) (ivy : Nat → Nat → Int32) (lvy : Nat → Nat → Int64) (fay : Nat → Nat → Nat → Int32) (lay : Nat → Nat → Nat → Int64), IX ivx fax → IX ivy fay → JCf (ivy 12 23).toInt (fay 12 25) (fay 12 26) (fay 12 27) (fay 12 28) → JRf (ivy 12 3).toInt (fay 12 7) → JNf (ivy 12 3).toInt (fay 12 4) (fay 12 5) → ((ivy 12 20).toInt = -1 ∧ (ivy 12 21).toInt = -1 ∧ (ivy 12 22).toInt = -1) → ivx 0 7 = ivy 12 1 → (∀ j : Nat, fax 0 1 j = fay 12 51 j) → (∀ j : Nat, (ivx 0 7).toInt ≤ (j : Int) → (fax 0 1 j).toInt = 0) → (∀ j : Nat, (fax 0 5 j).toInt = 2 * (fay 12 52 j).toInt ∧ 0 ≤ (fay 12 52 j).toInt ∧ (fay 12 52 j).toInt ≤ 999) → va_P (dC, dI) classes (WX x gx cax ivx lvx fax lax) H → va_D A (WX x gx cax ivx lvx fax lax) → va_P (dC, dI) classes (WM y gy cay ivy lvy fay lay) H → va_D A (WM y gy cay ivy lvy fay lay) → va_S A s.heap H locs → W p l e room_1 s m #[Value.ref b] below meth c H locs 98 5431 (lw_Z below #[Value.ref b] s) (F0 m 1508 ls [])) : W p l e room_1 s m #[Value.ref b] below meth c H locs 98 5431 (lw_Z below #[Value.ref b] s) (F0 m 223 ls []) := by
  obtain ⟨hx, hb, hr, hml, hown, hts, hX, hbl, hlocks, hgv⟩ := id C0
  have ht := tb_of hts
  have hJV : ∀ j : Nat, 0 ≤ (fay 12 52 j).toInt ∧ (fay 12 52 j).toInt ≤ 999 := fun j => (hsz j).2
  have hJZ : ∀ j : Nat, 0 ≤ (fax 0 5 j).toInt ∧ (fax 0 5 j).toInt ≤ 1998 := fun j => by have h5 := hsz j; omega
  refine lv_aload_n hx hb dL_law_223 rfl (lv_at hl 2 rfl) ?_
  refine lv_aload_n hx hb dL_law_224 rfl (lv_at hl 3 rfl) ?_
  refine lv_iload_n hx hb dL_law_225 rfl (lv_at hl 0 rfl) ?_
  refine lv_iconst (v := 1) hx hb dL_law_226 (by decide) ?_
  refine lv_iadd hx hb dL_law_227 ?_
  refine lv_topi (fun v1 ev1 => ?_)
  have tv1 := z_add ev1 (rfl : (i).toInt = _) (by decide : (1 : Int32).toInt = 1) (by omega) (by omega)
  refine va_sld hx hb hX hbl hbA hS (vp_in_iff.mpr ⟨by omega, by omega⟩ : vp_in v1 L) dL_law_228 ?_
  refine lv_topi (fun v2 ev2 => ?_)
  have hFc := free_all hDx hS hA
  refine va_calli (va_runV (As := [.int v2]) (rest := []) ⟨hx, hb, hml, hown, ht⟩ (c_X11_bale_x l dC dI H.size x gx cax ivx lvx fax lax hIx v2) (kV 1 ht m_458 m_459 m_460 m_77 m_461 rfl rfl hd_X11_bale_v ⟨Nat.le_of_ble_eq_true rfl, Nat.le_of_ble_eq_true rfl⟩) (vW hPx hKx hDx (rX_11 hKx hPx)) rfl rfl hl.1 rfl (lv_room (Nat.le_of_ble_eq_true rfl)) dL_law_229 ⟨Nat.le_of_ble_eq_true rfl, Nat.le_of_ble_eq_true rfl⟩) hS (fun q _ h => hFc q h) hFc (fun r3 u t H1 locs ht9 hvm hr3 hB hz1 hk1 hS => ?_)
  obtain ⟨n4, n5, hn5, xr3_0, hr3, rfl⟩ := hr3
  obtain ⟨hPx, hDx⟩ := hB
  rw [ht9] at hPx
  have hPy := P_kept hPy (la := AdM y gy) (lb := AdX x gx) wmM wmX (fun a ha b hb => (hXY b hb a ha).symm) hk1
  generalize H1 = H at hPx hPy hS ⊢
  have hPx : va_P (dC, dI) classes (WX x gx cax (u2 ivx 0 7 n5) lvx (u2 fax 0 0 n4) lax) H := hPx
  have hDx : va_D A (WX x gx cax (u2 ivx 0 7 n5) lvx (u2 fax 0 0 n4) lax) := (show va_D _ (WX x gx cax (u2 ivx 0 7 n5) lvx (u2 fax 0 0 n4) lax) from hDx).weaken (fun _ _ _ h => hFc _ h)
  refine lv_pop hx hb dL_law_232 rfl ?_
  refine lv_aload_n hx hb dL_law_233 rfl (lv_at hl 1 rfl) ?_
  refine lv_aload_n hx hb dL_law_234 rfl (lv_at hl 3 rfl) ?_
  refine lv_iload_n hx hb dL_law_235 rfl (lv_at hl 0 rfl) ?_
  refine lv_iconst (v := 1) hx hb dL_law_236 (by decide) ?_
  refine lv_iadd hx hb dL_law_237 ?_
  refine lv_topi (fun v6 ev6 => ?_)
  have tv6 := z_add ev6 (rfl : (i).toInt = _) (by decide : (1 : Int32).toInt = 1) (by omega) (by omega)
  refine va_sld hx hb hX hbl hbA hS (vp_in_iff.mpr ⟨by omega, by omega⟩ : vp_in v6 L) dL_law_238 ?_
  refine lv_topi (fun v7 ev7 => ?_)
  have hFc := free_all hDy hS hA
  refine va_calli (va_runV (As := [.int v7]) (rest := []) ⟨hx, hb, hml, hown, ht⟩ (c_X12_bale_x l dC dI H.size y gy cay ivy lvy fay lay hIy v7) (kV 1 ht m_1375 m_1376 m_1377 m_89 m_1378 rfl rfl hd_X12_bale_v ⟨Nat.le_of_ble_eq_true rfl, Nat.le_of_ble_eq_true rfl⟩) (vW hPy hKy hDy (rM_12 hKy hPy)) rfl rfl hl.1 rfl (lv_room (Nat.le_of_ble_eq_true rfl)) dL_law_239 ⟨Nat.le_of_ble_eq_true rfl, Nat.le_of_ble_eq_true rfl⟩) hS (fun q _ h => hFc q h) hFc (fun r8 u t H1 locs ht9 hvm hr8 hB hz1 hk1 hS => ?_)
  obtain ⟨n9, n10, n11, n12, hn10, hn11, hn12, xr8_0, xr8_1, xr8_2, hr8, rfl⟩ := hr8
  obtain ⟨hPy, hDy⟩ := hB
  rw [ht9] at hPy
  have hPx := P_kept hPx (la := AdX x gx) (lb := AdM y gy) wmX wmM hXY hk1
  generalize H1 = H at hPx hPy hS ⊢
  have hPy : va_P (dC, dI) classes (WM y gy cay (u2 ivy 12 1 n12) lvy (u2 (u2 (u2 fay 12 2 n9) 12 51 n10) 12 53 n11) lay) H := hPy
  have hDy : va_D A (WM y gy cay (u2 ivy 12 1 n12) lvy (u2 (u2 (u2 fay 12 2 n9) 12 51 n10) 12 53 n11) lay) := (show va_D _ (WM y gy cay (u2 ivy 12 1 n12) lvy (u2 (u2 (u2 fay 12 2 n9) 12 51 n10) 12 53 n11) lay) from hDy).weaken (fun _ _ _ h => hFc _ h)
  have hv9_0 : (v2 : Int32) = v7 := by rw [ev2, ev7, ev1, ev6]
  have hu9_0 := congrArg Int32.toInt hv9_0
  have hw9_bales := congrArg Int32.toInt hq_bales
  have y9x_0 : ((r3.toInt = -100002 ∧ ¬ (1 ≤ (v2 : Int32).toInt ∧ (v2 : Int32).toInt ≤ 99999) ∧ n5.toInt = (ivx 0 7).toInt) ∨ (r3.toInt = -100004 ∧ (1 ≤ (v2 : Int32).toInt ∧ (v2 : Int32).toInt ≤ 99999) ∧ 10 ≤ (ivx 0 7).toInt ∧ n5.toInt = (ivx 0 7).toInt) ∨ ((1 ≤ (v2 : Int32).toInt ∧ (v2 : Int32).toInt ≤ 99999) ∧ (ivx 0 7).toInt < 10 ∧ r3.toInt = (ivx 0 7).toInt ∧ n5.toInt = (ivx 0 7).toInt + 1)) := xr3_0
  have y9y_0 : ((r8.toInt = -100002 ∧ ¬ (1 ≤ (v7 : Int32).toInt ∧ (v7 : Int32).toInt ≤ 99999) ∧ n12.toInt = (ivy 12 1).toInt) ∨ (r8.toInt = -100004 ∧ (1 ≤ (v7 : Int32).toInt ∧ (v7 : Int32).toInt ≤ 99999) ∧ 10 ≤ (ivy 12 1).toInt ∧ n12.toInt = (ivy 12 1).toInt) ∨ ((1 ≤ (v7 : Int32).toInt ∧ (v7 : Int32).toInt ≤ 99999) ∧ (ivy 12 1).toInt < 10 ∧ r8.toInt = (ivy 12 1).toInt ∧ n12.toInt = (ivy 12 1).toInt + 1)) := xr8_0
  have y9y_1 : ∀ j : Nat, j ≠ (ivy 12 1).toNatClampNeg → n10 j = (fay 12 51) j := xr8_1
  have y9y_2 : (n10 (ivy 12 1).toNatClampNeg = (fay 12 51) (ivy 12 1).toNatClampNeg ∨ n10 (ivy 12 1).toNatClampNeg = 0) := xr8_2
  have hn_thread : ∀ j : Nat, (fax 0 1) j = n10 j := by
    intro j
    by_cases hj : j = (ivy 12 1).toNatClampNeg
    · have hj2 : j = (ivy 12 1).toInt.toNat := hj
      have h1 := hz_thread j (by omega)
      rcases y9y_2 with q | q
      · rw [hj, q]; exact ha_thread _
      · rw [hj, q]; rw [hj] at h1; exact Int32.toInt_inj.mp h1
    · rw [y9y_1 j hj]; exact ha_thread j
  have hy_thread : ∀ j : Nat, (n5 : Int32).toInt ≤ (j : Int) → ((fax 0 1) j).toInt = 0 := fun j h => hz_thread j (by omega)
  refine lv_pop hx hb dL_law_242 rfl ?_
  refine lv_goto (tgt := 1508) hx hb dL_law_243 (by decide) ?_
  exact kk _ _ (u2 ivx 0 7 n5) lvx (u2 fax 0 0 n4) lax (u2 ivy 12 1 n12) lvy (u2 (u2 (u2 fay 12 2 n9) 12 51 n10) 12 53 n11) lay (IX_a (c := 0) (k := 0) (IX_i (c := 0) (k := 7) hIx hn5) (fun j => full_i _)) (IX_a (c := 12) (k := 53) (IX_a (c := 12) (k := 51) (IX_a (c := 12) (k := 2) (IX_i (c := 12) (k := 1) hIy hn12) (fun j => full_i _)) hn10) hn11) hJC hJR hJN hJO (show (n5 : Int32) = n12 from Int32.toInt_inj.mp (by omega)) hn_thread hy_thread hsz hPx hDx hPy hDy hS
set_option maxHeartbeats 4000000 in
set_option maxRecDepth 100000 in
theorem law_2 {p : Program} {e : Env} {s : State} {m : MethodId} {below : List Frame} {meth : Method} {c : Code} (l : Launch) {b L : Nat} {xs : Nat → Int32} (hL : L ≤ 4096) (C0 : lw_At p s m meth c b L xs) {dC : Nat → ClassId} {dI : Nat → Nat → Nat} {A : Nat → Prop} (hA : ∀ q : Nat, s.heap.size ≤ q → A q) (hbA : ¬ A b) (hAs : ∀ q : Nat, A q → s.heap.size ≤ q) {x y : Nat} {gx gy : Nat → Nat → Nat} {cax cay : Nat → Nat → ClassId} {ak av : Nat → Nat} (hKx : va_K (dC, dI) classes (TX cax) s) (hKy : va_K (dC, dI) classes (TM cay) s) (hXY : ∀ a ∈ AdX x gx, ∀ b ∈ AdM y gy, a ≠ b) (hZ : zC ak av A s s.heap) {H : Heap} {locs : List Loc} {ivx : Nat → Nat → Int32} {lvx : Nat → Nat → Int64} {fax : Nat → Nat → Nat → Int32} {lax : Nat → Nat → Nat → Int64} {ivy : Nat → Nat → Int32} {lvy : Nat → Nat → Int64} {fay : Nat → Nat → Nat → Int32} {lay : Nat → Nat → Nat → Int64} (hIx : IX ivx fax) (hIy : IX ivy fay) (hJC : JCf (ivy 12 23).toInt (fay 12 25) (fay 12 26) (fay 12 27) (fay 12 28)) (hJR : JRf (ivy 12 3).toInt (fay 12 7)) (hJN : JNf (ivy 12 3).toInt (fay 12 4) (fay 12 5)) (hJO : ((ivy 12 20).toInt = -1 ∧ (ivy 12 21).toInt = -1 ∧ (ivy 12 22).toInt = -1)) (hq_bales : ivx 0 7 = ivy 12 1) (ha_thread : (∀ j : Nat, fax 0 1 j = fay 12 51 j)) (hz_thread : (∀ j : Nat, (ivx 0 7).toInt ≤ (j : Int) → (fax 0 1 j).toInt = 0)) (hsz : (∀ j : Nat, (fax 0 5 j).toInt = 2 * (fay 12 52 j).toInt ∧ 0 ≤ (fay 12 52 j).toInt ∧ (fay 12 52 j).toInt ≤ 999)) (hPx : va_P (dC, dI) classes (WX x gx cax ivx lvx fax lax) H) (hDx : va_D A (WX x gx cax ivx lvx fax lax)) (hPy : va_P (dC, dI) classes (WM y gy cay ivy lvy fay lay) H) (hDy : va_D A (WM y gy cay ivy lvy fay lay)) (hS : va_S A s.heap H locs) {i : Int32} {ls : Array Slot} (hl : lv_has ls 4 [(3, .int i), (2, .ref y), (1, .ref x), (0, .ref b)]) (hi : 0 ≤ i.toInt ∧ i.toInt ≤ 4088) (hi8 : i.toInt + 8 ≤ (L : Int)) (kk : ∀ (H : Heap) (locs : List Loc) (ivx : Nat → Nat → Int32) (lvx : Nat → Nat → Int64) (fax : Nat → Nat → Nat → Int32) (lax : Nat → Nat → Nat → Int64) (ivy : Nat → Nat → Int32) (lvy : Nat → Nat → Int64) (fay : Nat → Nat → Nat → Int32) (lay : Nat → Nat → Nat → Int64), IX ivx fax → IX ivy fay → JCf (ivy 12 23).toInt (fay 12 25) (fay 12 26) (fay 12 27) (fay 12 28) → JRf (ivy 12 3).toInt (fay 12 7) → JNf (ivy 12 3).toInt (fay 12 4) (fay 12 5) → ((ivy 12 20).toInt = -1 ∧ (ivy 12 21).toInt = -1 ∧ (ivy 12 22).toInt = -1) → ivx 0 7 = ivy 12 1 → (∀ j : Nat, fax 0 1 j = fay 12 51 j) → (∀ j : Nat, (ivx 0 7).toInt ≤ (j : Int) → (fax 0 1 j).toInt = 0) → (∀ j : Nat, (fax 0 5 j).toInt = 2 * (fay 12 52 j).toInt ∧ 0 ≤ (fay 12 52 j).toInt ∧ (fay 12 52 j).toInt ≤ 999) → va_P (dC, dI) classes (WX x gx cax ivx lvx fax lax) H → va_D A (WX x gx cax ivx lvx fax lax) → va_P (dC, dI) classes (WM y gy cay ivy lvy fay lay) H → va_D A (WM y gy cay ivy lvy fay lay) → va_S A s.heap H locs → W p l e room_1 s m #[Value.ref b] below meth c H locs 98 5431 (lw_Z below #[Value.ref b] s) (F0 m 1508 ls [])) : W p l e room_1 s m #[Value.ref b] below meth c H locs 98 5431 (lw_Z below #[Value.ref b] s) (F0 m 246 ls []) := by
  obtain ⟨hx, hb, hr, hml, hown, hts, hX, hbl, hlocks, hgv⟩ := id C0
  have ht := tb_of hts
  have hJV : ∀ j : Nat, 0 ≤ (fay 12 52 j).toInt ∧ (fay 12 52 j).toInt ≤ 999 := fun j => (hsz j).2
  have hJZ : ∀ j : Nat, 0 ≤ (fax 0 5 j).toInt ∧ (fax 0 5 j).toInt ≤ 1998 := fun j => by have h5 := hsz j; omega
  refine lv_aload_n hx hb dL_law_246 rfl (lv_at hl 2 rfl) ?_
  refine lv_aload_n hx hb dL_law_247 rfl (lv_at hl 3 rfl) ?_
  refine lv_iload_n hx hb dL_law_248 rfl (lv_at hl 0 rfl) ?_
  refine lv_iconst (v := 1) hx hb dL_law_249 (by decide) ?_
  refine lv_iadd hx hb dL_law_250 ?_
  refine lv_topi (fun v1 ev1 => ?_)
  have tv1 := z_add ev1 (rfl : (i).toInt = _) (by decide : (1 : Int32).toInt = 1) (by omega) (by omega)
  refine va_sld hx hb hX hbl hbA hS (vp_in_iff.mpr ⟨by omega, by omega⟩ : vp_in v1 L) dL_law_251 ?_
  refine lv_topi (fun v2 ev2 => ?_)
  refine lv_aload_n hx hb dL_law_252 rfl (lv_at hl 3 rfl) ?_
  refine lv_iload_n hx hb dL_law_253 rfl (lv_at hl 0 rfl) ?_
  refine lv_iconst (v := 2) hx hb dL_law_254 (by decide) ?_
  refine lv_iadd hx hb dL_law_255 ?_
  refine lv_topi (fun v3 ev3 => ?_)
  have tv3 := z_add ev3 (rfl : (i).toInt = _) (by decide : (2 : Int32).toInt = 2) (by omega) (by omega)
  refine va_sld hx hb hX hbl hbA hS (vp_in_iff.mpr ⟨by omega, by omega⟩ : vp_in v3 L) dL_law_256 ?_
  refine lv_topi (fun v4 ev4 => ?_)
  refine lv_aload_n hx hb dL_law_257 rfl (lv_at hl 3 rfl) ?_
  refine lv_iload_n hx hb dL_law_258 rfl (lv_at hl 0 rfl) ?_
  refine lv_iconst (v := 3) hx hb dL_law_259 (by decide) ?_
  refine lv_iadd hx hb dL_law_260 ?_
  refine lv_topi (fun v5 ev5 => ?_)
  have tv5 := z_add ev5 (rfl : (i).toInt = _) (by decide : (3 : Int32).toInt = 3) (by omega) (by omega)
  refine va_sld hx hb hX hbl hbA hS (vp_in_iff.mpr ⟨by omega, by omega⟩ : vp_in v5 L) dL_law_261 ?_
  refine lv_topi (fun v6 ev6 => ?_)
  refine lv_aload_n hx hb dL_law_262 rfl (lv_at hl 3 rfl) ?_
  refine lv_iload_n hx hb dL_law_263 rfl (lv_at hl 0 rfl) ?_
  refine lv_iconst (v := 4) hx hb dL_law_264 (by decide) ?_
  refine lv_iadd hx hb dL_law_265 ?_
  refine lv_topi (fun v7 ev7 => ?_)
  have tv7 := z_add ev7 (rfl : (i).toInt = _) (by decide : (4 : Int32).toInt = 4) (by omega) (by omega)
  refine va_sld hx hb hX hbl hbA hS (vp_in_iff.mpr ⟨by omega, by omega⟩ : vp_in v7 L) dL_law_266 ?_
  refine lv_topi (fun v8 ev8 => ?_)
  refine lv_aload_n hx hb dL_law_267 rfl (lv_at hl 3 rfl) ?_
  refine lv_iload_n hx hb dL_law_268 rfl (lv_at hl 0 rfl) ?_
  refine lv_iconst (v := 5) hx hb dL_law_269 (by decide) ?_
  refine lv_iadd hx hb dL_law_270 ?_
  refine lv_topi (fun v9 ev9 => ?_)
  have tv9 := z_add ev9 (rfl : (i).toInt = _) (by decide : (5 : Int32).toInt = 5) (by omega) (by omega)
  refine va_sld hx hb hX hbl hbA hS (vp_in_iff.mpr ⟨by omega, by omega⟩ : vp_in v9 L) dL_law_271 ?_
  refine lv_topi (fun v10 ev10 => ?_)
  refine lv_aload_n hx hb dL_law_272 rfl (lv_at hl 3 rfl) ?_
  refine lv_iload_n hx hb dL_law_273 rfl (lv_at hl 0 rfl) ?_
  refine lv_bipush (v := 6) hx hb dL_law_274 (by decide) ?_
  refine lv_iadd hx hb dL_law_276 ?_
  refine lv_topi (fun v11 ev11 => ?_)
  have tv11 := z_add ev11 (rfl : (i).toInt = _) (by decide : (6 : Int32).toInt = 6) (by omega) (by omega)
  refine va_sld hx hb hX hbl hbA hS (vp_in_iff.mpr ⟨by omega, by omega⟩ : vp_in v11 L) dL_law_277 ?_
  refine lv_topi (fun v12 ev12 => ?_)
  refine lv_aload_n hx hb dL_law_278 rfl (lv_at hl 3 rfl) ?_
  refine lv_iload_n hx hb dL_law_279 rfl (lv_at hl 0 rfl) ?_
  refine lv_bipush (v := 7) hx hb dL_law_280 (by decide) ?_
  refine lv_iadd hx hb dL_law_282 ?_
  refine lv_topi (fun v13 ev13 => ?_)
  have tv13 := z_add ev13 (rfl : (i).toInt = _) (by decide : (7 : Int32).toInt = 7) (by omega) (by omega)
  refine va_sld hx hb hX hbl hbA hS (vp_in_iff.mpr ⟨by omega, by omega⟩ : vp_in v13 L) dL_law_283 ?_
  refine lv_topi (fun v14 ev14 => ?_)
  have hFc := free_all hDx hS hA
  refine va_calli (va_runV (As := [.int v2, .int v4, .int v6, .int v8, .int v10, .int v12, .int v14]) (rest := []) ⟨hx, hb, hml, hown, ht⟩ (c_X11_skein l dC dI H.size x gx cax ivx lvx fax lax hIx v2 v4 v6 v8 v10 v12 v14) (kV 7 ht m_468 m_469 m_470 m_77 m_471 rfl rfl hd_X11_skein_v ⟨Nat.le_of_ble_eq_true rfl, Nat.le_of_ble_eq_true rfl⟩) (vW hPx hKx hDx (rX_11 hKx hPx)) rfl rfl hl.1 rfl (lv_room (Nat.le_of_ble_eq_true rfl)) dL_law_284 ⟨Nat.le_of_ble_eq_true rfl, Nat.le_of_ble_eq_true rfl⟩) hS (fun q _ h => hFc q h) hFc (fun r15 u t H1 locs ht9 hvm hr15 hB hz1 hk1 hS => ?_)
  obtain ⟨n16, n17, hn16, hn17, hr15, rfl⟩ := hr15
  obtain ⟨hPx, hDx⟩ := hB
  rw [ht9] at hPx
  have hPy := P_kept hPy (la := AdM y gy) (lb := AdX x gx) wmM wmX (fun a ha b hb => (hXY b hb a ha).symm) hk1
  generalize H1 = H at hPx hPy hS ⊢
  have hPx : va_P (dC, dI) classes (WX x gx cax (u2 ivx 10 1 n17) lvx (u2 fax 10 0 n16) lax) H := hPx
  have hDx : va_D A (WX x gx cax (u2 ivx 10 1 n17) lvx (u2 fax 10 0 n16) lax) := (show va_D _ (WX x gx cax (u2 ivx 10 1 n17) lvx (u2 fax 10 0 n16) lax) from hDx).weaken (fun _ _ _ h => hFc _ h)
  refine lv_pop hx hb dL_law_287 rfl ?_
  refine lv_aload_n hx hb dL_law_288 rfl (lv_at hl 1 rfl) ?_
  refine lv_aload_n hx hb dL_law_289 rfl (lv_at hl 3 rfl) ?_
  refine lv_iload_n hx hb dL_law_290 rfl (lv_at hl 0 rfl) ?_
  refine lv_iconst (v := 1) hx hb dL_law_291 (by decide) ?_
  refine lv_iadd hx hb dL_law_292 ?_
  refine lv_topi (fun v18 ev18 => ?_)
  have tv18 := z_add ev18 (rfl : (i).toInt = _) (by decide : (1 : Int32).toInt = 1) (by omega) (by omega)
  refine va_sld hx hb hX hbl hbA hS (vp_in_iff.mpr ⟨by omega, by omega⟩ : vp_in v18 L) dL_law_293 ?_
  refine lv_topi (fun v19 ev19 => ?_)
  refine lv_aload_n hx hb dL_law_294 rfl (lv_at hl 3 rfl) ?_
  refine lv_iload_n hx hb dL_law_295 rfl (lv_at hl 0 rfl) ?_
  refine lv_iconst (v := 2) hx hb dL_law_296 (by decide) ?_
  refine lv_iadd hx hb dL_law_297 ?_
  refine lv_topi (fun v20 ev20 => ?_)
  have tv20 := z_add ev20 (rfl : (i).toInt = _) (by decide : (2 : Int32).toInt = 2) (by omega) (by omega)
  refine va_sld hx hb hX hbl hbA hS (vp_in_iff.mpr ⟨by omega, by omega⟩ : vp_in v20 L) dL_law_298 ?_
  refine lv_topi (fun v21 ev21 => ?_)
  refine lv_aload_n hx hb dL_law_299 rfl (lv_at hl 3 rfl) ?_
  refine lv_iload_n hx hb dL_law_300 rfl (lv_at hl 0 rfl) ?_
  refine lv_iconst (v := 3) hx hb dL_law_301 (by decide) ?_
  refine lv_iadd hx hb dL_law_302 ?_
  refine lv_topi (fun v22 ev22 => ?_)
  have tv22 := z_add ev22 (rfl : (i).toInt = _) (by decide : (3 : Int32).toInt = 3) (by omega) (by omega)
  refine va_sld hx hb hX hbl hbA hS (vp_in_iff.mpr ⟨by omega, by omega⟩ : vp_in v22 L) dL_law_303 ?_
  refine lv_topi (fun v23 ev23 => ?_)
  refine lv_aload_n hx hb dL_law_304 rfl (lv_at hl 3 rfl) ?_
  refine lv_iload_n hx hb dL_law_305 rfl (lv_at hl 0 rfl) ?_
  refine lv_iconst (v := 4) hx hb dL_law_306 (by decide) ?_
  refine lv_iadd hx hb dL_law_307 ?_
  refine lv_topi (fun v24 ev24 => ?_)
  have tv24 := z_add ev24 (rfl : (i).toInt = _) (by decide : (4 : Int32).toInt = 4) (by omega) (by omega)
  refine va_sld hx hb hX hbl hbA hS (vp_in_iff.mpr ⟨by omega, by omega⟩ : vp_in v24 L) dL_law_308 ?_
  refine lv_topi (fun v25 ev25 => ?_)
  refine lv_aload_n hx hb dL_law_309 rfl (lv_at hl 3 rfl) ?_
  refine lv_iload_n hx hb dL_law_310 rfl (lv_at hl 0 rfl) ?_
  refine lv_iconst (v := 5) hx hb dL_law_311 (by decide) ?_
  refine lv_iadd hx hb dL_law_312 ?_
  refine lv_topi (fun v26 ev26 => ?_)
  have tv26 := z_add ev26 (rfl : (i).toInt = _) (by decide : (5 : Int32).toInt = 5) (by omega) (by omega)
  refine va_sld hx hb hX hbl hbA hS (vp_in_iff.mpr ⟨by omega, by omega⟩ : vp_in v26 L) dL_law_313 ?_
  refine lv_topi (fun v27 ev27 => ?_)
  refine lv_aload_n hx hb dL_law_314 rfl (lv_at hl 3 rfl) ?_
  refine lv_iload_n hx hb dL_law_315 rfl (lv_at hl 0 rfl) ?_
  refine lv_bipush (v := 6) hx hb dL_law_316 (by decide) ?_
  refine lv_iadd hx hb dL_law_318 ?_
  refine lv_topi (fun v28 ev28 => ?_)
  have tv28 := z_add ev28 (rfl : (i).toInt = _) (by decide : (6 : Int32).toInt = 6) (by omega) (by omega)
  refine va_sld hx hb hX hbl hbA hS (vp_in_iff.mpr ⟨by omega, by omega⟩ : vp_in v28 L) dL_law_319 ?_
  refine lv_topi (fun v29 ev29 => ?_)
  refine lv_aload_n hx hb dL_law_320 rfl (lv_at hl 3 rfl) ?_
  refine lv_iload_n hx hb dL_law_321 rfl (lv_at hl 0 rfl) ?_
  refine lv_bipush (v := 7) hx hb dL_law_322 (by decide) ?_
  refine lv_iadd hx hb dL_law_324 ?_
  refine lv_topi (fun v30 ev30 => ?_)
  have tv30 := z_add ev30 (rfl : (i).toInt = _) (by decide : (7 : Int32).toInt = 7) (by omega) (by omega)
  refine va_sld hx hb hX hbl hbA hS (vp_in_iff.mpr ⟨by omega, by omega⟩ : vp_in v30 L) dL_law_325 ?_
  refine lv_topi (fun v31 ev31 => ?_)
  have hFc := free_all hDy hS hA
  refine va_calli (va_runV (As := [.int v19, .int v21, .int v23, .int v25, .int v27, .int v29, .int v31]) (rest := []) ⟨hx, hb, hml, hown, ht⟩ (c_X12_skein_J l dC dI H.size y gy cay ivy lvy fay lay hIy v19 v21 v23 v25 v27 v29 v31 hJR hJN) (kV 7 ht m_1381 m_1382 m_1383 m_89 m_1384 rfl rfl hd_X12_skein_v ⟨Nat.le_of_ble_eq_true rfl, Nat.le_of_ble_eq_true rfl⟩) (vW hPy hKy hDy (rM_12 hKy hPy)) rfl rfl hl.1 rfl (lv_room (Nat.le_of_ble_eq_true rfl)) dL_law_326 ⟨Nat.le_of_ble_eq_true rfl, Nat.le_of_ble_eq_true rfl⟩) hS (fun q _ h => hFc q h) hFc (fun r32 u t H1 locs ht9 hvm hr32 hB hz1 hk1 hS => ?_)
  obtain ⟨n33, n34, n35, n36, n37, n38, n39, n40, n41, n42, hn36, hn38, hn39, hn42, xr32_0, xr32_1, hr32, rfl⟩ := hr32
  obtain ⟨hPy, hDy⟩ := hB
  rw [ht9] at hPy
  have hPx := P_kept hPx (la := AdX x gx) (lb := AdM y gy) wmX wmM hXY hk1
  generalize H1 = H at hPx hPy hS ⊢
  have hPy : va_P (dC, dI) classes (WM y gy cay (u2 ivy 12 3 n42) lvy (u2 (u2 (u2 (u2 (u2 (u2 (u2 (u2 (u2 fay 12 4 n33) 12 5 n34) 12 6 n35) 12 7 n36) 12 8 n37) 12 9 n38) 12 10 n39) 12 11 n40) 12 12 n41) lay) H := hPy
  have hDy : va_D A (WM y gy cay (u2 ivy 12 3 n42) lvy (u2 (u2 (u2 (u2 (u2 (u2 (u2 (u2 (u2 fay 12 4 n33) 12 5 n34) 12 6 n35) 12 7 n36) 12 8 n37) 12 9 n38) 12 10 n39) 12 11 n40) 12 12 n41) lay) := (show va_D _ (WM y gy cay (u2 ivy 12 3 n42) lvy (u2 (u2 (u2 (u2 (u2 (u2 (u2 (u2 (u2 fay 12 4 n33) 12 5 n34) 12 6 n35) 12 7 n36) 12 8 n37) 12 9 n38) 12 10 n39) 12 11 n40) 12 12 n41) lay) from hDy).weaken (fun _ _ _ h => hFc _ h)
  refine lv_pop hx hb dL_law_329 rfl ?_
  refine lv_goto (tgt := 1508) hx hb dL_law_330 (by decide) ?_
  exact kk _ _ (u2 ivx 10 1 n17) lvx (u2 fax 10 0 n16) lax (u2 ivy 12 3 n42) lvy (u2 (u2 (u2 (u2 (u2 (u2 (u2 (u2 (u2 fay 12 4 n33) 12 5 n34) 12 6 n35) 12 7 n36) 12 8 n37) 12 9 n38) 12 10 n39) 12 11 n40) 12 12 n41) lay (IX_a (c := 10) (k := 0) (IX_i (c := 10) (k := 1) hIx hn17) hn16) (IX_a (c := 12) (k := 12) (IX_a (c := 12) (k := 11) (IX_a (c := 12) (k := 10) (IX_a (c := 12) (k := 9) (IX_a (c := 12) (k := 8) (IX_a (c := 12) (k := 7) (IX_a (c := 12) (k := 6) (IX_a (c := 12) (k := 5) (IX_a (c := 12) (k := 4) (IX_i (c := 12) (k := 3) hIy hn42) (fun j => full_i _)) (fun j => full_i _)) (fun j => full_i _)) hn36) (fun j => full_i _)) hn38) hn39) (fun j => full_i _)) (fun j => full_i _)) hJC xr32_0 xr32_1 hJO hq_bales ha_thread hz_thread hsz hPx hDx hPy hDy hS
set_option maxHeartbeats 4000000 in
set_option maxRecDepth 100000 in
theorem law_3 {p : Program} {e : Env} {s : State} {m : MethodId} {below : List Frame} {meth : Method} {c : Code} (l : Launch) {b L : Nat} {xs : Nat → Int32} (hL : L ≤ 4096) (C0 : lw_At p s m meth c b L xs) {dC : Nat → ClassId} {dI : Nat → Nat → Nat} {A : Nat → Prop} (hA : ∀ q : Nat, s.heap.size ≤ q → A q) (hbA : ¬ A b) (hAs : ∀ q : Nat, A q → s.heap.size ≤ q) {x y : Nat} {gx gy : Nat → Nat → Nat} {cax cay : Nat → Nat → ClassId} {ak av : Nat → Nat} (hKx : va_K (dC, dI) classes (TX cax) s) (hKy : va_K (dC, dI) classes (TM cay) s) (hXY : ∀ a ∈ AdX x gx, ∀ b ∈ AdM y gy, a ≠ b) (hZ : zC ak av A s s.heap) {H : Heap} {locs : List Loc} {ivx : Nat → Nat → Int32} {lvx : Nat → Nat → Int64} {fax : Nat → Nat → Nat → Int32} {lax : Nat → Nat → Nat → Int64} {ivy : Nat → Nat → Int32} {lvy : Nat → Nat → Int64} {fay : Nat → Nat → Nat → Int32} {lay : Nat → Nat → Nat → Int64} (hIx : IX ivx fax) (hIy : IX ivy fay) (hJC : JCf (ivy 12 23).toInt (fay 12 25) (fay 12 26) (fay 12 27) (fay 12 28)) (hJR : JRf (ivy 12 3).toInt (fay 12 7)) (hJN : JNf (ivy 12 3).toInt (fay 12 4) (fay 12 5)) (hJO : ((ivy 12 20).toInt = -1 ∧ (ivy 12 21).toInt = -1 ∧ (ivy 12 22).toInt = -1)) (hq_bales : ivx 0 7 = ivy 12 1) (ha_thread : (∀ j : Nat, fax 0 1 j = fay 12 51 j)) (hz_thread : (∀ j : Nat, (ivx 0 7).toInt ≤ (j : Int) → (fax 0 1 j).toInt = 0)) (hsz : (∀ j : Nat, (fax 0 5 j).toInt = 2 * (fay 12 52 j).toInt ∧ 0 ≤ (fay 12 52 j).toInt ∧ (fay 12 52 j).toInt ≤ 999)) (hPx : va_P (dC, dI) classes (WX x gx cax ivx lvx fax lax) H) (hDx : va_D A (WX x gx cax ivx lvx fax lax)) (hPy : va_P (dC, dI) classes (WM y gy cay ivy lvy fay lay) H) (hDy : va_D A (WM y gy cay ivy lvy fay lay)) (hS : va_S A s.heap H locs) {i : Int32} {ls : Array Slot} (hl : lv_has ls 4 [(3, .int i), (2, .ref y), (1, .ref x), (0, .ref b)]) (hi : 0 ≤ i.toInt ∧ i.toInt ≤ 4088) (hi8 : i.toInt + 8 ≤ (L : Int)) (kk : ∀ (H : Heap) (locs : List Loc) (ivx : Nat → Nat → Int32) (lvx : Nat → Nat → Int64) (fax : Nat → Nat → Nat → Int32) (lax : Nat → Nat → Nat → Int64) (ivy : Nat → Nat → Int32) (lvy : Nat → Nat → Int64) (fay : Nat → Nat → Nat → Int32) (lay : Nat → Nat → Nat → Int64), IX ivx fax → IX ivy fay → JCf (ivy 12 23).toInt (fay 12 25) (fay 12 26) (fay 12 27) (fay 12 28) → JRf (ivy 12 3).toInt (fay 12 7) → JNf (ivy 12 3).toInt (fay 12 4) (fay 12 5) → ((ivy 12 20).toInt = -1 ∧ (ivy 12 21).toInt = -1 ∧ (ivy 12 22).toInt = -1) → ivx 0 7 = ivy 12 1 → (∀ j : Nat, fax 0 1 j = fay 12 51 j) → (∀ j : Nat, (ivx 0 7).toInt ≤ (j : Int) → (fax 0 1 j).toInt = 0) → (∀ j : Nat, (fax 0 5 j).toInt = 2 * (fay 12 52 j).toInt ∧ 0 ≤ (fay 12 52 j).toInt ∧ (fay 12 52 j).toInt ≤ 999) → va_P (dC, dI) classes (WX x gx cax ivx lvx fax lax) H → va_D A (WX x gx cax ivx lvx fax lax) → va_P (dC, dI) classes (WM y gy cay ivy lvy fay lay) H → va_D A (WM y gy cay ivy lvy fay lay) → va_S A s.heap H locs → W p l e room_1 s m #[Value.ref b] below meth c H locs 98 5431 (lw_Z below #[Value.ref b] s) (F0 m 1508 ls [])) : W p l e room_1 s m #[Value.ref b] below meth c H locs 98 5431 (lw_Z below #[Value.ref b] s) (F0 m 333 ls []) := by
  obtain ⟨hx, hb, hr, hml, hown, hts, hX, hbl, hlocks, hgv⟩ := id C0
  have ht := tb_of hts
  have hJV : ∀ j : Nat, 0 ≤ (fay 12 52 j).toInt ∧ (fay 12 52 j).toInt ≤ 999 := fun j => (hsz j).2
  have hJZ : ∀ j : Nat, 0 ≤ (fax 0 5 j).toInt ∧ (fax 0 5 j).toInt ≤ 1998 := fun j => by have h5 := hsz j; omega
  refine lv_aload_n hx hb dL_law_333 rfl (lv_at hl 2 rfl) ?_
  refine lv_aload_n hx hb dL_law_334 rfl (lv_at hl 3 rfl) ?_
  refine lv_iload_n hx hb dL_law_335 rfl (lv_at hl 0 rfl) ?_
  refine lv_iconst (v := 1) hx hb dL_law_336 (by decide) ?_
  refine lv_iadd hx hb dL_law_337 ?_
  refine lv_topi (fun v1 ev1 => ?_)
  have tv1 := z_add ev1 (rfl : (i).toInt = _) (by decide : (1 : Int32).toInt = 1) (by omega) (by omega)
  refine va_sld hx hb hX hbl hbA hS (vp_in_iff.mpr ⟨by omega, by omega⟩ : vp_in v1 L) dL_law_338 ?_
  refine lv_topi (fun v2 ev2 => ?_)
  have hFc := free_all hDx hS hA
  refine va_calli (va_runV (As := [.int v2]) (rest := []) ⟨hx, hb, hml, hown, ht⟩ (c_X11_lose l dC dI H.size x gx cax ivx lvx fax lax hIx v2) (kV 1 ht m_505 m_506 m_507 m_77 m_508 rfl rfl hd_X11_lose_v ⟨Nat.le_of_ble_eq_true rfl, Nat.le_of_ble_eq_true rfl⟩) (vW hPx hKx hDx (rX_11 hKx hPx)) rfl rfl hl.1 rfl (lv_room (Nat.le_of_ble_eq_true rfl)) dL_law_339 ⟨Nat.le_of_ble_eq_true rfl, Nat.le_of_ble_eq_true rfl⟩) hS (fun q _ h => hFc q h) hFc (fun r3 u t H1 locs ht9 hvm hr3 hB hz1 hk1 hS => ?_)
  obtain ⟨n4, n5, hn4, hr3, rfl⟩ := hr3
  obtain ⟨hPx, hDx⟩ := hB
  rw [ht9] at hPx
  have hPy := P_kept hPy (la := AdM y gy) (lb := AdX x gx) wmM wmX (fun a ha b hb => (hXY b hb a ha).symm) hk1
  generalize H1 = H at hPx hPy hS ⊢
  have hPx : va_P (dC, dI) classes (WX x gx cax (u2 ivx 10 2 n5) lvx (u2 fax 10 0 n4) lax) H := hPx
  have hDx : va_D A (WX x gx cax (u2 ivx 10 2 n5) lvx (u2 fax 10 0 n4) lax) := (show va_D _ (WX x gx cax (u2 ivx 10 2 n5) lvx (u2 fax 10 0 n4) lax) from hDx).weaken (fun _ _ _ h => hFc _ h)
  refine lv_pop hx hb dL_law_342 rfl ?_
  refine lv_aload_n hx hb dL_law_343 rfl (lv_at hl 1 rfl) ?_
  refine lv_aload_n hx hb dL_law_344 rfl (lv_at hl 3 rfl) ?_
  refine lv_iload_n hx hb dL_law_345 rfl (lv_at hl 0 rfl) ?_
  refine lv_iconst (v := 1) hx hb dL_law_346 (by decide) ?_
  refine lv_iadd hx hb dL_law_347 ?_
  refine lv_topi (fun v6 ev6 => ?_)
  have tv6 := z_add ev6 (rfl : (i).toInt = _) (by decide : (1 : Int32).toInt = 1) (by omega) (by omega)
  refine va_sld hx hb hX hbl hbA hS (vp_in_iff.mpr ⟨by omega, by omega⟩ : vp_in v6 L) dL_law_348 ?_
  refine lv_topi (fun v7 ev7 => ?_)
  have hFc := free_all hDy hS hA
  refine va_calli (va_runV (As := [.int v7]) (rest := []) ⟨hx, hb, hml, hown, ht⟩ (c_X12_lose l dC dI H.size y gy cay ivy lvy fay lay hIy v7) (kV 1 ht m_1399 m_1400 m_1401 m_89 m_1402 rfl rfl hd_X12_lose_v ⟨Nat.le_of_ble_eq_true rfl, Nat.le_of_ble_eq_true rfl⟩) (vW hPy hKy hDy (rM_12 hKy hPy)) rfl rfl hl.1 rfl (lv_room (Nat.le_of_ble_eq_true rfl)) dL_law_349 ⟨Nat.le_of_ble_eq_true rfl, Nat.le_of_ble_eq_true rfl⟩) hS (fun q _ h => hFc q h) hFc (fun r8 u t H1 locs ht9 hvm hr8 hB hz1 hk1 hS => ?_)
  obtain ⟨n9, hr8, rfl⟩ := hr8
  obtain ⟨hPy, hDy⟩ := hB
  rw [ht9] at hPy
  have hPx := P_kept hPx (la := AdX x gx) (lb := AdM y gy) wmX wmM hXY hk1
  generalize H1 = H at hPx hPy hS ⊢
  have hPy : va_P (dC, dI) classes (WM y gy cay ivy lvy (u2 fay 12 12 n9) lay) H := hPy
  have hDy : va_D A (WM y gy cay ivy lvy (u2 fay 12 12 n9) lay) := (show va_D _ (WM y gy cay ivy lvy (u2 fay 12 12 n9) lay) from hDy).weaken (fun _ _ _ h => hFc _ h)
  refine lv_pop hx hb dL_law_352 rfl ?_
  refine lv_goto (tgt := 1508) hx hb dL_law_353 (by decide) ?_
  exact kk _ _ (u2 ivx 10 2 n5) lvx (u2 fax 10 0 n4) lax ivy lvy (u2 fay 12 12 n9) lay (IX_a (c := 10) (k := 0) (IX_i (c := 10) (k := 2) hIx (full_i _)) hn4) (IX_a (c := 12) (k := 12) hIy (fun j => full_i _)) hJC hJR hJN hJO hq_bales ha_thread hz_thread hsz hPx hDx hPy hDy hS
set_option maxHeartbeats 4000000 in
set_option maxRecDepth 100000 in
theorem law_4 {p : Program} {e : Env} {s : State} {m : MethodId} {below : List Frame} {meth : Method} {c : Code} (l : Launch) {b L : Nat} {xs : Nat → Int32} (hL : L ≤ 4096) (C0 : lw_At p s m meth c b L xs) {dC : Nat → ClassId} {dI : Nat → Nat → Nat} {A : Nat → Prop} (hA : ∀ q : Nat, s.heap.size ≤ q → A q) (hbA : ¬ A b) (hAs : ∀ q : Nat, A q → s.heap.size ≤ q) {x y : Nat} {gx gy : Nat → Nat → Nat} {cax cay : Nat → Nat → ClassId} {ak av : Nat → Nat} (hKx : va_K (dC, dI) classes (TX cax) s) (hKy : va_K (dC, dI) classes (TM cay) s) (hXY : ∀ a ∈ AdX x gx, ∀ b ∈ AdM y gy, a ≠ b) (hZ : zC ak av A s s.heap) {H : Heap} {locs : List Loc} {ivx : Nat → Nat → Int32} {lvx : Nat → Nat → Int64} {fax : Nat → Nat → Nat → Int32} {lax : Nat → Nat → Nat → Int64} {ivy : Nat → Nat → Int32} {lvy : Nat → Nat → Int64} {fay : Nat → Nat → Nat → Int32} {lay : Nat → Nat → Nat → Int64} (hIx : IX ivx fax) (hIy : IX ivy fay) (hJC : JCf (ivy 12 23).toInt (fay 12 25) (fay 12 26) (fay 12 27) (fay 12 28)) (hJR : JRf (ivy 12 3).toInt (fay 12 7)) (hJN : JNf (ivy 12 3).toInt (fay 12 4) (fay 12 5)) (hJO : ((ivy 12 20).toInt = -1 ∧ (ivy 12 21).toInt = -1 ∧ (ivy 12 22).toInt = -1)) (hq_bales : ivx 0 7 = ivy 12 1) (ha_thread : (∀ j : Nat, fax 0 1 j = fay 12 51 j)) (hz_thread : (∀ j : Nat, (ivx 0 7).toInt ≤ (j : Int) → (fax 0 1 j).toInt = 0)) (hsz : (∀ j : Nat, (fax 0 5 j).toInt = 2 * (fay 12 52 j).toInt ∧ 0 ≤ (fay 12 52 j).toInt ∧ (fay 12 52 j).toInt ≤ 999)) (hPx : va_P (dC, dI) classes (WX x gx cax ivx lvx fax lax) H) (hDx : va_D A (WX x gx cax ivx lvx fax lax)) (hPy : va_P (dC, dI) classes (WM y gy cay ivy lvy fay lay) H) (hDy : va_D A (WM y gy cay ivy lvy fay lay)) (hS : va_S A s.heap H locs) {i : Int32} {ls : Array Slot} (hl : lv_has ls 4 [(3, .int i), (2, .ref y), (1, .ref x), (0, .ref b)]) (hi : 0 ≤ i.toInt ∧ i.toInt ≤ 4088) (hi8 : i.toInt + 8 ≤ (L : Int)) (kk : ∀ (H : Heap) (locs : List Loc) (ivx : Nat → Nat → Int32) (lvx : Nat → Nat → Int64) (fax : Nat → Nat → Nat → Int32) (lax : Nat → Nat → Nat → Int64) (ivy : Nat → Nat → Int32) (lvy : Nat → Nat → Int64) (fay : Nat → Nat → Nat → Int32) (lay : Nat → Nat → Nat → Int64), IX ivx fax → IX ivy fay → JCf (ivy 12 23).toInt (fay 12 25) (fay 12 26) (fay 12 27) (fay 12 28) → JRf (ivy 12 3).toInt (fay 12 7) → JNf (ivy 12 3).toInt (fay 12 4) (fay 12 5) → ((ivy 12 20).toInt = -1 ∧ (ivy 12 21).toInt = -1 ∧ (ivy 12 22).toInt = -1) → ivx 0 7 = ivy 12 1 → (∀ j : Nat, fax 0 1 j = fay 12 51 j) → (∀ j : Nat, (ivx 0 7).toInt ≤ (j : Int) → (fax 0 1 j).toInt = 0) → (∀ j : Nat, (fax 0 5 j).toInt = 2 * (fay 12 52 j).toInt ∧ 0 ≤ (fay 12 52 j).toInt ∧ (fay 12 52 j).toInt ≤ 999) → va_P (dC, dI) classes (WX x gx cax ivx lvx fax lax) H → va_D A (WX x gx cax ivx lvx fax lax) → va_P (dC, dI) classes (WM y gy cay ivy lvy fay lay) H → va_D A (WM y gy cay ivy lvy fay lay) → va_S A s.heap H locs → W p l e room_1 s m #[Value.ref b] below meth c H locs 98 5431 (lw_Z below #[Value.ref b] s) (F0 m 1508 ls [])) : W p l e room_1 s m #[Value.ref b] below meth c H locs 98 5431 (lw_Z below #[Value.ref b] s) (F0 m 356 ls []) := by
  obtain ⟨hx, hb, hr, hml, hown, hts, hX, hbl, hlocks, hgv⟩ := id C0
  have ht := tb_of hts
  have hJV : ∀ j : Nat, 0 ≤ (fay 12 52 j).toInt ∧ (fay 12 52 j).toInt ≤ 999 := fun j => (hsz j).2
  have hJZ : ∀ j : Nat, 0 ≤ (fax 0 5 j).toInt ∧ (fax 0 5 j).toInt ≤ 1998 := fun j => by have h5 := hsz j; omega
  refine lv_aload_n hx hb dL_law_356 rfl (lv_at hl 2 rfl) ?_
  refine lv_aload_n hx hb dL_law_357 rfl (lv_at hl 3 rfl) ?_
  refine lv_iload_n hx hb dL_law_358 rfl (lv_at hl 0 rfl) ?_
  refine lv_iconst (v := 1) hx hb dL_law_359 (by decide) ?_
  refine lv_iadd hx hb dL_law_360 ?_
  refine lv_topi (fun v1 ev1 => ?_)
  have tv1 := z_add ev1 (rfl : (i).toInt = _) (by decide : (1 : Int32).toInt = 1) (by omega) (by omega)
  refine va_sld hx hb hX hbl hbA hS (vp_in_iff.mpr ⟨by omega, by omega⟩ : vp_in v1 L) dL_law_361 ?_
  refine lv_topi (fun v2 ev2 => ?_)
  refine lv_aload_n hx hb dL_law_362 rfl (lv_at hl 3 rfl) ?_
  refine lv_iload_n hx hb dL_law_363 rfl (lv_at hl 0 rfl) ?_
  refine lv_iconst (v := 2) hx hb dL_law_364 (by decide) ?_
  refine lv_iadd hx hb dL_law_365 ?_
  refine lv_topi (fun v3 ev3 => ?_)
  have tv3 := z_add ev3 (rfl : (i).toInt = _) (by decide : (2 : Int32).toInt = 2) (by omega) (by omega)
  refine va_sld hx hb hX hbl hbA hS (vp_in_iff.mpr ⟨by omega, by omega⟩ : vp_in v3 L) dL_law_366 ?_
  refine lv_topi (fun v4 ev4 => ?_)
  refine vp_callSi (W.runV (As := [.int v2, .int v4]) (rest := []) ⟨hx, hb, hml, hown, ht⟩ (c_X11_told l dC dI x gx cax ivx lvx fax lax hIx v2 v4) (kV 2 ht m_518 m_519 m_520 m_77 m_521 rfl rfl hd_X11_told_v ⟨Nat.le_of_ble_eq_true rfl, Nat.le_of_ble_eq_true rfl⟩) (vR hPx hKx (rX_11 hKx hPx)) rfl rfl hl.1 rfl (lv_room (Nat.le_of_ble_eq_true rfl)) dL_law_367 ⟨Nat.le_of_ble_eq_true rfl, Nat.le_of_ble_eq_true rfl⟩) (fun r5 hr5 => ?_)
  refine lv_pop hx hb dL_law_370 rfl ?_
  refine lv_aload_n hx hb dL_law_371 rfl (lv_at hl 1 rfl) ?_
  refine lv_aload_n hx hb dL_law_372 rfl (lv_at hl 3 rfl) ?_
  refine lv_iload_n hx hb dL_law_373 rfl (lv_at hl 0 rfl) ?_
  refine lv_iconst (v := 1) hx hb dL_law_374 (by decide) ?_
  refine lv_iadd hx hb dL_law_375 ?_
  refine lv_topi (fun v6 ev6 => ?_)
  have tv6 := z_add ev6 (rfl : (i).toInt = _) (by decide : (1 : Int32).toInt = 1) (by omega) (by omega)
  refine va_sld hx hb hX hbl hbA hS (vp_in_iff.mpr ⟨by omega, by omega⟩ : vp_in v6 L) dL_law_376 ?_
  refine lv_topi (fun v7 ev7 => ?_)
  refine lv_aload_n hx hb dL_law_377 rfl (lv_at hl 3 rfl) ?_
  refine lv_iload_n hx hb dL_law_378 rfl (lv_at hl 0 rfl) ?_
  refine lv_iconst (v := 2) hx hb dL_law_379 (by decide) ?_
  refine lv_iadd hx hb dL_law_380 ?_
  refine lv_topi (fun v8 ev8 => ?_)
  have tv8 := z_add ev8 (rfl : (i).toInt = _) (by decide : (2 : Int32).toInt = 2) (by omega) (by omega)
  refine va_sld hx hb hX hbl hbA hS (vp_in_iff.mpr ⟨by omega, by omega⟩ : vp_in v8 L) dL_law_381 ?_
  refine lv_topi (fun v9 ev9 => ?_)
  refine vp_callSi (W.runV (As := [.int v7, .int v9]) (rest := []) ⟨hx, hb, hml, hown, ht⟩ (c_X12_told l dC dI y gy cay ivy lvy fay lay hIy v7 v9) (kV 2 ht m_1407 m_1408 m_1409 m_89 m_1410 rfl rfl hd_X12_told_v ⟨Nat.le_of_ble_eq_true rfl, Nat.le_of_ble_eq_true rfl⟩) (vR hPy hKy (rM_12 hKy hPy)) rfl rfl hl.1 rfl (lv_room (Nat.le_of_ble_eq_true rfl)) dL_law_382 ⟨Nat.le_of_ble_eq_true rfl, Nat.le_of_ble_eq_true rfl⟩) (fun r10 hr10 => ?_)
  refine lv_pop hx hb dL_law_385 rfl ?_
  refine lv_goto (tgt := 1508) hx hb dL_law_386 (by decide) ?_
  exact kk _ _ ivx lvx fax lax ivy lvy fay lay hIx hIy hJC hJR hJN hJO hq_bales ha_thread hz_thread hsz hPx hDx hPy hDy hS
