/-! ===== law ===== -/
set_option maxRecDepth 100000 in
theorem m_522 : Cond.methodLink RL 36 yX11_test ∈ tb := tb_in 522 (by decide +kernel) rfl
set_option maxRecDepth 100000 in
theorem m_523 : Cond.instanceMethod yX11_test ∈ tb := tb_in 523 (by decide +kernel) rfl
set_option maxRecDepth 100000 in
theorem m_524 : Cond.selects RX11 yX11_test yX11_test ∈ tb := tb_in 524 (by decide +kernel) rfl
set_option maxRecDepth 100000 in
theorem m_525 : Cond.code yX11_test cX11_test 4 (some .int) ∈ tb := tb_in 525 rfl rfl
set_option maxRecDepth 100000 in
theorem m_530 : Cond.methodLink RL 41 yX11_error ∈ tb := tb_in 530 (by decide +kernel) rfl
set_option maxRecDepth 100000 in
theorem m_531 : Cond.instanceMethod yX11_error ∈ tb := tb_in 531 (by decide +kernel) rfl
set_option maxRecDepth 100000 in
theorem m_532 : Cond.selects RX11 yX11_error yX11_error ∈ tb := tb_in 532 (by decide +kernel) rfl
set_option maxRecDepth 100000 in
theorem m_533 : Cond.code yX11_error cX11_error 4 (some .int) ∈ tb := tb_in 533 rfl rfl
set_option maxRecDepth 100000 in
theorem m_560 : Cond.methodLink RL 45 yX11_ratio ∈ tb := tb_in 560 (by decide +kernel) rfl
set_option maxRecDepth 100000 in
theorem m_561 : Cond.instanceMethod yX11_ratio ∈ tb := tb_in 561 (by decide +kernel) rfl
set_option maxRecDepth 100000 in
theorem m_562 : Cond.selects RX11 yX11_ratio yX11_ratio ∈ tb := tb_in 562 (by decide +kernel) rfl
set_option maxRecDepth 100000 in
theorem m_563 : Cond.code yX11_ratio cX11_ratio 4 (some .int) ∈ tb := tb_in 563 rfl rfl
set_option maxRecDepth 100000 in
theorem m_587 : Cond.methodLink RL 49 yX11_count ∈ tb := tb_in 587 (by decide +kernel) rfl
set_option maxRecDepth 100000 in
theorem m_588 : Cond.instanceMethod yX11_count ∈ tb := tb_in 588 (by decide +kernel) rfl
set_option maxRecDepth 100000 in
theorem m_589 : Cond.selects RX11 yX11_count yX11_count ∈ tb := tb_in 589 (by decide +kernel) rfl
set_option maxRecDepth 100000 in
theorem m_590 : Cond.code yX11_count cX11_count 2 (some .int) ∈ tb := tb_in 590 rfl rfl
set_option maxRecDepth 100000 in
theorem m_668 : Cond.methodLink RL 55 yX11_feed ∈ tb := tb_in 668 (by decide +kernel) rfl
set_option maxRecDepth 100000 in
theorem m_669 : Cond.instanceMethod yX11_feed ∈ tb := tb_in 669 (by decide +kernel) rfl
set_option maxRecDepth 100000 in
theorem m_670 : Cond.selects RX11 yX11_feed yX11_feed ∈ tb := tb_in 670 (by decide +kernel) rfl
set_option maxRecDepth 100000 in
theorem m_671 : Cond.code yX11_feed cX11_feed 4 (some .int) ∈ tb := tb_in 671 rfl rfl
set_option maxRecDepth 100000 in
theorem m_1411 : Cond.methodLink RL 40 yX12_test ∈ tb := tb_in 1411 (by decide +kernel) rfl
set_option maxRecDepth 100000 in
theorem m_1412 : Cond.instanceMethod yX12_test ∈ tb := tb_in 1412 (by decide +kernel) rfl
set_option maxRecDepth 100000 in
theorem m_1413 : Cond.selects RX12 yX12_test yX12_test ∈ tb := tb_in 1413 (by decide +kernel) rfl
set_option maxRecDepth 100000 in
theorem m_1414 : Cond.code yX12_test cX12_test 4 (some .int) ∈ tb := tb_in 1414 rfl rfl
set_option maxRecDepth 100000 in
theorem m_1418 : Cond.methodLink RL 44 yX12_error ∈ tb := tb_in 1418 (by decide +kernel) rfl
set_option maxRecDepth 100000 in
theorem m_1419 : Cond.instanceMethod yX12_error ∈ tb := tb_in 1419 (by decide +kernel) rfl
set_option maxRecDepth 100000 in
theorem m_1420 : Cond.selects RX12 yX12_error yX12_error ∈ tb := tb_in 1420 (by decide +kernel) rfl
set_option maxRecDepth 100000 in
theorem m_1421 : Cond.code yX12_error cX12_error 4 (some .int) ∈ tb := tb_in 1421 rfl rfl
set_option maxRecDepth 100000 in
theorem m_1430 : Cond.methodLink RL 48 yX12_ratio ∈ tb := tb_in 1430 (by decide +kernel) rfl
set_option maxRecDepth 100000 in
theorem m_1431 : Cond.instanceMethod yX12_ratio ∈ tb := tb_in 1431 (by decide +kernel) rfl
set_option maxRecDepth 100000 in
theorem m_1432 : Cond.selects RX12 yX12_ratio yX12_ratio ∈ tb := tb_in 1432 (by decide +kernel) rfl
set_option maxRecDepth 100000 in
theorem m_1433 : Cond.code yX12_ratio cX12_ratio 7 (some .int) ∈ tb := tb_in 1433 rfl rfl
set_option maxRecDepth 100000 in
theorem m_1448 : Cond.methodLink RL 59 yX12_feed ∈ tb := tb_in 1448 (by decide +kernel) rfl
set_option maxRecDepth 100000 in
theorem m_1449 : Cond.instanceMethod yX12_feed ∈ tb := tb_in 1449 (by decide +kernel) rfl
set_option maxRecDepth 100000 in
theorem m_1450 : Cond.selects RX12 yX12_feed yX12_feed ∈ tb := tb_in 1450 (by decide +kernel) rfl
set_option maxRecDepth 100000 in
theorem m_1451 : Cond.code yX12_feed cX12_feed 5 (some .int) ∈ tb := tb_in 1451 rfl rfl
set_option maxRecDepth 100000 in
theorem m_1708 : Cond.methodLink RL 52 yX12_count ∈ tb := tb_in 1708 (by decide +kernel) rfl
set_option maxRecDepth 100000 in
theorem m_1709 : Cond.instanceMethod yX12_count ∈ tb := tb_in 1709 (by decide +kernel) rfl
set_option maxRecDepth 100000 in
theorem m_1710 : Cond.selects RX12 yX12_count yX12_count ∈ tb := tb_in 1710 (by decide +kernel) rfl
set_option maxRecDepth 100000 in
theorem m_1711 : Cond.code yX12_count cX12_count 5 (some .int) ∈ tb := tb_in 1711 rfl rfl
set_option maxRecDepth 100000 in
theorem m_1716 : Cond.constantLong RL 53 (4294967295) ∈ tb := tb_in 1716 (by decide +kernel) rfl
theorem hd_X11_count_v : yX11_count.cls = RX11 ∧ yX11_count.cls ≠ "java/lang/invoke/MethodHandle" ∧ yX11_count.cls ≠ "java/lang/invoke/VarHandle" ∧ (parseMethodDescriptor yX11_count.desc).map (fun d => d.parameters.length) = some 1 := by decide +kernel
theorem hd_X11_error_v : yX11_error.cls = RX11 ∧ yX11_error.cls ≠ "java/lang/invoke/MethodHandle" ∧ yX11_error.cls ≠ "java/lang/invoke/VarHandle" ∧ (parseMethodDescriptor yX11_error.desc).map (fun d => d.parameters.length) = some 3 := by decide +kernel
theorem hd_X11_feed_v : yX11_feed.cls = RX11 ∧ yX11_feed.cls ≠ "java/lang/invoke/MethodHandle" ∧ yX11_feed.cls ≠ "java/lang/invoke/VarHandle" ∧ (parseMethodDescriptor yX11_feed.desc).map (fun d => d.parameters.length) = some 2 := by decide +kernel
theorem hd_X11_ratio_v : yX11_ratio.cls = RX11 ∧ yX11_ratio.cls ≠ "java/lang/invoke/MethodHandle" ∧ yX11_ratio.cls ≠ "java/lang/invoke/VarHandle" ∧ (parseMethodDescriptor yX11_ratio.desc).map (fun d => d.parameters.length) = some 3 := by decide +kernel
theorem hd_X11_test_v : yX11_test.cls = RX11 ∧ yX11_test.cls ≠ "java/lang/invoke/MethodHandle" ∧ yX11_test.cls ≠ "java/lang/invoke/VarHandle" ∧ (parseMethodDescriptor yX11_test.desc).map (fun d => d.parameters.length) = some 3 := by decide +kernel
theorem hd_X12_count_v : yX12_count.cls = RX12 ∧ yX12_count.cls ≠ "java/lang/invoke/MethodHandle" ∧ yX12_count.cls ≠ "java/lang/invoke/VarHandle" ∧ (parseMethodDescriptor yX12_count.desc).map (fun d => d.parameters.length) = some 1 := by decide +kernel
theorem hd_X12_error_v : yX12_error.cls = RX12 ∧ yX12_error.cls ≠ "java/lang/invoke/MethodHandle" ∧ yX12_error.cls ≠ "java/lang/invoke/VarHandle" ∧ (parseMethodDescriptor yX12_error.desc).map (fun d => d.parameters.length) = some 3 := by decide +kernel
theorem hd_X12_feed_v : yX12_feed.cls = RX12 ∧ yX12_feed.cls ≠ "java/lang/invoke/MethodHandle" ∧ yX12_feed.cls ≠ "java/lang/invoke/VarHandle" ∧ (parseMethodDescriptor yX12_feed.desc).map (fun d => d.parameters.length) = some 2 := by decide +kernel
theorem hd_X12_ratio_v : yX12_ratio.cls = RX12 ∧ yX12_ratio.cls ≠ "java/lang/invoke/MethodHandle" ∧ yX12_ratio.cls ≠ "java/lang/invoke/VarHandle" ∧ (parseMethodDescriptor yX12_ratio.desc).map (fun d => d.parameters.length) = some 3 := by decide +kernel
theorem hd_X12_test_v : yX12_test.cls = RX12 ∧ yX12_test.cls ≠ "java/lang/invoke/MethodHandle" ∧ yX12_test.cls ≠ "java/lang/invoke/VarHandle" ∧ (parseMethodDescriptor yX12_test.desc).map (fun d => d.parameters.length) = some 3 := by decide +kernel
set_option maxRecDepth 100000 in
theorem dvL_law_389 : ([(389, .aload_n 1, 1), (390, .aload_n 0, 1), (391, .iload_n 3, 1), (392, .iconst 1, 1), (393, .iadd, 1), (394, .iaload, 1), (395, .aload_n 0, 1), (396, .iload_n 3, 1), (397, .iconst 2, 1), (398, .iadd, 1), (399, .iaload, 1), (400, .aload_n 0, 1), (401, .iload_n 3, 1), (402, .iconst 3, 1), (403, .iadd, 1), (404, .iaload, 1), (405, .invokevirtual 36, 3), (408, .pop, 1), (409, .aload_n 2, 1), (410, .aload_n 0, 1), (411, .iload_n 3, 1), (412, .iconst 1, 1), (413, .iadd, 1), (414, .iaload, 1)] : List (Nat × Instr × Nat)).all (fun q => decide (decode cL_law q.1 = .ok (q.2.1, q.2.2))) = true := by decide +kernel
theorem dL_law_389 : decode cL_law 389 = .ok (.aload_n 1, 1) := all_at dvL_law_389 0 rfl
theorem dL_law_390 : decode cL_law 390 = .ok (.aload_n 0, 1) := all_at dvL_law_389 1 rfl
theorem dL_law_391 : decode cL_law 391 = .ok (.iload_n 3, 1) := all_at dvL_law_389 2 rfl
theorem dL_law_392 : decode cL_law 392 = .ok (.iconst 1, 1) := all_at dvL_law_389 3 rfl
theorem dL_law_393 : decode cL_law 393 = .ok (.iadd, 1) := all_at dvL_law_389 4 rfl
theorem dL_law_394 : decode cL_law 394 = .ok (.iaload, 1) := all_at dvL_law_389 5 rfl
theorem dL_law_395 : decode cL_law 395 = .ok (.aload_n 0, 1) := all_at dvL_law_389 6 rfl
theorem dL_law_396 : decode cL_law 396 = .ok (.iload_n 3, 1) := all_at dvL_law_389 7 rfl
theorem dL_law_397 : decode cL_law 397 = .ok (.iconst 2, 1) := all_at dvL_law_389 8 rfl
theorem dL_law_398 : decode cL_law 398 = .ok (.iadd, 1) := all_at dvL_law_389 9 rfl
theorem dL_law_399 : decode cL_law 399 = .ok (.iaload, 1) := all_at dvL_law_389 10 rfl
theorem dL_law_400 : decode cL_law 400 = .ok (.aload_n 0, 1) := all_at dvL_law_389 11 rfl
theorem dL_law_401 : decode cL_law 401 = .ok (.iload_n 3, 1) := all_at dvL_law_389 12 rfl
theorem dL_law_402 : decode cL_law 402 = .ok (.iconst 3, 1) := all_at dvL_law_389 13 rfl
theorem dL_law_403 : decode cL_law 403 = .ok (.iadd, 1) := all_at dvL_law_389 14 rfl
theorem dL_law_404 : decode cL_law 404 = .ok (.iaload, 1) := all_at dvL_law_389 15 rfl
theorem dL_law_405 : decode cL_law 405 = .ok (.invokevirtual 36, 3) := all_at dvL_law_389 16 rfl
theorem dL_law_408 : decode cL_law 408 = .ok (.pop, 1) := all_at dvL_law_389 17 rfl
theorem dL_law_409 : decode cL_law 409 = .ok (.aload_n 2, 1) := all_at dvL_law_389 18 rfl
theorem dL_law_410 : decode cL_law 410 = .ok (.aload_n 0, 1) := all_at dvL_law_389 19 rfl
theorem dL_law_411 : decode cL_law 411 = .ok (.iload_n 3, 1) := all_at dvL_law_389 20 rfl
theorem dL_law_412 : decode cL_law 412 = .ok (.iconst 1, 1) := all_at dvL_law_389 21 rfl
theorem dL_law_413 : decode cL_law 413 = .ok (.iadd, 1) := all_at dvL_law_389 22 rfl
theorem dL_law_414 : decode cL_law 414 = .ok (.iaload, 1) := all_at dvL_law_389 23 rfl
set_option maxRecDepth 100000 in
theorem dvL_law_415 : ([(415, .aload_n 0, 1), (416, .iload_n 3, 1), (417, .iconst 2, 1), (418, .iadd, 1), (419, .iaload, 1), (420, .aload_n 0, 1), (421, .iload_n 3, 1), (422, .iconst 3, 1), (423, .iadd, 1), (424, .iaload, 1), (425, .invokevirtual 40, 3), (428, .pop, 1), (429, .goto 1079, 3), (432, .aload_n 1, 1), (433, .aload_n 0, 1), (434, .iload_n 3, 1), (435, .iconst 1, 1), (436, .iadd, 1), (437, .iaload, 1), (438, .aload_n 0, 1), (439, .iload_n 3, 1), (440, .iconst 2, 1), (441, .iadd, 1), (442, .iaload, 1)] : List (Nat × Instr × Nat)).all (fun q => decide (decode cL_law q.1 = .ok (q.2.1, q.2.2))) = true := by decide +kernel
theorem dL_law_415 : decode cL_law 415 = .ok (.aload_n 0, 1) := all_at dvL_law_415 0 rfl
theorem dL_law_416 : decode cL_law 416 = .ok (.iload_n 3, 1) := all_at dvL_law_415 1 rfl
theorem dL_law_417 : decode cL_law 417 = .ok (.iconst 2, 1) := all_at dvL_law_415 2 rfl
theorem dL_law_418 : decode cL_law 418 = .ok (.iadd, 1) := all_at dvL_law_415 3 rfl
theorem dL_law_419 : decode cL_law 419 = .ok (.iaload, 1) := all_at dvL_law_415 4 rfl
theorem dL_law_420 : decode cL_law 420 = .ok (.aload_n 0, 1) := all_at dvL_law_415 5 rfl
theorem dL_law_421 : decode cL_law 421 = .ok (.iload_n 3, 1) := all_at dvL_law_415 6 rfl
theorem dL_law_422 : decode cL_law 422 = .ok (.iconst 3, 1) := all_at dvL_law_415 7 rfl
theorem dL_law_423 : decode cL_law 423 = .ok (.iadd, 1) := all_at dvL_law_415 8 rfl
theorem dL_law_424 : decode cL_law 424 = .ok (.iaload, 1) := all_at dvL_law_415 9 rfl
theorem dL_law_425 : decode cL_law 425 = .ok (.invokevirtual 40, 3) := all_at dvL_law_415 10 rfl
theorem dL_law_428 : decode cL_law 428 = .ok (.pop, 1) := all_at dvL_law_415 11 rfl
theorem dL_law_429 : decode cL_law 429 = .ok (.goto 1079, 3) := all_at dvL_law_415 12 rfl
theorem dL_law_432 : decode cL_law 432 = .ok (.aload_n 1, 1) := all_at dvL_law_415 13 rfl
theorem dL_law_433 : decode cL_law 433 = .ok (.aload_n 0, 1) := all_at dvL_law_415 14 rfl
theorem dL_law_434 : decode cL_law 434 = .ok (.iload_n 3, 1) := all_at dvL_law_415 15 rfl
theorem dL_law_435 : decode cL_law 435 = .ok (.iconst 1, 1) := all_at dvL_law_415 16 rfl
theorem dL_law_436 : decode cL_law 436 = .ok (.iadd, 1) := all_at dvL_law_415 17 rfl
theorem dL_law_437 : decode cL_law 437 = .ok (.iaload, 1) := all_at dvL_law_415 18 rfl
theorem dL_law_438 : decode cL_law 438 = .ok (.aload_n 0, 1) := all_at dvL_law_415 19 rfl
theorem dL_law_439 : decode cL_law 439 = .ok (.iload_n 3, 1) := all_at dvL_law_415 20 rfl
theorem dL_law_440 : decode cL_law 440 = .ok (.iconst 2, 1) := all_at dvL_law_415 21 rfl
theorem dL_law_441 : decode cL_law 441 = .ok (.iadd, 1) := all_at dvL_law_415 22 rfl
theorem dL_law_442 : decode cL_law 442 = .ok (.iaload, 1) := all_at dvL_law_415 23 rfl
set_option maxRecDepth 100000 in
theorem dvL_law_443 : ([(443, .aload_n 0, 1), (444, .iload_n 3, 1), (445, .iconst 3, 1), (446, .iadd, 1), (447, .iaload, 1), (448, .invokevirtual 41, 3), (451, .pop, 1), (452, .aload_n 2, 1), (453, .aload_n 0, 1), (454, .iload_n 3, 1), (455, .iconst 1, 1), (456, .iadd, 1), (457, .iaload, 1), (458, .aload_n 0, 1), (459, .iload_n 3, 1), (460, .iconst 2, 1), (461, .iadd, 1), (462, .iaload, 1), (463, .aload_n 0, 1), (464, .iload_n 3, 1), (465, .iconst 3, 1), (466, .iadd, 1), (467, .iaload, 1), (468, .invokevirtual 44, 3)] : List (Nat × Instr × Nat)).all (fun q => decide (decode cL_law q.1 = .ok (q.2.1, q.2.2))) = true := by decide +kernel
theorem dL_law_443 : decode cL_law 443 = .ok (.aload_n 0, 1) := all_at dvL_law_443 0 rfl
theorem dL_law_444 : decode cL_law 444 = .ok (.iload_n 3, 1) := all_at dvL_law_443 1 rfl
theorem dL_law_445 : decode cL_law 445 = .ok (.iconst 3, 1) := all_at dvL_law_443 2 rfl
theorem dL_law_446 : decode cL_law 446 = .ok (.iadd, 1) := all_at dvL_law_443 3 rfl
theorem dL_law_447 : decode cL_law 447 = .ok (.iaload, 1) := all_at dvL_law_443 4 rfl
theorem dL_law_448 : decode cL_law 448 = .ok (.invokevirtual 41, 3) := all_at dvL_law_443 5 rfl
theorem dL_law_451 : decode cL_law 451 = .ok (.pop, 1) := all_at dvL_law_443 6 rfl
theorem dL_law_452 : decode cL_law 452 = .ok (.aload_n 2, 1) := all_at dvL_law_443 7 rfl
theorem dL_law_453 : decode cL_law 453 = .ok (.aload_n 0, 1) := all_at dvL_law_443 8 rfl
theorem dL_law_454 : decode cL_law 454 = .ok (.iload_n 3, 1) := all_at dvL_law_443 9 rfl
theorem dL_law_455 : decode cL_law 455 = .ok (.iconst 1, 1) := all_at dvL_law_443 10 rfl
theorem dL_law_456 : decode cL_law 456 = .ok (.iadd, 1) := all_at dvL_law_443 11 rfl
theorem dL_law_457 : decode cL_law 457 = .ok (.iaload, 1) := all_at dvL_law_443 12 rfl
theorem dL_law_458 : decode cL_law 458 = .ok (.aload_n 0, 1) := all_at dvL_law_443 13 rfl
theorem dL_law_459 : decode cL_law 459 = .ok (.iload_n 3, 1) := all_at dvL_law_443 14 rfl
theorem dL_law_460 : decode cL_law 460 = .ok (.iconst 2, 1) := all_at dvL_law_443 15 rfl
theorem dL_law_461 : decode cL_law 461 = .ok (.iadd, 1) := all_at dvL_law_443 16 rfl
theorem dL_law_462 : decode cL_law 462 = .ok (.iaload, 1) := all_at dvL_law_443 17 rfl
theorem dL_law_463 : decode cL_law 463 = .ok (.aload_n 0, 1) := all_at dvL_law_443 18 rfl
theorem dL_law_464 : decode cL_law 464 = .ok (.iload_n 3, 1) := all_at dvL_law_443 19 rfl
theorem dL_law_465 : decode cL_law 465 = .ok (.iconst 3, 1) := all_at dvL_law_443 20 rfl
theorem dL_law_466 : decode cL_law 466 = .ok (.iadd, 1) := all_at dvL_law_443 21 rfl
theorem dL_law_467 : decode cL_law 467 = .ok (.iaload, 1) := all_at dvL_law_443 22 rfl
theorem dL_law_468 : decode cL_law 468 = .ok (.invokevirtual 44, 3) := all_at dvL_law_443 23 rfl
set_option maxRecDepth 100000 in
theorem dvL_law_471 : ([(471, .pop, 1), (472, .goto 1036, 3), (475, .aload_n 1, 1), (476, .aload_n 0, 1), (477, .iload_n 3, 1), (478, .iconst 1, 1), (479, .iadd, 1), (480, .iaload, 1), (481, .aload_n 0, 1), (482, .iload_n 3, 1), (483, .iconst 2, 1), (484, .iadd, 1), (485, .iaload, 1), (486, .aload_n 0, 1), (487, .iload_n 3, 1), (488, .iconst 3, 1), (489, .iadd, 1), (490, .iaload, 1), (491, .invokevirtual 45, 3), (494, .pop, 1), (495, .aload_n 2, 1), (496, .aload_n 0, 1), (497, .iload_n 3, 1), (498, .iconst 1, 1)] : List (Nat × Instr × Nat)).all (fun q => decide (decode cL_law q.1 = .ok (q.2.1, q.2.2))) = true := by decide +kernel
theorem dL_law_471 : decode cL_law 471 = .ok (.pop, 1) := all_at dvL_law_471 0 rfl
theorem dL_law_472 : decode cL_law 472 = .ok (.goto 1036, 3) := all_at dvL_law_471 1 rfl
theorem dL_law_475 : decode cL_law 475 = .ok (.aload_n 1, 1) := all_at dvL_law_471 2 rfl
theorem dL_law_476 : decode cL_law 476 = .ok (.aload_n 0, 1) := all_at dvL_law_471 3 rfl
theorem dL_law_477 : decode cL_law 477 = .ok (.iload_n 3, 1) := all_at dvL_law_471 4 rfl
theorem dL_law_478 : decode cL_law 478 = .ok (.iconst 1, 1) := all_at dvL_law_471 5 rfl
theorem dL_law_479 : decode cL_law 479 = .ok (.iadd, 1) := all_at dvL_law_471 6 rfl
theorem dL_law_480 : decode cL_law 480 = .ok (.iaload, 1) := all_at dvL_law_471 7 rfl
theorem dL_law_481 : decode cL_law 481 = .ok (.aload_n 0, 1) := all_at dvL_law_471 8 rfl
theorem dL_law_482 : decode cL_law 482 = .ok (.iload_n 3, 1) := all_at dvL_law_471 9 rfl
theorem dL_law_483 : decode cL_law 483 = .ok (.iconst 2, 1) := all_at dvL_law_471 10 rfl
theorem dL_law_484 : decode cL_law 484 = .ok (.iadd, 1) := all_at dvL_law_471 11 rfl
theorem dL_law_485 : decode cL_law 485 = .ok (.iaload, 1) := all_at dvL_law_471 12 rfl
theorem dL_law_486 : decode cL_law 486 = .ok (.aload_n 0, 1) := all_at dvL_law_471 13 rfl
theorem dL_law_487 : decode cL_law 487 = .ok (.iload_n 3, 1) := all_at dvL_law_471 14 rfl
theorem dL_law_488 : decode cL_law 488 = .ok (.iconst 3, 1) := all_at dvL_law_471 15 rfl
theorem dL_law_489 : decode cL_law 489 = .ok (.iadd, 1) := all_at dvL_law_471 16 rfl
theorem dL_law_490 : decode cL_law 490 = .ok (.iaload, 1) := all_at dvL_law_471 17 rfl
theorem dL_law_491 : decode cL_law 491 = .ok (.invokevirtual 45, 3) := all_at dvL_law_471 18 rfl
theorem dL_law_494 : decode cL_law 494 = .ok (.pop, 1) := all_at dvL_law_471 19 rfl
theorem dL_law_495 : decode cL_law 495 = .ok (.aload_n 2, 1) := all_at dvL_law_471 20 rfl
theorem dL_law_496 : decode cL_law 496 = .ok (.aload_n 0, 1) := all_at dvL_law_471 21 rfl
theorem dL_law_497 : decode cL_law 497 = .ok (.iload_n 3, 1) := all_at dvL_law_471 22 rfl
theorem dL_law_498 : decode cL_law 498 = .ok (.iconst 1, 1) := all_at dvL_law_471 23 rfl
set_option maxRecDepth 100000 in
theorem dvL_law_499 : ([(499, .iadd, 1), (500, .iaload, 1), (501, .aload_n 0, 1), (502, .iload_n 3, 1), (503, .iconst 2, 1), (504, .iadd, 1), (505, .iaload, 1), (506, .aload_n 0, 1), (507, .iload_n 3, 1), (508, .iconst 3, 1), (509, .iadd, 1), (510, .iaload, 1), (511, .invokevirtual 48, 3), (514, .pop, 1), (515, .goto 993, 3), (518, .aload_n 1, 1), (519, .aload_n 0, 1), (520, .iload_n 3, 1), (521, .iconst 1, 1), (522, .iadd, 1), (523, .iaload, 1), (524, .invokevirtual 49, 3), (527, .pop, 1), (528, .aload_n 2, 1)] : List (Nat × Instr × Nat)).all (fun q => decide (decode cL_law q.1 = .ok (q.2.1, q.2.2))) = true := by decide +kernel
theorem dL_law_499 : decode cL_law 499 = .ok (.iadd, 1) := all_at dvL_law_499 0 rfl
theorem dL_law_500 : decode cL_law 500 = .ok (.iaload, 1) := all_at dvL_law_499 1 rfl
theorem dL_law_501 : decode cL_law 501 = .ok (.aload_n 0, 1) := all_at dvL_law_499 2 rfl
theorem dL_law_502 : decode cL_law 502 = .ok (.iload_n 3, 1) := all_at dvL_law_499 3 rfl
theorem dL_law_503 : decode cL_law 503 = .ok (.iconst 2, 1) := all_at dvL_law_499 4 rfl
theorem dL_law_504 : decode cL_law 504 = .ok (.iadd, 1) := all_at dvL_law_499 5 rfl
theorem dL_law_505 : decode cL_law 505 = .ok (.iaload, 1) := all_at dvL_law_499 6 rfl
theorem dL_law_506 : decode cL_law 506 = .ok (.aload_n 0, 1) := all_at dvL_law_499 7 rfl
theorem dL_law_507 : decode cL_law 507 = .ok (.iload_n 3, 1) := all_at dvL_law_499 8 rfl
theorem dL_law_508 : decode cL_law 508 = .ok (.iconst 3, 1) := all_at dvL_law_499 9 rfl
theorem dL_law_509 : decode cL_law 509 = .ok (.iadd, 1) := all_at dvL_law_499 10 rfl
theorem dL_law_510 : decode cL_law 510 = .ok (.iaload, 1) := all_at dvL_law_499 11 rfl
theorem dL_law_511 : decode cL_law 511 = .ok (.invokevirtual 48, 3) := all_at dvL_law_499 12 rfl
theorem dL_law_514 : decode cL_law 514 = .ok (.pop, 1) := all_at dvL_law_499 13 rfl
theorem dL_law_515 : decode cL_law 515 = .ok (.goto 993, 3) := all_at dvL_law_499 14 rfl
theorem dL_law_518 : decode cL_law 518 = .ok (.aload_n 1, 1) := all_at dvL_law_499 15 rfl
theorem dL_law_519 : decode cL_law 519 = .ok (.aload_n 0, 1) := all_at dvL_law_499 16 rfl
theorem dL_law_520 : decode cL_law 520 = .ok (.iload_n 3, 1) := all_at dvL_law_499 17 rfl
theorem dL_law_521 : decode cL_law 521 = .ok (.iconst 1, 1) := all_at dvL_law_499 18 rfl
theorem dL_law_522 : decode cL_law 522 = .ok (.iadd, 1) := all_at dvL_law_499 19 rfl
theorem dL_law_523 : decode cL_law 523 = .ok (.iaload, 1) := all_at dvL_law_499 20 rfl
theorem dL_law_524 : decode cL_law 524 = .ok (.invokevirtual 49, 3) := all_at dvL_law_499 21 rfl
theorem dL_law_527 : decode cL_law 527 = .ok (.pop, 1) := all_at dvL_law_499 22 rfl
theorem dL_law_528 : decode cL_law 528 = .ok (.aload_n 2, 1) := all_at dvL_law_499 23 rfl
set_option maxRecDepth 100000 in
theorem dvL_law_529 : ([(529, .aload_n 0, 1), (530, .iload_n 3, 1), (531, .iconst 1, 1), (532, .iadd, 1), (533, .iaload, 1), (534, .invokevirtual 52, 3), (537, .pop, 1), (538, .goto 970, 3), (541, .aload_n 1, 1), (542, .aload_n 0, 1), (543, .iload_n 3, 1), (544, .iconst 1, 1), (545, .iadd, 1), (546, .iaload, 1), (547, .aload_n 0, 1), (548, .iload_n 3, 1), (549, .iconst 2, 1), (550, .iadd, 1), (551, .iaload, 1), (552, .i2l, 1), (553, .bipush 32, 2), (555, .lshl, 1), (556, .aload_n 0, 1), (557, .iload_n 3, 1)] : List (Nat × Instr × Nat)).all (fun q => decide (decode cL_law q.1 = .ok (q.2.1, q.2.2))) = true := by decide +kernel
theorem dL_law_529 : decode cL_law 529 = .ok (.aload_n 0, 1) := all_at dvL_law_529 0 rfl
theorem dL_law_530 : decode cL_law 530 = .ok (.iload_n 3, 1) := all_at dvL_law_529 1 rfl
theorem dL_law_531 : decode cL_law 531 = .ok (.iconst 1, 1) := all_at dvL_law_529 2 rfl
theorem dL_law_532 : decode cL_law 532 = .ok (.iadd, 1) := all_at dvL_law_529 3 rfl
theorem dL_law_533 : decode cL_law 533 = .ok (.iaload, 1) := all_at dvL_law_529 4 rfl
theorem dL_law_534 : decode cL_law 534 = .ok (.invokevirtual 52, 3) := all_at dvL_law_529 5 rfl
theorem dL_law_537 : decode cL_law 537 = .ok (.pop, 1) := all_at dvL_law_529 6 rfl
theorem dL_law_538 : decode cL_law 538 = .ok (.goto 970, 3) := all_at dvL_law_529 7 rfl
theorem dL_law_541 : decode cL_law 541 = .ok (.aload_n 1, 1) := all_at dvL_law_529 8 rfl
theorem dL_law_542 : decode cL_law 542 = .ok (.aload_n 0, 1) := all_at dvL_law_529 9 rfl
theorem dL_law_543 : decode cL_law 543 = .ok (.iload_n 3, 1) := all_at dvL_law_529 10 rfl
theorem dL_law_544 : decode cL_law 544 = .ok (.iconst 1, 1) := all_at dvL_law_529 11 rfl
theorem dL_law_545 : decode cL_law 545 = .ok (.iadd, 1) := all_at dvL_law_529 12 rfl
theorem dL_law_546 : decode cL_law 546 = .ok (.iaload, 1) := all_at dvL_law_529 13 rfl
theorem dL_law_547 : decode cL_law 547 = .ok (.aload_n 0, 1) := all_at dvL_law_529 14 rfl
theorem dL_law_548 : decode cL_law 548 = .ok (.iload_n 3, 1) := all_at dvL_law_529 15 rfl
theorem dL_law_549 : decode cL_law 549 = .ok (.iconst 2, 1) := all_at dvL_law_529 16 rfl
theorem dL_law_550 : decode cL_law 550 = .ok (.iadd, 1) := all_at dvL_law_529 17 rfl
theorem dL_law_551 : decode cL_law 551 = .ok (.iaload, 1) := all_at dvL_law_529 18 rfl
theorem dL_law_552 : decode cL_law 552 = .ok (.i2l, 1) := all_at dvL_law_529 19 rfl
theorem dL_law_553 : decode cL_law 553 = .ok (.bipush 32, 2) := all_at dvL_law_529 20 rfl
theorem dL_law_555 : decode cL_law 555 = .ok (.lshl, 1) := all_at dvL_law_529 21 rfl
theorem dL_law_556 : decode cL_law 556 = .ok (.aload_n 0, 1) := all_at dvL_law_529 22 rfl
theorem dL_law_557 : decode cL_law 557 = .ok (.iload_n 3, 1) := all_at dvL_law_529 23 rfl
set_option maxRecDepth 100000 in
theorem dvL_law_558 : ([(558, .iconst 3, 1), (559, .iadd, 1), (560, .iaload, 1), (561, .i2l, 1), (562, .ldc2_w 53, 3), (565, .land, 1), (566, .lor, 1), (567, .invokevirtual 55, 3), (570, .pop, 1), (571, .aload_n 2, 1), (572, .aload_n 0, 1), (573, .iload_n 3, 1), (574, .iconst 1, 1), (575, .iadd, 1), (576, .iaload, 1), (577, .aload_n 0, 1), (578, .iload_n 3, 1), (579, .iconst 2, 1), (580, .iadd, 1), (581, .iaload, 1), (582, .i2l, 1), (583, .bipush 32, 2), (585, .lshl, 1), (586, .aload_n 0, 1)] : List (Nat × Instr × Nat)).all (fun q => decide (decode cL_law q.1 = .ok (q.2.1, q.2.2))) = true := by decide +kernel
theorem dL_law_558 : decode cL_law 558 = .ok (.iconst 3, 1) := all_at dvL_law_558 0 rfl
theorem dL_law_559 : decode cL_law 559 = .ok (.iadd, 1) := all_at dvL_law_558 1 rfl
theorem dL_law_560 : decode cL_law 560 = .ok (.iaload, 1) := all_at dvL_law_558 2 rfl
theorem dL_law_561 : decode cL_law 561 = .ok (.i2l, 1) := all_at dvL_law_558 3 rfl
theorem dL_law_562 : decode cL_law 562 = .ok (.ldc2_w 53, 3) := all_at dvL_law_558 4 rfl
theorem dL_law_565 : decode cL_law 565 = .ok (.land, 1) := all_at dvL_law_558 5 rfl
theorem dL_law_566 : decode cL_law 566 = .ok (.lor, 1) := all_at dvL_law_558 6 rfl
theorem dL_law_567 : decode cL_law 567 = .ok (.invokevirtual 55, 3) := all_at dvL_law_558 7 rfl
theorem dL_law_570 : decode cL_law 570 = .ok (.pop, 1) := all_at dvL_law_558 8 rfl
theorem dL_law_571 : decode cL_law 571 = .ok (.aload_n 2, 1) := all_at dvL_law_558 9 rfl
theorem dL_law_572 : decode cL_law 572 = .ok (.aload_n 0, 1) := all_at dvL_law_558 10 rfl
theorem dL_law_573 : decode cL_law 573 = .ok (.iload_n 3, 1) := all_at dvL_law_558 11 rfl
theorem dL_law_574 : decode cL_law 574 = .ok (.iconst 1, 1) := all_at dvL_law_558 12 rfl
theorem dL_law_575 : decode cL_law 575 = .ok (.iadd, 1) := all_at dvL_law_558 13 rfl
theorem dL_law_576 : decode cL_law 576 = .ok (.iaload, 1) := all_at dvL_law_558 14 rfl
theorem dL_law_577 : decode cL_law 577 = .ok (.aload_n 0, 1) := all_at dvL_law_558 15 rfl
theorem dL_law_578 : decode cL_law 578 = .ok (.iload_n 3, 1) := all_at dvL_law_558 16 rfl
theorem dL_law_579 : decode cL_law 579 = .ok (.iconst 2, 1) := all_at dvL_law_558 17 rfl
theorem dL_law_580 : decode cL_law 580 = .ok (.iadd, 1) := all_at dvL_law_558 18 rfl
theorem dL_law_581 : decode cL_law 581 = .ok (.iaload, 1) := all_at dvL_law_558 19 rfl
theorem dL_law_582 : decode cL_law 582 = .ok (.i2l, 1) := all_at dvL_law_558 20 rfl
theorem dL_law_583 : decode cL_law 583 = .ok (.bipush 32, 2) := all_at dvL_law_558 21 rfl
theorem dL_law_585 : decode cL_law 585 = .ok (.lshl, 1) := all_at dvL_law_558 22 rfl
theorem dL_law_586 : decode cL_law 586 = .ok (.aload_n 0, 1) := all_at dvL_law_558 23 rfl
set_option maxRecDepth 100000 in
theorem dvL_law_587 : ([(587, .iload_n 3, 1), (588, .iconst 3, 1), (589, .iadd, 1), (590, .iaload, 1), (591, .i2l, 1), (592, .ldc2_w 53, 3), (595, .land, 1), (596, .lor, 1), (597, .invokevirtual 59, 3), (600, .pop, 1), (601, .goto 907, 3)] : List (Nat × Instr × Nat)).all (fun q => decide (decode cL_law q.1 = .ok (q.2.1, q.2.2))) = true := by decide +kernel
theorem dL_law_587 : decode cL_law 587 = .ok (.iload_n 3, 1) := all_at dvL_law_587 0 rfl
theorem dL_law_588 : decode cL_law 588 = .ok (.iconst 3, 1) := all_at dvL_law_587 1 rfl
theorem dL_law_589 : decode cL_law 589 = .ok (.iadd, 1) := all_at dvL_law_587 2 rfl
theorem dL_law_590 : decode cL_law 590 = .ok (.iaload, 1) := all_at dvL_law_587 3 rfl
theorem dL_law_591 : decode cL_law 591 = .ok (.i2l, 1) := all_at dvL_law_587 4 rfl
theorem dL_law_592 : decode cL_law 592 = .ok (.ldc2_w 53, 3) := all_at dvL_law_587 5 rfl
theorem dL_law_595 : decode cL_law 595 = .ok (.land, 1) := all_at dvL_law_587 6 rfl
theorem dL_law_596 : decode cL_law 596 = .ok (.lor, 1) := all_at dvL_law_587 7 rfl
theorem dL_law_597 : decode cL_law 597 = .ok (.invokevirtual 59, 3) := all_at dvL_law_587 8 rfl
theorem dL_law_600 : decode cL_law 600 = .ok (.pop, 1) := all_at dvL_law_587 9 rfl
theorem dL_law_601 : decode cL_law 601 = .ok (.goto 907, 3) := all_at dvL_law_587 10 rfl
set_option maxHeartbeats 4000000 in
set_option maxRecDepth 100000 in
theorem law_5 {p : Program} {e : Env} {s : State} {m : MethodId} {below : List Frame} {meth : Method} {c : Code} (l : Launch) {b L : Nat} {xs : Nat → Int32} (hL : L ≤ 4096) (C0 : lw_At p s m meth c b L xs) {dC : Nat → ClassId} {dI : Nat → Nat → Nat} {A : Nat → Prop} (hA : ∀ q : Nat, s.heap.size ≤ q → A q) (hbA : ¬ A b) (hAs : ∀ q : Nat, A q → s.heap.size ≤ q) {x y : Nat} {gx gy : Nat → Nat → Nat} {cax cay : Nat → Nat → ClassId} {ak av : Nat → Nat} (hKx : va_K (dC, dI) classes (TX cax) s) (hKy : va_K (dC, dI) classes (TM cay) s) (hXY : ∀ a ∈ AdX x gx, ∀ b ∈ AdM y gy, a ≠ b) (hZ : zC ak av A s s.heap) {H : Heap} {locs : List Loc} {ivx : Nat → Nat → Int32} {lvx : Nat → Nat → Int64} {fax : Nat → Nat → Nat → Int32} {lax : Nat → Nat → Nat → Int64} {ivy : Nat → Nat → Int32} {lvy : Nat → Nat → Int64} {fay : Nat → Nat → Nat → Int32} {lay : Nat → Nat → Nat → Int64} (hIx : IX ivx fax) (hIy : IX ivy fay) (hJC : JCf (ivy 12 23).toInt (fay 12 25) (fay 12 26) (fay 12 27) (fay 12 28)) (hJR : JRf (ivy 12 3).toInt (fay 12 7)) (hJN : JNf (ivy 12 3).toInt (fay 12 4) (fay 12 5)) (hJO : ((ivy 12 20).toInt = -1 ∧ (ivy 12 21).toInt = -1 ∧ (ivy 12 22).toInt = -1)) (hq_bales : ivx 0 7 = ivy 12 1) (ha_thread : (∀ j : Nat, fax 0 1 j = fay 12 51 j)) (hz_thread : (∀ j : Nat, (ivx 0 7).toInt ≤ (j : Int) → (fax 0 1 j).toInt = 0)) (hsz : (∀ j : Nat, (fax 0 5 j).toInt = 2 * (fay 12 52 j).toInt ∧ 0 ≤ (fay 12 52 j).toInt ∧ (fay 12 52 j).toInt ≤ 999)) (hPx : va_P (dC, dI) classes (WX x gx cax ivx lvx fax lax) H) (hDx : va_D A (WX x gx cax ivx lvx fax lax)) (hPy : va_P (dC, dI) classes (WM y gy cay ivy lvy fay lay) H) (hDy : va_D A (WM y gy cay ivy lvy fay lay)) (hS : va_S A s.heap H locs) {i : Int32} {ls : Array Slot} (hl : lv_has ls 4 [(3, .int i), (2, .ref y), (1, .ref x), (0, .ref b)]) (hi : 0 ≤ i.toInt ∧ i.toInt ≤ 4088) (hi8 : i.toInt + 8 ≤ (L : Int)) (kk : ∀ (H : Heap) (locs : List Loc) (ivx : Nat → Nat → Int32) (lvx : Nat → Nat → Int64) (fax : Nat → Nat → Nat → Int32) (lax : Nat → Nat → Nat → Int64) (ivy : Nat → Nat → Int32) (lvy : Nat → Nat → Int64) (fay : Nat → Nat → Nat → Int32) (lay : Nat → Nat → Nat → Int64), IX ivx fax → IX ivy fay → JCf (ivy 12 23).toInt (fay 12 25) (fay 12 26) (fay 12 27) (fay 12 28) → JRf (ivy 12 3).toInt (fay 12 7) → JNf (ivy 12 3).toInt (fay 12 4) (fay 12 5) → ((ivy 12 20).toInt = -1 ∧ (ivy 12 21).toInt = -1 ∧ (ivy 12 22).toInt = -1) → ivx 0 7 = ivy 12 1 → (∀ j : Nat, fax 0 1 j = fay 12 51 j) → (∀ j : Nat, (ivx 0 7).toInt ≤ (j : Int) → (fax 0 1 j).toInt = 0) → (∀ j : Nat, (fax 0 5 j).toInt = 2 * (fay 12 52 j).toInt ∧ 0 ≤ (fay 12 52 j).toInt ∧ (fay 12 52 j).toInt ≤ 999) → va_P (dC, dI) classes (WX x gx cax ivx lvx fax lax) H → va_D A (WX x gx cax ivx lvx fax lax) → va_P (dC, dI) classes (WM y gy cay ivy lvy fay lay) H → va_D A (WM y gy cay ivy lvy fay lay) → va_S A s.heap H locs → W p l e room_1 s m #[Value.ref b] below meth c H locs 98 5431 (lw_Z below #[Value.ref b] s) (F0 m 1508 ls [])) : W p l e room_1 s m #[Value.ref b] below meth c H locs 98 5431 (lw_Z below #[Value.ref b] s) (F0 m 389 ls []) := by
  obtain ⟨hx, hb, hr, hml, hown, hts, hX, hbl, hlocks, hgv⟩ := id C0
  have ht := tb_of hts
  have hJV : ∀ j : Nat, 0 ≤ (fay 12 52 j).toInt ∧ (fay 12 52 j).toInt ≤ 999 := fun j => (hsz j).2
  have hJZ : ∀ j : Nat, 0 ≤ (fax 0 5 j).toInt ∧ (fax 0 5 j).toInt ≤ 1998 := fun j => by have h5 := hsz j; omega
  refine lv_aload_n hx hb dL_law_389 rfl (lv_at hl 2 rfl) ?_
  refine lv_aload_n hx hb dL_law_390 rfl (lv_at hl 3 rfl) ?_
  refine lv_iload_n hx hb dL_law_391 rfl (lv_at hl 0 rfl) ?_
  refine lv_iconst (v := 1) hx hb dL_law_392 (by decide) ?_
  refine lv_iadd hx hb dL_law_393 ?_
  refine lv_topi (fun v1 ev1 => ?_)
  have tv1 := z_add ev1 (rfl : (i).toInt = _) (by decide : (1 : Int32).toInt = 1) (by omega) (by omega)
  refine va_sld hx hb hX hbl hbA hS (vp_in_iff.mpr ⟨by omega, by omega⟩ : vp_in v1 L) dL_law_394 ?_
  refine lv_topi (fun v2 ev2 => ?_)
  refine lv_aload_n hx hb dL_law_395 rfl (lv_at hl 3 rfl) ?_
  refine lv_iload_n hx hb dL_law_396 rfl (lv_at hl 0 rfl) ?_
  refine lv_iconst (v := 2) hx hb dL_law_397 (by decide) ?_
  refine lv_iadd hx hb dL_law_398 ?_
  refine lv_topi (fun v3 ev3 => ?_)
  have tv3 := z_add ev3 (rfl : (i).toInt = _) (by decide : (2 : Int32).toInt = 2) (by omega) (by omega)
  refine va_sld hx hb hX hbl hbA hS (vp_in_iff.mpr ⟨by omega, by omega⟩ : vp_in v3 L) dL_law_399 ?_
  refine lv_topi (fun v4 ev4 => ?_)
  refine lv_aload_n hx hb dL_law_400 rfl (lv_at hl 3 rfl) ?_
  refine lv_iload_n hx hb dL_law_401 rfl (lv_at hl 0 rfl) ?_
  refine lv_iconst (v := 3) hx hb dL_law_402 (by decide) ?_
  refine lv_iadd hx hb dL_law_403 ?_
  refine lv_topi (fun v5 ev5 => ?_)
  have tv5 := z_add ev5 (rfl : (i).toInt = _) (by decide : (3 : Int32).toInt = 3) (by omega) (by omega)
  refine va_sld hx hb hX hbl hbA hS (vp_in_iff.mpr ⟨by omega, by omega⟩ : vp_in v5 L) dL_law_404 ?_
  refine lv_topi (fun v6 ev6 => ?_)
  have hFc := free_all hDx hS hA
  refine va_calli (va_runV (As := [.int v2, .int v4, .int v6]) (rest := []) ⟨hx, hb, hml, hown, ht⟩ (c_X11_test l dC dI H.size x gx cax ivx lvx fax lax hIx v2 v4 v6) (kV 3 ht m_522 m_523 m_524 m_77 m_525 rfl rfl hd_X11_test_v ⟨Nat.le_of_ble_eq_true rfl, Nat.le_of_ble_eq_true rfl⟩) (vW hPx hKx hDx (rX_11 hKx hPx)) rfl rfl hl.1 rfl (lv_room (Nat.le_of_ble_eq_true rfl)) dL_law_405 ⟨Nat.le_of_ble_eq_true rfl, Nat.le_of_ble_eq_true rfl⟩) hS (fun q _ h => hFc q h) hFc (fun r7 u t H1 locs ht9 hvm hr7 hB hz1 hk1 hS => ?_)
  obtain ⟨n8, n9, n10, n11, hn11, hr7, rfl⟩ := hr7
  obtain ⟨hPx, hDx⟩ := hB
  rw [ht9] at hPx
  have hPy := P_kept hPy (la := AdM y gy) (lb := AdX x gx) wmM wmX (fun a ha b hb => (hXY b hb a ha).symm) hk1
  generalize H1 = H at hPx hPy hS ⊢
  have hPx : va_P (dC, dI) classes (WX x gx cax (u2 ivx 9 3 n11) lvx (u2 (u2 (u2 fax 9 0 n8) 9 1 n9) 9 2 n10) lax) H := hPx
  have hDx : va_D A (WX x gx cax (u2 ivx 9 3 n11) lvx (u2 (u2 (u2 fax 9 0 n8) 9 1 n9) 9 2 n10) lax) := (show va_D _ (WX x gx cax (u2 ivx 9 3 n11) lvx (u2 (u2 (u2 fax 9 0 n8) 9 1 n9) 9 2 n10) lax) from hDx).weaken (fun _ _ _ h => hFc _ h)
  refine lv_pop hx hb dL_law_408 rfl ?_
  refine lv_aload_n hx hb dL_law_409 rfl (lv_at hl 1 rfl) ?_
  refine lv_aload_n hx hb dL_law_410 rfl (lv_at hl 3 rfl) ?_
  refine lv_iload_n hx hb dL_law_411 rfl (lv_at hl 0 rfl) ?_
  refine lv_iconst (v := 1) hx hb dL_law_412 (by decide) ?_
  refine lv_iadd hx hb dL_law_413 ?_
  refine lv_topi (fun v12 ev12 => ?_)
  have tv12 := z_add ev12 (rfl : (i).toInt = _) (by decide : (1 : Int32).toInt = 1) (by omega) (by omega)
  refine va_sld hx hb hX hbl hbA hS (vp_in_iff.mpr ⟨by omega, by omega⟩ : vp_in v12 L) dL_law_414 ?_
  refine lv_topi (fun v13 ev13 => ?_)
  refine lv_aload_n hx hb dL_law_415 rfl (lv_at hl 3 rfl) ?_
  refine lv_iload_n hx hb dL_law_416 rfl (lv_at hl 0 rfl) ?_
  refine lv_iconst (v := 2) hx hb dL_law_417 (by decide) ?_
  refine lv_iadd hx hb dL_law_418 ?_
  refine lv_topi (fun v14 ev14 => ?_)
  have tv14 := z_add ev14 (rfl : (i).toInt = _) (by decide : (2 : Int32).toInt = 2) (by omega) (by omega)
  refine va_sld hx hb hX hbl hbA hS (vp_in_iff.mpr ⟨by omega, by omega⟩ : vp_in v14 L) dL_law_419 ?_
  refine lv_topi (fun v15 ev15 => ?_)
  refine lv_aload_n hx hb dL_law_420 rfl (lv_at hl 3 rfl) ?_
  refine lv_iload_n hx hb dL_law_421 rfl (lv_at hl 0 rfl) ?_
  refine lv_iconst (v := 3) hx hb dL_law_422 (by decide) ?_
  refine lv_iadd hx hb dL_law_423 ?_
  refine lv_topi (fun v16 ev16 => ?_)
  have tv16 := z_add ev16 (rfl : (i).toInt = _) (by decide : (3 : Int32).toInt = 3) (by omega) (by omega)
  refine va_sld hx hb hX hbl hbA hS (vp_in_iff.mpr ⟨by omega, by omega⟩ : vp_in v16 L) dL_law_424 ?_
  refine lv_topi (fun v17 ev17 => ?_)
  have hFc := free_all hDy hS hA
  refine va_calli (va_runV (As := [.int v13, .int v15, .int v17]) (rest := []) ⟨hx, hb, hml, hown, ht⟩ (c_X12_test l dC dI H.size y gy cay ivy lvy fay lay hIy v13 v15 v17) (kV 3 ht m_1411 m_1412 m_1413 m_89 m_1414 rfl rfl hd_X12_test_v ⟨Nat.le_of_ble_eq_true rfl, Nat.le_of_ble_eq_true rfl⟩) (vW hPy hKy hDy (rM_12 hKy hPy)) rfl rfl hl.1 rfl (lv_room (Nat.le_of_ble_eq_true rfl)) dL_law_425 ⟨Nat.le_of_ble_eq_true rfl, Nat.le_of_ble_eq_true rfl⟩) hS (fun q _ h => hFc q h) hFc (fun r18 u t H1 locs ht9 hvm hr18 hB hz1 hk1 hS => ?_)
  obtain ⟨n19, n20, n21, n22, hn22, hr18, rfl⟩ := hr18
  obtain ⟨hPy, hDy⟩ := hB
  rw [ht9] at hPy
  have hPx := P_kept hPx (la := AdX x gx) (lb := AdM y gy) wmX wmM hXY hk1
  generalize H1 = H at hPx hPy hS ⊢
  have hPy : va_P (dC, dI) classes (WM y gy cay (u2 ivy 12 13 n22) lvy (u2 (u2 (u2 fay 12 14 n19) 12 15 n20) 12 16 n21) lay) H := hPy
  have hDy : va_D A (WM y gy cay (u2 ivy 12 13 n22) lvy (u2 (u2 (u2 fay 12 14 n19) 12 15 n20) 12 16 n21) lay) := (show va_D _ (WM y gy cay (u2 ivy 12 13 n22) lvy (u2 (u2 (u2 fay 12 14 n19) 12 15 n20) 12 16 n21) lay) from hDy).weaken (fun _ _ _ h => hFc _ h)
  refine lv_pop hx hb dL_law_428 rfl ?_
  refine lv_goto (tgt := 1508) hx hb dL_law_429 (by decide) ?_
  exact kk _ _ (u2 ivx 9 3 n11) lvx (u2 (u2 (u2 fax 9 0 n8) 9 1 n9) 9 2 n10) lax (u2 ivy 12 13 n22) lvy (u2 (u2 (u2 fay 12 14 n19) 12 15 n20) 12 16 n21) lay (IX_a (c := 9) (k := 2) (IX_a (c := 9) (k := 1) (IX_a (c := 9) (k := 0) (IX_i (c := 9) (k := 3) hIx hn11) (fun j => full_i _)) (fun j => full_i _)) (fun j => full_i _)) (IX_a (c := 12) (k := 16) (IX_a (c := 12) (k := 15) (IX_a (c := 12) (k := 14) (IX_i (c := 12) (k := 13) hIy hn22) (fun j => full_i _)) (fun j => full_i _)) (fun j => full_i _)) hJC hJR hJN hJO hq_bales ha_thread hz_thread hsz hPx hDx hPy hDy hS
set_option maxHeartbeats 4000000 in
set_option maxRecDepth 100000 in
theorem law_6 {p : Program} {e : Env} {s : State} {m : MethodId} {below : List Frame} {meth : Method} {c : Code} (l : Launch) {b L : Nat} {xs : Nat → Int32} (hL : L ≤ 4096) (C0 : lw_At p s m meth c b L xs) {dC : Nat → ClassId} {dI : Nat → Nat → Nat} {A : Nat → Prop} (hA : ∀ q : Nat, s.heap.size ≤ q → A q) (hbA : ¬ A b) (hAs : ∀ q : Nat, A q → s.heap.size ≤ q) {x y : Nat} {gx gy : Nat → Nat → Nat} {cax cay : Nat → Nat → ClassId} {ak av : Nat → Nat} (hKx : va_K (dC, dI) classes (TX cax) s) (hKy : va_K (dC, dI) classes (TM cay) s) (hXY : ∀ a ∈ AdX x gx, ∀ b ∈ AdM y gy, a ≠ b) (hZ : zC ak av A s s.heap) {H : Heap} {locs : List Loc} {ivx : Nat → Nat → Int32} {lvx : Nat → Nat → Int64} {fax : Nat → Nat → Nat → Int32} {lax : Nat → Nat → Nat → Int64} {ivy : Nat → Nat → Int32} {lvy : Nat → Nat → Int64} {fay : Nat → Nat → Nat → Int32} {lay : Nat → Nat → Nat → Int64} (hIx : IX ivx fax) (hIy : IX ivy fay) (hJC : JCf (ivy 12 23).toInt (fay 12 25) (fay 12 26) (fay 12 27) (fay 12 28)) (hJR : JRf (ivy 12 3).toInt (fay 12 7)) (hJN : JNf (ivy 12 3).toInt (fay 12 4) (fay 12 5)) (hJO : ((ivy 12 20).toInt = -1 ∧ (ivy 12 21).toInt = -1 ∧ (ivy 12 22).toInt = -1)) (hq_bales : ivx 0 7 = ivy 12 1) (ha_thread : (∀ j : Nat, fax 0 1 j = fay 12 51 j)) (hz_thread : (∀ j : Nat, (ivx 0 7).toInt ≤ (j : Int) → (fax 0 1 j).toInt = 0)) (hsz : (∀ j : Nat, (fax 0 5 j).toInt = 2 * (fay 12 52 j).toInt ∧ 0 ≤ (fay 12 52 j).toInt ∧ (fay 12 52 j).toInt ≤ 999)) (hPx : va_P (dC, dI) classes (WX x gx cax ivx lvx fax lax) H) (hDx : va_D A (WX x gx cax ivx lvx fax lax)) (hPy : va_P (dC, dI) classes (WM y gy cay ivy lvy fay lay) H) (hDy : va_D A (WM y gy cay ivy lvy fay lay)) (hS : va_S A s.heap H locs) {i : Int32} {ls : Array Slot} (hl : lv_has ls 4 [(3, .int i), (2, .ref y), (1, .ref x), (0, .ref b)]) (hi : 0 ≤ i.toInt ∧ i.toInt ≤ 4088) (hi8 : i.toInt + 8 ≤ (L : Int)) (kk : ∀ (H : Heap) (locs : List Loc) (ivx : Nat → Nat → Int32) (lvx : Nat → Nat → Int64) (fax : Nat → Nat → Nat → Int32) (lax : Nat → Nat → Nat → Int64) (ivy : Nat → Nat → Int32) (lvy : Nat → Nat → Int64) (fay : Nat → Nat → Nat → Int32) (lay : Nat → Nat → Nat → Int64), IX ivx fax → IX ivy fay → JCf (ivy 12 23).toInt (fay 12 25) (fay 12 26) (fay 12 27) (fay 12 28) → JRf (ivy 12 3).toInt (fay 12 7) → JNf (ivy 12 3).toInt (fay 12 4) (fay 12 5) → ((ivy 12 20).toInt = -1 ∧ (ivy 12 21).toInt = -1 ∧ (ivy 12 22).toInt = -1) → ivx 0 7 = ivy 12 1 → (∀ j : Nat, fax 0 1 j = fay 12 51 j) → (∀ j : Nat, (ivx 0 7).toInt ≤ (j : Int) → (fax 0 1 j).toInt = 0) → (∀ j : Nat, (fax 0 5 j).toInt = 2 * (fay 12 52 j).toInt ∧ 0 ≤ (fay 12 52 j).toInt ∧ (fay 12 52 j).toInt ≤ 999) → va_P (dC, dI) classes (WX x gx cax ivx lvx fax lax) H → va_D A (WX x gx cax ivx lvx fax lax) → va_P (dC, dI) classes (WM y gy cay ivy lvy fay lay) H → va_D A (WM y gy cay ivy lvy fay lay) → va_S A s.heap H locs → W p l e room_1 s m #[Value.ref b] below meth c H locs 98 5431 (lw_Z below #[Value.ref b] s) (F0 m 1508 ls [])) : W p l e room_1 s m #[Value.ref b] below meth c H locs 98 5431 (lw_Z below #[Value.ref b] s) (F0 m 432 ls []) := by
  obtain ⟨hx, hb, hr, hml, hown, hts, hX, hbl, hlocks, hgv⟩ := id C0
  have ht := tb_of hts
  have hJV : ∀ j : Nat, 0 ≤ (fay 12 52 j).toInt ∧ (fay 12 52 j).toInt ≤ 999 := fun j => (hsz j).2
  have hJZ : ∀ j : Nat, 0 ≤ (fax 0 5 j).toInt ∧ (fax 0 5 j).toInt ≤ 1998 := fun j => by have h5 := hsz j; omega
  refine lv_aload_n hx hb dL_law_432 rfl (lv_at hl 2 rfl) ?_
  refine lv_aload_n hx hb dL_law_433 rfl (lv_at hl 3 rfl) ?_
  refine lv_iload_n hx hb dL_law_434 rfl (lv_at hl 0 rfl) ?_
  refine lv_iconst (v := 1) hx hb dL_law_435 (by decide) ?_
  refine lv_iadd hx hb dL_law_436 ?_
  refine lv_topi (fun v1 ev1 => ?_)
  have tv1 := z_add ev1 (rfl : (i).toInt = _) (by decide : (1 : Int32).toInt = 1) (by omega) (by omega)
  refine va_sld hx hb hX hbl hbA hS (vp_in_iff.mpr ⟨by omega, by omega⟩ : vp_in v1 L) dL_law_437 ?_
  refine lv_topi (fun v2 ev2 => ?_)
  refine lv_aload_n hx hb dL_law_438 rfl (lv_at hl 3 rfl) ?_
  refine lv_iload_n hx hb dL_law_439 rfl (lv_at hl 0 rfl) ?_
  refine lv_iconst (v := 2) hx hb dL_law_440 (by decide) ?_
  refine lv_iadd hx hb dL_law_441 ?_
  refine lv_topi (fun v3 ev3 => ?_)
  have tv3 := z_add ev3 (rfl : (i).toInt = _) (by decide : (2 : Int32).toInt = 2) (by omega) (by omega)
  refine va_sld hx hb hX hbl hbA hS (vp_in_iff.mpr ⟨by omega, by omega⟩ : vp_in v3 L) dL_law_442 ?_
  refine lv_topi (fun v4 ev4 => ?_)
  refine lv_aload_n hx hb dL_law_443 rfl (lv_at hl 3 rfl) ?_
  refine lv_iload_n hx hb dL_law_444 rfl (lv_at hl 0 rfl) ?_
  refine lv_iconst (v := 3) hx hb dL_law_445 (by decide) ?_
  refine lv_iadd hx hb dL_law_446 ?_
  refine lv_topi (fun v5 ev5 => ?_)
  have tv5 := z_add ev5 (rfl : (i).toInt = _) (by decide : (3 : Int32).toInt = 3) (by omega) (by omega)
  refine va_sld hx hb hX hbl hbA hS (vp_in_iff.mpr ⟨by omega, by omega⟩ : vp_in v5 L) dL_law_447 ?_
  refine lv_topi (fun v6 ev6 => ?_)
  refine vp_callSi (W.runV (As := [.int v2, .int v4, .int v6]) (rest := []) ⟨hx, hb, hml, hown, ht⟩ (c_X11_error l dC dI x gx cax ivx lvx fax lax hIx v2 v4 v6) (kV 3 ht m_530 m_531 m_532 m_77 m_533 rfl rfl hd_X11_error_v ⟨Nat.le_of_ble_eq_true rfl, Nat.le_of_ble_eq_true rfl⟩) (vR hPx hKx (rX_11 hKx hPx)) rfl rfl hl.1 rfl (lv_room (Nat.le_of_ble_eq_true rfl)) dL_law_448 ⟨Nat.le_of_ble_eq_true rfl, Nat.le_of_ble_eq_true rfl⟩) (fun r7 hr7 => ?_)
  refine lv_pop hx hb dL_law_451 rfl ?_
  refine lv_aload_n hx hb dL_law_452 rfl (lv_at hl 1 rfl) ?_
  refine lv_aload_n hx hb dL_law_453 rfl (lv_at hl 3 rfl) ?_
  refine lv_iload_n hx hb dL_law_454 rfl (lv_at hl 0 rfl) ?_
  refine lv_iconst (v := 1) hx hb dL_law_455 (by decide) ?_
  refine lv_iadd hx hb dL_law_456 ?_
  refine lv_topi (fun v8 ev8 => ?_)
  have tv8 := z_add ev8 (rfl : (i).toInt = _) (by decide : (1 : Int32).toInt = 1) (by omega) (by omega)
  refine va_sld hx hb hX hbl hbA hS (vp_in_iff.mpr ⟨by omega, by omega⟩ : vp_in v8 L) dL_law_457 ?_
  refine lv_topi (fun v9 ev9 => ?_)
  refine lv_aload_n hx hb dL_law_458 rfl (lv_at hl 3 rfl) ?_
  refine lv_iload_n hx hb dL_law_459 rfl (lv_at hl 0 rfl) ?_
  refine lv_iconst (v := 2) hx hb dL_law_460 (by decide) ?_
  refine lv_iadd hx hb dL_law_461 ?_
  refine lv_topi (fun v10 ev10 => ?_)
  have tv10 := z_add ev10 (rfl : (i).toInt = _) (by decide : (2 : Int32).toInt = 2) (by omega) (by omega)
  refine va_sld hx hb hX hbl hbA hS (vp_in_iff.mpr ⟨by omega, by omega⟩ : vp_in v10 L) dL_law_462 ?_
  refine lv_topi (fun v11 ev11 => ?_)
  refine lv_aload_n hx hb dL_law_463 rfl (lv_at hl 3 rfl) ?_
  refine lv_iload_n hx hb dL_law_464 rfl (lv_at hl 0 rfl) ?_
  refine lv_iconst (v := 3) hx hb dL_law_465 (by decide) ?_
  refine lv_iadd hx hb dL_law_466 ?_
  refine lv_topi (fun v12 ev12 => ?_)
  have tv12 := z_add ev12 (rfl : (i).toInt = _) (by decide : (3 : Int32).toInt = 3) (by omega) (by omega)
  refine va_sld hx hb hX hbl hbA hS (vp_in_iff.mpr ⟨by omega, by omega⟩ : vp_in v12 L) dL_law_467 ?_
  refine lv_topi (fun v13 ev13 => ?_)
  refine vp_callSi (W.runV (As := [.int v9, .int v11, .int v13]) (rest := []) ⟨hx, hb, hml, hown, ht⟩ (c_X12_error l dC dI y gy cay ivy lvy fay lay hIy v9 v11 v13) (kV 3 ht m_1418 m_1419 m_1420 m_89 m_1421 rfl rfl hd_X12_error_v ⟨Nat.le_of_ble_eq_true rfl, Nat.le_of_ble_eq_true rfl⟩) (vR hPy hKy (rM_12 hKy hPy)) rfl rfl hl.1 rfl (lv_room (Nat.le_of_ble_eq_true rfl)) dL_law_468 ⟨Nat.le_of_ble_eq_true rfl, Nat.le_of_ble_eq_true rfl⟩) (fun r14 hr14 => ?_)
  refine lv_pop hx hb dL_law_471 rfl ?_
  refine lv_goto (tgt := 1508) hx hb dL_law_472 (by decide) ?_
  exact kk _ _ ivx lvx fax lax ivy lvy fay lay hIx hIy hJC hJR hJN hJO hq_bales ha_thread hz_thread hsz hPx hDx hPy hDy hS
set_option maxHeartbeats 4000000 in
set_option maxRecDepth 100000 in
theorem law_7 {p : Program} {e : Env} {s : State} {m : MethodId} {below : List Frame} {meth : Method} {c : Code} (l : Launch) {b L : Nat} {xs : Nat → Int32} (hL : L ≤ 4096) (C0 : lw_At p s m meth c b L xs) {dC : Nat → ClassId} {dI : Nat → Nat → Nat} {A : Nat → Prop} (hA : ∀ q : Nat, s.heap.size ≤ q → A q) (hbA : ¬ A b) (hAs : ∀ q : Nat, A q → s.heap.size ≤ q) {x y : Nat} {gx gy : Nat → Nat → Nat} {cax cay : Nat → Nat → ClassId} {ak av : Nat → Nat} (hKx : va_K (dC, dI) classes (TX cax) s) (hKy : va_K (dC, dI) classes (TM cay) s) (hXY : ∀ a ∈ AdX x gx, ∀ b ∈ AdM y gy, a ≠ b) (hZ : zC ak av A s s.heap) {H : Heap} {locs : List Loc} {ivx : Nat → Nat → Int32} {lvx : Nat → Nat → Int64} {fax : Nat → Nat → Nat → Int32} {lax : Nat → Nat → Nat → Int64} {ivy : Nat → Nat → Int32} {lvy : Nat → Nat → Int64} {fay : Nat → Nat → Nat → Int32} {lay : Nat → Nat → Nat → Int64} (hIx : IX ivx fax) (hIy : IX ivy fay) (hJC : JCf (ivy 12 23).toInt (fay 12 25) (fay 12 26) (fay 12 27) (fay 12 28)) (hJR : JRf (ivy 12 3).toInt (fay 12 7)) (hJN : JNf (ivy 12 3).toInt (fay 12 4) (fay 12 5)) (hJO : ((ivy 12 20).toInt = -1 ∧ (ivy 12 21).toInt = -1 ∧ (ivy 12 22).toInt = -1)) (hq_bales : ivx 0 7 = ivy 12 1) (ha_thread : (∀ j : Nat, fax 0 1 j = fay 12 51 j)) (hz_thread : (∀ j : Nat, (ivx 0 7).toInt ≤ (j : Int) → (fax 0 1 j).toInt = 0)) (hsz : (∀ j : Nat, (fax 0 5 j).toInt = 2 * (fay 12 52 j).toInt ∧ 0 ≤ (fay 12 52 j).toInt ∧ (fay 12 52 j).toInt ≤ 999)) (hPx : va_P (dC, dI) classes (WX x gx cax ivx lvx fax lax) H) (hDx : va_D A (WX x gx cax ivx lvx fax lax)) (hPy : va_P (dC, dI) classes (WM y gy cay ivy lvy fay lay) H) (hDy : va_D A (WM y gy cay ivy lvy fay lay)) (hS : va_S A s.heap H locs) {i : Int32} {ls : Array Slot} (hl : lv_has ls 4 [(3, .int i), (2, .ref y), (1, .ref x), (0, .ref b)]) (hi : 0 ≤ i.toInt ∧ i.toInt ≤ 4088) (hi8 : i.toInt + 8 ≤ (L : Int)) (kk : ∀ (H : Heap) (locs : List Loc) (ivx : Nat → Nat → Int32) (lvx : Nat → Nat → Int64) (fax : Nat → Nat → Nat → Int32) (lax : Nat → Nat → Nat → Int64) (ivy : Nat → Nat → Int32) (lvy : Nat → Nat → Int64) (fay : Nat → Nat → Nat → Int32) (lay : Nat → Nat → Nat → Int64), IX ivx fax → IX ivy fay → JCf (ivy 12 23).toInt (fay 12 25) (fay 12 26) (fay 12 27) (fay 12 28) → JRf (ivy 12 3).toInt (fay 12 7) → JNf (ivy 12 3).toInt (fay 12 4) (fay 12 5) → ((ivy 12 20).toInt = -1 ∧ (ivy 12 21).toInt = -1 ∧ (ivy 12 22).toInt = -1) → ivx 0 7 = ivy 12 1 → (∀ j : Nat, fax 0 1 j = fay 12 51 j) → (∀ j : Nat, (ivx 0 7).toInt ≤ (j : Int) → (fax 0 1 j).toInt = 0) → (∀ j : Nat, (fax 0 5 j).toInt = 2 * (fay 12 52 j).toInt ∧ 0 ≤ (fay 12 52 j).toInt ∧ (fay 12 52 j).toInt ≤ 999) → va_P (dC, dI) classes (WX x gx cax ivx lvx fax lax) H → va_D A (WX x gx cax ivx lvx fax lax) → va_P (dC, dI) classes (WM y gy cay ivy lvy fay lay) H → va_D A (WM y gy cay ivy lvy fay lay) → va_S A s.heap H locs → W p l e room_1 s m #[Value.ref b] below meth c H locs 98 5431 (lw_Z below #[Value.ref b] s) (F0 m 1508 ls [])) : W p l e room_1 s m #[Value.ref b] below meth c H locs 98 5431 (lw_Z below #[Value.ref b] s) (F0 m 475 ls []) := by
  obtain ⟨hx, hb, hr, hml, hown, hts, hX, hbl, hlocks, hgv⟩ := id C0
  have ht := tb_of hts
  have hJV : ∀ j : Nat, 0 ≤ (fay 12 52 j).toInt ∧ (fay 12 52 j).toInt ≤ 999 := fun j => (hsz j).2
  have hJZ : ∀ j : Nat, 0 ≤ (fax 0 5 j).toInt ∧ (fax 0 5 j).toInt ≤ 1998 := fun j => by have h5 := hsz j; omega
  refine lv_aload_n hx hb dL_law_475 rfl (lv_at hl 2 rfl) ?_
  refine lv_aload_n hx hb dL_law_476 rfl (lv_at hl 3 rfl) ?_
  refine lv_iload_n hx hb dL_law_477 rfl (lv_at hl 0 rfl) ?_
  refine lv_iconst (v := 1) hx hb dL_law_478 (by decide) ?_
  refine lv_iadd hx hb dL_law_479 ?_
  refine lv_topi (fun v1 ev1 => ?_)
  have tv1 := z_add ev1 (rfl : (i).toInt = _) (by decide : (1 : Int32).toInt = 1) (by omega) (by omega)
  refine va_sld hx hb hX hbl hbA hS (vp_in_iff.mpr ⟨by omega, by omega⟩ : vp_in v1 L) dL_law_480 ?_
  refine lv_topi (fun v2 ev2 => ?_)
  refine lv_aload_n hx hb dL_law_481 rfl (lv_at hl 3 rfl) ?_
  refine lv_iload_n hx hb dL_law_482 rfl (lv_at hl 0 rfl) ?_
  refine lv_iconst (v := 2) hx hb dL_law_483 (by decide) ?_
  refine lv_iadd hx hb dL_law_484 ?_
  refine lv_topi (fun v3 ev3 => ?_)
  have tv3 := z_add ev3 (rfl : (i).toInt = _) (by decide : (2 : Int32).toInt = 2) (by omega) (by omega)
  refine va_sld hx hb hX hbl hbA hS (vp_in_iff.mpr ⟨by omega, by omega⟩ : vp_in v3 L) dL_law_485 ?_
  refine lv_topi (fun v4 ev4 => ?_)
  refine lv_aload_n hx hb dL_law_486 rfl (lv_at hl 3 rfl) ?_
  refine lv_iload_n hx hb dL_law_487 rfl (lv_at hl 0 rfl) ?_
  refine lv_iconst (v := 3) hx hb dL_law_488 (by decide) ?_
  refine lv_iadd hx hb dL_law_489 ?_
  refine lv_topi (fun v5 ev5 => ?_)
  have tv5 := z_add ev5 (rfl : (i).toInt = _) (by decide : (3 : Int32).toInt = 3) (by omega) (by omega)
  refine va_sld hx hb hX hbl hbA hS (vp_in_iff.mpr ⟨by omega, by omega⟩ : vp_in v5 L) dL_law_490 ?_
  refine lv_topi (fun v6 ev6 => ?_)
  have hFc := free_all hDx hS hA
  refine va_calli (va_runV (As := [.int v2, .int v4, .int v6]) (rest := []) ⟨hx, hb, hml, hown, ht⟩ (c_X11_ratio l dC dI H.size x gx cax ivx lvx fax lax hIx v2 v4 v6) (kV 3 ht m_560 m_561 m_562 m_77 m_563 rfl rfl hd_X11_ratio_v ⟨Nat.le_of_ble_eq_true rfl, Nat.le_of_ble_eq_true rfl⟩) (vW hPx hKx hDx (rX_11 hKx hPx)) rfl rfl hl.1 rfl (lv_room (Nat.le_of_ble_eq_true rfl)) dL_law_491 ⟨Nat.le_of_ble_eq_true rfl, Nat.le_of_ble_eq_true rfl⟩) hS (fun q _ h => hFc q h) hFc (fun r7 u t H1 locs ht9 hvm hr7 hB hz1 hk1 hS => ?_)
  obtain ⟨n8, n9, n10, hr7, rfl⟩ := hr7
  obtain ⟨hPx, hDx⟩ := hB
  rw [ht9] at hPx
  have hPy := P_kept hPy (la := AdM y gy) (lb := AdX x gx) wmM wmX (fun a ha b hb => (hXY b hb a ha).symm) hk1
  generalize H1 = H at hPx hPy hS ⊢
  have hPx : va_P (dC, dI) classes (WX x gx cax ivx lvx (u2 fax 30 2 n8) (u2 (u2 lax 30 0 n9) 30 1 n10)) H := hPx
  have hDx : va_D A (WX x gx cax ivx lvx (u2 fax 30 2 n8) (u2 (u2 lax 30 0 n9) 30 1 n10)) := (show va_D _ (WX x gx cax ivx lvx (u2 fax 30 2 n8) (u2 (u2 lax 30 0 n9) 30 1 n10)) from hDx).weaken (fun _ _ _ h => hFc _ h)
  refine lv_pop hx hb dL_law_494 rfl ?_
  refine lv_aload_n hx hb dL_law_495 rfl (lv_at hl 1 rfl) ?_
  refine lv_aload_n hx hb dL_law_496 rfl (lv_at hl 3 rfl) ?_
  refine lv_iload_n hx hb dL_law_497 rfl (lv_at hl 0 rfl) ?_
  refine lv_iconst (v := 1) hx hb dL_law_498 (by decide) ?_
  refine lv_iadd hx hb dL_law_499 ?_
  refine lv_topi (fun v11 ev11 => ?_)
  have tv11 := z_add ev11 (rfl : (i).toInt = _) (by decide : (1 : Int32).toInt = 1) (by omega) (by omega)
  refine va_sld hx hb hX hbl hbA hS (vp_in_iff.mpr ⟨by omega, by omega⟩ : vp_in v11 L) dL_law_500 ?_
  refine lv_topi (fun v12 ev12 => ?_)
  refine lv_aload_n hx hb dL_law_501 rfl (lv_at hl 3 rfl) ?_
  refine lv_iload_n hx hb dL_law_502 rfl (lv_at hl 0 rfl) ?_
  refine lv_iconst (v := 2) hx hb dL_law_503 (by decide) ?_
  refine lv_iadd hx hb dL_law_504 ?_
  refine lv_topi (fun v13 ev13 => ?_)
  have tv13 := z_add ev13 (rfl : (i).toInt = _) (by decide : (2 : Int32).toInt = 2) (by omega) (by omega)
  refine va_sld hx hb hX hbl hbA hS (vp_in_iff.mpr ⟨by omega, by omega⟩ : vp_in v13 L) dL_law_505 ?_
  refine lv_topi (fun v14 ev14 => ?_)
  refine lv_aload_n hx hb dL_law_506 rfl (lv_at hl 3 rfl) ?_
  refine lv_iload_n hx hb dL_law_507 rfl (lv_at hl 0 rfl) ?_
  refine lv_iconst (v := 3) hx hb dL_law_508 (by decide) ?_
  refine lv_iadd hx hb dL_law_509 ?_
  refine lv_topi (fun v15 ev15 => ?_)
  have tv15 := z_add ev15 (rfl : (i).toInt = _) (by decide : (3 : Int32).toInt = 3) (by omega) (by omega)
  refine va_sld hx hb hX hbl hbA hS (vp_in_iff.mpr ⟨by omega, by omega⟩ : vp_in v15 L) dL_law_510 ?_
  refine lv_topi (fun v16 ev16 => ?_)
  have hFc := free_all hDy hS hA
  refine va_calli (va_runV (As := [.int v12, .int v14, .int v16]) (rest := []) ⟨hx, hb, hml, hown, ht⟩ (c_X12_ratio l dC dI H.size y gy cay ivy lvy fay lay hIy v12 v14 v16 hJR) (kV 3 ht m_1430 m_1431 m_1432 m_89 m_1433 rfl rfl hd_X12_ratio_v ⟨Nat.le_of_ble_eq_true rfl, Nat.le_of_ble_eq_true rfl⟩) (vW hPy hKy hDy (rM_12 hKy hPy)) rfl rfl hl.1 rfl (lv_room (Nat.le_of_ble_eq_true rfl)) dL_law_511 ⟨Nat.le_of_ble_eq_true rfl, Nat.le_of_ble_eq_true rfl⟩) hS (fun q _ h => hFc q h) hFc (fun r17 u t H1 locs ht9 hvm hr17 hB hz1 hk1 hS => ?_)
  obtain ⟨n18, n19, n20, hr17, rfl⟩ := hr17
  obtain ⟨hPy, hDy⟩ := hB
  rw [ht9] at hPy
  have hPx := P_kept hPx (la := AdX x gx) (lb := AdM y gy) wmX wmM hXY hk1
  generalize H1 = H at hPx hPy hS ⊢
  have hPy : va_P (dC, dI) classes (WM y gy cay (u2 ivy 12 19 n18) (u2 (u2 lvy 12 17 n19) 12 18 n20) fay lay) H := hPy
  have hDy : va_D A (WM y gy cay (u2 ivy 12 19 n18) (u2 (u2 lvy 12 17 n19) 12 18 n20) fay lay) := (show va_D _ (WM y gy cay (u2 ivy 12 19 n18) (u2 (u2 lvy 12 17 n19) 12 18 n20) fay lay) from hDy).weaken (fun _ _ _ h => hFc _ h)
  refine lv_pop hx hb dL_law_514 rfl ?_
  refine lv_goto (tgt := 1508) hx hb dL_law_515 (by decide) ?_
  exact kk _ _ ivx lvx (u2 fax 30 2 n8) (u2 (u2 lax 30 0 n9) 30 1 n10) (u2 ivy 12 19 n18) (u2 (u2 lvy 12 17 n19) 12 18 n20) fay lay (IX_a (c := 30) (k := 2) hIx (fun j => full_i _)) (IX_i (c := 12) (k := 19) hIy (full_i _)) hJC hJR hJN hJO hq_bales ha_thread hz_thread hsz hPx hDx hPy hDy hS
set_option maxHeartbeats 4000000 in
set_option maxRecDepth 100000 in
theorem law_8 {p : Program} {e : Env} {s : State} {m : MethodId} {below : List Frame} {meth : Method} {c : Code} (l : Launch) {b L : Nat} {xs : Nat → Int32} (hL : L ≤ 4096) (C0 : lw_At p s m meth c b L xs) {dC : Nat → ClassId} {dI : Nat → Nat → Nat} {A : Nat → Prop} (hA : ∀ q : Nat, s.heap.size ≤ q → A q) (hbA : ¬ A b) (hAs : ∀ q : Nat, A q → s.heap.size ≤ q) {x y : Nat} {gx gy : Nat → Nat → Nat} {cax cay : Nat → Nat → ClassId} {ak av : Nat → Nat} (hKx : va_K (dC, dI) classes (TX cax) s) (hKy : va_K (dC, dI) classes (TM cay) s) (hXY : ∀ a ∈ AdX x gx, ∀ b ∈ AdM y gy, a ≠ b) (hZ : zC ak av A s s.heap) {H : Heap} {locs : List Loc} {ivx : Nat → Nat → Int32} {lvx : Nat → Nat → Int64} {fax : Nat → Nat → Nat → Int32} {lax : Nat → Nat → Nat → Int64} {ivy : Nat → Nat → Int32} {lvy : Nat → Nat → Int64} {fay : Nat → Nat → Nat → Int32} {lay : Nat → Nat → Nat → Int64} (hIx : IX ivx fax) (hIy : IX ivy fay) (hJC : JCf (ivy 12 23).toInt (fay 12 25) (fay 12 26) (fay 12 27) (fay 12 28)) (hJR : JRf (ivy 12 3).toInt (fay 12 7)) (hJN : JNf (ivy 12 3).toInt (fay 12 4) (fay 12 5)) (hJO : ((ivy 12 20).toInt = -1 ∧ (ivy 12 21).toInt = -1 ∧ (ivy 12 22).toInt = -1)) (hq_bales : ivx 0 7 = ivy 12 1) (ha_thread : (∀ j : Nat, fax 0 1 j = fay 12 51 j)) (hz_thread : (∀ j : Nat, (ivx 0 7).toInt ≤ (j : Int) → (fax 0 1 j).toInt = 0)) (hsz : (∀ j : Nat, (fax 0 5 j).toInt = 2 * (fay 12 52 j).toInt ∧ 0 ≤ (fay 12 52 j).toInt ∧ (fay 12 52 j).toInt ≤ 999)) (hPx : va_P (dC, dI) classes (WX x gx cax ivx lvx fax lax) H) (hDx : va_D A (WX x gx cax ivx lvx fax lax)) (hPy : va_P (dC, dI) classes (WM y gy cay ivy lvy fay lay) H) (hDy : va_D A (WM y gy cay ivy lvy fay lay)) (hS : va_S A s.heap H locs) {i : Int32} {ls : Array Slot} (hl : lv_has ls 4 [(3, .int i), (2, .ref y), (1, .ref x), (0, .ref b)]) (hi : 0 ≤ i.toInt ∧ i.toInt ≤ 4088) (hi8 : i.toInt + 8 ≤ (L : Int)) (kk : ∀ (H : Heap) (locs : List Loc) (ivx : Nat → Nat → Int32) (lvx : Nat → Nat → Int64) (fax : Nat → Nat → Nat → Int32) (lax : Nat → Nat → Nat → Int64) (ivy : Nat → Nat → Int32) (lvy : Nat → Nat → Int64) (fay : Nat → Nat → Nat → Int32) (lay : Nat → Nat → Nat → Int64), IX ivx fax → IX ivy fay → JCf (ivy 12 23).toInt (fay 12 25) (fay 12 26) (fay 12 27) (fay 12 28) → JRf (ivy 12 3).toInt (fay 12 7) → JNf (ivy 12 3).toInt (fay 12 4) (fay 12 5) → ((ivy 12 20).toInt = -1 ∧ (ivy 12 21).toInt = -1 ∧ (ivy 12 22).toInt = -1) → ivx 0 7 = ivy 12 1 → (∀ j : Nat, fax 0 1 j = fay 12 51 j) → (∀ j : Nat, (ivx 0 7).toInt ≤ (j : Int) → (fax 0 1 j).toInt = 0) → (∀ j : Nat, (fax 0 5 j).toInt = 2 * (fay 12 52 j).toInt ∧ 0 ≤ (fay 12 52 j).toInt ∧ (fay 12 52 j).toInt ≤ 999) → va_P (dC, dI) classes (WX x gx cax ivx lvx fax lax) H → va_D A (WX x gx cax ivx lvx fax lax) → va_P (dC, dI) classes (WM y gy cay ivy lvy fay lay) H → va_D A (WM y gy cay ivy lvy fay lay) → va_S A s.heap H locs → W p l e room_1 s m #[Value.ref b] below meth c H locs 98 5431 (lw_Z below #[Value.ref b] s) (F0 m 1508 ls [])) : W p l e room_1 s m #[Value.ref b] below meth c H locs 98 5431 (lw_Z below #[Value.ref b] s) (F0 m 518 ls []) := by
  obtain ⟨hx, hb, hr, hml, hown, hts, hX, hbl, hlocks, hgv⟩ := id C0
  have ht := tb_of hts
  have hJV : ∀ j : Nat, 0 ≤ (fay 12 52 j).toInt ∧ (fay 12 52 j).toInt ≤ 999 := fun j => (hsz j).2
  have hJZ : ∀ j : Nat, 0 ≤ (fax 0 5 j).toInt ∧ (fax 0 5 j).toInt ≤ 1998 := fun j => by have h5 := hsz j; omega
  refine lv_aload_n hx hb dL_law_518 rfl (lv_at hl 2 rfl) ?_
  refine lv_aload_n hx hb dL_law_519 rfl (lv_at hl 3 rfl) ?_
  refine lv_iload_n hx hb dL_law_520 rfl (lv_at hl 0 rfl) ?_
  refine lv_iconst (v := 1) hx hb dL_law_521 (by decide) ?_
  refine lv_iadd hx hb dL_law_522 ?_
  refine lv_topi (fun v1 ev1 => ?_)
  have tv1 := z_add ev1 (rfl : (i).toInt = _) (by decide : (1 : Int32).toInt = 1) (by omega) (by omega)
  refine va_sld hx hb hX hbl hbA hS (vp_in_iff.mpr ⟨by omega, by omega⟩ : vp_in v1 L) dL_law_523 ?_
  refine lv_topi (fun v2 ev2 => ?_)
  have hFc := free_all hDx hS hA
  refine va_calli (va_runV (As := [.int v2]) (rest := []) ⟨hx, hb, hml, hown, ht⟩ (c_X11_count l dC dI H.size ak av x gx cax ivx lvx fax lax hIx v2) (kV 1 ht m_587 m_588 m_589 m_77 m_590 rfl rfl hd_X11_count_v ⟨Nat.le_of_ble_eq_true rfl, Nat.le_of_ble_eq_true rfl⟩) (vWZ hPx hKx hDx ((hZ.kept hS.2.1).narrow (free_all hDx hS hA)) (rX_11 hKx hPx)) rfl rfl hl.1 rfl (lv_room (Nat.le_of_ble_eq_true rfl)) dL_law_524 ⟨Nat.le_of_ble_eq_true rfl, Nat.le_of_ble_eq_true rfl⟩) hS (fun q _ h => hFc q h) hFc (fun r3 u t H1 locs ht9 hvm hr3 hB hz1 hk1 hS => ?_)
  obtain ⟨n4, n5, n6, n7, n8, n9, hn4, hn8, hn9, hr3, rfl⟩ := hr3
  obtain ⟨hPx, hDx⟩ := hB
  rw [ht9] at hPx
  have hPy := P_kept hPy (la := AdM y gy) (lb := AdX x gx) wmM wmX (fun a ha b hb => (hXY b hb a ha).symm) hk1
  generalize H1 = H at hPx hPy hS ⊢
  have hPx : va_P (dC, dI) classes (WX x gx cax (u2 (u2 ivx 3 3 n8) 3 4 n9) lvx (u2 (u2 fax 1 6 n4) 30 2 n5) (u2 (u2 lax 30 0 n6) 30 1 n7)) H := hPx
  have hDx : va_D A (WX x gx cax (u2 (u2 ivx 3 3 n8) 3 4 n9) lvx (u2 (u2 fax 1 6 n4) 30 2 n5) (u2 (u2 lax 30 0 n6) 30 1 n7)) := (show va_D _ (WX x gx cax (u2 (u2 ivx 3 3 n8) 3 4 n9) lvx (u2 (u2 fax 1 6 n4) 30 2 n5) (u2 (u2 lax 30 0 n6) 30 1 n7)) from hDx).weaken (fun _ _ _ h => hFc _ h)
  refine lv_pop hx hb dL_law_527 rfl ?_
  refine lv_aload_n hx hb dL_law_528 rfl (lv_at hl 1 rfl) ?_
  refine lv_aload_n hx hb dL_law_529 rfl (lv_at hl 3 rfl) ?_
  refine lv_iload_n hx hb dL_law_530 rfl (lv_at hl 0 rfl) ?_
  refine lv_iconst (v := 1) hx hb dL_law_531 (by decide) ?_
  refine lv_iadd hx hb dL_law_532 ?_
  refine lv_topi (fun v10 ev10 => ?_)
  have tv10 := z_add ev10 (rfl : (i).toInt = _) (by decide : (1 : Int32).toInt = 1) (by omega) (by omega)
  refine va_sld hx hb hX hbl hbA hS (vp_in_iff.mpr ⟨by omega, by omega⟩ : vp_in v10 L) dL_law_533 ?_
  refine lv_topi (fun v11 ev11 => ?_)
  have hFc := free_all hDy hS hA
  refine va_calli (va_runV (As := [.int v11]) (rest := []) ⟨hx, hb, hml, hown, ht⟩ (c_X12_count l dC dI H.size y gy cay ivy lvy fay lay hIy v11 hJC hJR) (kV 1 ht m_1708 m_1709 m_1710 m_89 m_1711 rfl rfl hd_X12_count_v ⟨Nat.le_of_ble_eq_true rfl, Nat.le_of_ble_eq_true rfl⟩) (vW hPy hKy hDy (rM_12 hKy hPy)) rfl rfl hl.1 rfl (lv_room (Nat.le_of_ble_eq_true rfl)) dL_law_534 ⟨Nat.le_of_ble_eq_true rfl, Nat.le_of_ble_eq_true rfl⟩) hS (fun q _ h => hFc q h) hFc (fun r12 u t H1 locs ht9 hvm hr12 hB hz1 hk1 hS => ?_)
  obtain ⟨n13, n14, n15, n16, n17, n18, n19, n20, n21, n22, hn13, hn14, hn18, hr12, rfl⟩ := hr12
  obtain ⟨hPy, hDy⟩ := hB
  rw [ht9] at hPy
  have hPx := P_kept hPx (la := AdX x gx) (lb := AdM y gy) wmX wmM hXY hk1
  generalize H1 = H at hPx hPy hS ⊢
  have hPy : va_P (dC, dI) classes (WM y gy cay (u2 (u2 ivy 12 19 n17) 12 41 n18) (u2 (u2 (u2 (u2 lvy 12 17 n19) 12 18 n20) 12 44 n21) 12 45 n22) (u2 (u2 fay 12 39 n13) 12 40 n14) (u2 (u2 lay 12 42 n15) 12 43 n16)) H := hPy
  have hDy : va_D A (WM y gy cay (u2 (u2 ivy 12 19 n17) 12 41 n18) (u2 (u2 (u2 (u2 lvy 12 17 n19) 12 18 n20) 12 44 n21) 12 45 n22) (u2 (u2 fay 12 39 n13) 12 40 n14) (u2 (u2 lay 12 42 n15) 12 43 n16)) := (show va_D _ (WM y gy cay (u2 (u2 ivy 12 19 n17) 12 41 n18) (u2 (u2 (u2 (u2 lvy 12 17 n19) 12 18 n20) 12 44 n21) 12 45 n22) (u2 (u2 fay 12 39 n13) 12 40 n14) (u2 (u2 lay 12 42 n15) 12 43 n16)) from hDy).weaken (fun _ _ _ h => hFc _ h)
  refine lv_pop hx hb dL_law_537 rfl ?_
  refine lv_goto (tgt := 1508) hx hb dL_law_538 (by decide) ?_
  exact kk _ _ (u2 (u2 ivx 3 3 n8) 3 4 n9) lvx (u2 (u2 fax 1 6 n4) 30 2 n5) (u2 (u2 lax 30 0 n6) 30 1 n7) (u2 (u2 ivy 12 19 n17) 12 41 n18) (u2 (u2 (u2 (u2 lvy 12 17 n19) 12 18 n20) 12 44 n21) 12 45 n22) (u2 (u2 fay 12 39 n13) 12 40 n14) (u2 (u2 lay 12 42 n15) 12 43 n16) (IX_a (c := 30) (k := 2) (IX_a (c := 1) (k := 6) (IX_i (c := 3) (k := 4) (IX_i (c := 3) (k := 3) hIx hn8) hn9) hn4) (fun j => full_i _)) (IX_a (c := 12) (k := 40) (IX_a (c := 12) (k := 39) (IX_i (c := 12) (k := 41) (IX_i (c := 12) (k := 19) hIy (full_i _)) hn18) hn13) hn14) hJC hJR hJN hJO hq_bales ha_thread hz_thread hsz hPx hDx hPy hDy hS
set_option maxHeartbeats 4000000 in
set_option maxRecDepth 100000 in
theorem law_9 {p : Program} {e : Env} {s : State} {m : MethodId} {below : List Frame} {meth : Method} {c : Code} (l : Launch) {b L : Nat} {xs : Nat → Int32} (hL : L ≤ 4096) (C0 : lw_At p s m meth c b L xs) {dC : Nat → ClassId} {dI : Nat → Nat → Nat} {A : Nat → Prop} (hA : ∀ q : Nat, s.heap.size ≤ q → A q) (hbA : ¬ A b) (hAs : ∀ q : Nat, A q → s.heap.size ≤ q) {x y : Nat} {gx gy : Nat → Nat → Nat} {cax cay : Nat → Nat → ClassId} {ak av : Nat → Nat} (hKx : va_K (dC, dI) classes (TX cax) s) (hKy : va_K (dC, dI) classes (TM cay) s) (hXY : ∀ a ∈ AdX x gx, ∀ b ∈ AdM y gy, a ≠ b) (hZ : zC ak av A s s.heap) {H : Heap} {locs : List Loc} {ivx : Nat → Nat → Int32} {lvx : Nat → Nat → Int64} {fax : Nat → Nat → Nat → Int32} {lax : Nat → Nat → Nat → Int64} {ivy : Nat → Nat → Int32} {lvy : Nat → Nat → Int64} {fay : Nat → Nat → Nat → Int32} {lay : Nat → Nat → Nat → Int64} (hIx : IX ivx fax) (hIy : IX ivy fay) (hJC : JCf (ivy 12 23).toInt (fay 12 25) (fay 12 26) (fay 12 27) (fay 12 28)) (hJR : JRf (ivy 12 3).toInt (fay 12 7)) (hJN : JNf (ivy 12 3).toInt (fay 12 4) (fay 12 5)) (hJO : ((ivy 12 20).toInt = -1 ∧ (ivy 12 21).toInt = -1 ∧ (ivy 12 22).toInt = -1)) (hq_bales : ivx 0 7 = ivy 12 1) (ha_thread : (∀ j : Nat, fax 0 1 j = fay 12 51 j)) (hz_thread : (∀ j : Nat, (ivx 0 7).toInt ≤ (j : Int) → (fax 0 1 j).toInt = 0)) (hsz : (∀ j : Nat, (fax 0 5 j).toInt = 2 * (fay 12 52 j).toInt ∧ 0 ≤ (fay 12 52 j).toInt ∧ (fay 12 52 j).toInt ≤ 999)) (hPx : va_P (dC, dI) classes (WX x gx cax ivx lvx fax lax) H) (hDx : va_D A (WX x gx cax ivx lvx fax lax)) (hPy : va_P (dC, dI) classes (WM y gy cay ivy lvy fay lay) H) (hDy : va_D A (WM y gy cay ivy lvy fay lay)) (hS : va_S A s.heap H locs) {i : Int32} {ls : Array Slot} (hl : lv_has ls 4 [(3, .int i), (2, .ref y), (1, .ref x), (0, .ref b)]) (hi : 0 ≤ i.toInt ∧ i.toInt ≤ 4088) (hi8 : i.toInt + 8 ≤ (L : Int)) (kk : ∀ (H : Heap) (locs : List Loc) (ivx : Nat → Nat → Int32) (lvx : Nat → Nat → Int64) (fax : Nat → Nat → Nat → Int32) (lax : Nat → Nat → Nat → Int64) (ivy : Nat → Nat → Int32) (lvy : Nat → Nat → Int64) (fay : Nat → Nat → Nat → Int32) (lay : Nat → Nat → Nat → Int64), IX ivx fax → IX ivy fay → JCf (ivy 12 23).toInt (fay 12 25) (fay 12 26) (fay 12 27) (fay 12 28) → JRf (ivy 12 3).toInt (fay 12 7) → JNf (ivy 12 3).toInt (fay 12 4) (fay 12 5) → ((ivy 12 20).toInt = -1 ∧ (ivy 12 21).toInt = -1 ∧ (ivy 12 22).toInt = -1) → ivx 0 7 = ivy 12 1 → (∀ j : Nat, fax 0 1 j = fay 12 51 j) → (∀ j : Nat, (ivx 0 7).toInt ≤ (j : Int) → (fax 0 1 j).toInt = 0) → (∀ j : Nat, (fax 0 5 j).toInt = 2 * (fay 12 52 j).toInt ∧ 0 ≤ (fay 12 52 j).toInt ∧ (fay 12 52 j).toInt ≤ 999) → va_P (dC, dI) classes (WX x gx cax ivx lvx fax lax) H → va_D A (WX x gx cax ivx lvx fax lax) → va_P (dC, dI) classes (WM y gy cay ivy lvy fay lay) H → va_D A (WM y gy cay ivy lvy fay lay) → va_S A s.heap H locs → W p l e room_1 s m #[Value.ref b] below meth c H locs 98 5431 (lw_Z below #[Value.ref b] s) (F0 m 1508 ls [])) : W p l e room_1 s m #[Value.ref b] below meth c H locs 98 5431 (lw_Z below #[Value.ref b] s) (F0 m 541 ls []) := by
  obtain ⟨hx, hb, hr, hml, hown, hts, hX, hbl, hlocks, hgv⟩ := id C0
  have ht := tb_of hts
  have hJV : ∀ j : Nat, 0 ≤ (fay 12 52 j).toInt ∧ (fay 12 52 j).toInt ≤ 999 := fun j => (hsz j).2
  have hJZ : ∀ j : Nat, 0 ≤ (fax 0 5 j).toInt ∧ (fax 0 5 j).toInt ≤ 1998 := fun j => by have h5 := hsz j; omega
  refine lv_aload_n hx hb dL_law_541 rfl (lv_at hl 2 rfl) ?_
  refine lv_aload_n hx hb dL_law_542 rfl (lv_at hl 3 rfl) ?_
  refine lv_iload_n hx hb dL_law_543 rfl (lv_at hl 0 rfl) ?_
  refine lv_iconst (v := 1) hx hb dL_law_544 (by decide) ?_
  refine lv_iadd hx hb dL_law_545 ?_
  refine lv_topi (fun v1 ev1 => ?_)
  have tv1 := z_add ev1 (rfl : (i).toInt = _) (by decide : (1 : Int32).toInt = 1) (by omega) (by omega)
  refine va_sld hx hb hX hbl hbA hS (vp_in_iff.mpr ⟨by omega, by omega⟩ : vp_in v1 L) dL_law_546 ?_
  refine lv_topi (fun v2 ev2 => ?_)
  refine lv_aload_n hx hb dL_law_547 rfl (lv_at hl 3 rfl) ?_
  refine lv_iload_n hx hb dL_law_548 rfl (lv_at hl 0 rfl) ?_
  refine lv_iconst (v := 2) hx hb dL_law_549 (by decide) ?_
  refine lv_iadd hx hb dL_law_550 ?_
  refine lv_topi (fun v3 ev3 => ?_)
  have tv3 := z_add ev3 (rfl : (i).toInt = _) (by decide : (2 : Int32).toInt = 2) (by omega) (by omega)
  refine va_sld hx hb hX hbl hbA hS (vp_in_iff.mpr ⟨by omega, by omega⟩ : vp_in v3 L) dL_law_551 ?_
  refine lv_topi (fun v4 ev4 => ?_)
  refine lv_i2l (v := (v4.toInt64)) hx hb dL_law_552 rfl ?_
  refine lv_bipush (v := 32) hx hb dL_law_553 (by decide) ?_
  obtain ⟨w5, ew5⟩ : ∃ y : Int64, (v4.toInt64) <<< ((32 : Int32).toInt64 &&& 63) = y := ⟨_, rfl⟩
  refine lv_lshl (v := w5) hx hb dL_law_555 ew5 ?_
  refine lv_aload_n hx hb dL_law_556 rfl (lv_at hl 3 rfl) ?_
  refine lv_iload_n hx hb dL_law_557 rfl (lv_at hl 0 rfl) ?_
  refine lv_iconst (v := 3) hx hb dL_law_558 (by decide) ?_
  refine lv_iadd hx hb dL_law_559 ?_
  refine lv_topi (fun v6 ev6 => ?_)
  have tv6 := z_add ev6 (rfl : (i).toInt = _) (by decide : (3 : Int32).toInt = 3) (by omega) (by omega)
  refine va_sld hx hb hX hbl hbA hS (vp_in_iff.mpr ⟨by omega, by omega⟩ : vp_in v6 L) dL_law_560 ?_
  refine lv_topi (fun v7 ev7 => ?_)
  refine lv_i2l (v := (v7.toInt64)) hx hb dL_law_561 rfl ?_
  refine lv_ldc2 hx hb hown (ht _ m_1716) dL_law_562 ?_
  refine lv_land hx hb dL_law_565 ?_
  refine lv_topl (fun w8 ew8 => ?_)
  refine lv_lor hx hb dL_law_566 ?_
  refine lv_topl (fun w9 ew9 => ?_)
  have hFc := free_all hDx hS hA
  refine va_calli (va_runV (As := [.int v2, .long w9]) (rest := []) ⟨hx, hb, hml, hown, ht⟩ (c_X11_feed l dC dI H.size x gx cax ivx lvx fax lax hIx v2 w9) (kV 2 ht m_668 m_669 m_670 m_77 m_671 rfl rfl hd_X11_feed_v ⟨Nat.le_of_ble_eq_true rfl, Nat.le_of_ble_eq_true rfl⟩) (vW hPx hKx hDx (rX_11 hKx hPx)) rfl rfl hl.1 rfl (lv_room (Nat.le_of_ble_eq_true rfl)) dL_law_567 ⟨Nat.le_of_ble_eq_true rfl, Nat.le_of_ble_eq_true rfl⟩) hS (fun q _ h => hFc q h) hFc (fun r10 u t H1 locs ht9 hvm hr10 hB hz1 hk1 hS => ?_)
  obtain ⟨n11, n12, hn12, hr10, rfl⟩ := hr10
  obtain ⟨hPx, hDx⟩ := hB
  rw [ht9] at hPx
  have hPy := P_kept hPy (la := AdM y gy) (lb := AdX x gx) wmM wmX (fun a ha b hb => (hXY b hb a ha).symm) hk1
  generalize H1 = H at hPx hPy hS ⊢
  have hPx : va_P (dC, dI) classes (WX x gx cax (u2 ivx 8 2 n12) lvx (u2 fax 8 1 n11) lax) H := hPx
  have hDx : va_D A (WX x gx cax (u2 ivx 8 2 n12) lvx (u2 fax 8 1 n11) lax) := (show va_D _ (WX x gx cax (u2 ivx 8 2 n12) lvx (u2 fax 8 1 n11) lax) from hDx).weaken (fun _ _ _ h => hFc _ h)
  refine lv_pop hx hb dL_law_570 rfl ?_
  refine lv_aload_n hx hb dL_law_571 rfl (lv_at hl 1 rfl) ?_
  refine lv_aload_n hx hb dL_law_572 rfl (lv_at hl 3 rfl) ?_
  refine lv_iload_n hx hb dL_law_573 rfl (lv_at hl 0 rfl) ?_
  refine lv_iconst (v := 1) hx hb dL_law_574 (by decide) ?_
  refine lv_iadd hx hb dL_law_575 ?_
  refine lv_topi (fun v13 ev13 => ?_)
  have tv13 := z_add ev13 (rfl : (i).toInt = _) (by decide : (1 : Int32).toInt = 1) (by omega) (by omega)
  refine va_sld hx hb hX hbl hbA hS (vp_in_iff.mpr ⟨by omega, by omega⟩ : vp_in v13 L) dL_law_576 ?_
  refine lv_topi (fun v14 ev14 => ?_)
  refine lv_aload_n hx hb dL_law_577 rfl (lv_at hl 3 rfl) ?_
  refine lv_iload_n hx hb dL_law_578 rfl (lv_at hl 0 rfl) ?_
  refine lv_iconst (v := 2) hx hb dL_law_579 (by decide) ?_
  refine lv_iadd hx hb dL_law_580 ?_
  refine lv_topi (fun v15 ev15 => ?_)
  have tv15 := z_add ev15 (rfl : (i).toInt = _) (by decide : (2 : Int32).toInt = 2) (by omega) (by omega)
  refine va_sld hx hb hX hbl hbA hS (vp_in_iff.mpr ⟨by omega, by omega⟩ : vp_in v15 L) dL_law_581 ?_
  refine lv_topi (fun v16 ev16 => ?_)
  refine lv_i2l (v := (v16.toInt64)) hx hb dL_law_582 rfl ?_
  refine lv_bipush (v := 32) hx hb dL_law_583 (by decide) ?_
  obtain ⟨w17, ew17⟩ : ∃ y : Int64, (v16.toInt64) <<< ((32 : Int32).toInt64 &&& 63) = y := ⟨_, rfl⟩
  refine lv_lshl (v := w17) hx hb dL_law_585 ew17 ?_
  refine lv_aload_n hx hb dL_law_586 rfl (lv_at hl 3 rfl) ?_
  refine lv_iload_n hx hb dL_law_587 rfl (lv_at hl 0 rfl) ?_
  refine lv_iconst (v := 3) hx hb dL_law_588 (by decide) ?_
  refine lv_iadd hx hb dL_law_589 ?_
  refine lv_topi (fun v18 ev18 => ?_)
  have tv18 := z_add ev18 (rfl : (i).toInt = _) (by decide : (3 : Int32).toInt = 3) (by omega) (by omega)
  refine va_sld hx hb hX hbl hbA hS (vp_in_iff.mpr ⟨by omega, by omega⟩ : vp_in v18 L) dL_law_590 ?_
  refine lv_topi (fun v19 ev19 => ?_)
  refine lv_i2l (v := (v19.toInt64)) hx hb dL_law_591 rfl ?_
  refine lv_ldc2 hx hb hown (ht _ m_1716) dL_law_592 ?_
  refine lv_land hx hb dL_law_595 ?_
  refine lv_topl (fun w20 ew20 => ?_)
  refine lv_lor hx hb dL_law_596 ?_
  refine lv_topl (fun w21 ew21 => ?_)
  have hFc := free_all hDy hS hA
  refine va_calli (va_runV (As := [.int v14, .long w21]) (rest := []) ⟨hx, hb, hml, hown, ht⟩ (c_X12_feed l dC dI H.size y gy cay ivy lvy fay lay hIy v14 w21) (kV 2 ht m_1448 m_1449 m_1450 m_89 m_1451 rfl rfl hd_X12_feed_v ⟨Nat.le_of_ble_eq_true rfl, Nat.le_of_ble_eq_true rfl⟩) (vW hPy hKy hDy (rM_12 hKy hPy)) rfl rfl hl.1 rfl (lv_room (Nat.le_of_ble_eq_true rfl)) dL_law_597 ⟨Nat.le_of_ble_eq_true rfl, Nat.le_of_ble_eq_true rfl⟩) hS (fun q _ h => hFc q h) hFc (fun r22 u t H1 locs ht9 hvm hr22 hB hz1 hk1 hS => ?_)
  obtain ⟨n23, n24, hn24, hr22, rfl⟩ := hr22
  obtain ⟨hPy, hDy⟩ := hB
  rw [ht9] at hPy
  have hPx := P_kept hPx (la := AdX x gx) (lb := AdM y gy) wmX wmM hXY hk1
  generalize H1 = H at hPx hPy hS ⊢
  have hPy : va_P (dC, dI) classes (WM y gy cay (u2 ivy 12 33 n24) lvy (u2 fay 12 32 n23) lay) H := hPy
  have hDy : va_D A (WM y gy cay (u2 ivy 12 33 n24) lvy (u2 fay 12 32 n23) lay) := (show va_D _ (WM y gy cay (u2 ivy 12 33 n24) lvy (u2 fay 12 32 n23) lay) from hDy).weaken (fun _ _ _ h => hFc _ h)
  refine lv_pop hx hb dL_law_600 rfl ?_
  refine lv_goto (tgt := 1508) hx hb dL_law_601 (by decide) ?_
  exact kk _ _ (u2 ivx 8 2 n12) lvx (u2 fax 8 1 n11) lax (u2 ivy 12 33 n24) lvy (u2 fay 12 32 n23) lay (IX_a (c := 8) (k := 1) (IX_i (c := 8) (k := 2) hIx hn12) (fun j => full_i _)) (IX_a (c := 12) (k := 32) (IX_i (c := 12) (k := 33) hIy hn24) (fun j => full_i _)) hJC hJR hJN hJO hq_bales ha_thread hz_thread hsz hPx hDx hPy hDy hS
