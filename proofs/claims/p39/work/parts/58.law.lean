/-! ===== law ===== -/
theorem m_522 : Cond.methodLink RL 36 yX11_test ∈ tb := mb_2_5 _ (List.mem_of_getElem? (i := 7) rfl)
theorem m_523 : Cond.instanceMethod yX11_test ∈ tb := mb_2_5 _ (List.mem_of_getElem? (i := 8) rfl)
theorem m_524 : Cond.selects RX11 yX11_test yX11_test ∈ tb := mb_2_5 _ (List.mem_of_getElem? (i := 9) rfl)
theorem m_525 : Cond.code yX11_test cX11_test 4 (some .int) ∈ tb := mb_2_5 _ (List.mem_of_getElem? (i := 10) rfl)
theorem m_530 : Cond.methodLink RL 41 yX11_error ∈ tb := mb_2_5 _ (List.mem_of_getElem? (i := 15) rfl)
theorem m_531 : Cond.instanceMethod yX11_error ∈ tb := mb_2_5 _ (List.mem_of_getElem? (i := 16) rfl)
theorem m_532 : Cond.selects RX11 yX11_error yX11_error ∈ tb := mb_2_5 _ (List.mem_of_getElem? (i := 17) rfl)
theorem m_533 : Cond.code yX11_error cX11_error 4 (some .int) ∈ tb := mb_2_5 _ (List.mem_of_getElem? (i := 18) rfl)
theorem m_560 : Cond.methodLink RL 45 yX11_ratio ∈ tb := mb_3_0 _ (List.mem_of_getElem? (i := 4) rfl)
theorem m_561 : Cond.instanceMethod yX11_ratio ∈ tb := mb_3_0 _ (List.mem_of_getElem? (i := 5) rfl)
theorem m_562 : Cond.selects RX11 yX11_ratio yX11_ratio ∈ tb := mb_3_0 _ (List.mem_of_getElem? (i := 6) rfl)
theorem m_563 : Cond.code yX11_ratio cX11_ratio 4 (some .int) ∈ tb := mb_3_0 _ (List.mem_of_getElem? (i := 7) rfl)
theorem m_587 : Cond.methodLink RL 49 yX11_count ∈ tb := mb_3_1 _ (List.mem_of_getElem? (i := 7) rfl)
theorem m_588 : Cond.instanceMethod yX11_count ∈ tb := mb_3_1 _ (List.mem_of_getElem? (i := 8) rfl)
theorem m_589 : Cond.selects RX11 yX11_count yX11_count ∈ tb := mb_3_1 _ (List.mem_of_getElem? (i := 9) rfl)
theorem m_590 : Cond.code yX11_count cX11_count 2 (some .int) ∈ tb := mb_3_1 _ (List.mem_of_getElem? (i := 10) rfl)
theorem m_668 : Cond.methodLink RL 55 yX11_feed ∈ tb := mb_3_4 _ (List.mem_of_getElem? (i := 3) rfl)
theorem m_669 : Cond.instanceMethod yX11_feed ∈ tb := mb_3_4 _ (List.mem_of_getElem? (i := 4) rfl)
theorem m_670 : Cond.selects RX11 yX11_feed yX11_feed ∈ tb := mb_3_4 _ (List.mem_of_getElem? (i := 5) rfl)
theorem m_671 : Cond.code yX11_feed cX11_feed 4 (some .int) ∈ tb := mb_3_4 _ (List.mem_of_getElem? (i := 6) rfl)
theorem m_1411 : Cond.methodLink RL 40 yX12_test ∈ tb := mb_6_1 _ (List.mem_of_getElem? (i := 20) rfl)
theorem m_1412 : Cond.instanceMethod yX12_test ∈ tb := mb_6_1 _ (List.mem_of_getElem? (i := 21) rfl)
theorem m_1413 : Cond.selects RX12 yX12_test yX12_test ∈ tb := mb_6_1 _ (List.mem_of_getElem? (i := 22) rfl)
theorem m_1414 : Cond.code yX12_test cX12_test 4 (some .int) ∈ tb := mb_6_1 _ (List.mem_of_getElem? (i := 23) rfl)
theorem m_1418 : Cond.methodLink RL 44 yX12_error ∈ tb := mb_6_2 _ (List.mem_of_getElem? (i := 3) rfl)
theorem m_1419 : Cond.instanceMethod yX12_error ∈ tb := mb_6_2 _ (List.mem_of_getElem? (i := 4) rfl)
theorem m_1420 : Cond.selects RX12 yX12_error yX12_error ∈ tb := mb_6_2 _ (List.mem_of_getElem? (i := 5) rfl)
theorem m_1421 : Cond.code yX12_error cX12_error 4 (some .int) ∈ tb := mb_6_2 _ (List.mem_of_getElem? (i := 6) rfl)
theorem m_1430 : Cond.methodLink RL 48 yX12_ratio ∈ tb := mb_6_2 _ (List.mem_of_getElem? (i := 14) rfl)
theorem m_1431 : Cond.instanceMethod yX12_ratio ∈ tb := mb_6_2 _ (List.mem_of_getElem? (i := 15) rfl)
theorem m_1432 : Cond.selects RX12 yX12_ratio yX12_ratio ∈ tb := mb_6_2 _ (List.mem_of_getElem? (i := 16) rfl)
theorem m_1433 : Cond.code yX12_ratio cX12_ratio 7 (some .int) ∈ tb := mb_6_2 _ (List.mem_of_getElem? (i := 17) rfl)
theorem m_1448 : Cond.methodLink RL 59 yX12_feed ∈ tb := mb_6_3 _ (List.mem_of_getElem? (i := 6) rfl)
theorem m_1449 : Cond.instanceMethod yX12_feed ∈ tb := mb_6_3 _ (List.mem_of_getElem? (i := 7) rfl)
theorem m_1450 : Cond.selects RX12 yX12_feed yX12_feed ∈ tb := mb_6_3 _ (List.mem_of_getElem? (i := 8) rfl)
theorem m_1451 : Cond.code yX12_feed cX12_feed 5 (some .int) ∈ tb := mb_6_3 _ (List.mem_of_getElem? (i := 9) rfl)
theorem m_1708 : Cond.methodLink RL 52 yX12_count ∈ tb := mb_7_7 _ (List.mem_of_getElem? (i := 6) rfl)
theorem m_1709 : Cond.instanceMethod yX12_count ∈ tb := mb_7_7 _ (List.mem_of_getElem? (i := 7) rfl)
theorem m_1710 : Cond.selects RX12 yX12_count yX12_count ∈ tb := mb_7_7 _ (List.mem_of_getElem? (i := 8) rfl)
theorem m_1711 : Cond.code yX12_count cX12_count 5 (some .int) ∈ tb := mb_7_7 _ (List.mem_of_getElem? (i := 9) rfl)
theorem m_1716 : Cond.constantLong RL 53 (4294967295) ∈ tb := mb_7_7 _ (List.mem_of_getElem? (i := 13) rfl)
theorem hd_X11_count_v : yX11_count.cls = RX11 ∧ yX11_count.cls ≠ "java/lang/invoke/MethodHandle" ∧ yX11_count.cls ≠ "java/lang/invoke/VarHandle" ∧ (parseMethodDescriptor yX11_count.desc).map (fun d => d.parameters.length) = some 1 := by decide +kernel
theorem hd_X11_error_v : yX11_error.cls = RX11 ∧ yX11_error.cls ≠ "java/lang/invoke/MethodHandle" ∧ yX11_error.cls ≠ "java/lang/invoke/VarHandle" ∧ (parseMethodDescriptor yX11_error.desc).map (fun d => d.parameters.length) = some 3 := by decide +kernel
theorem hd_X11_feed_v : yX11_feed.cls = RX11 ∧ yX11_feed.cls ≠ "java/lang/invoke/MethodHandle" ∧ yX11_feed.cls ≠ "java/lang/invoke/VarHandle" ∧ (parseMethodDescriptor yX11_feed.desc).map (fun d => d.parameters.length) = some 2 := by decide +kernel
theorem hd_X11_ratio_v : yX11_ratio.cls = RX11 ∧ yX11_ratio.cls ≠ "java/lang/invoke/MethodHandle" ∧ yX11_ratio.cls ≠ "java/lang/invoke/VarHandle" ∧ (parseMethodDescriptor yX11_ratio.desc).map (fun d => d.parameters.length) = some 3 := by decide +kernel
theorem hd_X11_test_v : yX11_test.cls = RX11 ∧ yX11_test.cls ≠ "java/lang/invoke/MethodHandle" ∧ yX11_test.cls ≠ "java/lang/invoke/VarHandle" ∧ (parseMethodDescriptor yX11_test.desc).map (fun d => d.parameters.length) = some 3 := by decide +kernel
theorem hd_X12_count_v : yX12_count.cls = RX12 ∧ yX12_count.cls ≠ "java/lang/invoke/MethodHandle" ∧ yX12_count.cls ≠ "java/lang/invoke/VarHandle" ∧ (parseMethodDescriptor yX12_count.desc).map (fun d => d.parameters.length) = some 1 := by decide +kernel
theorem hd_X12_error_v : yX12_error.cls = RX12 ∧ yX12_error.cls ≠ "java/lang/invoke/MethodHandle" ∧ yX12_error.cls ≠ "java/lang/invoke/VarHandle" ∧ (parseMethodDescriptor yX12_error.desc).map (fun d => d.parameters.length) = some 3 := by decide +kernel
theorem hd_X12_feed_v : yX12_feed.cls = RX12 ∧ yX12_feed.cls ≠ "java/lang/invoke/MethodHandle" ∧ yX12_feed.cls ≠ "java/lang/invoke/VarHandle" ∧ (parseMethodDescriptor yX12_feed.desc).map (fun d => d.parameters.length) = some 2 := by decide +kernel
theorem hd_X12_ratio_v : yX12_ratio.cls = RX12 ∧ yX12_ratio.cls ≠ "java/lang/invoke/MethodHandle" ∧ yX12_ratio.cls ≠ "java/lang/invoke/VarHandle" ∧ (parseMethodDescriptor yX12_ratio.desc).map (fun d => d.parameters.length) = some 3 := by decide +kernel
theorem hd_X12_test_v : yX12_test.cls = RX12 ∧ yX12_test.cls ≠ "java/lang/invoke/MethodHandle" ∧ yX12_test.cls ≠ "java/lang/invoke/VarHandle" ∧ (parseMethodDescriptor yX12_test.desc).map (fun d => d.parameters.length) = some 3 := by decide +kernel
theorem dL_law_389 : decode cL_law 389 = .ok (.aload_n 1, 1) := dk_43 (w_at wL_16 5 (p := 389) rfl rfl rfl)
theorem dL_law_390 : decode cL_law 390 = .ok (.aload_n 0, 1) := dk_42 (w_at wL_16 6 (p := 390) rfl rfl rfl)
theorem dL_law_391 : decode cL_law 391 = .ok (.iload_n 3, 1) := dk_29 (w_at wL_16 7 (p := 391) rfl rfl rfl)
theorem dL_law_392 : decode cL_law 392 = .ok (.iconst 1, 1) := dk_4 (w_at wL_16 8 (p := 392) rfl rfl rfl)
theorem dL_law_393 : decode cL_law 393 = .ok (.iadd, 1) := dk_96 (w_at wL_16 9 (p := 393) rfl rfl rfl)
theorem dL_law_394 : decode cL_law 394 = .ok (.iaload, 1) := dk_46 (w_at wL_16 10 (p := 394) rfl rfl rfl)
theorem dL_law_395 : decode cL_law 395 = .ok (.aload_n 0, 1) := dk_42 (w_at wL_16 11 (p := 395) rfl rfl rfl)
theorem dL_law_396 : decode cL_law 396 = .ok (.iload_n 3, 1) := dk_29 (w_at wL_16 12 (p := 396) rfl rfl rfl)
theorem dL_law_397 : decode cL_law 397 = .ok (.iconst 2, 1) := dk_5 (w_at wL_16 13 (p := 397) rfl rfl rfl)
theorem dL_law_398 : decode cL_law 398 = .ok (.iadd, 1) := dk_96 (w_at wL_16 14 (p := 398) rfl rfl rfl)
theorem dL_law_399 : decode cL_law 399 = .ok (.iaload, 1) := dk_46 (w_at wL_16 15 (p := 399) rfl rfl rfl)
theorem dL_law_400 : decode cL_law 400 = .ok (.aload_n 0, 1) := dk_42 (w_at wL_16 16 (p := 400) rfl rfl rfl)
theorem dL_law_401 : decode cL_law 401 = .ok (.iload_n 3, 1) := dk_29 (w_at wL_16 17 (p := 401) rfl rfl rfl)
theorem dL_law_402 : decode cL_law 402 = .ok (.iconst 3, 1) := dk_6 (w_at wL_16 18 (p := 402) rfl rfl rfl)
theorem dL_law_403 : decode cL_law 403 = .ok (.iadd, 1) := dk_96 (w_at wL_16 19 (p := 403) rfl rfl rfl)
theorem dL_law_404 : decode cL_law 404 = .ok (.iaload, 1) := dk_46 (w_at wL_16 20 (p := 404) rfl rfl rfl)
theorem dL_law_405 : decode cL_law 405 = .ok (.invokevirtual 36, 3) := dk_iv (w_at wL_16 21 (p := 405) rfl rfl rfl) (w_at wL_16 22 (p := 406) rfl rfl rfl) (w_at wL_16 23 (p := 407) rfl rfl rfl) rfl
set_option maxRecDepth 100000 in
theorem wL_17 : Win cL_law 408 [87, 44, 42, 29, 4, 96, 46, 42, 29, 5, 96, 46, 42, 29, 6, 96, 46, 182, 0, 40, 87, 167, 4, 56, 43, 42, 29, 4] := Win_sub (o := 240) (o2 := 168) (n := 28) WL_1 (by decide +kernel)
theorem dL_law_408 : decode cL_law 408 = .ok (.pop, 1) := dk_87 (w_at wL_17 0 (p := 408) rfl rfl rfl)
theorem dL_law_409 : decode cL_law 409 = .ok (.aload_n 2, 1) := dk_44 (w_at wL_17 1 (p := 409) rfl rfl rfl)
theorem dL_law_410 : decode cL_law 410 = .ok (.aload_n 0, 1) := dk_42 (w_at wL_17 2 (p := 410) rfl rfl rfl)
theorem dL_law_411 : decode cL_law 411 = .ok (.iload_n 3, 1) := dk_29 (w_at wL_17 3 (p := 411) rfl rfl rfl)
theorem dL_law_412 : decode cL_law 412 = .ok (.iconst 1, 1) := dk_4 (w_at wL_17 4 (p := 412) rfl rfl rfl)
theorem dL_law_413 : decode cL_law 413 = .ok (.iadd, 1) := dk_96 (w_at wL_17 5 (p := 413) rfl rfl rfl)
theorem dL_law_414 : decode cL_law 414 = .ok (.iaload, 1) := dk_46 (w_at wL_17 6 (p := 414) rfl rfl rfl)
theorem dL_law_415 : decode cL_law 415 = .ok (.aload_n 0, 1) := dk_42 (w_at wL_17 7 (p := 415) rfl rfl rfl)
theorem dL_law_416 : decode cL_law 416 = .ok (.iload_n 3, 1) := dk_29 (w_at wL_17 8 (p := 416) rfl rfl rfl)
theorem dL_law_417 : decode cL_law 417 = .ok (.iconst 2, 1) := dk_5 (w_at wL_17 9 (p := 417) rfl rfl rfl)
theorem dL_law_418 : decode cL_law 418 = .ok (.iadd, 1) := dk_96 (w_at wL_17 10 (p := 418) rfl rfl rfl)
theorem dL_law_419 : decode cL_law 419 = .ok (.iaload, 1) := dk_46 (w_at wL_17 11 (p := 419) rfl rfl rfl)
theorem dL_law_420 : decode cL_law 420 = .ok (.aload_n 0, 1) := dk_42 (w_at wL_17 12 (p := 420) rfl rfl rfl)
theorem dL_law_421 : decode cL_law 421 = .ok (.iload_n 3, 1) := dk_29 (w_at wL_17 13 (p := 421) rfl rfl rfl)
theorem dL_law_422 : decode cL_law 422 = .ok (.iconst 3, 1) := dk_6 (w_at wL_17 14 (p := 422) rfl rfl rfl)
theorem dL_law_423 : decode cL_law 423 = .ok (.iadd, 1) := dk_96 (w_at wL_17 15 (p := 423) rfl rfl rfl)
theorem dL_law_424 : decode cL_law 424 = .ok (.iaload, 1) := dk_46 (w_at wL_17 16 (p := 424) rfl rfl rfl)
theorem dL_law_425 : decode cL_law 425 = .ok (.invokevirtual 40, 3) := dk_iv (w_at wL_17 17 (p := 425) rfl rfl rfl) (w_at wL_17 18 (p := 426) rfl rfl rfl) (w_at wL_17 19 (p := 427) rfl rfl rfl) rfl
theorem dL_law_428 : decode cL_law 428 = .ok (.pop, 1) := dk_87 (w_at wL_17 20 (p := 428) rfl rfl rfl)
set_option maxRecDepth 100000 in
theorem wL_18 : Win cL_law 432 [43, 42, 29, 4, 96, 46, 42, 29, 5, 96, 46, 42, 29, 6, 96, 46, 182, 0, 41, 87, 44, 42, 29, 4, 96, 46, 42, 29] := Win_sub (o := 240) (o2 := 192) (n := 28) WL_1 (by decide +kernel)
theorem dL_law_432 : decode cL_law 432 = .ok (.aload_n 1, 1) := dk_43 (w_at wL_18 0 (p := 432) rfl rfl rfl)
theorem dL_law_433 : decode cL_law 433 = .ok (.aload_n 0, 1) := dk_42 (w_at wL_18 1 (p := 433) rfl rfl rfl)
theorem dL_law_434 : decode cL_law 434 = .ok (.iload_n 3, 1) := dk_29 (w_at wL_18 2 (p := 434) rfl rfl rfl)
theorem dL_law_435 : decode cL_law 435 = .ok (.iconst 1, 1) := dk_4 (w_at wL_18 3 (p := 435) rfl rfl rfl)
theorem dL_law_436 : decode cL_law 436 = .ok (.iadd, 1) := dk_96 (w_at wL_18 4 (p := 436) rfl rfl rfl)
theorem dL_law_437 : decode cL_law 437 = .ok (.iaload, 1) := dk_46 (w_at wL_18 5 (p := 437) rfl rfl rfl)
theorem dL_law_438 : decode cL_law 438 = .ok (.aload_n 0, 1) := dk_42 (w_at wL_18 6 (p := 438) rfl rfl rfl)
theorem dL_law_439 : decode cL_law 439 = .ok (.iload_n 3, 1) := dk_29 (w_at wL_18 7 (p := 439) rfl rfl rfl)
theorem dL_law_440 : decode cL_law 440 = .ok (.iconst 2, 1) := dk_5 (w_at wL_18 8 (p := 440) rfl rfl rfl)
theorem dL_law_441 : decode cL_law 441 = .ok (.iadd, 1) := dk_96 (w_at wL_18 9 (p := 441) rfl rfl rfl)
theorem dL_law_442 : decode cL_law 442 = .ok (.iaload, 1) := dk_46 (w_at wL_18 10 (p := 442) rfl rfl rfl)
theorem dL_law_443 : decode cL_law 443 = .ok (.aload_n 0, 1) := dk_42 (w_at wL_18 11 (p := 443) rfl rfl rfl)
theorem dL_law_444 : decode cL_law 444 = .ok (.iload_n 3, 1) := dk_29 (w_at wL_18 12 (p := 444) rfl rfl rfl)
theorem dL_law_445 : decode cL_law 445 = .ok (.iconst 3, 1) := dk_6 (w_at wL_18 13 (p := 445) rfl rfl rfl)
theorem dL_law_446 : decode cL_law 446 = .ok (.iadd, 1) := dk_96 (w_at wL_18 14 (p := 446) rfl rfl rfl)
theorem dL_law_447 : decode cL_law 447 = .ok (.iaload, 1) := dk_46 (w_at wL_18 15 (p := 447) rfl rfl rfl)
theorem dL_law_448 : decode cL_law 448 = .ok (.invokevirtual 41, 3) := dk_iv (w_at wL_18 16 (p := 448) rfl rfl rfl) (w_at wL_18 17 (p := 449) rfl rfl rfl) (w_at wL_18 18 (p := 450) rfl rfl rfl) rfl
theorem dL_law_451 : decode cL_law 451 = .ok (.pop, 1) := dk_87 (w_at wL_18 19 (p := 451) rfl rfl rfl)
theorem dL_law_452 : decode cL_law 452 = .ok (.aload_n 2, 1) := dk_44 (w_at wL_18 20 (p := 452) rfl rfl rfl)
theorem dL_law_453 : decode cL_law 453 = .ok (.aload_n 0, 1) := dk_42 (w_at wL_18 21 (p := 453) rfl rfl rfl)
theorem dL_law_454 : decode cL_law 454 = .ok (.iload_n 3, 1) := dk_29 (w_at wL_18 22 (p := 454) rfl rfl rfl)
theorem dL_law_455 : decode cL_law 455 = .ok (.iconst 1, 1) := dk_4 (w_at wL_18 23 (p := 455) rfl rfl rfl)
set_option maxRecDepth 100000 in
theorem wL_19 : Win cL_law 456 [96, 46, 42, 29, 5, 96, 46, 42, 29, 6, 96, 46, 182, 0, 44, 87, 167, 4, 13, 43, 42, 29, 4, 96, 46, 42, 29, 5] := Win_sub (o := 240) (o2 := 216) (n := 28) WL_1 (by decide +kernel)
theorem dL_law_456 : decode cL_law 456 = .ok (.iadd, 1) := dk_96 (w_at wL_19 0 (p := 456) rfl rfl rfl)
theorem dL_law_457 : decode cL_law 457 = .ok (.iaload, 1) := dk_46 (w_at wL_19 1 (p := 457) rfl rfl rfl)
theorem dL_law_458 : decode cL_law 458 = .ok (.aload_n 0, 1) := dk_42 (w_at wL_19 2 (p := 458) rfl rfl rfl)
theorem dL_law_459 : decode cL_law 459 = .ok (.iload_n 3, 1) := dk_29 (w_at wL_19 3 (p := 459) rfl rfl rfl)
theorem dL_law_460 : decode cL_law 460 = .ok (.iconst 2, 1) := dk_5 (w_at wL_19 4 (p := 460) rfl rfl rfl)
theorem dL_law_461 : decode cL_law 461 = .ok (.iadd, 1) := dk_96 (w_at wL_19 5 (p := 461) rfl rfl rfl)
theorem dL_law_462 : decode cL_law 462 = .ok (.iaload, 1) := dk_46 (w_at wL_19 6 (p := 462) rfl rfl rfl)
theorem dL_law_463 : decode cL_law 463 = .ok (.aload_n 0, 1) := dk_42 (w_at wL_19 7 (p := 463) rfl rfl rfl)
theorem dL_law_464 : decode cL_law 464 = .ok (.iload_n 3, 1) := dk_29 (w_at wL_19 8 (p := 464) rfl rfl rfl)
theorem dL_law_465 : decode cL_law 465 = .ok (.iconst 3, 1) := dk_6 (w_at wL_19 9 (p := 465) rfl rfl rfl)
theorem dL_law_466 : decode cL_law 466 = .ok (.iadd, 1) := dk_96 (w_at wL_19 10 (p := 466) rfl rfl rfl)
theorem dL_law_467 : decode cL_law 467 = .ok (.iaload, 1) := dk_46 (w_at wL_19 11 (p := 467) rfl rfl rfl)
theorem dL_law_468 : decode cL_law 468 = .ok (.invokevirtual 44, 3) := dk_iv (w_at wL_19 12 (p := 468) rfl rfl rfl) (w_at wL_19 13 (p := 469) rfl rfl rfl) (w_at wL_19 14 (p := 470) rfl rfl rfl) rfl
theorem dL_law_471 : decode cL_law 471 = .ok (.pop, 1) := dk_87 (w_at wL_19 15 (p := 471) rfl rfl rfl)
theorem dL_law_475 : decode cL_law 475 = .ok (.aload_n 1, 1) := dk_43 (w_at wL_19 19 (p := 475) rfl rfl rfl)
theorem dL_law_476 : decode cL_law 476 = .ok (.aload_n 0, 1) := dk_42 (w_at wL_19 20 (p := 476) rfl rfl rfl)
theorem dL_law_477 : decode cL_law 477 = .ok (.iload_n 3, 1) := dk_29 (w_at wL_19 21 (p := 477) rfl rfl rfl)
theorem dL_law_478 : decode cL_law 478 = .ok (.iconst 1, 1) := dk_4 (w_at wL_19 22 (p := 478) rfl rfl rfl)
theorem dL_law_479 : decode cL_law 479 = .ok (.iadd, 1) := dk_96 (w_at wL_19 23 (p := 479) rfl rfl rfl)
def bL_2 : List UInt8 := [46, 42, 29, 5, 96, 46, 42, 29, 6, 96, 46, 182, 0, 45, 87, 44, 42, 29, 4, 96, 46, 42, 29, 5, 96, 46, 42, 29, 6, 96, 46, 182, 0, 48, 87, 167, 3, 226, 43, 42, 29, 4, 96, 46, 182, 0, 49, 87, 44, 42, 29, 4, 96, 46, 182, 0, 52, 87, 167, 3, 203, 43, 42, 29, 4, 96, 46, 42, 29, 5, 96, 46, 133, 16, 32, 121, 42, 29, 6, 96, 46, 133, 20, 0, 53, 127, 129, 182, 0, 55, 87, 44, 42, 29, 4, 96, 46, 42, 29, 5, 96, 46, 133, 16, 32, 121, 42, 29, 6, 96, 46, 133, 20, 0, 53, 127, 129, 182, 0, 59, 87, 167, 3, 140, 43, 42, 29, 4, 96, 46, 182, 0, 60, 87, 44, 42, 29, 4, 96, 46, 182, 0, 63, 87, 167, 3, 117, 43, 182, 0, 64, 87, 44, 182, 0, 68, 87, 167, 3, 104, 43, 42, 29, 4, 96, 46, 42, 29, 5, 96, 46, 182, 0, 69, 87, 44, 42, 29, 4, 96, 46, 42, 29, 5, 96, 46, 182, 0, 72, 87, 167, 3, 71, 43, 42, 29, 4, 96, 46, 42, 29, 5, 96, 46, 182, 0, 73, 87, 44, 42, 29, 4, 96, 46, 42, 29, 5, 96, 46, 182, 0, 76, 87, 167, 3, 38, 43, 42, 29, 4, 96, 46, 42, 29, 5, 96, 46, 182, 0, 77, 87, 44, 42, 29, 4, 96, 46, 42, 29, 5, 96, 46, 182, 0, 80, 87, 167, 3, 5, 43, 42, 29, 4, 96, 46, 42, 29, 5]
set_option maxRecDepth 100000 in
theorem WL_2 : Win cL_law 480 bL_2 := Win_of (n := 268) (by decide +kernel)
set_option maxRecDepth 100000 in
theorem wL_20 : Win cL_law 480 [46, 42, 29, 5, 96, 46, 42, 29, 6, 96, 46, 182, 0, 45, 87, 44, 42, 29, 4, 96, 46, 42, 29, 5, 96, 46, 42, 29] := Win_sub (o := 480) (o2 := 0) (n := 28) WL_2 (by decide +kernel)
theorem dL_law_480 : decode cL_law 480 = .ok (.iaload, 1) := dk_46 (w_at wL_20 0 (p := 480) rfl rfl rfl)
theorem dL_law_481 : decode cL_law 481 = .ok (.aload_n 0, 1) := dk_42 (w_at wL_20 1 (p := 481) rfl rfl rfl)
theorem dL_law_482 : decode cL_law 482 = .ok (.iload_n 3, 1) := dk_29 (w_at wL_20 2 (p := 482) rfl rfl rfl)
theorem dL_law_483 : decode cL_law 483 = .ok (.iconst 2, 1) := dk_5 (w_at wL_20 3 (p := 483) rfl rfl rfl)
theorem dL_law_484 : decode cL_law 484 = .ok (.iadd, 1) := dk_96 (w_at wL_20 4 (p := 484) rfl rfl rfl)
theorem dL_law_485 : decode cL_law 485 = .ok (.iaload, 1) := dk_46 (w_at wL_20 5 (p := 485) rfl rfl rfl)
theorem dL_law_486 : decode cL_law 486 = .ok (.aload_n 0, 1) := dk_42 (w_at wL_20 6 (p := 486) rfl rfl rfl)
theorem dL_law_487 : decode cL_law 487 = .ok (.iload_n 3, 1) := dk_29 (w_at wL_20 7 (p := 487) rfl rfl rfl)
theorem dL_law_488 : decode cL_law 488 = .ok (.iconst 3, 1) := dk_6 (w_at wL_20 8 (p := 488) rfl rfl rfl)
theorem dL_law_489 : decode cL_law 489 = .ok (.iadd, 1) := dk_96 (w_at wL_20 9 (p := 489) rfl rfl rfl)
theorem dL_law_490 : decode cL_law 490 = .ok (.iaload, 1) := dk_46 (w_at wL_20 10 (p := 490) rfl rfl rfl)
theorem dL_law_491 : decode cL_law 491 = .ok (.invokevirtual 45, 3) := dk_iv (w_at wL_20 11 (p := 491) rfl rfl rfl) (w_at wL_20 12 (p := 492) rfl rfl rfl) (w_at wL_20 13 (p := 493) rfl rfl rfl) rfl
theorem dL_law_494 : decode cL_law 494 = .ok (.pop, 1) := dk_87 (w_at wL_20 14 (p := 494) rfl rfl rfl)
theorem dL_law_495 : decode cL_law 495 = .ok (.aload_n 2, 1) := dk_44 (w_at wL_20 15 (p := 495) rfl rfl rfl)
theorem dL_law_496 : decode cL_law 496 = .ok (.aload_n 0, 1) := dk_42 (w_at wL_20 16 (p := 496) rfl rfl rfl)
theorem dL_law_497 : decode cL_law 497 = .ok (.iload_n 3, 1) := dk_29 (w_at wL_20 17 (p := 497) rfl rfl rfl)
theorem dL_law_498 : decode cL_law 498 = .ok (.iconst 1, 1) := dk_4 (w_at wL_20 18 (p := 498) rfl rfl rfl)
theorem dL_law_499 : decode cL_law 499 = .ok (.iadd, 1) := dk_96 (w_at wL_20 19 (p := 499) rfl rfl rfl)
theorem dL_law_500 : decode cL_law 500 = .ok (.iaload, 1) := dk_46 (w_at wL_20 20 (p := 500) rfl rfl rfl)
theorem dL_law_501 : decode cL_law 501 = .ok (.aload_n 0, 1) := dk_42 (w_at wL_20 21 (p := 501) rfl rfl rfl)
theorem dL_law_502 : decode cL_law 502 = .ok (.iload_n 3, 1) := dk_29 (w_at wL_20 22 (p := 502) rfl rfl rfl)
theorem dL_law_503 : decode cL_law 503 = .ok (.iconst 2, 1) := dk_5 (w_at wL_20 23 (p := 503) rfl rfl rfl)
set_option maxRecDepth 100000 in
theorem wL_21 : Win cL_law 504 [96, 46, 42, 29, 6, 96, 46, 182, 0, 48, 87, 167, 3, 226, 43, 42, 29, 4, 96, 46, 182, 0, 49, 87, 44, 42, 29, 4] := Win_sub (o := 480) (o2 := 24) (n := 28) WL_2 (by decide +kernel)
theorem dL_law_504 : decode cL_law 504 = .ok (.iadd, 1) := dk_96 (w_at wL_21 0 (p := 504) rfl rfl rfl)
theorem dL_law_505 : decode cL_law 505 = .ok (.iaload, 1) := dk_46 (w_at wL_21 1 (p := 505) rfl rfl rfl)
theorem dL_law_506 : decode cL_law 506 = .ok (.aload_n 0, 1) := dk_42 (w_at wL_21 2 (p := 506) rfl rfl rfl)
theorem dL_law_507 : decode cL_law 507 = .ok (.iload_n 3, 1) := dk_29 (w_at wL_21 3 (p := 507) rfl rfl rfl)
theorem dL_law_508 : decode cL_law 508 = .ok (.iconst 3, 1) := dk_6 (w_at wL_21 4 (p := 508) rfl rfl rfl)
theorem dL_law_509 : decode cL_law 509 = .ok (.iadd, 1) := dk_96 (w_at wL_21 5 (p := 509) rfl rfl rfl)
theorem dL_law_510 : decode cL_law 510 = .ok (.iaload, 1) := dk_46 (w_at wL_21 6 (p := 510) rfl rfl rfl)
theorem dL_law_511 : decode cL_law 511 = .ok (.invokevirtual 48, 3) := dk_iv (w_at wL_21 7 (p := 511) rfl rfl rfl) (w_at wL_21 8 (p := 512) rfl rfl rfl) (w_at wL_21 9 (p := 513) rfl rfl rfl) rfl
theorem dL_law_514 : decode cL_law 514 = .ok (.pop, 1) := dk_87 (w_at wL_21 10 (p := 514) rfl rfl rfl)
theorem dL_law_518 : decode cL_law 518 = .ok (.aload_n 1, 1) := dk_43 (w_at wL_21 14 (p := 518) rfl rfl rfl)
theorem dL_law_519 : decode cL_law 519 = .ok (.aload_n 0, 1) := dk_42 (w_at wL_21 15 (p := 519) rfl rfl rfl)
theorem dL_law_520 : decode cL_law 520 = .ok (.iload_n 3, 1) := dk_29 (w_at wL_21 16 (p := 520) rfl rfl rfl)
theorem dL_law_521 : decode cL_law 521 = .ok (.iconst 1, 1) := dk_4 (w_at wL_21 17 (p := 521) rfl rfl rfl)
theorem dL_law_522 : decode cL_law 522 = .ok (.iadd, 1) := dk_96 (w_at wL_21 18 (p := 522) rfl rfl rfl)
theorem dL_law_523 : decode cL_law 523 = .ok (.iaload, 1) := dk_46 (w_at wL_21 19 (p := 523) rfl rfl rfl)
theorem dL_law_524 : decode cL_law 524 = .ok (.invokevirtual 49, 3) := dk_iv (w_at wL_21 20 (p := 524) rfl rfl rfl) (w_at wL_21 21 (p := 525) rfl rfl rfl) (w_at wL_21 22 (p := 526) rfl rfl rfl) rfl
theorem dL_law_527 : decode cL_law 527 = .ok (.pop, 1) := dk_87 (w_at wL_21 23 (p := 527) rfl rfl rfl)
set_option maxRecDepth 100000 in
theorem wL_22 : Win cL_law 528 [44, 42, 29, 4, 96, 46, 182, 0, 52, 87, 167, 3, 203, 43, 42, 29, 4, 96, 46, 42, 29, 5, 96, 46, 133, 16, 32, 121] := Win_sub (o := 480) (o2 := 48) (n := 28) WL_2 (by decide +kernel)
theorem dL_law_528 : decode cL_law 528 = .ok (.aload_n 2, 1) := dk_44 (w_at wL_22 0 (p := 528) rfl rfl rfl)
theorem dL_law_529 : decode cL_law 529 = .ok (.aload_n 0, 1) := dk_42 (w_at wL_22 1 (p := 529) rfl rfl rfl)
theorem dL_law_530 : decode cL_law 530 = .ok (.iload_n 3, 1) := dk_29 (w_at wL_22 2 (p := 530) rfl rfl rfl)
theorem dL_law_531 : decode cL_law 531 = .ok (.iconst 1, 1) := dk_4 (w_at wL_22 3 (p := 531) rfl rfl rfl)
theorem dL_law_532 : decode cL_law 532 = .ok (.iadd, 1) := dk_96 (w_at wL_22 4 (p := 532) rfl rfl rfl)
theorem dL_law_533 : decode cL_law 533 = .ok (.iaload, 1) := dk_46 (w_at wL_22 5 (p := 533) rfl rfl rfl)
theorem dL_law_534 : decode cL_law 534 = .ok (.invokevirtual 52, 3) := dk_iv (w_at wL_22 6 (p := 534) rfl rfl rfl) (w_at wL_22 7 (p := 535) rfl rfl rfl) (w_at wL_22 8 (p := 536) rfl rfl rfl) rfl
theorem dL_law_537 : decode cL_law 537 = .ok (.pop, 1) := dk_87 (w_at wL_22 9 (p := 537) rfl rfl rfl)
theorem dL_law_541 : decode cL_law 541 = .ok (.aload_n 1, 1) := dk_43 (w_at wL_22 13 (p := 541) rfl rfl rfl)
theorem dL_law_542 : decode cL_law 542 = .ok (.aload_n 0, 1) := dk_42 (w_at wL_22 14 (p := 542) rfl rfl rfl)
theorem dL_law_543 : decode cL_law 543 = .ok (.iload_n 3, 1) := dk_29 (w_at wL_22 15 (p := 543) rfl rfl rfl)
theorem dL_law_544 : decode cL_law 544 = .ok (.iconst 1, 1) := dk_4 (w_at wL_22 16 (p := 544) rfl rfl rfl)
theorem dL_law_545 : decode cL_law 545 = .ok (.iadd, 1) := dk_96 (w_at wL_22 17 (p := 545) rfl rfl rfl)
theorem dL_law_546 : decode cL_law 546 = .ok (.iaload, 1) := dk_46 (w_at wL_22 18 (p := 546) rfl rfl rfl)
theorem dL_law_547 : decode cL_law 547 = .ok (.aload_n 0, 1) := dk_42 (w_at wL_22 19 (p := 547) rfl rfl rfl)
theorem dL_law_548 : decode cL_law 548 = .ok (.iload_n 3, 1) := dk_29 (w_at wL_22 20 (p := 548) rfl rfl rfl)
theorem dL_law_549 : decode cL_law 549 = .ok (.iconst 2, 1) := dk_5 (w_at wL_22 21 (p := 549) rfl rfl rfl)
theorem dL_law_550 : decode cL_law 550 = .ok (.iadd, 1) := dk_96 (w_at wL_22 22 (p := 550) rfl rfl rfl)
theorem dL_law_551 : decode cL_law 551 = .ok (.iaload, 1) := dk_46 (w_at wL_22 23 (p := 551) rfl rfl rfl)
set_option maxRecDepth 100000 in
theorem wL_23 : Win cL_law 552 [133, 16, 32, 121, 42, 29, 6, 96, 46, 133, 20, 0, 53, 127, 129, 182, 0, 55, 87, 44, 42, 29, 4, 96, 46, 42, 29, 5] := Win_sub (o := 480) (o2 := 72) (n := 28) WL_2 (by decide +kernel)
theorem dL_law_556 : decode cL_law 556 = .ok (.aload_n 0, 1) := dk_42 (w_at wL_23 4 (p := 556) rfl rfl rfl)
theorem dL_law_557 : decode cL_law 557 = .ok (.iload_n 3, 1) := dk_29 (w_at wL_23 5 (p := 557) rfl rfl rfl)
theorem dL_law_558 : decode cL_law 558 = .ok (.iconst 3, 1) := dk_6 (w_at wL_23 6 (p := 558) rfl rfl rfl)
theorem dL_law_559 : decode cL_law 559 = .ok (.iadd, 1) := dk_96 (w_at wL_23 7 (p := 559) rfl rfl rfl)
theorem dL_law_560 : decode cL_law 560 = .ok (.iaload, 1) := dk_46 (w_at wL_23 8 (p := 560) rfl rfl rfl)
theorem dL_law_567 : decode cL_law 567 = .ok (.invokevirtual 55, 3) := dk_iv (w_at wL_23 15 (p := 567) rfl rfl rfl) (w_at wL_23 16 (p := 568) rfl rfl rfl) (w_at wL_23 17 (p := 569) rfl rfl rfl) rfl
theorem dL_law_570 : decode cL_law 570 = .ok (.pop, 1) := dk_87 (w_at wL_23 18 (p := 570) rfl rfl rfl)
theorem dL_law_571 : decode cL_law 571 = .ok (.aload_n 2, 1) := dk_44 (w_at wL_23 19 (p := 571) rfl rfl rfl)
theorem dL_law_572 : decode cL_law 572 = .ok (.aload_n 0, 1) := dk_42 (w_at wL_23 20 (p := 572) rfl rfl rfl)
theorem dL_law_573 : decode cL_law 573 = .ok (.iload_n 3, 1) := dk_29 (w_at wL_23 21 (p := 573) rfl rfl rfl)
theorem dL_law_574 : decode cL_law 574 = .ok (.iconst 1, 1) := dk_4 (w_at wL_23 22 (p := 574) rfl rfl rfl)
theorem dL_law_575 : decode cL_law 575 = .ok (.iadd, 1) := dk_96 (w_at wL_23 23 (p := 575) rfl rfl rfl)
set_option maxRecDepth 100000 in
theorem wL_24 : Win cL_law 576 [46, 42, 29, 5, 96, 46, 133, 16, 32, 121, 42, 29, 6, 96, 46, 133, 20, 0, 53, 127, 129, 182, 0, 59, 87, 167, 3, 140] := Win_sub (o := 480) (o2 := 96) (n := 28) WL_2 (by decide +kernel)
theorem dL_law_576 : decode cL_law 576 = .ok (.iaload, 1) := dk_46 (w_at wL_24 0 (p := 576) rfl rfl rfl)
theorem dL_law_577 : decode cL_law 577 = .ok (.aload_n 0, 1) := dk_42 (w_at wL_24 1 (p := 577) rfl rfl rfl)
theorem dL_law_578 : decode cL_law 578 = .ok (.iload_n 3, 1) := dk_29 (w_at wL_24 2 (p := 578) rfl rfl rfl)
theorem dL_law_579 : decode cL_law 579 = .ok (.iconst 2, 1) := dk_5 (w_at wL_24 3 (p := 579) rfl rfl rfl)
theorem dL_law_580 : decode cL_law 580 = .ok (.iadd, 1) := dk_96 (w_at wL_24 4 (p := 580) rfl rfl rfl)
theorem dL_law_581 : decode cL_law 581 = .ok (.iaload, 1) := dk_46 (w_at wL_24 5 (p := 581) rfl rfl rfl)
theorem dL_law_586 : decode cL_law 586 = .ok (.aload_n 0, 1) := dk_42 (w_at wL_24 10 (p := 586) rfl rfl rfl)
theorem dL_law_587 : decode cL_law 587 = .ok (.iload_n 3, 1) := dk_29 (w_at wL_24 11 (p := 587) rfl rfl rfl)
theorem dL_law_588 : decode cL_law 588 = .ok (.iconst 3, 1) := dk_6 (w_at wL_24 12 (p := 588) rfl rfl rfl)
theorem dL_law_589 : decode cL_law 589 = .ok (.iadd, 1) := dk_96 (w_at wL_24 13 (p := 589) rfl rfl rfl)
theorem dL_law_590 : decode cL_law 590 = .ok (.iaload, 1) := dk_46 (w_at wL_24 14 (p := 590) rfl rfl rfl)
theorem dL_law_597 : decode cL_law 597 = .ok (.invokevirtual 59, 3) := dk_iv (w_at wL_24 21 (p := 597) rfl rfl rfl) (w_at wL_24 22 (p := 598) rfl rfl rfl) (w_at wL_24 23 (p := 599) rfl rfl rfl) rfl
set_option maxRecDepth 100000 in
theorem wL_25 : Win cL_law 600 [87, 167, 3, 140, 43, 42, 29, 4, 96, 46, 182, 0, 60, 87, 44, 42, 29, 4, 96, 46, 182, 0, 63, 87, 167, 3, 117, 43] := Win_sub (o := 480) (o2 := 120) (n := 28) WL_2 (by decide +kernel)
theorem dL_law_600 : decode cL_law 600 = .ok (.pop, 1) := dk_87 (w_at wL_25 0 (p := 600) rfl rfl rfl)
set_option maxRecDepth 100000 in
theorem dvL_law_429 : ([(429, .goto 1080, 3), (472, .goto 1037, 3), (515, .goto 994, 3), (538, .goto 971, 3), (552, .i2l, 1), (553, .bipush 32, 2), (555, .lshl, 1), (561, .i2l, 1), (562, .ldc2_w 53, 3), (565, .land, 1), (566, .lor, 1), (582, .i2l, 1), (583, .bipush 32, 2), (585, .lshl, 1), (591, .i2l, 1), (592, .ldc2_w 53, 3), (595, .land, 1), (596, .lor, 1), (601, .goto 908, 3)] : List (Nat × Instr × Nat)).all (fun q => decide (decode cL_law q.1 = .ok (q.2.1, q.2.2))) = true := by decide +kernel
theorem dL_law_429 : decode cL_law 429 = .ok (.goto 1080, 3) := all_at dvL_law_429 0 rfl
theorem dL_law_472 : decode cL_law 472 = .ok (.goto 1037, 3) := all_at dvL_law_429 1 rfl
theorem dL_law_515 : decode cL_law 515 = .ok (.goto 994, 3) := all_at dvL_law_429 2 rfl
theorem dL_law_538 : decode cL_law 538 = .ok (.goto 971, 3) := all_at dvL_law_429 3 rfl
theorem dL_law_552 : decode cL_law 552 = .ok (.i2l, 1) := all_at dvL_law_429 4 rfl
theorem dL_law_553 : decode cL_law 553 = .ok (.bipush 32, 2) := all_at dvL_law_429 5 rfl
theorem dL_law_555 : decode cL_law 555 = .ok (.lshl, 1) := all_at dvL_law_429 6 rfl
theorem dL_law_561 : decode cL_law 561 = .ok (.i2l, 1) := all_at dvL_law_429 7 rfl
theorem dL_law_562 : decode cL_law 562 = .ok (.ldc2_w 53, 3) := all_at dvL_law_429 8 rfl
theorem dL_law_565 : decode cL_law 565 = .ok (.land, 1) := all_at dvL_law_429 9 rfl
theorem dL_law_566 : decode cL_law 566 = .ok (.lor, 1) := all_at dvL_law_429 10 rfl
theorem dL_law_582 : decode cL_law 582 = .ok (.i2l, 1) := all_at dvL_law_429 11 rfl
theorem dL_law_583 : decode cL_law 583 = .ok (.bipush 32, 2) := all_at dvL_law_429 12 rfl
theorem dL_law_585 : decode cL_law 585 = .ok (.lshl, 1) := all_at dvL_law_429 13 rfl
theorem dL_law_591 : decode cL_law 591 = .ok (.i2l, 1) := all_at dvL_law_429 14 rfl
theorem dL_law_592 : decode cL_law 592 = .ok (.ldc2_w 53, 3) := all_at dvL_law_429 15 rfl
theorem dL_law_595 : decode cL_law 595 = .ok (.land, 1) := all_at dvL_law_429 16 rfl
theorem dL_law_596 : decode cL_law 596 = .ok (.lor, 1) := all_at dvL_law_429 17 rfl
theorem dL_law_601 : decode cL_law 601 = .ok (.goto 908, 3) := all_at dvL_law_429 18 rfl
set_option maxHeartbeats 4000000 in
set_option maxRecDepth 100000 in
theorem law_5 {p : Program} {e : Env} {s : State} {m : MethodId} {below : List Frame} {meth : Method} {c : Code} (l : Launch) {b L : Nat} {xs : Nat → Int32} (hL : L ≤ 4096) (C0 : lw_At p s m meth c b L xs) {dC : Nat → ClassId} {dI : Nat → Nat → Nat} {A : Nat → Prop} (hA : ∀ q : Nat, s.heap.size ≤ q → A q) (hbA : ¬ A b) (hAs : ∀ q : Nat, A q → s.heap.size ≤ q) {x y : Nat} {gx gy : Nat → Nat → Nat} {cax cay : Nat → Nat → ClassId} {ak av : Nat → Nat} (hKx : va_K (dC, dI) classes (TX cax) s) (hKy : va_K (dC, dI) classes (TM cay) s) (hXY : ∀ a ∈ AdX x gx, ∀ b ∈ AdM y gy, a ≠ b) (hZ : zC ak av A s s.heap) {H : Heap} {locs : List Loc} {ivx : Nat → Nat → Int32} {lvx : Nat → Nat → Int64} {fax : Nat → Nat → Nat → Int32} {lax : Nat → Nat → Nat → Int64} {ivy : Nat → Nat → Int32} {lvy : Nat → Nat → Int64} {fay : Nat → Nat → Nat → Int32} {lay : Nat → Nat → Nat → Int64} (hIx : IX ivx fax) (hIy : IX ivy fay) (hJC : JCf (ivy 12 23).toInt (fay 12 25) (fay 12 26) (fay 12 27) (fay 12 28)) (hJR : JRf (ivy 12 3).toInt (fay 12 7)) (hJN : JNf (ivy 12 3).toInt (fay 12 4) (fay 12 5)) (hJO : ((ivy 12 20).toInt = -1 ∧ (ivy 12 21).toInt = -1 ∧ (ivy 12 22).toInt = -1)) (hq_now : ivx 11 10 = ivy 12 0) (hq_bales : ivx 0 7 = ivy 12 1) (hq_skeins : ivx 10 1 = ivy 12 3) (hq_rules : ivx 1 7 = ivy 12 23) (hq_text : ivx 8 2 = ivy 12 33) (hq_place : ivx 8 3 = ivy 12 36) (hq_papers : ivx 6 7 = ivy 12 67) (hrs : (∀ s : Nat, (s : Int) < (ivy 12 3).toInt → fax 10 0 (9 * s + 0) = fay 12 4 s ∧ fax 10 0 (9 * s + 1) = fay 12 5 s ∧ fax 10 0 (9 * s + 2) = fay 12 6 s ∧ fax 10 0 (9 * s + 3) = fay 12 7 s ∧ fax 10 0 (9 * s + 4) = fay 12 8 s ∧ fax 10 0 (9 * s + 5) = fay 12 9 s ∧ fax 10 0 (9 * s + 6) = fay 12 10 s ∧ fax 10 0 (9 * s + 7) = fay 12 11 s ∧ fax 10 0 (9 * s + 8) = fay 12 12 s)) (hls : (∀ j : Nat, -1 ≤ (fay 12 12 j).toInt)) (hwd : (∀ s : Nat, (s : Int) < (ivy 12 3).toInt → (100 ≤ (fay 12 7 s).toInt ∧ (fay 12 7 s).toInt ≤ 9999) ∧ (50 ≤ (fay 12 8 s).toInt ∧ (fay 12 8 s).toInt ≤ 9999))) (htx : (∀ j : Nat, (fax 8 1 j).toInt = sg (fay 12 32 j).toInt ∧ 0 ≤ (fay 12 32 j).toInt)) (hbk : BkE (ivy 12 23).toInt (fax 1 0) (fax 1 1) (fax 1 2) (fax 1 3) (fax 1 4) (fax 1 5) (fay 12 24) (fay 12 25) (fay 12 26) (fay 12 27) (fay 12 28) (fay 12 29) (fay 12 30) (fay 12 31)) (hgr : (∀ j : Nat, fax 0 0 j = fay 12 2 j)) (hgb : (∀ j : Nat, (j : Int) < (ivx 0 7).toInt → 1 ≤ (fax 0 0 j).toInt ∧ (fax 0 0 j).toInt ≤ 99999)) (hpa : PaE (ivy 12 67).toInt (fax 6 0) (fax 6 1) (fax 6 2) (fax 6 3) (fax 6 4) (fax 6 5) (fay 12 68) (fay 12 69) (lay 12 70) (fay 12 71) (fay 12 72) (fay 12 73)) (hdr : (∀ s : Nat, (s : Int) < (ivy 12 3).toInt → (fay 12 8 s).toInt ≤ (fay 12 7 s).toInt)) (hPx : va_P (dC, dI) classes (WX x gx cax ivx lvx fax lax) H) (hDx : va_D A (WX x gx cax ivx lvx fax lax)) (hPy : va_P (dC, dI) classes (WM y gy cay ivy lvy fay lay) H) (hDy : va_D A (WM y gy cay ivy lvy fay lay)) (hS : va_S A s.heap H locs) {i : Int32} {ls : Array Slot} (hl : lv_has ls 4 [(3, .int i), (2, .ref y), (1, .ref x), (0, .ref b)]) (hi : 0 ≤ i.toInt ∧ i.toInt ≤ 4088) (hi8 : i.toInt + 8 ≤ (L : Int)) (kk : ∀ (H : Heap) (locs : List Loc) (ivx : Nat → Nat → Int32) (lvx : Nat → Nat → Int64) (fax : Nat → Nat → Nat → Int32) (lax : Nat → Nat → Nat → Int64) (ivy : Nat → Nat → Int32) (lvy : Nat → Nat → Int64) (fay : Nat → Nat → Nat → Int32) (lay : Nat → Nat → Nat → Int64), IX ivx fax → IX ivy fay → JCf (ivy 12 23).toInt (fay 12 25) (fay 12 26) (fay 12 27) (fay 12 28) → JRf (ivy 12 3).toInt (fay 12 7) → JNf (ivy 12 3).toInt (fay 12 4) (fay 12 5) → ((ivy 12 20).toInt = -1 ∧ (ivy 12 21).toInt = -1 ∧ (ivy 12 22).toInt = -1) → ivx 11 10 = ivy 12 0 → ivx 0 7 = ivy 12 1 → ivx 10 1 = ivy 12 3 → ivx 1 7 = ivy 12 23 → ivx 8 2 = ivy 12 33 → ivx 8 3 = ivy 12 36 → ivx 6 7 = ivy 12 67 → (∀ s : Nat, (s : Int) < (ivy 12 3).toInt → fax 10 0 (9 * s + 0) = fay 12 4 s ∧ fax 10 0 (9 * s + 1) = fay 12 5 s ∧ fax 10 0 (9 * s + 2) = fay 12 6 s ∧ fax 10 0 (9 * s + 3) = fay 12 7 s ∧ fax 10 0 (9 * s + 4) = fay 12 8 s ∧ fax 10 0 (9 * s + 5) = fay 12 9 s ∧ fax 10 0 (9 * s + 6) = fay 12 10 s ∧ fax 10 0 (9 * s + 7) = fay 12 11 s ∧ fax 10 0 (9 * s + 8) = fay 12 12 s) → (∀ j : Nat, -1 ≤ (fay 12 12 j).toInt) → (∀ s : Nat, (s : Int) < (ivy 12 3).toInt → (100 ≤ (fay 12 7 s).toInt ∧ (fay 12 7 s).toInt ≤ 9999) ∧ (50 ≤ (fay 12 8 s).toInt ∧ (fay 12 8 s).toInt ≤ 9999)) → (∀ j : Nat, (fax 8 1 j).toInt = sg (fay 12 32 j).toInt ∧ 0 ≤ (fay 12 32 j).toInt) → BkE (ivy 12 23).toInt (fax 1 0) (fax 1 1) (fax 1 2) (fax 1 3) (fax 1 4) (fax 1 5) (fay 12 24) (fay 12 25) (fay 12 26) (fay 12 27) (fay 12 28) (fay 12 29) (fay 12 30) (fay 12 31) → (∀ j : Nat, fax 0 0 j = fay 12 2 j) → (∀ j : Nat, (j : Int) < (ivx 0 7).toInt → 1 ≤ (fax 0 0 j).toInt ∧ (fax 0 0 j).toInt ≤ 99999) → PaE (ivy 12 67).toInt (fax 6 0) (fax 6 1) (fax 6 2) (fax 6 3) (fax 6 4) (fax 6 5) (fay 12 68) (fay 12 69) (lay 12 70) (fay 12 71) (fay 12 72) (fay 12 73) → (∀ s : Nat, (s : Int) < (ivy 12 3).toInt → (fay 12 8 s).toInt ≤ (fay 12 7 s).toInt) → va_P (dC, dI) classes (WX x gx cax ivx lvx fax lax) H → va_D A (WX x gx cax ivx lvx fax lax) → va_P (dC, dI) classes (WM y gy cay ivy lvy fay lay) H → va_D A (WM y gy cay ivy lvy fay lay) → va_S A s.heap H locs → W p l e room_1 s m #[Value.ref b] below meth c H locs 98 5431 (lw_Z below #[Value.ref b] s) (F0 m 1509 ls [])) : W p l e room_1 s m #[Value.ref b] below meth c H locs 98 5431 (lw_Z below #[Value.ref b] s) (F0 m 389 ls []) := by
  obtain ⟨hx, hb, hr, hml, hown, hts, hX, hbl, hlocks, hgv⟩ := id C0
  have ht := tb_of hts
  have hJD := hwd
  have hw8 := congrArg Int32.toInt hq_skeins
  have hJW : ∀ s : Nat, (s : Int) < (ivx 10 1).toInt → (100 ≤ (fax 10 0 (9 * s + 3)).toInt ∧ (fax 10 0 (9 * s + 3)).toInt ≤ 9999) ∧ (50 ≤ (fax 10 0 (9 * s + 4)).toInt ∧ (fax 10 0 (9 * s + 4)).toInt ≤ 9999) := fun s hs => by rw [(hrs s (by omega)).2.2.2.1, (hrs s (by omega)).2.2.2.2.1]; exact hwd s (by omega)
  have hw8r := congrArg Int32.toInt hq_rules
  have hJB : ∀ j : Nat, (j : Int) < (ivx 1 7).toInt → 0 ≤ (fax 1 0 j).toInt := fun j hj => (hbk j (by omega)).2.2.1
  have hJK : ∀ k j : Nat, (k : Int) < (ivy 12 23).toInt → 12 * k ≤ j → (j : Int) < 12 * (k : Int) + (fay 12 25 k).toInt → (fay 12 26 j).toInt = 3 → 0 ≤ (fay 12 28 j).toInt ∧ (fay 12 28 j).toInt < (k : Int) := bk_K hbk
  have hw8b := congrArg Int32.toInt hq_bales
  have hJF : ∀ a d v : Int, 0 ≤ a → a ≤ 5 → FoX (ivx 1 7).toInt (fax 1 0) (fax 1 1) (fax 1 2) (fax 1 3) a d v → fLo a ≤ v ∧ v ≤ fHi a := fun a d v h1 h2 x => by rw [hq_rules] at x; exact FoX_b hbk ⟨h1, h2⟩ x
  have hJH : ∀ a d v : Int, 0 ≤ a → a ≤ 5 → FoY (ivy 12 23).toInt (fay 12 24) (fay 12 25) (fay 12 26) (fay 12 27) (fay 12 28) a d v → fLo a ≤ v ∧ v ≤ fHi a := fun a d v h1 h2 x => FoY_b hbk ⟨h1, h2⟩ x
  have hJG := hgb
  have hJI : ∀ j : Nat, (j : Int) < (ivy 12 1).toInt → 1 ≤ (fay 12 2 j).toInt ∧ (fay 12 2 j).toInt ≤ 99999 := fun j hj => by rw [← hgr j]; exact hgb j (by omega)
  have hJL : ∀ b l : Int32, cn0 (fun s => fax 10 0 (9 * s + 0)) (fun s => fax 10 0 (9 * s + 1)) b l (ivx 10 1).toInt.toNat ≤ 12 := fun b l => by rw [hq_skeins, cn0_congr (ob := fay 12 4) (ol := fay 12 5) _ (fun j hj => ⟨(hrs j (by omega)).1, (hrs j (by omega)).2.1⟩)]; exact hJN b l
  have hw8p := congrArg Int32.toInt hq_papers
  have hJQ : ∀ p : Nat, (p : Int) < (ivy 12 67).toInt → 0 ≤ (lay 12 70 p).toInt ∧ ((fay 12 68 p).toInt = 0 → (lay 12 70 p).toInt ≤ 129998) ∧ (lay 12 70 p).toInt ≤ 129868002 ∧ -1 ≤ (fay 12 71 p).toInt ∧ (fay 12 71 p).toInt < (p : Int) := fun p hp => ⟨(hpa p hp).2.2.1, (hpa p hp).2.2.2.1, (hpa p hp).2.2.2.2.1, (hpa p hp).2.2.2.2.2.1, (hpa p hp).2.2.2.2.2.2.1⟩
  have hJP : ∀ p : Nat, (p : Int) < (ivx 6 7).toInt → 0 ≤ (fax 6 2 p).toInt ∧ ((fax 6 0 p).toInt = 0 → (fax 6 2 p).toInt ≤ 129998) ∧ (fax 6 2 p).toInt ≤ 129868002 ∧ -1 ≤ (fax 6 3 p).toInt ∧ (fax 6 3 p).toInt < (p : Int) := fun p hp => by rw [(hpa p (by omega)).1.1, (hpa p (by omega)).1.2.2.1, (hpa p (by omega)).1.2.2.2.1]; exact hJQ p (by omega)
  have hJS : ∀ s : Nat, (s : Int) < (ivx 10 1).toInt → (fax 10 0 (9 * s + 4)).toInt ≤ (fax 10 0 (9 * s + 3)).toInt := fun s hs => by rw [(hrs s (by omega)).2.2.2.1, (hrs s (by omega)).2.2.2.2.1]; exact hdr s (by omega)
  have hJT : ∀ j : Nat, 0 ≤ (fay 12 32 j).toInt := fun j => (htx j).2
  refine lv_aload_n hx hb dL_law_389 rfl (lv_at hl 2 rfl) ?_
  refine aw_iconst (v := 1) hx hb hX hbl hbA hS hl hi hi8 (by decide) ⟨by decide, by decide⟩ dL_law_390 dL_law_391 dL_law_392 dL_law_393 dL_law_394 (fun v1 ev1 v2 ev2 => ?_)
  refine aw_iconst (v := 2) hx hb hX hbl hbA hS hl hi hi8 (by decide) ⟨by decide, by decide⟩ dL_law_395 dL_law_396 dL_law_397 dL_law_398 dL_law_399 (fun v3 ev3 v4 ev4 => ?_)
  refine aw_iconst (v := 3) hx hb hX hbl hbA hS hl hi hi8 (by decide) ⟨by decide, by decide⟩ dL_law_400 dL_law_401 dL_law_402 dL_law_403 dL_law_404 (fun v5 ev5 v6 ev6 => ?_)
  have hFc := free_all hDx hS hA
  refine va_calli (va_runV (As := [.int v2, .int v4, .int v6]) (rest := []) ⟨hx, hb, hml, hown, ht⟩ (c_X11_test l dC dI H.size x gx cax ivx lvx fax lax hIx v2 v4 v6) (kV 3 ht m_522 m_523 m_524 m_77 m_525 rfl rfl hd_X11_test_v ⟨Nat.le_of_ble_eq_true rfl, Nat.le_of_ble_eq_true rfl⟩) (vW hPx hKx hDx (rX_11 hKx hPx)) rfl rfl hl.1 rfl (lv_room (Nat.le_of_ble_eq_true rfl)) dL_law_405 ⟨Nat.le_of_ble_eq_true rfl, Nat.le_of_ble_eq_true rfl⟩) hS (fun q _ h => hFc q h) hFc (fun r7 u t H1 locs ht9 hvm hr7 hB hz1 hk1 hS => ?_)
  obtain ⟨n8, n9, n10, n11, hn11, hr7, rfl⟩ := hr7
  obtain ⟨hPx, hDx⟩ := hB
  rw [ht9] at hPx
  have hPy := P_kept hPy (la := AdM y gy) (lb := AdX x gx) wmM wmX (fun a ha b hb => (hXY b hb a ha).symm) hk1
  generalize H1 = H at hPx hPy hS ⊢
  have hPx : va_P (dC, dI) classes (WX x gx cax (u2 ivx 9 3 n11) lvx (u2 (u2 (u2 fax 9 0 n8) 9 1 n9) 9 2 n10) lax) H := hPx
  have hDx : va_D A (WX x gx cax (u2 ivx 9 3 n11) lvx (u2 (u2 (u2 fax 9 0 n8) 9 1 n9) 9 2 n10) lax) := (show va_D _ (WX x gx cax (u2 ivx 9 3 n11) lvx (u2 (u2 (u2 fax 9 0 n8) 9 1 n9) 9 2 n10) lax) from hDx).weaken (fun _ _ _ h => hFc _ h)
  refine lv_pop hx hb dL_law_408 rfl ?_
  refine lv_aload_n hx hb dL_law_409 rfl (lv_at hl 1 rfl) ?_
  refine aw_iconst (v := 1) hx hb hX hbl hbA hS hl hi hi8 (by decide) ⟨by decide, by decide⟩ dL_law_410 dL_law_411 dL_law_412 dL_law_413 dL_law_414 (fun v12 ev12 v13 ev13 => ?_)
  refine aw_iconst (v := 2) hx hb hX hbl hbA hS hl hi hi8 (by decide) ⟨by decide, by decide⟩ dL_law_415 dL_law_416 dL_law_417 dL_law_418 dL_law_419 (fun v14 ev14 v15 ev15 => ?_)
  refine aw_iconst (v := 3) hx hb hX hbl hbA hS hl hi hi8 (by decide) ⟨by decide, by decide⟩ dL_law_420 dL_law_421 dL_law_422 dL_law_423 dL_law_424 (fun v16 ev16 v17 ev17 => ?_)
  have hFc := free_all hDy hS hA
  refine va_calli (va_runV (As := [.int v13, .int v15, .int v17]) (rest := []) ⟨hx, hb, hml, hown, ht⟩ (c_X12_test l dC dI H.size y gy cay ivy lvy fay lay hIy v13 v15 v17) (kV 3 ht m_1411 m_1412 m_1413 m_89 m_1414 rfl rfl hd_X12_test_v ⟨Nat.le_of_ble_eq_true rfl, Nat.le_of_ble_eq_true rfl⟩) (vW hPy hKy hDy (rM_12 hKy hPy)) rfl rfl hl.1 rfl (lv_room (Nat.le_of_ble_eq_true rfl)) dL_law_425 ⟨Nat.le_of_ble_eq_true rfl, Nat.le_of_ble_eq_true rfl⟩) hS (fun q _ h => hFc q h) hFc (fun r18 u t H1 locs ht9 hvm hr18 hB hz1 hk1 hS => ?_)
  obtain ⟨n19, n20, n21, n22, hn22, hr18, rfl⟩ := hr18
  obtain ⟨hPy, hDy⟩ := hB
  rw [ht9] at hPy
  have hPx := P_kept hPx (la := AdX x gx) (lb := AdM y gy) wmX wmM hXY hk1
  generalize H1 = H at hPx hPy hS ⊢
  have hPy : va_P (dC, dI) classes (WM y gy cay (u2 ivy 12 13 n22) lvy (u2 (u2 (u2 fay 12 14 n19) 12 15 n20) 12 16 n21) lay) H := hPy
  have hDy : va_D A (WM y gy cay (u2 ivy 12 13 n22) lvy (u2 (u2 (u2 fay 12 14 n19) 12 15 n20) 12 16 n21) lay) := (show va_D _ (WM y gy cay (u2 ivy 12 13 n22) lvy (u2 (u2 (u2 fay 12 14 n19) 12 15 n20) 12 16 n21) lay) from hDy).weaken (fun _ _ _ h => hFc _ h)
  refine lv_pop hx hb dL_law_428 rfl ?_
  refine lv_goto (tgt := 1509) hx hb dL_law_429 (by decide) ?_
  exact kk _ _ (u2 ivx 9 3 n11) lvx (u2 (u2 (u2 fax 9 0 n8) 9 1 n9) 9 2 n10) lax (u2 ivy 12 13 n22) lvy (u2 (u2 (u2 fay 12 14 n19) 12 15 n20) 12 16 n21) lay (IX_a (c := 9) (k := 2) (IX_a (c := 9) (k := 1) (IX_a (c := 9) (k := 0) (IX_i (c := 9) (k := 3) hIx hn11) (fun j => full_i _)) (fun j => full_i _)) (fun j => full_i _)) (IX_a (c := 12) (k := 16) (IX_a (c := 12) (k := 15) (IX_a (c := 12) (k := 14) (IX_i (c := 12) (k := 13) hIy hn22) (fun j => full_i _)) (fun j => full_i _)) (fun j => full_i _)) hJC hJR hJN hJO hq_now hq_bales hq_skeins hq_rules hq_text hq_place hq_papers hrs hls hwd htx hbk hgr hgb hpa hdr hPx hDx hPy hDy hS
set_option maxHeartbeats 4000000 in
set_option maxRecDepth 100000 in
theorem law_6 {p : Program} {e : Env} {s : State} {m : MethodId} {below : List Frame} {meth : Method} {c : Code} (l : Launch) {b L : Nat} {xs : Nat → Int32} (hL : L ≤ 4096) (C0 : lw_At p s m meth c b L xs) {dC : Nat → ClassId} {dI : Nat → Nat → Nat} {A : Nat → Prop} (hA : ∀ q : Nat, s.heap.size ≤ q → A q) (hbA : ¬ A b) (hAs : ∀ q : Nat, A q → s.heap.size ≤ q) {x y : Nat} {gx gy : Nat → Nat → Nat} {cax cay : Nat → Nat → ClassId} {ak av : Nat → Nat} (hKx : va_K (dC, dI) classes (TX cax) s) (hKy : va_K (dC, dI) classes (TM cay) s) (hXY : ∀ a ∈ AdX x gx, ∀ b ∈ AdM y gy, a ≠ b) (hZ : zC ak av A s s.heap) {H : Heap} {locs : List Loc} {ivx : Nat → Nat → Int32} {lvx : Nat → Nat → Int64} {fax : Nat → Nat → Nat → Int32} {lax : Nat → Nat → Nat → Int64} {ivy : Nat → Nat → Int32} {lvy : Nat → Nat → Int64} {fay : Nat → Nat → Nat → Int32} {lay : Nat → Nat → Nat → Int64} (hIx : IX ivx fax) (hIy : IX ivy fay) (hJC : JCf (ivy 12 23).toInt (fay 12 25) (fay 12 26) (fay 12 27) (fay 12 28)) (hJR : JRf (ivy 12 3).toInt (fay 12 7)) (hJN : JNf (ivy 12 3).toInt (fay 12 4) (fay 12 5)) (hJO : ((ivy 12 20).toInt = -1 ∧ (ivy 12 21).toInt = -1 ∧ (ivy 12 22).toInt = -1)) (hq_now : ivx 11 10 = ivy 12 0) (hq_bales : ivx 0 7 = ivy 12 1) (hq_skeins : ivx 10 1 = ivy 12 3) (hq_rules : ivx 1 7 = ivy 12 23) (hq_text : ivx 8 2 = ivy 12 33) (hq_place : ivx 8 3 = ivy 12 36) (hq_papers : ivx 6 7 = ivy 12 67) (hrs : (∀ s : Nat, (s : Int) < (ivy 12 3).toInt → fax 10 0 (9 * s + 0) = fay 12 4 s ∧ fax 10 0 (9 * s + 1) = fay 12 5 s ∧ fax 10 0 (9 * s + 2) = fay 12 6 s ∧ fax 10 0 (9 * s + 3) = fay 12 7 s ∧ fax 10 0 (9 * s + 4) = fay 12 8 s ∧ fax 10 0 (9 * s + 5) = fay 12 9 s ∧ fax 10 0 (9 * s + 6) = fay 12 10 s ∧ fax 10 0 (9 * s + 7) = fay 12 11 s ∧ fax 10 0 (9 * s + 8) = fay 12 12 s)) (hls : (∀ j : Nat, -1 ≤ (fay 12 12 j).toInt)) (hwd : (∀ s : Nat, (s : Int) < (ivy 12 3).toInt → (100 ≤ (fay 12 7 s).toInt ∧ (fay 12 7 s).toInt ≤ 9999) ∧ (50 ≤ (fay 12 8 s).toInt ∧ (fay 12 8 s).toInt ≤ 9999))) (htx : (∀ j : Nat, (fax 8 1 j).toInt = sg (fay 12 32 j).toInt ∧ 0 ≤ (fay 12 32 j).toInt)) (hbk : BkE (ivy 12 23).toInt (fax 1 0) (fax 1 1) (fax 1 2) (fax 1 3) (fax 1 4) (fax 1 5) (fay 12 24) (fay 12 25) (fay 12 26) (fay 12 27) (fay 12 28) (fay 12 29) (fay 12 30) (fay 12 31)) (hgr : (∀ j : Nat, fax 0 0 j = fay 12 2 j)) (hgb : (∀ j : Nat, (j : Int) < (ivx 0 7).toInt → 1 ≤ (fax 0 0 j).toInt ∧ (fax 0 0 j).toInt ≤ 99999)) (hpa : PaE (ivy 12 67).toInt (fax 6 0) (fax 6 1) (fax 6 2) (fax 6 3) (fax 6 4) (fax 6 5) (fay 12 68) (fay 12 69) (lay 12 70) (fay 12 71) (fay 12 72) (fay 12 73)) (hdr : (∀ s : Nat, (s : Int) < (ivy 12 3).toInt → (fay 12 8 s).toInt ≤ (fay 12 7 s).toInt)) (hPx : va_P (dC, dI) classes (WX x gx cax ivx lvx fax lax) H) (hDx : va_D A (WX x gx cax ivx lvx fax lax)) (hPy : va_P (dC, dI) classes (WM y gy cay ivy lvy fay lay) H) (hDy : va_D A (WM y gy cay ivy lvy fay lay)) (hS : va_S A s.heap H locs) {i : Int32} {ls : Array Slot} (hl : lv_has ls 4 [(3, .int i), (2, .ref y), (1, .ref x), (0, .ref b)]) (hi : 0 ≤ i.toInt ∧ i.toInt ≤ 4088) (hi8 : i.toInt + 8 ≤ (L : Int)) (kk : ∀ (H : Heap) (locs : List Loc) (ivx : Nat → Nat → Int32) (lvx : Nat → Nat → Int64) (fax : Nat → Nat → Nat → Int32) (lax : Nat → Nat → Nat → Int64) (ivy : Nat → Nat → Int32) (lvy : Nat → Nat → Int64) (fay : Nat → Nat → Nat → Int32) (lay : Nat → Nat → Nat → Int64), IX ivx fax → IX ivy fay → JCf (ivy 12 23).toInt (fay 12 25) (fay 12 26) (fay 12 27) (fay 12 28) → JRf (ivy 12 3).toInt (fay 12 7) → JNf (ivy 12 3).toInt (fay 12 4) (fay 12 5) → ((ivy 12 20).toInt = -1 ∧ (ivy 12 21).toInt = -1 ∧ (ivy 12 22).toInt = -1) → ivx 11 10 = ivy 12 0 → ivx 0 7 = ivy 12 1 → ivx 10 1 = ivy 12 3 → ivx 1 7 = ivy 12 23 → ivx 8 2 = ivy 12 33 → ivx 8 3 = ivy 12 36 → ivx 6 7 = ivy 12 67 → (∀ s : Nat, (s : Int) < (ivy 12 3).toInt → fax 10 0 (9 * s + 0) = fay 12 4 s ∧ fax 10 0 (9 * s + 1) = fay 12 5 s ∧ fax 10 0 (9 * s + 2) = fay 12 6 s ∧ fax 10 0 (9 * s + 3) = fay 12 7 s ∧ fax 10 0 (9 * s + 4) = fay 12 8 s ∧ fax 10 0 (9 * s + 5) = fay 12 9 s ∧ fax 10 0 (9 * s + 6) = fay 12 10 s ∧ fax 10 0 (9 * s + 7) = fay 12 11 s ∧ fax 10 0 (9 * s + 8) = fay 12 12 s) → (∀ j : Nat, -1 ≤ (fay 12 12 j).toInt) → (∀ s : Nat, (s : Int) < (ivy 12 3).toInt → (100 ≤ (fay 12 7 s).toInt ∧ (fay 12 7 s).toInt ≤ 9999) ∧ (50 ≤ (fay 12 8 s).toInt ∧ (fay 12 8 s).toInt ≤ 9999)) → (∀ j : Nat, (fax 8 1 j).toInt = sg (fay 12 32 j).toInt ∧ 0 ≤ (fay 12 32 j).toInt) → BkE (ivy 12 23).toInt (fax 1 0) (fax 1 1) (fax 1 2) (fax 1 3) (fax 1 4) (fax 1 5) (fay 12 24) (fay 12 25) (fay 12 26) (fay 12 27) (fay 12 28) (fay 12 29) (fay 12 30) (fay 12 31) → (∀ j : Nat, fax 0 0 j = fay 12 2 j) → (∀ j : Nat, (j : Int) < (ivx 0 7).toInt → 1 ≤ (fax 0 0 j).toInt ∧ (fax 0 0 j).toInt ≤ 99999) → PaE (ivy 12 67).toInt (fax 6 0) (fax 6 1) (fax 6 2) (fax 6 3) (fax 6 4) (fax 6 5) (fay 12 68) (fay 12 69) (lay 12 70) (fay 12 71) (fay 12 72) (fay 12 73) → (∀ s : Nat, (s : Int) < (ivy 12 3).toInt → (fay 12 8 s).toInt ≤ (fay 12 7 s).toInt) → va_P (dC, dI) classes (WX x gx cax ivx lvx fax lax) H → va_D A (WX x gx cax ivx lvx fax lax) → va_P (dC, dI) classes (WM y gy cay ivy lvy fay lay) H → va_D A (WM y gy cay ivy lvy fay lay) → va_S A s.heap H locs → W p l e room_1 s m #[Value.ref b] below meth c H locs 98 5431 (lw_Z below #[Value.ref b] s) (F0 m 1509 ls [])) : W p l e room_1 s m #[Value.ref b] below meth c H locs 98 5431 (lw_Z below #[Value.ref b] s) (F0 m 432 ls []) := by
  obtain ⟨hx, hb, hr, hml, hown, hts, hX, hbl, hlocks, hgv⟩ := id C0
  have ht := tb_of hts
  have hJD := hwd
  have hw8 := congrArg Int32.toInt hq_skeins
  have hJW : ∀ s : Nat, (s : Int) < (ivx 10 1).toInt → (100 ≤ (fax 10 0 (9 * s + 3)).toInt ∧ (fax 10 0 (9 * s + 3)).toInt ≤ 9999) ∧ (50 ≤ (fax 10 0 (9 * s + 4)).toInt ∧ (fax 10 0 (9 * s + 4)).toInt ≤ 9999) := fun s hs => by rw [(hrs s (by omega)).2.2.2.1, (hrs s (by omega)).2.2.2.2.1]; exact hwd s (by omega)
  have hw8r := congrArg Int32.toInt hq_rules
  have hJB : ∀ j : Nat, (j : Int) < (ivx 1 7).toInt → 0 ≤ (fax 1 0 j).toInt := fun j hj => (hbk j (by omega)).2.2.1
  have hJK : ∀ k j : Nat, (k : Int) < (ivy 12 23).toInt → 12 * k ≤ j → (j : Int) < 12 * (k : Int) + (fay 12 25 k).toInt → (fay 12 26 j).toInt = 3 → 0 ≤ (fay 12 28 j).toInt ∧ (fay 12 28 j).toInt < (k : Int) := bk_K hbk
  have hw8b := congrArg Int32.toInt hq_bales
  have hJF : ∀ a d v : Int, 0 ≤ a → a ≤ 5 → FoX (ivx 1 7).toInt (fax 1 0) (fax 1 1) (fax 1 2) (fax 1 3) a d v → fLo a ≤ v ∧ v ≤ fHi a := fun a d v h1 h2 x => by rw [hq_rules] at x; exact FoX_b hbk ⟨h1, h2⟩ x
  have hJH : ∀ a d v : Int, 0 ≤ a → a ≤ 5 → FoY (ivy 12 23).toInt (fay 12 24) (fay 12 25) (fay 12 26) (fay 12 27) (fay 12 28) a d v → fLo a ≤ v ∧ v ≤ fHi a := fun a d v h1 h2 x => FoY_b hbk ⟨h1, h2⟩ x
  have hJG := hgb
  have hJI : ∀ j : Nat, (j : Int) < (ivy 12 1).toInt → 1 ≤ (fay 12 2 j).toInt ∧ (fay 12 2 j).toInt ≤ 99999 := fun j hj => by rw [← hgr j]; exact hgb j (by omega)
  have hJL : ∀ b l : Int32, cn0 (fun s => fax 10 0 (9 * s + 0)) (fun s => fax 10 0 (9 * s + 1)) b l (ivx 10 1).toInt.toNat ≤ 12 := fun b l => by rw [hq_skeins, cn0_congr (ob := fay 12 4) (ol := fay 12 5) _ (fun j hj => ⟨(hrs j (by omega)).1, (hrs j (by omega)).2.1⟩)]; exact hJN b l
  have hw8p := congrArg Int32.toInt hq_papers
  have hJQ : ∀ p : Nat, (p : Int) < (ivy 12 67).toInt → 0 ≤ (lay 12 70 p).toInt ∧ ((fay 12 68 p).toInt = 0 → (lay 12 70 p).toInt ≤ 129998) ∧ (lay 12 70 p).toInt ≤ 129868002 ∧ -1 ≤ (fay 12 71 p).toInt ∧ (fay 12 71 p).toInt < (p : Int) := fun p hp => ⟨(hpa p hp).2.2.1, (hpa p hp).2.2.2.1, (hpa p hp).2.2.2.2.1, (hpa p hp).2.2.2.2.2.1, (hpa p hp).2.2.2.2.2.2.1⟩
  have hJP : ∀ p : Nat, (p : Int) < (ivx 6 7).toInt → 0 ≤ (fax 6 2 p).toInt ∧ ((fax 6 0 p).toInt = 0 → (fax 6 2 p).toInt ≤ 129998) ∧ (fax 6 2 p).toInt ≤ 129868002 ∧ -1 ≤ (fax 6 3 p).toInt ∧ (fax 6 3 p).toInt < (p : Int) := fun p hp => by rw [(hpa p (by omega)).1.1, (hpa p (by omega)).1.2.2.1, (hpa p (by omega)).1.2.2.2.1]; exact hJQ p (by omega)
  have hJS : ∀ s : Nat, (s : Int) < (ivx 10 1).toInt → (fax 10 0 (9 * s + 4)).toInt ≤ (fax 10 0 (9 * s + 3)).toInt := fun s hs => by rw [(hrs s (by omega)).2.2.2.1, (hrs s (by omega)).2.2.2.2.1]; exact hdr s (by omega)
  have hJT : ∀ j : Nat, 0 ≤ (fay 12 32 j).toInt := fun j => (htx j).2
  refine lv_aload_n hx hb dL_law_432 rfl (lv_at hl 2 rfl) ?_
  refine aw_iconst (v := 1) hx hb hX hbl hbA hS hl hi hi8 (by decide) ⟨by decide, by decide⟩ dL_law_433 dL_law_434 dL_law_435 dL_law_436 dL_law_437 (fun v1 ev1 v2 ev2 => ?_)
  refine aw_iconst (v := 2) hx hb hX hbl hbA hS hl hi hi8 (by decide) ⟨by decide, by decide⟩ dL_law_438 dL_law_439 dL_law_440 dL_law_441 dL_law_442 (fun v3 ev3 v4 ev4 => ?_)
  refine aw_iconst (v := 3) hx hb hX hbl hbA hS hl hi hi8 (by decide) ⟨by decide, by decide⟩ dL_law_443 dL_law_444 dL_law_445 dL_law_446 dL_law_447 (fun v5 ev5 v6 ev6 => ?_)
  refine vp_callSi (W.runV (As := [.int v2, .int v4, .int v6]) (rest := []) ⟨hx, hb, hml, hown, ht⟩ (c_X11_error l dC dI x gx cax ivx lvx fax lax hIx v2 v4 v6) (kV 3 ht m_530 m_531 m_532 m_77 m_533 rfl rfl hd_X11_error_v ⟨Nat.le_of_ble_eq_true rfl, Nat.le_of_ble_eq_true rfl⟩) (vR hPx hKx (rX_11 hKx hPx)) rfl rfl hl.1 rfl (lv_room (Nat.le_of_ble_eq_true rfl)) dL_law_448 ⟨Nat.le_of_ble_eq_true rfl, Nat.le_of_ble_eq_true rfl⟩) (fun r7 hr7 => ?_)
  refine lv_pop hx hb dL_law_451 rfl ?_
  refine lv_aload_n hx hb dL_law_452 rfl (lv_at hl 1 rfl) ?_
  refine aw_iconst (v := 1) hx hb hX hbl hbA hS hl hi hi8 (by decide) ⟨by decide, by decide⟩ dL_law_453 dL_law_454 dL_law_455 dL_law_456 dL_law_457 (fun v8 ev8 v9 ev9 => ?_)
  refine aw_iconst (v := 2) hx hb hX hbl hbA hS hl hi hi8 (by decide) ⟨by decide, by decide⟩ dL_law_458 dL_law_459 dL_law_460 dL_law_461 dL_law_462 (fun v10 ev10 v11 ev11 => ?_)
  refine aw_iconst (v := 3) hx hb hX hbl hbA hS hl hi hi8 (by decide) ⟨by decide, by decide⟩ dL_law_463 dL_law_464 dL_law_465 dL_law_466 dL_law_467 (fun v12 ev12 v13 ev13 => ?_)
  refine vp_callSi (W.runV (As := [.int v9, .int v11, .int v13]) (rest := []) ⟨hx, hb, hml, hown, ht⟩ (c_X12_error l dC dI y gy cay ivy lvy fay lay hIy v9 v11 v13) (kV 3 ht m_1418 m_1419 m_1420 m_89 m_1421 rfl rfl hd_X12_error_v ⟨Nat.le_of_ble_eq_true rfl, Nat.le_of_ble_eq_true rfl⟩) (vR hPy hKy (rM_12 hKy hPy)) rfl rfl hl.1 rfl (lv_room (Nat.le_of_ble_eq_true rfl)) dL_law_468 ⟨Nat.le_of_ble_eq_true rfl, Nat.le_of_ble_eq_true rfl⟩) (fun r14 hr14 => ?_)
  refine lv_pop hx hb dL_law_471 rfl ?_
  refine lv_goto (tgt := 1509) hx hb dL_law_472 (by decide) ?_
  exact kk _ _ ivx lvx fax lax ivy lvy fay lay hIx hIy hJC hJR hJN hJO hq_now hq_bales hq_skeins hq_rules hq_text hq_place hq_papers hrs hls hwd htx hbk hgr hgb hpa hdr hPx hDx hPy hDy hS
set_option maxHeartbeats 4000000 in
set_option maxRecDepth 100000 in
theorem law_7 {p : Program} {e : Env} {s : State} {m : MethodId} {below : List Frame} {meth : Method} {c : Code} (l : Launch) {b L : Nat} {xs : Nat → Int32} (hL : L ≤ 4096) (C0 : lw_At p s m meth c b L xs) {dC : Nat → ClassId} {dI : Nat → Nat → Nat} {A : Nat → Prop} (hA : ∀ q : Nat, s.heap.size ≤ q → A q) (hbA : ¬ A b) (hAs : ∀ q : Nat, A q → s.heap.size ≤ q) {x y : Nat} {gx gy : Nat → Nat → Nat} {cax cay : Nat → Nat → ClassId} {ak av : Nat → Nat} (hKx : va_K (dC, dI) classes (TX cax) s) (hKy : va_K (dC, dI) classes (TM cay) s) (hXY : ∀ a ∈ AdX x gx, ∀ b ∈ AdM y gy, a ≠ b) (hZ : zC ak av A s s.heap) {H : Heap} {locs : List Loc} {ivx : Nat → Nat → Int32} {lvx : Nat → Nat → Int64} {fax : Nat → Nat → Nat → Int32} {lax : Nat → Nat → Nat → Int64} {ivy : Nat → Nat → Int32} {lvy : Nat → Nat → Int64} {fay : Nat → Nat → Nat → Int32} {lay : Nat → Nat → Nat → Int64} (hIx : IX ivx fax) (hIy : IX ivy fay) (hJC : JCf (ivy 12 23).toInt (fay 12 25) (fay 12 26) (fay 12 27) (fay 12 28)) (hJR : JRf (ivy 12 3).toInt (fay 12 7)) (hJN : JNf (ivy 12 3).toInt (fay 12 4) (fay 12 5)) (hJO : ((ivy 12 20).toInt = -1 ∧ (ivy 12 21).toInt = -1 ∧ (ivy 12 22).toInt = -1)) (hq_now : ivx 11 10 = ivy 12 0) (hq_bales : ivx 0 7 = ivy 12 1) (hq_skeins : ivx 10 1 = ivy 12 3) (hq_rules : ivx 1 7 = ivy 12 23) (hq_text : ivx 8 2 = ivy 12 33) (hq_place : ivx 8 3 = ivy 12 36) (hq_papers : ivx 6 7 = ivy 12 67) (hrs : (∀ s : Nat, (s : Int) < (ivy 12 3).toInt → fax 10 0 (9 * s + 0) = fay 12 4 s ∧ fax 10 0 (9 * s + 1) = fay 12 5 s ∧ fax 10 0 (9 * s + 2) = fay 12 6 s ∧ fax 10 0 (9 * s + 3) = fay 12 7 s ∧ fax 10 0 (9 * s + 4) = fay 12 8 s ∧ fax 10 0 (9 * s + 5) = fay 12 9 s ∧ fax 10 0 (9 * s + 6) = fay 12 10 s ∧ fax 10 0 (9 * s + 7) = fay 12 11 s ∧ fax 10 0 (9 * s + 8) = fay 12 12 s)) (hls : (∀ j : Nat, -1 ≤ (fay 12 12 j).toInt)) (hwd : (∀ s : Nat, (s : Int) < (ivy 12 3).toInt → (100 ≤ (fay 12 7 s).toInt ∧ (fay 12 7 s).toInt ≤ 9999) ∧ (50 ≤ (fay 12 8 s).toInt ∧ (fay 12 8 s).toInt ≤ 9999))) (htx : (∀ j : Nat, (fax 8 1 j).toInt = sg (fay 12 32 j).toInt ∧ 0 ≤ (fay 12 32 j).toInt)) (hbk : BkE (ivy 12 23).toInt (fax 1 0) (fax 1 1) (fax 1 2) (fax 1 3) (fax 1 4) (fax 1 5) (fay 12 24) (fay 12 25) (fay 12 26) (fay 12 27) (fay 12 28) (fay 12 29) (fay 12 30) (fay 12 31)) (hgr : (∀ j : Nat, fax 0 0 j = fay 12 2 j)) (hgb : (∀ j : Nat, (j : Int) < (ivx 0 7).toInt → 1 ≤ (fax 0 0 j).toInt ∧ (fax 0 0 j).toInt ≤ 99999)) (hpa : PaE (ivy 12 67).toInt (fax 6 0) (fax 6 1) (fax 6 2) (fax 6 3) (fax 6 4) (fax 6 5) (fay 12 68) (fay 12 69) (lay 12 70) (fay 12 71) (fay 12 72) (fay 12 73)) (hdr : (∀ s : Nat, (s : Int) < (ivy 12 3).toInt → (fay 12 8 s).toInt ≤ (fay 12 7 s).toInt)) (hPx : va_P (dC, dI) classes (WX x gx cax ivx lvx fax lax) H) (hDx : va_D A (WX x gx cax ivx lvx fax lax)) (hPy : va_P (dC, dI) classes (WM y gy cay ivy lvy fay lay) H) (hDy : va_D A (WM y gy cay ivy lvy fay lay)) (hS : va_S A s.heap H locs) {i : Int32} {ls : Array Slot} (hl : lv_has ls 4 [(3, .int i), (2, .ref y), (1, .ref x), (0, .ref b)]) (hi : 0 ≤ i.toInt ∧ i.toInt ≤ 4088) (hi8 : i.toInt + 8 ≤ (L : Int)) (kk : ∀ (H : Heap) (locs : List Loc) (ivx : Nat → Nat → Int32) (lvx : Nat → Nat → Int64) (fax : Nat → Nat → Nat → Int32) (lax : Nat → Nat → Nat → Int64) (ivy : Nat → Nat → Int32) (lvy : Nat → Nat → Int64) (fay : Nat → Nat → Nat → Int32) (lay : Nat → Nat → Nat → Int64), IX ivx fax → IX ivy fay → JCf (ivy 12 23).toInt (fay 12 25) (fay 12 26) (fay 12 27) (fay 12 28) → JRf (ivy 12 3).toInt (fay 12 7) → JNf (ivy 12 3).toInt (fay 12 4) (fay 12 5) → ((ivy 12 20).toInt = -1 ∧ (ivy 12 21).toInt = -1 ∧ (ivy 12 22).toInt = -1) → ivx 11 10 = ivy 12 0 → ivx 0 7 = ivy 12 1 → ivx 10 1 = ivy 12 3 → ivx 1 7 = ivy 12 23 → ivx 8 2 = ivy 12 33 → ivx 8 3 = ivy 12 36 → ivx 6 7 = ivy 12 67 → (∀ s : Nat, (s : Int) < (ivy 12 3).toInt → fax 10 0 (9 * s + 0) = fay 12 4 s ∧ fax 10 0 (9 * s + 1) = fay 12 5 s ∧ fax 10 0 (9 * s + 2) = fay 12 6 s ∧ fax 10 0 (9 * s + 3) = fay 12 7 s ∧ fax 10 0 (9 * s + 4) = fay 12 8 s ∧ fax 10 0 (9 * s + 5) = fay 12 9 s ∧ fax 10 0 (9 * s + 6) = fay 12 10 s ∧ fax 10 0 (9 * s + 7) = fay 12 11 s ∧ fax 10 0 (9 * s + 8) = fay 12 12 s) → (∀ j : Nat, -1 ≤ (fay 12 12 j).toInt) → (∀ s : Nat, (s : Int) < (ivy 12 3).toInt → (100 ≤ (fay 12 7 s).toInt ∧ (fay 12 7 s).toInt ≤ 9999) ∧ (50 ≤ (fay 12 8 s).toInt ∧ (fay 12 8 s).toInt ≤ 9999)) → (∀ j : Nat, (fax 8 1 j).toInt = sg (fay 12 32 j).toInt ∧ 0 ≤ (fay 12 32 j).toInt) → BkE (ivy 12 23).toInt (fax 1 0) (fax 1 1) (fax 1 2) (fax 1 3) (fax 1 4) (fax 1 5) (fay 12 24) (fay 12 25) (fay 12 26) (fay 12 27) (fay 12 28) (fay 12 29) (fay 12 30) (fay 12 31) → (∀ j : Nat, fax 0 0 j = fay 12 2 j) → (∀ j : Nat, (j : Int) < (ivx 0 7).toInt → 1 ≤ (fax 0 0 j).toInt ∧ (fax 0 0 j).toInt ≤ 99999) → PaE (ivy 12 67).toInt (fax 6 0) (fax 6 1) (fax 6 2) (fax 6 3) (fax 6 4) (fax 6 5) (fay 12 68) (fay 12 69) (lay 12 70) (fay 12 71) (fay 12 72) (fay 12 73) → (∀ s : Nat, (s : Int) < (ivy 12 3).toInt → (fay 12 8 s).toInt ≤ (fay 12 7 s).toInt) → va_P (dC, dI) classes (WX x gx cax ivx lvx fax lax) H → va_D A (WX x gx cax ivx lvx fax lax) → va_P (dC, dI) classes (WM y gy cay ivy lvy fay lay) H → va_D A (WM y gy cay ivy lvy fay lay) → va_S A s.heap H locs → W p l e room_1 s m #[Value.ref b] below meth c H locs 98 5431 (lw_Z below #[Value.ref b] s) (F0 m 1509 ls [])) : W p l e room_1 s m #[Value.ref b] below meth c H locs 98 5431 (lw_Z below #[Value.ref b] s) (F0 m 475 ls []) := by
  obtain ⟨hx, hb, hr, hml, hown, hts, hX, hbl, hlocks, hgv⟩ := id C0
  have ht := tb_of hts
  have hJD := hwd
  have hw8 := congrArg Int32.toInt hq_skeins
  have hJW : ∀ s : Nat, (s : Int) < (ivx 10 1).toInt → (100 ≤ (fax 10 0 (9 * s + 3)).toInt ∧ (fax 10 0 (9 * s + 3)).toInt ≤ 9999) ∧ (50 ≤ (fax 10 0 (9 * s + 4)).toInt ∧ (fax 10 0 (9 * s + 4)).toInt ≤ 9999) := fun s hs => by rw [(hrs s (by omega)).2.2.2.1, (hrs s (by omega)).2.2.2.2.1]; exact hwd s (by omega)
  have hw8r := congrArg Int32.toInt hq_rules
  have hJB : ∀ j : Nat, (j : Int) < (ivx 1 7).toInt → 0 ≤ (fax 1 0 j).toInt := fun j hj => (hbk j (by omega)).2.2.1
  have hJK : ∀ k j : Nat, (k : Int) < (ivy 12 23).toInt → 12 * k ≤ j → (j : Int) < 12 * (k : Int) + (fay 12 25 k).toInt → (fay 12 26 j).toInt = 3 → 0 ≤ (fay 12 28 j).toInt ∧ (fay 12 28 j).toInt < (k : Int) := bk_K hbk
  have hw8b := congrArg Int32.toInt hq_bales
  have hJF : ∀ a d v : Int, 0 ≤ a → a ≤ 5 → FoX (ivx 1 7).toInt (fax 1 0) (fax 1 1) (fax 1 2) (fax 1 3) a d v → fLo a ≤ v ∧ v ≤ fHi a := fun a d v h1 h2 x => by rw [hq_rules] at x; exact FoX_b hbk ⟨h1, h2⟩ x
  have hJH : ∀ a d v : Int, 0 ≤ a → a ≤ 5 → FoY (ivy 12 23).toInt (fay 12 24) (fay 12 25) (fay 12 26) (fay 12 27) (fay 12 28) a d v → fLo a ≤ v ∧ v ≤ fHi a := fun a d v h1 h2 x => FoY_b hbk ⟨h1, h2⟩ x
  have hJG := hgb
  have hJI : ∀ j : Nat, (j : Int) < (ivy 12 1).toInt → 1 ≤ (fay 12 2 j).toInt ∧ (fay 12 2 j).toInt ≤ 99999 := fun j hj => by rw [← hgr j]; exact hgb j (by omega)
  have hJL : ∀ b l : Int32, cn0 (fun s => fax 10 0 (9 * s + 0)) (fun s => fax 10 0 (9 * s + 1)) b l (ivx 10 1).toInt.toNat ≤ 12 := fun b l => by rw [hq_skeins, cn0_congr (ob := fay 12 4) (ol := fay 12 5) _ (fun j hj => ⟨(hrs j (by omega)).1, (hrs j (by omega)).2.1⟩)]; exact hJN b l
  have hw8p := congrArg Int32.toInt hq_papers
  have hJQ : ∀ p : Nat, (p : Int) < (ivy 12 67).toInt → 0 ≤ (lay 12 70 p).toInt ∧ ((fay 12 68 p).toInt = 0 → (lay 12 70 p).toInt ≤ 129998) ∧ (lay 12 70 p).toInt ≤ 129868002 ∧ -1 ≤ (fay 12 71 p).toInt ∧ (fay 12 71 p).toInt < (p : Int) := fun p hp => ⟨(hpa p hp).2.2.1, (hpa p hp).2.2.2.1, (hpa p hp).2.2.2.2.1, (hpa p hp).2.2.2.2.2.1, (hpa p hp).2.2.2.2.2.2.1⟩
  have hJP : ∀ p : Nat, (p : Int) < (ivx 6 7).toInt → 0 ≤ (fax 6 2 p).toInt ∧ ((fax 6 0 p).toInt = 0 → (fax 6 2 p).toInt ≤ 129998) ∧ (fax 6 2 p).toInt ≤ 129868002 ∧ -1 ≤ (fax 6 3 p).toInt ∧ (fax 6 3 p).toInt < (p : Int) := fun p hp => by rw [(hpa p (by omega)).1.1, (hpa p (by omega)).1.2.2.1, (hpa p (by omega)).1.2.2.2.1]; exact hJQ p (by omega)
  have hJS : ∀ s : Nat, (s : Int) < (ivx 10 1).toInt → (fax 10 0 (9 * s + 4)).toInt ≤ (fax 10 0 (9 * s + 3)).toInt := fun s hs => by rw [(hrs s (by omega)).2.2.2.1, (hrs s (by omega)).2.2.2.2.1]; exact hdr s (by omega)
  have hJT : ∀ j : Nat, 0 ≤ (fay 12 32 j).toInt := fun j => (htx j).2
  refine lv_aload_n hx hb dL_law_475 rfl (lv_at hl 2 rfl) ?_
  refine aw_iconst (v := 1) hx hb hX hbl hbA hS hl hi hi8 (by decide) ⟨by decide, by decide⟩ dL_law_476 dL_law_477 dL_law_478 dL_law_479 dL_law_480 (fun v1 ev1 v2 ev2 => ?_)
  refine aw_iconst (v := 2) hx hb hX hbl hbA hS hl hi hi8 (by decide) ⟨by decide, by decide⟩ dL_law_481 dL_law_482 dL_law_483 dL_law_484 dL_law_485 (fun v3 ev3 v4 ev4 => ?_)
  refine aw_iconst (v := 3) hx hb hX hbl hbA hS hl hi hi8 (by decide) ⟨by decide, by decide⟩ dL_law_486 dL_law_487 dL_law_488 dL_law_489 dL_law_490 (fun v5 ev5 v6 ev6 => ?_)
  have hFc := free_all hDx hS hA
  refine va_calli (va_runV (As := [.int v2, .int v4, .int v6]) (rest := []) ⟨hx, hb, hml, hown, ht⟩ (c_X11_ratio l dC dI H.size x gx cax ivx lvx fax lax hIx v2 v4 v6) (kV 3 ht m_560 m_561 m_562 m_77 m_563 rfl rfl hd_X11_ratio_v ⟨Nat.le_of_ble_eq_true rfl, Nat.le_of_ble_eq_true rfl⟩) (vW hPx hKx hDx (rX_11 hKx hPx)) rfl rfl hl.1 rfl (lv_room (Nat.le_of_ble_eq_true rfl)) dL_law_491 ⟨Nat.le_of_ble_eq_true rfl, Nat.le_of_ble_eq_true rfl⟩) hS (fun q _ h => hFc q h) hFc (fun r7 u t H1 locs ht9 hvm hr7 hB hz1 hk1 hS => ?_)
  obtain ⟨n8, n9, n10, hr7, rfl⟩ := hr7
  obtain ⟨hPx, hDx⟩ := hB
  rw [ht9] at hPx
  have hPy := P_kept hPy (la := AdM y gy) (lb := AdX x gx) wmM wmX (fun a ha b hb => (hXY b hb a ha).symm) hk1
  generalize H1 = H at hPx hPy hS ⊢
  have hPx : va_P (dC, dI) classes (WX x gx cax ivx lvx (u2 fax 30 2 n8) (u2 (u2 lax 30 0 n9) 30 1 n10)) H := hPx
  have hDx : va_D A (WX x gx cax ivx lvx (u2 fax 30 2 n8) (u2 (u2 lax 30 0 n9) 30 1 n10)) := (show va_D _ (WX x gx cax ivx lvx (u2 fax 30 2 n8) (u2 (u2 lax 30 0 n9) 30 1 n10)) from hDx).weaken (fun _ _ _ h => hFc _ h)
  refine lv_pop hx hb dL_law_494 rfl ?_
  refine lv_aload_n hx hb dL_law_495 rfl (lv_at hl 1 rfl) ?_
  refine aw_iconst (v := 1) hx hb hX hbl hbA hS hl hi hi8 (by decide) ⟨by decide, by decide⟩ dL_law_496 dL_law_497 dL_law_498 dL_law_499 dL_law_500 (fun v11 ev11 v12 ev12 => ?_)
  refine aw_iconst (v := 2) hx hb hX hbl hbA hS hl hi hi8 (by decide) ⟨by decide, by decide⟩ dL_law_501 dL_law_502 dL_law_503 dL_law_504 dL_law_505 (fun v13 ev13 v14 ev14 => ?_)
  refine aw_iconst (v := 3) hx hb hX hbl hbA hS hl hi hi8 (by decide) ⟨by decide, by decide⟩ dL_law_506 dL_law_507 dL_law_508 dL_law_509 dL_law_510 (fun v15 ev15 v16 ev16 => ?_)
  have hFc := free_all hDy hS hA
  refine va_calli (va_runV (As := [.int v12, .int v14, .int v16]) (rest := []) ⟨hx, hb, hml, hown, ht⟩ (c_X12_ratio l dC dI H.size y gy cay ivy lvy fay lay hIy v12 v14 v16 hJR) (kV 3 ht m_1430 m_1431 m_1432 m_89 m_1433 rfl rfl hd_X12_ratio_v ⟨Nat.le_of_ble_eq_true rfl, Nat.le_of_ble_eq_true rfl⟩) (vW hPy hKy hDy (rM_12 hKy hPy)) rfl rfl hl.1 rfl (lv_room (Nat.le_of_ble_eq_true rfl)) dL_law_511 ⟨Nat.le_of_ble_eq_true rfl, Nat.le_of_ble_eq_true rfl⟩) hS (fun q _ h => hFc q h) hFc (fun r17 u t H1 locs ht9 hvm hr17 hB hz1 hk1 hS => ?_)
  obtain ⟨n18, n19, n20, hr17, rfl⟩ := hr17
  obtain ⟨hPy, hDy⟩ := hB
  rw [ht9] at hPy
  have hPx := P_kept hPx (la := AdX x gx) (lb := AdM y gy) wmX wmM hXY hk1
  generalize H1 = H at hPx hPy hS ⊢
  have hPy : va_P (dC, dI) classes (WM y gy cay (u2 ivy 12 19 n18) (u2 (u2 lvy 12 17 n19) 12 18 n20) fay lay) H := hPy
  have hDy : va_D A (WM y gy cay (u2 ivy 12 19 n18) (u2 (u2 lvy 12 17 n19) 12 18 n20) fay lay) := (show va_D _ (WM y gy cay (u2 ivy 12 19 n18) (u2 (u2 lvy 12 17 n19) 12 18 n20) fay lay) from hDy).weaken (fun _ _ _ h => hFc _ h)
  refine lv_pop hx hb dL_law_514 rfl ?_
  refine lv_goto (tgt := 1509) hx hb dL_law_515 (by decide) ?_
  exact kk _ _ ivx lvx (u2 fax 30 2 n8) (u2 (u2 lax 30 0 n9) 30 1 n10) (u2 ivy 12 19 n18) (u2 (u2 lvy 12 17 n19) 12 18 n20) fay lay (IX_a (c := 30) (k := 2) hIx (fun j => full_i _)) (IX_i (c := 12) (k := 19) hIy (full_i _)) hJC hJR hJN hJO hq_now hq_bales hq_skeins hq_rules hq_text hq_place hq_papers hrs hls hwd htx hbk hgr hgb hpa hdr hPx hDx hPy hDy hS
set_option maxHeartbeats 4000000 in
set_option maxRecDepth 100000 in
theorem law_8 {p : Program} {e : Env} {s : State} {m : MethodId} {below : List Frame} {meth : Method} {c : Code} (l : Launch) {b L : Nat} {xs : Nat → Int32} (hL : L ≤ 4096) (C0 : lw_At p s m meth c b L xs) {dC : Nat → ClassId} {dI : Nat → Nat → Nat} {A : Nat → Prop} (hA : ∀ q : Nat, s.heap.size ≤ q → A q) (hbA : ¬ A b) (hAs : ∀ q : Nat, A q → s.heap.size ≤ q) {x y : Nat} {gx gy : Nat → Nat → Nat} {cax cay : Nat → Nat → ClassId} {ak av : Nat → Nat} (hKx : va_K (dC, dI) classes (TX cax) s) (hKy : va_K (dC, dI) classes (TM cay) s) (hXY : ∀ a ∈ AdX x gx, ∀ b ∈ AdM y gy, a ≠ b) (hZ : zC ak av A s s.heap) {H : Heap} {locs : List Loc} {ivx : Nat → Nat → Int32} {lvx : Nat → Nat → Int64} {fax : Nat → Nat → Nat → Int32} {lax : Nat → Nat → Nat → Int64} {ivy : Nat → Nat → Int32} {lvy : Nat → Nat → Int64} {fay : Nat → Nat → Nat → Int32} {lay : Nat → Nat → Nat → Int64} (hIx : IX ivx fax) (hIy : IX ivy fay) (hJC : JCf (ivy 12 23).toInt (fay 12 25) (fay 12 26) (fay 12 27) (fay 12 28)) (hJR : JRf (ivy 12 3).toInt (fay 12 7)) (hJN : JNf (ivy 12 3).toInt (fay 12 4) (fay 12 5)) (hJO : ((ivy 12 20).toInt = -1 ∧ (ivy 12 21).toInt = -1 ∧ (ivy 12 22).toInt = -1)) (hq_now : ivx 11 10 = ivy 12 0) (hq_bales : ivx 0 7 = ivy 12 1) (hq_skeins : ivx 10 1 = ivy 12 3) (hq_rules : ivx 1 7 = ivy 12 23) (hq_text : ivx 8 2 = ivy 12 33) (hq_place : ivx 8 3 = ivy 12 36) (hq_papers : ivx 6 7 = ivy 12 67) (hrs : (∀ s : Nat, (s : Int) < (ivy 12 3).toInt → fax 10 0 (9 * s + 0) = fay 12 4 s ∧ fax 10 0 (9 * s + 1) = fay 12 5 s ∧ fax 10 0 (9 * s + 2) = fay 12 6 s ∧ fax 10 0 (9 * s + 3) = fay 12 7 s ∧ fax 10 0 (9 * s + 4) = fay 12 8 s ∧ fax 10 0 (9 * s + 5) = fay 12 9 s ∧ fax 10 0 (9 * s + 6) = fay 12 10 s ∧ fax 10 0 (9 * s + 7) = fay 12 11 s ∧ fax 10 0 (9 * s + 8) = fay 12 12 s)) (hls : (∀ j : Nat, -1 ≤ (fay 12 12 j).toInt)) (hwd : (∀ s : Nat, (s : Int) < (ivy 12 3).toInt → (100 ≤ (fay 12 7 s).toInt ∧ (fay 12 7 s).toInt ≤ 9999) ∧ (50 ≤ (fay 12 8 s).toInt ∧ (fay 12 8 s).toInt ≤ 9999))) (htx : (∀ j : Nat, (fax 8 1 j).toInt = sg (fay 12 32 j).toInt ∧ 0 ≤ (fay 12 32 j).toInt)) (hbk : BkE (ivy 12 23).toInt (fax 1 0) (fax 1 1) (fax 1 2) (fax 1 3) (fax 1 4) (fax 1 5) (fay 12 24) (fay 12 25) (fay 12 26) (fay 12 27) (fay 12 28) (fay 12 29) (fay 12 30) (fay 12 31)) (hgr : (∀ j : Nat, fax 0 0 j = fay 12 2 j)) (hgb : (∀ j : Nat, (j : Int) < (ivx 0 7).toInt → 1 ≤ (fax 0 0 j).toInt ∧ (fax 0 0 j).toInt ≤ 99999)) (hpa : PaE (ivy 12 67).toInt (fax 6 0) (fax 6 1) (fax 6 2) (fax 6 3) (fax 6 4) (fax 6 5) (fay 12 68) (fay 12 69) (lay 12 70) (fay 12 71) (fay 12 72) (fay 12 73)) (hdr : (∀ s : Nat, (s : Int) < (ivy 12 3).toInt → (fay 12 8 s).toInt ≤ (fay 12 7 s).toInt)) (hPx : va_P (dC, dI) classes (WX x gx cax ivx lvx fax lax) H) (hDx : va_D A (WX x gx cax ivx lvx fax lax)) (hPy : va_P (dC, dI) classes (WM y gy cay ivy lvy fay lay) H) (hDy : va_D A (WM y gy cay ivy lvy fay lay)) (hS : va_S A s.heap H locs) {i : Int32} {ls : Array Slot} (hl : lv_has ls 4 [(3, .int i), (2, .ref y), (1, .ref x), (0, .ref b)]) (hi : 0 ≤ i.toInt ∧ i.toInt ≤ 4088) (hi8 : i.toInt + 8 ≤ (L : Int)) (kk : ∀ (H : Heap) (locs : List Loc) (ivx : Nat → Nat → Int32) (lvx : Nat → Nat → Int64) (fax : Nat → Nat → Nat → Int32) (lax : Nat → Nat → Nat → Int64) (ivy : Nat → Nat → Int32) (lvy : Nat → Nat → Int64) (fay : Nat → Nat → Nat → Int32) (lay : Nat → Nat → Nat → Int64), IX ivx fax → IX ivy fay → JCf (ivy 12 23).toInt (fay 12 25) (fay 12 26) (fay 12 27) (fay 12 28) → JRf (ivy 12 3).toInt (fay 12 7) → JNf (ivy 12 3).toInt (fay 12 4) (fay 12 5) → ((ivy 12 20).toInt = -1 ∧ (ivy 12 21).toInt = -1 ∧ (ivy 12 22).toInt = -1) → ivx 11 10 = ivy 12 0 → ivx 0 7 = ivy 12 1 → ivx 10 1 = ivy 12 3 → ivx 1 7 = ivy 12 23 → ivx 8 2 = ivy 12 33 → ivx 8 3 = ivy 12 36 → ivx 6 7 = ivy 12 67 → (∀ s : Nat, (s : Int) < (ivy 12 3).toInt → fax 10 0 (9 * s + 0) = fay 12 4 s ∧ fax 10 0 (9 * s + 1) = fay 12 5 s ∧ fax 10 0 (9 * s + 2) = fay 12 6 s ∧ fax 10 0 (9 * s + 3) = fay 12 7 s ∧ fax 10 0 (9 * s + 4) = fay 12 8 s ∧ fax 10 0 (9 * s + 5) = fay 12 9 s ∧ fax 10 0 (9 * s + 6) = fay 12 10 s ∧ fax 10 0 (9 * s + 7) = fay 12 11 s ∧ fax 10 0 (9 * s + 8) = fay 12 12 s) → (∀ j : Nat, -1 ≤ (fay 12 12 j).toInt) → (∀ s : Nat, (s : Int) < (ivy 12 3).toInt → (100 ≤ (fay 12 7 s).toInt ∧ (fay 12 7 s).toInt ≤ 9999) ∧ (50 ≤ (fay 12 8 s).toInt ∧ (fay 12 8 s).toInt ≤ 9999)) → (∀ j : Nat, (fax 8 1 j).toInt = sg (fay 12 32 j).toInt ∧ 0 ≤ (fay 12 32 j).toInt) → BkE (ivy 12 23).toInt (fax 1 0) (fax 1 1) (fax 1 2) (fax 1 3) (fax 1 4) (fax 1 5) (fay 12 24) (fay 12 25) (fay 12 26) (fay 12 27) (fay 12 28) (fay 12 29) (fay 12 30) (fay 12 31) → (∀ j : Nat, fax 0 0 j = fay 12 2 j) → (∀ j : Nat, (j : Int) < (ivx 0 7).toInt → 1 ≤ (fax 0 0 j).toInt ∧ (fax 0 0 j).toInt ≤ 99999) → PaE (ivy 12 67).toInt (fax 6 0) (fax 6 1) (fax 6 2) (fax 6 3) (fax 6 4) (fax 6 5) (fay 12 68) (fay 12 69) (lay 12 70) (fay 12 71) (fay 12 72) (fay 12 73) → (∀ s : Nat, (s : Int) < (ivy 12 3).toInt → (fay 12 8 s).toInt ≤ (fay 12 7 s).toInt) → va_P (dC, dI) classes (WX x gx cax ivx lvx fax lax) H → va_D A (WX x gx cax ivx lvx fax lax) → va_P (dC, dI) classes (WM y gy cay ivy lvy fay lay) H → va_D A (WM y gy cay ivy lvy fay lay) → va_S A s.heap H locs → W p l e room_1 s m #[Value.ref b] below meth c H locs 98 5431 (lw_Z below #[Value.ref b] s) (F0 m 1509 ls [])) : W p l e room_1 s m #[Value.ref b] below meth c H locs 98 5431 (lw_Z below #[Value.ref b] s) (F0 m 518 ls []) := by
  obtain ⟨hx, hb, hr, hml, hown, hts, hX, hbl, hlocks, hgv⟩ := id C0
  have ht := tb_of hts
  have hJD := hwd
  have hw8 := congrArg Int32.toInt hq_skeins
  have hJW : ∀ s : Nat, (s : Int) < (ivx 10 1).toInt → (100 ≤ (fax 10 0 (9 * s + 3)).toInt ∧ (fax 10 0 (9 * s + 3)).toInt ≤ 9999) ∧ (50 ≤ (fax 10 0 (9 * s + 4)).toInt ∧ (fax 10 0 (9 * s + 4)).toInt ≤ 9999) := fun s hs => by rw [(hrs s (by omega)).2.2.2.1, (hrs s (by omega)).2.2.2.2.1]; exact hwd s (by omega)
  have hw8r := congrArg Int32.toInt hq_rules
  have hJB : ∀ j : Nat, (j : Int) < (ivx 1 7).toInt → 0 ≤ (fax 1 0 j).toInt := fun j hj => (hbk j (by omega)).2.2.1
  have hJK : ∀ k j : Nat, (k : Int) < (ivy 12 23).toInt → 12 * k ≤ j → (j : Int) < 12 * (k : Int) + (fay 12 25 k).toInt → (fay 12 26 j).toInt = 3 → 0 ≤ (fay 12 28 j).toInt ∧ (fay 12 28 j).toInt < (k : Int) := bk_K hbk
  have hw8b := congrArg Int32.toInt hq_bales
  have hJF : ∀ a d v : Int, 0 ≤ a → a ≤ 5 → FoX (ivx 1 7).toInt (fax 1 0) (fax 1 1) (fax 1 2) (fax 1 3) a d v → fLo a ≤ v ∧ v ≤ fHi a := fun a d v h1 h2 x => by rw [hq_rules] at x; exact FoX_b hbk ⟨h1, h2⟩ x
  have hJH : ∀ a d v : Int, 0 ≤ a → a ≤ 5 → FoY (ivy 12 23).toInt (fay 12 24) (fay 12 25) (fay 12 26) (fay 12 27) (fay 12 28) a d v → fLo a ≤ v ∧ v ≤ fHi a := fun a d v h1 h2 x => FoY_b hbk ⟨h1, h2⟩ x
  have hJG := hgb
  have hJI : ∀ j : Nat, (j : Int) < (ivy 12 1).toInt → 1 ≤ (fay 12 2 j).toInt ∧ (fay 12 2 j).toInt ≤ 99999 := fun j hj => by rw [← hgr j]; exact hgb j (by omega)
  have hJL : ∀ b l : Int32, cn0 (fun s => fax 10 0 (9 * s + 0)) (fun s => fax 10 0 (9 * s + 1)) b l (ivx 10 1).toInt.toNat ≤ 12 := fun b l => by rw [hq_skeins, cn0_congr (ob := fay 12 4) (ol := fay 12 5) _ (fun j hj => ⟨(hrs j (by omega)).1, (hrs j (by omega)).2.1⟩)]; exact hJN b l
  have hw8p := congrArg Int32.toInt hq_papers
  have hJQ : ∀ p : Nat, (p : Int) < (ivy 12 67).toInt → 0 ≤ (lay 12 70 p).toInt ∧ ((fay 12 68 p).toInt = 0 → (lay 12 70 p).toInt ≤ 129998) ∧ (lay 12 70 p).toInt ≤ 129868002 ∧ -1 ≤ (fay 12 71 p).toInt ∧ (fay 12 71 p).toInt < (p : Int) := fun p hp => ⟨(hpa p hp).2.2.1, (hpa p hp).2.2.2.1, (hpa p hp).2.2.2.2.1, (hpa p hp).2.2.2.2.2.1, (hpa p hp).2.2.2.2.2.2.1⟩
  have hJP : ∀ p : Nat, (p : Int) < (ivx 6 7).toInt → 0 ≤ (fax 6 2 p).toInt ∧ ((fax 6 0 p).toInt = 0 → (fax 6 2 p).toInt ≤ 129998) ∧ (fax 6 2 p).toInt ≤ 129868002 ∧ -1 ≤ (fax 6 3 p).toInt ∧ (fax 6 3 p).toInt < (p : Int) := fun p hp => by rw [(hpa p (by omega)).1.1, (hpa p (by omega)).1.2.2.1, (hpa p (by omega)).1.2.2.2.1]; exact hJQ p (by omega)
  have hJS : ∀ s : Nat, (s : Int) < (ivx 10 1).toInt → (fax 10 0 (9 * s + 4)).toInt ≤ (fax 10 0 (9 * s + 3)).toInt := fun s hs => by rw [(hrs s (by omega)).2.2.2.1, (hrs s (by omega)).2.2.2.2.1]; exact hdr s (by omega)
  have hJT : ∀ j : Nat, 0 ≤ (fay 12 32 j).toInt := fun j => (htx j).2
  refine lv_aload_n hx hb dL_law_518 rfl (lv_at hl 2 rfl) ?_
  refine aw_iconst (v := 1) hx hb hX hbl hbA hS hl hi hi8 (by decide) ⟨by decide, by decide⟩ dL_law_519 dL_law_520 dL_law_521 dL_law_522 dL_law_523 (fun v1 ev1 v2 ev2 => ?_)
  have hFc := free_all hDx hS hA
  refine va_calli (va_runV (As := [.int v2]) (rest := []) ⟨hx, hb, hml, hown, ht⟩ (c_X11_count l dC dI H.size ak av x gx cax ivx lvx fax lax hIx v2) (kV 1 ht m_587 m_588 m_589 m_77 m_590 rfl rfl hd_X11_count_v ⟨Nat.le_of_ble_eq_true rfl, Nat.le_of_ble_eq_true rfl⟩) (vWZ hPx hKx hDx ((hZ.kept hS.2.1).narrow (free_all hDx hS hA)) (rX_11 hKx hPx)) rfl rfl hl.1 rfl (lv_room (Nat.le_of_ble_eq_true rfl)) dL_law_524 ⟨Nat.le_of_ble_eq_true rfl, Nat.le_of_ble_eq_true rfl⟩) hS (fun q _ h => hFc q h) hFc (fun r3 u t H1 locs ht9 hvm hr3 hB hz1 hk1 hS => ?_)
  obtain ⟨n4, n5, n6, n7, n8, n9, hn4, hn8, hn9, hr3, rfl⟩ := hr3
  obtain ⟨hPx, hDx⟩ := hB
  rw [ht9] at hPx
  have hPy := P_kept hPy (la := AdM y gy) (lb := AdX x gx) wmM wmX (fun a ha b hb => (hXY b hb a ha).symm) hk1
  generalize H1 = H at hPx hPy hS ⊢
  have hPx : va_P (dC, dI) classes (WX x gx cax (u2 (u2 ivx 3 3 n8) 3 4 n9) lvx (u2 (u2 fax 1 6 n4) 30 2 n5) (u2 (u2 lax 30 0 n6) 30 1 n7)) H := hPx
  have hDx : va_D A (WX x gx cax (u2 (u2 ivx 3 3 n8) 3 4 n9) lvx (u2 (u2 fax 1 6 n4) 30 2 n5) (u2 (u2 lax 30 0 n6) 30 1 n7)) := (show va_D _ (WX x gx cax (u2 (u2 ivx 3 3 n8) 3 4 n9) lvx (u2 (u2 fax 1 6 n4) 30 2 n5) (u2 (u2 lax 30 0 n6) 30 1 n7)) from hDx).weaken (fun _ _ _ h => hFc _ h)
  refine lv_pop hx hb dL_law_527 rfl ?_
  refine lv_aload_n hx hb dL_law_528 rfl (lv_at hl 1 rfl) ?_
  refine aw_iconst (v := 1) hx hb hX hbl hbA hS hl hi hi8 (by decide) ⟨by decide, by decide⟩ dL_law_529 dL_law_530 dL_law_531 dL_law_532 dL_law_533 (fun v10 ev10 v11 ev11 => ?_)
  have hFc := free_all hDy hS hA
  refine va_calli (va_runV (As := [.int v11]) (rest := []) ⟨hx, hb, hml, hown, ht⟩ (c_X12_count l dC dI H.size y gy cay ivy lvy fay lay hIy v11 hJC hJR) (kV 1 ht m_1708 m_1709 m_1710 m_89 m_1711 rfl rfl hd_X12_count_v ⟨Nat.le_of_ble_eq_true rfl, Nat.le_of_ble_eq_true rfl⟩) (vW hPy hKy hDy (rM_12 hKy hPy)) rfl rfl hl.1 rfl (lv_room (Nat.le_of_ble_eq_true rfl)) dL_law_534 ⟨Nat.le_of_ble_eq_true rfl, Nat.le_of_ble_eq_true rfl⟩) hS (fun q _ h => hFc q h) hFc (fun r12 u t H1 locs ht9 hvm hr12 hB hz1 hk1 hS => ?_)
  obtain ⟨n13, n14, n15, n16, n17, n18, n19, n20, n21, n22, hn13, hn14, hn18, hr12, rfl⟩ := hr12
  obtain ⟨hPy, hDy⟩ := hB
  rw [ht9] at hPy
  have hPx := P_kept hPx (la := AdX x gx) (lb := AdM y gy) wmX wmM hXY hk1
  generalize H1 = H at hPx hPy hS ⊢
  have hPy : va_P (dC, dI) classes (WM y gy cay (u2 (u2 ivy 12 19 n17) 12 41 n18) (u2 (u2 (u2 (u2 lvy 12 17 n19) 12 18 n20) 12 44 n21) 12 45 n22) (u2 (u2 fay 12 39 n13) 12 40 n14) (u2 (u2 lay 12 42 n15) 12 43 n16)) H := hPy
  have hDy : va_D A (WM y gy cay (u2 (u2 ivy 12 19 n17) 12 41 n18) (u2 (u2 (u2 (u2 lvy 12 17 n19) 12 18 n20) 12 44 n21) 12 45 n22) (u2 (u2 fay 12 39 n13) 12 40 n14) (u2 (u2 lay 12 42 n15) 12 43 n16)) := (show va_D _ (WM y gy cay (u2 (u2 ivy 12 19 n17) 12 41 n18) (u2 (u2 (u2 (u2 lvy 12 17 n19) 12 18 n20) 12 44 n21) 12 45 n22) (u2 (u2 fay 12 39 n13) 12 40 n14) (u2 (u2 lay 12 42 n15) 12 43 n16)) from hDy).weaken (fun _ _ _ h => hFc _ h)
  refine lv_pop hx hb dL_law_537 rfl ?_
  refine lv_goto (tgt := 1509) hx hb dL_law_538 (by decide) ?_
  exact kk _ _ (u2 (u2 ivx 3 3 n8) 3 4 n9) lvx (u2 (u2 fax 1 6 n4) 30 2 n5) (u2 (u2 lax 30 0 n6) 30 1 n7) (u2 (u2 ivy 12 19 n17) 12 41 n18) (u2 (u2 (u2 (u2 lvy 12 17 n19) 12 18 n20) 12 44 n21) 12 45 n22) (u2 (u2 fay 12 39 n13) 12 40 n14) (u2 (u2 lay 12 42 n15) 12 43 n16) (IX_a (c := 30) (k := 2) (IX_a (c := 1) (k := 6) (IX_i (c := 3) (k := 4) (IX_i (c := 3) (k := 3) hIx hn8) hn9) hn4) (fun j => full_i _)) (IX_a (c := 12) (k := 40) (IX_a (c := 12) (k := 39) (IX_i (c := 12) (k := 41) (IX_i (c := 12) (k := 19) hIy (full_i _)) hn18) hn13) hn14) hJC hJR hJN hJO hq_now hq_bales hq_skeins hq_rules hq_text hq_place hq_papers hrs hls hwd htx hbk hgr hgb hpa hdr hPx hDx hPy hDy hS
set_option maxHeartbeats 4000000 in
set_option maxRecDepth 100000 in
theorem law_9 {p : Program} {e : Env} {s : State} {m : MethodId} {below : List Frame} {meth : Method} {c : Code} (l : Launch) {b L : Nat} {xs : Nat → Int32} (hL : L ≤ 4096) (C0 : lw_At p s m meth c b L xs) {dC : Nat → ClassId} {dI : Nat → Nat → Nat} {A : Nat → Prop} (hA : ∀ q : Nat, s.heap.size ≤ q → A q) (hbA : ¬ A b) (hAs : ∀ q : Nat, A q → s.heap.size ≤ q) {x y : Nat} {gx gy : Nat → Nat → Nat} {cax cay : Nat → Nat → ClassId} {ak av : Nat → Nat} (hKx : va_K (dC, dI) classes (TX cax) s) (hKy : va_K (dC, dI) classes (TM cay) s) (hXY : ∀ a ∈ AdX x gx, ∀ b ∈ AdM y gy, a ≠ b) (hZ : zC ak av A s s.heap) {H : Heap} {locs : List Loc} {ivx : Nat → Nat → Int32} {lvx : Nat → Nat → Int64} {fax : Nat → Nat → Nat → Int32} {lax : Nat → Nat → Nat → Int64} {ivy : Nat → Nat → Int32} {lvy : Nat → Nat → Int64} {fay : Nat → Nat → Nat → Int32} {lay : Nat → Nat → Nat → Int64} (hIx : IX ivx fax) (hIy : IX ivy fay) (hJC : JCf (ivy 12 23).toInt (fay 12 25) (fay 12 26) (fay 12 27) (fay 12 28)) (hJR : JRf (ivy 12 3).toInt (fay 12 7)) (hJN : JNf (ivy 12 3).toInt (fay 12 4) (fay 12 5)) (hJO : ((ivy 12 20).toInt = -1 ∧ (ivy 12 21).toInt = -1 ∧ (ivy 12 22).toInt = -1)) (hq_now : ivx 11 10 = ivy 12 0) (hq_bales : ivx 0 7 = ivy 12 1) (hq_skeins : ivx 10 1 = ivy 12 3) (hq_rules : ivx 1 7 = ivy 12 23) (hq_text : ivx 8 2 = ivy 12 33) (hq_place : ivx 8 3 = ivy 12 36) (hq_papers : ivx 6 7 = ivy 12 67) (hrs : (∀ s : Nat, (s : Int) < (ivy 12 3).toInt → fax 10 0 (9 * s + 0) = fay 12 4 s ∧ fax 10 0 (9 * s + 1) = fay 12 5 s ∧ fax 10 0 (9 * s + 2) = fay 12 6 s ∧ fax 10 0 (9 * s + 3) = fay 12 7 s ∧ fax 10 0 (9 * s + 4) = fay 12 8 s ∧ fax 10 0 (9 * s + 5) = fay 12 9 s ∧ fax 10 0 (9 * s + 6) = fay 12 10 s ∧ fax 10 0 (9 * s + 7) = fay 12 11 s ∧ fax 10 0 (9 * s + 8) = fay 12 12 s)) (hls : (∀ j : Nat, -1 ≤ (fay 12 12 j).toInt)) (hwd : (∀ s : Nat, (s : Int) < (ivy 12 3).toInt → (100 ≤ (fay 12 7 s).toInt ∧ (fay 12 7 s).toInt ≤ 9999) ∧ (50 ≤ (fay 12 8 s).toInt ∧ (fay 12 8 s).toInt ≤ 9999))) (htx : (∀ j : Nat, (fax 8 1 j).toInt = sg (fay 12 32 j).toInt ∧ 0 ≤ (fay 12 32 j).toInt)) (hbk : BkE (ivy 12 23).toInt (fax 1 0) (fax 1 1) (fax 1 2) (fax 1 3) (fax 1 4) (fax 1 5) (fay 12 24) (fay 12 25) (fay 12 26) (fay 12 27) (fay 12 28) (fay 12 29) (fay 12 30) (fay 12 31)) (hgr : (∀ j : Nat, fax 0 0 j = fay 12 2 j)) (hgb : (∀ j : Nat, (j : Int) < (ivx 0 7).toInt → 1 ≤ (fax 0 0 j).toInt ∧ (fax 0 0 j).toInt ≤ 99999)) (hpa : PaE (ivy 12 67).toInt (fax 6 0) (fax 6 1) (fax 6 2) (fax 6 3) (fax 6 4) (fax 6 5) (fay 12 68) (fay 12 69) (lay 12 70) (fay 12 71) (fay 12 72) (fay 12 73)) (hdr : (∀ s : Nat, (s : Int) < (ivy 12 3).toInt → (fay 12 8 s).toInt ≤ (fay 12 7 s).toInt)) (hPx : va_P (dC, dI) classes (WX x gx cax ivx lvx fax lax) H) (hDx : va_D A (WX x gx cax ivx lvx fax lax)) (hPy : va_P (dC, dI) classes (WM y gy cay ivy lvy fay lay) H) (hDy : va_D A (WM y gy cay ivy lvy fay lay)) (hS : va_S A s.heap H locs) {i : Int32} {ls : Array Slot} (hl : lv_has ls 4 [(3, .int i), (2, .ref y), (1, .ref x), (0, .ref b)]) (hi : 0 ≤ i.toInt ∧ i.toInt ≤ 4088) (hi8 : i.toInt + 8 ≤ (L : Int)) (kk : ∀ (H : Heap) (locs : List Loc) (ivx : Nat → Nat → Int32) (lvx : Nat → Nat → Int64) (fax : Nat → Nat → Nat → Int32) (lax : Nat → Nat → Nat → Int64) (ivy : Nat → Nat → Int32) (lvy : Nat → Nat → Int64) (fay : Nat → Nat → Nat → Int32) (lay : Nat → Nat → Nat → Int64), IX ivx fax → IX ivy fay → JCf (ivy 12 23).toInt (fay 12 25) (fay 12 26) (fay 12 27) (fay 12 28) → JRf (ivy 12 3).toInt (fay 12 7) → JNf (ivy 12 3).toInt (fay 12 4) (fay 12 5) → ((ivy 12 20).toInt = -1 ∧ (ivy 12 21).toInt = -1 ∧ (ivy 12 22).toInt = -1) → ivx 11 10 = ivy 12 0 → ivx 0 7 = ivy 12 1 → ivx 10 1 = ivy 12 3 → ivx 1 7 = ivy 12 23 → ivx 8 2 = ivy 12 33 → ivx 8 3 = ivy 12 36 → ivx 6 7 = ivy 12 67 → (∀ s : Nat, (s : Int) < (ivy 12 3).toInt → fax 10 0 (9 * s + 0) = fay 12 4 s ∧ fax 10 0 (9 * s + 1) = fay 12 5 s ∧ fax 10 0 (9 * s + 2) = fay 12 6 s ∧ fax 10 0 (9 * s + 3) = fay 12 7 s ∧ fax 10 0 (9 * s + 4) = fay 12 8 s ∧ fax 10 0 (9 * s + 5) = fay 12 9 s ∧ fax 10 0 (9 * s + 6) = fay 12 10 s ∧ fax 10 0 (9 * s + 7) = fay 12 11 s ∧ fax 10 0 (9 * s + 8) = fay 12 12 s) → (∀ j : Nat, -1 ≤ (fay 12 12 j).toInt) → (∀ s : Nat, (s : Int) < (ivy 12 3).toInt → (100 ≤ (fay 12 7 s).toInt ∧ (fay 12 7 s).toInt ≤ 9999) ∧ (50 ≤ (fay 12 8 s).toInt ∧ (fay 12 8 s).toInt ≤ 9999)) → (∀ j : Nat, (fax 8 1 j).toInt = sg (fay 12 32 j).toInt ∧ 0 ≤ (fay 12 32 j).toInt) → BkE (ivy 12 23).toInt (fax 1 0) (fax 1 1) (fax 1 2) (fax 1 3) (fax 1 4) (fax 1 5) (fay 12 24) (fay 12 25) (fay 12 26) (fay 12 27) (fay 12 28) (fay 12 29) (fay 12 30) (fay 12 31) → (∀ j : Nat, fax 0 0 j = fay 12 2 j) → (∀ j : Nat, (j : Int) < (ivx 0 7).toInt → 1 ≤ (fax 0 0 j).toInt ∧ (fax 0 0 j).toInt ≤ 99999) → PaE (ivy 12 67).toInt (fax 6 0) (fax 6 1) (fax 6 2) (fax 6 3) (fax 6 4) (fax 6 5) (fay 12 68) (fay 12 69) (lay 12 70) (fay 12 71) (fay 12 72) (fay 12 73) → (∀ s : Nat, (s : Int) < (ivy 12 3).toInt → (fay 12 8 s).toInt ≤ (fay 12 7 s).toInt) → va_P (dC, dI) classes (WX x gx cax ivx lvx fax lax) H → va_D A (WX x gx cax ivx lvx fax lax) → va_P (dC, dI) classes (WM y gy cay ivy lvy fay lay) H → va_D A (WM y gy cay ivy lvy fay lay) → va_S A s.heap H locs → W p l e room_1 s m #[Value.ref b] below meth c H locs 98 5431 (lw_Z below #[Value.ref b] s) (F0 m 1509 ls [])) : W p l e room_1 s m #[Value.ref b] below meth c H locs 98 5431 (lw_Z below #[Value.ref b] s) (F0 m 541 ls []) := by
  obtain ⟨hx, hb, hr, hml, hown, hts, hX, hbl, hlocks, hgv⟩ := id C0
  have ht := tb_of hts
  have hJD := hwd
  have hw8 := congrArg Int32.toInt hq_skeins
  have hJW : ∀ s : Nat, (s : Int) < (ivx 10 1).toInt → (100 ≤ (fax 10 0 (9 * s + 3)).toInt ∧ (fax 10 0 (9 * s + 3)).toInt ≤ 9999) ∧ (50 ≤ (fax 10 0 (9 * s + 4)).toInt ∧ (fax 10 0 (9 * s + 4)).toInt ≤ 9999) := fun s hs => by rw [(hrs s (by omega)).2.2.2.1, (hrs s (by omega)).2.2.2.2.1]; exact hwd s (by omega)
  have hw8r := congrArg Int32.toInt hq_rules
  have hJB : ∀ j : Nat, (j : Int) < (ivx 1 7).toInt → 0 ≤ (fax 1 0 j).toInt := fun j hj => (hbk j (by omega)).2.2.1
  have hJK : ∀ k j : Nat, (k : Int) < (ivy 12 23).toInt → 12 * k ≤ j → (j : Int) < 12 * (k : Int) + (fay 12 25 k).toInt → (fay 12 26 j).toInt = 3 → 0 ≤ (fay 12 28 j).toInt ∧ (fay 12 28 j).toInt < (k : Int) := bk_K hbk
  have hw8b := congrArg Int32.toInt hq_bales
  have hJF : ∀ a d v : Int, 0 ≤ a → a ≤ 5 → FoX (ivx 1 7).toInt (fax 1 0) (fax 1 1) (fax 1 2) (fax 1 3) a d v → fLo a ≤ v ∧ v ≤ fHi a := fun a d v h1 h2 x => by rw [hq_rules] at x; exact FoX_b hbk ⟨h1, h2⟩ x
  have hJH : ∀ a d v : Int, 0 ≤ a → a ≤ 5 → FoY (ivy 12 23).toInt (fay 12 24) (fay 12 25) (fay 12 26) (fay 12 27) (fay 12 28) a d v → fLo a ≤ v ∧ v ≤ fHi a := fun a d v h1 h2 x => FoY_b hbk ⟨h1, h2⟩ x
  have hJG := hgb
  have hJI : ∀ j : Nat, (j : Int) < (ivy 12 1).toInt → 1 ≤ (fay 12 2 j).toInt ∧ (fay 12 2 j).toInt ≤ 99999 := fun j hj => by rw [← hgr j]; exact hgb j (by omega)
  have hJL : ∀ b l : Int32, cn0 (fun s => fax 10 0 (9 * s + 0)) (fun s => fax 10 0 (9 * s + 1)) b l (ivx 10 1).toInt.toNat ≤ 12 := fun b l => by rw [hq_skeins, cn0_congr (ob := fay 12 4) (ol := fay 12 5) _ (fun j hj => ⟨(hrs j (by omega)).1, (hrs j (by omega)).2.1⟩)]; exact hJN b l
  have hw8p := congrArg Int32.toInt hq_papers
  have hJQ : ∀ p : Nat, (p : Int) < (ivy 12 67).toInt → 0 ≤ (lay 12 70 p).toInt ∧ ((fay 12 68 p).toInt = 0 → (lay 12 70 p).toInt ≤ 129998) ∧ (lay 12 70 p).toInt ≤ 129868002 ∧ -1 ≤ (fay 12 71 p).toInt ∧ (fay 12 71 p).toInt < (p : Int) := fun p hp => ⟨(hpa p hp).2.2.1, (hpa p hp).2.2.2.1, (hpa p hp).2.2.2.2.1, (hpa p hp).2.2.2.2.2.1, (hpa p hp).2.2.2.2.2.2.1⟩
  have hJP : ∀ p : Nat, (p : Int) < (ivx 6 7).toInt → 0 ≤ (fax 6 2 p).toInt ∧ ((fax 6 0 p).toInt = 0 → (fax 6 2 p).toInt ≤ 129998) ∧ (fax 6 2 p).toInt ≤ 129868002 ∧ -1 ≤ (fax 6 3 p).toInt ∧ (fax 6 3 p).toInt < (p : Int) := fun p hp => by rw [(hpa p (by omega)).1.1, (hpa p (by omega)).1.2.2.1, (hpa p (by omega)).1.2.2.2.1]; exact hJQ p (by omega)
  have hJS : ∀ s : Nat, (s : Int) < (ivx 10 1).toInt → (fax 10 0 (9 * s + 4)).toInt ≤ (fax 10 0 (9 * s + 3)).toInt := fun s hs => by rw [(hrs s (by omega)).2.2.2.1, (hrs s (by omega)).2.2.2.2.1]; exact hdr s (by omega)
  have hJT : ∀ j : Nat, 0 ≤ (fay 12 32 j).toInt := fun j => (htx j).2
  refine lv_aload_n hx hb dL_law_541 rfl (lv_at hl 2 rfl) ?_
  refine aw_iconst (v := 1) hx hb hX hbl hbA hS hl hi hi8 (by decide) ⟨by decide, by decide⟩ dL_law_542 dL_law_543 dL_law_544 dL_law_545 dL_law_546 (fun v1 ev1 v2 ev2 => ?_)
  refine aw_iconst (v := 2) hx hb hX hbl hbA hS hl hi hi8 (by decide) ⟨by decide, by decide⟩ dL_law_547 dL_law_548 dL_law_549 dL_law_550 dL_law_551 (fun v3 ev3 v4 ev4 => ?_)
  refine lv_i2l (v := (v4.toInt64)) hx hb dL_law_552 rfl ?_
  refine lv_bipush (v := 32) hx hb dL_law_553 (by decide) ?_
  obtain ⟨w5, ew5⟩ : ∃ y : Int64, (v4.toInt64) <<< ((32 : Int32).toInt64 &&& 63) = y := ⟨_, rfl⟩
  refine lv_lshl (v := w5) hx hb dL_law_555 ew5 ?_
  refine aw_iconst (v := 3) hx hb hX hbl hbA hS hl hi hi8 (by decide) ⟨by decide, by decide⟩ dL_law_556 dL_law_557 dL_law_558 dL_law_559 dL_law_560 (fun v6 ev6 v7 ev7 => ?_)
  refine lv_i2l (v := (v7.toInt64)) hx hb dL_law_561 rfl ?_
  refine lv_ldc2 hx hb hown (ht _ m_1716) dL_law_562 ?_
  refine lv_land hx hb dL_law_565 ?_
  refine lv_topl (fun w8 ew8 => ?_)
  refine lv_lor hx hb dL_law_566 ?_
  refine lv_topl (fun w9 ew9 => ?_)
  have hFc := free_all hDx hS hA
  refine va_calli (va_runV (As := [.int v2, .long w9]) (rest := []) ⟨hx, hb, hml, hown, ht⟩ (c_X11_feed_r l dC dI H.size x gx cax ivx lvx fax lax hIx v2 w9) (kV 2 ht m_668 m_669 m_670 m_77 m_671 rfl rfl hd_X11_feed_v ⟨Nat.le_of_ble_eq_true rfl, Nat.le_of_ble_eq_true rfl⟩) (vW hPx hKx hDx (rX_11 hKx hPx)) rfl rfl hl.1 rfl (lv_room (Nat.le_of_ble_eq_true rfl)) dL_law_567 ⟨Nat.le_of_ble_eq_true rfl, Nat.le_of_ble_eq_true rfl⟩) hS (fun q _ h => hFc q h) hFc (fun r10 u t H1 locs ht9 hvm hr10 hB hz1 hk1 hS => ?_)
  obtain ⟨n11, n12, hn12, xr10_0, xr10_1, hr10, rfl⟩ := hr10
  obtain ⟨hPx, hDx⟩ := hB
  rw [ht9] at hPx
  have hPy := P_kept hPy (la := AdM y gy) (lb := AdX x gx) wmM wmX (fun a ha b hb => (hXY b hb a ha).symm) hk1
  generalize H1 = H at hPx hPy hS ⊢
  have hPx : va_P (dC, dI) classes (WX x gx cax (u2 ivx 8 2 n12) lvx (u2 fax 8 1 n11) lax) H := hPx
  have hDx : va_D A (WX x gx cax (u2 ivx 8 2 n12) lvx (u2 fax 8 1 n11) lax) := (show va_D _ (WX x gx cax (u2 ivx 8 2 n12) lvx (u2 fax 8 1 n11) lax) from hDx).weaken (fun _ _ _ h => hFc _ h)
  refine lv_pop hx hb dL_law_570 rfl ?_
  refine lv_aload_n hx hb dL_law_571 rfl (lv_at hl 1 rfl) ?_
  refine aw_iconst (v := 1) hx hb hX hbl hbA hS hl hi hi8 (by decide) ⟨by decide, by decide⟩ dL_law_572 dL_law_573 dL_law_574 dL_law_575 dL_law_576 (fun v13 ev13 v14 ev14 => ?_)
  refine aw_iconst (v := 2) hx hb hX hbl hbA hS hl hi hi8 (by decide) ⟨by decide, by decide⟩ dL_law_577 dL_law_578 dL_law_579 dL_law_580 dL_law_581 (fun v15 ev15 v16 ev16 => ?_)
  refine lv_i2l (v := (v16.toInt64)) hx hb dL_law_582 rfl ?_
  refine lv_bipush (v := 32) hx hb dL_law_583 (by decide) ?_
  obtain ⟨w17, ew17⟩ : ∃ y : Int64, (v16.toInt64) <<< ((32 : Int32).toInt64 &&& 63) = y := ⟨_, rfl⟩
  refine lv_lshl (v := w17) hx hb dL_law_585 ew17 ?_
  refine aw_iconst (v := 3) hx hb hX hbl hbA hS hl hi hi8 (by decide) ⟨by decide, by decide⟩ dL_law_586 dL_law_587 dL_law_588 dL_law_589 dL_law_590 (fun v18 ev18 v19 ev19 => ?_)
  refine lv_i2l (v := (v19.toInt64)) hx hb dL_law_591 rfl ?_
  refine lv_ldc2 hx hb hown (ht _ m_1716) dL_law_592 ?_
  refine lv_land hx hb dL_law_595 ?_
  refine lv_topl (fun w20 ew20 => ?_)
  refine lv_lor hx hb dL_law_596 ?_
  refine lv_topl (fun w21 ew21 => ?_)
  have hFc := free_all hDy hS hA
  refine va_calli (va_runV (As := [.int v14, .long w21]) (rest := []) ⟨hx, hb, hml, hown, ht⟩ (c_X12_feed_r l dC dI H.size y gy cay ivy lvy fay lay hIy v14 w21) (kV 2 ht m_1448 m_1449 m_1450 m_89 m_1451 rfl rfl hd_X12_feed_v ⟨Nat.le_of_ble_eq_true rfl, Nat.le_of_ble_eq_true rfl⟩) (vW hPy hKy hDy (rM_12 hKy hPy)) rfl rfl hl.1 rfl (lv_room (Nat.le_of_ble_eq_true rfl)) dL_law_597 ⟨Nat.le_of_ble_eq_true rfl, Nat.le_of_ble_eq_true rfl⟩) hS (fun q _ h => hFc q h) hFc (fun r22 u t H1 locs ht9 hvm hr22 hB hz1 hk1 hS => ?_)
  obtain ⟨n23, n24, hn24, xr22_0, xr22_1, hr22, rfl⟩ := hr22
  obtain ⟨hPy, hDy⟩ := hB
  rw [ht9] at hPy
  have hPx := P_kept hPx (la := AdX x gx) (lb := AdM y gy) wmX wmM hXY hk1
  generalize H1 = H at hPx hPy hS ⊢
  have hPy : va_P (dC, dI) classes (WM y gy cay (u2 ivy 12 33 n24) lvy (u2 fay 12 32 n23) lay) H := hPy
  have hDy : va_D A (WM y gy cay (u2 ivy 12 33 n24) lvy (u2 fay 12 32 n23) lay) := (show va_D _ (WM y gy cay (u2 ivy 12 33 n24) lvy (u2 fay 12 32 n23) lay) from hDy).weaken (fun _ _ _ h => hFc _ h)
  have hv9_0 : (v2 : Int32) = v14 := by rw [ev2, ev14, ev1, ev13]
  have hu9_0 := congrArg Int32.toInt hv9_0
  have hv9_1 : (w9 : Int64) = w21 := by rw [ew9, ew21, ew8, ew20, ← ew5, ← ew17, ev7, ev19, ev4, ev16, ev6, ev18, ev3, ev15]
  have hw9_now := congrArg Int32.toInt hq_now
  have hw9_bales := congrArg Int32.toInt hq_bales
  have hw9_skeins := congrArg Int32.toInt hq_skeins
  have hw9_rules := congrArg Int32.toInt hq_rules
  have hw9_text := congrArg Int32.toInt hq_text
  have hw9_place := congrArg Int32.toInt hq_place
  have hw9_papers := congrArg Int32.toInt hq_papers
  have y9x_0 : ((r10.toInt = -100002 ∧ ¬ (1 ≤ (v2 : Int32).toInt ∧ (v2 : Int32).toInt ≤ 8) ∧ n12.toInt = (ivx 8 2).toInt) ∨ (r10.toInt = -100004 ∧ (1 ≤ (v2 : Int32).toInt ∧ (v2 : Int32).toInt ≤ 8) ∧ 200 < (ivx 8 2).toInt + (v2 : Int32).toInt ∧ n12.toInt = (ivx 8 2).toInt) ∨ ((1 ≤ (v2 : Int32).toInt ∧ (v2 : Int32).toInt ≤ 8) ∧ (ivx 8 2).toInt + (v2 : Int32).toInt ≤ 200 ∧ r10.toInt = (ivx 8 2).toInt + (v2 : Int32).toInt ∧ n12.toInt = (ivx 8 2).toInt + (v2 : Int32).toInt)) := xr10_0
  have y9x_1 : ((r10.toInt < 0 ∧ ∀ j : Nat, n11 j = (fax 8 1) j) ∨ (0 ≤ r10.toInt ∧ (∀ j : Nat, ((j : Int) < (ivx 8 2).toInt ∨ (ivx 8 2).toInt + (v2 : Int32).toInt ≤ (j : Int)) → n11 j = (fax 8 1) j) ∧ (∀ j : Nat, (ivx 8 2).toInt ≤ (j : Int) → (j : Int) < (ivx 8 2).toInt + (v2 : Int32).toInt → n11 j = xb (w9 : Int64) (Int32.ofInt (8 * ((ivx 8 2).toInt + (v2 : Int32).toInt - 1 - (j : Int))))))) := xr10_1
  have y9y_0 : ((r22.toInt = -100002 ∧ ¬ (1 ≤ (v14 : Int32).toInt ∧ (v14 : Int32).toInt ≤ 8) ∧ n24.toInt = (ivy 12 33).toInt) ∨ (r22.toInt = -100004 ∧ (1 ≤ (v14 : Int32).toInt ∧ (v14 : Int32).toInt ≤ 8) ∧ 200 < (ivy 12 33).toInt + (v14 : Int32).toInt ∧ n24.toInt = (ivy 12 33).toInt) ∨ ((1 ≤ (v14 : Int32).toInt ∧ (v14 : Int32).toInt ≤ 8) ∧ (ivy 12 33).toInt + (v14 : Int32).toInt ≤ 200 ∧ r22.toInt = (ivy 12 33).toInt + (v14 : Int32).toInt ∧ n24.toInt = (ivy 12 33).toInt + (v14 : Int32).toInt)) := xr22_0
  have y9y_1 : ((r22.toInt < 0 ∧ ∀ j : Nat, n23 j = (fay 12 32) j) ∨ (0 ≤ r22.toInt ∧ (∀ j : Nat, ((j : Int) < (ivy 12 33).toInt ∨ (ivy 12 33).toInt + (v14 : Int32).toInt ≤ (j : Int)) → n23 j = (fay 12 32) j) ∧ (∀ j : Nat, (ivy 12 33).toInt ≤ (j : Int) → (j : Int) < (ivy 12 33).toInt + (v14 : Int32).toInt → n23 j = yb (w21 : Int64) (Int32.ofInt (8 * ((ivy 12 33).toInt + (v14 : Int32).toInt - 1 - (j : Int))))))) := xr22_1
  have hr8 : (r10 : Int32).toInt = (r22 : Int32).toInt := by omega
  have htn : ∀ j : Nat, (n11 j).toInt = sg (n23 j).toInt ∧ 0 ≤ (n23 j).toInt := by
    intro j
    rcases y9x_1 with ⟨za1, za2⟩ | ⟨za1, za2, za3⟩
    · rcases y9y_1 with ⟨zb1, zb2⟩ | ⟨zb1, zb2, zb3⟩
      · rw [za2 j, zb2 j]; exact htx j
      · exfalso; omega
    · rcases y9y_1 with ⟨zb1, zb2⟩ | ⟨zb1, zb2, zb3⟩
      · exfalso; omega
      · by_cases hj : (ivx 8 2).toInt ≤ (j : Int) ∧ (j : Int) < (ivx 8 2).toInt + (v2 : Int32).toInt
        · have hm : (ivx 8 2).toInt + (v2 : Int32).toInt - 1 - (j : Int) = (ivy 12 33).toInt + (v14 : Int32).toInt - 1 - (j : Int) := by omega
          rw [za3 j hj.1 hj.2, zb3 j (by omega) (by omega), hm, hv9_1]
          exact byt ⟨by omega, by omega⟩
        · rw [za2 j (by omega), zb2 j (by omega)]; exact htx j
  refine lv_pop hx hb dL_law_600 rfl ?_
  refine lv_goto (tgt := 1509) hx hb dL_law_601 (by decide) ?_
  exact kk _ _ (u2 ivx 8 2 n12) lvx (u2 fax 8 1 n11) lax (u2 ivy 12 33 n24) lvy (u2 fay 12 32 n23) lay (IX_a (c := 8) (k := 1) (IX_i (c := 8) (k := 2) hIx hn12) (fun j => full_i _)) (IX_a (c := 12) (k := 32) (IX_i (c := 12) (k := 33) hIy hn24) (fun j => full_i _)) hJC hJR hJN hJO hq_now hq_bales hq_skeins hq_rules (show (n12 : Int32) = n24 from Int32.toInt_inj.mp (by omega)) hq_place hq_papers hrs hls hwd htn hbk hgr hgb hpa hdr hPx hDx hPy hDy hS
