/-! ===== law ===== -/
theorem m_1108 : Cond.methodLink RL 164 yX11_undo ∈ tb := mb_5_2 _ (List.mem_of_getElem? (i := 21) rfl)
theorem m_1109 : Cond.instanceMethod yX11_undo ∈ tb := mb_5_2 _ (List.mem_of_getElem? (i := 22) rfl)
theorem m_1110 : Cond.selects RX11 yX11_undo yX11_undo ∈ tb := mb_5_2 _ (List.mem_of_getElem? (i := 23) rfl)
theorem m_1111 : Cond.code yX11_undo cX11_undo 2 (some .int) ∈ tb := mb_5_3 _ (List.mem_of_getElem? (i := 0) rfl)
theorem m_1117 : Cond.methodLink RL 168 yX11_paper ∈ tb := mb_5_3 _ (List.mem_of_getElem? (i := 6) rfl)
theorem m_1118 : Cond.instanceMethod yX11_paper ∈ tb := mb_5_3 _ (List.mem_of_getElem? (i := 7) rfl)
theorem m_1119 : Cond.selects RX11 yX11_paper yX11_paper ∈ tb := mb_5_3 _ (List.mem_of_getElem? (i := 8) rfl)
theorem m_1120 : Cond.code yX11_paper cX11_paper 3 (some .int) ∈ tb := mb_5_3 _ (List.mem_of_getElem? (i := 9) rfl)
theorem m_1125 : Cond.methodLink RL 172 yX11_stood ∈ tb := mb_5_3 _ (List.mem_of_getElem? (i := 14) rfl)
theorem m_1126 : Cond.instanceMethod yX11_stood ∈ tb := mb_5_3 _ (List.mem_of_getElem? (i := 15) rfl)
theorem m_1127 : Cond.selects RX11 yX11_stood yX11_stood ∈ tb := mb_5_3 _ (List.mem_of_getElem? (i := 16) rfl)
theorem m_1128 : Cond.code yX11_stood cX11_stood 3 (some .long) ∈ tb := mb_5_3 _ (List.mem_of_getElem? (i := 17) rfl)
theorem m_1696 : Cond.methodLink RL 167 yX12_undo ∈ tb := mb_7_6 _ (List.mem_of_getElem? (i := 18) rfl)
theorem m_1697 : Cond.instanceMethod yX12_undo ∈ tb := mb_7_6 _ (List.mem_of_getElem? (i := 19) rfl)
theorem m_1698 : Cond.selects RX12 yX12_undo yX12_undo ∈ tb := mb_7_6 _ (List.mem_of_getElem? (i := 20) rfl)
theorem m_1699 : Cond.code yX12_undo cX12_undo 6 (some .int) ∈ tb := mb_7_6 _ (List.mem_of_getElem? (i := 21) rfl)
theorem m_1700 : Cond.methodLink RL 171 yX12_paper ∈ tb := mb_7_6 _ (List.mem_of_getElem? (i := 22) rfl)
theorem m_1701 : Cond.instanceMethod yX12_paper ∈ tb := mb_7_6 _ (List.mem_of_getElem? (i := 23) rfl)
theorem m_1702 : Cond.selects RX12 yX12_paper yX12_paper ∈ tb := mb_7_7 _ (List.mem_of_getElem? (i := 0) rfl)
theorem m_1703 : Cond.code yX12_paper cX12_paper 5 (some .int) ∈ tb := mb_7_7 _ (List.mem_of_getElem? (i := 1) rfl)
theorem m_1704 : Cond.methodLink RL 175 yX12_stood ∈ tb := mb_7_7 _ (List.mem_of_getElem? (i := 2) rfl)
theorem m_1705 : Cond.instanceMethod yX12_stood ∈ tb := mb_7_7 _ (List.mem_of_getElem? (i := 3) rfl)
theorem m_1706 : Cond.selects RX12 yX12_stood yX12_stood ∈ tb := mb_7_7 _ (List.mem_of_getElem? (i := 4) rfl)
theorem m_1707 : Cond.code yX12_stood cX12_stood 7 (some .long) ∈ tb := mb_7_7 _ (List.mem_of_getElem? (i := 5) rfl)
theorem hd_X11_paper_v : yX11_paper.cls = RX11 ∧ yX11_paper.cls ≠ "java/lang/invoke/MethodHandle" ∧ yX11_paper.cls ≠ "java/lang/invoke/VarHandle" ∧ (parseMethodDescriptor yX11_paper.desc).map (fun d => d.parameters.length) = some 2 := by decide +kernel
theorem hd_X11_stood_v : yX11_stood.cls = RX11 ∧ yX11_stood.cls ≠ "java/lang/invoke/MethodHandle" ∧ yX11_stood.cls ≠ "java/lang/invoke/VarHandle" ∧ (parseMethodDescriptor yX11_stood.desc).map (fun d => d.parameters.length) = some 2 := by decide +kernel
theorem hd_X11_undo_v : yX11_undo.cls = RX11 ∧ yX11_undo.cls ≠ "java/lang/invoke/MethodHandle" ∧ yX11_undo.cls ≠ "java/lang/invoke/VarHandle" ∧ (parseMethodDescriptor yX11_undo.desc).map (fun d => d.parameters.length) = some 1 := by decide +kernel
theorem hd_X12_paper_v : yX12_paper.cls = RX12 ∧ yX12_paper.cls ≠ "java/lang/invoke/MethodHandle" ∧ yX12_paper.cls ≠ "java/lang/invoke/VarHandle" ∧ (parseMethodDescriptor yX12_paper.desc).map (fun d => d.parameters.length) = some 2 := by decide +kernel
theorem hd_X12_stood_v : yX12_stood.cls = RX12 ∧ yX12_stood.cls ≠ "java/lang/invoke/MethodHandle" ∧ yX12_stood.cls ≠ "java/lang/invoke/VarHandle" ∧ (parseMethodDescriptor yX12_stood.desc).map (fun d => d.parameters.length) = some 2 := by decide +kernel
theorem hd_X12_undo_v : yX12_undo.cls = RX12 ∧ yX12_undo.cls ≠ "java/lang/invoke/MethodHandle" ∧ yX12_undo.cls ≠ "java/lang/invoke/VarHandle" ∧ (parseMethodDescriptor yX12_undo.desc).map (fun d => d.parameters.length) = some 1 := by decide +kernel
set_option maxRecDepth 100000 in
theorem wL_59 : Win cL_law 1416 [167, 0, 93, 43, 42, 29, 4, 96, 46, 182, 0, 164, 87, 44, 42, 29, 4, 96, 46, 182, 0, 167, 87, 167, 0, 70, 43, 42] := Win_sub (o := 1200) (o2 := 216) (n := 28) WL_5 (by decide +kernel)
theorem dL_law_1419 : decode cL_law 1419 = .ok (.aload_n 1, 1) := dk_43 (w_at wL_59 3 (p := 1419) rfl rfl rfl)
theorem dL_law_1420 : decode cL_law 1420 = .ok (.aload_n 0, 1) := dk_42 (w_at wL_59 4 (p := 1420) rfl rfl rfl)
theorem dL_law_1421 : decode cL_law 1421 = .ok (.iload_n 3, 1) := dk_29 (w_at wL_59 5 (p := 1421) rfl rfl rfl)
theorem dL_law_1422 : decode cL_law 1422 = .ok (.iconst 1, 1) := dk_4 (w_at wL_59 6 (p := 1422) rfl rfl rfl)
theorem dL_law_1423 : decode cL_law 1423 = .ok (.iadd, 1) := dk_96 (w_at wL_59 7 (p := 1423) rfl rfl rfl)
theorem dL_law_1424 : decode cL_law 1424 = .ok (.iaload, 1) := dk_46 (w_at wL_59 8 (p := 1424) rfl rfl rfl)
theorem dL_law_1425 : decode cL_law 1425 = .ok (.invokevirtual 164, 3) := dk_iv (w_at wL_59 9 (p := 1425) rfl rfl rfl) (w_at wL_59 10 (p := 1426) rfl rfl rfl) (w_at wL_59 11 (p := 1427) rfl rfl rfl) rfl
theorem dL_law_1428 : decode cL_law 1428 = .ok (.pop, 1) := dk_87 (w_at wL_59 12 (p := 1428) rfl rfl rfl)
theorem dL_law_1429 : decode cL_law 1429 = .ok (.aload_n 2, 1) := dk_44 (w_at wL_59 13 (p := 1429) rfl rfl rfl)
theorem dL_law_1430 : decode cL_law 1430 = .ok (.aload_n 0, 1) := dk_42 (w_at wL_59 14 (p := 1430) rfl rfl rfl)
theorem dL_law_1431 : decode cL_law 1431 = .ok (.iload_n 3, 1) := dk_29 (w_at wL_59 15 (p := 1431) rfl rfl rfl)
theorem dL_law_1432 : decode cL_law 1432 = .ok (.iconst 1, 1) := dk_4 (w_at wL_59 16 (p := 1432) rfl rfl rfl)
theorem dL_law_1433 : decode cL_law 1433 = .ok (.iadd, 1) := dk_96 (w_at wL_59 17 (p := 1433) rfl rfl rfl)
theorem dL_law_1434 : decode cL_law 1434 = .ok (.iaload, 1) := dk_46 (w_at wL_59 18 (p := 1434) rfl rfl rfl)
theorem dL_law_1435 : decode cL_law 1435 = .ok (.invokevirtual 167, 3) := dk_iv (w_at wL_59 19 (p := 1435) rfl rfl rfl) (w_at wL_59 20 (p := 1436) rfl rfl rfl) (w_at wL_59 21 (p := 1437) rfl rfl rfl) rfl
theorem dL_law_1438 : decode cL_law 1438 = .ok (.pop, 1) := dk_87 (w_at wL_59 22 (p := 1438) rfl rfl rfl)
def bL_6 : List UInt8 := [0, 70, 43, 42, 29, 4, 96, 46, 42, 29, 5, 96, 46, 182, 0, 168, 87, 44, 42, 29, 4, 96, 46, 42, 29, 5, 96, 46, 182, 0, 171, 87, 167, 0, 37, 43, 42, 29, 4, 96, 46, 42, 29, 5, 96, 46, 182, 0, 172, 44, 42, 29, 4, 96, 46, 42, 29, 5, 96, 46, 182, 0, 175, 148, 153, 0, 5, 3, 172, 132, 3, 8, 167, 250, 42, 4, 172]
set_option maxRecDepth 100000 in
theorem WL_6 : Win cL_law 1440 bL_6 := Win_of (n := 268) (by decide +kernel)
set_option maxRecDepth 100000 in
theorem wL_60 : Win cL_law 1440 [0, 70, 43, 42, 29, 4, 96, 46, 42, 29, 5, 96, 46, 182, 0, 168, 87, 44, 42, 29, 4, 96, 46, 42, 29, 5, 96, 46] := Win_sub (o := 1440) (o2 := 0) (n := 28) WL_6 (by decide +kernel)
theorem dL_law_1442 : decode cL_law 1442 = .ok (.aload_n 1, 1) := dk_43 (w_at wL_60 2 (p := 1442) rfl rfl rfl)
theorem dL_law_1443 : decode cL_law 1443 = .ok (.aload_n 0, 1) := dk_42 (w_at wL_60 3 (p := 1443) rfl rfl rfl)
theorem dL_law_1444 : decode cL_law 1444 = .ok (.iload_n 3, 1) := dk_29 (w_at wL_60 4 (p := 1444) rfl rfl rfl)
theorem dL_law_1445 : decode cL_law 1445 = .ok (.iconst 1, 1) := dk_4 (w_at wL_60 5 (p := 1445) rfl rfl rfl)
theorem dL_law_1446 : decode cL_law 1446 = .ok (.iadd, 1) := dk_96 (w_at wL_60 6 (p := 1446) rfl rfl rfl)
theorem dL_law_1447 : decode cL_law 1447 = .ok (.iaload, 1) := dk_46 (w_at wL_60 7 (p := 1447) rfl rfl rfl)
theorem dL_law_1448 : decode cL_law 1448 = .ok (.aload_n 0, 1) := dk_42 (w_at wL_60 8 (p := 1448) rfl rfl rfl)
theorem dL_law_1449 : decode cL_law 1449 = .ok (.iload_n 3, 1) := dk_29 (w_at wL_60 9 (p := 1449) rfl rfl rfl)
theorem dL_law_1450 : decode cL_law 1450 = .ok (.iconst 2, 1) := dk_5 (w_at wL_60 10 (p := 1450) rfl rfl rfl)
theorem dL_law_1451 : decode cL_law 1451 = .ok (.iadd, 1) := dk_96 (w_at wL_60 11 (p := 1451) rfl rfl rfl)
theorem dL_law_1452 : decode cL_law 1452 = .ok (.iaload, 1) := dk_46 (w_at wL_60 12 (p := 1452) rfl rfl rfl)
theorem dL_law_1453 : decode cL_law 1453 = .ok (.invokevirtual 168, 3) := dk_iv (w_at wL_60 13 (p := 1453) rfl rfl rfl) (w_at wL_60 14 (p := 1454) rfl rfl rfl) (w_at wL_60 15 (p := 1455) rfl rfl rfl) rfl
theorem dL_law_1456 : decode cL_law 1456 = .ok (.pop, 1) := dk_87 (w_at wL_60 16 (p := 1456) rfl rfl rfl)
theorem dL_law_1457 : decode cL_law 1457 = .ok (.aload_n 2, 1) := dk_44 (w_at wL_60 17 (p := 1457) rfl rfl rfl)
theorem dL_law_1458 : decode cL_law 1458 = .ok (.aload_n 0, 1) := dk_42 (w_at wL_60 18 (p := 1458) rfl rfl rfl)
theorem dL_law_1459 : decode cL_law 1459 = .ok (.iload_n 3, 1) := dk_29 (w_at wL_60 19 (p := 1459) rfl rfl rfl)
theorem dL_law_1460 : decode cL_law 1460 = .ok (.iconst 1, 1) := dk_4 (w_at wL_60 20 (p := 1460) rfl rfl rfl)
theorem dL_law_1461 : decode cL_law 1461 = .ok (.iadd, 1) := dk_96 (w_at wL_60 21 (p := 1461) rfl rfl rfl)
theorem dL_law_1462 : decode cL_law 1462 = .ok (.iaload, 1) := dk_46 (w_at wL_60 22 (p := 1462) rfl rfl rfl)
theorem dL_law_1463 : decode cL_law 1463 = .ok (.aload_n 0, 1) := dk_42 (w_at wL_60 23 (p := 1463) rfl rfl rfl)
set_option maxRecDepth 100000 in
theorem wL_61 : Win cL_law 1464 [29, 5, 96, 46, 182, 0, 171, 87, 167, 0, 37, 43, 42, 29, 4, 96, 46, 42, 29, 5, 96, 46, 182, 0, 172, 44, 42, 29] := Win_sub (o := 1440) (o2 := 24) (n := 28) WL_6 (by decide +kernel)
theorem dL_law_1464 : decode cL_law 1464 = .ok (.iload_n 3, 1) := dk_29 (w_at wL_61 0 (p := 1464) rfl rfl rfl)
theorem dL_law_1465 : decode cL_law 1465 = .ok (.iconst 2, 1) := dk_5 (w_at wL_61 1 (p := 1465) rfl rfl rfl)
theorem dL_law_1466 : decode cL_law 1466 = .ok (.iadd, 1) := dk_96 (w_at wL_61 2 (p := 1466) rfl rfl rfl)
theorem dL_law_1467 : decode cL_law 1467 = .ok (.iaload, 1) := dk_46 (w_at wL_61 3 (p := 1467) rfl rfl rfl)
theorem dL_law_1468 : decode cL_law 1468 = .ok (.invokevirtual 171, 3) := dk_iv (w_at wL_61 4 (p := 1468) rfl rfl rfl) (w_at wL_61 5 (p := 1469) rfl rfl rfl) (w_at wL_61 6 (p := 1470) rfl rfl rfl) rfl
theorem dL_law_1471 : decode cL_law 1471 = .ok (.pop, 1) := dk_87 (w_at wL_61 7 (p := 1471) rfl rfl rfl)
theorem dL_law_1475 : decode cL_law 1475 = .ok (.aload_n 1, 1) := dk_43 (w_at wL_61 11 (p := 1475) rfl rfl rfl)
theorem dL_law_1476 : decode cL_law 1476 = .ok (.aload_n 0, 1) := dk_42 (w_at wL_61 12 (p := 1476) rfl rfl rfl)
theorem dL_law_1477 : decode cL_law 1477 = .ok (.iload_n 3, 1) := dk_29 (w_at wL_61 13 (p := 1477) rfl rfl rfl)
theorem dL_law_1478 : decode cL_law 1478 = .ok (.iconst 1, 1) := dk_4 (w_at wL_61 14 (p := 1478) rfl rfl rfl)
theorem dL_law_1479 : decode cL_law 1479 = .ok (.iadd, 1) := dk_96 (w_at wL_61 15 (p := 1479) rfl rfl rfl)
theorem dL_law_1480 : decode cL_law 1480 = .ok (.iaload, 1) := dk_46 (w_at wL_61 16 (p := 1480) rfl rfl rfl)
theorem dL_law_1481 : decode cL_law 1481 = .ok (.aload_n 0, 1) := dk_42 (w_at wL_61 17 (p := 1481) rfl rfl rfl)
theorem dL_law_1482 : decode cL_law 1482 = .ok (.iload_n 3, 1) := dk_29 (w_at wL_61 18 (p := 1482) rfl rfl rfl)
theorem dL_law_1483 : decode cL_law 1483 = .ok (.iconst 2, 1) := dk_5 (w_at wL_61 19 (p := 1483) rfl rfl rfl)
theorem dL_law_1484 : decode cL_law 1484 = .ok (.iadd, 1) := dk_96 (w_at wL_61 20 (p := 1484) rfl rfl rfl)
theorem dL_law_1485 : decode cL_law 1485 = .ok (.iaload, 1) := dk_46 (w_at wL_61 21 (p := 1485) rfl rfl rfl)
theorem dL_law_1486 : decode cL_law 1486 = .ok (.invokevirtual 172, 3) := dk_iv (w_at wL_61 22 (p := 1486) rfl rfl rfl) (w_at wL_61 23 (p := 1487) rfl rfl rfl) (w_at wL_61 24 (p := 1488) rfl rfl rfl) rfl
set_option maxRecDepth 100000 in
theorem wL_62 : Win cL_law 1488 [172, 44, 42, 29, 4, 96, 46, 42, 29, 5, 96, 46, 182, 0, 175, 148, 153, 0, 5, 3, 172, 132, 3, 8, 167, 250, 42, 4] := Win_sub (o := 1440) (o2 := 48) (n := 28) WL_6 (by decide +kernel)
theorem dL_law_1489 : decode cL_law 1489 = .ok (.aload_n 2, 1) := dk_44 (w_at wL_62 1 (p := 1489) rfl rfl rfl)
theorem dL_law_1490 : decode cL_law 1490 = .ok (.aload_n 0, 1) := dk_42 (w_at wL_62 2 (p := 1490) rfl rfl rfl)
theorem dL_law_1491 : decode cL_law 1491 = .ok (.iload_n 3, 1) := dk_29 (w_at wL_62 3 (p := 1491) rfl rfl rfl)
theorem dL_law_1492 : decode cL_law 1492 = .ok (.iconst 1, 1) := dk_4 (w_at wL_62 4 (p := 1492) rfl rfl rfl)
theorem dL_law_1493 : decode cL_law 1493 = .ok (.iadd, 1) := dk_96 (w_at wL_62 5 (p := 1493) rfl rfl rfl)
theorem dL_law_1494 : decode cL_law 1494 = .ok (.iaload, 1) := dk_46 (w_at wL_62 6 (p := 1494) rfl rfl rfl)
theorem dL_law_1495 : decode cL_law 1495 = .ok (.aload_n 0, 1) := dk_42 (w_at wL_62 7 (p := 1495) rfl rfl rfl)
theorem dL_law_1496 : decode cL_law 1496 = .ok (.iload_n 3, 1) := dk_29 (w_at wL_62 8 (p := 1496) rfl rfl rfl)
theorem dL_law_1497 : decode cL_law 1497 = .ok (.iconst 2, 1) := dk_5 (w_at wL_62 9 (p := 1497) rfl rfl rfl)
theorem dL_law_1498 : decode cL_law 1498 = .ok (.iadd, 1) := dk_96 (w_at wL_62 10 (p := 1498) rfl rfl rfl)
theorem dL_law_1499 : decode cL_law 1499 = .ok (.iaload, 1) := dk_46 (w_at wL_62 11 (p := 1499) rfl rfl rfl)
theorem dL_law_1500 : decode cL_law 1500 = .ok (.invokevirtual 175, 3) := dk_iv (w_at wL_62 12 (p := 1500) rfl rfl rfl) (w_at wL_62 13 (p := 1501) rfl rfl rfl) (w_at wL_62 14 (p := 1502) rfl rfl rfl) rfl
set_option maxRecDepth 100000 in
theorem dvL_law_1439 : ([(1439, .goto 70, 3), (1472, .goto 37, 3), (1503, .lcmp, 1), (1504, .ifCond .eq 5, 3)] : List (Nat × Instr × Nat)).all (fun q => decide (decode cL_law q.1 = .ok (q.2.1, q.2.2))) = true := by decide +kernel
theorem dL_law_1439 : decode cL_law 1439 = .ok (.goto 70, 3) := all_at dvL_law_1439 0 rfl
theorem dL_law_1472 : decode cL_law 1472 = .ok (.goto 37, 3) := all_at dvL_law_1439 1 rfl
theorem dL_law_1503 : decode cL_law 1503 = .ok (.lcmp, 1) := all_at dvL_law_1439 2 rfl
theorem dL_law_1504 : decode cL_law 1504 = .ok (.ifCond .eq 5, 3) := all_at dvL_law_1439 3 rfl
set_option maxHeartbeats 4000000 in
set_option maxRecDepth 100000 in
theorem law_35 {p : Program} {e : Env} {s : State} {m : MethodId} {below : List Frame} {meth : Method} {c : Code} (l : Launch) {b L : Nat} {xs : Nat → Int32} (hL : L ≤ 4096) (C0 : lw_At p s m meth c b L xs) {dC : Nat → ClassId} {dI : Nat → Nat → Nat} {A : Nat → Prop} (hA : ∀ q : Nat, s.heap.size ≤ q → A q) (hbA : ¬ A b) (hAs : ∀ q : Nat, A q → s.heap.size ≤ q) {x y : Nat} {gx gy : Nat → Nat → Nat} {cax cay : Nat → Nat → ClassId} {ak av : Nat → Nat} (hKx : va_K (dC, dI) classes (TX cax) s) (hKy : va_K (dC, dI) classes (TM cay) s) (hXY : ∀ a ∈ AdX x gx, ∀ b ∈ AdM y gy, a ≠ b) (hZ : zC ak av A s s.heap) {H : Heap} {locs : List Loc} {ivx : Nat → Nat → Int32} {lvx : Nat → Nat → Int64} {fax : Nat → Nat → Nat → Int32} {lax : Nat → Nat → Nat → Int64} {ivy : Nat → Nat → Int32} {lvy : Nat → Nat → Int64} {fay : Nat → Nat → Nat → Int32} {lay : Nat → Nat → Nat → Int64} (hIx : IX ivx fax) (hIy : IX ivy fay) (hJC : JCf (ivy 12 23).toInt (fay 12 25) (fay 12 26) (fay 12 27) (fay 12 28)) (hJR : JRf (ivy 12 3).toInt (fay 12 7)) (hJN : JNf (ivy 12 3).toInt (fay 12 4) (fay 12 5)) (hJO : ((ivy 12 20).toInt = -1 ∧ (ivy 12 21).toInt = -1 ∧ (ivy 12 22).toInt = -1)) (hq_now : ivx 11 10 = ivy 12 0) (hq_bales : ivx 0 7 = ivy 12 1) (hq_skeins : ivx 10 1 = ivy 12 3) (hq_rules : ivx 1 7 = ivy 12 23) (hq_text : ivx 8 2 = ivy 12 33) (hq_place : ivx 8 3 = ivy 12 36) (hq_papers : ivx 6 7 = ivy 12 67) (hrs : (∀ s : Nat, (s : Int) < (ivy 12 3).toInt → fax 10 0 (9 * s + 0) = fay 12 4 s ∧ fax 10 0 (9 * s + 1) = fay 12 5 s ∧ fax 10 0 (9 * s + 2) = fay 12 6 s ∧ fax 10 0 (9 * s + 3) = fay 12 7 s ∧ fax 10 0 (9 * s + 4) = fay 12 8 s ∧ fax 10 0 (9 * s + 5) = fay 12 9 s ∧ fax 10 0 (9 * s + 6) = fay 12 10 s ∧ fax 10 0 (9 * s + 7) = fay 12 11 s ∧ fax 10 0 (9 * s + 8) = fay 12 12 s)) (hls : (∀ j : Nat, -1 ≤ (fay 12 12 j).toInt)) (hwd : (∀ s : Nat, (s : Int) < (ivy 12 3).toInt → (100 ≤ (fay 12 7 s).toInt ∧ (fay 12 7 s).toInt ≤ 9999) ∧ (50 ≤ (fay 12 8 s).toInt ∧ (fay 12 8 s).toInt ≤ 9999))) (htx : (∀ j : Nat, (fax 8 1 j).toInt = sg (fay 12 32 j).toInt ∧ 0 ≤ (fay 12 32 j).toInt)) (hbk : BkE (ivy 12 23).toInt (fax 1 0) (fax 1 1) (fax 1 2) (fax 1 3) (fax 1 4) (fax 1 5) (fay 12 24) (fay 12 25) (fay 12 26) (fay 12 27) (fay 12 28) (fay 12 29) (fay 12 30) (fay 12 31)) (hgr : (∀ j : Nat, fax 0 0 j = fay 12 2 j)) (hgb : (∀ j : Nat, (j : Int) < (ivx 0 7).toInt → 1 ≤ (fax 0 0 j).toInt ∧ (fax 0 0 j).toInt ≤ 99999)) (hpa : PaE (ivy 12 67).toInt (fax 6 0) (fax 6 1) (fax 6 2) (fax 6 3) (fax 6 4) (fax 6 5) (fay 12 68) (fay 12 69) (lay 12 70) (fay 12 71) (fay 12 72) (fay 12 73)) (hdr : (∀ s : Nat, (s : Int) < (ivy 12 3).toInt → (fay 12 8 s).toInt ≤ (fay 12 7 s).toInt)) (hPx : va_P (dC, dI) classes (WX x gx cax ivx lvx fax lax) H) (hDx : va_D A (WX x gx cax ivx lvx fax lax)) (hPy : va_P (dC, dI) classes (WM y gy cay ivy lvy fay lay) H) (hDy : va_D A (WM y gy cay ivy lvy fay lay)) (hS : va_S A s.heap H locs) {i : Int32} {ls : Array Slot} (hl : lv_has ls 4 [(3, .int i), (2, .ref y), (1, .ref x), (0, .ref b)]) (hi : 0 ≤ i.toInt ∧ i.toInt ≤ 4088) (hi8 : i.toInt + 8 ≤ (L : Int)) (kk : ∀ (H : Heap) (locs : List Loc) (ivx : Nat → Nat → Int32) (lvx : Nat → Nat → Int64) (fax : Nat → Nat → Nat → Int32) (lax : Nat → Nat → Nat → Int64) (ivy : Nat → Nat → Int32) (lvy : Nat → Nat → Int64) (fay : Nat → Nat → Nat → Int32) (lay : Nat → Nat → Nat → Int64), IX ivx fax → IX ivy fay → JCf (ivy 12 23).toInt (fay 12 25) (fay 12 26) (fay 12 27) (fay 12 28) → JRf (ivy 12 3).toInt (fay 12 7) → JNf (ivy 12 3).toInt (fay 12 4) (fay 12 5) → ((ivy 12 20).toInt = -1 ∧ (ivy 12 21).toInt = -1 ∧ (ivy 12 22).toInt = -1) → ivx 11 10 = ivy 12 0 → ivx 0 7 = ivy 12 1 → ivx 10 1 = ivy 12 3 → ivx 1 7 = ivy 12 23 → ivx 8 2 = ivy 12 33 → ivx 8 3 = ivy 12 36 → ivx 6 7 = ivy 12 67 → (∀ s : Nat, (s : Int) < (ivy 12 3).toInt → fax 10 0 (9 * s + 0) = fay 12 4 s ∧ fax 10 0 (9 * s + 1) = fay 12 5 s ∧ fax 10 0 (9 * s + 2) = fay 12 6 s ∧ fax 10 0 (9 * s + 3) = fay 12 7 s ∧ fax 10 0 (9 * s + 4) = fay 12 8 s ∧ fax 10 0 (9 * s + 5) = fay 12 9 s ∧ fax 10 0 (9 * s + 6) = fay 12 10 s ∧ fax 10 0 (9 * s + 7) = fay 12 11 s ∧ fax 10 0 (9 * s + 8) = fay 12 12 s) → (∀ j : Nat, -1 ≤ (fay 12 12 j).toInt) → (∀ s : Nat, (s : Int) < (ivy 12 3).toInt → (100 ≤ (fay 12 7 s).toInt ∧ (fay 12 7 s).toInt ≤ 9999) ∧ (50 ≤ (fay 12 8 s).toInt ∧ (fay 12 8 s).toInt ≤ 9999)) → (∀ j : Nat, (fax 8 1 j).toInt = sg (fay 12 32 j).toInt ∧ 0 ≤ (fay 12 32 j).toInt) → BkE (ivy 12 23).toInt (fax 1 0) (fax 1 1) (fax 1 2) (fax 1 3) (fax 1 4) (fax 1 5) (fay 12 24) (fay 12 25) (fay 12 26) (fay 12 27) (fay 12 28) (fay 12 29) (fay 12 30) (fay 12 31) → (∀ j : Nat, fax 0 0 j = fay 12 2 j) → (∀ j : Nat, (j : Int) < (ivx 0 7).toInt → 1 ≤ (fax 0 0 j).toInt ∧ (fax 0 0 j).toInt ≤ 99999) → PaE (ivy 12 67).toInt (fax 6 0) (fax 6 1) (fax 6 2) (fax 6 3) (fax 6 4) (fax 6 5) (fay 12 68) (fay 12 69) (lay 12 70) (fay 12 71) (fay 12 72) (fay 12 73) → (∀ s : Nat, (s : Int) < (ivy 12 3).toInt → (fay 12 8 s).toInt ≤ (fay 12 7 s).toInt) → va_P (dC, dI) classes (WX x gx cax ivx lvx fax lax) H → va_D A (WX x gx cax ivx lvx fax lax) → va_P (dC, dI) classes (WM y gy cay ivy lvy fay lay) H → va_D A (WM y gy cay ivy lvy fay lay) → va_S A s.heap H locs → W p l e room_1 s m #[Value.ref b] below meth c H locs 98 5431 (lw_Z below #[Value.ref b] s) (F0 m 1509 ls [])) : W p l e room_1 s m #[Value.ref b] below meth c H locs 98 5431 (lw_Z below #[Value.ref b] s) (F0 m 1419 ls []) := by
  obtain ⟨hx, hb, hr, hml, hown, hts, hX, hbl, hlocks, hgv⟩ := id C0
  have ht := tb_of hts
  have hJD := hwd
  have hw8 := congrArg Int32.toInt hq_skeins
  have hJW : ∀ s : Nat, (s : Int) < (ivx 10 1).toInt → (100 ≤ (fax 10 0 (9 * s + 3)).toInt ∧ (fax 10 0 (9 * s + 3)).toInt ≤ 9999) ∧ (50 ≤ (fax 10 0 (9 * s + 4)).toInt ∧ (fax 10 0 (9 * s + 4)).toInt ≤ 9999) := fun s hs => by rw [(hrs s (by omega)).2.2.2.1, (hrs s (by omega)).2.2.2.2.1]; exact hwd s (by omega)
  have hw8r := congrArg Int32.toInt hq_rules
  have hJB : ∀ j : Nat, (j : Int) < (ivx 1 7).toInt → 0 ≤ (fax 1 0 j).toInt := fun j hj => (hbk j (by omega)).2.2.1
  have hJK : ∀ k j : Nat, (k : Int) < (ivy 12 23).toInt → 12 * k ≤ j → (j : Int) < 12 * (k : Int) + (fay 12 25 k).toInt → (fay 12 26 j).toInt = 3 → 0 ≤ (fay 12 28 j).toInt ∧ (fay 12 28 j).toInt < (k : Int) := bk_K hbk
  have hw8b := congrArg Int32.toInt hq_bales
  have hJF : ∀ a d v : Int, 0 ≤ a → a ≤ 5 → FoX (ivx 1 7).toInt (fax 1 0) (fax 1 1) (fax 1 2) (fax 1 3) a d v → fLo a ≤ v ∧ v ≤ fHi a := fun a d v h1 h2 x => by rw [hq_rules] at x; exact FoX_b hbk ⟨h1, h2⟩ x
  have hJH : ∀ a d v : Int, 0 ≤ a → a ≤ 5 → FoY (ivy 12 23).toInt (fay 12 24) (fay 12 25) (fay 12 26) (fay 12 27) (fay 12 28) a d v → fLo a ≤ v ∧ v ≤ fHi a := fun a d v h1 h2 x => FoY_b hbk ⟨h1, h2⟩ x
  have hJG := hgb
  have hJI : ∀ j : Nat, (j : Int) < (ivy 12 1).toInt → 1 ≤ (fay 12 2 j).toInt ∧ (fay 12 2 j).toInt ≤ 99999 := fun j hj => by rw [← hgr j]; exact hgb j (by omega)
  have hJL : ∀ b l : Int32, cn0 (fun s => fax 10 0 (9 * s + 0)) (fun s => fax 10 0 (9 * s + 1)) b l (ivx 10 1).toInt.toNat ≤ 12 := fun b l => by rw [hq_skeins, cn0_congr (ob := fay 12 4) (ol := fay 12 5) _ (fun j hj => ⟨(hrs j (by omega)).1, (hrs j (by omega)).2.1⟩)]; exact hJN b l
  have hw8p := congrArg Int32.toInt hq_papers
  have hJQ : ∀ p : Nat, (p : Int) < (ivy 12 67).toInt → 0 ≤ (lay 12 70 p).toInt ∧ ((fay 12 68 p).toInt = 0 → (lay 12 70 p).toInt ≤ 129998) ∧ (lay 12 70 p).toInt ≤ 129868002 ∧ -1 ≤ (fay 12 71 p).toInt ∧ (fay 12 71 p).toInt < (p : Int) := fun p hp => ⟨(hpa p hp).2.2.1, (hpa p hp).2.2.2.1, (hpa p hp).2.2.2.2.1, (hpa p hp).2.2.2.2.2.1, (hpa p hp).2.2.2.2.2.2.1⟩
  have hJP : ∀ p : Nat, (p : Int) < (ivx 6 7).toInt → 0 ≤ (fax 6 2 p).toInt ∧ ((fax 6 0 p).toInt = 0 → (fax 6 2 p).toInt ≤ 129998) ∧ (fax 6 2 p).toInt ≤ 129868002 ∧ -1 ≤ (fax 6 3 p).toInt ∧ (fax 6 3 p).toInt < (p : Int) := fun p hp => by rw [(hpa p (by omega)).1.1, (hpa p (by omega)).1.2.2.1, (hpa p (by omega)).1.2.2.2.1]; exact hJQ p (by omega)
  have hJS : ∀ s : Nat, (s : Int) < (ivx 10 1).toInt → (fax 10 0 (9 * s + 4)).toInt ≤ (fax 10 0 (9 * s + 3)).toInt := fun s hs => by rw [(hrs s (by omega)).2.2.2.1, (hrs s (by omega)).2.2.2.2.1]; exact hdr s (by omega)
  have hJT : ∀ j : Nat, 0 ≤ (fay 12 32 j).toInt := fun j => (htx j).2
  refine lv_aload_n hx hb dL_law_1419 rfl (lv_at hl 2 rfl) ?_
  refine aw_iconst (v := 1) hx hb hX hbl hbA hS hl hi hi8 (by decide) ⟨by decide, by decide⟩ dL_law_1420 dL_law_1421 dL_law_1422 dL_law_1423 dL_law_1424 (fun v1 ev1 v2 ev2 => ?_)
  have hFc := free_all hDx hS hA
  refine va_calli (va_runV (As := [.int v2]) (rest := []) ⟨hx, hb, hml, hown, ht⟩ (c_X11_undo_w l dC dI H.size x gx cax ivx lvx fax lax hIx v2 hJP) (kV 1 ht m_1108 m_1109 m_1110 m_77 m_1111 rfl rfl hd_X11_undo_v ⟨Nat.le_of_ble_eq_true rfl, Nat.le_of_ble_eq_true rfl⟩) (vW hPx hKx hDx (rX_11 hKx hPx)) rfl rfl hl.1 rfl (lv_room (Nat.le_of_ble_eq_true rfl)) dL_law_1425 ⟨Nat.le_of_ble_eq_true rfl, Nat.le_of_ble_eq_true rfl⟩) hS (fun q _ h => hFc q h) hFc (fun r3 u t H1 locs ht9 hvm hr3 hB hz1 hk1 hS => ?_)
  obtain ⟨n4, n5, hn5, xr3_0, hr3, rfl⟩ := hr3
  obtain ⟨hPx, hDx⟩ := hB
  rw [ht9] at hPx
  have hPy := P_kept hPy (la := AdM y gy) (lb := AdX x gx) wmM wmX (fun a ha b hb => (hXY b hb a ha).symm) hk1
  generalize H1 = H at hPx hPy hS ⊢
  have hPx : va_P (dC, dI) classes (WX x gx cax ivx lvx (u2 (u2 fax 6 5 n4) 6 6 n5) lax) H := hPx
  have hDx : va_D A (WX x gx cax ivx lvx (u2 (u2 fax 6 5 n4) 6 6 n5) lax) := (show va_D _ (WX x gx cax ivx lvx (u2 (u2 fax 6 5 n4) 6 6 n5) lax) from hDx).weaken (fun _ _ _ h => hFc _ h)
  refine lv_pop hx hb dL_law_1428 rfl ?_
  refine lv_aload_n hx hb dL_law_1429 rfl (lv_at hl 1 rfl) ?_
  refine aw_iconst (v := 1) hx hb hX hbl hbA hS hl hi hi8 (by decide) ⟨by decide, by decide⟩ dL_law_1430 dL_law_1431 dL_law_1432 dL_law_1433 dL_law_1434 (fun v6 ev6 v7 ev7 => ?_)
  have hFc := free_all hDy hS hA
  refine va_calli (va_runV (As := [.int v7]) (rest := []) ⟨hx, hb, hml, hown, ht⟩ (c_X12_undo_w l dC dI H.size y gy cay ivy lvy fay lay hIy v7 hJQ) (kV 1 ht m_1696 m_1697 m_1698 m_89 m_1699 rfl rfl hd_X12_undo_v ⟨Nat.le_of_ble_eq_true rfl, Nat.le_of_ble_eq_true rfl⟩) (vW hPy hKy hDy (rM_12 hKy hPy)) rfl rfl hl.1 rfl (lv_room (Nat.le_of_ble_eq_true rfl)) dL_law_1435 ⟨Nat.le_of_ble_eq_true rfl, Nat.le_of_ble_eq_true rfl⟩) hS (fun q _ h => hFc q h) hFc (fun r8 u t H1 locs ht9 hvm hr8 hB hz1 hk1 hS => ?_)
  obtain ⟨n9, xr8_0, hr8, rfl⟩ := hr8
  obtain ⟨hPy, hDy⟩ := hB
  rw [ht9] at hPy
  have hPx := P_kept hPx (la := AdX x gx) (lb := AdM y gy) wmX wmM hXY hk1
  generalize H1 = H at hPx hPy hS ⊢
  have hPy : va_P (dC, dI) classes (WM y gy cay ivy lvy (u2 fay 12 73 n9) lay) H := hPy
  have hDy : va_D A (WM y gy cay ivy lvy (u2 fay 12 73 n9) lay) := (show va_D _ (WM y gy cay ivy lvy (u2 fay 12 73 n9) lay) from hDy).weaken (fun _ _ _ h => hFc _ h)
  have hv9_0 : (v2 : Int32) = v7 := by rw [ev2, ev7, ev1, ev6]
  have hu9_0 := congrArg Int32.toInt hv9_0
  have hw9_now := congrArg Int32.toInt hq_now
  have hw9_bales := congrArg Int32.toInt hq_bales
  have hw9_skeins := congrArg Int32.toInt hq_skeins
  have hw9_rules := congrArg Int32.toInt hq_rules
  have hw9_text := congrArg Int32.toInt hq_text
  have hw9_place := congrArg Int32.toInt hq_place
  have hw9_papers := congrArg Int32.toInt hq_papers
  have y9x_0 : ((r3.toInt = -100001 ∧ ¬ (0 ≤ (v2 : Int32).toInt ∧ (v2 : Int32).toInt < (ivx 6 7).toInt) ∧ ∀ j : Nat, n4 j = (fax 6 5) j) ∨ (r3.toInt = -100003 ∧ (0 ≤ (v2 : Int32).toInt ∧ (v2 : Int32).toInt < (ivx 6 7).toInt) ∧ ¬ StX (fax 6 0) (fax 6 5) ((v2 : Int32).toInt).toNat ∧ ∀ j : Nat, n4 j = (fax 6 5) j) ∨ ((0 ≤ (v2 : Int32).toInt ∧ (v2 : Int32).toInt < (ivx 6 7).toInt) ∧ StX (fax 6 0) (fax 6 5) ((v2 : Int32).toInt).toNat ∧ ∃ T : Nat → Prop, Fa (ivx 6 7).toInt (fax 6 3) ((v2 : Int32).toInt).toNat T ∧ (∀ q : Nat, (((q : Int) < (ivx 6 7).toInt ∧ T q ∧ ((fax 6 5) q).toInt = -1) → n4 q = (ivx 11 10)) ∧ (¬ ((q : Int) < (ivx 6 7).toInt ∧ T q ∧ ((fax 6 5) q).toInt = -1) → n4 q = (fax 6 5) q)) ∧ r3.toInt = (smC (fun q : Nat => T q ∧ ((fax 6 5) q).toInt = -1) ((ivx 6 7).toInt).toNat).toInt)) := xr3_0
  have y9y_0 : ((r8.toInt = -100001 ∧ ¬ (0 ≤ (v7 : Int32).toInt ∧ (v7 : Int32).toInt < (ivy 12 67).toInt) ∧ ∀ j : Nat, n9 j = (fay 12 73) j) ∨ (r8.toInt = -100003 ∧ (0 ≤ (v7 : Int32).toInt ∧ (v7 : Int32).toInt < (ivy 12 67).toInt) ∧ ¬ StY (fay 12 68) (fay 12 73) ((v7 : Int32).toInt).toNat ∧ ∀ j : Nat, n9 j = (fay 12 73) j) ∨ ((0 ≤ (v7 : Int32).toInt ∧ (v7 : Int32).toInt < (ivy 12 67).toInt) ∧ StY (fay 12 68) (fay 12 73) ((v7 : Int32).toInt).toNat ∧ ∃ T : Nat → Prop, Fa (ivy 12 67).toInt (fay 12 71) ((v7 : Int32).toInt).toNat T ∧ (∀ q : Nat, ((T q ∧ ((fay 12 73) q).toInt < 0) → n9 q = (ivy 12 0)) ∧ (¬ (T q ∧ ((fay 12 73) q).toInt < 0) → n9 q = (fay 12 73) q)) ∧ r8.toInt = (smC (fun q : Nat => T q ∧ ((fay 12 73) q).toInt < 0) ((ivy 12 67).toInt).toNat).toInt)) := xr8_0
  have hb67 : 0 ≤ (ivy 12 67).toInt ∧ (ivy 12 67).toInt ≤ 40 := hIy.1 12 67
  have hb0 : 0 ≤ (ivy 12 0).toInt ∧ (ivy 12 0).toInt ≤ 3000 := hIy.1 12 0
  rw [hv9_0, hq_papers, hq_now] at y9x_0
  have hz9 : (r3 : Int32).toInt = (r8 : Int32).toInt ∧ (ivx 6 7).toInt = (ivy 12 67).toInt ∧ PaE (ivy 12 67).toInt (fax 6 0) (fax 6 1) (fax 6 2) (fax 6 3) (fax 6 4) n4 (fay 12 68) (fay 12 69) (lay 12 70) (fay 12 71) (fay 12 72) n9 := by
    rcases y9x_0 with ⟨a1, a2, a3⟩ | ⟨a1, a2, a3, a4⟩ | ⟨a1, a2, T, t1, t2, t3⟩
    · rcases y9y_0 with ⟨b1, b2, b3⟩ | ⟨b1, b2, b3, b4⟩ | ⟨b1, b2, S, s1, s2, s3⟩
      · refine ⟨by omega, by omega, ?_⟩
        exact PaE_same hpa (fun j => ⟨rfl, rfl, rfl, rfl, rfl, a3 j⟩) (fun j => ⟨rfl, rfl, rfl, rfl, rfl, b3 j⟩)
      · exfalso; omega
      · exfalso; omega
    · have hst := St_xy hpa (p := ((v7 : Int32).toInt).toNat) (by omega)
      rcases y9y_0 with ⟨b1, b2, b3⟩ | ⟨b1, b2, b3, b4⟩ | ⟨b1, b2, S, s1, s2, s3⟩
      · exfalso; omega
      · refine ⟨by omega, by omega, ?_⟩
        exact PaE_same hpa (fun j => ⟨rfl, rfl, rfl, rfl, rfl, a4 j⟩) (fun j => ⟨rfl, rfl, rfl, rfl, rfl, b4 j⟩)
      · exact absurd (hst.mpr b2) a3
    · have hst := St_xy hpa (p := ((v7 : Int32).toInt).toNat) (by omega)
      rcases y9y_0 with ⟨b1, b2, b3⟩ | ⟨b1, b2, b3, b4⟩ | ⟨b1, b2, S, s1, s2, s3⟩
      · exfalso; omega
      · exact absurd (hst.mp a2) b3
      · have hu := Un_xy hpa hb67.1 hb0.1 rfl t1 t2 t3 s1 s2 s3
        exact ⟨hu.1, by omega, hu.2⟩
  have hr8 := hz9.1
  have hp8 := hz9.2.1
  have hpn := hz9.2.2
  refine lv_pop hx hb dL_law_1438 rfl ?_
  refine lv_goto (tgt := 1509) hx hb dL_law_1439 (by decide) ?_
  exact kk _ _ ivx lvx (u2 (u2 fax 6 5 n4) 6 6 n5) lax ivy lvy (u2 fay 12 73 n9) lay (IX_a (c := 6) (k := 6) (IX_a (c := 6) (k := 5) hIx (fun j => full_i _)) hn5) (IX_a (c := 12) (k := 73) hIy (fun j => full_i _)) hJC hJR hJN hJO hq_now hq_bales hq_skeins hq_rules hq_text hq_place hq_papers hrs hls hwd htx hbk hgr hgb hpn hdr hPx hDx hPy hDy hS
set_option maxHeartbeats 4000000 in
set_option maxRecDepth 100000 in
theorem law_36 {p : Program} {e : Env} {s : State} {m : MethodId} {below : List Frame} {meth : Method} {c : Code} (l : Launch) {b L : Nat} {xs : Nat → Int32} (hL : L ≤ 4096) (C0 : lw_At p s m meth c b L xs) {dC : Nat → ClassId} {dI : Nat → Nat → Nat} {A : Nat → Prop} (hA : ∀ q : Nat, s.heap.size ≤ q → A q) (hbA : ¬ A b) (hAs : ∀ q : Nat, A q → s.heap.size ≤ q) {x y : Nat} {gx gy : Nat → Nat → Nat} {cax cay : Nat → Nat → ClassId} {ak av : Nat → Nat} (hKx : va_K (dC, dI) classes (TX cax) s) (hKy : va_K (dC, dI) classes (TM cay) s) (hXY : ∀ a ∈ AdX x gx, ∀ b ∈ AdM y gy, a ≠ b) (hZ : zC ak av A s s.heap) {H : Heap} {locs : List Loc} {ivx : Nat → Nat → Int32} {lvx : Nat → Nat → Int64} {fax : Nat → Nat → Nat → Int32} {lax : Nat → Nat → Nat → Int64} {ivy : Nat → Nat → Int32} {lvy : Nat → Nat → Int64} {fay : Nat → Nat → Nat → Int32} {lay : Nat → Nat → Nat → Int64} (hIx : IX ivx fax) (hIy : IX ivy fay) (hJC : JCf (ivy 12 23).toInt (fay 12 25) (fay 12 26) (fay 12 27) (fay 12 28)) (hJR : JRf (ivy 12 3).toInt (fay 12 7)) (hJN : JNf (ivy 12 3).toInt (fay 12 4) (fay 12 5)) (hJO : ((ivy 12 20).toInt = -1 ∧ (ivy 12 21).toInt = -1 ∧ (ivy 12 22).toInt = -1)) (hq_now : ivx 11 10 = ivy 12 0) (hq_bales : ivx 0 7 = ivy 12 1) (hq_skeins : ivx 10 1 = ivy 12 3) (hq_rules : ivx 1 7 = ivy 12 23) (hq_text : ivx 8 2 = ivy 12 33) (hq_place : ivx 8 3 = ivy 12 36) (hq_papers : ivx 6 7 = ivy 12 67) (hrs : (∀ s : Nat, (s : Int) < (ivy 12 3).toInt → fax 10 0 (9 * s + 0) = fay 12 4 s ∧ fax 10 0 (9 * s + 1) = fay 12 5 s ∧ fax 10 0 (9 * s + 2) = fay 12 6 s ∧ fax 10 0 (9 * s + 3) = fay 12 7 s ∧ fax 10 0 (9 * s + 4) = fay 12 8 s ∧ fax 10 0 (9 * s + 5) = fay 12 9 s ∧ fax 10 0 (9 * s + 6) = fay 12 10 s ∧ fax 10 0 (9 * s + 7) = fay 12 11 s ∧ fax 10 0 (9 * s + 8) = fay 12 12 s)) (hls : (∀ j : Nat, -1 ≤ (fay 12 12 j).toInt)) (hwd : (∀ s : Nat, (s : Int) < (ivy 12 3).toInt → (100 ≤ (fay 12 7 s).toInt ∧ (fay 12 7 s).toInt ≤ 9999) ∧ (50 ≤ (fay 12 8 s).toInt ∧ (fay 12 8 s).toInt ≤ 9999))) (htx : (∀ j : Nat, (fax 8 1 j).toInt = sg (fay 12 32 j).toInt ∧ 0 ≤ (fay 12 32 j).toInt)) (hbk : BkE (ivy 12 23).toInt (fax 1 0) (fax 1 1) (fax 1 2) (fax 1 3) (fax 1 4) (fax 1 5) (fay 12 24) (fay 12 25) (fay 12 26) (fay 12 27) (fay 12 28) (fay 12 29) (fay 12 30) (fay 12 31)) (hgr : (∀ j : Nat, fax 0 0 j = fay 12 2 j)) (hgb : (∀ j : Nat, (j : Int) < (ivx 0 7).toInt → 1 ≤ (fax 0 0 j).toInt ∧ (fax 0 0 j).toInt ≤ 99999)) (hpa : PaE (ivy 12 67).toInt (fax 6 0) (fax 6 1) (fax 6 2) (fax 6 3) (fax 6 4) (fax 6 5) (fay 12 68) (fay 12 69) (lay 12 70) (fay 12 71) (fay 12 72) (fay 12 73)) (hdr : (∀ s : Nat, (s : Int) < (ivy 12 3).toInt → (fay 12 8 s).toInt ≤ (fay 12 7 s).toInt)) (hPx : va_P (dC, dI) classes (WX x gx cax ivx lvx fax lax) H) (hDx : va_D A (WX x gx cax ivx lvx fax lax)) (hPy : va_P (dC, dI) classes (WM y gy cay ivy lvy fay lay) H) (hDy : va_D A (WM y gy cay ivy lvy fay lay)) (hS : va_S A s.heap H locs) {i : Int32} {ls : Array Slot} (hl : lv_has ls 4 [(3, .int i), (2, .ref y), (1, .ref x), (0, .ref b)]) (hi : 0 ≤ i.toInt ∧ i.toInt ≤ 4088) (hi8 : i.toInt + 8 ≤ (L : Int)) (kk : ∀ (H : Heap) (locs : List Loc) (ivx : Nat → Nat → Int32) (lvx : Nat → Nat → Int64) (fax : Nat → Nat → Nat → Int32) (lax : Nat → Nat → Nat → Int64) (ivy : Nat → Nat → Int32) (lvy : Nat → Nat → Int64) (fay : Nat → Nat → Nat → Int32) (lay : Nat → Nat → Nat → Int64), IX ivx fax → IX ivy fay → JCf (ivy 12 23).toInt (fay 12 25) (fay 12 26) (fay 12 27) (fay 12 28) → JRf (ivy 12 3).toInt (fay 12 7) → JNf (ivy 12 3).toInt (fay 12 4) (fay 12 5) → ((ivy 12 20).toInt = -1 ∧ (ivy 12 21).toInt = -1 ∧ (ivy 12 22).toInt = -1) → ivx 11 10 = ivy 12 0 → ivx 0 7 = ivy 12 1 → ivx 10 1 = ivy 12 3 → ivx 1 7 = ivy 12 23 → ivx 8 2 = ivy 12 33 → ivx 8 3 = ivy 12 36 → ivx 6 7 = ivy 12 67 → (∀ s : Nat, (s : Int) < (ivy 12 3).toInt → fax 10 0 (9 * s + 0) = fay 12 4 s ∧ fax 10 0 (9 * s + 1) = fay 12 5 s ∧ fax 10 0 (9 * s + 2) = fay 12 6 s ∧ fax 10 0 (9 * s + 3) = fay 12 7 s ∧ fax 10 0 (9 * s + 4) = fay 12 8 s ∧ fax 10 0 (9 * s + 5) = fay 12 9 s ∧ fax 10 0 (9 * s + 6) = fay 12 10 s ∧ fax 10 0 (9 * s + 7) = fay 12 11 s ∧ fax 10 0 (9 * s + 8) = fay 12 12 s) → (∀ j : Nat, -1 ≤ (fay 12 12 j).toInt) → (∀ s : Nat, (s : Int) < (ivy 12 3).toInt → (100 ≤ (fay 12 7 s).toInt ∧ (fay 12 7 s).toInt ≤ 9999) ∧ (50 ≤ (fay 12 8 s).toInt ∧ (fay 12 8 s).toInt ≤ 9999)) → (∀ j : Nat, (fax 8 1 j).toInt = sg (fay 12 32 j).toInt ∧ 0 ≤ (fay 12 32 j).toInt) → BkE (ivy 12 23).toInt (fax 1 0) (fax 1 1) (fax 1 2) (fax 1 3) (fax 1 4) (fax 1 5) (fay 12 24) (fay 12 25) (fay 12 26) (fay 12 27) (fay 12 28) (fay 12 29) (fay 12 30) (fay 12 31) → (∀ j : Nat, fax 0 0 j = fay 12 2 j) → (∀ j : Nat, (j : Int) < (ivx 0 7).toInt → 1 ≤ (fax 0 0 j).toInt ∧ (fax 0 0 j).toInt ≤ 99999) → PaE (ivy 12 67).toInt (fax 6 0) (fax 6 1) (fax 6 2) (fax 6 3) (fax 6 4) (fax 6 5) (fay 12 68) (fay 12 69) (lay 12 70) (fay 12 71) (fay 12 72) (fay 12 73) → (∀ s : Nat, (s : Int) < (ivy 12 3).toInt → (fay 12 8 s).toInt ≤ (fay 12 7 s).toInt) → va_P (dC, dI) classes (WX x gx cax ivx lvx fax lax) H → va_D A (WX x gx cax ivx lvx fax lax) → va_P (dC, dI) classes (WM y gy cay ivy lvy fay lay) H → va_D A (WM y gy cay ivy lvy fay lay) → va_S A s.heap H locs → W p l e room_1 s m #[Value.ref b] below meth c H locs 98 5431 (lw_Z below #[Value.ref b] s) (F0 m 1509 ls [])) : W p l e room_1 s m #[Value.ref b] below meth c H locs 98 5431 (lw_Z below #[Value.ref b] s) (F0 m 1442 ls []) := by
  obtain ⟨hx, hb, hr, hml, hown, hts, hX, hbl, hlocks, hgv⟩ := id C0
  have ht := tb_of hts
  have hJD := hwd
  have hw8 := congrArg Int32.toInt hq_skeins
  have hJW : ∀ s : Nat, (s : Int) < (ivx 10 1).toInt → (100 ≤ (fax 10 0 (9 * s + 3)).toInt ∧ (fax 10 0 (9 * s + 3)).toInt ≤ 9999) ∧ (50 ≤ (fax 10 0 (9 * s + 4)).toInt ∧ (fax 10 0 (9 * s + 4)).toInt ≤ 9999) := fun s hs => by rw [(hrs s (by omega)).2.2.2.1, (hrs s (by omega)).2.2.2.2.1]; exact hwd s (by omega)
  have hw8r := congrArg Int32.toInt hq_rules
  have hJB : ∀ j : Nat, (j : Int) < (ivx 1 7).toInt → 0 ≤ (fax 1 0 j).toInt := fun j hj => (hbk j (by omega)).2.2.1
  have hJK : ∀ k j : Nat, (k : Int) < (ivy 12 23).toInt → 12 * k ≤ j → (j : Int) < 12 * (k : Int) + (fay 12 25 k).toInt → (fay 12 26 j).toInt = 3 → 0 ≤ (fay 12 28 j).toInt ∧ (fay 12 28 j).toInt < (k : Int) := bk_K hbk
  have hw8b := congrArg Int32.toInt hq_bales
  have hJF : ∀ a d v : Int, 0 ≤ a → a ≤ 5 → FoX (ivx 1 7).toInt (fax 1 0) (fax 1 1) (fax 1 2) (fax 1 3) a d v → fLo a ≤ v ∧ v ≤ fHi a := fun a d v h1 h2 x => by rw [hq_rules] at x; exact FoX_b hbk ⟨h1, h2⟩ x
  have hJH : ∀ a d v : Int, 0 ≤ a → a ≤ 5 → FoY (ivy 12 23).toInt (fay 12 24) (fay 12 25) (fay 12 26) (fay 12 27) (fay 12 28) a d v → fLo a ≤ v ∧ v ≤ fHi a := fun a d v h1 h2 x => FoY_b hbk ⟨h1, h2⟩ x
  have hJG := hgb
  have hJI : ∀ j : Nat, (j : Int) < (ivy 12 1).toInt → 1 ≤ (fay 12 2 j).toInt ∧ (fay 12 2 j).toInt ≤ 99999 := fun j hj => by rw [← hgr j]; exact hgb j (by omega)
  have hJL : ∀ b l : Int32, cn0 (fun s => fax 10 0 (9 * s + 0)) (fun s => fax 10 0 (9 * s + 1)) b l (ivx 10 1).toInt.toNat ≤ 12 := fun b l => by rw [hq_skeins, cn0_congr (ob := fay 12 4) (ol := fay 12 5) _ (fun j hj => ⟨(hrs j (by omega)).1, (hrs j (by omega)).2.1⟩)]; exact hJN b l
  have hw8p := congrArg Int32.toInt hq_papers
  have hJQ : ∀ p : Nat, (p : Int) < (ivy 12 67).toInt → 0 ≤ (lay 12 70 p).toInt ∧ ((fay 12 68 p).toInt = 0 → (lay 12 70 p).toInt ≤ 129998) ∧ (lay 12 70 p).toInt ≤ 129868002 ∧ -1 ≤ (fay 12 71 p).toInt ∧ (fay 12 71 p).toInt < (p : Int) := fun p hp => ⟨(hpa p hp).2.2.1, (hpa p hp).2.2.2.1, (hpa p hp).2.2.2.2.1, (hpa p hp).2.2.2.2.2.1, (hpa p hp).2.2.2.2.2.2.1⟩
  have hJP : ∀ p : Nat, (p : Int) < (ivx 6 7).toInt → 0 ≤ (fax 6 2 p).toInt ∧ ((fax 6 0 p).toInt = 0 → (fax 6 2 p).toInt ≤ 129998) ∧ (fax 6 2 p).toInt ≤ 129868002 ∧ -1 ≤ (fax 6 3 p).toInt ∧ (fax 6 3 p).toInt < (p : Int) := fun p hp => by rw [(hpa p (by omega)).1.1, (hpa p (by omega)).1.2.2.1, (hpa p (by omega)).1.2.2.2.1]; exact hJQ p (by omega)
  have hJS : ∀ s : Nat, (s : Int) < (ivx 10 1).toInt → (fax 10 0 (9 * s + 4)).toInt ≤ (fax 10 0 (9 * s + 3)).toInt := fun s hs => by rw [(hrs s (by omega)).2.2.2.1, (hrs s (by omega)).2.2.2.2.1]; exact hdr s (by omega)
  have hJT : ∀ j : Nat, 0 ≤ (fay 12 32 j).toInt := fun j => (htx j).2
  refine lv_aload_n hx hb dL_law_1442 rfl (lv_at hl 2 rfl) ?_
  refine aw_iconst (v := 1) hx hb hX hbl hbA hS hl hi hi8 (by decide) ⟨by decide, by decide⟩ dL_law_1443 dL_law_1444 dL_law_1445 dL_law_1446 dL_law_1447 (fun v1 ev1 v2 ev2 => ?_)
  refine aw_iconst (v := 2) hx hb hX hbl hbA hS hl hi hi8 (by decide) ⟨by decide, by decide⟩ dL_law_1448 dL_law_1449 dL_law_1450 dL_law_1451 dL_law_1452 (fun v3 ev3 v4 ev4 => ?_)
  refine vp_callSi (W.runV (As := [.int v2, .int v4]) (rest := []) ⟨hx, hb, hml, hown, ht⟩ (c_X11_paper l dC dI x gx cax ivx lvx fax lax hIx v2 v4) (kV 2 ht m_1117 m_1118 m_1119 m_77 m_1120 rfl rfl hd_X11_paper_v ⟨Nat.le_of_ble_eq_true rfl, Nat.le_of_ble_eq_true rfl⟩) (vR hPx hKx (rX_11 hKx hPx)) rfl rfl hl.1 rfl (lv_room (Nat.le_of_ble_eq_true rfl)) dL_law_1453 ⟨Nat.le_of_ble_eq_true rfl, Nat.le_of_ble_eq_true rfl⟩) (fun r5 hr5 => ?_)
  refine lv_pop hx hb dL_law_1456 rfl ?_
  refine lv_aload_n hx hb dL_law_1457 rfl (lv_at hl 1 rfl) ?_
  refine aw_iconst (v := 1) hx hb hX hbl hbA hS hl hi hi8 (by decide) ⟨by decide, by decide⟩ dL_law_1458 dL_law_1459 dL_law_1460 dL_law_1461 dL_law_1462 (fun v6 ev6 v7 ev7 => ?_)
  refine aw_iconst (v := 2) hx hb hX hbl hbA hS hl hi hi8 (by decide) ⟨by decide, by decide⟩ dL_law_1463 dL_law_1464 dL_law_1465 dL_law_1466 dL_law_1467 (fun v8 ev8 v9 ev9 => ?_)
  refine vp_callSi (W.runV (As := [.int v7, .int v9]) (rest := []) ⟨hx, hb, hml, hown, ht⟩ (c_X12_paper l dC dI y gy cay ivy lvy fay lay hIy v7 v9) (kV 2 ht m_1700 m_1701 m_1702 m_89 m_1703 rfl rfl hd_X12_paper_v ⟨Nat.le_of_ble_eq_true rfl, Nat.le_of_ble_eq_true rfl⟩) (vR hPy hKy (rM_12 hKy hPy)) rfl rfl hl.1 rfl (lv_room (Nat.le_of_ble_eq_true rfl)) dL_law_1468 ⟨Nat.le_of_ble_eq_true rfl, Nat.le_of_ble_eq_true rfl⟩) (fun r10 hr10 => ?_)
  refine lv_pop hx hb dL_law_1471 rfl ?_
  refine lv_goto (tgt := 1509) hx hb dL_law_1472 (by decide) ?_
  exact kk _ _ ivx lvx fax lax ivy lvy fay lay hIx hIy hJC hJR hJN hJO hq_now hq_bales hq_skeins hq_rules hq_text hq_place hq_papers hrs hls hwd htx hbk hgr hgb hpa hdr hPx hDx hPy hDy hS
set_option maxHeartbeats 4000000 in
set_option maxRecDepth 100000 in
theorem law_37 {p : Program} {e : Env} {s : State} {m : MethodId} {below : List Frame} {meth : Method} {c : Code} (l : Launch) {b L : Nat} {xs : Nat → Int32} (hL : L ≤ 4096) (C0 : lw_At p s m meth c b L xs) {dC : Nat → ClassId} {dI : Nat → Nat → Nat} {A : Nat → Prop} (hA : ∀ q : Nat, s.heap.size ≤ q → A q) (hbA : ¬ A b) (hAs : ∀ q : Nat, A q → s.heap.size ≤ q) {x y : Nat} {gx gy : Nat → Nat → Nat} {cax cay : Nat → Nat → ClassId} {ak av : Nat → Nat} (hKx : va_K (dC, dI) classes (TX cax) s) (hKy : va_K (dC, dI) classes (TM cay) s) (hXY : ∀ a ∈ AdX x gx, ∀ b ∈ AdM y gy, a ≠ b) (hZ : zC ak av A s s.heap) {H : Heap} {locs : List Loc} {ivx : Nat → Nat → Int32} {lvx : Nat → Nat → Int64} {fax : Nat → Nat → Nat → Int32} {lax : Nat → Nat → Nat → Int64} {ivy : Nat → Nat → Int32} {lvy : Nat → Nat → Int64} {fay : Nat → Nat → Nat → Int32} {lay : Nat → Nat → Nat → Int64} (hIx : IX ivx fax) (hIy : IX ivy fay) (hJC : JCf (ivy 12 23).toInt (fay 12 25) (fay 12 26) (fay 12 27) (fay 12 28)) (hJR : JRf (ivy 12 3).toInt (fay 12 7)) (hJN : JNf (ivy 12 3).toInt (fay 12 4) (fay 12 5)) (hJO : ((ivy 12 20).toInt = -1 ∧ (ivy 12 21).toInt = -1 ∧ (ivy 12 22).toInt = -1)) (hq_now : ivx 11 10 = ivy 12 0) (hq_bales : ivx 0 7 = ivy 12 1) (hq_skeins : ivx 10 1 = ivy 12 3) (hq_rules : ivx 1 7 = ivy 12 23) (hq_text : ivx 8 2 = ivy 12 33) (hq_place : ivx 8 3 = ivy 12 36) (hq_papers : ivx 6 7 = ivy 12 67) (hrs : (∀ s : Nat, (s : Int) < (ivy 12 3).toInt → fax 10 0 (9 * s + 0) = fay 12 4 s ∧ fax 10 0 (9 * s + 1) = fay 12 5 s ∧ fax 10 0 (9 * s + 2) = fay 12 6 s ∧ fax 10 0 (9 * s + 3) = fay 12 7 s ∧ fax 10 0 (9 * s + 4) = fay 12 8 s ∧ fax 10 0 (9 * s + 5) = fay 12 9 s ∧ fax 10 0 (9 * s + 6) = fay 12 10 s ∧ fax 10 0 (9 * s + 7) = fay 12 11 s ∧ fax 10 0 (9 * s + 8) = fay 12 12 s)) (hls : (∀ j : Nat, -1 ≤ (fay 12 12 j).toInt)) (hwd : (∀ s : Nat, (s : Int) < (ivy 12 3).toInt → (100 ≤ (fay 12 7 s).toInt ∧ (fay 12 7 s).toInt ≤ 9999) ∧ (50 ≤ (fay 12 8 s).toInt ∧ (fay 12 8 s).toInt ≤ 9999))) (htx : (∀ j : Nat, (fax 8 1 j).toInt = sg (fay 12 32 j).toInt ∧ 0 ≤ (fay 12 32 j).toInt)) (hbk : BkE (ivy 12 23).toInt (fax 1 0) (fax 1 1) (fax 1 2) (fax 1 3) (fax 1 4) (fax 1 5) (fay 12 24) (fay 12 25) (fay 12 26) (fay 12 27) (fay 12 28) (fay 12 29) (fay 12 30) (fay 12 31)) (hgr : (∀ j : Nat, fax 0 0 j = fay 12 2 j)) (hgb : (∀ j : Nat, (j : Int) < (ivx 0 7).toInt → 1 ≤ (fax 0 0 j).toInt ∧ (fax 0 0 j).toInt ≤ 99999)) (hpa : PaE (ivy 12 67).toInt (fax 6 0) (fax 6 1) (fax 6 2) (fax 6 3) (fax 6 4) (fax 6 5) (fay 12 68) (fay 12 69) (lay 12 70) (fay 12 71) (fay 12 72) (fay 12 73)) (hdr : (∀ s : Nat, (s : Int) < (ivy 12 3).toInt → (fay 12 8 s).toInt ≤ (fay 12 7 s).toInt)) (hPx : va_P (dC, dI) classes (WX x gx cax ivx lvx fax lax) H) (hDx : va_D A (WX x gx cax ivx lvx fax lax)) (hPy : va_P (dC, dI) classes (WM y gy cay ivy lvy fay lay) H) (hDy : va_D A (WM y gy cay ivy lvy fay lay)) (hS : va_S A s.heap H locs) {i : Int32} {ls : Array Slot} (hl : lv_has ls 4 [(3, .int i), (2, .ref y), (1, .ref x), (0, .ref b)]) (hi : 0 ≤ i.toInt ∧ i.toInt ≤ 4088) (hi8 : i.toInt + 8 ≤ (L : Int)) (kk : ∀ (H : Heap) (locs : List Loc) (ivx : Nat → Nat → Int32) (lvx : Nat → Nat → Int64) (fax : Nat → Nat → Nat → Int32) (lax : Nat → Nat → Nat → Int64) (ivy : Nat → Nat → Int32) (lvy : Nat → Nat → Int64) (fay : Nat → Nat → Nat → Int32) (lay : Nat → Nat → Nat → Int64), IX ivx fax → IX ivy fay → JCf (ivy 12 23).toInt (fay 12 25) (fay 12 26) (fay 12 27) (fay 12 28) → JRf (ivy 12 3).toInt (fay 12 7) → JNf (ivy 12 3).toInt (fay 12 4) (fay 12 5) → ((ivy 12 20).toInt = -1 ∧ (ivy 12 21).toInt = -1 ∧ (ivy 12 22).toInt = -1) → ivx 11 10 = ivy 12 0 → ivx 0 7 = ivy 12 1 → ivx 10 1 = ivy 12 3 → ivx 1 7 = ivy 12 23 → ivx 8 2 = ivy 12 33 → ivx 8 3 = ivy 12 36 → ivx 6 7 = ivy 12 67 → (∀ s : Nat, (s : Int) < (ivy 12 3).toInt → fax 10 0 (9 * s + 0) = fay 12 4 s ∧ fax 10 0 (9 * s + 1) = fay 12 5 s ∧ fax 10 0 (9 * s + 2) = fay 12 6 s ∧ fax 10 0 (9 * s + 3) = fay 12 7 s ∧ fax 10 0 (9 * s + 4) = fay 12 8 s ∧ fax 10 0 (9 * s + 5) = fay 12 9 s ∧ fax 10 0 (9 * s + 6) = fay 12 10 s ∧ fax 10 0 (9 * s + 7) = fay 12 11 s ∧ fax 10 0 (9 * s + 8) = fay 12 12 s) → (∀ j : Nat, -1 ≤ (fay 12 12 j).toInt) → (∀ s : Nat, (s : Int) < (ivy 12 3).toInt → (100 ≤ (fay 12 7 s).toInt ∧ (fay 12 7 s).toInt ≤ 9999) ∧ (50 ≤ (fay 12 8 s).toInt ∧ (fay 12 8 s).toInt ≤ 9999)) → (∀ j : Nat, (fax 8 1 j).toInt = sg (fay 12 32 j).toInt ∧ 0 ≤ (fay 12 32 j).toInt) → BkE (ivy 12 23).toInt (fax 1 0) (fax 1 1) (fax 1 2) (fax 1 3) (fax 1 4) (fax 1 5) (fay 12 24) (fay 12 25) (fay 12 26) (fay 12 27) (fay 12 28) (fay 12 29) (fay 12 30) (fay 12 31) → (∀ j : Nat, fax 0 0 j = fay 12 2 j) → (∀ j : Nat, (j : Int) < (ivx 0 7).toInt → 1 ≤ (fax 0 0 j).toInt ∧ (fax 0 0 j).toInt ≤ 99999) → PaE (ivy 12 67).toInt (fax 6 0) (fax 6 1) (fax 6 2) (fax 6 3) (fax 6 4) (fax 6 5) (fay 12 68) (fay 12 69) (lay 12 70) (fay 12 71) (fay 12 72) (fay 12 73) → (∀ s : Nat, (s : Int) < (ivy 12 3).toInt → (fay 12 8 s).toInt ≤ (fay 12 7 s).toInt) → va_P (dC, dI) classes (WX x gx cax ivx lvx fax lax) H → va_D A (WX x gx cax ivx lvx fax lax) → va_P (dC, dI) classes (WM y gy cay ivy lvy fay lay) H → va_D A (WM y gy cay ivy lvy fay lay) → va_S A s.heap H locs → W p l e room_1 s m #[Value.ref b] below meth c H locs 98 5431 (lw_Z below #[Value.ref b] s) (F0 m 1509 ls [])) : W p l e room_1 s m #[Value.ref b] below meth c H locs 98 5431 (lw_Z below #[Value.ref b] s) (F0 m 1475 ls []) := by
  obtain ⟨hx, hb, hr, hml, hown, hts, hX, hbl, hlocks, hgv⟩ := id C0
  have ht := tb_of hts
  have hJD := hwd
  have hw8 := congrArg Int32.toInt hq_skeins
  have hJW : ∀ s : Nat, (s : Int) < (ivx 10 1).toInt → (100 ≤ (fax 10 0 (9 * s + 3)).toInt ∧ (fax 10 0 (9 * s + 3)).toInt ≤ 9999) ∧ (50 ≤ (fax 10 0 (9 * s + 4)).toInt ∧ (fax 10 0 (9 * s + 4)).toInt ≤ 9999) := fun s hs => by rw [(hrs s (by omega)).2.2.2.1, (hrs s (by omega)).2.2.2.2.1]; exact hwd s (by omega)
  have hw8r := congrArg Int32.toInt hq_rules
  have hJB : ∀ j : Nat, (j : Int) < (ivx 1 7).toInt → 0 ≤ (fax 1 0 j).toInt := fun j hj => (hbk j (by omega)).2.2.1
  have hJK : ∀ k j : Nat, (k : Int) < (ivy 12 23).toInt → 12 * k ≤ j → (j : Int) < 12 * (k : Int) + (fay 12 25 k).toInt → (fay 12 26 j).toInt = 3 → 0 ≤ (fay 12 28 j).toInt ∧ (fay 12 28 j).toInt < (k : Int) := bk_K hbk
  have hw8b := congrArg Int32.toInt hq_bales
  have hJF : ∀ a d v : Int, 0 ≤ a → a ≤ 5 → FoX (ivx 1 7).toInt (fax 1 0) (fax 1 1) (fax 1 2) (fax 1 3) a d v → fLo a ≤ v ∧ v ≤ fHi a := fun a d v h1 h2 x => by rw [hq_rules] at x; exact FoX_b hbk ⟨h1, h2⟩ x
  have hJH : ∀ a d v : Int, 0 ≤ a → a ≤ 5 → FoY (ivy 12 23).toInt (fay 12 24) (fay 12 25) (fay 12 26) (fay 12 27) (fay 12 28) a d v → fLo a ≤ v ∧ v ≤ fHi a := fun a d v h1 h2 x => FoY_b hbk ⟨h1, h2⟩ x
  have hJG := hgb
  have hJI : ∀ j : Nat, (j : Int) < (ivy 12 1).toInt → 1 ≤ (fay 12 2 j).toInt ∧ (fay 12 2 j).toInt ≤ 99999 := fun j hj => by rw [← hgr j]; exact hgb j (by omega)
  have hJL : ∀ b l : Int32, cn0 (fun s => fax 10 0 (9 * s + 0)) (fun s => fax 10 0 (9 * s + 1)) b l (ivx 10 1).toInt.toNat ≤ 12 := fun b l => by rw [hq_skeins, cn0_congr (ob := fay 12 4) (ol := fay 12 5) _ (fun j hj => ⟨(hrs j (by omega)).1, (hrs j (by omega)).2.1⟩)]; exact hJN b l
  have hw8p := congrArg Int32.toInt hq_papers
  have hJQ : ∀ p : Nat, (p : Int) < (ivy 12 67).toInt → 0 ≤ (lay 12 70 p).toInt ∧ ((fay 12 68 p).toInt = 0 → (lay 12 70 p).toInt ≤ 129998) ∧ (lay 12 70 p).toInt ≤ 129868002 ∧ -1 ≤ (fay 12 71 p).toInt ∧ (fay 12 71 p).toInt < (p : Int) := fun p hp => ⟨(hpa p hp).2.2.1, (hpa p hp).2.2.2.1, (hpa p hp).2.2.2.2.1, (hpa p hp).2.2.2.2.2.1, (hpa p hp).2.2.2.2.2.2.1⟩
  have hJP : ∀ p : Nat, (p : Int) < (ivx 6 7).toInt → 0 ≤ (fax 6 2 p).toInt ∧ ((fax 6 0 p).toInt = 0 → (fax 6 2 p).toInt ≤ 129998) ∧ (fax 6 2 p).toInt ≤ 129868002 ∧ -1 ≤ (fax 6 3 p).toInt ∧ (fax 6 3 p).toInt < (p : Int) := fun p hp => by rw [(hpa p (by omega)).1.1, (hpa p (by omega)).1.2.2.1, (hpa p (by omega)).1.2.2.2.1]; exact hJQ p (by omega)
  have hJS : ∀ s : Nat, (s : Int) < (ivx 10 1).toInt → (fax 10 0 (9 * s + 4)).toInt ≤ (fax 10 0 (9 * s + 3)).toInt := fun s hs => by rw [(hrs s (by omega)).2.2.2.1, (hrs s (by omega)).2.2.2.2.1]; exact hdr s (by omega)
  have hJT : ∀ j : Nat, 0 ≤ (fay 12 32 j).toInt := fun j => (htx j).2
  refine lv_aload_n hx hb dL_law_1475 rfl (lv_at hl 2 rfl) ?_
  refine aw_iconst (v := 1) hx hb hX hbl hbA hS hl hi hi8 (by decide) ⟨by decide, by decide⟩ dL_law_1476 dL_law_1477 dL_law_1478 dL_law_1479 dL_law_1480 (fun v1 ev1 v2 ev2 => ?_)
  refine aw_iconst (v := 2) hx hb hX hbl hbA hS hl hi hi8 (by decide) ⟨by decide, by decide⟩ dL_law_1481 dL_law_1482 dL_law_1483 dL_law_1484 dL_law_1485 (fun v3 ev3 v4 ev4 => ?_)
  refine vp_callSl (W.runV (As := [.int v2, .int v4]) (rest := []) ⟨hx, hb, hml, hown, ht⟩ (c_X11_stood_w l dC dI x gx cax ivx lvx fax lax hIx v2 v4) (kV 2 ht m_1125 m_1126 m_1127 m_77 m_1128 rfl rfl hd_X11_stood_v ⟨Nat.le_of_ble_eq_true rfl, Nat.le_of_ble_eq_true rfl⟩) (vR hPx hKx (rX_11 hKx hPx)) rfl rfl hl.1 rfl (lv_room (Nat.le_of_ble_eq_true rfl)) dL_law_1486 ⟨Nat.le_of_ble_eq_true rfl, Nat.le_of_ble_eq_true rfl⟩) (fun r5 hr5 => ?_)
  obtain ⟨hr5, xr5_0⟩ := hr5
  refine lv_aload_n hx hb dL_law_1489 rfl (lv_at hl 1 rfl) ?_
  refine aw_iconst (v := 1) hx hb hX hbl hbA hS hl hi hi8 (by decide) ⟨by decide, by decide⟩ dL_law_1490 dL_law_1491 dL_law_1492 dL_law_1493 dL_law_1494 (fun v6 ev6 v7 ev7 => ?_)
  refine aw_iconst (v := 2) hx hb hX hbl hbA hS hl hi hi8 (by decide) ⟨by decide, by decide⟩ dL_law_1495 dL_law_1496 dL_law_1497 dL_law_1498 dL_law_1499 (fun v8 ev8 v9 ev9 => ?_)
  refine vp_callSl (W.runV (As := [.int v7, .int v9]) (rest := [.long r5]) ⟨hx, hb, hml, hown, ht⟩ (c_X12_stood_w l dC dI y gy cay ivy lvy fay lay hIy v7 v9) (kV 2 ht m_1704 m_1705 m_1706 m_89 m_1707 rfl rfl hd_X12_stood_v ⟨Nat.le_of_ble_eq_true rfl, Nat.le_of_ble_eq_true rfl⟩) (vR hPy hKy (rM_12 hKy hPy)) rfl rfl hl.1 rfl (lv_room (Nat.le_of_ble_eq_true rfl)) dL_law_1500 ⟨Nat.le_of_ble_eq_true rfl, Nat.le_of_ble_eq_true rfl⟩) (fun r10 hr10 => ?_)
  obtain ⟨hr10, xr10_0⟩ := hr10
  have hv9_0 : (v2 : Int32) = v7 := by rw [ev2, ev7, ev1, ev6]
  have hu9_0 := congrArg Int32.toInt hv9_0
  have hv9_1 : (v4 : Int32) = v9 := by rw [ev4, ev9, ev3, ev8]
  have hu9_1 := congrArg Int32.toInt hv9_1
  have hw9_now := congrArg Int32.toInt hq_now
  have hw9_bales := congrArg Int32.toInt hq_bales
  have hw9_skeins := congrArg Int32.toInt hq_skeins
  have hw9_rules := congrArg Int32.toInt hq_rules
  have hw9_text := congrArg Int32.toInt hq_text
  have hw9_place := congrArg Int32.toInt hq_place
  have hw9_papers := congrArg Int32.toInt hq_papers
  have y9x_0 : ((r5.toInt = -100002 ∧ ¬ (0 ≤ (v2 : Int32).toInt ∧ (v2 : Int32).toInt ≤ (ivx 11 10).toInt ∧ 0 ≤ (v4 : Int32).toInt ∧ (v4 : Int32).toInt ≤ 1)) ∨ ((0 ≤ (v2 : Int32).toInt ∧ (v2 : Int32).toInt ≤ (ivx 11 10).toInt ∧ 0 ≤ (v4 : Int32).toInt ∧ (v4 : Int32).toInt ≤ 1) ∧ r5.toInt = (smL (fun q : Nat => ((fax 6 4) q).toInt ≤ (v2 : Int32).toInt ∧ (((fax 6 5) q).toInt = -1 ∨ (v2 : Int32).toInt < ((fax 6 5) q).toInt) ∧ ((fax 6 0) q).toInt = 1 - (v4 : Int32).toInt) (fax 6 2) ((ivx 6 7).toInt).toNat).toInt)) := xr5_0
  have y9y_0 : ((r10.toInt = -100002 ∧ ¬ (0 ≤ (v7 : Int32).toInt ∧ (v7 : Int32).toInt ≤ (ivy 12 0).toInt ∧ 0 ≤ (v9 : Int32).toInt ∧ (v9 : Int32).toInt ≤ 1)) ∨ ((0 ≤ (v7 : Int32).toInt ∧ (v7 : Int32).toInt ≤ (ivy 12 0).toInt ∧ 0 ≤ (v9 : Int32).toInt ∧ (v9 : Int32).toInt ≤ 1) ∧ r10.toInt = (smW (fun q : Nat => ((fay 12 72) q).toInt ≤ (v7 : Int32).toInt ∧ (((fay 12 73) q).toInt < 0 ∨ (v7 : Int32).toInt < ((fay 12 73) q).toInt) ∧ ((fay 12 68) q).toInt = 1 - (v9 : Int32).toInt) (lay 12 70) ((ivy 12 67).toInt).toNat).toInt)) := xr10_0
  rw [hv9_0, hv9_1, hq_papers, hq_now] at y9x_0
  have hs9 : smL (fun q : Nat => (fax 6 4 q).toInt ≤ (v7 : Int32).toInt ∧ ((fax 6 5 q).toInt = -1 ∨ (v7 : Int32).toInt < (fax 6 5 q).toInt) ∧ (fax 6 0 q).toInt = 1 - (v9 : Int32).toInt) (fax 6 2) ((ivy 12 67).toInt).toNat = smW (fun q : Nat => (fay 12 72 q).toInt ≤ (v7 : Int32).toInt ∧ ((fay 12 73 q).toInt < 0 ∨ (v7 : Int32).toInt < (fay 12 73 q).toInt) ∧ (fay 12 68 q).toInt = 1 - (v9 : Int32).toInt) (lay 12 70) ((ivy 12 67).toInt).toNat := smLW _ (fun j hj => by
      obtain ⟨⟨h1, h2, h3, h4, h5, h6⟩, g1, g2, g3, g4, g5, g6, g7⟩ := hpa j (by omega)
      refine ⟨?_, h3⟩
      show ((fax 6 4 j).toInt ≤ (v7 : Int32).toInt ∧ ((fax 6 5 j).toInt = -1 ∨ (v7 : Int32).toInt < (fax 6 5 j).toInt) ∧ (fax 6 0 j).toInt = 1 - (v9 : Int32).toInt) ↔ ((fay 12 72 j).toInt ≤ (v7 : Int32).toInt ∧ ((fay 12 73 j).toInt < 0 ∨ (v7 : Int32).toInt < (fay 12 73 j).toInt) ∧ (fay 12 68 j).toInt = 1 - (v9 : Int32).toInt)
      rw [h1, h5, h6]
      constructor
      · intro z; exact ⟨z.1, by omega, z.2.2⟩
      · intro z; exact ⟨z.1, by omega, z.2.2⟩)
  rw [hs9] at y9x_0
  have hr8 : (r5 : Int64).toInt = (r10 : Int64).toInt := by omega
  have hr9 : (r5 : Int64) = r10 := Int64.toInt_inj.mp (by omega)
  refine W.lcmp hx hb dL_law_1503 ?_
  refine lv_topi (fun v11 ev11 => ?_)
  obtain rfl : 0 = v11 := (ev11.trans (by rw [hr9]; simp [lg_cmp])).symm
  refine lv_if_eq (tgt := 1509) hx hb dL_law_1504 (by decide) (fun c12 => ?_) (fun c12 => ?_)
  · skip
    exact kk _ _ ivx lvx fax lax ivy lvy fay lay hIx hIy hJC hJR hJN hJO hq_now hq_bales hq_skeins hq_rules hq_text hq_place hq_papers hrs hls hwd htx hbk hgr hgb hpa hdr hPx hDx hPy hDy hS
  · exact absurd rfl c12
