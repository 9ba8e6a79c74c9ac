/-! ===== law ===== -/
set_option maxRecDepth 100000 in
theorem m_676 : Cond.methodLink RL 60 yX11_rule ∈ tb := tb_in 676 (by decide +kernel) rfl
set_option maxRecDepth 100000 in
theorem m_677 : Cond.instanceMethod yX11_rule ∈ tb := tb_in 677 (by decide +kernel) rfl
set_option maxRecDepth 100000 in
theorem m_678 : Cond.selects RX11 yX11_rule yX11_rule ∈ tb := tb_in 678 (by decide +kernel) rfl
set_option maxRecDepth 100000 in
theorem m_679 : Cond.code yX11_rule cX11_rule 3 (some .int) ∈ tb := tb_in 679 rfl rfl
set_option maxRecDepth 100000 in
theorem m_809 : Cond.methodLink RL 64 yX11_fault ∈ tb := tb_in 809 (by decide +kernel) rfl
set_option maxRecDepth 100000 in
theorem m_810 : Cond.instanceMethod yX11_fault ∈ tb := tb_in 810 (by decide +kernel) rfl
set_option maxRecDepth 100000 in
theorem m_811 : Cond.selects RX11 yX11_fault yX11_fault ∈ tb := tb_in 811 (by decide +kernel) rfl
set_option maxRecDepth 100000 in
theorem m_812 : Cond.code yX11_fault cX11_fault 1 (some .int) ∈ tb := tb_in 812 rfl rfl
set_option maxRecDepth 100000 in
theorem m_813 : Cond.methodLink RL 69 yX11_force ∈ tb := tb_in 813 (by decide +kernel) rfl
set_option maxRecDepth 100000 in
theorem m_814 : Cond.instanceMethod yX11_force ∈ tb := tb_in 814 (by decide +kernel) rfl
set_option maxRecDepth 100000 in
theorem m_815 : Cond.selects RX11 yX11_force yX11_force ∈ tb := tb_in 815 (by decide +kernel) rfl
set_option maxRecDepth 100000 in
theorem m_816 : Cond.code yX11_force cX11_force 3 (some .int) ∈ tb := tb_in 816 rfl rfl
set_option maxRecDepth 100000 in
theorem m_817 : Cond.methodLink RL 73 yX11_letter ∈ tb := tb_in 817 (by decide +kernel) rfl
set_option maxRecDepth 100000 in
theorem m_818 : Cond.instanceMethod yX11_letter ∈ tb := tb_in 818 (by decide +kernel) rfl
set_option maxRecDepth 100000 in
theorem m_819 : Cond.selects RX11 yX11_letter yX11_letter ∈ tb := tb_in 819 (by decide +kernel) rfl
set_option maxRecDepth 100000 in
theorem m_820 : Cond.code yX11_letter cX11_letter 3 (some .int) ∈ tb := tb_in 820 rfl rfl
set_option maxRecDepth 100000 in
theorem m_829 : Cond.methodLink RL 77 yX11_state ∈ tb := tb_in 829 (by decide +kernel) rfl
set_option maxRecDepth 100000 in
theorem m_830 : Cond.instanceMethod yX11_state ∈ tb := tb_in 830 (by decide +kernel) rfl
set_option maxRecDepth 100000 in
theorem m_831 : Cond.selects RX11 yX11_state yX11_state ∈ tb := tb_in 831 (by decide +kernel) rfl
set_option maxRecDepth 100000 in
theorem m_832 : Cond.code yX11_state cX11_state 3 (some .int) ∈ tb := tb_in 832 rfl rfl
set_option maxRecDepth 100000 in
theorem m_1454 : Cond.methodLink RL 63 yX12_rule ∈ tb := tb_in 1454 (by decide +kernel) rfl
set_option maxRecDepth 100000 in
theorem m_1455 : Cond.instanceMethod yX12_rule ∈ tb := tb_in 1455 (by decide +kernel) rfl
set_option maxRecDepth 100000 in
theorem m_1456 : Cond.selects RX12 yX12_rule yX12_rule ∈ tb := tb_in 1456 (by decide +kernel) rfl
set_option maxRecDepth 100000 in
theorem m_1457 : Cond.code yX12_rule cX12_rule 4 (some .int) ∈ tb := tb_in 1457 rfl rfl
set_option maxRecDepth 100000 in
theorem m_1500 : Cond.methodLink RL 68 yX12_fault ∈ tb := tb_in 1500 (by decide +kernel) rfl
set_option maxRecDepth 100000 in
theorem m_1501 : Cond.instanceMethod yX12_fault ∈ tb := tb_in 1501 (by decide +kernel) rfl
set_option maxRecDepth 100000 in
theorem m_1502 : Cond.selects RX12 yX12_fault yX12_fault ∈ tb := tb_in 1502 (by decide +kernel) rfl
set_option maxRecDepth 100000 in
theorem m_1503 : Cond.code yX12_fault cX12_fault 1 (some .int) ∈ tb := tb_in 1503 rfl rfl
set_option maxRecDepth 100000 in
theorem m_1504 : Cond.methodLink RL 72 yX12_force ∈ tb := tb_in 1504 (by decide +kernel) rfl
set_option maxRecDepth 100000 in
theorem m_1505 : Cond.instanceMethod yX12_force ∈ tb := tb_in 1505 (by decide +kernel) rfl
set_option maxRecDepth 100000 in
theorem m_1506 : Cond.selects RX12 yX12_force yX12_force ∈ tb := tb_in 1506 (by decide +kernel) rfl
set_option maxRecDepth 100000 in
theorem m_1507 : Cond.code yX12_force cX12_force 3 (some .int) ∈ tb := tb_in 1507 rfl rfl
set_option maxRecDepth 100000 in
theorem m_1520 : Cond.methodLink RL 76 yX12_letter ∈ tb := tb_in 1520 (by decide +kernel) rfl
set_option maxRecDepth 100000 in
theorem m_1521 : Cond.instanceMethod yX12_letter ∈ tb := tb_in 1521 (by decide +kernel) rfl
set_option maxRecDepth 100000 in
theorem m_1522 : Cond.selects RX12 yX12_letter yX12_letter ∈ tb := tb_in 1522 (by decide +kernel) rfl
set_option maxRecDepth 100000 in
theorem m_1523 : Cond.code yX12_letter cX12_letter 4 (some .int) ∈ tb := tb_in 1523 rfl rfl
set_option maxRecDepth 100000 in
theorem m_1524 : Cond.methodLink RL 80 yX12_state ∈ tb := tb_in 1524 (by decide +kernel) rfl
set_option maxRecDepth 100000 in
theorem m_1525 : Cond.instanceMethod yX12_state ∈ tb := tb_in 1525 (by decide +kernel) rfl
set_option maxRecDepth 100000 in
theorem m_1526 : Cond.selects RX12 yX12_state yX12_state ∈ tb := tb_in 1526 (by decide +kernel) rfl
set_option maxRecDepth 100000 in
theorem m_1527 : Cond.code yX12_state cX12_state 3 (some .int) ∈ tb := tb_in 1527 rfl rfl
theorem hd_X11_fault_v : yX11_fault.cls = RX11 ∧ yX11_fault.cls ≠ "java/lang/invoke/MethodHandle" ∧ yX11_fault.cls ≠ "java/lang/invoke/VarHandle" ∧ (parseMethodDescriptor yX11_fault.desc).map (fun d => d.parameters.length) = some 0 := by decide +kernel
theorem hd_X11_force_v : yX11_force.cls = RX11 ∧ yX11_force.cls ≠ "java/lang/invoke/MethodHandle" ∧ yX11_force.cls ≠ "java/lang/invoke/VarHandle" ∧ (parseMethodDescriptor yX11_force.desc).map (fun d => d.parameters.length) = some 2 := by decide +kernel
theorem hd_X11_letter_v : yX11_letter.cls = RX11 ∧ yX11_letter.cls ≠ "java/lang/invoke/MethodHandle" ∧ yX11_letter.cls ≠ "java/lang/invoke/VarHandle" ∧ (parseMethodDescriptor yX11_letter.desc).map (fun d => d.parameters.length) = some 2 := by decide +kernel
theorem hd_X11_rule_v : yX11_rule.cls = RX11 ∧ yX11_rule.cls ≠ "java/lang/invoke/MethodHandle" ∧ yX11_rule.cls ≠ "java/lang/invoke/VarHandle" ∧ (parseMethodDescriptor yX11_rule.desc).map (fun d => d.parameters.length) = some 1 := by decide +kernel
theorem hd_X11_state_v : yX11_state.cls = RX11 ∧ yX11_state.cls ≠ "java/lang/invoke/MethodHandle" ∧ yX11_state.cls ≠ "java/lang/invoke/VarHandle" ∧ (parseMethodDescriptor yX11_state.desc).map (fun d => d.parameters.length) = some 2 := by decide +kernel
theorem hd_X12_fault_v : yX12_fault.cls = RX12 ∧ yX12_fault.cls ≠ "java/lang/invoke/MethodHandle" ∧ yX12_fault.cls ≠ "java/lang/invoke/VarHandle" ∧ (parseMethodDescriptor yX12_fault.desc).map (fun d => d.parameters.length) = some 0 := by decide +kernel
theorem hd_X12_force_v : yX12_force.cls = RX12 ∧ yX12_force.cls ≠ "java/lang/invoke/MethodHandle" ∧ yX12_force.cls ≠ "java/lang/invoke/VarHandle" ∧ (parseMethodDescriptor yX12_force.desc).map (fun d => d.parameters.length) = some 2 := by decide +kernel
theorem hd_X12_letter_v : yX12_letter.cls = RX12 ∧ yX12_letter.cls ≠ "java/lang/invoke/MethodHandle" ∧ yX12_letter.cls ≠ "java/lang/invoke/VarHandle" ∧ (parseMethodDescriptor yX12_letter.desc).map (fun d => d.parameters.length) = some 2 := by decide +kernel
theorem hd_X12_rule_v : yX12_rule.cls = RX12 ∧ yX12_rule.cls ≠ "java/lang/invoke/MethodHandle" ∧ yX12_rule.cls ≠ "java/lang/invoke/VarHandle" ∧ (parseMethodDescriptor yX12_rule.desc).map (fun d => d.parameters.length) = some 1 := by decide +kernel
theorem hd_X12_state_v : yX12_state.cls = RX12 ∧ yX12_state.cls ≠ "java/lang/invoke/MethodHandle" ∧ yX12_state.cls ≠ "java/lang/invoke/VarHandle" ∧ (parseMethodDescriptor yX12_state.desc).map (fun d => d.parameters.length) = some 2 := by decide +kernel
set_option maxRecDepth 100000 in
theorem dvL_law_604 : ([(604, .aload_n 1, 1), (605, .aload_n 0, 1), (606, .iload_n 3, 1), (607, .iconst 1, 1), (608, .iadd, 1), (609, .iaload, 1), (610, .invokevirtual 60, 3), (613, .pop, 1), (614, .aload_n 2, 1), (615, .aload_n 0, 1), (616, .iload_n 3, 1), (617, .iconst 1, 1), (618, .iadd, 1), (619, .iaload, 1), (620, .invokevirtual 63, 3), (623, .pop, 1), (624, .goto 884, 3), (627, .aload_n 1, 1), (628, .invokevirtual 64, 3), (631, .pop, 1), (632, .aload_n 2, 1), (633, .invokevirtual 68, 3), (636, .pop, 1), (637, .goto 871, 3)] : List (Nat × Instr × Nat)).all (fun q => decide (decode cL_law q.1 = .ok (q.2.1, q.2.2))) = true := by decide +kernel
theorem dL_law_604 : decode cL_law 604 = .ok (.aload_n 1, 1) := all_at dvL_law_604 0 rfl
theorem dL_law_605 : decode cL_law 605 = .ok (.aload_n 0, 1) := all_at dvL_law_604 1 rfl
theorem dL_law_606 : decode cL_law 606 = .ok (.iload_n 3, 1) := all_at dvL_law_604 2 rfl
theorem dL_law_607 : decode cL_law 607 = .ok (.iconst 1, 1) := all_at dvL_law_604 3 rfl
theorem dL_law_608 : decode cL_law 608 = .ok (.iadd, 1) := all_at dvL_law_604 4 rfl
theorem dL_law_609 : decode cL_law 609 = .ok (.iaload, 1) := all_at dvL_law_604 5 rfl
theorem dL_law_610 : decode cL_law 610 = .ok (.invokevirtual 60, 3) := all_at dvL_law_604 6 rfl
theorem dL_law_613 : decode cL_law 613 = .ok (.pop, 1) := all_at dvL_law_604 7 rfl
theorem dL_law_614 : decode cL_law 614 = .ok (.aload_n 2, 1) := all_at dvL_law_604 8 rfl
theorem dL_law_615 : decode cL_law 615 = .ok (.aload_n 0, 1) := all_at dvL_law_604 9 rfl
theorem dL_law_616 : decode cL_law 616 = .ok (.iload_n 3, 1) := all_at dvL_law_604 10 rfl
theorem dL_law_617 : decode cL_law 617 = .ok (.iconst 1, 1) := all_at dvL_law_604 11 rfl
theorem dL_law_618 : decode cL_law 618 = .ok (.iadd, 1) := all_at dvL_law_604 12 rfl
theorem dL_law_619 : decode cL_law 619 = .ok (.iaload, 1) := all_at dvL_law_604 13 rfl
theorem dL_law_620 : decode cL_law 620 = .ok (.invokevirtual 63, 3) := all_at dvL_law_604 14 rfl
theorem dL_law_623 : decode cL_law 623 = .ok (.pop, 1) := all_at dvL_law_604 15 rfl
theorem dL_law_624 : decode cL_law 624 = .ok (.goto 884, 3) := all_at dvL_law_604 16 rfl
theorem dL_law_627 : decode cL_law 627 = .ok (.aload_n 1, 1) := all_at dvL_law_604 17 rfl
theorem dL_law_628 : decode cL_law 628 = .ok (.invokevirtual 64, 3) := all_at dvL_law_604 18 rfl
theorem dL_law_631 : decode cL_law 631 = .ok (.pop, 1) := all_at dvL_law_604 19 rfl
theorem dL_law_632 : decode cL_law 632 = .ok (.aload_n 2, 1) := all_at dvL_law_604 20 rfl
theorem dL_law_633 : decode cL_law 633 = .ok (.invokevirtual 68, 3) := all_at dvL_law_604 21 rfl
theorem dL_law_636 : decode cL_law 636 = .ok (.pop, 1) := all_at dvL_law_604 22 rfl
theorem dL_law_637 : decode cL_law 637 = .ok (.goto 871, 3) := all_at dvL_law_604 23 rfl
set_option maxRecDepth 100000 in
theorem dvL_law_640 : ([(640, .aload_n 1, 1), (641, .aload_n 0, 1), (642, .iload_n 3, 1), (643, .iconst 1, 1), (644, .iadd, 1), (645, .iaload, 1), (646, .aload_n 0, 1), (647, .iload_n 3, 1), (648, .iconst 2, 1), (649, .iadd, 1), (650, .iaload, 1), (651, .invokevirtual 69, 3), (654, .pop, 1), (655, .aload_n 2, 1), (656, .aload_n 0, 1), (657, .iload_n 3, 1), (658, .iconst 1, 1), (659, .iadd, 1), (660, .iaload, 1), (661, .aload_n 0, 1), (662, .iload_n 3, 1), (663, .iconst 2, 1), (664, .iadd, 1), (665, .iaload, 1)] : List (Nat × Instr × Nat)).all (fun q => decide (decode cL_law q.1 = .ok (q.2.1, q.2.2))) = true := by decide +kernel
theorem dL_law_640 : decode cL_law 640 = .ok (.aload_n 1, 1) := all_at dvL_law_640 0 rfl
theorem dL_law_641 : decode cL_law 641 = .ok (.aload_n 0, 1) := all_at dvL_law_640 1 rfl
theorem dL_law_642 : decode cL_law 642 = .ok (.iload_n 3, 1) := all_at dvL_law_640 2 rfl
theorem dL_law_643 : decode cL_law 643 = .ok (.iconst 1, 1) := all_at dvL_law_640 3 rfl
theorem dL_law_644 : decode cL_law 644 = .ok (.iadd, 1) := all_at dvL_law_640 4 rfl
theorem dL_law_645 : decode cL_law 645 = .ok (.iaload, 1) := all_at dvL_law_640 5 rfl
theorem dL_law_646 : decode cL_law 646 = .ok (.aload_n 0, 1) := all_at dvL_law_640 6 rfl
theorem dL_law_647 : decode cL_law 647 = .ok (.iload_n 3, 1) := all_at dvL_law_640 7 rfl
theorem dL_law_648 : decode cL_law 648 = .ok (.iconst 2, 1) := all_at dvL_law_640 8 rfl
theorem dL_law_649 : decode cL_law 649 = .ok (.iadd, 1) := all_at dvL_law_640 9 rfl
theorem dL_law_650 : decode cL_law 650 = .ok (.iaload, 1) := all_at dvL_law_640 10 rfl
theorem dL_law_651 : decode cL_law 651 = .ok (.invokevirtual 69, 3) := all_at dvL_law_640 11 rfl
theorem dL_law_654 : decode cL_law 654 = .ok (.pop, 1) := all_at dvL_law_640 12 rfl
theorem dL_law_655 : decode cL_law 655 = .ok (.aload_n 2, 1) := all_at dvL_law_640 13 rfl
theorem dL_law_656 : decode cL_law 656 = .ok (.aload_n 0, 1) := all_at dvL_law_640 14 rfl
theorem dL_law_657 : decode cL_law 657 = .ok (.iload_n 3, 1) := all_at dvL_law_640 15 rfl
theorem dL_law_658 : decode cL_law 658 = .ok (.iconst 1, 1) := all_at dvL_law_640 16 rfl
theorem dL_law_659 : decode cL_law 659 = .ok (.iadd, 1) := all_at dvL_law_640 17 rfl
theorem dL_law_660 : decode cL_law 660 = .ok (.iaload, 1) := all_at dvL_law_640 18 rfl
theorem dL_law_661 : decode cL_law 661 = .ok (.aload_n 0, 1) := all_at dvL_law_640 19 rfl
theorem dL_law_662 : decode cL_law 662 = .ok (.iload_n 3, 1) := all_at dvL_law_640 20 rfl
theorem dL_law_663 : decode cL_law 663 = .ok (.iconst 2, 1) := all_at dvL_law_640 21 rfl
theorem dL_law_664 : decode cL_law 664 = .ok (.iadd, 1) := all_at dvL_law_640 22 rfl
theorem dL_law_665 : decode cL_law 665 = .ok (.iaload, 1) := all_at dvL_law_640 23 rfl
set_option maxRecDepth 100000 in
theorem dvL_law_666 : ([(666, .invokevirtual 72, 3), (669, .pop, 1), (670, .goto 838, 3), (673, .aload_n 1, 1), (674, .aload_n 0, 1), (675, .iload_n 3, 1), (676, .iconst 1, 1), (677, .iadd, 1), (678, .iaload, 1), (679, .aload_n 0, 1), (680, .iload_n 3, 1), (681, .iconst 2, 1), (682, .iadd, 1), (683, .iaload, 1), (684, .invokevirtual 73, 3), (687, .pop, 1), (688, .aload_n 2, 1), (689, .aload_n 0, 1), (690, .iload_n 3, 1), (691, .iconst 1, 1), (692, .iadd, 1), (693, .iaload, 1), (694, .aload_n 0, 1), (695, .iload_n 3, 1)] : List (Nat × Instr × Nat)).all (fun q => decide (decode cL_law q.1 = .ok (q.2.1, q.2.2))) = true := by decide +kernel
theorem dL_law_666 : decode cL_law 666 = .ok (.invokevirtual 72, 3) := all_at dvL_law_666 0 rfl
theorem dL_law_669 : decode cL_law 669 = .ok (.pop, 1) := all_at dvL_law_666 1 rfl
theorem dL_law_670 : decode cL_law 670 = .ok (.goto 838, 3) := all_at dvL_law_666 2 rfl
theorem dL_law_673 : decode cL_law 673 = .ok (.aload_n 1, 1) := all_at dvL_law_666 3 rfl
theorem dL_law_674 : decode cL_law 674 = .ok (.aload_n 0, 1) := all_at dvL_law_666 4 rfl
theorem dL_law_675 : decode cL_law 675 = .ok (.iload_n 3, 1) := all_at dvL_law_666 5 rfl
theorem dL_law_676 : decode cL_law 676 = .ok (.iconst 1, 1) := all_at dvL_law_666 6 rfl
theorem dL_law_677 : decode cL_law 677 = .ok (.iadd, 1) := all_at dvL_law_666 7 rfl
theorem dL_law_678 : decode cL_law 678 = .ok (.iaload, 1) := all_at dvL_law_666 8 rfl
theorem dL_law_679 : decode cL_law 679 = .ok (.aload_n 0, 1) := all_at dvL_law_666 9 rfl
theorem dL_law_680 : decode cL_law 680 = .ok (.iload_n 3, 1) := all_at dvL_law_666 10 rfl
theorem dL_law_681 : decode cL_law 681 = .ok (.iconst 2, 1) := all_at dvL_law_666 11 rfl
theorem dL_law_682 : decode cL_law 682 = .ok (.iadd, 1) := all_at dvL_law_666 12 rfl
theorem dL_law_683 : decode cL_law 683 = .ok (.iaload, 1) := all_at dvL_law_666 13 rfl
theorem dL_law_684 : decode cL_law 684 = .ok (.invokevirtual 73, 3) := all_at dvL_law_666 14 rfl
theorem dL_law_687 : decode cL_law 687 = .ok (.pop, 1) := all_at dvL_law_666 15 rfl
theorem dL_law_688 : decode cL_law 688 = .ok (.aload_n 2, 1) := all_at dvL_law_666 16 rfl
theorem dL_law_689 : decode cL_law 689 = .ok (.aload_n 0, 1) := all_at dvL_law_666 17 rfl
theorem dL_law_690 : decode cL_law 690 = .ok (.iload_n 3, 1) := all_at dvL_law_666 18 rfl
theorem dL_law_691 : decode cL_law 691 = .ok (.iconst 1, 1) := all_at dvL_law_666 19 rfl
theorem dL_law_692 : decode cL_law 692 = .ok (.iadd, 1) := all_at dvL_law_666 20 rfl
theorem dL_law_693 : decode cL_law 693 = .ok (.iaload, 1) := all_at dvL_law_666 21 rfl
theorem dL_law_694 : decode cL_law 694 = .ok (.aload_n 0, 1) := all_at dvL_law_666 22 rfl
theorem dL_law_695 : decode cL_law 695 = .ok (.iload_n 3, 1) := all_at dvL_law_666 23 rfl
set_option maxRecDepth 100000 in
theorem dvL_law_696 : ([(696, .iconst 2, 1), (697, .iadd, 1), (698, .iaload, 1), (699, .invokevirtual 76, 3), (702, .pop, 1), (703, .goto 805, 3), (706, .aload_n 1, 1), (707, .aload_n 0, 1), (708, .iload_n 3, 1), (709, .iconst 1, 1), (710, .iadd, 1), (711, .iaload, 1), (712, .aload_n 0, 1), (713, .iload_n 3, 1), (714, .iconst 2, 1), (715, .iadd, 1), (716, .iaload, 1), (717, .invokevirtual 77, 3), (720, .pop, 1), (721, .aload_n 2, 1), (722, .aload_n 0, 1), (723, .iload_n 3, 1), (724, .iconst 1, 1), (725, .iadd, 1)] : List (Nat × Instr × Nat)).all (fun q => decide (decode cL_law q.1 = .ok (q.2.1, q.2.2))) = true := by decide +kernel
theorem dL_law_696 : decode cL_law 696 = .ok (.iconst 2, 1) := all_at dvL_law_696 0 rfl
theorem dL_law_697 : decode cL_law 697 = .ok (.iadd, 1) := all_at dvL_law_696 1 rfl
theorem dL_law_698 : decode cL_law 698 = .ok (.iaload, 1) := all_at dvL_law_696 2 rfl
theorem dL_law_699 : decode cL_law 699 = .ok (.invokevirtual 76, 3) := all_at dvL_law_696 3 rfl
theorem dL_law_702 : decode cL_law 702 = .ok (.pop, 1) := all_at dvL_law_696 4 rfl
theorem dL_law_703 : decode cL_law 703 = .ok (.goto 805, 3) := all_at dvL_law_696 5 rfl
theorem dL_law_706 : decode cL_law 706 = .ok (.aload_n 1, 1) := all_at dvL_law_696 6 rfl
theorem dL_law_707 : decode cL_law 707 = .ok (.aload_n 0, 1) := all_at dvL_law_696 7 rfl
theorem dL_law_708 : decode cL_law 708 = .ok (.iload_n 3, 1) := all_at dvL_law_696 8 rfl
theorem dL_law_709 : decode cL_law 709 = .ok (.iconst 1, 1) := all_at dvL_law_696 9 rfl
theorem dL_law_710 : decode cL_law 710 = .ok (.iadd, 1) := all_at dvL_law_696 10 rfl
theorem dL_law_711 : decode cL_law 711 = .ok (.iaload, 1) := all_at dvL_law_696 11 rfl
theorem dL_law_712 : decode cL_law 712 = .ok (.aload_n 0, 1) := all_at dvL_law_696 12 rfl
theorem dL_law_713 : decode cL_law 713 = .ok (.iload_n 3, 1) := all_at dvL_law_696 13 rfl
theorem dL_law_714 : decode cL_law 714 = .ok (.iconst 2, 1) := all_at dvL_law_696 14 rfl
theorem dL_law_715 : decode cL_law 715 = .ok (.iadd, 1) := all_at dvL_law_696 15 rfl
theorem dL_law_716 : decode cL_law 716 = .ok (.iaload, 1) := all_at dvL_law_696 16 rfl
theorem dL_law_717 : decode cL_law 717 = .ok (.invokevirtual 77, 3) := all_at dvL_law_696 17 rfl
theorem dL_law_720 : decode cL_law 720 = .ok (.pop, 1) := all_at dvL_law_696 18 rfl
theorem dL_law_721 : decode cL_law 721 = .ok (.aload_n 2, 1) := all_at dvL_law_696 19 rfl
theorem dL_law_722 : decode cL_law 722 = .ok (.aload_n 0, 1) := all_at dvL_law_696 20 rfl
theorem dL_law_723 : decode cL_law 723 = .ok (.iload_n 3, 1) := all_at dvL_law_696 21 rfl
theorem dL_law_724 : decode cL_law 724 = .ok (.iconst 1, 1) := all_at dvL_law_696 22 rfl
theorem dL_law_725 : decode cL_law 725 = .ok (.iadd, 1) := all_at dvL_law_696 23 rfl
set_option maxRecDepth 100000 in
theorem dvL_law_726 : ([(726, .iaload, 1), (727, .aload_n 0, 1), (728, .iload_n 3, 1), (729, .iconst 2, 1), (730, .iadd, 1), (731, .iaload, 1), (732, .invokevirtual 80, 3), (735, .pop, 1), (736, .goto 772, 3)] : List (Nat × Instr × Nat)).all (fun q => decide (decode cL_law q.1 = .ok (q.2.1, q.2.2))) = true := by decide +kernel
theorem dL_law_726 : decode cL_law 726 = .ok (.iaload, 1) := all_at dvL_law_726 0 rfl
theorem dL_law_727 : decode cL_law 727 = .ok (.aload_n 0, 1) := all_at dvL_law_726 1 rfl
theorem dL_law_728 : decode cL_law 728 = .ok (.iload_n 3, 1) := all_at dvL_law_726 2 rfl
theorem dL_law_729 : decode cL_law 729 = .ok (.iconst 2, 1) := all_at dvL_law_726 3 rfl
theorem dL_law_730 : decode cL_law 730 = .ok (.iadd, 1) := all_at dvL_law_726 4 rfl
theorem dL_law_731 : decode cL_law 731 = .ok (.iaload, 1) := all_at dvL_law_726 5 rfl
theorem dL_law_732 : decode cL_law 732 = .ok (.invokevirtual 80, 3) := all_at dvL_law_726 6 rfl
theorem dL_law_735 : decode cL_law 735 = .ok (.pop, 1) := all_at dvL_law_726 7 rfl
theorem dL_law_736 : decode cL_law 736 = .ok (.goto 772, 3) := all_at dvL_law_726 8 rfl
set_option maxHeartbeats 4000000 in
set_option maxRecDepth 100000 in
theorem law_10 {p : Program} {e : Env} {s : State} {m : MethodId} {below : List Frame} {meth : Method} {c : Code} (l : Launch) {b L : Nat} {xs : Nat → Int32} (hL : L ≤ 4096) (C0 : lw_At p s m meth c b L xs) {dC : Nat → ClassId} {dI : Nat → Nat → Nat} {A : Nat → Prop} (hA : ∀ q : Nat, s.heap.size ≤ q → A q) (hbA : ¬ A b) (hAs : ∀ q : Nat, A q → s.heap.size ≤ q) {x y : Nat} {gx gy : Nat → Nat → Nat} {cax cay : Nat → Nat → ClassId} {ak av : Nat → Nat} (hKx : va_K (dC, dI) classes (TX cax) s) (hKy : va_K (dC, dI) classes (TM cay) s) (hXY : ∀ a ∈ AdX x gx, ∀ b ∈ AdM y gy, a ≠ b) (hZ : zC ak av A s s.heap) {H : Heap} {locs : List Loc} {ivx : Nat → Nat → Int32} {lvx : Nat → Nat → Int64} {fax : Nat → Nat → Nat → Int32} {lax : Nat → Nat → Nat → Int64} {ivy : Nat → Nat → Int32} {lvy : Nat → Nat → Int64} {fay : Nat → Nat → Nat → Int32} {lay : Nat → Nat → Nat → Int64} (hIx : IX ivx fax) (hIy : IX ivy fay) (hJC : JCf (ivy 12 23).toInt (fay 12 25) (fay 12 26) (fay 12 27) (fay 12 28)) (hJR : JRf (ivy 12 3).toInt (fay 12 7)) (hJN : JNf (ivy 12 3).toInt (fay 12 4) (fay 12 5)) (hJO : ((ivy 12 20).toInt = -1 ∧ (ivy 12 21).toInt = -1 ∧ (ivy 12 22).toInt = -1)) (hq_bales : ivx 0 7 = ivy 12 1) (ha_thread : (∀ j : Nat, fax 0 1 j = fay 12 51 j)) (hz_thread : (∀ j : Nat, (ivx 0 7).toInt ≤ (j : Int) → (fax 0 1 j).toInt = 0)) (hsz : (∀ j : Nat, (fax 0 5 j).toInt = 2 * (fay 12 52 j).toInt ∧ 0 ≤ (fay 12 52 j).toInt ∧ (fay 12 52 j).toInt ≤ 999)) (hPx : va_P (dC, dI) classes (WX x gx cax ivx lvx fax lax) H) (hDx : va_D A (WX x gx cax ivx lvx fax lax)) (hPy : va_P (dC, dI) classes (WM y gy cay ivy lvy fay lay) H) (hDy : va_D A (WM y gy cay ivy lvy fay lay)) (hS : va_S A s.heap H locs) {i : Int32} {ls : Array Slot} (hl : lv_has ls 4 [(3, .int i), (2, .ref y), (1, .ref x), (0, .ref b)]) (hi : 0 ≤ i.toInt ∧ i.toInt ≤ 4088) (hi8 : i.toInt + 8 ≤ (L : Int)) (kk : ∀ (H : Heap) (locs : List Loc) (ivx : Nat → Nat → Int32) (lvx : Nat → Nat → Int64) (fax : Nat → Nat → Nat → Int32) (lax : Nat → Nat → Nat → Int64) (ivy : Nat → Nat → Int32) (lvy : Nat → Nat → Int64) (fay : Nat → Nat → Nat → Int32) (lay : Nat → Nat → Nat → Int64), IX ivx fax → IX ivy fay → JCf (ivy 12 23).toInt (fay 12 25) (fay 12 26) (fay 12 27) (fay 12 28) → JRf (ivy 12 3).toInt (fay 12 7) → JNf (ivy 12 3).toInt (fay 12 4) (fay 12 5) → ((ivy 12 20).toInt = -1 ∧ (ivy 12 21).toInt = -1 ∧ (ivy 12 22).toInt = -1) → ivx 0 7 = ivy 12 1 → (∀ j : Nat, fax 0 1 j = fay 12 51 j) → (∀ j : Nat, (ivx 0 7).toInt ≤ (j : Int) → (fax 0 1 j).toInt = 0) → (∀ j : Nat, (fax 0 5 j).toInt = 2 * (fay 12 52 j).toInt ∧ 0 ≤ (fay 12 52 j).toInt ∧ (fay 12 52 j).toInt ≤ 999) → va_P (dC, dI) classes (WX x gx cax ivx lvx fax lax) H → va_D A (WX x gx cax ivx lvx fax lax) → va_P (dC, dI) classes (WM y gy cay ivy lvy fay lay) H → va_D A (WM y gy cay ivy lvy fay lay) → va_S A s.heap H locs → W p l e room_1 s m #[Value.ref b] below meth c H locs 98 5431 (lw_Z below #[Value.ref b] s) (F0 m 1508 ls [])) : W p l e room_1 s m #[Value.ref b] below meth c H locs 98 5431 (lw_Z below #[Value.ref b] s) (F0 m 604 ls []) := by
  obtain ⟨hx, hb, hr, hml, hown, hts, hX, hbl, hlocks, hgv⟩ := id C0
  have ht := tb_of hts
  have hJV : ∀ j : Nat, 0 ≤ (fay 12 52 j).toInt ∧ (fay 12 52 j).toInt ≤ 999 := fun j => (hsz j).2
  have hJZ : ∀ j : Nat, 0 ≤ (fax 0 5 j).toInt ∧ (fax 0 5 j).toInt ≤ 1998 := fun j => by have h5 := hsz j; omega
  refine lv_aload_n hx hb dL_law_604 rfl (lv_at hl 2 rfl) ?_
  refine lv_aload_n hx hb dL_law_605 rfl (lv_at hl 3 rfl) ?_
  refine lv_iload_n hx hb dL_law_606 rfl (lv_at hl 0 rfl) ?_
  refine lv_iconst (v := 1) hx hb dL_law_607 (by decide) ?_
  refine lv_iadd hx hb dL_law_608 ?_
  refine lv_topi (fun v1 ev1 => ?_)
  have tv1 := z_add ev1 (rfl : (i).toInt = _) (by decide : (1 : Int32).toInt = 1) (by omega) (by omega)
  refine va_sld hx hb hX hbl hbA hS (vp_in_iff.mpr ⟨by omega, by omega⟩ : vp_in v1 L) dL_law_609 ?_
  refine lv_topi (fun v2 ev2 => ?_)
  have hFc := free_all hDx hS hA
  refine va_calli (va_runV (As := [.int v2]) (rest := []) ⟨hx, hb, hml, hown, ht⟩ (c_X11_rule l dC dI H.size ak av x gx cax ivx lvx fax lax hIx v2) (kV 1 ht m_676 m_677 m_678 m_77 m_679 rfl rfl hd_X11_rule_v ⟨Nat.le_of_ble_eq_true rfl, Nat.le_of_ble_eq_true rfl⟩) (vWZ hPx hKx hDx ((hZ.kept hS.2.1).narrow (free_all hDx hS hA)) (rX_11 hKx hPx)) rfl rfl hl.1 rfl (lv_room (Nat.le_of_ble_eq_true rfl)) dL_law_610 ⟨Nat.le_of_ble_eq_true rfl, Nat.le_of_ble_eq_true rfl⟩) hS (fun q _ h => hFc q h) hFc (fun r3 u t H1 locs ht9 hvm hr3 hB hz1 hk1 hS => ?_)
  obtain ⟨n4, n5, n6, n7, n8, n9, n10, n11, n12, n13, n14, n15, hn5, hn10, hn11, hn12, hn13, hn14, hn15, hr3, rfl⟩ := hr3
  obtain ⟨hPx, hDx⟩ := hB
  rw [ht9] at hPx
  have hPy := P_kept hPy (la := AdM y gy) (lb := AdX x gx) wmM wmX (fun a ha b hb => (hXY b hb a ha).symm) hk1
  generalize H1 = H at hPx hPy hS ⊢
  have hPx : va_P (dC, dI) classes (WX x gx cax (u2 (u2 (u2 (u2 (u2 (u2 ivx 1 7 n10) 1 8 n11) 8 2 n12) 8 3 n13) 8 4 n14) 8 5 n15) lvx (u2 (u2 (u2 (u2 (u2 (u2 fax 1 0 n4) 1 1 n5) 1 2 n6) 1 3 n7) 1 4 n8) 1 5 n9) lax) H := hPx
  have hDx : va_D A (WX x gx cax (u2 (u2 (u2 (u2 (u2 (u2 ivx 1 7 n10) 1 8 n11) 8 2 n12) 8 3 n13) 8 4 n14) 8 5 n15) lvx (u2 (u2 (u2 (u2 (u2 (u2 fax 1 0 n4) 1 1 n5) 1 2 n6) 1 3 n7) 1 4 n8) 1 5 n9) lax) := (show va_D _ (WX x gx cax (u2 (u2 (u2 (u2 (u2 (u2 ivx 1 7 n10) 1 8 n11) 8 2 n12) 8 3 n13) 8 4 n14) 8 5 n15) lvx (u2 (u2 (u2 (u2 (u2 (u2 fax 1 0 n4) 1 1 n5) 1 2 n6) 1 3 n7) 1 4 n8) 1 5 n9) lax) from hDx).weaken (fun _ _ _ h => hFc _ h)
  refine lv_pop hx hb dL_law_613 rfl ?_
  refine lv_aload_n hx hb dL_law_614 rfl (lv_at hl 1 rfl) ?_
  refine lv_aload_n hx hb dL_law_615 rfl (lv_at hl 3 rfl) ?_
  refine lv_iload_n hx hb dL_law_616 rfl (lv_at hl 0 rfl) ?_
  refine lv_iconst (v := 1) hx hb dL_law_617 (by decide) ?_
  refine lv_iadd hx hb dL_law_618 ?_
  refine lv_topi (fun v16 ev16 => ?_)
  have tv16 := z_add ev16 (rfl : (i).toInt = _) (by decide : (1 : Int32).toInt = 1) (by omega) (by omega)
  refine va_sld hx hb hX hbl hbA hS (vp_in_iff.mpr ⟨by omega, by omega⟩ : vp_in v16 L) dL_law_619 ?_
  refine lv_topi (fun v17 ev17 => ?_)
  have hFc := free_all hDy hS hA
  refine va_calli (va_runV (As := [.int v17]) (rest := []) ⟨hx, hb, hml, hown, ht⟩ (c_X12_rule l dC dI H.size y gy cay ivy lvy fay lay hIy v17 hJC) (kV 1 ht m_1454 m_1455 m_1456 m_89 m_1457 rfl rfl hd_X12_rule_v ⟨Nat.le_of_ble_eq_true rfl, Nat.le_of_ble_eq_true rfl⟩) (vW hPy hKy hDy (rM_12 hKy hPy)) rfl rfl hl.1 rfl (lv_room (Nat.le_of_ble_eq_true rfl)) dL_law_620 ⟨Nat.le_of_ble_eq_true rfl, Nat.le_of_ble_eq_true rfl⟩) hS (fun q _ h => hFc q h) hFc (fun r18 u t H1 locs ht9 hvm hr18 hB hz1 hk1 hS => ?_)
  obtain ⟨n19, n20, n21, n22, n23, n24, n25, n26, n27, n28, n29, n30, n31, n32, n33, hn20, hn25, hn27, hn28, hn29, hn30, hn32, hn33, xr18_0, hr18, rfl⟩ := hr18
  obtain ⟨hPy, hDy⟩ := hB
  rw [ht9] at hPy
  have hPx := P_kept hPx (la := AdX x gx) (lb := AdM y gy) wmX wmM hXY hk1
  generalize H1 = H at hPx hPy hS ⊢
  have hPy : va_P (dC, dI) classes (WM y gy cay (u2 (u2 (u2 (u2 (u2 (u2 (u2 ivy 12 23 n27) 12 33 n28) 12 34 n29) 12 35 n30) 12 36 n31) 12 37 n32) 12 38 n33) lvy (u2 (u2 (u2 (u2 (u2 (u2 (u2 (u2 fay 12 24 n19) 12 25 n20) 12 26 n21) 12 27 n22) 12 28 n23) 12 29 n24) 12 30 n25) 12 31 n26) lay) H := hPy
  have hDy : va_D A (WM y gy cay (u2 (u2 (u2 (u2 (u2 (u2 (u2 ivy 12 23 n27) 12 33 n28) 12 34 n29) 12 35 n30) 12 36 n31) 12 37 n32) 12 38 n33) lvy (u2 (u2 (u2 (u2 (u2 (u2 (u2 (u2 fay 12 24 n19) 12 25 n20) 12 26 n21) 12 27 n22) 12 28 n23) 12 29 n24) 12 30 n25) 12 31 n26) lay) := (show va_D _ (WM y gy cay (u2 (u2 (u2 (u2 (u2 (u2 (u2 ivy 12 23 n27) 12 33 n28) 12 34 n29) 12 35 n30) 12 36 n31) 12 37 n32) 12 38 n33) lvy (u2 (u2 (u2 (u2 (u2 (u2 (u2 (u2 fay 12 24 n19) 12 25 n20) 12 26 n21) 12 27 n22) 12 28 n23) 12 29 n24) 12 30 n25) 12 31 n26) lay) from hDy).weaken (fun _ _ _ h => hFc _ h)
  refine lv_pop hx hb dL_law_623 rfl ?_
  refine lv_goto (tgt := 1508) hx hb dL_law_624 (by decide) ?_
  exact kk _ _ (u2 (u2 (u2 (u2 (u2 (u2 ivx 1 7 n10) 1 8 n11) 8 2 n12) 8 3 n13) 8 4 n14) 8 5 n15) lvx (u2 (u2 (u2 (u2 (u2 (u2 fax 1 0 n4) 1 1 n5) 1 2 n6) 1 3 n7) 1 4 n8) 1 5 n9) lax (u2 (u2 (u2 (u2 (u2 (u2 (u2 ivy 12 23 n27) 12 33 n28) 12 34 n29) 12 35 n30) 12 36 n31) 12 37 n32) 12 38 n33) lvy (u2 (u2 (u2 (u2 (u2 (u2 (u2 (u2 fay 12 24 n19) 12 25 n20) 12 26 n21) 12 27 n22) 12 28 n23) 12 29 n24) 12 30 n25) 12 31 n26) lay (IX_a (c := 1) (k := 5) (IX_a (c := 1) (k := 4) (IX_a (c := 1) (k := 3) (IX_a (c := 1) (k := 2) (IX_a (c := 1) (k := 1) (IX_a (c := 1) (k := 0) (IX_i (c := 8) (k := 5) (IX_i (c := 8) (k := 4) (IX_i (c := 8) (k := 3) (IX_i (c := 8) (k := 2) (IX_i (c := 1) (k := 8) (IX_i (c := 1) (k := 7) hIx hn10) hn11) hn12) hn13) hn14) hn15) (fun j => full_i _)) hn5) (fun j => full_i _)) (fun j => full_i _)) (fun j => full_i _)) (fun j => full_i _)) (IX_a (c := 12) (k := 31) (IX_a (c := 12) (k := 30) (IX_a (c := 12) (k := 29) (IX_a (c := 12) (k := 28) (IX_a (c := 12) (k := 27) (IX_a (c := 12) (k := 26) (IX_a (c := 12) (k := 25) (IX_a (c := 12) (k := 24) (IX_i (c := 12) (k := 38) (IX_i (c := 12) (k := 37) (IX_i (c := 12) (k := 36) (IX_i (c := 12) (k := 35) (IX_i (c := 12) (k := 34) (IX_i (c := 12) (k := 33) (IX_i (c := 12) (k := 23) hIy hn27) hn28) hn29) hn30) (full_i _)) hn32) hn33) (fun j => full_i _)) hn20) (fun j => full_i _)) (fun j => full_i _)) (fun j => full_i _)) (fun j => full_i _)) hn25) (fun j => full_i _)) xr18_0 hJR hJN hJO hq_bales ha_thread hz_thread hsz hPx hDx hPy hDy hS
set_option maxHeartbeats 4000000 in
set_option maxRecDepth 100000 in
theorem law_11 {p : Program} {e : Env} {s : State} {m : MethodId} {below : List Frame} {meth : Method} {c : Code} (l : Launch) {b L : Nat} {xs : Nat → Int32} (hL : L ≤ 4096) (C0 : lw_At p s m meth c b L xs) {dC : Nat → ClassId} {dI : Nat → Nat → Nat} {A : Nat → Prop} (hA : ∀ q : Nat, s.heap.size ≤ q → A q) (hbA : ¬ A b) (hAs : ∀ q : Nat, A q → s.heap.size ≤ q) {x y : Nat} {gx gy : Nat → Nat → Nat} {cax cay : Nat → Nat → ClassId} {ak av : Nat → Nat} (hKx : va_K (dC, dI) classes (TX cax) s) (hKy : va_K (dC, dI) classes (TM cay) s) (hXY : ∀ a ∈ AdX x gx, ∀ b ∈ AdM y gy, a ≠ b) (hZ : zC ak av A s s.heap) {H : Heap} {locs : List Loc} {ivx : Nat → Nat → Int32} {lvx : Nat → Nat → Int64} {fax : Nat → Nat → Nat → Int32} {lax : Nat → Nat → Nat → Int64} {ivy : Nat → Nat → Int32} {lvy : Nat → Nat → Int64} {fay : Nat → Nat → Nat → Int32} {lay : Nat → Nat → Nat → Int64} (hIx : IX ivx fax) (hIy : IX ivy fay) (hJC : JCf (ivy 12 23).toInt (fay 12 25) (fay 12 26) (fay 12 27) (fay 12 28)) (hJR : JRf (ivy 12 3).toInt (fay 12 7)) (hJN : JNf (ivy 12 3).toInt (fay 12 4) (fay 12 5)) (hJO : ((ivy 12 20).toInt = -1 ∧ (ivy 12 21).toInt = -1 ∧ (ivy 12 22).toInt = -1)) (hq_bales : ivx 0 7 = ivy 12 1) (ha_thread : (∀ j : Nat, fax 0 1 j = fay 12 51 j)) (hz_thread : (∀ j : Nat, (ivx 0 7).toInt ≤ (j : Int) → (fax 0 1 j).toInt = 0)) (hsz : (∀ j : Nat, (fax 0 5 j).toInt = 2 * (fay 12 52 j).toInt ∧ 0 ≤ (fay 12 52 j).toInt ∧ (fay 12 52 j).toInt ≤ 999)) (hPx : va_P (dC, dI) classes (WX x gx cax ivx lvx fax lax) H) (hDx : va_D A (WX x gx cax ivx lvx fax lax)) (hPy : va_P (dC, dI) classes (WM y gy cay ivy lvy fay lay) H) (hDy : va_D A (WM y gy cay ivy lvy fay lay)) (hS : va_S A s.heap H locs) {i : Int32} {ls : Array Slot} (hl : lv_has ls 4 [(3, .int i), (2, .ref y), (1, .ref x), (0, .ref b)]) (hi : 0 ≤ i.toInt ∧ i.toInt ≤ 4088) (hi8 : i.toInt + 8 ≤ (L : Int)) (kk : ∀ (H : Heap) (locs : List Loc) (ivx : Nat → Nat → Int32) (lvx : Nat → Nat → Int64) (fax : Nat → Nat → Nat → Int32) (lax : Nat → Nat → Nat → Int64) (ivy : Nat → Nat → Int32) (lvy : Nat → Nat → Int64) (fay : Nat → Nat → Nat → Int32) (lay : Nat → Nat → Nat → Int64), IX ivx fax → IX ivy fay → JCf (ivy 12 23).toInt (fay 12 25) (fay 12 26) (fay 12 27) (fay 12 28) → JRf (ivy 12 3).toInt (fay 12 7) → JNf (ivy 12 3).toInt (fay 12 4) (fay 12 5) → ((ivy 12 20).toInt = -1 ∧ (ivy 12 21).toInt = -1 ∧ (ivy 12 22).toInt = -1) → ivx 0 7 = ivy 12 1 → (∀ j : Nat, fax 0 1 j = fay 12 51 j) → (∀ j : Nat, (ivx 0 7).toInt ≤ (j : Int) → (fax 0 1 j).toInt = 0) → (∀ j : Nat, (fax 0 5 j).toInt = 2 * (fay 12 52 j).toInt ∧ 0 ≤ (fay 12 52 j).toInt ∧ (fay 12 52 j).toInt ≤ 999) → va_P (dC, dI) classes (WX x gx cax ivx lvx fax lax) H → va_D A (WX x gx cax ivx lvx fax lax) → va_P (dC, dI) classes (WM y gy cay ivy lvy fay lay) H → va_D A (WM y gy cay ivy lvy fay lay) → va_S A s.heap H locs → W p l e room_1 s m #[Value.ref b] below meth c H locs 98 5431 (lw_Z below #[Value.ref b] s) (F0 m 1508 ls [])) : W p l e room_1 s m #[Value.ref b] below meth c H locs 98 5431 (lw_Z below #[Value.ref b] s) (F0 m 627 ls []) := by
  obtain ⟨hx, hb, hr, hml, hown, hts, hX, hbl, hlocks, hgv⟩ := id C0
  have ht := tb_of hts
  have hJV : ∀ j : Nat, 0 ≤ (fay 12 52 j).toInt ∧ (fay 12 52 j).toInt ≤ 999 := fun j => (hsz j).2
  have hJZ : ∀ j : Nat, 0 ≤ (fax 0 5 j).toInt ∧ (fax 0 5 j).toInt ≤ 1998 := fun j => by have h5 := hsz j; omega
  refine lv_aload_n hx hb dL_law_627 rfl (lv_at hl 2 rfl) ?_
  refine vp_callSi (W.runV (As := []) (rest := []) ⟨hx, hb, hml, hown, ht⟩ (c_X11_fault l dC dI x gx cax ivx lvx fax lax hIx) (kV 0 ht m_809 m_810 m_811 m_77 m_812 rfl rfl hd_X11_fault_v ⟨Nat.le_of_ble_eq_true rfl, Nat.le_of_ble_eq_true rfl⟩) (vR hPx hKx (rX_11 hKx hPx)) rfl rfl hl.1 rfl (lv_room (Nat.le_of_ble_eq_true rfl)) dL_law_628 ⟨Nat.le_of_ble_eq_true rfl, Nat.le_of_ble_eq_true rfl⟩) (fun r1 hr1 => ?_)
  refine lv_pop hx hb dL_law_631 rfl ?_
  refine lv_aload_n hx hb dL_law_632 rfl (lv_at hl 1 rfl) ?_
  refine vp_callSi (W.runV (As := []) (rest := []) ⟨hx, hb, hml, hown, ht⟩ (c_X12_fault l dC dI y gy cay ivy lvy fay lay hIy) (kV 0 ht m_1500 m_1501 m_1502 m_89 m_1503 rfl rfl hd_X12_fault_v ⟨Nat.le_of_ble_eq_true rfl, Nat.le_of_ble_eq_true rfl⟩) (vR hPy hKy (rM_12 hKy hPy)) rfl rfl hl.1 rfl (lv_room (Nat.le_of_ble_eq_true rfl)) dL_law_633 ⟨Nat.le_of_ble_eq_true rfl, Nat.le_of_ble_eq_true rfl⟩) (fun r2 hr2 => ?_)
  refine lv_pop hx hb dL_law_636 rfl ?_
  refine lv_goto (tgt := 1508) hx hb dL_law_637 (by decide) ?_
  exact kk _ _ ivx lvx fax lax ivy lvy fay lay hIx hIy hJC hJR hJN hJO hq_bales ha_thread hz_thread hsz hPx hDx hPy hDy hS
set_option maxHeartbeats 4000000 in
set_option maxRecDepth 100000 in
theorem law_12 {p : Program} {e : Env} {s : State} {m : MethodId} {below : List Frame} {meth : Method} {c : Code} (l : Launch) {b L : Nat} {xs : Nat → Int32} (hL : L ≤ 4096) (C0 : lw_At p s m meth c b L xs) {dC : Nat → ClassId} {dI : Nat → Nat → Nat} {A : Nat → Prop} (hA : ∀ q : Nat, s.heap.size ≤ q → A q) (hbA : ¬ A b) (hAs : ∀ q : Nat, A q → s.heap.size ≤ q) {x y : Nat} {gx gy : Nat → Nat → Nat} {cax cay : Nat → Nat → ClassId} {ak av : Nat → Nat} (hKx : va_K (dC, dI) classes (TX cax) s) (hKy : va_K (dC, dI) classes (TM cay) s) (hXY : ∀ a ∈ AdX x gx, ∀ b ∈ AdM y gy, a ≠ b) (hZ : zC ak av A s s.heap) {H : Heap} {locs : List Loc} {ivx : Nat → Nat → Int32} {lvx : Nat → Nat → Int64} {fax : Nat → Nat → Nat → Int32} {lax : Nat → Nat → Nat → Int64} {ivy : Nat → Nat → Int32} {lvy : Nat → Nat → Int64} {fay : Nat → Nat → Nat → Int32} {lay : Nat → Nat → Nat → Int64} (hIx : IX ivx fax) (hIy : IX ivy fay) (hJC : JCf (ivy 12 23).toInt (fay 12 25) (fay 12 26) (fay 12 27) (fay 12 28)) (hJR : JRf (ivy 12 3).toInt (fay 12 7)) (hJN : JNf (ivy 12 3).toInt (fay 12 4) (fay 12 5)) (hJO : ((ivy 12 20).toInt = -1 ∧ (ivy 12 21).toInt = -1 ∧ (ivy 12 22).toInt = -1)) (hq_bales : ivx 0 7 = ivy 12 1) (ha_thread : (∀ j : Nat, fax 0 1 j = fay 12 51 j)) (hz_thread : (∀ j : Nat, (ivx 0 7).toInt ≤ (j : Int) → (fax 0 1 j).toInt = 0)) (hsz : (∀ j : Nat, (fax 0 5 j).toInt = 2 * (fay 12 52 j).toInt ∧ 0 ≤ (fay 12 52 j).toInt ∧ (fay 12 52 j).toInt ≤ 999)) (hPx : va_P (dC, dI) classes (WX x gx cax ivx lvx fax lax) H) (hDx : va_D A (WX x gx cax ivx lvx fax lax)) (hPy : va_P (dC, dI) classes (WM y gy cay ivy lvy fay lay) H) (hDy : va_D A (WM y gy cay ivy lvy fay lay)) (hS : va_S A s.heap H locs) {i : Int32} {ls : Array Slot} (hl : lv_has ls 4 [(3, .int i), (2, .ref y), (1, .ref x), (0, .ref b)]) (hi : 0 ≤ i.toInt ∧ i.toInt ≤ 4088) (hi8 : i.toInt + 8 ≤ (L : Int)) (kk : ∀ (H : Heap) (locs : List Loc) (ivx : Nat → Nat → Int32) (lvx : Nat → Nat → Int64) (fax : Nat → Nat → Nat → Int32) (lax : Nat → Nat → Nat → Int64) (ivy : Nat → Nat → Int32) (lvy : Nat → Nat → Int64) (fay : Nat → Nat → Nat → Int32) (lay : Nat → Nat → Nat → Int64), IX ivx fax → IX ivy fay → JCf (ivy 12 23).toInt (fay 12 25) (fay 12 26) (fay 12 27) (fay 12 28) → JRf (ivy 12 3).toInt (fay 12 7) → JNf (ivy 12 3).toInt (fay 12 4) (fay 12 5) → ((ivy 12 20).toInt = -1 ∧ (ivy 12 21).toInt = -1 ∧ (ivy 12 22).toInt = -1) → ivx 0 7 = ivy 12 1 → (∀ j : Nat, fax 0 1 j = fay 12 51 j) → (∀ j : Nat, (ivx 0 7).toInt ≤ (j : Int) → (fax 0 1 j).toInt = 0) → (∀ j : Nat, (fax 0 5 j).toInt = 2 * (fay 12 52 j).toInt ∧ 0 ≤ (fay 12 52 j).toInt ∧ (fay 12 52 j).toInt ≤ 999) → va_P (dC, dI) classes (WX x gx cax ivx lvx fax lax) H → va_D A (WX x gx cax ivx lvx fax lax) → va_P (dC, dI) classes (WM y gy cay ivy lvy fay lay) H → va_D A (WM y gy cay ivy lvy fay lay) → va_S A s.heap H locs → W p l e room_1 s m #[Value.ref b] below meth c H locs 98 5431 (lw_Z below #[Value.ref b] s) (F0 m 1508 ls [])) : W p l e room_1 s m #[Value.ref b] below meth c H locs 98 5431 (lw_Z below #[Value.ref b] s) (F0 m 640 ls []) := by
  obtain ⟨hx, hb, hr, hml, hown, hts, hX, hbl, hlocks, hgv⟩ := id C0
  have ht := tb_of hts
  have hJV : ∀ j : Nat, 0 ≤ (fay 12 52 j).toInt ∧ (fay 12 52 j).toInt ≤ 999 := fun j => (hsz j).2
  have hJZ : ∀ j : Nat, 0 ≤ (fax 0 5 j).toInt ∧ (fax 0 5 j).toInt ≤ 1998 := fun j => by have h5 := hsz j; omega
  refine lv_aload_n hx hb dL_law_640 rfl (lv_at hl 2 rfl) ?_
  refine lv_aload_n hx hb dL_law_641 rfl (lv_at hl 3 rfl) ?_
  refine lv_iload_n hx hb dL_law_642 rfl (lv_at hl 0 rfl) ?_
  refine lv_iconst (v := 1) hx hb dL_law_643 (by decide) ?_
  refine lv_iadd hx hb dL_law_644 ?_
  refine lv_topi (fun v1 ev1 => ?_)
  have tv1 := z_add ev1 (rfl : (i).toInt = _) (by decide : (1 : Int32).toInt = 1) (by omega) (by omega)
  refine va_sld hx hb hX hbl hbA hS (vp_in_iff.mpr ⟨by omega, by omega⟩ : vp_in v1 L) dL_law_645 ?_
  refine lv_topi (fun v2 ev2 => ?_)
  refine lv_aload_n hx hb dL_law_646 rfl (lv_at hl 3 rfl) ?_
  refine lv_iload_n hx hb dL_law_647 rfl (lv_at hl 0 rfl) ?_
  refine lv_iconst (v := 2) hx hb dL_law_648 (by decide) ?_
  refine lv_iadd hx hb dL_law_649 ?_
  refine lv_topi (fun v3 ev3 => ?_)
  have tv3 := z_add ev3 (rfl : (i).toInt = _) (by decide : (2 : Int32).toInt = 2) (by omega) (by omega)
  refine va_sld hx hb hX hbl hbA hS (vp_in_iff.mpr ⟨by omega, by omega⟩ : vp_in v3 L) dL_law_650 ?_
  refine lv_topi (fun v4 ev4 => ?_)
  have hFc := free_all hDx hS hA
  refine va_calli (va_runV (As := [.int v2, .int v4]) (rest := []) ⟨hx, hb, hml, hown, ht⟩ (c_X11_force l dC dI H.size ak av x gx cax ivx lvx fax lax hIx v2 v4) (kV 2 ht m_813 m_814 m_815 m_77 m_816 rfl rfl hd_X11_force_v ⟨Nat.le_of_ble_eq_true rfl, Nat.le_of_ble_eq_true rfl⟩) (vWZ hPx hKx hDx ((hZ.kept hS.2.1).narrow (free_all hDx hS hA)) (rX_11 hKx hPx)) rfl rfl hl.1 rfl (lv_room (Nat.le_of_ble_eq_true rfl)) dL_law_651 ⟨Nat.le_of_ble_eq_true rfl, Nat.le_of_ble_eq_true rfl⟩) hS (fun q _ h => hFc q h) hFc (fun r5 u t H1 locs ht9 hvm hr5 hB hz1 hk1 hS => ?_)
  obtain ⟨n6, hn6, hr5, rfl⟩ := hr5
  obtain ⟨hPx, hDx⟩ := hB
  rw [ht9] at hPx
  have hPy := P_kept hPy (la := AdM y gy) (lb := AdX x gx) wmM wmX (fun a ha b hb => (hXY b hb a ha).symm) hk1
  generalize H1 = H at hPx hPy hS ⊢
  have hPx : va_P (dC, dI) classes (WX x gx cax ivx lvx (u2 fax 1 6 n6) lax) H := hPx
  have hDx : va_D A (WX x gx cax ivx lvx (u2 fax 1 6 n6) lax) := (show va_D _ (WX x gx cax ivx lvx (u2 fax 1 6 n6) lax) from hDx).weaken (fun _ _ _ h => hFc _ h)
  refine lv_pop hx hb dL_law_654 rfl ?_
  refine lv_aload_n hx hb dL_law_655 rfl (lv_at hl 1 rfl) ?_
  refine lv_aload_n hx hb dL_law_656 rfl (lv_at hl 3 rfl) ?_
  refine lv_iload_n hx hb dL_law_657 rfl (lv_at hl 0 rfl) ?_
  refine lv_iconst (v := 1) hx hb dL_law_658 (by decide) ?_
  refine lv_iadd hx hb dL_law_659 ?_
  refine lv_topi (fun v7 ev7 => ?_)
  have tv7 := z_add ev7 (rfl : (i).toInt = _) (by decide : (1 : Int32).toInt = 1) (by omega) (by omega)
  refine va_sld hx hb hX hbl hbA hS (vp_in_iff.mpr ⟨by omega, by omega⟩ : vp_in v7 L) dL_law_660 ?_
  refine lv_topi (fun v8 ev8 => ?_)
  refine lv_aload_n hx hb dL_law_661 rfl (lv_at hl 3 rfl) ?_
  refine lv_iload_n hx hb dL_law_662 rfl (lv_at hl 0 rfl) ?_
  refine lv_iconst (v := 2) hx hb dL_law_663 (by decide) ?_
  refine lv_iadd hx hb dL_law_664 ?_
  refine lv_topi (fun v9 ev9 => ?_)
  have tv9 := z_add ev9 (rfl : (i).toInt = _) (by decide : (2 : Int32).toInt = 2) (by omega) (by omega)
  refine va_sld hx hb hX hbl hbA hS (vp_in_iff.mpr ⟨by omega, by omega⟩ : vp_in v9 L) dL_law_665 ?_
  refine lv_topi (fun v10 ev10 => ?_)
  have hFc := free_all hDy hS hA
  refine va_calli (va_runV (As := [.int v8, .int v10]) (rest := []) ⟨hx, hb, hml, hown, ht⟩ (c_X12_force l dC dI H.size y gy cay ivy lvy fay lay hIy v8 v10 hJC) (kV 2 ht m_1504 m_1505 m_1506 m_89 m_1507 rfl rfl hd_X12_force_v ⟨Nat.le_of_ble_eq_true rfl, Nat.le_of_ble_eq_true rfl⟩) (vW hPy hKy hDy (rM_12 hKy hPy)) rfl rfl hl.1 rfl (lv_room (Nat.le_of_ble_eq_true rfl)) dL_law_666 ⟨Nat.le_of_ble_eq_true rfl, Nat.le_of_ble_eq_true rfl⟩) hS (fun q _ h => hFc q h) hFc (fun r11 u t H1 locs ht9 hvm hr11 hB hz1 hk1 hS => ?_)
  obtain ⟨n12, n13, n14, hn12, hn13, hn14, hr11, rfl⟩ := hr11
  obtain ⟨hPy, hDy⟩ := hB
  rw [ht9] at hPy
  have hPx := P_kept hPx (la := AdX x gx) (lb := AdM y gy) wmX wmM hXY hk1
  generalize H1 = H at hPx hPy hS ⊢
  have hPy : va_P (dC, dI) classes (WM y gy cay (u2 ivy 12 41 n14) lvy (u2 (u2 fay 12 39 n12) 12 40 n13) lay) H := hPy
  have hDy : va_D A (WM y gy cay (u2 ivy 12 41 n14) lvy (u2 (u2 fay 12 39 n12) 12 40 n13) lay) := (show va_D _ (WM y gy cay (u2 ivy 12 41 n14) lvy (u2 (u2 fay 12 39 n12) 12 40 n13) lay) from hDy).weaken (fun _ _ _ h => hFc _ h)
  refine lv_pop hx hb dL_law_669 rfl ?_
  refine lv_goto (tgt := 1508) hx hb dL_law_670 (by decide) ?_
  exact kk _ _ ivx lvx (u2 fax 1 6 n6) lax (u2 ivy 12 41 n14) lvy (u2 (u2 fay 12 39 n12) 12 40 n13) lay (IX_a (c := 1) (k := 6) hIx hn6) (IX_a (c := 12) (k := 40) (IX_a (c := 12) (k := 39) (IX_i (c := 12) (k := 41) hIy hn14) hn12) hn13) hJC hJR hJN hJO hq_bales ha_thread hz_thread hsz hPx hDx hPy hDy hS
set_option maxHeartbeats 4000000 in
set_option maxRecDepth 100000 in
theorem law_13 {p : Program} {e : Env} {s : State} {m : MethodId} {below : List Frame} {meth : Method} {c : Code} (l : Launch) {b L : Nat} {xs : Nat → Int32} (hL : L ≤ 4096) (C0 : lw_At p s m meth c b L xs) {dC : Nat → ClassId} {dI : Nat → Nat → Nat} {A : Nat → Prop} (hA : ∀ q : Nat, s.heap.size ≤ q → A q) (hbA : ¬ A b) (hAs : ∀ q : Nat, A q → s.heap.size ≤ q) {x y : Nat} {gx gy : Nat → Nat → Nat} {cax cay : Nat → Nat → ClassId} {ak av : Nat → Nat} (hKx : va_K (dC, dI) classes (TX cax) s) (hKy : va_K (dC, dI) classes (TM cay) s) (hXY : ∀ a ∈ AdX x gx, ∀ b ∈ AdM y gy, a ≠ b) (hZ : zC ak av A s s.heap) {H : Heap} {locs : List Loc} {ivx : Nat → Nat → Int32} {lvx : Nat → Nat → Int64} {fax : Nat → Nat → Nat → Int32} {lax : Nat → Nat → Nat → Int64} {ivy : Nat → Nat → Int32} {lvy : Nat → Nat → Int64} {fay : Nat → Nat → Nat → Int32} {lay : Nat → Nat → Nat → Int64} (hIx : IX ivx fax) (hIy : IX ivy fay) (hJC : JCf (ivy 12 23).toInt (fay 12 25) (fay 12 26) (fay 12 27) (fay 12 28)) (hJR : JRf (ivy 12 3).toInt (fay 12 7)) (hJN : JNf (ivy 12 3).toInt (fay 12 4) (fay 12 5)) (hJO : ((ivy 12 20).toInt = -1 ∧ (ivy 12 21).toInt = -1 ∧ (ivy 12 22).toInt = -1)) (hq_bales : ivx 0 7 = ivy 12 1) (ha_thread : (∀ j : Nat, fax 0 1 j = fay 12 51 j)) (hz_thread : (∀ j : Nat, (ivx 0 7).toInt ≤ (j : Int) → (fax 0 1 j).toInt = 0)) (hsz : (∀ j : Nat, (fax 0 5 j).toInt = 2 * (fay 12 52 j).toInt ∧ 0 ≤ (fay 12 52 j).toInt ∧ (fay 12 52 j).toInt ≤ 999)) (hPx : va_P (dC, dI) classes (WX x gx cax ivx lvx fax lax) H) (hDx : va_D A (WX x gx cax ivx lvx fax lax)) (hPy : va_P (dC, dI) classes (WM y gy cay ivy lvy fay lay) H) (hDy : va_D A (WM y gy cay ivy lvy fay lay)) (hS : va_S A s.heap H locs) {i : Int32} {ls : Array Slot} (hl : lv_has ls 4 [(3, .int i), (2, .ref y), (1, .ref x), (0, .ref b)]) (hi : 0 ≤ i.toInt ∧ i.toInt ≤ 4088) (hi8 : i.toInt + 8 ≤ (L : Int)) (kk : ∀ (H : Heap) (locs : List Loc) (ivx : Nat → Nat → Int32) (lvx : Nat → Nat → Int64) (fax : Nat → Nat → Nat → Int32) (lax : Nat → Nat → Nat → Int64) (ivy : Nat → Nat → Int32) (lvy : Nat → Nat → Int64) (fay : Nat → Nat → Nat → Int32) (lay : Nat → Nat → Nat → Int64), IX ivx fax → IX ivy fay → JCf (ivy 12 23).toInt (fay 12 25) (fay 12 26) (fay 12 27) (fay 12 28) → JRf (ivy 12 3).toInt (fay 12 7) → JNf (ivy 12 3).toInt (fay 12 4) (fay 12 5) → ((ivy 12 20).toInt = -1 ∧ (ivy 12 21).toInt = -1 ∧ (ivy 12 22).toInt = -1) → ivx 0 7 = ivy 12 1 → (∀ j : Nat, fax 0 1 j = fay 12 51 j) → (∀ j : Nat, (ivx 0 7).toInt ≤ (j : Int) → (fax 0 1 j).toInt = 0) → (∀ j : Nat, (fax 0 5 j).toInt = 2 * (fay 12 52 j).toInt ∧ 0 ≤ (fay 12 52 j).toInt ∧ (fay 12 52 j).toInt ≤ 999) → va_P (dC, dI) classes (WX x gx cax ivx lvx fax lax) H → va_D A (WX x gx cax ivx lvx fax lax) → va_P (dC, dI) classes (WM y gy cay ivy lvy fay lay) H → va_D A (WM y gy cay ivy lvy fay lay) → va_S A s.heap H locs → W p l e room_1 s m #[Value.ref b] below meth c H locs 98 5431 (lw_Z below #[Value.ref b] s) (F0 m 1508 ls [])) : W p l e room_1 s m #[Value.ref b] below meth c H locs 98 5431 (lw_Z below #[Value.ref b] s) (F0 m 673 ls []) := by
  obtain ⟨hx, hb, hr, hml, hown, hts, hX, hbl, hlocks, hgv⟩ := id C0
  have ht := tb_of hts
  have hJV : ∀ j : Nat, 0 ≤ (fay 12 52 j).toInt ∧ (fay 12 52 j).toInt ≤ 999 := fun j => (hsz j).2
  have hJZ : ∀ j : Nat, 0 ≤ (fax 0 5 j).toInt ∧ (fax 0 5 j).toInt ≤ 1998 := fun j => by have h5 := hsz j; omega
  refine lv_aload_n hx hb dL_law_673 rfl (lv_at hl 2 rfl) ?_
  refine lv_aload_n hx hb dL_law_674 rfl (lv_at hl 3 rfl) ?_
  refine lv_iload_n hx hb dL_law_675 rfl (lv_at hl 0 rfl) ?_
  refine lv_iconst (v := 1) hx hb dL_law_676 (by decide) ?_
  refine lv_iadd hx hb dL_law_677 ?_
  refine lv_topi (fun v1 ev1 => ?_)
  have tv1 := z_add ev1 (rfl : (i).toInt = _) (by decide : (1 : Int32).toInt = 1) (by omega) (by omega)
  refine va_sld hx hb hX hbl hbA hS (vp_in_iff.mpr ⟨by omega, by omega⟩ : vp_in v1 L) dL_law_678 ?_
  refine lv_topi (fun v2 ev2 => ?_)
  refine lv_aload_n hx hb dL_law_679 rfl (lv_at hl 3 rfl) ?_
  refine lv_iload_n hx hb dL_law_680 rfl (lv_at hl 0 rfl) ?_
  refine lv_iconst (v := 2) hx hb dL_law_681 (by decide) ?_
  refine lv_iadd hx hb dL_law_682 ?_
  refine lv_topi (fun v3 ev3 => ?_)
  have tv3 := z_add ev3 (rfl : (i).toInt = _) (by decide : (2 : Int32).toInt = 2) (by omega) (by omega)
  refine va_sld hx hb hX hbl hbA hS (vp_in_iff.mpr ⟨by omega, by omega⟩ : vp_in v3 L) dL_law_683 ?_
  refine lv_topi (fun v4 ev4 => ?_)
  refine vp_callSi (W.runV (As := [.int v2, .int v4]) (rest := []) ⟨hx, hb, hml, hown, ht⟩ (c_X11_letter l dC dI x gx cax ivx lvx fax lax hIx v2 v4) (kV 2 ht m_817 m_818 m_819 m_77 m_820 rfl rfl hd_X11_letter_v ⟨Nat.le_of_ble_eq_true rfl, Nat.le_of_ble_eq_true rfl⟩) (vR hPx hKx (rX_11 hKx hPx)) rfl rfl hl.1 rfl (lv_room (Nat.le_of_ble_eq_true rfl)) dL_law_684 ⟨Nat.le_of_ble_eq_true rfl, Nat.le_of_ble_eq_true rfl⟩) (fun r5 hr5 => ?_)
  refine lv_pop hx hb dL_law_687 rfl ?_
  refine lv_aload_n hx hb dL_law_688 rfl (lv_at hl 1 rfl) ?_
  refine lv_aload_n hx hb dL_law_689 rfl (lv_at hl 3 rfl) ?_
  refine lv_iload_n hx hb dL_law_690 rfl (lv_at hl 0 rfl) ?_
  refine lv_iconst (v := 1) hx hb dL_law_691 (by decide) ?_
  refine lv_iadd hx hb dL_law_692 ?_
  refine lv_topi (fun v6 ev6 => ?_)
  have tv6 := z_add ev6 (rfl : (i).toInt = _) (by decide : (1 : Int32).toInt = 1) (by omega) (by omega)
  refine va_sld hx hb hX hbl hbA hS (vp_in_iff.mpr ⟨by omega, by omega⟩ : vp_in v6 L) dL_law_693 ?_
  refine lv_topi (fun v7 ev7 => ?_)
  refine lv_aload_n hx hb dL_law_694 rfl (lv_at hl 3 rfl) ?_
  refine lv_iload_n hx hb dL_law_695 rfl (lv_at hl 0 rfl) ?_
  refine lv_iconst (v := 2) hx hb dL_law_696 (by decide) ?_
  refine lv_iadd hx hb dL_law_697 ?_
  refine lv_topi (fun v8 ev8 => ?_)
  have tv8 := z_add ev8 (rfl : (i).toInt = _) (by decide : (2 : Int32).toInt = 2) (by omega) (by omega)
  refine va_sld hx hb hX hbl hbA hS (vp_in_iff.mpr ⟨by omega, by omega⟩ : vp_in v8 L) dL_law_698 ?_
  refine lv_topi (fun v9 ev9 => ?_)
  refine vp_callSi (W.runV (As := [.int v7, .int v9]) (rest := []) ⟨hx, hb, hml, hown, ht⟩ (c_X12_letter l dC dI y gy cay ivy lvy fay lay hIy v7 v9) (kV 2 ht m_1520 m_1521 m_1522 m_89 m_1523 rfl rfl hd_X12_letter_v ⟨Nat.le_of_ble_eq_true rfl, Nat.le_of_ble_eq_true rfl⟩) (vR hPy hKy (rM_12 hKy hPy)) rfl rfl hl.1 rfl (lv_room (Nat.le_of_ble_eq_true rfl)) dL_law_699 ⟨Nat.le_of_ble_eq_true rfl, Nat.le_of_ble_eq_true rfl⟩) (fun r10 hr10 => ?_)
  refine lv_pop hx hb dL_law_702 rfl ?_
  refine lv_goto (tgt := 1508) hx hb dL_law_703 (by decide) ?_
  exact kk _ _ ivx lvx fax lax ivy lvy fay lay hIx hIy hJC hJR hJN hJO hq_bales ha_thread hz_thread hsz hPx hDx hPy hDy hS
set_option maxHeartbeats 4000000 in
set_option maxRecDepth 100000 in
theorem law_14 {p : Program} {e : Env} {s : State} {m : MethodId} {below : List Frame} {meth : Method} {c : Code} (l : Launch) {b L : Nat} {xs : Nat → Int32} (hL : L ≤ 4096) (C0 : lw_At p s m meth c b L xs) {dC : Nat → ClassId} {dI : Nat → Nat → Nat} {A : Nat → Prop} (hA : ∀ q : Nat, s.heap.size ≤ q → A q) (hbA : ¬ A b) (hAs : ∀ q : Nat, A q → s.heap.size ≤ q) {x y : Nat} {gx gy : Nat → Nat → Nat} {cax cay : Nat → Nat → ClassId} {ak av : Nat → Nat} (hKx : va_K (dC, dI) classes (TX cax) s) (hKy : va_K (dC, dI) classes (TM cay) s) (hXY : ∀ a ∈ AdX x gx, ∀ b ∈ AdM y gy, a ≠ b) (hZ : zC ak av A s s.heap) {H : Heap} {locs : List Loc} {ivx : Nat → Nat → Int32} {lvx : Nat → Nat → Int64} {fax : Nat → Nat → Nat → Int32} {lax : Nat → Nat → Nat → Int64} {ivy : Nat → Nat → Int32} {lvy : Nat → Nat → Int64} {fay : Nat → Nat → Nat → Int32} {lay : Nat → Nat → Nat → Int64} (hIx : IX ivx fax) (hIy : IX ivy fay) (hJC : JCf (ivy 12 23).toInt (fay 12 25) (fay 12 26) (fay 12 27) (fay 12 28)) (hJR : JRf (ivy 12 3).toInt (fay 12 7)) (hJN : JNf (ivy 12 3).toInt (fay 12 4) (fay 12 5)) (hJO : ((ivy 12 20).toInt = -1 ∧ (ivy 12 21).toInt = -1 ∧ (ivy 12 22).toInt = -1)) (hq_bales : ivx 0 7 = ivy 12 1) (ha_thread : (∀ j : Nat, fax 0 1 j = fay 12 51 j)) (hz_thread : (∀ j : Nat, (ivx 0 7).toInt ≤ (j : Int) → (fax 0 1 j).toInt = 0)) (hsz : (∀ j : Nat, (fax 0 5 j).toInt = 2 * (fay 12 52 j).toInt ∧ 0 ≤ (fay 12 52 j).toInt ∧ (fay 12 52 j).toInt ≤ 999)) (hPx : va_P (dC, dI) classes (WX x gx cax ivx lvx fax lax) H) (hDx : va_D A (WX x gx cax ivx lvx fax lax)) (hPy : va_P (dC, dI) classes (WM y gy cay ivy lvy fay lay) H) (hDy : va_D A (WM y gy cay ivy lvy fay lay)) (hS : va_S A s.heap H locs) {i : Int32} {ls : Array Slot} (hl : lv_has ls 4 [(3, .int i), (2, .ref y), (1, .ref x), (0, .ref b)]) (hi : 0 ≤ i.toInt ∧ i.toInt ≤ 4088) (hi8 : i.toInt + 8 ≤ (L : Int)) (kk : ∀ (H : Heap) (locs : List Loc) (ivx : Nat → Nat → Int32) (lvx : Nat → Nat → Int64) (fax : Nat → Nat → Nat → Int32) (lax : Nat → Nat → Nat → Int64) (ivy : Nat → Nat → Int32) (lvy : Nat → Nat → Int64) (fay : Nat → Nat → Nat → Int32) (lay : Nat → Nat → Nat → Int64), IX ivx fax → IX ivy fay → JCf (ivy 12 23).toInt (fay 12 25) (fay 12 26) (fay 12 27) (fay 12 28) → JRf (ivy 12 3).toInt (fay 12 7) → JNf (ivy 12 3).toInt (fay 12 4) (fay 12 5) → ((ivy 12 20).toInt = -1 ∧ (ivy 12 21).toInt = -1 ∧ (ivy 12 22).toInt = -1) → ivx 0 7 = ivy 12 1 → (∀ j : Nat, fax 0 1 j = fay 12 51 j) → (∀ j : Nat, (ivx 0 7).toInt ≤ (j : Int) → (fax 0 1 j).toInt = 0) → (∀ j : Nat, (fax 0 5 j).toInt = 2 * (fay 12 52 j).toInt ∧ 0 ≤ (fay 12 52 j).toInt ∧ (fay 12 52 j).toInt ≤ 999) → va_P (dC, dI) classes (WX x gx cax ivx lvx fax lax) H → va_D A (WX x gx cax ivx lvx fax lax) → va_P (dC, dI) classes (WM y gy cay ivy lvy fay lay) H → va_D A (WM y gy cay ivy lvy fay lay) → va_S A s.heap H locs → W p l e room_1 s m #[Value.ref b] below meth c H locs 98 5431 (lw_Z below #[Value.ref b] s) (F0 m 1508 ls [])) : W p l e room_1 s m #[Value.ref b] below meth c H locs 98 5431 (lw_Z below #[Value.ref b] s) (F0 m 706 ls []) := by
  obtain ⟨hx, hb, hr, hml, hown, hts, hX, hbl, hlocks, hgv⟩ := id C0
  have ht := tb_of hts
  have hJV : ∀ j : Nat, 0 ≤ (fay 12 52 j).toInt ∧ (fay 12 52 j).toInt ≤ 999 := fun j => (hsz j).2
  have hJZ : ∀ j : Nat, 0 ≤ (fax 0 5 j).toInt ∧ (fax 0 5 j).toInt ≤ 1998 := fun j => by have h5 := hsz j; omega
  refine lv_aload_n hx hb dL_law_706 rfl (lv_at hl 2 rfl) ?_
  refine lv_aload_n hx hb dL_law_707 rfl (lv_at hl 3 rfl) ?_
  refine lv_iload_n hx hb dL_law_708 rfl (lv_at hl 0 rfl) ?_
  refine lv_iconst (v := 1) hx hb dL_law_709 (by decide) ?_
  refine lv_iadd hx hb dL_law_710 ?_
  refine lv_topi (fun v1 ev1 => ?_)
  have tv1 := z_add ev1 (rfl : (i).toInt = _) (by decide : (1 : Int32).toInt = 1) (by omega) (by omega)
  refine va_sld hx hb hX hbl hbA hS (vp_in_iff.mpr ⟨by omega, by omega⟩ : vp_in v1 L) dL_law_711 ?_
  refine lv_topi (fun v2 ev2 => ?_)
  refine lv_aload_n hx hb dL_law_712 rfl (lv_at hl 3 rfl) ?_
  refine lv_iload_n hx hb dL_law_713 rfl (lv_at hl 0 rfl) ?_
  refine lv_iconst (v := 2) hx hb dL_law_714 (by decide) ?_
  refine lv_iadd hx hb dL_law_715 ?_
  refine lv_topi (fun v3 ev3 => ?_)
  have tv3 := z_add ev3 (rfl : (i).toInt = _) (by decide : (2 : Int32).toInt = 2) (by omega) (by omega)
  refine va_sld hx hb hX hbl hbA hS (vp_in_iff.mpr ⟨by omega, by omega⟩ : vp_in v3 L) dL_law_716 ?_
  refine lv_topi (fun v4 ev4 => ?_)
  have hFc := free_all hDx hS hA
  refine va_calli (va_runV (As := [.int v2, .int v4]) (rest := []) ⟨hx, hb, hml, hown, ht⟩ (c_X11_state l dC dI H.size ak av x gx cax ivx lvx fax lax hIx v2 v4) (kV 2 ht m_829 m_830 m_831 m_77 m_832 rfl rfl hd_X11_state_v ⟨Nat.le_of_ble_eq_true rfl, Nat.le_of_ble_eq_true rfl⟩) (vWZ hPx hKx hDx ((hZ.kept hS.2.1).narrow (free_all hDx hS hA)) (rX_11 hKx hPx)) rfl rfl hl.1 rfl (lv_room (Nat.le_of_ble_eq_true rfl)) dL_law_717 ⟨Nat.le_of_ble_eq_true rfl, Nat.le_of_ble_eq_true rfl⟩) hS (fun q _ h => hFc q h) hFc (fun r5 u t H1 locs ht9 hvm hr5 hB hz1 hk1 hS => ?_)
  obtain ⟨n6, n7, n8, n9, n10, n11, hn6, hn10, hn11, hr5, rfl⟩ := hr5
  obtain ⟨hPx, hDx⟩ := hB
  rw [ht9] at hPx
  have hPy := P_kept hPy (la := AdM y gy) (lb := AdX x gx) wmM wmX (fun a ha b hb => (hXY b hb a ha).symm) hk1
  generalize H1 = H at hPx hPy hS ⊢
  have hPx : va_P (dC, dI) classes (WX x gx cax (u2 (u2 ivx 3 3 n10) 3 4 n11) lvx (u2 (u2 fax 1 6 n6) 30 2 n7) (u2 (u2 lax 30 0 n8) 30 1 n9)) H := hPx
  have hDx : va_D A (WX x gx cax (u2 (u2 ivx 3 3 n10) 3 4 n11) lvx (u2 (u2 fax 1 6 n6) 30 2 n7) (u2 (u2 lax 30 0 n8) 30 1 n9)) := (show va_D _ (WX x gx cax (u2 (u2 ivx 3 3 n10) 3 4 n11) lvx (u2 (u2 fax 1 6 n6) 30 2 n7) (u2 (u2 lax 30 0 n8) 30 1 n9)) from hDx).weaken (fun _ _ _ h => hFc _ h)
  refine lv_pop hx hb dL_law_720 rfl ?_
  refine lv_aload_n hx hb dL_law_721 rfl (lv_at hl 1 rfl) ?_
  refine lv_aload_n hx hb dL_law_722 rfl (lv_at hl 3 rfl) ?_
  refine lv_iload_n hx hb dL_law_723 rfl (lv_at hl 0 rfl) ?_
  refine lv_iconst (v := 1) hx hb dL_law_724 (by decide) ?_
  refine lv_iadd hx hb dL_law_725 ?_
  refine lv_topi (fun v12 ev12 => ?_)
  have tv12 := z_add ev12 (rfl : (i).toInt = _) (by decide : (1 : Int32).toInt = 1) (by omega) (by omega)
  refine va_sld hx hb hX hbl hbA hS (vp_in_iff.mpr ⟨by omega, by omega⟩ : vp_in v12 L) dL_law_726 ?_
  refine lv_topi (fun v13 ev13 => ?_)
  refine lv_aload_n hx hb dL_law_727 rfl (lv_at hl 3 rfl) ?_
  refine lv_iload_n hx hb dL_law_728 rfl (lv_at hl 0 rfl) ?_
  refine lv_iconst (v := 2) hx hb dL_law_729 (by decide) ?_
  refine lv_iadd hx hb dL_law_730 ?_
  refine lv_topi (fun v14 ev14 => ?_)
  have tv14 := z_add ev14 (rfl : (i).toInt = _) (by decide : (2 : Int32).toInt = 2) (by omega) (by omega)
  refine va_sld hx hb hX hbl hbA hS (vp_in_iff.mpr ⟨by omega, by omega⟩ : vp_in v14 L) dL_law_731 ?_
  refine lv_topi (fun v15 ev15 => ?_)
  have hFc := free_all hDy hS hA
  refine va_calli (va_runV (As := [.int v13, .int v15]) (rest := []) ⟨hx, hb, hml, hown, ht⟩ (c_X12_state l dC dI H.size y gy cay ivy lvy fay lay hIy v13 v15 hJC hJR) (kV 2 ht m_1524 m_1525 m_1526 m_89 m_1527 rfl rfl hd_X12_state_v ⟨Nat.le_of_ble_eq_true rfl, Nat.le_of_ble_eq_true rfl⟩) (vW hPy hKy hDy (rM_12 hKy hPy)) rfl rfl hl.1 rfl (lv_room (Nat.le_of_ble_eq_true rfl)) dL_law_732 ⟨Nat.le_of_ble_eq_true rfl, Nat.le_of_ble_eq_true rfl⟩) hS (fun q _ h => hFc q h) hFc (fun r16 u t H1 locs ht9 hvm hr16 hB hz1 hk1 hS => ?_)
  obtain ⟨n17, n18, n19, n20, n21, n22, n23, n24, n25, n26, hn17, hn18, hn22, hr16, rfl⟩ := hr16
  obtain ⟨hPy, hDy⟩ := hB
  rw [ht9] at hPy
  have hPx := P_kept hPx (la := AdX x gx) (lb := AdM y gy) wmX wmM hXY hk1
  generalize H1 = H at hPx hPy hS ⊢
  have hPy : va_P (dC, dI) classes (WM y gy cay (u2 (u2 ivy 12 19 n21) 12 41 n22) (u2 (u2 (u2 (u2 lvy 12 17 n23) 12 18 n24) 12 44 n25) 12 45 n26) (u2 (u2 fay 12 39 n17) 12 40 n18) (u2 (u2 lay 12 42 n19) 12 43 n20)) H := hPy
  have hDy : va_D A (WM y gy cay (u2 (u2 ivy 12 19 n21) 12 41 n22) (u2 (u2 (u2 (u2 lvy 12 17 n23) 12 18 n24) 12 44 n25) 12 45 n26) (u2 (u2 fay 12 39 n17) 12 40 n18) (u2 (u2 lay 12 42 n19) 12 43 n20)) := (show va_D _ (WM y gy cay (u2 (u2 ivy 12 19 n21) 12 41 n22) (u2 (u2 (u2 (u2 lvy 12 17 n23) 12 18 n24) 12 44 n25) 12 45 n26) (u2 (u2 fay 12 39 n17) 12 40 n18) (u2 (u2 lay 12 42 n19) 12 43 n20)) from hDy).weaken (fun _ _ _ h => hFc _ h)
  refine lv_pop hx hb dL_law_735 rfl ?_
  refine lv_goto (tgt := 1508) hx hb dL_law_736 (by decide) ?_
  exact kk _ _ (u2 (u2 ivx 3 3 n10) 3 4 n11) lvx (u2 (u2 fax 1 6 n6) 30 2 n7) (u2 (u2 lax 30 0 n8) 30 1 n9) (u2 (u2 ivy 12 19 n21) 12 41 n22) (u2 (u2 (u2 (u2 lvy 12 17 n23) 12 18 n24) 12 44 n25) 12 45 n26) (u2 (u2 fay 12 39 n17) 12 40 n18) (u2 (u2 lay 12 42 n19) 12 43 n20) (IX_a (c := 30) (k := 2) (IX_a (c := 1) (k := 6) (IX_i (c := 3) (k := 4) (IX_i (c := 3) (k := 3) hIx hn10) hn11) hn6) (fun j => full_i _)) (IX_a (c := 12) (k := 40) (IX_a (c := 12) (k := 39) (IX_i (c := 12) (k := 41) (IX_i (c := 12) (k := 19) hIy (full_i _)) hn22) hn17) hn18) hJC hJR hJN hJO hq_bales ha_thread hz_thread hsz hPx hDx hPy hDy hS
