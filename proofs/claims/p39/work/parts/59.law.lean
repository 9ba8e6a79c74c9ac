/-! ===== law ===== -/
theorem m_676 : Cond.methodLink RL 60 yX11_rule ∈ tb := mb_3_4 _ (List.mem_of_getElem? (i := 11) rfl)
theorem m_677 : Cond.instanceMethod yX11_rule ∈ tb := mb_3_4 _ (List.mem_of_getElem? (i := 12) rfl)
theorem m_678 : Cond.selects RX11 yX11_rule yX11_rule ∈ tb := mb_3_4 _ (List.mem_of_getElem? (i := 13) rfl)
theorem m_679 : Cond.code yX11_rule cX11_rule 3 (some .int) ∈ tb := mb_3_4 _ (List.mem_of_getElem? (i := 14) rfl)
theorem m_809 : Cond.methodLink RL 64 yX11_fault ∈ tb := mb_4_0 _ (List.mem_of_getElem? (i := 11) rfl)
theorem m_810 : Cond.instanceMethod yX11_fault ∈ tb := mb_4_0 _ (List.mem_of_getElem? (i := 12) rfl)
theorem m_811 : Cond.selects RX11 yX11_fault yX11_fault ∈ tb := mb_4_0 _ (List.mem_of_getElem? (i := 13) rfl)
theorem m_812 : Cond.code yX11_fault cX11_fault 1 (some .int) ∈ tb := mb_4_0 _ (List.mem_of_getElem? (i := 14) rfl)
theorem m_813 : Cond.methodLink RL 69 yX11_force ∈ tb := mb_4_0 _ (List.mem_of_getElem? (i := 15) rfl)
theorem m_814 : Cond.instanceMethod yX11_force ∈ tb := mb_4_0 _ (List.mem_of_getElem? (i := 16) rfl)
theorem m_815 : Cond.selects RX11 yX11_force yX11_force ∈ tb := mb_4_0 _ (List.mem_of_getElem? (i := 17) rfl)
theorem m_816 : Cond.code yX11_force cX11_force 3 (some .int) ∈ tb := mb_4_0 _ (List.mem_of_getElem? (i := 18) rfl)
theorem m_817 : Cond.methodLink RL 73 yX11_letter ∈ tb := mb_4_0 _ (List.mem_of_getElem? (i := 19) rfl)
theorem m_818 : Cond.instanceMethod yX11_letter ∈ tb := mb_4_0 _ (List.mem_of_getElem? (i := 20) rfl)
theorem m_819 : Cond.selects RX11 yX11_letter yX11_letter ∈ tb := mb_4_0 _ (List.mem_of_getElem? (i := 21) rfl)
theorem m_820 : Cond.code yX11_letter cX11_letter 3 (some .int) ∈ tb := mb_4_0 _ (List.mem_of_getElem? (i := 22) rfl)
theorem m_829 : Cond.methodLink RL 77 yX11_state ∈ tb := mb_4_1 _ (List.mem_of_getElem? (i := 7) rfl)
theorem m_830 : Cond.instanceMethod yX11_state ∈ tb := mb_4_1 _ (List.mem_of_getElem? (i := 8) rfl)
theorem m_831 : Cond.selects RX11 yX11_state yX11_state ∈ tb := mb_4_1 _ (List.mem_of_getElem? (i := 9) rfl)
theorem m_832 : Cond.code yX11_state cX11_state 3 (some .int) ∈ tb := mb_4_1 _ (List.mem_of_getElem? (i := 10) rfl)
theorem m_1454 : Cond.methodLink RL 63 yX12_rule ∈ tb := mb_6_3 _ (List.mem_of_getElem? (i := 12) rfl)
theorem m_1455 : Cond.instanceMethod yX12_rule ∈ tb := mb_6_3 _ (List.mem_of_getElem? (i := 13) rfl)
theorem m_1456 : Cond.selects RX12 yX12_rule yX12_rule ∈ tb := mb_6_3 _ (List.mem_of_getElem? (i := 14) rfl)
theorem m_1457 : Cond.code yX12_rule cX12_rule 4 (some .int) ∈ tb := mb_6_3 _ (List.mem_of_getElem? (i := 15) rfl)
theorem m_1500 : Cond.methodLink RL 68 yX12_fault ∈ tb := mb_6_5 _ (List.mem_of_getElem? (i := 2) rfl)
theorem m_1501 : Cond.instanceMethod yX12_fault ∈ tb := mb_6_5 _ (List.mem_of_getElem? (i := 3) rfl)
theorem m_1502 : Cond.selects RX12 yX12_fault yX12_fault ∈ tb := mb_6_5 _ (List.mem_of_getElem? (i := 4) rfl)
theorem m_1503 : Cond.code yX12_fault cX12_fault 1 (some .int) ∈ tb := mb_6_5 _ (List.mem_of_getElem? (i := 5) rfl)
theorem m_1504 : Cond.methodLink RL 72 yX12_force ∈ tb := mb_6_5 _ (List.mem_of_getElem? (i := 6) rfl)
theorem m_1505 : Cond.instanceMethod yX12_force ∈ tb := mb_6_5 _ (List.mem_of_getElem? (i := 7) rfl)
theorem m_1506 : Cond.selects RX12 yX12_force yX12_force ∈ tb := mb_6_5 _ (List.mem_of_getElem? (i := 8) rfl)
theorem m_1507 : Cond.code yX12_force cX12_force 3 (some .int) ∈ tb := mb_6_5 _ (List.mem_of_getElem? (i := 9) rfl)
theorem m_1520 : Cond.methodLink RL 76 yX12_letter ∈ tb := mb_7_0 _ (List.mem_of_getElem? (i := 4) rfl)
theorem m_1521 : Cond.instanceMethod yX12_letter ∈ tb := mb_7_0 _ (List.mem_of_getElem? (i := 5) rfl)
theorem m_1522 : Cond.selects RX12 yX12_letter yX12_letter ∈ tb := mb_7_0 _ (List.mem_of_getElem? (i := 6) rfl)
theorem m_1523 : Cond.code yX12_letter cX12_letter 4 (some .int) ∈ tb := mb_7_0 _ (List.mem_of_getElem? (i := 7) rfl)
theorem m_1524 : Cond.methodLink RL 80 yX12_state ∈ tb := mb_7_0 _ (List.mem_of_getElem? (i := 8) rfl)
theorem m_1525 : Cond.instanceMethod yX12_state ∈ tb := mb_7_0 _ (List.mem_of_getElem? (i := 9) rfl)
theorem m_1526 : Cond.selects RX12 yX12_state yX12_state ∈ tb := mb_7_0 _ (List.mem_of_getElem? (i := 10) rfl)
theorem m_1527 : Cond.code yX12_state cX12_state 3 (some .int) ∈ tb := mb_7_0 _ (List.mem_of_getElem? (i := 11) rfl)
theorem hd_X11_fault_v : yX11_fault.cls = RX11 ∧ yX11_fault.cls ≠ "java/lang/invoke/MethodHandle" ∧ yX11_fault.cls ≠ "java/lang/invoke/VarHandle" ∧ (parseMethodDescriptor yX11_fault.desc).map (fun d => d.parameters.length) = some 0 := by decide +kernel
theorem hd_X11_force_v : yX11_force.cls = RX11 ∧ yX11_force.cls ≠ "java/lang/invoke/MethodHandle" ∧ yX11_force.cls ≠ "java/lang/invoke/VarHandle" ∧ (parseMethodDescriptor yX11_force.desc).map (fun d => d.parameters.length) = some 2 := by decide +kernel
theorem hd_X11_letter_v : yX11_letter.cls = RX11 ∧ yX11_letter.cls ≠ "java/lang/invoke/MethodHandle" ∧ yX11_letter.cls ≠ "java/lang/invoke/VarHandle" ∧ (parseMethodDescriptor yX11_letter.desc).map (fun d => d.parameters.length) = some 2 := by decide +kernel
theorem hd_X11_rule_v : yX11_rule.cls = RX11 ∧ yX11_rule.cls ≠ "java/lang/invoke/MethodHandle" ∧ yX11_rule.cls ≠ "java/lang/invoke/VarHandle" ∧ (parseMethodDescriptor yX11_rule.desc).map (fun d => d.parameters.length) = some 1 := by decide +kernel
theorem hd_X11_state_v : yX11_state.cls = RX11 ∧ yX11_state.cls ≠ "java/lang/invoke/MethodHandle" ∧ yX11_state.cls ≠ "java/lang/invoke/VarHandle" ∧ (parseMethodDescriptor yX11_state.desc).map (fun d => d.parameters.length) = some 2 := by decide +kernel
theorem hd_X12_fault_v : yX12_fault.cls = RX12 ∧ yX12_fault.cls ≠ "java/lang/invoke/MethodHandle" ∧ yX12_fault.cls ≠ "java/lang/invoke/VarHandle" ∧ (parseMethodDescriptor yX12_fault.desc).map (fun d => d.parameters.length) = some 0 := by decide +kernel
theorem hd_X12_force_v : yX12_force.cls = RX12 ∧ yX12_force.cls ≠ "java/lang/invoke/MethodHandle" ∧ yX12_force.cls ≠ "java/lang/invoke/VarHandle" ∧ (parseMethodDescriptor yX12_force.desc).map (fun d => d.parameters.length) = some 2 := by decide +kernel
theorem hd_X12_letter_v : yX12_letter.cls = RX12 ∧ yX12_letter.cls ≠ "java/lang/invoke/MethodHandle" ∧ yX12_letter.cls ≠ "java/lang/invoke/VarHandle" ∧ (parseMethodDescriptor yX12_letter.desc).map (fun d => d.parameters.length) = some 2 := by decide +kernel
theorem hd_X12_rule_v : yX12_rule.cls = RX12 ∧ yX12_rule.cls ≠ "java/lang/invoke/MethodHandle" ∧ yX12_rule.cls ≠ "java/lang/invoke/VarHandle" ∧ (parseMethodDescriptor yX12_rule.desc).map (fun d => d.parameters.length) = some 1 := by decide +kernel
theorem hd_X12_state_v : yX12_state.cls = RX12 ∧ yX12_state.cls ≠ "java/lang/invoke/MethodHandle" ∧ yX12_state.cls ≠ "java/lang/invoke/VarHandle" ∧ (parseMethodDescriptor yX12_state.desc).map (fun d => d.parameters.length) = some 2 := by decide +kernel
theorem dL_law_604 : decode cL_law 604 = .ok (.aload_n 1, 1) := dk_43 (w_at wL_25 4 (p := 604) rfl rfl rfl)
theorem dL_law_605 : decode cL_law 605 = .ok (.aload_n 0, 1) := dk_42 (w_at wL_25 5 (p := 605) rfl rfl rfl)
theorem dL_law_606 : decode cL_law 606 = .ok (.iload_n 3, 1) := dk_29 (w_at wL_25 6 (p := 606) rfl rfl rfl)
theorem dL_law_607 : decode cL_law 607 = .ok (.iconst 1, 1) := dk_4 (w_at wL_25 7 (p := 607) rfl rfl rfl)
theorem dL_law_608 : decode cL_law 608 = .ok (.iadd, 1) := dk_96 (w_at wL_25 8 (p := 608) rfl rfl rfl)
theorem dL_law_609 : decode cL_law 609 = .ok (.iaload, 1) := dk_46 (w_at wL_25 9 (p := 609) rfl rfl rfl)
theorem dL_law_610 : decode cL_law 610 = .ok (.invokevirtual 60, 3) := dk_iv (w_at wL_25 10 (p := 610) rfl rfl rfl) (w_at wL_25 11 (p := 611) rfl rfl rfl) (w_at wL_25 12 (p := 612) rfl rfl rfl) rfl
theorem dL_law_613 : decode cL_law 613 = .ok (.pop, 1) := dk_87 (w_at wL_25 13 (p := 613) rfl rfl rfl)
theorem dL_law_614 : decode cL_law 614 = .ok (.aload_n 2, 1) := dk_44 (w_at wL_25 14 (p := 614) rfl rfl rfl)
theorem dL_law_615 : decode cL_law 615 = .ok (.aload_n 0, 1) := dk_42 (w_at wL_25 15 (p := 615) rfl rfl rfl)
theorem dL_law_616 : decode cL_law 616 = .ok (.iload_n 3, 1) := dk_29 (w_at wL_25 16 (p := 616) rfl rfl rfl)
theorem dL_law_617 : decode cL_law 617 = .ok (.iconst 1, 1) := dk_4 (w_at wL_25 17 (p := 617) rfl rfl rfl)
theorem dL_law_618 : decode cL_law 618 = .ok (.iadd, 1) := dk_96 (w_at wL_25 18 (p := 618) rfl rfl rfl)
theorem dL_law_619 : decode cL_law 619 = .ok (.iaload, 1) := dk_46 (w_at wL_25 19 (p := 619) rfl rfl rfl)
theorem dL_law_620 : decode cL_law 620 = .ok (.invokevirtual 63, 3) := dk_iv (w_at wL_25 20 (p := 620) rfl rfl rfl) (w_at wL_25 21 (p := 621) rfl rfl rfl) (w_at wL_25 22 (p := 622) rfl rfl rfl) rfl
theorem dL_law_623 : decode cL_law 623 = .ok (.pop, 1) := dk_87 (w_at wL_25 23 (p := 623) rfl rfl rfl)
set_option maxRecDepth 100000 in
theorem wL_26 : Win cL_law 624 [167, 3, 117, 43, 182, 0, 64, 87, 44, 182, 0, 68, 87, 167, 3, 104, 43, 42, 29, 4, 96, 46, 42, 29, 5, 96, 46, 182] := Win_sub (o := 480) (o2 := 144) (n := 28) WL_2 (by decide +kernel)
theorem dL_law_627 : decode cL_law 627 = .ok (.aload_n 1, 1) := dk_43 (w_at wL_26 3 (p := 627) rfl rfl rfl)
theorem dL_law_628 : decode cL_law 628 = .ok (.invokevirtual 64, 3) := dk_iv (w_at wL_26 4 (p := 628) rfl rfl rfl) (w_at wL_26 5 (p := 629) rfl rfl rfl) (w_at wL_26 6 (p := 630) rfl rfl rfl) rfl
theorem dL_law_631 : decode cL_law 631 = .ok (.pop, 1) := dk_87 (w_at wL_26 7 (p := 631) rfl rfl rfl)
theorem dL_law_632 : decode cL_law 632 = .ok (.aload_n 2, 1) := dk_44 (w_at wL_26 8 (p := 632) rfl rfl rfl)
theorem dL_law_633 : decode cL_law 633 = .ok (.invokevirtual 68, 3) := dk_iv (w_at wL_26 9 (p := 633) rfl rfl rfl) (w_at wL_26 10 (p := 634) rfl rfl rfl) (w_at wL_26 11 (p := 635) rfl rfl rfl) rfl
theorem dL_law_636 : decode cL_law 636 = .ok (.pop, 1) := dk_87 (w_at wL_26 12 (p := 636) rfl rfl rfl)
theorem dL_law_640 : decode cL_law 640 = .ok (.aload_n 1, 1) := dk_43 (w_at wL_26 16 (p := 640) rfl rfl rfl)
theorem dL_law_641 : decode cL_law 641 = .ok (.aload_n 0, 1) := dk_42 (w_at wL_26 17 (p := 641) rfl rfl rfl)
theorem dL_law_642 : decode cL_law 642 = .ok (.iload_n 3, 1) := dk_29 (w_at wL_26 18 (p := 642) rfl rfl rfl)
theorem dL_law_643 : decode cL_law 643 = .ok (.iconst 1, 1) := dk_4 (w_at wL_26 19 (p := 643) rfl rfl rfl)
theorem dL_law_644 : decode cL_law 644 = .ok (.iadd, 1) := dk_96 (w_at wL_26 20 (p := 644) rfl rfl rfl)
theorem dL_law_645 : decode cL_law 645 = .ok (.iaload, 1) := dk_46 (w_at wL_26 21 (p := 645) rfl rfl rfl)
theorem dL_law_646 : decode cL_law 646 = .ok (.aload_n 0, 1) := dk_42 (w_at wL_26 22 (p := 646) rfl rfl rfl)
theorem dL_law_647 : decode cL_law 647 = .ok (.iload_n 3, 1) := dk_29 (w_at wL_26 23 (p := 647) rfl rfl rfl)
set_option maxRecDepth 100000 in
theorem wL_27 : Win cL_law 648 [5, 96, 46, 182, 0, 69, 87, 44, 42, 29, 4, 96, 46, 42, 29, 5, 96, 46, 182, 0, 72, 87, 167, 3, 71, 43, 42, 29] := Win_sub (o := 480) (o2 := 168) (n := 28) WL_2 (by decide +kernel)
theorem dL_law_648 : decode cL_law 648 = .ok (.iconst 2, 1) := dk_5 (w_at wL_27 0 (p := 648) rfl rfl rfl)
theorem dL_law_649 : decode cL_law 649 = .ok (.iadd, 1) := dk_96 (w_at wL_27 1 (p := 649) rfl rfl rfl)
theorem dL_law_650 : decode cL_law 650 = .ok (.iaload, 1) := dk_46 (w_at wL_27 2 (p := 650) rfl rfl rfl)
theorem dL_law_651 : decode cL_law 651 = .ok (.invokevirtual 69, 3) := dk_iv (w_at wL_27 3 (p := 651) rfl rfl rfl) (w_at wL_27 4 (p := 652) rfl rfl rfl) (w_at wL_27 5 (p := 653) rfl rfl rfl) rfl
theorem dL_law_654 : decode cL_law 654 = .ok (.pop, 1) := dk_87 (w_at wL_27 6 (p := 654) rfl rfl rfl)
theorem dL_law_655 : decode cL_law 655 = .ok (.aload_n 2, 1) := dk_44 (w_at wL_27 7 (p := 655) rfl rfl rfl)
theorem dL_law_656 : decode cL_law 656 = .ok (.aload_n 0, 1) := dk_42 (w_at wL_27 8 (p := 656) rfl rfl rfl)
theorem dL_law_657 : decode cL_law 657 = .ok (.iload_n 3, 1) := dk_29 (w_at wL_27 9 (p := 657) rfl rfl rfl)
theorem dL_law_658 : decode cL_law 658 = .ok (.iconst 1, 1) := dk_4 (w_at wL_27 10 (p := 658) rfl rfl rfl)
theorem dL_law_659 : decode cL_law 659 = .ok (.iadd, 1) := dk_96 (w_at wL_27 11 (p := 659) rfl rfl rfl)
theorem dL_law_660 : decode cL_law 660 = .ok (.iaload, 1) := dk_46 (w_at wL_27 12 (p := 660) rfl rfl rfl)
theorem dL_law_661 : decode cL_law 661 = .ok (.aload_n 0, 1) := dk_42 (w_at wL_27 13 (p := 661) rfl rfl rfl)
theorem dL_law_662 : decode cL_law 662 = .ok (.iload_n 3, 1) := dk_29 (w_at wL_27 14 (p := 662) rfl rfl rfl)
theorem dL_law_663 : decode cL_law 663 = .ok (.iconst 2, 1) := dk_5 (w_at wL_27 15 (p := 663) rfl rfl rfl)
theorem dL_law_664 : decode cL_law 664 = .ok (.iadd, 1) := dk_96 (w_at wL_27 16 (p := 664) rfl rfl rfl)
theorem dL_law_665 : decode cL_law 665 = .ok (.iaload, 1) := dk_46 (w_at wL_27 17 (p := 665) rfl rfl rfl)
theorem dL_law_666 : decode cL_law 666 = .ok (.invokevirtual 72, 3) := dk_iv (w_at wL_27 18 (p := 666) rfl rfl rfl) (w_at wL_27 19 (p := 667) rfl rfl rfl) (w_at wL_27 20 (p := 668) rfl rfl rfl) rfl
theorem dL_law_669 : decode cL_law 669 = .ok (.pop, 1) := dk_87 (w_at wL_27 21 (p := 669) rfl rfl rfl)
set_option maxRecDepth 100000 in
theorem wL_28 : Win cL_law 672 [71, 43, 42, 29, 4, 96, 46, 42, 29, 5, 96, 46, 182, 0, 73, 87, 44, 42, 29, 4, 96, 46, 42, 29, 5, 96, 46, 182] := Win_sub (o := 480) (o2 := 192) (n := 28) WL_2 (by decide +kernel)
theorem dL_law_673 : decode cL_law 673 = .ok (.aload_n 1, 1) := dk_43 (w_at wL_28 1 (p := 673) rfl rfl rfl)
theorem dL_law_674 : decode cL_law 674 = .ok (.aload_n 0, 1) := dk_42 (w_at wL_28 2 (p := 674) rfl rfl rfl)
theorem dL_law_675 : decode cL_law 675 = .ok (.iload_n 3, 1) := dk_29 (w_at wL_28 3 (p := 675) rfl rfl rfl)
theorem dL_law_676 : decode cL_law 676 = .ok (.iconst 1, 1) := dk_4 (w_at wL_28 4 (p := 676) rfl rfl rfl)
theorem dL_law_677 : decode cL_law 677 = .ok (.iadd, 1) := dk_96 (w_at wL_28 5 (p := 677) rfl rfl rfl)
theorem dL_law_678 : decode cL_law 678 = .ok (.iaload, 1) := dk_46 (w_at wL_28 6 (p := 678) rfl rfl rfl)
theorem dL_law_679 : decode cL_law 679 = .ok (.aload_n 0, 1) := dk_42 (w_at wL_28 7 (p := 679) rfl rfl rfl)
theorem dL_law_680 : decode cL_law 680 = .ok (.iload_n 3, 1) := dk_29 (w_at wL_28 8 (p := 680) rfl rfl rfl)
theorem dL_law_681 : decode cL_law 681 = .ok (.iconst 2, 1) := dk_5 (w_at wL_28 9 (p := 681) rfl rfl rfl)
theorem dL_law_682 : decode cL_law 682 = .ok (.iadd, 1) := dk_96 (w_at wL_28 10 (p := 682) rfl rfl rfl)
theorem dL_law_683 : decode cL_law 683 = .ok (.iaload, 1) := dk_46 (w_at wL_28 11 (p := 683) rfl rfl rfl)
theorem dL_law_684 : decode cL_law 684 = .ok (.invokevirtual 73, 3) := dk_iv (w_at wL_28 12 (p := 684) rfl rfl rfl) (w_at wL_28 13 (p := 685) rfl rfl rfl) (w_at wL_28 14 (p := 686) rfl rfl rfl) rfl
theorem dL_law_687 : decode cL_law 687 = .ok (.pop, 1) := dk_87 (w_at wL_28 15 (p := 687) rfl rfl rfl)
theorem dL_law_688 : decode cL_law 688 = .ok (.aload_n 2, 1) := dk_44 (w_at wL_28 16 (p := 688) rfl rfl rfl)
theorem dL_law_689 : decode cL_law 689 = .ok (.aload_n 0, 1) := dk_42 (w_at wL_28 17 (p := 689) rfl rfl rfl)
theorem dL_law_690 : decode cL_law 690 = .ok (.iload_n 3, 1) := dk_29 (w_at wL_28 18 (p := 690) rfl rfl rfl)
theorem dL_law_691 : decode cL_law 691 = .ok (.iconst 1, 1) := dk_4 (w_at wL_28 19 (p := 691) rfl rfl rfl)
theorem dL_law_692 : decode cL_law 692 = .ok (.iadd, 1) := dk_96 (w_at wL_28 20 (p := 692) rfl rfl rfl)
theorem dL_law_693 : decode cL_law 693 = .ok (.iaload, 1) := dk_46 (w_at wL_28 21 (p := 693) rfl rfl rfl)
theorem dL_law_694 : decode cL_law 694 = .ok (.aload_n 0, 1) := dk_42 (w_at wL_28 22 (p := 694) rfl rfl rfl)
theorem dL_law_695 : decode cL_law 695 = .ok (.iload_n 3, 1) := dk_29 (w_at wL_28 23 (p := 695) rfl rfl rfl)
set_option maxRecDepth 100000 in
theorem wL_29 : Win cL_law 696 [5, 96, 46, 182, 0, 76, 87, 167, 3, 38, 43, 42, 29, 4, 96, 46, 42, 29, 5, 96, 46, 182, 0, 77, 87, 44, 42, 29] := Win_sub (o := 480) (o2 := 216) (n := 28) WL_2 (by decide +kernel)
theorem dL_law_696 : decode cL_law 696 = .ok (.iconst 2, 1) := dk_5 (w_at wL_29 0 (p := 696) rfl rfl rfl)
theorem dL_law_697 : decode cL_law 697 = .ok (.iadd, 1) := dk_96 (w_at wL_29 1 (p := 697) rfl rfl rfl)
theorem dL_law_698 : decode cL_law 698 = .ok (.iaload, 1) := dk_46 (w_at wL_29 2 (p := 698) rfl rfl rfl)
theorem dL_law_699 : decode cL_law 699 = .ok (.invokevirtual 76, 3) := dk_iv (w_at wL_29 3 (p := 699) rfl rfl rfl) (w_at wL_29 4 (p := 700) rfl rfl rfl) (w_at wL_29 5 (p := 701) rfl rfl rfl) rfl
theorem dL_law_702 : decode cL_law 702 = .ok (.pop, 1) := dk_87 (w_at wL_29 6 (p := 702) rfl rfl rfl)
theorem dL_law_706 : decode cL_law 706 = .ok (.aload_n 1, 1) := dk_43 (w_at wL_29 10 (p := 706) rfl rfl rfl)
theorem dL_law_707 : decode cL_law 707 = .ok (.aload_n 0, 1) := dk_42 (w_at wL_29 11 (p := 707) rfl rfl rfl)
theorem dL_law_708 : decode cL_law 708 = .ok (.iload_n 3, 1) := dk_29 (w_at wL_29 12 (p := 708) rfl rfl rfl)
theorem dL_law_709 : decode cL_law 709 = .ok (.iconst 1, 1) := dk_4 (w_at wL_29 13 (p := 709) rfl rfl rfl)
theorem dL_law_710 : decode cL_law 710 = .ok (.iadd, 1) := dk_96 (w_at wL_29 14 (p := 710) rfl rfl rfl)
theorem dL_law_711 : decode cL_law 711 = .ok (.iaload, 1) := dk_46 (w_at wL_29 15 (p := 711) rfl rfl rfl)
theorem dL_law_712 : decode cL_law 712 = .ok (.aload_n 0, 1) := dk_42 (w_at wL_29 16 (p := 712) rfl rfl rfl)
theorem dL_law_713 : decode cL_law 713 = .ok (.iload_n 3, 1) := dk_29 (w_at wL_29 17 (p := 713) rfl rfl rfl)
theorem dL_law_714 : decode cL_law 714 = .ok (.iconst 2, 1) := dk_5 (w_at wL_29 18 (p := 714) rfl rfl rfl)
theorem dL_law_715 : decode cL_law 715 = .ok (.iadd, 1) := dk_96 (w_at wL_29 19 (p := 715) rfl rfl rfl)
theorem dL_law_716 : decode cL_law 716 = .ok (.iaload, 1) := dk_46 (w_at wL_29 20 (p := 716) rfl rfl rfl)
theorem dL_law_717 : decode cL_law 717 = .ok (.invokevirtual 77, 3) := dk_iv (w_at wL_29 21 (p := 717) rfl rfl rfl) (w_at wL_29 22 (p := 718) rfl rfl rfl) (w_at wL_29 23 (p := 719) rfl rfl rfl) rfl
def bL_3 : List UInt8 := [87, 44, 42, 29, 4, 96, 46, 42, 29, 5, 96, 46, 182, 0, 80, 87, 167, 3, 5, 43, 42, 29, 4, 96, 46, 42, 29, 5, 96, 46, 42, 29, 6, 96, 46, 182, 0, 81, 88, 44, 42, 29, 4, 96, 46, 42, 29, 5, 96, 46, 42, 29, 6, 96, 46, 182, 0, 85, 88, 167, 2, 218, 43, 42, 29, 4, 96, 46, 42, 29, 5, 96, 46, 182, 0, 86, 88, 44, 42, 29, 4, 96, 46, 42, 29, 5, 96, 46, 182, 0, 90, 88, 167, 2, 185, 43, 42, 29, 4, 96, 46, 42, 29, 5, 96, 46, 182, 0, 91, 87, 44, 42, 29, 4, 96, 46, 42, 29, 5, 96, 46, 182, 0, 94, 87, 167, 2, 152, 43, 42, 29, 4, 96, 46, 42, 29, 5, 96, 46, 182, 0, 95, 87, 44, 42, 29, 4, 96, 46, 42, 29, 5, 96, 46, 182, 0, 98, 87, 167, 2, 119, 43, 42, 29, 4, 96, 46, 42, 29, 5, 96, 46, 182, 0, 99, 87, 44, 42, 29, 4, 96, 46, 42, 29, 5, 96, 46, 182, 0, 102, 87, 167, 2, 86, 43, 42, 29, 4, 96, 46, 42, 29, 5, 96, 46, 182, 0, 103, 87, 44, 42, 29, 4, 96, 46, 42, 29, 5, 96, 46, 182, 0, 106, 87, 167, 2, 53, 43, 42, 29, 4, 96, 46, 42, 29, 5, 96, 46, 182, 0, 107, 87, 44, 42, 29, 4, 96, 46, 42, 29, 5, 96, 46, 182, 0, 110, 87, 167, 2, 20, 43, 42, 29, 4, 96, 46, 42, 29]
set_option maxRecDepth 100000 in
theorem WL_3 : Win cL_law 720 bL_3 := Win_of (n := 268) (by decide +kernel)
set_option maxRecDepth 100000 in
theorem wL_30 : Win cL_law 720 [87, 44, 42, 29, 4, 96, 46, 42, 29, 5, 96, 46, 182, 0, 80, 87, 167, 3, 5, 43, 42, 29, 4, 96, 46, 42, 29, 5] := Win_sub (o := 720) (o2 := 0) (n := 28) WL_3 (by decide +kernel)
theorem dL_law_720 : decode cL_law 720 = .ok (.pop, 1) := dk_87 (w_at wL_30 0 (p := 720) rfl rfl rfl)
theorem dL_law_721 : decode cL_law 721 = .ok (.aload_n 2, 1) := dk_44 (w_at wL_30 1 (p := 721) rfl rfl rfl)
theorem dL_law_722 : decode cL_law 722 = .ok (.aload_n 0, 1) := dk_42 (w_at wL_30 2 (p := 722) rfl rfl rfl)
theorem dL_law_723 : decode cL_law 723 = .ok (.iload_n 3, 1) := dk_29 (w_at wL_30 3 (p := 723) rfl rfl rfl)
theorem dL_law_724 : decode cL_law 724 = .ok (.iconst 1, 1) := dk_4 (w_at wL_30 4 (p := 724) rfl rfl rfl)
theorem dL_law_725 : decode cL_law 725 = .ok (.iadd, 1) := dk_96 (w_at wL_30 5 (p := 725) rfl rfl rfl)
theorem dL_law_726 : decode cL_law 726 = .ok (.iaload, 1) := dk_46 (w_at wL_30 6 (p := 726) rfl rfl rfl)
theorem dL_law_727 : decode cL_law 727 = .ok (.aload_n 0, 1) := dk_42 (w_at wL_30 7 (p := 727) rfl rfl rfl)
theorem dL_law_728 : decode cL_law 728 = .ok (.iload_n 3, 1) := dk_29 (w_at wL_30 8 (p := 728) rfl rfl rfl)
theorem dL_law_729 : decode cL_law 729 = .ok (.iconst 2, 1) := dk_5 (w_at wL_30 9 (p := 729) rfl rfl rfl)
theorem dL_law_730 : decode cL_law 730 = .ok (.iadd, 1) := dk_96 (w_at wL_30 10 (p := 730) rfl rfl rfl)
theorem dL_law_731 : decode cL_law 731 = .ok (.iaload, 1) := dk_46 (w_at wL_30 11 (p := 731) rfl rfl rfl)
theorem dL_law_732 : decode cL_law 732 = .ok (.invokevirtual 80, 3) := dk_iv (w_at wL_30 12 (p := 732) rfl rfl rfl) (w_at wL_30 13 (p := 733) rfl rfl rfl) (w_at wL_30 14 (p := 734) rfl rfl rfl) rfl
theorem dL_law_735 : decode cL_law 735 = .ok (.pop, 1) := dk_87 (w_at wL_30 15 (p := 735) rfl rfl rfl)
set_option maxRecDepth 100000 in
theorem dvL_law_624 : ([(624, .goto 885, 3), (637, .goto 872, 3), (670, .goto 839, 3), (703, .goto 806, 3), (736, .goto 773, 3)] : List (Nat × Instr × Nat)).all (fun q => decide (decode cL_law q.1 = .ok (q.2.1, q.2.2))) = true := by decide +kernel
theorem dL_law_624 : decode cL_law 624 = .ok (.goto 885, 3) := all_at dvL_law_624 0 rfl
theorem dL_law_637 : decode cL_law 637 = .ok (.goto 872, 3) := all_at dvL_law_624 1 rfl
theorem dL_law_670 : decode cL_law 670 = .ok (.goto 839, 3) := all_at dvL_law_624 2 rfl
theorem dL_law_703 : decode cL_law 703 = .ok (.goto 806, 3) := all_at dvL_law_624 3 rfl
theorem dL_law_736 : decode cL_law 736 = .ok (.goto 773, 3) := all_at dvL_law_624 4 rfl
set_option maxHeartbeats 4000000 in
set_option maxRecDepth 100000 in
theorem law_10 {p : Program} {e : Env} {s : State} {m : MethodId} {below : List Frame} {meth : Method} {c : Code} (l : Launch) {b L : Nat} {xs : Nat → Int32} (hL : L ≤ 4096) (C0 : lw_At p s m meth c b L xs) {dC : Nat → ClassId} {dI : Nat → Nat → Nat} {A : Nat → Prop} (hA : ∀ q : Nat, s.heap.size ≤ q → A q) (hbA : ¬ A b) (hAs : ∀ q : Nat, A q → s.heap.size ≤ q) {x y : Nat} {gx gy : Nat → Nat → Nat} {cax cay : Nat → Nat → ClassId} {ak av : Nat → Nat} (hKx : va_K (dC, dI) classes (TX cax) s) (hKy : va_K (dC, dI) classes (TM cay) s) (hXY : ∀ a ∈ AdX x gx, ∀ b ∈ AdM y gy, a ≠ b) (hZ : zC ak av A s s.heap) {H : Heap} {locs : List Loc} {ivx : Nat → Nat → Int32} {lvx : Nat → Nat → Int64} {fax : Nat → Nat → Nat → Int32} {lax : Nat → Nat → Nat → Int64} {ivy : Nat → Nat → Int32} {lvy : Nat → Nat → Int64} {fay : Nat → Nat → Nat → Int32} {lay : Nat → Nat → Nat → Int64} (hIx : IX ivx fax) (hIy : IX ivy fay) (hJC : JCf (ivy 12 23).toInt (fay 12 25) (fay 12 26) (fay 12 27) (fay 12 28)) (hJR : JRf (ivy 12 3).toInt (fay 12 7)) (hJN : JNf (ivy 12 3).toInt (fay 12 4) (fay 12 5)) (hJO : ((ivy 12 20).toInt = -1 ∧ (ivy 12 21).toInt = -1 ∧ (ivy 12 22).toInt = -1)) (hq_now : ivx 11 10 = ivy 12 0) (hq_bales : ivx 0 7 = ivy 12 1) (hq_skeins : ivx 10 1 = ivy 12 3) (hq_rules : ivx 1 7 = ivy 12 23) (hq_text : ivx 8 2 = ivy 12 33) (hq_place : ivx 8 3 = ivy 12 36) (hq_papers : ivx 6 7 = ivy 12 67) (hrs : (∀ s : Nat, (s : Int) < (ivy 12 3).toInt → fax 10 0 (9 * s + 0) = fay 12 4 s ∧ fax 10 0 (9 * s + 1) = fay 12 5 s ∧ fax 10 0 (9 * s + 2) = fay 12 6 s ∧ fax 10 0 (9 * s + 3) = fay 12 7 s ∧ fax 10 0 (9 * s + 4) = fay 12 8 s ∧ fax 10 0 (9 * s + 5) = fay 12 9 s ∧ fax 10 0 (9 * s + 6) = fay 12 10 s ∧ fax 10 0 (9 * s + 7) = fay 12 11 s ∧ fax 10 0 (9 * s + 8) = fay 12 12 s)) (hls : (∀ j : Nat, -1 ≤ (fay 12 12 j).toInt)) (hwd : (∀ s : Nat, (s : Int) < (ivy 12 3).toInt → (100 ≤ (fay 12 7 s).toInt ∧ (fay 12 7 s).toInt ≤ 9999) ∧ (50 ≤ (fay 12 8 s).toInt ∧ (fay 12 8 s).toInt ≤ 9999))) (htx : (∀ j : Nat, (fax 8 1 j).toInt = sg (fay 12 32 j).toInt ∧ 0 ≤ (fay 12 32 j).toInt)) (hbk : BkE (ivy 12 23).toInt (fax 1 0) (fax 1 1) (fax 1 2) (fax 1 3) (fax 1 4) (fax 1 5) (fay 12 24) (fay 12 25) (fay 12 26) (fay 12 27) (fay 12 28) (fay 12 29) (fay 12 30) (fay 12 31)) (hgr : (∀ j : Nat, fax 0 0 j = fay 12 2 j)) (hgb : (∀ j : Nat, (j : Int) < (ivx 0 7).toInt → 1 ≤ (fax 0 0 j).toInt ∧ (fax 0 0 j).toInt ≤ 99999)) (hpa : PaE (ivy 12 67).toInt (fax 6 0) (fax 6 1) (fax 6 2) (fax 6 3) (fax 6 4) (fax 6 5) (fay 12 68) (fay 12 69) (lay 12 70) (fay 12 71) (fay 12 72) (fay 12 73)) (hdr : (∀ s : Nat, (s : Int) < (ivy 12 3).toInt → (fay 12 8 s).toInt ≤ (fay 12 7 s).toInt)) (hPx : va_P (dC, dI) classes (WX x gx cax ivx lvx fax lax) H) (hDx : va_D A (WX x gx cax ivx lvx fax lax)) (hPy : va_P (dC, dI) classes (WM y gy cay ivy lvy fay lay) H) (hDy : va_D A (WM y gy cay ivy lvy fay lay)) (hS : va_S A s.heap H locs) {i : Int32} {ls : Array Slot} (hl : lv_has ls 4 [(3, .int i), (2, .ref y), (1, .ref x), (0, .ref b)]) (hi : 0 ≤ i.toInt ∧ i.toInt ≤ 4088) (hi8 : i.toInt + 8 ≤ (L : Int)) (kk : ∀ (H : Heap) (locs : List Loc) (ivx : Nat → Nat → Int32) (lvx : Nat → Nat → Int64) (fax : Nat → Nat → Nat → Int32) (lax : Nat → Nat → Nat → Int64) (ivy : Nat → Nat → Int32) (lvy : Nat → Nat → Int64) (fay : Nat → Nat → Nat → Int32) (lay : Nat → Nat → Nat → Int64), IX ivx fax → IX ivy fay → JCf (ivy 12 23).toInt (fay 12 25) (fay 12 26) (fay 12 27) (fay 12 28) → JRf (ivy 12 3).toInt (fay 12 7) → JNf (ivy 12 3).toInt (fay 12 4) (fay 12 5) → ((ivy 12 20).toInt = -1 ∧ (ivy 12 21).toInt = -1 ∧ (ivy 12 22).toInt = -1) → ivx 11 10 = ivy 12 0 → ivx 0 7 = ivy 12 1 → ivx 10 1 = ivy 12 3 → ivx 1 7 = ivy 12 23 → ivx 8 2 = ivy 12 33 → ivx 8 3 = ivy 12 36 → ivx 6 7 = ivy 12 67 → (∀ s : Nat, (s : Int) < (ivy 12 3).toInt → fax 10 0 (9 * s + 0) = fay 12 4 s ∧ fax 10 0 (9 * s + 1) = fay 12 5 s ∧ fax 10 0 (9 * s + 2) = fay 12 6 s ∧ fax 10 0 (9 * s + 3) = fay 12 7 s ∧ fax 10 0 (9 * s + 4) = fay 12 8 s ∧ fax 10 0 (9 * s + 5) = fay 12 9 s ∧ fax 10 0 (9 * s + 6) = fay 12 10 s ∧ fax 10 0 (9 * s + 7) = fay 12 11 s ∧ fax 10 0 (9 * s + 8) = fay 12 12 s) → (∀ j : Nat, -1 ≤ (fay 12 12 j).toInt) → (∀ s : Nat, (s : Int) < (ivy 12 3).toInt → (100 ≤ (fay 12 7 s).toInt ∧ (fay 12 7 s).toInt ≤ 9999) ∧ (50 ≤ (fay 12 8 s).toInt ∧ (fay 12 8 s).toInt ≤ 9999)) → (∀ j : Nat, (fax 8 1 j).toInt = sg (fay 12 32 j).toInt ∧ 0 ≤ (fay 12 32 j).toInt) → BkE (ivy 12 23).toInt (fax 1 0) (fax 1 1) (fax 1 2) (fax 1 3) (fax 1 4) (fax 1 5) (fay 12 24) (fay 12 25) (fay 12 26) (fay 12 27) (fay 12 28) (fay 12 29) (fay 12 30) (fay 12 31) → (∀ j : Nat, fax 0 0 j = fay 12 2 j) → (∀ j : Nat, (j : Int) < (ivx 0 7).toInt → 1 ≤ (fax 0 0 j).toInt ∧ (fax 0 0 j).toInt ≤ 99999) → PaE (ivy 12 67).toInt (fax 6 0) (fax 6 1) (fax 6 2) (fax 6 3) (fax 6 4) (fax 6 5) (fay 12 68) (fay 12 69) (lay 12 70) (fay 12 71) (fay 12 72) (fay 12 73) → (∀ s : Nat, (s : Int) < (ivy 12 3).toInt → (fay 12 8 s).toInt ≤ (fay 12 7 s).toInt) → va_P (dC, dI) classes (WX x gx cax ivx lvx fax lax) H → va_D A (WX x gx cax ivx lvx fax lax) → va_P (dC, dI) classes (WM y gy cay ivy lvy fay lay) H → va_D A (WM y gy cay ivy lvy fay lay) → va_S A s.heap H locs → W p l e room_1 s m #[Value.ref b] below meth c H locs 98 5431 (lw_Z below #[Value.ref b] s) (F0 m 1509 ls [])) : W p l e room_1 s m #[Value.ref b] below meth c H locs 98 5431 (lw_Z below #[Value.ref b] s) (F0 m 604 ls []) := by
  obtain ⟨hx, hb, hr, hml, hown, hts, hX, hbl, hlocks, hgv⟩ := id C0
  have ht := tb_of hts
  have hJD := hwd
  have hw8 := congrArg Int32.toInt hq_skeins
  have hJW : ∀ s : Nat, (s : Int) < (ivx 10 1).toInt → (100 ≤ (fax 10 0 (9 * s + 3)).toInt ∧ (fax 10 0 (9 * s + 3)).toInt ≤ 9999) ∧ (50 ≤ (fax 10 0 (9 * s + 4)).toInt ∧ (fax 10 0 (9 * s + 4)).toInt ≤ 9999) := fun s hs => by rw [(hrs s (by omega)).2.2.2.1, (hrs s (by omega)).2.2.2.2.1]; exact hwd s (by omega)
  have hw8r := congrArg Int32.toInt hq_rules
  have hJB : ∀ j : Nat, (j : Int) < (ivx 1 7).toInt → 0 ≤ (fax 1 0 j).toInt := fun j hj => (hbk j (by omega)).2.2.1
  have hJK : ∀ k j : Nat, (k : Int) < (ivy 12 23).toInt → 12 * k ≤ j → (j : Int) < 12 * (k : Int) + (fay 12 25 k).toInt → (fay 12 26 j).toInt = 3 → 0 ≤ (fay 12 28 j).toInt ∧ (fay 12 28 j).toInt < (k : Int) := bk_K hbk
  have hw8b := congrArg Int32.toInt hq_bales
  have hJF : ∀ a d v : Int, 0 ≤ a → a ≤ 5 → FoX (ivx 1 7).toInt (fax 1 0) (fax 1 1) (fax 1 2) (fax 1 3) a d v → fLo a ≤ v ∧ v ≤ fHi a := fun a d v h1 h2 x => by rw [hq_rules] at x; exact FoX_b hbk ⟨h1, h2⟩ x
  have hJH : ∀ a d v : Int, 0 ≤ a → a ≤ 5 → FoY (ivy 12 23).toInt (fay 12 24) (fay 12 25) (fay 12 26) (fay 12 27) (fay 12 28) a d v → fLo a ≤ v ∧ v ≤ fHi a := fun a d v h1 h2 x => FoY_b hbk ⟨h1, h2⟩ x
  have hJG := hgb
  have hJI : ∀ j : Nat, (j : Int) < (ivy 12 1).toInt → 1 ≤ (fay 12 2 j).toInt ∧ (fay 12 2 j).toInt ≤ 99999 := fun j hj => by rw [← hgr j]; exact hgb j (by omega)
  have hJL : ∀ b l : Int32, cn0 (fun s => fax 10 0 (9 * s + 0)) (fun s => fax 10 0 (9 * s + 1)) b l (ivx 10 1).toInt.toNat ≤ 12 := fun b l => by rw [hq_skeins, cn0_congr (ob := fay 12 4) (ol := fay 12 5) _ (fun j hj => ⟨(hrs j (by omega)).1, (hrs j (by omega)).2.1⟩)]; exact hJN b l
  have hw8p := congrArg Int32.toInt hq_papers
  have hJQ : ∀ p : Nat, (p : Int) < (ivy 12 67).toInt → 0 ≤ (lay 12 70 p).toInt ∧ ((fay 12 68 p).toInt = 0 → (lay 12 70 p).toInt ≤ 129998) ∧ (lay 12 70 p).toInt ≤ 129868002 ∧ -1 ≤ (fay 12 71 p).toInt ∧ (fay 12 71 p).toInt < (p : Int) := fun p hp => ⟨(hpa p hp).2.2.1, (hpa p hp).2.2.2.1, (hpa p hp).2.2.2.2.1, (hpa p hp).2.2.2.2.2.1, (hpa p hp).2.2.2.2.2.2.1⟩
  have hJP : ∀ p : Nat, (p : Int) < (ivx 6 7).toInt → 0 ≤ (fax 6 2 p).toInt ∧ ((fax 6 0 p).toInt = 0 → (fax 6 2 p).toInt ≤ 129998) ∧ (fax 6 2 p).toInt ≤ 129868002 ∧ -1 ≤ (fax 6 3 p).toInt ∧ (fax 6 3 p).toInt < (p : Int) := fun p hp => by rw [(hpa p (by omega)).1.1, (hpa p (by omega)).1.2.2.1, (hpa p (by omega)).1.2.2.2.1]; exact hJQ p (by omega)
  have hJS : ∀ s : Nat, (s : Int) < (ivx 10 1).toInt → (fax 10 0 (9 * s + 4)).toInt ≤ (fax 10 0 (9 * s + 3)).toInt := fun s hs => by rw [(hrs s (by omega)).2.2.2.1, (hrs s (by omega)).2.2.2.2.1]; exact hdr s (by omega)
  have hJT : ∀ j : Nat, 0 ≤ (fay 12 32 j).toInt := fun j => (htx j).2
  refine lv_aload_n hx hb dL_law_604 rfl (lv_at hl 2 rfl) ?_
  refine aw_iconst (v := 1) hx hb hX hbl hbA hS hl hi hi8 (by decide) ⟨by decide, by decide⟩ dL_law_605 dL_law_606 dL_law_607 dL_law_608 dL_law_609 (fun v1 ev1 v2 ev2 => ?_)
  have hFc := free_all hDx hS hA
  refine va_calli (va_runV (As := [.int v2]) (rest := []) ⟨hx, hb, hml, hown, ht⟩ (c_X11_rule_r l dC dI H.size ak av x gx cax ivx lvx fax lax hIx v2) (kV 1 ht m_676 m_677 m_678 m_77 m_679 rfl rfl hd_X11_rule_v ⟨Nat.le_of_ble_eq_true rfl, Nat.le_of_ble_eq_true rfl⟩) (vWZ hPx hKx hDx ((hZ.kept hS.2.1).narrow (free_all hDx hS hA)) (rX_11 hKx hPx)) rfl rfl hl.1 rfl (lv_room (Nat.le_of_ble_eq_true rfl)) dL_law_610 ⟨Nat.le_of_ble_eq_true rfl, Nat.le_of_ble_eq_true rfl⟩) hS (fun q _ h => hFc q h) hFc (fun r3 u t H1 locs ht9 hvm hr3 hB hz1 hk1 hS => ?_)
  obtain ⟨n4, n5, n6, n7, n8, n9, n10, n11, n12, n13, n14, n15, hn5, hn10, hn11, hn12, hn13, hn14, hn15, xr3_0, xr3_1, xr3_2, xr3_3, hr3, rfl⟩ := hr3
  obtain ⟨hPx, hDx⟩ := hB
  rw [ht9] at hPx
  have hPy := P_kept hPy (la := AdM y gy) (lb := AdX x gx) wmM wmX (fun a ha b hb => (hXY b hb a ha).symm) hk1
  generalize H1 = H at hPx hPy hS ⊢
  have hPx : va_P (dC, dI) classes (WX x gx cax (u2 (u2 (u2 (u2 (u2 (u2 ivx 1 7 n10) 1 8 n11) 8 2 n12) 8 3 n13) 8 4 n14) 8 5 n15) lvx (u2 (u2 (u2 (u2 (u2 (u2 fax 1 0 n4) 1 1 n5) 1 2 n6) 1 3 n7) 1 4 n8) 1 5 n9) lax) H := hPx
  have hDx : va_D A (WX x gx cax (u2 (u2 (u2 (u2 (u2 (u2 ivx 1 7 n10) 1 8 n11) 8 2 n12) 8 3 n13) 8 4 n14) 8 5 n15) lvx (u2 (u2 (u2 (u2 (u2 (u2 fax 1 0 n4) 1 1 n5) 1 2 n6) 1 3 n7) 1 4 n8) 1 5 n9) lax) := (show va_D _ (WX x gx cax (u2 (u2 (u2 (u2 (u2 (u2 ivx 1 7 n10) 1 8 n11) 8 2 n12) 8 3 n13) 8 4 n14) 8 5 n15) lvx (u2 (u2 (u2 (u2 (u2 (u2 fax 1 0 n4) 1 1 n5) 1 2 n6) 1 3 n7) 1 4 n8) 1 5 n9) lax) from hDx).weaken (fun _ _ _ h => hFc _ h)
  refine lv_pop hx hb dL_law_613 rfl ?_
  refine lv_aload_n hx hb dL_law_614 rfl (lv_at hl 1 rfl) ?_
  refine aw_iconst (v := 1) hx hb hX hbl hbA hS hl hi hi8 (by decide) ⟨by decide, by decide⟩ dL_law_615 dL_law_616 dL_law_617 dL_law_618 dL_law_619 (fun v16 ev16 v17 ev17 => ?_)
  have hFc := free_all hDy hS hA
  refine va_calli (va_runV (As := [.int v17]) (rest := []) ⟨hx, hb, hml, hown, ht⟩ (c_X12_rule_r l dC dI H.size y gy cay ivy lvy fay lay hIy v17 hJC hJT) (kV 1 ht m_1454 m_1455 m_1456 m_89 m_1457 rfl rfl hd_X12_rule_v ⟨Nat.le_of_ble_eq_true rfl, Nat.le_of_ble_eq_true rfl⟩) (vW hPy hKy hDy (rM_12 hKy hPy)) rfl rfl hl.1 rfl (lv_room (Nat.le_of_ble_eq_true rfl)) dL_law_620 ⟨Nat.le_of_ble_eq_true rfl, Nat.le_of_ble_eq_true rfl⟩) hS (fun q _ h => hFc q h) hFc (fun r18 u t H1 locs ht9 hvm hr18 hB hz1 hk1 hS => ?_)
  obtain ⟨n19, n20, n21, n22, n23, n24, n25, n26, n27, n28, n29, n30, n31, n32, n33, hn20, hn25, hn27, hn28, hn29, hn30, hn32, hn33, xr18_0, xr18_1, xr18_2, xr18_3, xr18_4, hr18, rfl⟩ := hr18
  obtain ⟨hPy, hDy⟩ := hB
  rw [ht9] at hPy
  have hPx := P_kept hPx (la := AdX x gx) (lb := AdM y gy) wmX wmM hXY hk1
  generalize H1 = H at hPx hPy hS ⊢
  have hPy : va_P (dC, dI) classes (WM y gy cay (u2 (u2 (u2 (u2 (u2 (u2 (u2 ivy 12 23 n27) 12 33 n28) 12 34 n29) 12 35 n30) 12 36 n31) 12 37 n32) 12 38 n33) lvy (u2 (u2 (u2 (u2 (u2 (u2 (u2 (u2 fay 12 24 n19) 12 25 n20) 12 26 n21) 12 27 n22) 12 28 n23) 12 29 n24) 12 30 n25) 12 31 n26) lay) H := hPy
  have hDy : va_D A (WM y gy cay (u2 (u2 (u2 (u2 (u2 (u2 (u2 ivy 12 23 n27) 12 33 n28) 12 34 n29) 12 35 n30) 12 36 n31) 12 37 n32) 12 38 n33) lvy (u2 (u2 (u2 (u2 (u2 (u2 (u2 (u2 fay 12 24 n19) 12 25 n20) 12 26 n21) 12 27 n22) 12 28 n23) 12 29 n24) 12 30 n25) 12 31 n26) lay) := (show va_D _ (WM y gy cay (u2 (u2 (u2 (u2 (u2 (u2 (u2 ivy 12 23 n27) 12 33 n28) 12 34 n29) 12 35 n30) 12 36 n31) 12 37 n32) 12 38 n33) lvy (u2 (u2 (u2 (u2 (u2 (u2 (u2 (u2 fay 12 24 n19) 12 25 n20) 12 26 n21) 12 27 n22) 12 28 n23) 12 29 n24) 12 30 n25) 12 31 n26) lay) from hDy).weaken (fun _ _ _ h => hFc _ h)
  have hv9_0 : (v2 : Int32) = v17 := by rw [ev2, ev17, ev1, ev16]
  have hu9_0 := congrArg Int32.toInt hv9_0
  have hw9_now := congrArg Int32.toInt hq_now
  have hw9_bales := congrArg Int32.toInt hq_bales
  have hw9_skeins := congrArg Int32.toInt hq_skeins
  have hw9_rules := congrArg Int32.toInt hq_rules
  have hw9_text := congrArg Int32.toInt hq_text
  have hw9_place := congrArg Int32.toInt hq_place
  have hw9_papers := congrArg Int32.toInt hq_papers
  have y9x_0 : ((r3.toInt = -100002 ∧ ¬ (0 ≤ (v2 : Int32).toInt ∧ (v2 : Int32).toInt ≤ 3000) ∧ n12.toInt = (ivx 8 2).toInt ∧ n10.toInt = (ivx 1 7).toInt ∧ n13.toInt = (ivx 8 3).toInt) ∨ (r3.toInt = -100004 ∧ (0 ≤ (v2 : Int32).toInt ∧ (v2 : Int32).toInt ≤ 3000) ∧ 8 ≤ (ivx 1 7).toInt ∧ n12.toInt = (ivx 8 2).toInt ∧ n10.toInt = (ivx 1 7).toInt ∧ n13.toInt = (ivx 8 3).toInt) ∨ ((0 ≤ (v2 : Int32).toInt ∧ (v2 : Int32).toInt ≤ 3000) ∧ (ivx 1 7).toInt < 8 ∧ n12.toInt = 0 ∧ (n14.toInt ≠ 0 ∨ n13.toInt = -1) ∧ (∃ c : Nat, Out (fun j => ((fax 8 1) j).toInt) (ivx 8 2).toInt (ivx 1 7).toInt n14.toInt n13.toInt c (fun i => (n6 (12 * ((ivx 1 7).toInt).toNat + i)).toInt) (fun i => (n7 (12 * ((ivx 1 7).toInt).toNat + i)).toInt) (fun i => (n8 (12 * ((ivx 1 7).toInt).toNat + i)).toInt) (fun i j => (n9 (8 * (12 * ((ivx 1 7).toInt).toNat + i) + j)).toInt) ∧ (n14.toInt ≠ 0 ∨ ((n5 ((ivx 1 7).toInt).toNat).toInt = (c : Int) ∧ n4 ((ivx 1 7).toInt).toNat = (v2 : Int32)))) ∧ ((n14.toInt = 0 ∧ r3.toInt = (ivx 1 7).toInt ∧ n10.toInt = (ivx 1 7).toInt + 1) ∨ (n14.toInt ≠ 0 ∧ r3.toInt = -10 - n14.toInt ∧ n10.toInt = (ivx 1 7).toInt)))) := xr3_0
  have y9x_1 : ∀ j : Nat, (j : Int) < 12 * (ivx 1 7).toInt → n6 j = (fax 1 2) j ∧ n7 j = (fax 1 3) j ∧ n8 j = (fax 1 4) j := xr3_1
  have y9x_2 : ∀ j : Nat, (j : Int) < 96 * (ivx 1 7).toInt → n9 j = (fax 1 5) j := xr3_2
  have y9x_3 : ∀ j : Nat, j ≠ ((ivx 1 7).toInt).toNat → n4 j = (fax 1 0) j ∧ n5 j = (fax 1 1) j := xr3_3
  have y9y_0 : JCf n27.toInt n20 n21 n22 n23 := xr18_0
  have y9y_1 : ((r18.toInt = -100002 ∧ ¬ (0 ≤ (v17 : Int32).toInt ∧ (v17 : Int32).toInt ≤ 3000) ∧ n28.toInt = (ivy 12 33).toInt ∧ n27.toInt = (ivy 12 23).toInt ∧ n31.toInt = (ivy 12 36).toInt) ∨ (r18.toInt = -100004 ∧ (0 ≤ (v17 : Int32).toInt ∧ (v17 : Int32).toInt ≤ 3000) ∧ 8 ≤ (ivy 12 23).toInt ∧ n28.toInt = (ivy 12 33).toInt ∧ n27.toInt = (ivy 12 23).toInt ∧ n31.toInt = (ivy 12 36).toInt) ∨ ((0 ≤ (v17 : Int32).toInt ∧ (v17 : Int32).toInt ≤ 3000) ∧ (ivy 12 23).toInt < 8 ∧ n28.toInt = 0 ∧ (n30.toInt ≠ 0 ∨ n31.toInt = -1) ∧ (∃ c : Nat, Out (fun j => sg ((fay 12 32) j).toInt) (ivy 12 33).toInt (ivy 12 23).toInt n30.toInt n31.toInt c (fun i => if (n21 (12 * ((ivy 12 23).toInt).toNat + i)).toInt = 0 then (n22 (12 * ((ivy 12 23).toInt).toNat + i)).toInt else (n21 (12 * ((ivy 12 23).toInt).toNat + i)).toInt + 4) (fun i => (n23 (12 * ((ivy 12 23).toInt).toNat + i)).toInt) (fun i => (n24 (12 * ((ivy 12 23).toInt).toNat + i)).toInt) (fun i j => if (j : Int) < (n25 (12 * ((ivy 12 23).toInt).toNat + i)).toInt then (n26 (8 * (12 * ((ivy 12 23).toInt).toNat + i) + j)).toInt else 0) ∧ (n30.toInt ≠ 0 ∨ ((n20 ((ivy 12 23).toInt).toNat).toInt = (c : Int) ∧ n19 ((ivy 12 23).toInt).toNat = (v17 : Int32) ∧ (∀ j : Nat, 12 * (ivy 12 23).toInt ≤ (j : Int) → (j : Int) < 12 * (ivy 12 23).toInt + (c : Int) → gk (n21 j) (n22 j))))) ∧ ((n30.toInt = 0 ∧ r18.toInt = (ivy 12 23).toInt ∧ n27.toInt = (ivy 12 23).toInt + 1) ∨ (n30.toInt ≠ 0 ∧ r18.toInt = -10 - n30.toInt ∧ n27.toInt = (ivy 12 23).toInt)))) := xr18_1
  have y9y_2 : ∀ j : Nat, (j : Int) < 12 * (ivy 12 23).toInt → n21 j = (fay 12 26) j ∧ n22 j = (fay 12 27) j ∧ n23 j = (fay 12 28) j ∧ n24 j = (fay 12 29) j ∧ n25 j = (fay 12 30) j := xr18_2
  have y9y_3 : ∀ j : Nat, (j : Int) < 96 * (ivy 12 23).toInt → n26 j = (fay 12 31) j := xr18_3
  have y9y_4 : ∀ j : Nat, j ≠ ((ivy 12 23).toInt).toNat → n19 j = (fay 12 24) j ∧ n20 j = (fay 12 25) j := xr18_4
  have hT9 : (fun j => (fax 8 1 j).toInt) = (fun j => sg (fay 12 32 j).toInt) := funext (fun j => (htx j).1)
  have hz9 : (r3 : Int32).toInt = (r18 : Int32).toInt ∧ (ivx 11 10).toInt = (ivy 12 0).toInt ∧ (ivx 0 7).toInt = (ivy 12 1).toInt ∧ (ivx 10 1).toInt = (ivy 12 3).toInt ∧ (n10 : Int32).toInt = (n27 : Int32).toInt ∧ (n12 : Int32).toInt = (n28 : Int32).toInt ∧ (n13 : Int32).toInt = (n31 : Int32).toInt ∧ (ivx 6 7).toInt = (ivy 12 67).toInt := by
    rcases y9x_0 with za | za | ⟨za1, za2, za3, za4, ⟨zca, za5, -⟩, za6⟩
    · rcases y9y_1 with zb | zb | ⟨zb1, zb2, -⟩
      · exact ⟨by omega, by omega, by omega, by omega⟩
      · exfalso; omega
      · exfalso; omega
    · rcases y9y_1 with zb | zb | ⟨zb1, zb2, -⟩
      · exfalso; omega
      · exact ⟨by omega, by omega, by omega, by omega⟩
      · exfalso; omega
    · rcases y9y_1 with zb | zb | ⟨zb1, zb2, zb3, zb4, ⟨zcb, zb5, -⟩, zb6⟩
      · exfalso; omega
      · exfalso; omega
      · rw [hT9, hw9_text, hw9_rules] at za5
        have zu := Out_un za5 zb5
        have zu1 := zu.2.1
        have zu2 := zu.2.2.1
        clear za5 zb5 zu
        exact ⟨by omega, by omega, by omega, by omega⟩
  have hr8 := hz9.1
  have hcx9 : ∀ j : Nat, (fax 1 1 j).toInt ≤ 12 := fun j => (show 0 ≤ (fax 1 1 j).toInt ∧ (fax 1 1 j).toInt ≤ 12 from hIx.2 1 1 j).2
  have hr7 : 0 ≤ (ivy 12 23).toInt ∧ (ivy 12 23).toInt ≤ 8 := hIy.1 12 23
  rw [hw9_rules] at y9x_1 y9x_2 y9x_3
  have hk9 : BkE (ivy 12 23).toInt n4 n5 n6 n7 n8 n9 n19 n20 n21 n22 n23 n24 n25 n26 := BkE_keep hr7.1 hbk hcx9 y9x_3 y9y_4 y9x_1 y9x_2 y9y_2 y9y_3
  have hbn : BkE (n27 : Int32).toInt n4 n5 n6 n7 n8 n9 n19 n20 n21 n22 n23 n24 n25 n26 := by
    rcases y9x_0 with za | za | ⟨za1, za2, za3, za4, ⟨zca, za5, za7⟩, za6⟩
    · rw [show (n27 : Int32).toInt = (ivy 12 23).toInt from by omega]; exact hk9
    · rw [show (n27 : Int32).toInt = (ivy 12 23).toInt from by omega]; exact hk9
    · rcases y9y_1 with zb | zb | ⟨zb1, zb2, zb3, zb4, ⟨zcb, zb5, zb7⟩, zb6⟩
      · rw [show (n27 : Int32).toInt = (ivy 12 23).toInt from by omega]; exact hk9
      · rw [show (n27 : Int32).toInt = (ivy 12 23).toInt from by omega]; exact hk9
      · rw [hT9, hw9_text, hw9_rules] at za5
        have zu := (Out_un za5 zb5).2.1
        rcases zb6 with ⟨zs1, zs2, zs3⟩ | ⟨zs1, zs2, zs3⟩
        · rw [zu, zs1] at za5
          rw [zs1] at zb5
          obtain ⟨zc1, zc2⟩ := za7.resolve_left (fun q => by omega)
          obtain ⟨zd1, zd2, zd3⟩ := zb7.resolve_left (fun q => by omega)
          rw [hw9_rules] at zc1 zc2
          have hs9 := BkE_add hr7.1 hbk hcx9 y9x_3 y9x_1 y9x_2 y9y_4 y9y_2 y9y_3 (by rw [zc2, zd2]; exact hv9_0) (by rw [zc2]; exact za1) zc1 zd1 zd3 za5 zb5
          rw [show (n27 : Int32).toInt = (ivy 12 23).toInt + 1 from by omega]; exact hs9
        · rw [show (n27 : Int32).toInt = (ivy 12 23).toInt from by omega]; exact hk9
  refine lv_pop hx hb dL_law_623 rfl ?_
  refine lv_goto (tgt := 1509) hx hb dL_law_624 (by decide) ?_
  exact kk _ _ (u2 (u2 (u2 (u2 (u2 (u2 ivx 1 7 n10) 1 8 n11) 8 2 n12) 8 3 n13) 8 4 n14) 8 5 n15) lvx (u2 (u2 (u2 (u2 (u2 (u2 fax 1 0 n4) 1 1 n5) 1 2 n6) 1 3 n7) 1 4 n8) 1 5 n9) lax (u2 (u2 (u2 (u2 (u2 (u2 (u2 ivy 12 23 n27) 12 33 n28) 12 34 n29) 12 35 n30) 12 36 n31) 12 37 n32) 12 38 n33) lvy (u2 (u2 (u2 (u2 (u2 (u2 (u2 (u2 fay 12 24 n19) 12 25 n20) 12 26 n21) 12 27 n22) 12 28 n23) 12 29 n24) 12 30 n25) 12 31 n26) lay (IX_a (c := 1) (k := 5) (IX_a (c := 1) (k := 4) (IX_a (c := 1) (k := 3) (IX_a (c := 1) (k := 2) (IX_a (c := 1) (k := 1) (IX_a (c := 1) (k := 0) (IX_i (c := 8) (k := 5) (IX_i (c := 8) (k := 4) (IX_i (c := 8) (k := 3) (IX_i (c := 8) (k := 2) (IX_i (c := 1) (k := 8) (IX_i (c := 1) (k := 7) hIx hn10) hn11) hn12) hn13) hn14) hn15) (fun j => full_i _)) hn5) (fun j => full_i _)) (fun j => full_i _)) (fun j => full_i _)) (fun j => full_i _)) (IX_a (c := 12) (k := 31) (IX_a (c := 12) (k := 30) (IX_a (c := 12) (k := 29) (IX_a (c := 12) (k := 28) (IX_a (c := 12) (k := 27) (IX_a (c := 12) (k := 26) (IX_a (c := 12) (k := 25) (IX_a (c := 12) (k := 24) (IX_i (c := 12) (k := 38) (IX_i (c := 12) (k := 37) (IX_i (c := 12) (k := 36) (IX_i (c := 12) (k := 35) (IX_i (c := 12) (k := 34) (IX_i (c := 12) (k := 33) (IX_i (c := 12) (k := 23) hIy hn27) hn28) hn29) hn30) (full_i _)) hn32) hn33) (fun j => full_i _)) hn20) (fun j => full_i _)) (fun j => full_i _)) (fun j => full_i _)) (fun j => full_i _)) hn25) (fun j => full_i _)) xr18_0 hJR hJN hJO hq_now hq_bales hq_skeins (show (n10 : Int32) = n27 from Int32.toInt_inj.mp (by omega)) (show (n12 : Int32) = n28 from Int32.toInt_inj.mp (by omega)) (show (n13 : Int32) = n31 from Int32.toInt_inj.mp (by omega)) hq_papers hrs hls hwd htx hbn hgr hgb hpa hdr hPx hDx hPy hDy hS
set_option maxHeartbeats 4000000 in
set_option maxRecDepth 100000 in
theorem law_11 {p : Program} {e : Env} {s : State} {m : MethodId} {below : List Frame} {meth : Method} {c : Code} (l : Launch) {b L : Nat} {xs : Nat → Int32} (hL : L ≤ 4096) (C0 : lw_At p s m meth c b L xs) {dC : Nat → ClassId} {dI : Nat → Nat → Nat} {A : Nat → Prop} (hA : ∀ q : Nat, s.heap.size ≤ q → A q) (hbA : ¬ A b) (hAs : ∀ q : Nat, A q → s.heap.size ≤ q) {x y : Nat} {gx gy : Nat → Nat → Nat} {cax cay : Nat → Nat → ClassId} {ak av : Nat → Nat} (hKx : va_K (dC, dI) classes (TX cax) s) (hKy : va_K (dC, dI) classes (TM cay) s) (hXY : ∀ a ∈ AdX x gx, ∀ b ∈ AdM y gy, a ≠ b) (hZ : zC ak av A s s.heap) {H : Heap} {locs : List Loc} {ivx : Nat → Nat → Int32} {lvx : Nat → Nat → Int64} {fax : Nat → Nat → Nat → Int32} {lax : Nat → Nat → Nat → Int64} {ivy : Nat → Nat → Int32} {lvy : Nat → Nat → Int64} {fay : Nat → Nat → Nat → Int32} {lay : Nat → Nat → Nat → Int64} (hIx : IX ivx fax) (hIy : IX ivy fay) (hJC : JCf (ivy 12 23).toInt (fay 12 25) (fay 12 26) (fay 12 27) (fay 12 28)) (hJR : JRf (ivy 12 3).toInt (fay 12 7)) (hJN : JNf (ivy 12 3).toInt (fay 12 4) (fay 12 5)) (hJO : ((ivy 12 20).toInt = -1 ∧ (ivy 12 21).toInt = -1 ∧ (ivy 12 22).toInt = -1)) (hq_now : ivx 11 10 = ivy 12 0) (hq_bales : ivx 0 7 = ivy 12 1) (hq_skeins : ivx 10 1 = ivy 12 3) (hq_rules : ivx 1 7 = ivy 12 23) (hq_text : ivx 8 2 = ivy 12 33) (hq_place : ivx 8 3 = ivy 12 36) (hq_papers : ivx 6 7 = ivy 12 67) (hrs : (∀ s : Nat, (s : Int) < (ivy 12 3).toInt → fax 10 0 (9 * s + 0) = fay 12 4 s ∧ fax 10 0 (9 * s + 1) = fay 12 5 s ∧ fax 10 0 (9 * s + 2) = fay 12 6 s ∧ fax 10 0 (9 * s + 3) = fay 12 7 s ∧ fax 10 0 (9 * s + 4) = fay 12 8 s ∧ fax 10 0 (9 * s + 5) = fay 12 9 s ∧ fax 10 0 (9 * s + 6) = fay 12 10 s ∧ fax 10 0 (9 * s + 7) = fay 12 11 s ∧ fax 10 0 (9 * s + 8) = fay 12 12 s)) (hls : (∀ j : Nat, -1 ≤ (fay 12 12 j).toInt)) (hwd : (∀ s : Nat, (s : Int) < (ivy 12 3).toInt → (100 ≤ (fay 12 7 s).toInt ∧ (fay 12 7 s).toInt ≤ 9999) ∧ (50 ≤ (fay 12 8 s).toInt ∧ (fay 12 8 s).toInt ≤ 9999))) (htx : (∀ j : Nat, (fax 8 1 j).toInt = sg (fay 12 32 j).toInt ∧ 0 ≤ (fay 12 32 j).toInt)) (hbk : BkE (ivy 12 23).toInt (fax 1 0) (fax 1 1) (fax 1 2) (fax 1 3) (fax 1 4) (fax 1 5) (fay 12 24) (fay 12 25) (fay 12 26) (fay 12 27) (fay 12 28) (fay 12 29) (fay 12 30) (fay 12 31)) (hgr : (∀ j : Nat, fax 0 0 j = fay 12 2 j)) (hgb : (∀ j : Nat, (j : Int) < (ivx 0 7).toInt → 1 ≤ (fax 0 0 j).toInt ∧ (fax 0 0 j).toInt ≤ 99999)) (hpa : PaE (ivy 12 67).toInt (fax 6 0) (fax 6 1) (fax 6 2) (fax 6 3) (fax 6 4) (fax 6 5) (fay 12 68) (fay 12 69) (lay 12 70) (fay 12 71) (fay 12 72) (fay 12 73)) (hdr : (∀ s : Nat, (s : Int) < (ivy 12 3).toInt → (fay 12 8 s).toInt ≤ (fay 12 7 s).toInt)) (hPx : va_P (dC, dI) classes (WX x gx cax ivx lvx fax lax) H) (hDx : va_D A (WX x gx cax ivx lvx fax lax)) (hPy : va_P (dC, dI) classes (WM y gy cay ivy lvy fay lay) H) (hDy : va_D A (WM y gy cay ivy lvy fay lay)) (hS : va_S A s.heap H locs) {i : Int32} {ls : Array Slot} (hl : lv_has ls 4 [(3, .int i), (2, .ref y), (1, .ref x), (0, .ref b)]) (hi : 0 ≤ i.toInt ∧ i.toInt ≤ 4088) (hi8 : i.toInt + 8 ≤ (L : Int)) (kk : ∀ (H : Heap) (locs : List Loc) (ivx : Nat → Nat → Int32) (lvx : Nat → Nat → Int64) (fax : Nat → Nat → Nat → Int32) (lax : Nat → Nat → Nat → Int64) (ivy : Nat → Nat → Int32) (lvy : Nat → Nat → Int64) (fay : Nat → Nat → Nat → Int32) (lay : Nat → Nat → Nat → Int64), IX ivx fax → IX ivy fay → JCf (ivy 12 23).toInt (fay 12 25) (fay 12 26) (fay 12 27) (fay 12 28) → JRf (ivy 12 3).toInt (fay 12 7) → JNf (ivy 12 3).toInt (fay 12 4) (fay 12 5) → ((ivy 12 20).toInt = -1 ∧ (ivy 12 21).toInt = -1 ∧ (ivy 12 22).toInt = -1) → ivx 11 10 = ivy 12 0 → ivx 0 7 = ivy 12 1 → ivx 10 1 = ivy 12 3 → ivx 1 7 = ivy 12 23 → ivx 8 2 = ivy 12 33 → ivx 8 3 = ivy 12 36 → ivx 6 7 = ivy 12 67 → (∀ s : Nat, (s : Int) < (ivy 12 3).toInt → fax 10 0 (9 * s + 0) = fay 12 4 s ∧ fax 10 0 (9 * s + 1) = fay 12 5 s ∧ fax 10 0 (9 * s + 2) = fay 12 6 s ∧ fax 10 0 (9 * s + 3) = fay 12 7 s ∧ fax 10 0 (9 * s + 4) = fay 12 8 s ∧ fax 10 0 (9 * s + 5) = fay 12 9 s ∧ fax 10 0 (9 * s + 6) = fay 12 10 s ∧ fax 10 0 (9 * s + 7) = fay 12 11 s ∧ fax 10 0 (9 * s + 8) = fay 12 12 s) → (∀ j : Nat, -1 ≤ (fay 12 12 j).toInt) → (∀ s : Nat, (s : Int) < (ivy 12 3).toInt → (100 ≤ (fay 12 7 s).toInt ∧ (fay 12 7 s).toInt ≤ 9999) ∧ (50 ≤ (fay 12 8 s).toInt ∧ (fay 12 8 s).toInt ≤ 9999)) → (∀ j : Nat, (fax 8 1 j).toInt = sg (fay 12 32 j).toInt ∧ 0 ≤ (fay 12 32 j).toInt) → BkE (ivy 12 23).toInt (fax 1 0) (fax 1 1) (fax 1 2) (fax 1 3) (fax 1 4) (fax 1 5) (fay 12 24) (fay 12 25) (fay 12 26) (fay 12 27) (fay 12 28) (fay 12 29) (fay 12 30) (fay 12 31) → (∀ j : Nat, fax 0 0 j = fay 12 2 j) → (∀ j : Nat, (j : Int) < (ivx 0 7).toInt → 1 ≤ (fax 0 0 j).toInt ∧ (fax 0 0 j).toInt ≤ 99999) → PaE (ivy 12 67).toInt (fax 6 0) (fax 6 1) (fax 6 2) (fax 6 3) (fax 6 4) (fax 6 5) (fay 12 68) (fay 12 69) (lay 12 70) (fay 12 71) (fay 12 72) (fay 12 73) → (∀ s : Nat, (s : Int) < (ivy 12 3).toInt → (fay 12 8 s).toInt ≤ (fay 12 7 s).toInt) → va_P (dC, dI) classes (WX x gx cax ivx lvx fax lax) H → va_D A (WX x gx cax ivx lvx fax lax) → va_P (dC, dI) classes (WM y gy cay ivy lvy fay lay) H → va_D A (WM y gy cay ivy lvy fay lay) → va_S A s.heap H locs → W p l e room_1 s m #[Value.ref b] below meth c H locs 98 5431 (lw_Z below #[Value.ref b] s) (F0 m 1509 ls [])) : W p l e room_1 s m #[Value.ref b] below meth c H locs 98 5431 (lw_Z below #[Value.ref b] s) (F0 m 627 ls []) := by
  obtain ⟨hx, hb, hr, hml, hown, hts, hX, hbl, hlocks, hgv⟩ := id C0
  have ht := tb_of hts
  have hJD := hwd
  have hw8 := congrArg Int32.toInt hq_skeins
  have hJW : ∀ s : Nat, (s : Int) < (ivx 10 1).toInt → (100 ≤ (fax 10 0 (9 * s + 3)).toInt ∧ (fax 10 0 (9 * s + 3)).toInt ≤ 9999) ∧ (50 ≤ (fax 10 0 (9 * s + 4)).toInt ∧ (fax 10 0 (9 * s + 4)).toInt ≤ 9999) := fun s hs => by rw [(hrs s (by omega)).2.2.2.1, (hrs s (by omega)).2.2.2.2.1]; exact hwd s (by omega)
  have hw8r := congrArg Int32.toInt hq_rules
  have hJB : ∀ j : Nat, (j : Int) < (ivx 1 7).toInt → 0 ≤ (fax 1 0 j).toInt := fun j hj => (hbk j (by omega)).2.2.1
  have hJK : ∀ k j : Nat, (k : Int) < (ivy 12 23).toInt → 12 * k ≤ j → (j : Int) < 12 * (k : Int) + (fay 12 25 k).toInt → (fay 12 26 j).toInt = 3 → 0 ≤ (fay 12 28 j).toInt ∧ (fay 12 28 j).toInt < (k : Int) := bk_K hbk
  have hw8b := congrArg Int32.toInt hq_bales
  have hJF : ∀ a d v : Int, 0 ≤ a → a ≤ 5 → FoX (ivx 1 7).toInt (fax 1 0) (fax 1 1) (fax 1 2) (fax 1 3) a d v → fLo a ≤ v ∧ v ≤ fHi a := fun a d v h1 h2 x => by rw [hq_rules] at x; exact FoX_b hbk ⟨h1, h2⟩ x
  have hJH : ∀ a d v : Int, 0 ≤ a → a ≤ 5 → FoY (ivy 12 23).toInt (fay 12 24) (fay 12 25) (fay 12 26) (fay 12 27) (fay 12 28) a d v → fLo a ≤ v ∧ v ≤ fHi a := fun a d v h1 h2 x => FoY_b hbk ⟨h1, h2⟩ x
  have hJG := hgb
  have hJI : ∀ j : Nat, (j : Int) < (ivy 12 1).toInt → 1 ≤ (fay 12 2 j).toInt ∧ (fay 12 2 j).toInt ≤ 99999 := fun j hj => by rw [← hgr j]; exact hgb j (by omega)
  have hJL : ∀ b l : Int32, cn0 (fun s => fax 10 0 (9 * s + 0)) (fun s => fax 10 0 (9 * s + 1)) b l (ivx 10 1).toInt.toNat ≤ 12 := fun b l => by rw [hq_skeins, cn0_congr (ob := fay 12 4) (ol := fay 12 5) _ (fun j hj => ⟨(hrs j (by omega)).1, (hrs j (by omega)).2.1⟩)]; exact hJN b l
  have hw8p := congrArg Int32.toInt hq_papers
  have hJQ : ∀ p : Nat, (p : Int) < (ivy 12 67).toInt → 0 ≤ (lay 12 70 p).toInt ∧ ((fay 12 68 p).toInt = 0 → (lay 12 70 p).toInt ≤ 129998) ∧ (lay 12 70 p).toInt ≤ 129868002 ∧ -1 ≤ (fay 12 71 p).toInt ∧ (fay 12 71 p).toInt < (p : Int) := fun p hp => ⟨(hpa p hp).2.2.1, (hpa p hp).2.2.2.1, (hpa p hp).2.2.2.2.1, (hpa p hp).2.2.2.2.2.1, (hpa p hp).2.2.2.2.2.2.1⟩
  have hJP : ∀ p : Nat, (p : Int) < (ivx 6 7).toInt → 0 ≤ (fax 6 2 p).toInt ∧ ((fax 6 0 p).toInt = 0 → (fax 6 2 p).toInt ≤ 129998) ∧ (fax 6 2 p).toInt ≤ 129868002 ∧ -1 ≤ (fax 6 3 p).toInt ∧ (fax 6 3 p).toInt < (p : Int) := fun p hp => by rw [(hpa p (by omega)).1.1, (hpa p (by omega)).1.2.2.1, (hpa p (by omega)).1.2.2.2.1]; exact hJQ p (by omega)
  have hJS : ∀ s : Nat, (s : Int) < (ivx 10 1).toInt → (fax 10 0 (9 * s + 4)).toInt ≤ (fax 10 0 (9 * s + 3)).toInt := fun s hs => by rw [(hrs s (by omega)).2.2.2.1, (hrs s (by omega)).2.2.2.2.1]; exact hdr s (by omega)
  have hJT : ∀ j : Nat, 0 ≤ (fay 12 32 j).toInt := fun j => (htx j).2
  refine lv_aload_n hx hb dL_law_627 rfl (lv_at hl 2 rfl) ?_
  refine vp_callSi (W.runV (As := []) (rest := []) ⟨hx, hb, hml, hown, ht⟩ (c_X11_fault_r l dC dI x gx cax ivx lvx fax lax hIx) (kV 0 ht m_809 m_810 m_811 m_77 m_812 rfl rfl hd_X11_fault_v ⟨Nat.le_of_ble_eq_true rfl, Nat.le_of_ble_eq_true rfl⟩) (vR hPx hKx (rX_11 hKx hPx)) rfl rfl hl.1 rfl (lv_room (Nat.le_of_ble_eq_true rfl)) dL_law_628 ⟨Nat.le_of_ble_eq_true rfl, Nat.le_of_ble_eq_true rfl⟩) (fun r1 hr1 => ?_)
  obtain ⟨hr1, xr1_0⟩ := hr1
  refine lv_pop hx hb dL_law_631 rfl ?_
  refine lv_aload_n hx hb dL_law_632 rfl (lv_at hl 1 rfl) ?_
  refine vp_callSi (W.runV (As := []) (rest := []) ⟨hx, hb, hml, hown, ht⟩ (c_X12_fault_r l dC dI y gy cay ivy lvy fay lay hIy) (kV 0 ht m_1500 m_1501 m_1502 m_89 m_1503 rfl rfl hd_X12_fault_v ⟨Nat.le_of_ble_eq_true rfl, Nat.le_of_ble_eq_true rfl⟩) (vR hPy hKy (rM_12 hKy hPy)) rfl rfl hl.1 rfl (lv_room (Nat.le_of_ble_eq_true rfl)) dL_law_633 ⟨Nat.le_of_ble_eq_true rfl, Nat.le_of_ble_eq_true rfl⟩) (fun r2 hr2 => ?_)
  obtain ⟨hr2, xr2_0⟩ := hr2
  have hw9_now := congrArg Int32.toInt hq_now
  have hw9_bales := congrArg Int32.toInt hq_bales
  have hw9_skeins := congrArg Int32.toInt hq_skeins
  have hw9_rules := congrArg Int32.toInt hq_rules
  have hw9_text := congrArg Int32.toInt hq_text
  have hw9_place := congrArg Int32.toInt hq_place
  have hw9_papers := congrArg Int32.toInt hq_papers
  have y9x_0 : r1.toInt = (ivx 8 3).toInt := xr1_0
  have y9y_0 : r2.toInt = (ivy 12 36).toInt := xr2_0
  have hr8 : (r1 : Int32).toInt = (r2 : Int32).toInt := by omega
  refine lv_pop hx hb dL_law_636 rfl ?_
  refine lv_goto (tgt := 1509) hx hb dL_law_637 (by decide) ?_
  exact kk _ _ ivx lvx fax lax ivy lvy fay lay hIx hIy hJC hJR hJN hJO hq_now hq_bales hq_skeins hq_rules hq_text hq_place hq_papers hrs hls hwd htx hbk hgr hgb hpa hdr hPx hDx hPy hDy hS
set_option maxHeartbeats 4000000 in
set_option maxRecDepth 100000 in
theorem law_12 {p : Program} {e : Env} {s : State} {m : MethodId} {below : List Frame} {meth : Method} {c : Code} (l : Launch) {b L : Nat} {xs : Nat → Int32} (hL : L ≤ 4096) (C0 : lw_At p s m meth c b L xs) {dC : Nat → ClassId} {dI : Nat → Nat → Nat} {A : Nat → Prop} (hA : ∀ q : Nat, s.heap.size ≤ q → A q) (hbA : ¬ A b) (hAs : ∀ q : Nat, A q → s.heap.size ≤ q) {x y : Nat} {gx gy : Nat → Nat → Nat} {cax cay : Nat → Nat → ClassId} {ak av : Nat → Nat} (hKx : va_K (dC, dI) classes (TX cax) s) (hKy : va_K (dC, dI) classes (TM cay) s) (hXY : ∀ a ∈ AdX x gx, ∀ b ∈ AdM y gy, a ≠ b) (hZ : zC ak av A s s.heap) {H : Heap} {locs : List Loc} {ivx : Nat → Nat → Int32} {lvx : Nat → Nat → Int64} {fax : Nat → Nat → Nat → Int32} {lax : Nat → Nat → Nat → Int64} {ivy : Nat → Nat → Int32} {lvy : Nat → Nat → Int64} {fay : Nat → Nat → Nat → Int32} {lay : Nat → Nat → Nat → Int64} (hIx : IX ivx fax) (hIy : IX ivy fay) (hJC : JCf (ivy 12 23).toInt (fay 12 25) (fay 12 26) (fay 12 27) (fay 12 28)) (hJR : JRf (ivy 12 3).toInt (fay 12 7)) (hJN : JNf (ivy 12 3).toInt (fay 12 4) (fay 12 5)) (hJO : ((ivy 12 20).toInt = -1 ∧ (ivy 12 21).toInt = -1 ∧ (ivy 12 22).toInt = -1)) (hq_now : ivx 11 10 = ivy 12 0) (hq_bales : ivx 0 7 = ivy 12 1) (hq_skeins : ivx 10 1 = ivy 12 3) (hq_rules : ivx 1 7 = ivy 12 23) (hq_text : ivx 8 2 = ivy 12 33) (hq_place : ivx 8 3 = ivy 12 36) (hq_papers : ivx 6 7 = ivy 12 67) (hrs : (∀ s : Nat, (s : Int) < (ivy 12 3).toInt → fax 10 0 (9 * s + 0) = fay 12 4 s ∧ fax 10 0 (9 * s + 1) = fay 12 5 s ∧ fax 10 0 (9 * s + 2) = fay 12 6 s ∧ fax 10 0 (9 * s + 3) = fay 12 7 s ∧ fax 10 0 (9 * s + 4) = fay 12 8 s ∧ fax 10 0 (9 * s + 5) = fay 12 9 s ∧ fax 10 0 (9 * s + 6) = fay 12 10 s ∧ fax 10 0 (9 * s + 7) = fay 12 11 s ∧ fax 10 0 (9 * s + 8) = fay 12 12 s)) (hls : (∀ j : Nat, -1 ≤ (fay 12 12 j).toInt)) (hwd : (∀ s : Nat, (s : Int) < (ivy 12 3).toInt → (100 ≤ (fay 12 7 s).toInt ∧ (fay 12 7 s).toInt ≤ 9999) ∧ (50 ≤ (fay 12 8 s).toInt ∧ (fay 12 8 s).toInt ≤ 9999))) (htx : (∀ j : Nat, (fax 8 1 j).toInt = sg (fay 12 32 j).toInt ∧ 0 ≤ (fay 12 32 j).toInt)) (hbk : BkE (ivy 12 23).toInt (fax 1 0) (fax 1 1) (fax 1 2) (fax 1 3) (fax 1 4) (fax 1 5) (fay 12 24) (fay 12 25) (fay 12 26) (fay 12 27) (fay 12 28) (fay 12 29) (fay 12 30) (fay 12 31)) (hgr : (∀ j : Nat, fax 0 0 j = fay 12 2 j)) (hgb : (∀ j : Nat, (j : Int) < (ivx 0 7).toInt → 1 ≤ (fax 0 0 j).toInt ∧ (fax 0 0 j).toInt ≤ 99999)) (hpa : PaE (ivy 12 67).toInt (fax 6 0) (fax 6 1) (fax 6 2) (fax 6 3) (fax 6 4) (fax 6 5) (fay 12 68) (fay 12 69) (lay 12 70) (fay 12 71) (fay 12 72) (fay 12 73)) (hdr : (∀ s : Nat, (s : Int) < (ivy 12 3).toInt → (fay 12 8 s).toInt ≤ (fay 12 7 s).toInt)) (hPx : va_P (dC, dI) classes (WX x gx cax ivx lvx fax lax) H) (hDx : va_D A (WX x gx cax ivx lvx fax lax)) (hPy : va_P (dC, dI) classes (WM y gy cay ivy lvy fay lay) H) (hDy : va_D A (WM y gy cay ivy lvy fay lay)) (hS : va_S A s.heap H locs) {i : Int32} {ls : Array Slot} (hl : lv_has ls 4 [(3, .int i), (2, .ref y), (1, .ref x), (0, .ref b)]) (hi : 0 ≤ i.toInt ∧ i.toInt ≤ 4088) (hi8 : i.toInt + 8 ≤ (L : Int)) (kk : ∀ (H : Heap) (locs : List Loc) (ivx : Nat → Nat → Int32) (lvx : Nat → Nat → Int64) (fax : Nat → Nat → Nat → Int32) (lax : Nat → Nat → Nat → Int64) (ivy : Nat → Nat → Int32) (lvy : Nat → Nat → Int64) (fay : Nat → Nat → Nat → Int32) (lay : Nat → Nat → Nat → Int64), IX ivx fax → IX ivy fay → JCf (ivy 12 23).toInt (fay 12 25) (fay 12 26) (fay 12 27) (fay 12 28) → JRf (ivy 12 3).toInt (fay 12 7) → JNf (ivy 12 3).toInt (fay 12 4) (fay 12 5) → ((ivy 12 20).toInt = -1 ∧ (ivy 12 21).toInt = -1 ∧ (ivy 12 22).toInt = -1) → ivx 11 10 = ivy 12 0 → ivx 0 7 = ivy 12 1 → ivx 10 1 = ivy 12 3 → ivx 1 7 = ivy 12 23 → ivx 8 2 = ivy 12 33 → ivx 8 3 = ivy 12 36 → ivx 6 7 = ivy 12 67 → (∀ s : Nat, (s : Int) < (ivy 12 3).toInt → fax 10 0 (9 * s + 0) = fay 12 4 s ∧ fax 10 0 (9 * s + 1) = fay 12 5 s ∧ fax 10 0 (9 * s + 2) = fay 12 6 s ∧ fax 10 0 (9 * s + 3) = fay 12 7 s ∧ fax 10 0 (9 * s + 4) = fay 12 8 s ∧ fax 10 0 (9 * s + 5) = fay 12 9 s ∧ fax 10 0 (9 * s + 6) = fay 12 10 s ∧ fax 10 0 (9 * s + 7) = fay 12 11 s ∧ fax 10 0 (9 * s + 8) = fay 12 12 s) → (∀ j : Nat, -1 ≤ (fay 12 12 j).toInt) → (∀ s : Nat, (s : Int) < (ivy 12 3).toInt → (100 ≤ (fay 12 7 s).toInt ∧ (fay 12 7 s).toInt ≤ 9999) ∧ (50 ≤ (fay 12 8 s).toInt ∧ (fay 12 8 s).toInt ≤ 9999)) → (∀ j : Nat, (fax 8 1 j).toInt = sg (fay 12 32 j).toInt ∧ 0 ≤ (fay 12 32 j).toInt) → BkE (ivy 12 23).toInt (fax 1 0) (fax 1 1) (fax 1 2) (fax 1 3) (fax 1 4) (fax 1 5) (fay 12 24) (fay 12 25) (fay 12 26) (fay 12 27) (fay 12 28) (fay 12 29) (fay 12 30) (fay 12 31) → (∀ j : Nat, fax 0 0 j = fay 12 2 j) → (∀ j : Nat, (j : Int) < (ivx 0 7).toInt → 1 ≤ (fax 0 0 j).toInt ∧ (fax 0 0 j).toInt ≤ 99999) → PaE (ivy 12 67).toInt (fax 6 0) (fax 6 1) (fax 6 2) (fax 6 3) (fax 6 4) (fax 6 5) (fay 12 68) (fay 12 69) (lay 12 70) (fay 12 71) (fay 12 72) (fay 12 73) → (∀ s : Nat, (s : Int) < (ivy 12 3).toInt → (fay 12 8 s).toInt ≤ (fay 12 7 s).toInt) → va_P (dC, dI) classes (WX x gx cax ivx lvx fax lax) H → va_D A (WX x gx cax ivx lvx fax lax) → va_P (dC, dI) classes (WM y gy cay ivy lvy fay lay) H → va_D A (WM y gy cay ivy lvy fay lay) → va_S A s.heap H locs → W p l e room_1 s m #[Value.ref b] below meth c H locs 98 5431 (lw_Z below #[Value.ref b] s) (F0 m 1509 ls [])) : W p l e room_1 s m #[Value.ref b] below meth c H locs 98 5431 (lw_Z below #[Value.ref b] s) (F0 m 640 ls []) := by
  obtain ⟨hx, hb, hr, hml, hown, hts, hX, hbl, hlocks, hgv⟩ := id C0
  have ht := tb_of hts
  have hJD := hwd
  have hw8 := congrArg Int32.toInt hq_skeins
  have hJW : ∀ s : Nat, (s : Int) < (ivx 10 1).toInt → (100 ≤ (fax 10 0 (9 * s + 3)).toInt ∧ (fax 10 0 (9 * s + 3)).toInt ≤ 9999) ∧ (50 ≤ (fax 10 0 (9 * s + 4)).toInt ∧ (fax 10 0 (9 * s + 4)).toInt ≤ 9999) := fun s hs => by rw [(hrs s (by omega)).2.2.2.1, (hrs s (by omega)).2.2.2.2.1]; exact hwd s (by omega)
  have hw8r := congrArg Int32.toInt hq_rules
  have hJB : ∀ j : Nat, (j : Int) < (ivx 1 7).toInt → 0 ≤ (fax 1 0 j).toInt := fun j hj => (hbk j (by omega)).2.2.1
  have hJK : ∀ k j : Nat, (k : Int) < (ivy 12 23).toInt → 12 * k ≤ j → (j : Int) < 12 * (k : Int) + (fay 12 25 k).toInt → (fay 12 26 j).toInt = 3 → 0 ≤ (fay 12 28 j).toInt ∧ (fay 12 28 j).toInt < (k : Int) := bk_K hbk
  have hw8b := congrArg Int32.toInt hq_bales
  have hJF : ∀ a d v : Int, 0 ≤ a → a ≤ 5 → FoX (ivx 1 7).toInt (fax 1 0) (fax 1 1) (fax 1 2) (fax 1 3) a d v → fLo a ≤ v ∧ v ≤ fHi a := fun a d v h1 h2 x => by rw [hq_rules] at x; exact FoX_b hbk ⟨h1, h2⟩ x
  have hJH : ∀ a d v : Int, 0 ≤ a → a ≤ 5 → FoY (ivy 12 23).toInt (fay 12 24) (fay 12 25) (fay 12 26) (fay 12 27) (fay 12 28) a d v → fLo a ≤ v ∧ v ≤ fHi a := fun a d v h1 h2 x => FoY_b hbk ⟨h1, h2⟩ x
  have hJG := hgb
  have hJI : ∀ j : Nat, (j : Int) < (ivy 12 1).toInt → 1 ≤ (fay 12 2 j).toInt ∧ (fay 12 2 j).toInt ≤ 99999 := fun j hj => by rw [← hgr j]; exact hgb j (by omega)
  have hJL : ∀ b l : Int32, cn0 (fun s => fax 10 0 (9 * s + 0)) (fun s => fax 10 0 (9 * s + 1)) b l (ivx 10 1).toInt.toNat ≤ 12 := fun b l => by rw [hq_skeins, cn0_congr (ob := fay 12 4) (ol := fay 12 5) _ (fun j hj => ⟨(hrs j (by omega)).1, (hrs j (by omega)).2.1⟩)]; exact hJN b l
  have hw8p := congrArg Int32.toInt hq_papers
  have hJQ : ∀ p : Nat, (p : Int) < (ivy 12 67).toInt → 0 ≤ (lay 12 70 p).toInt ∧ ((fay 12 68 p).toInt = 0 → (lay 12 70 p).toInt ≤ 129998) ∧ (lay 12 70 p).toInt ≤ 129868002 ∧ -1 ≤ (fay 12 71 p).toInt ∧ (fay 12 71 p).toInt < (p : Int) := fun p hp => ⟨(hpa p hp).2.2.1, (hpa p hp).2.2.2.1, (hpa p hp).2.2.2.2.1, (hpa p hp).2.2.2.2.2.1, (hpa p hp).2.2.2.2.2.2.1⟩
  have hJP : ∀ p : Nat, (p : Int) < (ivx 6 7).toInt → 0 ≤ (fax 6 2 p).toInt ∧ ((fax 6 0 p).toInt = 0 → (fax 6 2 p).toInt ≤ 129998) ∧ (fax 6 2 p).toInt ≤ 129868002 ∧ -1 ≤ (fax 6 3 p).toInt ∧ (fax 6 3 p).toInt < (p : Int) := fun p hp => by rw [(hpa p (by omega)).1.1, (hpa p (by omega)).1.2.2.1, (hpa p (by omega)).1.2.2.2.1]; exact hJQ p (by omega)
  have hJS : ∀ s : Nat, (s : Int) < (ivx 10 1).toInt → (fax 10 0 (9 * s + 4)).toInt ≤ (fax 10 0 (9 * s + 3)).toInt := fun s hs => by rw [(hrs s (by omega)).2.2.2.1, (hrs s (by omega)).2.2.2.2.1]; exact hdr s (by omega)
  have hJT : ∀ j : Nat, 0 ≤ (fay 12 32 j).toInt := fun j => (htx j).2
  refine lv_aload_n hx hb dL_law_640 rfl (lv_at hl 2 rfl) ?_
  refine aw_iconst (v := 1) hx hb hX hbl hbA hS hl hi hi8 (by decide) ⟨by decide, by decide⟩ dL_law_641 dL_law_642 dL_law_643 dL_law_644 dL_law_645 (fun v1 ev1 v2 ev2 => ?_)
  refine aw_iconst (v := 2) hx hb hX hbl hbA hS hl hi hi8 (by decide) ⟨by decide, by decide⟩ dL_law_646 dL_law_647 dL_law_648 dL_law_649 dL_law_650 (fun v3 ev3 v4 ev4 => ?_)
  have hFc := free_all hDx hS hA
  refine va_calli (va_runV (As := [.int v2, .int v4]) (rest := []) ⟨hx, hb, hml, hown, ht⟩ (c_X11_force_f l dC dI H.size ak av x gx cax ivx lvx fax lax hIx v2 v4 hJB) (kV 2 ht m_813 m_814 m_815 m_77 m_816 rfl rfl hd_X11_force_v ⟨Nat.le_of_ble_eq_true rfl, Nat.le_of_ble_eq_true rfl⟩) (vWZ hPx hKx hDx ((hZ.kept hS.2.1).narrow (free_all hDx hS hA)) (rX_11 hKx hPx)) rfl rfl hl.1 rfl (lv_room (Nat.le_of_ble_eq_true rfl)) dL_law_651 ⟨Nat.le_of_ble_eq_true rfl, Nat.le_of_ble_eq_true rfl⟩) hS (fun q _ h => hFc q h) hFc (fun r5 u t H1 locs ht9 hvm hr5 hB hz1 hk1 hS => ?_)
  obtain ⟨n6, hn6, xr5_0, hr5, rfl⟩ := hr5
  obtain ⟨hPx, hDx⟩ := hB
  rw [ht9] at hPx
  have hPy := P_kept hPy (la := AdM y gy) (lb := AdX x gx) wmM wmX (fun a ha b hb => (hXY b hb a ha).symm) hk1
  generalize H1 = H at hPx hPy hS ⊢
  have hPx : va_P (dC, dI) classes (WX x gx cax ivx lvx (u2 fax 1 6 n6) lax) H := hPx
  have hDx : va_D A (WX x gx cax ivx lvx (u2 fax 1 6 n6) lax) := (show va_D _ (WX x gx cax ivx lvx (u2 fax 1 6 n6) lax) from hDx).weaken (fun _ _ _ h => hFc _ h)
  refine lv_pop hx hb dL_law_654 rfl ?_
  refine lv_aload_n hx hb dL_law_655 rfl (lv_at hl 1 rfl) ?_
  refine aw_iconst (v := 1) hx hb hX hbl hbA hS hl hi hi8 (by decide) ⟨by decide, by decide⟩ dL_law_656 dL_law_657 dL_law_658 dL_law_659 dL_law_660 (fun v7 ev7 v8 ev8 => ?_)
  refine aw_iconst (v := 2) hx hb hX hbl hbA hS hl hi hi8 (by decide) ⟨by decide, by decide⟩ dL_law_661 dL_law_662 dL_law_663 dL_law_664 dL_law_665 (fun v9 ev9 v10 ev10 => ?_)
  have hFc := free_all hDy hS hA
  refine va_calli (va_runV (As := [.int v8, .int v10]) (rest := []) ⟨hx, hb, hml, hown, ht⟩ (c_X12_force_f l dC dI H.size y gy cay ivy lvy fay lay hIy v8 v10 hJC hJK) (kV 2 ht m_1504 m_1505 m_1506 m_89 m_1507 rfl rfl hd_X12_force_v ⟨Nat.le_of_ble_eq_true rfl, Nat.le_of_ble_eq_true rfl⟩) (vW hPy hKy hDy (rM_12 hKy hPy)) rfl rfl hl.1 rfl (lv_room (Nat.le_of_ble_eq_true rfl)) dL_law_666 ⟨Nat.le_of_ble_eq_true rfl, Nat.le_of_ble_eq_true rfl⟩) hS (fun q _ h => hFc q h) hFc (fun r11 u t H1 locs ht9 hvm hr11 hB hz1 hk1 hS => ?_)
  obtain ⟨n12, n13, n14, hn12, hn13, hn14, xr11_0, hr11, rfl⟩ := hr11
  obtain ⟨hPy, hDy⟩ := hB
  rw [ht9] at hPy
  have hPx := P_kept hPx (la := AdX x gx) (lb := AdM y gy) wmX wmM hXY hk1
  generalize H1 = H at hPx hPy hS ⊢
  have hPy : va_P (dC, dI) classes (WM y gy cay (u2 ivy 12 41 n14) lvy (u2 (u2 fay 12 39 n12) 12 40 n13) lay) H := hPy
  have hDy : va_D A (WM y gy cay (u2 ivy 12 41 n14) lvy (u2 (u2 fay 12 39 n12) 12 40 n13) lay) := (show va_D _ (WM y gy cay (u2 ivy 12 41 n14) lvy (u2 (u2 fay 12 39 n12) 12 40 n13) lay) from hDy).weaken (fun _ _ _ h => hFc _ h)
  refine lv_pop hx hb dL_law_669 rfl ?_
  refine lv_goto (tgt := 1509) hx hb dL_law_670 (by decide) ?_
  exact kk _ _ ivx lvx (u2 fax 1 6 n6) lax (u2 ivy 12 41 n14) lvy (u2 (u2 fay 12 39 n12) 12 40 n13) lay (IX_a (c := 1) (k := 6) hIx hn6) (IX_a (c := 12) (k := 40) (IX_a (c := 12) (k := 39) (IX_i (c := 12) (k := 41) hIy hn14) hn12) hn13) hJC hJR hJN hJO hq_now hq_bales hq_skeins hq_rules hq_text hq_place hq_papers hrs hls hwd htx hbk hgr hgb hpa hdr hPx hDx hPy hDy hS
set_option maxHeartbeats 4000000 in
set_option maxRecDepth 100000 in
theorem law_13 {p : Program} {e : Env} {s : State} {m : MethodId} {below : List Frame} {meth : Method} {c : Code} (l : Launch) {b L : Nat} {xs : Nat → Int32} (hL : L ≤ 4096) (C0 : lw_At p s m meth c b L xs) {dC : Nat → ClassId} {dI : Nat → Nat → Nat} {A : Nat → Prop} (hA : ∀ q : Nat, s.heap.size ≤ q → A q) (hbA : ¬ A b) (hAs : ∀ q : Nat, A q → s.heap.size ≤ q) {x y : Nat} {gx gy : Nat → Nat → Nat} {cax cay : Nat → Nat → ClassId} {ak av : Nat → Nat} (hKx : va_K (dC, dI) classes (TX cax) s) (hKy : va_K (dC, dI) classes (TM cay) s) (hXY : ∀ a ∈ AdX x gx, ∀ b ∈ AdM y gy, a ≠ b) (hZ : zC ak av A s s.heap) {H : Heap} {locs : List Loc} {ivx : Nat → Nat → Int32} {lvx : Nat → Nat → Int64} {fax : Nat → Nat → Nat → Int32} {lax : Nat → Nat → Nat → Int64} {ivy : Nat → Nat → Int32} {lvy : Nat → Nat → Int64} {fay : Nat → Nat → Nat → Int32} {lay : Nat → Nat → Nat → Int64} (hIx : IX ivx fax) (hIy : IX ivy fay) (hJC : JCf (ivy 12 23).toInt (fay 12 25) (fay 12 26) (fay 12 27) (fay 12 28)) (hJR : JRf (ivy 12 3).toInt (fay 12 7)) (hJN : JNf (ivy 12 3).toInt (fay 12 4) (fay 12 5)) (hJO : ((ivy 12 20).toInt = -1 ∧ (ivy 12 21).toInt = -1 ∧ (ivy 12 22).toInt = -1)) (hq_now : ivx 11 10 = ivy 12 0) (hq_bales : ivx 0 7 = ivy 12 1) (hq_skeins : ivx 10 1 = ivy 12 3) (hq_rules : ivx 1 7 = ivy 12 23) (hq_text : ivx 8 2 = ivy 12 33) (hq_place : ivx 8 3 = ivy 12 36) (hq_papers : ivx 6 7 = ivy 12 67) (hrs : (∀ s : Nat, (s : Int) < (ivy 12 3).toInt → fax 10 0 (9 * s + 0) = fay 12 4 s ∧ fax 10 0 (9 * s + 1) = fay 12 5 s ∧ fax 10 0 (9 * s + 2) = fay 12 6 s ∧ fax 10 0 (9 * s + 3) = fay 12 7 s ∧ fax 10 0 (9 * s + 4) = fay 12 8 s ∧ fax 10 0 (9 * s + 5) = fay 12 9 s ∧ fax 10 0 (9 * s + 6) = fay 12 10 s ∧ fax 10 0 (9 * s + 7) = fay 12 11 s ∧ fax 10 0 (9 * s + 8) = fay 12 12 s)) (hls : (∀ j : Nat, -1 ≤ (fay 12 12 j).toInt)) (hwd : (∀ s : Nat, (s : Int) < (ivy 12 3).toInt → (100 ≤ (fay 12 7 s).toInt ∧ (fay 12 7 s).toInt ≤ 9999) ∧ (50 ≤ (fay 12 8 s).toInt ∧ (fay 12 8 s).toInt ≤ 9999))) (htx : (∀ j : Nat, (fax 8 1 j).toInt = sg (fay 12 32 j).toInt ∧ 0 ≤ (fay 12 32 j).toInt)) (hbk : BkE (ivy 12 23).toInt (fax 1 0) (fax 1 1) (fax 1 2) (fax 1 3) (fax 1 4) (fax 1 5) (fay 12 24) (fay 12 25) (fay 12 26) (fay 12 27) (fay 12 28) (fay 12 29) (fay 12 30) (fay 12 31)) (hgr : (∀ j : Nat, fax 0 0 j = fay 12 2 j)) (hgb : (∀ j : Nat, (j : Int) < (ivx 0 7).toInt → 1 ≤ (fax 0 0 j).toInt ∧ (fax 0 0 j).toInt ≤ 99999)) (hpa : PaE (ivy 12 67).toInt (fax 6 0) (fax 6 1) (fax 6 2) (fax 6 3) (fax 6 4) (fax 6 5) (fay 12 68) (fay 12 69) (lay 12 70) (fay 12 71) (fay 12 72) (fay 12 73)) (hdr : (∀ s : Nat, (s : Int) < (ivy 12 3).toInt → (fay 12 8 s).toInt ≤ (fay 12 7 s).toInt)) (hPx : va_P (dC, dI) classes (WX x gx cax ivx lvx fax lax) H) (hDx : va_D A (WX x gx cax ivx lvx fax lax)) (hPy : va_P (dC, dI) classes (WM y gy cay ivy lvy fay lay) H) (hDy : va_D A (WM y gy cay ivy lvy fay lay)) (hS : va_S A s.heap H locs) {i : Int32} {ls : Array Slot} (hl : lv_has ls 4 [(3, .int i), (2, .ref y), (1, .ref x), (0, .ref b)]) (hi : 0 ≤ i.toInt ∧ i.toInt ≤ 4088) (hi8 : i.toInt + 8 ≤ (L : Int)) (kk : ∀ (H : Heap) (locs : List Loc) (ivx : Nat → Nat → Int32) (lvx : Nat → Nat → Int64) (fax : Nat → Nat → Nat → Int32) (lax : Nat → Nat → Nat → Int64) (ivy : Nat → Nat → Int32) (lvy : Nat → Nat → Int64) (fay : Nat → Nat → Nat → Int32) (lay : Nat → Nat → Nat → Int64), IX ivx fax → IX ivy fay → JCf (ivy 12 23).toInt (fay 12 25) (fay 12 26) (fay 12 27) (fay 12 28) → JRf (ivy 12 3).toInt (fay 12 7) → JNf (ivy 12 3).toInt (fay 12 4) (fay 12 5) → ((ivy 12 20).toInt = -1 ∧ (ivy 12 21).toInt = -1 ∧ (ivy 12 22).toInt = -1) → ivx 11 10 = ivy 12 0 → ivx 0 7 = ivy 12 1 → ivx 10 1 = ivy 12 3 → ivx 1 7 = ivy 12 23 → ivx 8 2 = ivy 12 33 → ivx 8 3 = ivy 12 36 → ivx 6 7 = ivy 12 67 → (∀ s : Nat, (s : Int) < (ivy 12 3).toInt → fax 10 0 (9 * s + 0) = fay 12 4 s ∧ fax 10 0 (9 * s + 1) = fay 12 5 s ∧ fax 10 0 (9 * s + 2) = fay 12 6 s ∧ fax 10 0 (9 * s + 3) = fay 12 7 s ∧ fax 10 0 (9 * s + 4) = fay 12 8 s ∧ fax 10 0 (9 * s + 5) = fay 12 9 s ∧ fax 10 0 (9 * s + 6) = fay 12 10 s ∧ fax 10 0 (9 * s + 7) = fay 12 11 s ∧ fax 10 0 (9 * s + 8) = fay 12 12 s) → (∀ j : Nat, -1 ≤ (fay 12 12 j).toInt) → (∀ s : Nat, (s : Int) < (ivy 12 3).toInt → (100 ≤ (fay 12 7 s).toInt ∧ (fay 12 7 s).toInt ≤ 9999) ∧ (50 ≤ (fay 12 8 s).toInt ∧ (fay 12 8 s).toInt ≤ 9999)) → (∀ j : Nat, (fax 8 1 j).toInt = sg (fay 12 32 j).toInt ∧ 0 ≤ (fay 12 32 j).toInt) → BkE (ivy 12 23).toInt (fax 1 0) (fax 1 1) (fax 1 2) (fax 1 3) (fax 1 4) (fax 1 5) (fay 12 24) (fay 12 25) (fay 12 26) (fay 12 27) (fay 12 28) (fay 12 29) (fay 12 30) (fay 12 31) → (∀ j : Nat, fax 0 0 j = fay 12 2 j) → (∀ j : Nat, (j : Int) < (ivx 0 7).toInt → 1 ≤ (fax 0 0 j).toInt ∧ (fax 0 0 j).toInt ≤ 99999) → PaE (ivy 12 67).toInt (fax 6 0) (fax 6 1) (fax 6 2) (fax 6 3) (fax 6 4) (fax 6 5) (fay 12 68) (fay 12 69) (lay 12 70) (fay 12 71) (fay 12 72) (fay 12 73) → (∀ s : Nat, (s : Int) < (ivy 12 3).toInt → (fay 12 8 s).toInt ≤ (fay 12 7 s).toInt) → va_P (dC, dI) classes (WX x gx cax ivx lvx fax lax) H → va_D A (WX x gx cax ivx lvx fax lax) → va_P (dC, dI) classes (WM y gy cay ivy lvy fay lay) H → va_D A (WM y gy cay ivy lvy fay lay) → va_S A s.heap H locs → W p l e room_1 s m #[Value.ref b] below meth c H locs 98 5431 (lw_Z below #[Value.ref b] s) (F0 m 1509 ls [])) : W p l e room_1 s m #[Value.ref b] below meth c H locs 98 5431 (lw_Z below #[Value.ref b] s) (F0 m 673 ls []) := by
  obtain ⟨hx, hb, hr, hml, hown, hts, hX, hbl, hlocks, hgv⟩ := id C0
  have ht := tb_of hts
  have hJD := hwd
  have hw8 := congrArg Int32.toInt hq_skeins
  have hJW : ∀ s : Nat, (s : Int) < (ivx 10 1).toInt → (100 ≤ (fax 10 0 (9 * s + 3)).toInt ∧ (fax 10 0 (9 * s + 3)).toInt ≤ 9999) ∧ (50 ≤ (fax 10 0 (9 * s + 4)).toInt ∧ (fax 10 0 (9 * s + 4)).toInt ≤ 9999) := fun s hs => by rw [(hrs s (by omega)).2.2.2.1, (hrs s (by omega)).2.2.2.2.1]; exact hwd s (by omega)
  have hw8r := congrArg Int32.toInt hq_rules
  have hJB : ∀ j : Nat, (j : Int) < (ivx 1 7).toInt → 0 ≤ (fax 1 0 j).toInt := fun j hj => (hbk j (by omega)).2.2.1
  have hJK : ∀ k j : Nat, (k : Int) < (ivy 12 23).toInt → 12 * k ≤ j → (j : Int) < 12 * (k : Int) + (fay 12 25 k).toInt → (fay 12 26 j).toInt = 3 → 0 ≤ (fay 12 28 j).toInt ∧ (fay 12 28 j).toInt < (k : Int) := bk_K hbk
  have hw8b := congrArg Int32.toInt hq_bales
  have hJF : ∀ a d v : Int, 0 ≤ a → a ≤ 5 → FoX (ivx 1 7).toInt (fax 1 0) (fax 1 1) (fax 1 2) (fax 1 3) a d v → fLo a ≤ v ∧ v ≤ fHi a := fun a d v h1 h2 x => by rw [hq_rules] at x; exact FoX_b hbk ⟨h1, h2⟩ x
  have hJH : ∀ a d v : Int, 0 ≤ a → a ≤ 5 → FoY (ivy 12 23).toInt (fay 12 24) (fay 12 25) (fay 12 26) (fay 12 27) (fay 12 28) a d v → fLo a ≤ v ∧ v ≤ fHi a := fun a d v h1 h2 x => FoY_b hbk ⟨h1, h2⟩ x
  have hJG := hgb
  have hJI : ∀ j : Nat, (j : Int) < (ivy 12 1).toInt → 1 ≤ (fay 12 2 j).toInt ∧ (fay 12 2 j).toInt ≤ 99999 := fun j hj => by rw [← hgr j]; exact hgb j (by omega)
  have hJL : ∀ b l : Int32, cn0 (fun s => fax 10 0 (9 * s + 0)) (fun s => fax 10 0 (9 * s + 1)) b l (ivx 10 1).toInt.toNat ≤ 12 := fun b l => by rw [hq_skeins, cn0_congr (ob := fay 12 4) (ol := fay 12 5) _ (fun j hj => ⟨(hrs j (by omega)).1, (hrs j (by omega)).2.1⟩)]; exact hJN b l
  have hw8p := congrArg Int32.toInt hq_papers
  have hJQ : ∀ p : Nat, (p : Int) < (ivy 12 67).toInt → 0 ≤ (lay 12 70 p).toInt ∧ ((fay 12 68 p).toInt = 0 → (lay 12 70 p).toInt ≤ 129998) ∧ (lay 12 70 p).toInt ≤ 129868002 ∧ -1 ≤ (fay 12 71 p).toInt ∧ (fay 12 71 p).toInt < (p : Int) := fun p hp => ⟨(hpa p hp).2.2.1, (hpa p hp).2.2.2.1, (hpa p hp).2.2.2.2.1, (hpa p hp).2.2.2.2.2.1, (hpa p hp).2.2.2.2.2.2.1⟩
  have hJP : ∀ p : Nat, (p : Int) < (ivx 6 7).toInt → 0 ≤ (fax 6 2 p).toInt ∧ ((fax 6 0 p).toInt = 0 → (fax 6 2 p).toInt ≤ 129998) ∧ (fax 6 2 p).toInt ≤ 129868002 ∧ -1 ≤ (fax 6 3 p).toInt ∧ (fax 6 3 p).toInt < (p : Int) := fun p hp => by rw [(hpa p (by omega)).1.1, (hpa p (by omega)).1.2.2.1, (hpa p (by omega)).1.2.2.2.1]; exact hJQ p (by omega)
  have hJS : ∀ s : Nat, (s : Int) < (ivx 10 1).toInt → (fax 10 0 (9 * s + 4)).toInt ≤ (fax 10 0 (9 * s + 3)).toInt := fun s hs => by rw [(hrs s (by omega)).2.2.2.1, (hrs s (by omega)).2.2.2.2.1]; exact hdr s (by omega)
  have hJT : ∀ j : Nat, 0 ≤ (fay 12 32 j).toInt := fun j => (htx j).2
  refine lv_aload_n hx hb dL_law_673 rfl (lv_at hl 2 rfl) ?_
  refine aw_iconst (v := 1) hx hb hX hbl hbA hS hl hi hi8 (by decide) ⟨by decide, by decide⟩ dL_law_674 dL_law_675 dL_law_676 dL_law_677 dL_law_678 (fun v1 ev1 v2 ev2 => ?_)
  refine aw_iconst (v := 2) hx hb hX hbl hbA hS hl hi hi8 (by decide) ⟨by decide, by decide⟩ dL_law_679 dL_law_680 dL_law_681 dL_law_682 dL_law_683 (fun v3 ev3 v4 ev4 => ?_)
  refine vp_callSi (W.runV (As := [.int v2, .int v4]) (rest := []) ⟨hx, hb, hml, hown, ht⟩ (c_X11_letter l dC dI x gx cax ivx lvx fax lax hIx v2 v4) (kV 2 ht m_817 m_818 m_819 m_77 m_820 rfl rfl hd_X11_letter_v ⟨Nat.le_of_ble_eq_true rfl, Nat.le_of_ble_eq_true rfl⟩) (vR hPx hKx (rX_11 hKx hPx)) rfl rfl hl.1 rfl (lv_room (Nat.le_of_ble_eq_true rfl)) dL_law_684 ⟨Nat.le_of_ble_eq_true rfl, Nat.le_of_ble_eq_true rfl⟩) (fun r5 hr5 => ?_)
  refine lv_pop hx hb dL_law_687 rfl ?_
  refine lv_aload_n hx hb dL_law_688 rfl (lv_at hl 1 rfl) ?_
  refine aw_iconst (v := 1) hx hb hX hbl hbA hS hl hi hi8 (by decide) ⟨by decide, by decide⟩ dL_law_689 dL_law_690 dL_law_691 dL_law_692 dL_law_693 (fun v6 ev6 v7 ev7 => ?_)
  refine aw_iconst (v := 2) hx hb hX hbl hbA hS hl hi hi8 (by decide) ⟨by decide, by decide⟩ dL_law_694 dL_law_695 dL_law_696 dL_law_697 dL_law_698 (fun v8 ev8 v9 ev9 => ?_)
  refine vp_callSi (W.runV (As := [.int v7, .int v9]) (rest := []) ⟨hx, hb, hml, hown, ht⟩ (c_X12_letter l dC dI y gy cay ivy lvy fay lay hIy v7 v9) (kV 2 ht m_1520 m_1521 m_1522 m_89 m_1523 rfl rfl hd_X12_letter_v ⟨Nat.le_of_ble_eq_true rfl, Nat.le_of_ble_eq_true rfl⟩) (vR hPy hKy (rM_12 hKy hPy)) rfl rfl hl.1 rfl (lv_room (Nat.le_of_ble_eq_true rfl)) dL_law_699 ⟨Nat.le_of_ble_eq_true rfl, Nat.le_of_ble_eq_true rfl⟩) (fun r10 hr10 => ?_)
  refine lv_pop hx hb dL_law_702 rfl ?_
  refine lv_goto (tgt := 1509) hx hb dL_law_703 (by decide) ?_
  exact kk _ _ ivx lvx fax lax ivy lvy fay lay hIx hIy hJC hJR hJN hJO hq_now hq_bales hq_skeins hq_rules hq_text hq_place hq_papers hrs hls hwd htx hbk hgr hgb hpa hdr hPx hDx hPy hDy hS
set_option maxHeartbeats 4000000 in
set_option maxRecDepth 100000 in
theorem law_14 {p : Program} {e : Env} {s : State} {m : MethodId} {below : List Frame} {meth : Method} {c : Code} (l : Launch) {b L : Nat} {xs : Nat → Int32} (hL : L ≤ 4096) (C0 : lw_At p s m meth c b L xs) {dC : Nat → ClassId} {dI : Nat → Nat → Nat} {A : Nat → Prop} (hA : ∀ q : Nat, s.heap.size ≤ q → A q) (hbA : ¬ A b) (hAs : ∀ q : Nat, A q → s.heap.size ≤ q) {x y : Nat} {gx gy : Nat → Nat → Nat} {cax cay : Nat → Nat → ClassId} {ak av : Nat → Nat} (hKx : va_K (dC, dI) classes (TX cax) s) (hKy : va_K (dC, dI) classes (TM cay) s) (hXY : ∀ a ∈ AdX x gx, ∀ b ∈ AdM y gy, a ≠ b) (hZ : zC ak av A s s.heap) {H : Heap} {locs : List Loc} {ivx : Nat → Nat → Int32} {lvx : Nat → Nat → Int64} {fax : Nat → Nat → Nat → Int32} {lax : Nat → Nat → Nat → Int64} {ivy : Nat → Nat → Int32} {lvy : Nat → Nat → Int64} {fay : Nat → Nat → Nat → Int32} {lay : Nat → Nat → Nat → Int64} (hIx : IX ivx fax) (hIy : IX ivy fay) (hJC : JCf (ivy 12 23).toInt (fay 12 25) (fay 12 26) (fay 12 27) (fay 12 28)) (hJR : JRf (ivy 12 3).toInt (fay 12 7)) (hJN : JNf (ivy 12 3).toInt (fay 12 4) (fay 12 5)) (hJO : ((ivy 12 20).toInt = -1 ∧ (ivy 12 21).toInt = -1 ∧ (ivy 12 22).toInt = -1)) (hq_now : ivx 11 10 = ivy 12 0) (hq_bales : ivx 0 7 = ivy 12 1) (hq_skeins : ivx 10 1 = ivy 12 3) (hq_rules : ivx 1 7 = ivy 12 23) (hq_text : ivx 8 2 = ivy 12 33) (hq_place : ivx 8 3 = ivy 12 36) (hq_papers : ivx 6 7 = ivy 12 67) (hrs : (∀ s : Nat, (s : Int) < (ivy 12 3).toInt → fax 10 0 (9 * s + 0) = fay 12 4 s ∧ fax 10 0 (9 * s + 1) = fay 12 5 s ∧ fax 10 0 (9 * s + 2) = fay 12 6 s ∧ fax 10 0 (9 * s + 3) = fay 12 7 s ∧ fax 10 0 (9 * s + 4) = fay 12 8 s ∧ fax 10 0 (9 * s + 5) = fay 12 9 s ∧ fax 10 0 (9 * s + 6) = fay 12 10 s ∧ fax 10 0 (9 * s + 7) = fay 12 11 s ∧ fax 10 0 (9 * s + 8) = fay 12 12 s)) (hls : (∀ j : Nat, -1 ≤ (fay 12 12 j).toInt)) (hwd : (∀ s : Nat, (s : Int) < (ivy 12 3).toInt → (100 ≤ (fay 12 7 s).toInt ∧ (fay 12 7 s).toInt ≤ 9999) ∧ (50 ≤ (fay 12 8 s).toInt ∧ (fay 12 8 s).toInt ≤ 9999))) (htx : (∀ j : Nat, (fax 8 1 j).toInt = sg (fay 12 32 j).toInt ∧ 0 ≤ (fay 12 32 j).toInt)) (hbk : BkE (ivy 12 23).toInt (fax 1 0) (fax 1 1) (fax 1 2) (fax 1 3) (fax 1 4) (fax 1 5) (fay 12 24) (fay 12 25) (fay 12 26) (fay 12 27) (fay 12 28) (fay 12 29) (fay 12 30) (fay 12 31)) (hgr : (∀ j : Nat, fax 0 0 j = fay 12 2 j)) (hgb : (∀ j : Nat, (j : Int) < (ivx 0 7).toInt → 1 ≤ (fax 0 0 j).toInt ∧ (fax 0 0 j).toInt ≤ 99999)) (hpa : PaE (ivy 12 67).toInt (fax 6 0) (fax 6 1) (fax 6 2) (fax 6 3) (fax 6 4) (fax 6 5) (fay 12 68) (fay 12 69) (lay 12 70) (fay 12 71) (fay 12 72) (fay 12 73)) (hdr : (∀ s : Nat, (s : Int) < (ivy 12 3).toInt → (fay 12 8 s).toInt ≤ (fay 12 7 s).toInt)) (hPx : va_P (dC, dI) classes (WX x gx cax ivx lvx fax lax) H) (hDx : va_D A (WX x gx cax ivx lvx fax lax)) (hPy : va_P (dC, dI) classes (WM y gy cay ivy lvy fay lay) H) (hDy : va_D A (WM y gy cay ivy lvy fay lay)) (hS : va_S A s.heap H locs) {i : Int32} {ls : Array Slot} (hl : lv_has ls 4 [(3, .int i), (2, .ref y), (1, .ref x), (0, .ref b)]) (hi : 0 ≤ i.toInt ∧ i.toInt ≤ 4088) (hi8 : i.toInt + 8 ≤ (L : Int)) (kk : ∀ (H : Heap) (locs : List Loc) (ivx : Nat → Nat → Int32) (lvx : Nat → Nat → Int64) (fax : Nat → Nat → Nat → Int32) (lax : Nat → Nat → Nat → Int64) (ivy : Nat → Nat → Int32) (lvy : Nat → Nat → Int64) (fay : Nat → Nat → Nat → Int32) (lay : Nat → Nat → Nat → Int64), IX ivx fax → IX ivy fay → JCf (ivy 12 23).toInt (fay 12 25) (fay 12 26) (fay 12 27) (fay 12 28) → JRf (ivy 12 3).toInt (fay 12 7) → JNf (ivy 12 3).toInt (fay 12 4) (fay 12 5) → ((ivy 12 20).toInt = -1 ∧ (ivy 12 21).toInt = -1 ∧ (ivy 12 22).toInt = -1) → ivx 11 10 = ivy 12 0 → ivx 0 7 = ivy 12 1 → ivx 10 1 = ivy 12 3 → ivx 1 7 = ivy 12 23 → ivx 8 2 = ivy 12 33 → ivx 8 3 = ivy 12 36 → ivx 6 7 = ivy 12 67 → (∀ s : Nat, (s : Int) < (ivy 12 3).toInt → fax 10 0 (9 * s + 0) = fay 12 4 s ∧ fax 10 0 (9 * s + 1) = fay 12 5 s ∧ fax 10 0 (9 * s + 2) = fay 12 6 s ∧ fax 10 0 (9 * s + 3) = fay 12 7 s ∧ fax 10 0 (9 * s + 4) = fay 12 8 s ∧ fax 10 0 (9 * s + 5) = fay 12 9 s ∧ fax 10 0 (9 * s + 6) = fay 12 10 s ∧ fax 10 0 (9 * s + 7) = fay 12 11 s ∧ fax 10 0 (9 * s + 8) = fay 12 12 s) → (∀ j : Nat, -1 ≤ (fay 12 12 j).toInt) → (∀ s : Nat, (s : Int) < (ivy 12 3).toInt → (100 ≤ (fay 12 7 s).toInt ∧ (fay 12 7 s).toInt ≤ 9999) ∧ (50 ≤ (fay 12 8 s).toInt ∧ (fay 12 8 s).toInt ≤ 9999)) → (∀ j : Nat, (fax 8 1 j).toInt = sg (fay 12 32 j).toInt ∧ 0 ≤ (fay 12 32 j).toInt) → BkE (ivy 12 23).toInt (fax 1 0) (fax 1 1) (fax 1 2) (fax 1 3) (fax 1 4) (fax 1 5) (fay 12 24) (fay 12 25) (fay 12 26) (fay 12 27) (fay 12 28) (fay 12 29) (fay 12 30) (fay 12 31) → (∀ j : Nat, fax 0 0 j = fay 12 2 j) → (∀ j : Nat, (j : Int) < (ivx 0 7).toInt → 1 ≤ (fax 0 0 j).toInt ∧ (fax 0 0 j).toInt ≤ 99999) → PaE (ivy 12 67).toInt (fax 6 0) (fax 6 1) (fax 6 2) (fax 6 3) (fax 6 4) (fax 6 5) (fay 12 68) (fay 12 69) (lay 12 70) (fay 12 71) (fay 12 72) (fay 12 73) → (∀ s : Nat, (s : Int) < (ivy 12 3).toInt → (fay 12 8 s).toInt ≤ (fay 12 7 s).toInt) → va_P (dC, dI) classes (WX x gx cax ivx lvx fax lax) H → va_D A (WX x gx cax ivx lvx fax lax) → va_P (dC, dI) classes (WM y gy cay ivy lvy fay lay) H → va_D A (WM y gy cay ivy lvy fay lay) → va_S A s.heap H locs → W p l e room_1 s m #[Value.ref b] below meth c H locs 98 5431 (lw_Z below #[Value.ref b] s) (F0 m 1509 ls [])) : W p l e room_1 s m #[Value.ref b] below meth c H locs 98 5431 (lw_Z below #[Value.ref b] s) (F0 m 706 ls []) := by
  obtain ⟨hx, hb, hr, hml, hown, hts, hX, hbl, hlocks, hgv⟩ := id C0
  have ht := tb_of hts
  have hJD := hwd
  have hw8 := congrArg Int32.toInt hq_skeins
  have hJW : ∀ s : Nat, (s : Int) < (ivx 10 1).toInt → (100 ≤ (fax 10 0 (9 * s + 3)).toInt ∧ (fax 10 0 (9 * s + 3)).toInt ≤ 9999) ∧ (50 ≤ (fax 10 0 (9 * s + 4)).toInt ∧ (fax 10 0 (9 * s + 4)).toInt ≤ 9999) := fun s hs => by rw [(hrs s (by omega)).2.2.2.1, (hrs s (by omega)).2.2.2.2.1]; exact hwd s (by omega)
  have hw8r := congrArg Int32.toInt hq_rules
  have hJB : ∀ j : Nat, (j : Int) < (ivx 1 7).toInt → 0 ≤ (fax 1 0 j).toInt := fun j hj => (hbk j (by omega)).2.2.1
  have hJK : ∀ k j : Nat, (k : Int) < (ivy 12 23).toInt → 12 * k ≤ j → (j : Int) < 12 * (k : Int) + (fay 12 25 k).toInt → (fay 12 26 j).toInt = 3 → 0 ≤ (fay 12 28 j).toInt ∧ (fay 12 28 j).toInt < (k : Int) := bk_K hbk
  have hw8b := congrArg Int32.toInt hq_bales
  have hJF : ∀ a d v : Int, 0 ≤ a → a ≤ 5 → FoX (ivx 1 7).toInt (fax 1 0) (fax 1 1) (fax 1 2) (fax 1 3) a d v → fLo a ≤ v ∧ v ≤ fHi a := fun a d v h1 h2 x => by rw [hq_rules] at x; exact FoX_b hbk ⟨h1, h2⟩ x
  have hJH : ∀ a d v : Int, 0 ≤ a → a ≤ 5 → FoY (ivy 12 23).toInt (fay 12 24) (fay 12 25) (fay 12 26) (fay 12 27) (fay 12 28) a d v → fLo a ≤ v ∧ v ≤ fHi a := fun a d v h1 h2 x => FoY_b hbk ⟨h1, h2⟩ x
  have hJG := hgb
  have hJI : ∀ j : Nat, (j : Int) < (ivy 12 1).toInt → 1 ≤ (fay 12 2 j).toInt ∧ (fay 12 2 j).toInt ≤ 99999 := fun j hj => by rw [← hgr j]; exact hgb j (by omega)
  have hJL : ∀ b l : Int32, cn0 (fun s => fax 10 0 (9 * s + 0)) (fun s => fax 10 0 (9 * s + 1)) b l (ivx 10 1).toInt.toNat ≤ 12 := fun b l => by rw [hq_skeins, cn0_congr (ob := fay 12 4) (ol := fay 12 5) _ (fun j hj => ⟨(hrs j (by omega)).1, (hrs j (by omega)).2.1⟩)]; exact hJN b l
  have hw8p := congrArg Int32.toInt hq_papers
  have hJQ : ∀ p : Nat, (p : Int) < (ivy 12 67).toInt → 0 ≤ (lay 12 70 p).toInt ∧ ((fay 12 68 p).toInt = 0 → (lay 12 70 p).toInt ≤ 129998) ∧ (lay 12 70 p).toInt ≤ 129868002 ∧ -1 ≤ (fay 12 71 p).toInt ∧ (fay 12 71 p).toInt < (p : Int) := fun p hp => ⟨(hpa p hp).2.2.1, (hpa p hp).2.2.2.1, (hpa p hp).2.2.2.2.1, (hpa p hp).2.2.2.2.2.1, (hpa p hp).2.2.2.2.2.2.1⟩
  have hJP : ∀ p : Nat, (p : Int) < (ivx 6 7).toInt → 0 ≤ (fax 6 2 p).toInt ∧ ((fax 6 0 p).toInt = 0 → (fax 6 2 p).toInt ≤ 129998) ∧ (fax 6 2 p).toInt ≤ 129868002 ∧ -1 ≤ (fax 6 3 p).toInt ∧ (fax 6 3 p).toInt < (p : Int) := fun p hp => by rw [(hpa p (by omega)).1.1, (hpa p (by omega)).1.2.2.1, (hpa p (by omega)).1.2.2.2.1]; exact hJQ p (by omega)
  have hJS : ∀ s : Nat, (s : Int) < (ivx 10 1).toInt → (fax 10 0 (9 * s + 4)).toInt ≤ (fax 10 0 (9 * s + 3)).toInt := fun s hs => by rw [(hrs s (by omega)).2.2.2.1, (hrs s (by omega)).2.2.2.2.1]; exact hdr s (by omega)
  have hJT : ∀ j : Nat, 0 ≤ (fay 12 32 j).toInt := fun j => (htx j).2
  refine lv_aload_n hx hb dL_law_706 rfl (lv_at hl 2 rfl) ?_
  refine aw_iconst (v := 1) hx hb hX hbl hbA hS hl hi hi8 (by decide) ⟨by decide, by decide⟩ dL_law_707 dL_law_708 dL_law_709 dL_law_710 dL_law_711 (fun v1 ev1 v2 ev2 => ?_)
  refine aw_iconst (v := 2) hx hb hX hbl hbA hS hl hi hi8 (by decide) ⟨by decide, by decide⟩ dL_law_712 dL_law_713 dL_law_714 dL_law_715 dL_law_716 (fun v3 ev3 v4 ev4 => ?_)
  have hFc := free_all hDx hS hA
  refine va_calli (va_runV (As := [.int v2, .int v4]) (rest := []) ⟨hx, hb, hml, hown, ht⟩ (c_X11_state_f l dC dI H.size ak av x gx cax ivx lvx fax lax hIx v2 v4 hJB) (kV 2 ht m_829 m_830 m_831 m_77 m_832 rfl rfl hd_X11_state_v ⟨Nat.le_of_ble_eq_true rfl, Nat.le_of_ble_eq_true rfl⟩) (vWZ hPx hKx hDx ((hZ.kept hS.2.1).narrow (free_all hDx hS hA)) (rX_11 hKx hPx)) rfl rfl hl.1 rfl (lv_room (Nat.le_of_ble_eq_true rfl)) dL_law_717 ⟨Nat.le_of_ble_eq_true rfl, Nat.le_of_ble_eq_true rfl⟩) hS (fun q _ h => hFc q h) hFc (fun r5 u t H1 locs ht9 hvm hr5 hB hz1 hk1 hS => ?_)
  obtain ⟨n6, n7, n8, n9, n10, n11, hn6, hn10, hn11, xr5_0, hr5, rfl⟩ := hr5
  obtain ⟨hPx, hDx⟩ := hB
  rw [ht9] at hPx
  have hPy := P_kept hPy (la := AdM y gy) (lb := AdX x gx) wmM wmX (fun a ha b hb => (hXY b hb a ha).symm) hk1
  generalize H1 = H at hPx hPy hS ⊢
  have hPx : va_P (dC, dI) classes (WX x gx cax (u2 (u2 ivx 3 3 n10) 3 4 n11) lvx (u2 (u2 fax 1 6 n6) 30 2 n7) (u2 (u2 lax 30 0 n8) 30 1 n9)) H := hPx
  have hDx : va_D A (WX x gx cax (u2 (u2 ivx 3 3 n10) 3 4 n11) lvx (u2 (u2 fax 1 6 n6) 30 2 n7) (u2 (u2 lax 30 0 n8) 30 1 n9)) := (show va_D _ (WX x gx cax (u2 (u2 ivx 3 3 n10) 3 4 n11) lvx (u2 (u2 fax 1 6 n6) 30 2 n7) (u2 (u2 lax 30 0 n8) 30 1 n9)) from hDx).weaken (fun _ _ _ h => hFc _ h)
  refine lv_pop hx hb dL_law_720 rfl ?_
  refine lv_aload_n hx hb dL_law_721 rfl (lv_at hl 1 rfl) ?_
  refine aw_iconst (v := 1) hx hb hX hbl hbA hS hl hi hi8 (by decide) ⟨by decide, by decide⟩ dL_law_722 dL_law_723 dL_law_724 dL_law_725 dL_law_726 (fun v12 ev12 v13 ev13 => ?_)
  refine aw_iconst (v := 2) hx hb hX hbl hbA hS hl hi hi8 (by decide) ⟨by decide, by decide⟩ dL_law_727 dL_law_728 dL_law_729 dL_law_730 dL_law_731 (fun v14 ev14 v15 ev15 => ?_)
  have hFc := free_all hDy hS hA
  refine va_calli (va_runV (As := [.int v13, .int v15]) (rest := []) ⟨hx, hb, hml, hown, ht⟩ (c_X12_state_f l dC dI H.size y gy cay ivy lvy fay lay hIy v13 v15 hJC hJR hJO hJK) (kV 2 ht m_1524 m_1525 m_1526 m_89 m_1527 rfl rfl hd_X12_state_v ⟨Nat.le_of_ble_eq_true rfl, Nat.le_of_ble_eq_true rfl⟩) (vW hPy hKy hDy (rM_12 hKy hPy)) rfl rfl hl.1 rfl (lv_room (Nat.le_of_ble_eq_true rfl)) dL_law_732 ⟨Nat.le_of_ble_eq_true rfl, Nat.le_of_ble_eq_true rfl⟩) hS (fun q _ h => hFc q h) hFc (fun r16 u t H1 locs ht9 hvm hr16 hB hz1 hk1 hS => ?_)
  obtain ⟨n17, n18, n19, n20, n21, n22, n23, n24, n25, n26, hn17, hn18, hn22, xr16_0, hr16, rfl⟩ := hr16
  obtain ⟨hPy, hDy⟩ := hB
  rw [ht9] at hPy
  have hPx := P_kept hPx (la := AdX x gx) (lb := AdM y gy) wmX wmM hXY hk1
  generalize H1 = H at hPx hPy hS ⊢
  have hPy : va_P (dC, dI) classes (WM y gy cay (u2 (u2 ivy 12 19 n21) 12 41 n22) (u2 (u2 (u2 (u2 lvy 12 17 n23) 12 18 n24) 12 44 n25) 12 45 n26) (u2 (u2 fay 12 39 n17) 12 40 n18) (u2 (u2 lay 12 42 n19) 12 43 n20)) H := hPy
  have hDy : va_D A (WM y gy cay (u2 (u2 ivy 12 19 n21) 12 41 n22) (u2 (u2 (u2 (u2 lvy 12 17 n23) 12 18 n24) 12 44 n25) 12 45 n26) (u2 (u2 fay 12 39 n17) 12 40 n18) (u2 (u2 lay 12 42 n19) 12 43 n20)) := (show va_D _ (WM y gy cay (u2 (u2 ivy 12 19 n21) 12 41 n22) (u2 (u2 (u2 (u2 lvy 12 17 n23) 12 18 n24) 12 44 n25) 12 45 n26) (u2 (u2 fay 12 39 n17) 12 40 n18) (u2 (u2 lay 12 42 n19) 12 43 n20)) from hDy).weaken (fun _ _ _ h => hFc _ h)
  refine lv_pop hx hb dL_law_735 rfl ?_
  refine lv_goto (tgt := 1509) hx hb dL_law_736 (by decide) ?_
  exact kk _ _ (u2 (u2 ivx 3 3 n10) 3 4 n11) lvx (u2 (u2 fax 1 6 n6) 30 2 n7) (u2 (u2 lax 30 0 n8) 30 1 n9) (u2 (u2 ivy 12 19 n21) 12 41 n22) (u2 (u2 (u2 (u2 lvy 12 17 n23) 12 18 n24) 12 44 n25) 12 45 n26) (u2 (u2 fay 12 39 n17) 12 40 n18) (u2 (u2 lay 12 42 n19) 12 43 n20) (IX_a (c := 30) (k := 2) (IX_a (c := 1) (k := 6) (IX_i (c := 3) (k := 4) (IX_i (c := 3) (k := 3) hIx hn10) hn11) hn6) (fun j => full_i _)) (IX_a (c := 12) (k := 40) (IX_a (c := 12) (k := 39) (IX_i (c := 12) (k := 41) (IX_i (c := 12) (k := 19) hIy (full_i _)) hn22) hn17) hn18) hJC hJR hJN hJO hq_now hq_bales hq_skeins hq_rules hq_text hq_place hq_papers hrs hls hwd htx hbk hgr hgb hpa hdr hPx hDx hPy hDy hS
