/-! ===== law ===== -/
set_option maxRecDepth 100000 in
theorem m_833 : Cond.methodLink RL 81 yX11_lawful ∈ tb := tb_in 833 (by decide +kernel) rfl
set_option maxRecDepth 100000 in
theorem m_834 : Cond.instanceMethod yX11_lawful ∈ tb := tb_in 834 (by decide +kernel) rfl
set_option maxRecDepth 100000 in
theorem m_835 : Cond.selects RX11 yX11_lawful yX11_lawful ∈ tb := tb_in 835 (by decide +kernel) rfl
set_option maxRecDepth 100000 in
theorem m_836 : Cond.code yX11_lawful cX11_lawful 4 (some .long) ∈ tb := tb_in 836 rfl rfl
set_option maxRecDepth 100000 in
theorem m_854 : Cond.methodLink RL 86 yX11_span ∈ tb := tb_in 854 (by decide +kernel) rfl
set_option maxRecDepth 100000 in
theorem m_855 : Cond.instanceMethod yX11_span ∈ tb := tb_in 855 (by decide +kernel) rfl
set_option maxRecDepth 100000 in
theorem m_856 : Cond.selects RX11 yX11_span yX11_span ∈ tb := tb_in 856 (by decide +kernel) rfl
set_option maxRecDepth 100000 in
theorem m_857 : Cond.code yX11_span cX11_span 7 (some .long) ∈ tb := tb_in 857 rfl rfl
set_option maxRecDepth 100000 in
theorem m_866 : Cond.methodLink RL 91 yX11_cause ∈ tb := tb_in 866 (by decide +kernel) rfl
set_option maxRecDepth 100000 in
theorem m_867 : Cond.instanceMethod yX11_cause ∈ tb := tb_in 867 (by decide +kernel) rfl
set_option maxRecDepth 100000 in
theorem m_868 : Cond.selects RX11 yX11_cause yX11_cause ∈ tb := tb_in 868 (by decide +kernel) rfl
set_option maxRecDepth 100000 in
theorem m_869 : Cond.code yX11_cause cX11_cause 3 (some .int) ∈ tb := tb_in 869 rfl rfl
set_option maxRecDepth 100000 in
theorem m_913 : Cond.methodLink RL 95 yX11_odd ∈ tb := tb_in 913 (by decide +kernel) rfl
set_option maxRecDepth 100000 in
theorem m_914 : Cond.instanceMethod yX11_odd ∈ tb := tb_in 914 (by decide +kernel) rfl
set_option maxRecDepth 100000 in
theorem m_915 : Cond.selects RX11 yX11_odd yX11_odd ∈ tb := tb_in 915 (by decide +kernel) rfl
set_option maxRecDepth 100000 in
theorem m_916 : Cond.code yX11_odd cX11_odd 3 (some .int) ∈ tb := tb_in 916 rfl rfl
set_option maxRecDepth 100000 in
theorem m_925 : Cond.methodLink RL 99 yX11_needed ∈ tb := tb_in 925 (by decide +kernel) rfl
set_option maxRecDepth 100000 in
theorem m_926 : Cond.instanceMethod yX11_needed ∈ tb := tb_in 926 (by decide +kernel) rfl
set_option maxRecDepth 100000 in
theorem m_927 : Cond.selects RX11 yX11_needed yX11_needed ∈ tb := tb_in 927 (by decide +kernel) rfl
set_option maxRecDepth 100000 in
theorem m_928 : Cond.code yX11_needed cX11_needed 3 (some .int) ∈ tb := tb_in 928 rfl rfl
set_option maxRecDepth 100000 in
theorem m_1556 : Cond.methodLink RL 85 yX12_lawful ∈ tb := tb_in 1556 (by decide +kernel) rfl
set_option maxRecDepth 100000 in
theorem m_1557 : Cond.instanceMethod yX12_lawful ∈ tb := tb_in 1557 (by decide +kernel) rfl
set_option maxRecDepth 100000 in
theorem m_1558 : Cond.selects RX12 yX12_lawful yX12_lawful ∈ tb := tb_in 1558 (by decide +kernel) rfl
set_option maxRecDepth 100000 in
theorem m_1559 : Cond.code yX12_lawful cX12_lawful 4 (some .long) ∈ tb := tb_in 1559 rfl rfl
set_option maxRecDepth 100000 in
theorem m_1567 : Cond.methodLink RL 90 yX12_span ∈ tb := tb_in 1567 (by decide +kernel) rfl
set_option maxRecDepth 100000 in
theorem m_1568 : Cond.instanceMethod yX12_span ∈ tb := tb_in 1568 (by decide +kernel) rfl
set_option maxRecDepth 100000 in
theorem m_1569 : Cond.selects RX12 yX12_span yX12_span ∈ tb := tb_in 1569 (by decide +kernel) rfl
set_option maxRecDepth 100000 in
theorem m_1570 : Cond.code yX12_span cX12_span 6 (some .long) ∈ tb := tb_in 1570 rfl rfl
set_option maxRecDepth 100000 in
theorem m_1574 : Cond.methodLink RL 94 yX12_cause ∈ tb := tb_in 1574 (by decide +kernel) rfl
set_option maxRecDepth 100000 in
theorem m_1575 : Cond.instanceMethod yX12_cause ∈ tb := tb_in 1575 (by decide +kernel) rfl
set_option maxRecDepth 100000 in
theorem m_1576 : Cond.selects RX12 yX12_cause yX12_cause ∈ tb := tb_in 1576 (by decide +kernel) rfl
set_option maxRecDepth 100000 in
theorem m_1577 : Cond.code yX12_cause cX12_cause 5 (some .int) ∈ tb := tb_in 1577 rfl rfl
set_option maxRecDepth 100000 in
theorem m_1594 : Cond.methodLink RL 98 yX12_odd ∈ tb := tb_in 1594 (by decide +kernel) rfl
set_option maxRecDepth 100000 in
theorem m_1595 : Cond.instanceMethod yX12_odd ∈ tb := tb_in 1595 (by decide +kernel) rfl
set_option maxRecDepth 100000 in
theorem m_1596 : Cond.selects RX12 yX12_odd yX12_odd ∈ tb := tb_in 1596 (by decide +kernel) rfl
set_option maxRecDepth 100000 in
theorem m_1597 : Cond.code yX12_odd cX12_odd 8 (some .int) ∈ tb := tb_in 1597 rfl rfl
set_option maxRecDepth 100000 in
theorem m_1598 : Cond.methodLink RL 102 yX12_needed ∈ tb := tb_in 1598 (by decide +kernel) rfl
set_option maxRecDepth 100000 in
theorem m_1599 : Cond.instanceMethod yX12_needed ∈ tb := tb_in 1599 (by decide +kernel) rfl
set_option maxRecDepth 100000 in
theorem m_1600 : Cond.selects RX12 yX12_needed yX12_needed ∈ tb := tb_in 1600 (by decide +kernel) rfl
set_option maxRecDepth 100000 in
theorem m_1601 : Cond.code yX12_needed cX12_needed 7 (some .int) ∈ tb := tb_in 1601 rfl rfl
theorem hd_X11_cause_v : yX11_cause.cls = RX11 ∧ yX11_cause.cls ≠ "java/lang/invoke/MethodHandle" ∧ yX11_cause.cls ≠ "java/lang/invoke/VarHandle" ∧ (parseMethodDescriptor yX11_cause.desc).map (fun d => d.parameters.length) = some 2 := by decide +kernel
theorem hd_X11_lawful_v : yX11_lawful.cls = RX11 ∧ yX11_lawful.cls ≠ "java/lang/invoke/MethodHandle" ∧ yX11_lawful.cls ≠ "java/lang/invoke/VarHandle" ∧ (parseMethodDescriptor yX11_lawful.desc).map (fun d => d.parameters.length) = some 3 := by decide +kernel
theorem hd_X11_needed_v : yX11_needed.cls = RX11 ∧ yX11_needed.cls ≠ "java/lang/invoke/MethodHandle" ∧ yX11_needed.cls ≠ "java/lang/invoke/VarHandle" ∧ (parseMethodDescriptor yX11_needed.desc).map (fun d => d.parameters.length) = some 2 := by decide +kernel
theorem hd_X11_odd_v : yX11_odd.cls = RX11 ∧ yX11_odd.cls ≠ "java/lang/invoke/MethodHandle" ∧ yX11_odd.cls ≠ "java/lang/invoke/VarHandle" ∧ (parseMethodDescriptor yX11_odd.desc).map (fun d => d.parameters.length) = some 2 := by decide +kernel
theorem hd_X11_span_v : yX11_span.cls = RX11 ∧ yX11_span.cls ≠ "java/lang/invoke/MethodHandle" ∧ yX11_span.cls ≠ "java/lang/invoke/VarHandle" ∧ (parseMethodDescriptor yX11_span.desc).map (fun d => d.parameters.length) = some 2 := by decide +kernel
theorem hd_X12_cause_v : yX12_cause.cls = RX12 ∧ yX12_cause.cls ≠ "java/lang/invoke/MethodHandle" ∧ yX12_cause.cls ≠ "java/lang/invoke/VarHandle" ∧ (parseMethodDescriptor yX12_cause.desc).map (fun d => d.parameters.length) = some 2 := by decide +kernel
theorem hd_X12_lawful_v : yX12_lawful.cls = RX12 ∧ yX12_lawful.cls ≠ "java/lang/invoke/MethodHandle" ∧ yX12_lawful.cls ≠ "java/lang/invoke/VarHandle" ∧ (parseMethodDescriptor yX12_lawful.desc).map (fun d => d.parameters.length) = some 3 := by decide +kernel
theorem hd_X12_needed_v : yX12_needed.cls = RX12 ∧ yX12_needed.cls ≠ "java/lang/invoke/MethodHandle" ∧ yX12_needed.cls ≠ "java/lang/invoke/VarHandle" ∧ (parseMethodDescriptor yX12_needed.desc).map (fun d => d.parameters.length) = some 2 := by decide +kernel
theorem hd_X12_odd_v : yX12_odd.cls = RX12 ∧ yX12_odd.cls ≠ "java/lang/invoke/MethodHandle" ∧ yX12_odd.cls ≠ "java/lang/invoke/VarHandle" ∧ (parseMethodDescriptor yX12_odd.desc).map (fun d => d.parameters.length) = some 2 := by decide +kernel
theorem hd_X12_span_v : yX12_span.cls = RX12 ∧ yX12_span.cls ≠ "java/lang/invoke/MethodHandle" ∧ yX12_span.cls ≠ "java/lang/invoke/VarHandle" ∧ (parseMethodDescriptor yX12_span.desc).map (fun d => d.parameters.length) = some 2 := by decide +kernel
set_option maxRecDepth 100000 in
theorem dvL_law_739 : ([(739, .aload_n 1, 1), (740, .aload_n 0, 1), (741, .iload_n 3, 1), (742, .iconst 1, 1), (743, .iadd, 1), (744, .iaload, 1), (745, .aload_n 0, 1), (746, .iload_n 3, 1), (747, .iconst 2, 1), (748, .iadd, 1), (749, .iaload, 1), (750, .aload_n 0, 1), (751, .iload_n 3, 1), (752, .iconst 3, 1), (753, .iadd, 1), (754, .iaload, 1), (755, .invokevirtual 81, 3), (758, .pop2, 1), (759, .aload_n 2, 1), (760, .aload_n 0, 1), (761, .iload_n 3, 1), (762, .iconst 1, 1), (763, .iadd, 1), (764, .iaload, 1)] : List (Nat × Instr × Nat)).all (fun q => decide (decode cL_law q.1 = .ok (q.2.1, q.2.2))) = true := by decide +kernel
theorem dL_law_739 : decode cL_law 739 = .ok (.aload_n 1, 1) := all_at dvL_law_739 0 rfl
theorem dL_law_740 : decode cL_law 740 = .ok (.aload_n 0, 1) := all_at dvL_law_739 1 rfl
theorem dL_law_741 : decode cL_law 741 = .ok (.iload_n 3, 1) := all_at dvL_law_739 2 rfl
theorem dL_law_742 : decode cL_law 742 = .ok (.iconst 1, 1) := all_at dvL_law_739 3 rfl
theorem dL_law_743 : decode cL_law 743 = .ok (.iadd, 1) := all_at dvL_law_739 4 rfl
theorem dL_law_744 : decode cL_law 744 = .ok (.iaload, 1) := all_at dvL_law_739 5 rfl
theorem dL_law_745 : decode cL_law 745 = .ok (.aload_n 0, 1) := all_at dvL_law_739 6 rfl
theorem dL_law_746 : decode cL_law 746 = .ok (.iload_n 3, 1) := all_at dvL_law_739 7 rfl
theorem dL_law_747 : decode cL_law 747 = .ok (.iconst 2, 1) := all_at dvL_law_739 8 rfl
theorem dL_law_748 : decode cL_law 748 = .ok (.iadd, 1) := all_at dvL_law_739 9 rfl
theorem dL_law_749 : decode cL_law 749 = .ok (.iaload, 1) := all_at dvL_law_739 10 rfl
theorem dL_law_750 : decode cL_law 750 = .ok (.aload_n 0, 1) := all_at dvL_law_739 11 rfl
theorem dL_law_751 : decode cL_law 751 = .ok (.iload_n 3, 1) := all_at dvL_law_739 12 rfl
theorem dL_law_752 : decode cL_law 752 = .ok (.iconst 3, 1) := all_at dvL_law_739 13 rfl
theorem dL_law_753 : decode cL_law 753 = .ok (.iadd, 1) := all_at dvL_law_739 14 rfl
theorem dL_law_754 : decode cL_law 754 = .ok (.iaload, 1) := all_at dvL_law_739 15 rfl
theorem dL_law_755 : decode cL_law 755 = .ok (.invokevirtual 81, 3) := all_at dvL_law_739 16 rfl
theorem dL_law_758 : decode cL_law 758 = .ok (.pop2, 1) := all_at dvL_law_739 17 rfl
theorem dL_law_759 : decode cL_law 759 = .ok (.aload_n 2, 1) := all_at dvL_law_739 18 rfl
theorem dL_law_760 : decode cL_law 760 = .ok (.aload_n 0, 1) := all_at dvL_law_739 19 rfl
theorem dL_law_761 : decode cL_law 761 = .ok (.iload_n 3, 1) := all_at dvL_law_739 20 rfl
theorem dL_law_762 : decode cL_law 762 = .ok (.iconst 1, 1) := all_at dvL_law_739 21 rfl
theorem dL_law_763 : decode cL_law 763 = .ok (.iadd, 1) := all_at dvL_law_739 22 rfl
theorem dL_law_764 : decode cL_law 764 = .ok (.iaload, 1) := all_at dvL_law_739 23 rfl
set_option maxRecDepth 100000 in
theorem dvL_law_765 : ([(765, .aload_n 0, 1), (766, .iload_n 3, 1), (767, .iconst 2, 1), (768, .iadd, 1), (769, .iaload, 1), (770, .aload_n 0, 1), (771, .iload_n 3, 1), (772, .iconst 3, 1), (773, .iadd, 1), (774, .iaload, 1), (775, .invokevirtual 85, 3), (778, .pop2, 1), (779, .goto 729, 3), (782, .aload_n 1, 1), (783, .aload_n 0, 1), (784, .iload_n 3, 1), (785, .iconst 1, 1), (786, .iadd, 1), (787, .iaload, 1), (788, .aload_n 0, 1), (789, .iload_n 3, 1), (790, .iconst 2, 1), (791, .iadd, 1), (792, .iaload, 1)] : List (Nat × Instr × Nat)).all (fun q => decide (decode cL_law q.1 = .ok (q.2.1, q.2.2))) = true := by decide +kernel
theorem dL_law_765 : decode cL_law 765 = .ok (.aload_n 0, 1) := all_at dvL_law_765 0 rfl
theorem dL_law_766 : decode cL_law 766 = .ok (.iload_n 3, 1) := all_at dvL_law_765 1 rfl
theorem dL_law_767 : decode cL_law 767 = .ok (.iconst 2, 1) := all_at dvL_law_765 2 rfl
theorem dL_law_768 : decode cL_law 768 = .ok (.iadd, 1) := all_at dvL_law_765 3 rfl
theorem dL_law_769 : decode cL_law 769 = .ok (.iaload, 1) := all_at dvL_law_765 4 rfl
theorem dL_law_770 : decode cL_law 770 = .ok (.aload_n 0, 1) := all_at dvL_law_765 5 rfl
theorem dL_law_771 : decode cL_law 771 = .ok (.iload_n 3, 1) := all_at dvL_law_765 6 rfl
theorem dL_law_772 : decode cL_law 772 = .ok (.iconst 3, 1) := all_at dvL_law_765 7 rfl
theorem dL_law_773 : decode cL_law 773 = .ok (.iadd, 1) := all_at dvL_law_765 8 rfl
theorem dL_law_774 : decode cL_law 774 = .ok (.iaload, 1) := all_at dvL_law_765 9 rfl
theorem dL_law_775 : decode cL_law 775 = .ok (.invokevirtual 85, 3) := all_at dvL_law_765 10 rfl
theorem dL_law_778 : decode cL_law 778 = .ok (.pop2, 1) := all_at dvL_law_765 11 rfl
theorem dL_law_779 : decode cL_law 779 = .ok (.goto 729, 3) := all_at dvL_law_765 12 rfl
theorem dL_law_782 : decode cL_law 782 = .ok (.aload_n 1, 1) := all_at dvL_law_765 13 rfl
theorem dL_law_783 : decode cL_law 783 = .ok (.aload_n 0, 1) := all_at dvL_law_765 14 rfl
theorem dL_law_784 : decode cL_law 784 = .ok (.iload_n 3, 1) := all_at dvL_law_765 15 rfl
theorem dL_law_785 : decode cL_law 785 = .ok (.iconst 1, 1) := all_at dvL_law_765 16 rfl
theorem dL_law_786 : decode cL_law 786 = .ok (.iadd, 1) := all_at dvL_law_765 17 rfl
theorem dL_law_787 : decode cL_law 787 = .ok (.iaload, 1) := all_at dvL_law_765 18 rfl
theorem dL_law_788 : decode cL_law 788 = .ok (.aload_n 0, 1) := all_at dvL_law_765 19 rfl
theorem dL_law_789 : decode cL_law 789 = .ok (.iload_n 3, 1) := all_at dvL_law_765 20 rfl
theorem dL_law_790 : decode cL_law 790 = .ok (.iconst 2, 1) := all_at dvL_law_765 21 rfl
theorem dL_law_791 : decode cL_law 791 = .ok (.iadd, 1) := all_at dvL_law_765 22 rfl
theorem dL_law_792 : decode cL_law 792 = .ok (.iaload, 1) := all_at dvL_law_765 23 rfl
set_option maxRecDepth 100000 in
theorem dvL_law_793 : ([(793, .invokevirtual 86, 3), (796, .pop2, 1), (797, .aload_n 2, 1), (798, .aload_n 0, 1), (799, .iload_n 3, 1), (800, .iconst 1, 1), (801, .iadd, 1), (802, .iaload, 1), (803, .aload_n 0, 1), (804, .iload_n 3, 1), (805, .iconst 2, 1), (806, .iadd, 1), (807, .iaload, 1), (808, .invokevirtual 90, 3), (811, .pop2, 1), (812, .goto 696, 3), (815, .aload_n 1, 1), (816, .aload_n 0, 1), (817, .iload_n 3, 1), (818, .iconst 1, 1), (819, .iadd, 1), (820, .iaload, 1), (821, .aload_n 0, 1), (822, .iload_n 3, 1)] : List (Nat × Instr × Nat)).all (fun q => decide (decode cL_law q.1 = .ok (q.2.1, q.2.2))) = true := by decide +kernel
theorem dL_law_793 : decode cL_law 793 = .ok (.invokevirtual 86, 3) := all_at dvL_law_793 0 rfl
theorem dL_law_796 : decode cL_law 796 = .ok (.pop2, 1) := all_at dvL_law_793 1 rfl
theorem dL_law_797 : decode cL_law 797 = .ok (.aload_n 2, 1) := all_at dvL_law_793 2 rfl
theorem dL_law_798 : decode cL_law 798 = .ok (.aload_n 0, 1) := all_at dvL_law_793 3 rfl
theorem dL_law_799 : decode cL_law 799 = .ok (.iload_n 3, 1) := all_at dvL_law_793 4 rfl
theorem dL_law_800 : decode cL_law 800 = .ok (.iconst 1, 1) := all_at dvL_law_793 5 rfl
theorem dL_law_801 : decode cL_law 801 = .ok (.iadd, 1) := all_at dvL_law_793 6 rfl
theorem dL_law_802 : decode cL_law 802 = .ok (.iaload, 1) := all_at dvL_law_793 7 rfl
theorem dL_law_803 : decode cL_law 803 = .ok (.aload_n 0, 1) := all_at dvL_law_793 8 rfl
theorem dL_law_804 : decode cL_law 804 = .ok (.iload_n 3, 1) := all_at dvL_law_793 9 rfl
theorem dL_law_805 : decode cL_law 805 = .ok (.iconst 2, 1) := all_at dvL_law_793 10 rfl
theorem dL_law_806 : decode cL_law 806 = .ok (.iadd, 1) := all_at dvL_law_793 11 rfl
theorem dL_law_807 : decode cL_law 807 = .ok (.iaload, 1) := all_at dvL_law_793 12 rfl
theorem dL_law_808 : decode cL_law 808 = .ok (.invokevirtual 90, 3) := all_at dvL_law_793 13 rfl
theorem dL_law_811 : decode cL_law 811 = .ok (.pop2, 1) := all_at dvL_law_793 14 rfl
theorem dL_law_812 : decode cL_law 812 = .ok (.goto 696, 3) := all_at dvL_law_793 15 rfl
theorem dL_law_815 : decode cL_law 815 = .ok (.aload_n 1, 1) := all_at dvL_law_793 16 rfl
theorem dL_law_816 : decode cL_law 816 = .ok (.aload_n 0, 1) := all_at dvL_law_793 17 rfl
theorem dL_law_817 : decode cL_law 817 = .ok (.iload_n 3, 1) := all_at dvL_law_793 18 rfl
theorem dL_law_818 : decode cL_law 818 = .ok (.iconst 1, 1) := all_at dvL_law_793 19 rfl
theorem dL_law_819 : decode cL_law 819 = .ok (.iadd, 1) := all_at dvL_law_793 20 rfl
theorem dL_law_820 : decode cL_law 820 = .ok (.iaload, 1) := all_at dvL_law_793 21 rfl
theorem dL_law_821 : decode cL_law 821 = .ok (.aload_n 0, 1) := all_at dvL_law_793 22 rfl
theorem dL_law_822 : decode cL_law 822 = .ok (.iload_n 3, 1) := all_at dvL_law_793 23 rfl
set_option maxRecDepth 100000 in
theorem dvL_law_823 : ([(823, .iconst 2, 1), (824, .iadd, 1), (825, .iaload, 1), (826, .invokevirtual 91, 3), (829, .pop, 1), (830, .aload_n 2, 1), (831, .aload_n 0, 1), (832, .iload_n 3, 1), (833, .iconst 1, 1), (834, .iadd, 1), (835, .iaload, 1), (836, .aload_n 0, 1), (837, .iload_n 3, 1), (838, .iconst 2, 1), (839, .iadd, 1), (840, .iaload, 1), (841, .invokevirtual 94, 3), (844, .pop, 1), (845, .goto 663, 3), (848, .aload_n 1, 1), (849, .aload_n 0, 1), (850, .iload_n 3, 1), (851, .iconst 1, 1), (852, .iadd, 1)] : List (Nat × Instr × Nat)).all (fun q => decide (decode cL_law q.1 = .ok (q.2.1, q.2.2))) = true := by decide +kernel
theorem dL_law_823 : decode cL_law 823 = .ok (.iconst 2, 1) := all_at dvL_law_823 0 rfl
theorem dL_law_824 : decode cL_law 824 = .ok (.iadd, 1) := all_at dvL_law_823 1 rfl
theorem dL_law_825 : decode cL_law 825 = .ok (.iaload, 1) := all_at dvL_law_823 2 rfl
theorem dL_law_826 : decode cL_law 826 = .ok (.invokevirtual 91, 3) := all_at dvL_law_823 3 rfl
theorem dL_law_829 : decode cL_law 829 = .ok (.pop, 1) := all_at dvL_law_823 4 rfl
theorem dL_law_830 : decode cL_law 830 = .ok (.aload_n 2, 1) := all_at dvL_law_823 5 rfl
theorem dL_law_831 : decode cL_law 831 = .ok (.aload_n 0, 1) := all_at dvL_law_823 6 rfl
theorem dL_law_832 : decode cL_law 832 = .ok (.iload_n 3, 1) := all_at dvL_law_823 7 rfl
theorem dL_law_833 : decode cL_law 833 = .ok (.iconst 1, 1) := all_at dvL_law_823 8 rfl
theorem dL_law_834 : decode cL_law 834 = .ok (.iadd, 1) := all_at dvL_law_823 9 rfl
theorem dL_law_835 : decode cL_law 835 = .ok (.iaload, 1) := all_at dvL_law_823 10 rfl
theorem dL_law_836 : decode cL_law 836 = .ok (.aload_n 0, 1) := all_at dvL_law_823 11 rfl
theorem dL_law_837 : decode cL_law 837 = .ok (.iload_n 3, 1) := all_at dvL_law_823 12 rfl
theorem dL_law_838 : decode cL_law 838 = .ok (.iconst 2, 1) := all_at dvL_law_823 13 rfl
theorem dL_law_839 : decode cL_law 839 = .ok (.iadd, 1) := all_at dvL_law_823 14 rfl
theorem dL_law_840 : decode cL_law 840 = .ok (.iaload, 1) := all_at dvL_law_823 15 rfl
theorem dL_law_841 : decode cL_law 841 = .ok (.invokevirtual 94, 3) := all_at dvL_law_823 16 rfl
theorem dL_law_844 : decode cL_law 844 = .ok (.pop, 1) := all_at dvL_law_823 17 rfl
theorem dL_law_845 : decode cL_law 845 = .ok (.goto 663, 3) := all_at dvL_law_823 18 rfl
theorem dL_law_848 : decode cL_law 848 = .ok (.aload_n 1, 1) := all_at dvL_law_823 19 rfl
theorem dL_law_849 : decode cL_law 849 = .ok (.aload_n 0, 1) := all_at dvL_law_823 20 rfl
theorem dL_law_850 : decode cL_law 850 = .ok (.iload_n 3, 1) := all_at dvL_law_823 21 rfl
theorem dL_law_851 : decode cL_law 851 = .ok (.iconst 1, 1) := all_at dvL_law_823 22 rfl
theorem dL_law_852 : decode cL_law 852 = .ok (.iadd, 1) := all_at dvL_law_823 23 rfl
set_option maxRecDepth 100000 in
theorem dvL_law_853 : ([(853, .iaload, 1), (854, .aload_n 0, 1), (855, .iload_n 3, 1), (856, .iconst 2, 1), (857, .iadd, 1), (858, .iaload, 1), (859, .invokevirtual 95, 3), (862, .pop, 1), (863, .aload_n 2, 1), (864, .aload_n 0, 1), (865, .iload_n 3, 1), (866, .iconst 1, 1), (867, .iadd, 1), (868, .iaload, 1), (869, .aload_n 0, 1), (870, .iload_n 3, 1), (871, .iconst 2, 1), (872, .iadd, 1), (873, .iaload, 1), (874, .invokevirtual 98, 3), (877, .pop, 1), (878, .goto 630, 3), (881, .aload_n 1, 1), (882, .aload_n 0, 1)] : List (Nat × Instr × Nat)).all (fun q => decide (decode cL_law q.1 = .ok (q.2.1, q.2.2))) = true := by decide +kernel
theorem dL_law_853 : decode cL_law 853 = .ok (.iaload, 1) := all_at dvL_law_853 0 rfl
theorem dL_law_854 : decode cL_law 854 = .ok (.aload_n 0, 1) := all_at dvL_law_853 1 rfl
theorem dL_law_855 : decode cL_law 855 = .ok (.iload_n 3, 1) := all_at dvL_law_853 2 rfl
theorem dL_law_856 : decode cL_law 856 = .ok (.iconst 2, 1) := all_at dvL_law_853 3 rfl
theorem dL_law_857 : decode cL_law 857 = .ok (.iadd, 1) := all_at dvL_law_853 4 rfl
theorem dL_law_858 : decode cL_law 858 = .ok (.iaload, 1) := all_at dvL_law_853 5 rfl
theorem dL_law_859 : decode cL_law 859 = .ok (.invokevirtual 95, 3) := all_at dvL_law_853 6 rfl
theorem dL_law_862 : decode cL_law 862 = .ok (.pop, 1) := all_at dvL_law_853 7 rfl
theorem dL_law_863 : decode cL_law 863 = .ok (.aload_n 2, 1) := all_at dvL_law_853 8 rfl
theorem dL_law_864 : decode cL_law 864 = .ok (.aload_n 0, 1) := all_at dvL_law_853 9 rfl
theorem dL_law_865 : decode cL_law 865 = .ok (.iload_n 3, 1) := all_at dvL_law_853 10 rfl
theorem dL_law_866 : decode cL_law 866 = .ok (.iconst 1, 1) := all_at dvL_law_853 11 rfl
theorem dL_law_867 : decode cL_law 867 = .ok (.iadd, 1) := all_at dvL_law_853 12 rfl
theorem dL_law_868 : decode cL_law 868 = .ok (.iaload, 1) := all_at dvL_law_853 13 rfl
theorem dL_law_869 : decode cL_law 869 = .ok (.aload_n 0, 1) := all_at dvL_law_853 14 rfl
theorem dL_law_870 : decode cL_law 870 = .ok (.iload_n 3, 1) := all_at dvL_law_853 15 rfl
theorem dL_law_871 : decode cL_law 871 = .ok (.iconst 2, 1) := all_at dvL_law_853 16 rfl
theorem dL_law_872 : decode cL_law 872 = .ok (.iadd, 1) := all_at dvL_law_853 17 rfl
theorem dL_law_873 : decode cL_law 873 = .ok (.iaload, 1) := all_at dvL_law_853 18 rfl
theorem dL_law_874 : decode cL_law 874 = .ok (.invokevirtual 98, 3) := all_at dvL_law_853 19 rfl
theorem dL_law_877 : decode cL_law 877 = .ok (.pop, 1) := all_at dvL_law_853 20 rfl
theorem dL_law_878 : decode cL_law 878 = .ok (.goto 630, 3) := all_at dvL_law_853 21 rfl
theorem dL_law_881 : decode cL_law 881 = .ok (.aload_n 1, 1) := all_at dvL_law_853 22 rfl
theorem dL_law_882 : decode cL_law 882 = .ok (.aload_n 0, 1) := all_at dvL_law_853 23 rfl
set_option maxRecDepth 100000 in
theorem dvL_law_883 : ([(883, .iload_n 3, 1), (884, .iconst 1, 1), (885, .iadd, 1), (886, .iaload, 1), (887, .aload_n 0, 1), (888, .iload_n 3, 1), (889, .iconst 2, 1), (890, .iadd, 1), (891, .iaload, 1), (892, .invokevirtual 99, 3), (895, .pop, 1), (896, .aload_n 2, 1), (897, .aload_n 0, 1), (898, .iload_n 3, 1), (899, .iconst 1, 1), (900, .iadd, 1), (901, .iaload, 1), (902, .aload_n 0, 1), (903, .iload_n 3, 1), (904, .iconst 2, 1), (905, .iadd, 1), (906, .iaload, 1), (907, .invokevirtual 102, 3), (910, .pop, 1)] : List (Nat × Instr × Nat)).all (fun q => decide (decode cL_law q.1 = .ok (q.2.1, q.2.2))) = true := by decide +kernel
theorem dL_law_883 : decode cL_law 883 = .ok (.iload_n 3, 1) := all_at dvL_law_883 0 rfl
theorem dL_law_884 : decode cL_law 884 = .ok (.iconst 1, 1) := all_at dvL_law_883 1 rfl
theorem dL_law_885 : decode cL_law 885 = .ok (.iadd, 1) := all_at dvL_law_883 2 rfl
theorem dL_law_886 : decode cL_law 886 = .ok (.iaload, 1) := all_at dvL_law_883 3 rfl
theorem dL_law_887 : decode cL_law 887 = .ok (.aload_n 0, 1) := all_at dvL_law_883 4 rfl
theorem dL_law_888 : decode cL_law 888 = .ok (.iload_n 3, 1) := all_at dvL_law_883 5 rfl
theorem dL_law_889 : decode cL_law 889 = .ok (.iconst 2, 1) := all_at dvL_law_883 6 rfl
theorem dL_law_890 : decode cL_law 890 = .ok (.iadd, 1) := all_at dvL_law_883 7 rfl
theorem dL_law_891 : decode cL_law 891 = .ok (.iaload, 1) := all_at dvL_law_883 8 rfl
theorem dL_law_892 : decode cL_law 892 = .ok (.invokevirtual 99, 3) := all_at dvL_law_883 9 rfl
theorem dL_law_895 : decode cL_law 895 = .ok (.pop, 1) := all_at dvL_law_883 10 rfl
theorem dL_law_896 : decode cL_law 896 = .ok (.aload_n 2, 1) := all_at dvL_law_883 11 rfl
theorem dL_law_897 : decode cL_law 897 = .ok (.aload_n 0, 1) := all_at dvL_law_883 12 rfl
theorem dL_law_898 : decode cL_law 898 = .ok (.iload_n 3, 1) := all_at dvL_law_883 13 rfl
theorem dL_law_899 : decode cL_law 899 = .ok (.iconst 1, 1) := all_at dvL_law_883 14 rfl
theorem dL_law_900 : decode cL_law 900 = .ok (.iadd, 1) := all_at dvL_law_883 15 rfl
theorem dL_law_901 : decode cL_law 901 = .ok (.iaload, 1) := all_at dvL_law_883 16 rfl
theorem dL_law_902 : decode cL_law 902 = .ok (.aload_n 0, 1) := all_at dvL_law_883 17 rfl
theorem dL_law_903 : decode cL_law 903 = .ok (.iload_n 3, 1) := all_at dvL_law_883 18 rfl
theorem dL_law_904 : decode cL_law 904 = .ok (.iconst 2, 1) := all_at dvL_law_883 19 rfl
theorem dL_law_905 : decode cL_law 905 = .ok (.iadd, 1) := all_at dvL_law_883 20 rfl
theorem dL_law_906 : decode cL_law 906 = .ok (.iaload, 1) := all_at dvL_law_883 21 rfl
theorem dL_law_907 : decode cL_law 907 = .ok (.invokevirtual 102, 3) := all_at dvL_law_883 22 rfl
theorem dL_law_910 : decode cL_law 910 = .ok (.pop, 1) := all_at dvL_law_883 23 rfl
theorem dL_law_911 : decode cL_law 911 = .ok (.goto 597, 3) := by decide +kernel
set_option maxHeartbeats 4000000 in
set_option maxRecDepth 100000 in
theorem law_15 {p : Program} {e : Env} {s : State} {m : MethodId} {below : List Frame} {meth : Method} {c : Code} (l : Launch) {b L : Nat} {xs : Nat → Int32} (hL : L ≤ 4096) (C0 : lw_At p s m meth c b L xs) {dC : Nat → ClassId} {dI : Nat → Nat → Nat} {A : Nat → Prop} (hA : ∀ q : Nat, s.heap.size ≤ q → A q) (hbA : ¬ A b) (hAs : ∀ q : Nat, A q → s.heap.size ≤ q) {x y : Nat} {gx gy : Nat → Nat → Nat} {cax cay : Nat → Nat → ClassId} {ak av : Nat → Nat} (hKx : va_K (dC, dI) classes (TX cax) s) (hKy : va_K (dC, dI) classes (TM cay) s) (hXY : ∀ a ∈ AdX x gx, ∀ b ∈ AdM y gy, a ≠ b) (hZ : zC ak av A s s.heap) {H : Heap} {locs : List Loc} {ivx : Nat → Nat → Int32} {lvx : Nat → Nat → Int64} {fax : Nat → Nat → Nat → Int32} {lax : Nat → Nat → Nat → Int64} {ivy : Nat → Nat → Int32} {lvy : Nat → Nat → Int64} {fay : Nat → Nat → Nat → Int32} {lay : Nat → Nat → Nat → Int64} (hIx : IX ivx fax) (hIy : IX ivy fay) (hJC : JCf (ivy 12 23).toInt (fay 12 25) (fay 12 26) (fay 12 27) (fay 12 28)) (hJR : JRf (ivy 12 3).toInt (fay 12 7)) (hJN : JNf (ivy 12 3).toInt (fay 12 4) (fay 12 5)) (hJO : ((ivy 12 20).toInt = -1 ∧ (ivy 12 21).toInt = -1 ∧ (ivy 12 22).toInt = -1)) (hq_now : ivx 11 10 = ivy 12 0) (hq_bales : ivx 0 7 = ivy 12 1) (hq_skeins : ivx 10 1 = ivy 12 3) (hq_rules : ivx 1 7 = ivy 12 23) (hq_text : ivx 8 2 = ivy 12 33) (hq_place : ivx 8 3 = ivy 12 36) (hrs : (∀ s : Nat, (s : Int) < (ivy 12 3).toInt → fax 10 0 (9 * s + 0) = fay 12 4 s ∧ fax 10 0 (9 * s + 1) = fay 12 5 s ∧ fax 10 0 (9 * s + 2) = fay 12 6 s ∧ fax 10 0 (9 * s + 3) = fay 12 7 s ∧ fax 10 0 (9 * s + 4) = fay 12 8 s ∧ fax 10 0 (9 * s + 5) = fay 12 9 s ∧ fax 10 0 (9 * s + 6) = fay 12 10 s ∧ fax 10 0 (9 * s + 7) = fay 12 11 s ∧ fax 10 0 (9 * s + 8) = fay 12 12 s)) (hls : (∀ j : Nat, -1 ≤ (fay 12 12 j).toInt)) (htx : (∀ j : Nat, (fax 8 1 j).toInt = sg (fay 12 32 j).toInt ∧ 0 ≤ (fay 12 32 j).toInt)) (hbk : BkE (ivy 12 23).toInt (fax 1 0) (fax 1 1) (fax 1 2) (fax 1 3) (fax 1 4) (fax 1 5) (fay 12 24) (fay 12 25) (fay 12 26) (fay 12 27) (fay 12 28) (fay 12 29) (fay 12 30) (fay 12 31)) (hPx : va_P (dC, dI) classes (WX x gx cax ivx lvx fax lax) H) (hDx : va_D A (WX x gx cax ivx lvx fax lax)) (hPy : va_P (dC, dI) classes (WM y gy cay ivy lvy fay lay) H) (hDy : va_D A (WM y gy cay ivy lvy fay lay)) (hS : va_S A s.heap H locs) {i : Int32} {ls : Array Slot} (hl : lv_has ls 4 [(3, .int i), (2, .ref y), (1, .ref x), (0, .ref b)]) (hi : 0 ≤ i.toInt ∧ i.toInt ≤ 4088) (hi8 : i.toInt + 8 ≤ (L : Int)) (kk : ∀ (H : Heap) (locs : List Loc) (ivx : Nat → Nat → Int32) (lvx : Nat → Nat → Int64) (fax : Nat → Nat → Nat → Int32) (lax : Nat → Nat → Nat → Int64) (ivy : Nat → Nat → Int32) (lvy : Nat → Nat → Int64) (fay : Nat → Nat → Nat → Int32) (lay : Nat → Nat → Nat → Int64), IX ivx fax → IX ivy fay → JCf (ivy 12 23).toInt (fay 12 25) (fay 12 26) (fay 12 27) (fay 12 28) → JRf (ivy 12 3).toInt (fay 12 7) → JNf (ivy 12 3).toInt (fay 12 4) (fay 12 5) → ((ivy 12 20).toInt = -1 ∧ (ivy 12 21).toInt = -1 ∧ (ivy 12 22).toInt = -1) → ivx 11 10 = ivy 12 0 → ivx 0 7 = ivy 12 1 → ivx 10 1 = ivy 12 3 → ivx 1 7 = ivy 12 23 → ivx 8 2 = ivy 12 33 → ivx 8 3 = ivy 12 36 → (∀ s : Nat, (s : Int) < (ivy 12 3).toInt → fax 10 0 (9 * s + 0) = fay 12 4 s ∧ fax 10 0 (9 * s + 1) = fay 12 5 s ∧ fax 10 0 (9 * s + 2) = fay 12 6 s ∧ fax 10 0 (9 * s + 3) = fay 12 7 s ∧ fax 10 0 (9 * s + 4) = fay 12 8 s ∧ fax 10 0 (9 * s + 5) = fay 12 9 s ∧ fax 10 0 (9 * s + 6) = fay 12 10 s ∧ fax 10 0 (9 * s + 7) = fay 12 11 s ∧ fax 10 0 (9 * s + 8) = fay 12 12 s) → (∀ j : Nat, -1 ≤ (fay 12 12 j).toInt) → (∀ j : Nat, (fax 8 1 j).toInt = sg (fay 12 32 j).toInt ∧ 0 ≤ (fay 12 32 j).toInt) → BkE (ivy 12 23).toInt (fax 1 0) (fax 1 1) (fax 1 2) (fax 1 3) (fax 1 4) (fax 1 5) (fay 12 24) (fay 12 25) (fay 12 26) (fay 12 27) (fay 12 28) (fay 12 29) (fay 12 30) (fay 12 31) → va_P (dC, dI) classes (WX x gx cax ivx lvx fax lax) H → va_D A (WX x gx cax ivx lvx fax lax) → va_P (dC, dI) classes (WM y gy cay ivy lvy fay lay) H → va_D A (WM y gy cay ivy lvy fay lay) → va_S A s.heap H locs → W p l e room_1 s m #[Value.ref b] below meth c H locs 98 5431 (lw_Z below #[Value.ref b] s) (F0 m 1508 ls [])) : W p l e room_1 s m #[Value.ref b] below meth c H locs 98 5431 (lw_Z below #[Value.ref b] s) (F0 m 739 ls []) := by
  obtain ⟨hx, hb, hr, hml, hown, hts, hX, hbl, hlocks, hgv⟩ := id C0
  have ht := tb_of hts
  have hw8r := congrArg Int32.toInt hq_rules
  have hJB : ∀ j : Nat, (j : Int) < (ivx 1 7).toInt → 0 ≤ (fax 1 0 j).toInt := fun j hj => (hbk j (by omega)).2.2.1
  have hJK : ∀ k j : Nat, (k : Int) < (ivy 12 23).toInt → 12 * k ≤ j → (j : Int) < 12 * (k : Int) + (fay 12 25 k).toInt → (fay 12 26 j).toInt = 3 → 0 ≤ (fay 12 28 j).toInt ∧ (fay 12 28 j).toInt < (k : Int) := bk_K hbk
  have hJT : ∀ j : Nat, 0 ≤ (fay 12 32 j).toInt := fun j => (htx j).2
  refine lv_aload_n hx hb dL_law_739 rfl (lv_at hl 2 rfl) ?_
  refine lv_aload_n hx hb dL_law_740 rfl (lv_at hl 3 rfl) ?_
  refine lv_iload_n hx hb dL_law_741 rfl (lv_at hl 0 rfl) ?_
  refine lv_iconst (v := 1) hx hb dL_law_742 (by decide) ?_
  refine lv_iadd hx hb dL_law_743 ?_
  refine lv_topi (fun v1 ev1 => ?_)
  have tv1 := z_add ev1 (rfl : (i).toInt = _) (by decide : (1 : Int32).toInt = 1) (by omega) (by omega)
  refine va_sld hx hb hX hbl hbA hS (vp_in_iff.mpr ⟨by omega, by omega⟩ : vp_in v1 L) dL_law_744 ?_
  refine lv_topi (fun v2 ev2 => ?_)
  refine lv_aload_n hx hb dL_law_745 rfl (lv_at hl 3 rfl) ?_
  refine lv_iload_n hx hb dL_law_746 rfl (lv_at hl 0 rfl) ?_
  refine lv_iconst (v := 2) hx hb dL_law_747 (by decide) ?_
  refine lv_iadd hx hb dL_law_748 ?_
  refine lv_topi (fun v3 ev3 => ?_)
  have tv3 := z_add ev3 (rfl : (i).toInt = _) (by decide : (2 : Int32).toInt = 2) (by omega) (by omega)
  refine va_sld hx hb hX hbl hbA hS (vp_in_iff.mpr ⟨by omega, by omega⟩ : vp_in v3 L) dL_law_749 ?_
  refine lv_topi (fun v4 ev4 => ?_)
  refine lv_aload_n hx hb dL_law_750 rfl (lv_at hl 3 rfl) ?_
  refine lv_iload_n hx hb dL_law_751 rfl (lv_at hl 0 rfl) ?_
  refine lv_iconst (v := 3) hx hb dL_law_752 (by decide) ?_
  refine lv_iadd hx hb dL_law_753 ?_
  refine lv_topi (fun v5 ev5 => ?_)
  have tv5 := z_add ev5 (rfl : (i).toInt = _) (by decide : (3 : Int32).toInt = 3) (by omega) (by omega)
  refine va_sld hx hb hX hbl hbA hS (vp_in_iff.mpr ⟨by omega, by omega⟩ : vp_in v5 L) dL_law_754 ?_
  refine lv_topi (fun v6 ev6 => ?_)
  have hFc := free_all hDx hS hA
  refine va_calll (va_runV (As := [.int v2, .int v4, .int v6]) (rest := []) ⟨hx, hb, hml, hown, ht⟩ (c_X11_lawful l dC dI H.size ak av x gx cax ivx lvx fax lax hIx v2 v4 v6) (kV 3 ht m_833 m_834 m_835 m_77 m_836 rfl rfl hd_X11_lawful_v ⟨Nat.le_of_ble_eq_true rfl, Nat.le_of_ble_eq_true rfl⟩) (vWZ hPx hKx hDx ((hZ.kept hS.2.1).narrow (free_all hDx hS hA)) (rX_11 hKx hPx)) rfl rfl hl.1 rfl (lv_room (Nat.le_of_ble_eq_true rfl)) dL_law_755 ⟨Nat.le_of_ble_eq_true rfl, Nat.le_of_ble_eq_true rfl⟩) hS (fun q _ h => hFc q h) hFc (fun r7 u t H1 locs ht9 hvm hr7 hB hz1 hk1 hS => ?_)
  obtain ⟨n8, n9, n10, n11, n12, n13, hn8, hn12, hn13, hr7, rfl⟩ := hr7
  obtain ⟨hPx, hDx⟩ := hB
  rw [ht9] at hPx
  have hPy := P_kept hPy (la := AdM y gy) (lb := AdX x gx) wmM wmX (fun a ha b hb => (hXY b hb a ha).symm) hk1
  generalize H1 = H at hPx hPy hS ⊢
  have hPx : va_P (dC, dI) classes (WX x gx cax (u2 (u2 ivx 3 3 n12) 3 4 n13) lvx (u2 (u2 fax 1 6 n8) 30 2 n9) (u2 (u2 lax 30 0 n10) 30 1 n11)) H := hPx
  have hDx : va_D A (WX x gx cax (u2 (u2 ivx 3 3 n12) 3 4 n13) lvx (u2 (u2 fax 1 6 n8) 30 2 n9) (u2 (u2 lax 30 0 n10) 30 1 n11)) := (show va_D _ (WX x gx cax (u2 (u2 ivx 3 3 n12) 3 4 n13) lvx (u2 (u2 fax 1 6 n8) 30 2 n9) (u2 (u2 lax 30 0 n10) 30 1 n11)) from hDx).weaken (fun _ _ _ h => hFc _ h)
  refine lv_pop2_2 hx hb dL_law_758 rfl ?_
  refine lv_aload_n hx hb dL_law_759 rfl (lv_at hl 1 rfl) ?_
  refine lv_aload_n hx hb dL_law_760 rfl (lv_at hl 3 rfl) ?_
  refine lv_iload_n hx hb dL_law_761 rfl (lv_at hl 0 rfl) ?_
  refine lv_iconst (v := 1) hx hb dL_law_762 (by decide) ?_
  refine lv_iadd hx hb dL_law_763 ?_
  refine lv_topi (fun v14 ev14 => ?_)
  have tv14 := z_add ev14 (rfl : (i).toInt = _) (by decide : (1 : Int32).toInt = 1) (by omega) (by omega)
  refine va_sld hx hb hX hbl hbA hS (vp_in_iff.mpr ⟨by omega, by omega⟩ : vp_in v14 L) dL_law_764 ?_
  refine lv_topi (fun v15 ev15 => ?_)
  refine lv_aload_n hx hb dL_law_765 rfl (lv_at hl 3 rfl) ?_
  refine lv_iload_n hx hb dL_law_766 rfl (lv_at hl 0 rfl) ?_
  refine lv_iconst (v := 2) hx hb dL_law_767 (by decide) ?_
  refine lv_iadd hx hb dL_law_768 ?_
  refine lv_topi (fun v16 ev16 => ?_)
  have tv16 := z_add ev16 (rfl : (i).toInt = _) (by decide : (2 : Int32).toInt = 2) (by omega) (by omega)
  refine va_sld hx hb hX hbl hbA hS (vp_in_iff.mpr ⟨by omega, by omega⟩ : vp_in v16 L) dL_law_769 ?_
  refine lv_topi (fun v17 ev17 => ?_)
  refine lv_aload_n hx hb dL_law_770 rfl (lv_at hl 3 rfl) ?_
  refine lv_iload_n hx hb dL_law_771 rfl (lv_at hl 0 rfl) ?_
  refine lv_iconst (v := 3) hx hb dL_law_772 (by decide) ?_
  refine lv_iadd hx hb dL_law_773 ?_
  refine lv_topi (fun v18 ev18 => ?_)
  have tv18 := z_add ev18 (rfl : (i).toInt = _) (by decide : (3 : Int32).toInt = 3) (by omega) (by omega)
  refine va_sld hx hb hX hbl hbA hS (vp_in_iff.mpr ⟨by omega, by omega⟩ : vp_in v18 L) dL_law_774 ?_
  refine lv_topi (fun v19 ev19 => ?_)
  have hFc := free_all hDy hS hA
  refine va_calll (va_runV (As := [.int v15, .int v17, .int v19]) (rest := []) ⟨hx, hb, hml, hown, ht⟩ (c_X12_lawful l dC dI H.size y gy cay ivy lvy fay lay hIy v15 v17 v19 hJC hJR) (kV 3 ht m_1556 m_1557 m_1558 m_89 m_1559 rfl rfl hd_X12_lawful_v ⟨Nat.le_of_ble_eq_true rfl, Nat.le_of_ble_eq_true rfl⟩) (vW hPy hKy hDy (rM_12 hKy hPy)) rfl rfl hl.1 rfl (lv_room (Nat.le_of_ble_eq_true rfl)) dL_law_775 ⟨Nat.le_of_ble_eq_true rfl, Nat.le_of_ble_eq_true rfl⟩) hS (fun q _ h => hFc q h) hFc (fun r20 u t H1 locs ht9 hvm hr20 hB hz1 hk1 hS => ?_)
  obtain ⟨n21, n22, n23, n24, n25, n26, n27, n28, n29, n30, n31, n32, hn21, hn22, hn26, hr20, rfl⟩ := hr20
  obtain ⟨hPy, hDy⟩ := hB
  rw [ht9] at hPy
  have hPx := P_kept hPx (la := AdX x gx) (lb := AdM y gy) wmX wmM hXY hk1
  generalize H1 = H at hPx hPy hS ⊢
  have hPy : va_P (dC, dI) classes (WM y gy cay (u2 (u2 ivy 12 19 n25) 12 41 n26) (u2 (u2 (u2 (u2 (u2 (u2 lvy 12 17 n27) 12 18 n28) 12 44 n29) 12 45 n30) 12 46 n31) 12 47 n32) (u2 (u2 fay 12 39 n21) 12 40 n22) (u2 (u2 lay 12 42 n23) 12 43 n24)) H := hPy
  have hDy : va_D A (WM y gy cay (u2 (u2 ivy 12 19 n25) 12 41 n26) (u2 (u2 (u2 (u2 (u2 (u2 lvy 12 17 n27) 12 18 n28) 12 44 n29) 12 45 n30) 12 46 n31) 12 47 n32) (u2 (u2 fay 12 39 n21) 12 40 n22) (u2 (u2 lay 12 42 n23) 12 43 n24)) := (show va_D _ (WM y gy cay (u2 (u2 ivy 12 19 n25) 12 41 n26) (u2 (u2 (u2 (u2 (u2 (u2 lvy 12 17 n27) 12 18 n28) 12 44 n29) 12 45 n30) 12 46 n31) 12 47 n32) (u2 (u2 fay 12 39 n21) 12 40 n22) (u2 (u2 lay 12 42 n23) 12 43 n24)) from hDy).weaken (fun _ _ _ h => hFc _ h)
  refine lv_pop2_2 hx hb dL_law_778 rfl ?_
  refine lv_goto (tgt := 1508) hx hb dL_law_779 (by decide) ?_
  exact kk _ _ (u2 (u2 ivx 3 3 n12) 3 4 n13) lvx (u2 (u2 fax 1 6 n8) 30 2 n9) (u2 (u2 lax 30 0 n10) 30 1 n11) (u2 (u2 ivy 12 19 n25) 12 41 n26) (u2 (u2 (u2 (u2 (u2 (u2 lvy 12 17 n27) 12 18 n28) 12 44 n29) 12 45 n30) 12 46 n31) 12 47 n32) (u2 (u2 fay 12 39 n21) 12 40 n22) (u2 (u2 lay 12 42 n23) 12 43 n24) (IX_a (c := 30) (k := 2) (IX_a (c := 1) (k := 6) (IX_i (c := 3) (k := 4) (IX_i (c := 3) (k := 3) hIx hn12) hn13) hn8) (fun j => full_i _)) (IX_a (c := 12) (k := 40) (IX_a (c := 12) (k := 39) (IX_i (c := 12) (k := 41) (IX_i (c := 12) (k := 19) hIy (full_i _)) hn26) hn21) hn22) hJC hJR hJN hJO hq_now hq_bales hq_skeins hq_rules hq_text hq_place hrs hls htx hbk hPx hDx hPy hDy hS
set_option maxHeartbeats 4000000 in
set_option maxRecDepth 100000 in
theorem law_16 {p : Program} {e : Env} {s : State} {m : MethodId} {below : List Frame} {meth : Method} {c : Code} (l : Launch) {b L : Nat} {xs : Nat → Int32} (hL : L ≤ 4096) (C0 : lw_At p s m meth c b L xs) {dC : Nat → ClassId} {dI : Nat → Nat → Nat} {A : Nat → Prop} (hA : ∀ q : Nat, s.heap.size ≤ q → A q) (hbA : ¬ A b) (hAs : ∀ q : Nat, A q → s.heap.size ≤ q) {x y : Nat} {gx gy : Nat → Nat → Nat} {cax cay : Nat → Nat → ClassId} {ak av : Nat → Nat} (hKx : va_K (dC, dI) classes (TX cax) s) (hKy : va_K (dC, dI) classes (TM cay) s) (hXY : ∀ a ∈ AdX x gx, ∀ b ∈ AdM y gy, a ≠ b) (hZ : zC ak av A s s.heap) {H : Heap} {locs : List Loc} {ivx : Nat → Nat → Int32} {lvx : Nat → Nat → Int64} {fax : Nat → Nat → Nat → Int32} {lax : Nat → Nat → Nat → Int64} {ivy : Nat → Nat → Int32} {lvy : Nat → Nat → Int64} {fay : Nat → Nat → Nat → Int32} {lay : Nat → Nat → Nat → Int64} (hIx : IX ivx fax) (hIy : IX ivy fay) (hJC : JCf (ivy 12 23).toInt (fay 12 25) (fay 12 26) (fay 12 27) (fay 12 28)) (hJR : JRf (ivy 12 3).toInt (fay 12 7)) (hJN : JNf (ivy 12 3).toInt (fay 12 4) (fay 12 5)) (hJO : ((ivy 12 20).toInt = -1 ∧ (ivy 12 21).toInt = -1 ∧ (ivy 12 22).toInt = -1)) (hq_now : ivx 11 10 = ivy 12 0) (hq_bales : ivx 0 7 = ivy 12 1) (hq_skeins : ivx 10 1 = ivy 12 3) (hq_rules : ivx 1 7 = ivy 12 23) (hq_text : ivx 8 2 = ivy 12 33) (hq_place : ivx 8 3 = ivy 12 36) (hrs : (∀ s : Nat, (s : Int) < (ivy 12 3).toInt → fax 10 0 (9 * s + 0) = fay 12 4 s ∧ fax 10 0 (9 * s + 1) = fay 12 5 s ∧ fax 10 0 (9 * s + 2) = fay 12 6 s ∧ fax 10 0 (9 * s + 3) = fay 12 7 s ∧ fax 10 0 (9 * s + 4) = fay 12 8 s ∧ fax 10 0 (9 * s + 5) = fay 12 9 s ∧ fax 10 0 (9 * s + 6) = fay 12 10 s ∧ fax 10 0 (9 * s + 7) = fay 12 11 s ∧ fax 10 0 (9 * s + 8) = fay 12 12 s)) (hls : (∀ j : Nat, -1 ≤ (fay 12 12 j).toInt)) (htx : (∀ j : Nat, (fax 8 1 j).toInt = sg (fay 12 32 j).toInt ∧ 0 ≤ (fay 12 32 j).toInt)) (hbk : BkE (ivy 12 23).toInt (fax 1 0) (fax 1 1) (fax 1 2) (fax 1 3) (fax 1 4) (fax 1 5) (fay 12 24) (fay 12 25) (fay 12 26) (fay 12 27) (fay 12 28) (fay 12 29) (fay 12 30) (fay 12 31)) (hPx : va_P (dC, dI) classes (WX x gx cax ivx lvx fax lax) H) (hDx : va_D A (WX x gx cax ivx lvx fax lax)) (hPy : va_P (dC, dI) classes (WM y gy cay ivy lvy fay lay) H) (hDy : va_D A (WM y gy cay ivy lvy fay lay)) (hS : va_S A s.heap H locs) {i : Int32} {ls : Array Slot} (hl : lv_has ls 4 [(3, .int i), (2, .ref y), (1, .ref x), (0, .ref b)]) (hi : 0 ≤ i.toInt ∧ i.toInt ≤ 4088) (hi8 : i.toInt + 8 ≤ (L : Int)) (kk : ∀ (H : Heap) (locs : List Loc) (ivx : Nat → Nat → Int32) (lvx : Nat → Nat → Int64) (fax : Nat → Nat → Nat → Int32) (lax : Nat → Nat → Nat → Int64) (ivy : Nat → Nat → Int32) (lvy : Nat → Nat → Int64) (fay : Nat → Nat → Nat → Int32) (lay : Nat → Nat → Nat → Int64), IX ivx fax → IX ivy fay → JCf (ivy 12 23).toInt (fay 12 25) (fay 12 26) (fay 12 27) (fay 12 28) → JRf (ivy 12 3).toInt (fay 12 7) → JNf (ivy 12 3).toInt (fay 12 4) (fay 12 5) → ((ivy 12 20).toInt = -1 ∧ (ivy 12 21).toInt = -1 ∧ (ivy 12 22).toInt = -1) → ivx 11 10 = ivy 12 0 → ivx 0 7 = ivy 12 1 → ivx 10 1 = ivy 12 3 → ivx 1 7 = ivy 12 23 → ivx 8 2 = ivy 12 33 → ivx 8 3 = ivy 12 36 → (∀ s : Nat, (s : Int) < (ivy 12 3).toInt → fax 10 0 (9 * s + 0) = fay 12 4 s ∧ fax 10 0 (9 * s + 1) = fay 12 5 s ∧ fax 10 0 (9 * s + 2) = fay 12 6 s ∧ fax 10 0 (9 * s + 3) = fay 12 7 s ∧ fax 10 0 (9 * s + 4) = fay 12 8 s ∧ fax 10 0 (9 * s + 5) = fay 12 9 s ∧ fax 10 0 (9 * s + 6) = fay 12 10 s ∧ fax 10 0 (9 * s + 7) = fay 12 11 s ∧ fax 10 0 (9 * s + 8) = fay 12 12 s) → (∀ j : Nat, -1 ≤ (fay 12 12 j).toInt) → (∀ j : Nat, (fax 8 1 j).toInt = sg (fay 12 32 j).toInt ∧ 0 ≤ (fay 12 32 j).toInt) → BkE (ivy 12 23).toInt (fax 1 0) (fax 1 1) (fax 1 2) (fax 1 3) (fax 1 4) (fax 1 5) (fay 12 24) (fay 12 25) (fay 12 26) (fay 12 27) (fay 12 28) (fay 12 29) (fay 12 30) (fay 12 31) → va_P (dC, dI) classes (WX x gx cax ivx lvx fax lax) H → va_D A (WX x gx cax ivx lvx fax lax) → va_P (dC, dI) classes (WM y gy cay ivy lvy fay lay) H → va_D A (WM y gy cay ivy lvy fay lay) → va_S A s.heap H locs → W p l e room_1 s m #[Value.ref b] below meth c H locs 98 5431 (lw_Z below #[Value.ref b] s) (F0 m 1508 ls [])) : W p l e room_1 s m #[Value.ref b] below meth c H locs 98 5431 (lw_Z below #[Value.ref b] s) (F0 m 782 ls []) := by
  obtain ⟨hx, hb, hr, hml, hown, hts, hX, hbl, hlocks, hgv⟩ := id C0
  have ht := tb_of hts
  have hw8r := congrArg Int32.toInt hq_rules
  have hJB : ∀ j : Nat, (j : Int) < (ivx 1 7).toInt → 0 ≤ (fax 1 0 j).toInt := fun j hj => (hbk j (by omega)).2.2.1
  have hJK : ∀ k j : Nat, (k : Int) < (ivy 12 23).toInt → 12 * k ≤ j → (j : Int) < 12 * (k : Int) + (fay 12 25 k).toInt → (fay 12 26 j).toInt = 3 → 0 ≤ (fay 12 28 j).toInt ∧ (fay 12 28 j).toInt < (k : Int) := bk_K hbk
  have hJT : ∀ j : Nat, 0 ≤ (fay 12 32 j).toInt := fun j => (htx j).2
  refine lv_aload_n hx hb dL_law_782 rfl (lv_at hl 2 rfl) ?_
  refine lv_aload_n hx hb dL_law_783 rfl (lv_at hl 3 rfl) ?_
  refine lv_iload_n hx hb dL_law_784 rfl (lv_at hl 0 rfl) ?_
  refine lv_iconst (v := 1) hx hb dL_law_785 (by decide) ?_
  refine lv_iadd hx hb dL_law_786 ?_
  refine lv_topi (fun v1 ev1 => ?_)
  have tv1 := z_add ev1 (rfl : (i).toInt = _) (by decide : (1 : Int32).toInt = 1) (by omega) (by omega)
  refine va_sld hx hb hX hbl hbA hS (vp_in_iff.mpr ⟨by omega, by omega⟩ : vp_in v1 L) dL_law_787 ?_
  refine lv_topi (fun v2 ev2 => ?_)
  refine lv_aload_n hx hb dL_law_788 rfl (lv_at hl 3 rfl) ?_
  refine lv_iload_n hx hb dL_law_789 rfl (lv_at hl 0 rfl) ?_
  refine lv_iconst (v := 2) hx hb dL_law_790 (by decide) ?_
  refine lv_iadd hx hb dL_law_791 ?_
  refine lv_topi (fun v3 ev3 => ?_)
  have tv3 := z_add ev3 (rfl : (i).toInt = _) (by decide : (2 : Int32).toInt = 2) (by omega) (by omega)
  refine va_sld hx hb hX hbl hbA hS (vp_in_iff.mpr ⟨by omega, by omega⟩ : vp_in v3 L) dL_law_792 ?_
  refine lv_topi (fun v4 ev4 => ?_)
  have hFc := free_all hDx hS hA
  refine va_calll (va_runV (As := [.int v2, .int v4]) (rest := []) ⟨hx, hb, hml, hown, ht⟩ (c_X11_span l dC dI H.size ak av x gx cax ivx lvx fax lax hIx v2 v4) (kV 2 ht m_854 m_855 m_856 m_77 m_857 rfl rfl hd_X11_span_v ⟨Nat.le_of_ble_eq_true rfl, Nat.le_of_ble_eq_true rfl⟩) (vWZ hPx hKx hDx ((hZ.kept hS.2.1).narrow (free_all hDx hS hA)) (rX_11 hKx hPx)) rfl rfl hl.1 rfl (lv_room (Nat.le_of_ble_eq_true rfl)) dL_law_793 ⟨Nat.le_of_ble_eq_true rfl, Nat.le_of_ble_eq_true rfl⟩) hS (fun q _ h => hFc q h) hFc (fun r5 u t H1 locs ht9 hvm hr5 hB hz1 hk1 hS => ?_)
  obtain ⟨n6, n7, n8, n9, hn6, hr5, rfl⟩ := hr5
  obtain ⟨hPx, hDx⟩ := hB
  rw [ht9] at hPx
  have hPy := P_kept hPy (la := AdM y gy) (lb := AdX x gx) wmM wmX (fun a ha b hb => (hXY b hb a ha).symm) hk1
  generalize H1 = H at hPx hPy hS ⊢
  have hPx : va_P (dC, dI) classes (WX x gx cax ivx lvx (u2 (u2 fax 1 6 n6) 30 2 n7) (u2 (u2 lax 30 0 n8) 30 1 n9)) H := hPx
  have hDx : va_D A (WX x gx cax ivx lvx (u2 (u2 fax 1 6 n6) 30 2 n7) (u2 (u2 lax 30 0 n8) 30 1 n9)) := (show va_D _ (WX x gx cax ivx lvx (u2 (u2 fax 1 6 n6) 30 2 n7) (u2 (u2 lax 30 0 n8) 30 1 n9)) from hDx).weaken (fun _ _ _ h => hFc _ h)
  refine lv_pop2_2 hx hb dL_law_796 rfl ?_
  refine lv_aload_n hx hb dL_law_797 rfl (lv_at hl 1 rfl) ?_
  refine lv_aload_n hx hb dL_law_798 rfl (lv_at hl 3 rfl) ?_
  refine lv_iload_n hx hb dL_law_799 rfl (lv_at hl 0 rfl) ?_
  refine lv_iconst (v := 1) hx hb dL_law_800 (by decide) ?_
  refine lv_iadd hx hb dL_law_801 ?_
  refine lv_topi (fun v10 ev10 => ?_)
  have tv10 := z_add ev10 (rfl : (i).toInt = _) (by decide : (1 : Int32).toInt = 1) (by omega) (by omega)
  refine va_sld hx hb hX hbl hbA hS (vp_in_iff.mpr ⟨by omega, by omega⟩ : vp_in v10 L) dL_law_802 ?_
  refine lv_topi (fun v11 ev11 => ?_)
  refine lv_aload_n hx hb dL_law_803 rfl (lv_at hl 3 rfl) ?_
  refine lv_iload_n hx hb dL_law_804 rfl (lv_at hl 0 rfl) ?_
  refine lv_iconst (v := 2) hx hb dL_law_805 (by decide) ?_
  refine lv_iadd hx hb dL_law_806 ?_
  refine lv_topi (fun v12 ev12 => ?_)
  have tv12 := z_add ev12 (rfl : (i).toInt = _) (by decide : (2 : Int32).toInt = 2) (by omega) (by omega)
  refine va_sld hx hb hX hbl hbA hS (vp_in_iff.mpr ⟨by omega, by omega⟩ : vp_in v12 L) dL_law_807 ?_
  refine lv_topi (fun v13 ev13 => ?_)
  have hFc := free_all hDy hS hA
  refine va_calll (va_runV (As := [.int v11, .int v13]) (rest := []) ⟨hx, hb, hml, hown, ht⟩ (c_X12_span l dC dI H.size y gy cay ivy lvy fay lay hIy v11 v13 hJC hJR hJO) (kV 2 ht m_1567 m_1568 m_1569 m_89 m_1570 rfl rfl hd_X12_span_v ⟨Nat.le_of_ble_eq_true rfl, Nat.le_of_ble_eq_true rfl⟩) (vW hPy hKy hDy (rM_12 hKy hPy)) rfl rfl hl.1 rfl (lv_room (Nat.le_of_ble_eq_true rfl)) dL_law_808 ⟨Nat.le_of_ble_eq_true rfl, Nat.le_of_ble_eq_true rfl⟩) hS (fun q _ h => hFc q h) hFc (fun r14 u t H1 locs ht9 hvm hr14 hB hz1 hk1 hS => ?_)
  obtain ⟨n15, n16, n17, n18, n19, n20, n21, n22, hn15, hn16, hn18, hr14, rfl⟩ := hr14
  obtain ⟨hPy, hDy⟩ := hB
  rw [ht9] at hPy
  have hPx := P_kept hPx (la := AdX x gx) (lb := AdM y gy) wmX wmM hXY hk1
  generalize H1 = H at hPx hPy hS ⊢
  have hPy : va_P (dC, dI) classes (WM y gy cay (u2 (u2 ivy 12 19 n17) 12 41 n18) (u2 (u2 (u2 (u2 lvy 12 17 n19) 12 18 n20) 12 46 n21) 12 47 n22) (u2 (u2 fay 12 39 n15) 12 40 n16) lay) H := hPy
  have hDy : va_D A (WM y gy cay (u2 (u2 ivy 12 19 n17) 12 41 n18) (u2 (u2 (u2 (u2 lvy 12 17 n19) 12 18 n20) 12 46 n21) 12 47 n22) (u2 (u2 fay 12 39 n15) 12 40 n16) lay) := (show va_D _ (WM y gy cay (u2 (u2 ivy 12 19 n17) 12 41 n18) (u2 (u2 (u2 (u2 lvy 12 17 n19) 12 18 n20) 12 46 n21) 12 47 n22) (u2 (u2 fay 12 39 n15) 12 40 n16) lay) from hDy).weaken (fun _ _ _ h => hFc _ h)
  refine lv_pop2_2 hx hb dL_law_811 rfl ?_
  refine lv_goto (tgt := 1508) hx hb dL_law_812 (by decide) ?_
  exact kk _ _ ivx lvx (u2 (u2 fax 1 6 n6) 30 2 n7) (u2 (u2 lax 30 0 n8) 30 1 n9) (u2 (u2 ivy 12 19 n17) 12 41 n18) (u2 (u2 (u2 (u2 lvy 12 17 n19) 12 18 n20) 12 46 n21) 12 47 n22) (u2 (u2 fay 12 39 n15) 12 40 n16) lay (IX_a (c := 30) (k := 2) (IX_a (c := 1) (k := 6) hIx hn6) (fun j => full_i _)) (IX_a (c := 12) (k := 40) (IX_a (c := 12) (k := 39) (IX_i (c := 12) (k := 41) (IX_i (c := 12) (k := 19) hIy (full_i _)) hn18) hn15) hn16) hJC hJR hJN hJO hq_now hq_bales hq_skeins hq_rules hq_text hq_place hrs hls htx hbk hPx hDx hPy hDy hS
set_option maxHeartbeats 4000000 in
set_option maxRecDepth 100000 in
theorem law_17 {p : Program} {e : Env} {s : State} {m : MethodId} {below : List Frame} {meth : Method} {c : Code} (l : Launch) {b L : Nat} {xs : Nat → Int32} (hL : L ≤ 4096) (C0 : lw_At p s m meth c b L xs) {dC : Nat → ClassId} {dI : Nat → Nat → Nat} {A : Nat → Prop} (hA : ∀ q : Nat, s.heap.size ≤ q → A q) (hbA : ¬ A b) (hAs : ∀ q : Nat, A q → s.heap.size ≤ q) {x y : Nat} {gx gy : Nat → Nat → Nat} {cax cay : Nat → Nat → ClassId} {ak av : Nat → Nat} (hKx : va_K (dC, dI) classes (TX cax) s) (hKy : va_K (dC, dI) classes (TM cay) s) (hXY : ∀ a ∈ AdX x gx, ∀ b ∈ AdM y gy, a ≠ b) (hZ : zC ak av A s s.heap) {H : Heap} {locs : List Loc} {ivx : Nat → Nat → Int32} {lvx : Nat → Nat → Int64} {fax : Nat → Nat → Nat → Int32} {lax : Nat → Nat → Nat → Int64} {ivy : Nat → Nat → Int32} {lvy : Nat → Nat → Int64} {fay : Nat → Nat → Nat → Int32} {lay : Nat → Nat → Nat → Int64} (hIx : IX ivx fax) (hIy : IX ivy fay) (hJC : JCf (ivy 12 23).toInt (fay 12 25) (fay 12 26) (fay 12 27) (fay 12 28)) (hJR : JRf (ivy 12 3).toInt (fay 12 7)) (hJN : JNf (ivy 12 3).toInt (fay 12 4) (fay 12 5)) (hJO : ((ivy 12 20).toInt = -1 ∧ (ivy 12 21).toInt = -1 ∧ (ivy 12 22).toInt = -1)) (hq_now : ivx 11 10 = ivy 12 0) (hq_bales : ivx 0 7 = ivy 12 1) (hq_skeins : ivx 10 1 = ivy 12 3) (hq_rules : ivx 1 7 = ivy 12 23) (hq_text : ivx 8 2 = ivy 12 33) (hq_place : ivx 8 3 = ivy 12 36) (hrs : (∀ s : Nat, (s : Int) < (ivy 12 3).toInt → fax 10 0 (9 * s + 0) = fay 12 4 s ∧ fax 10 0 (9 * s + 1) = fay 12 5 s ∧ fax 10 0 (9 * s + 2) = fay 12 6 s ∧ fax 10 0 (9 * s + 3) = fay 12 7 s ∧ fax 10 0 (9 * s + 4) = fay 12 8 s ∧ fax 10 0 (9 * s + 5) = fay 12 9 s ∧ fax 10 0 (9 * s + 6) = fay 12 10 s ∧ fax 10 0 (9 * s + 7) = fay 12 11 s ∧ fax 10 0 (9 * s + 8) = fay 12 12 s)) (hls : (∀ j : Nat, -1 ≤ (fay 12 12 j).toInt)) (htx : (∀ j : Nat, (fax 8 1 j).toInt = sg (fay 12 32 j).toInt ∧ 0 ≤ (fay 12 32 j).toInt)) (hbk : BkE (ivy 12 23).toInt (fax 1 0) (fax 1 1) (fax 1 2) (fax 1 3) (fax 1 4) (fax 1 5) (fay 12 24) (fay 12 25) (fay 12 26) (fay 12 27) (fay 12 28) (fay 12 29) (fay 12 30) (fay 12 31)) (hPx : va_P (dC, dI) classes (WX x gx cax ivx lvx fax lax) H) (hDx : va_D A (WX x gx cax ivx lvx fax lax)) (hPy : va_P (dC, dI) classes (WM y gy cay ivy lvy fay lay) H) (hDy : va_D A (WM y gy cay ivy lvy fay lay)) (hS : va_S A s.heap H locs) {i : Int32} {ls : Array Slot} (hl : lv_has ls 4 [(3, .int i), (2, .ref y), (1, .ref x), (0, .ref b)]) (hi : 0 ≤ i.toInt ∧ i.toInt ≤ 4088) (hi8 : i.toInt + 8 ≤ (L : Int)) (kk : ∀ (H : Heap) (locs : List Loc) (ivx : Nat → Nat → Int32) (lvx : Nat → Nat → Int64) (fax : Nat → Nat → Nat → Int32) (lax : Nat → Nat → Nat → Int64) (ivy : Nat → Nat → Int32) (lvy : Nat → Nat → Int64) (fay : Nat → Nat → Nat → Int32) (lay : Nat → Nat → Nat → Int64), IX ivx fax → IX ivy fay → JCf (ivy 12 23).toInt (fay 12 25) (fay 12 26) (fay 12 27) (fay 12 28) → JRf (ivy 12 3).toInt (fay 12 7) → JNf (ivy 12 3).toInt (fay 12 4) (fay 12 5) → ((ivy 12 20).toInt = -1 ∧ (ivy 12 21).toInt = -1 ∧ (ivy 12 22).toInt = -1) → ivx 11 10 = ivy 12 0 → ivx 0 7 = ivy 12 1 → ivx 10 1 = ivy 12 3 → ivx 1 7 = ivy 12 23 → ivx 8 2 = ivy 12 33 → ivx 8 3 = ivy 12 36 → (∀ s : Nat, (s : Int) < (ivy 12 3).toInt → fax 10 0 (9 * s + 0) = fay 12 4 s ∧ fax 10 0 (9 * s + 1) = fay 12 5 s ∧ fax 10 0 (9 * s + 2) = fay 12 6 s ∧ fax 10 0 (9 * s + 3) = fay 12 7 s ∧ fax 10 0 (9 * s + 4) = fay 12 8 s ∧ fax 10 0 (9 * s + 5) = fay 12 9 s ∧ fax 10 0 (9 * s + 6) = fay 12 10 s ∧ fax 10 0 (9 * s + 7) = fay 12 11 s ∧ fax 10 0 (9 * s + 8) = fay 12 12 s) → (∀ j : Nat, -1 ≤ (fay 12 12 j).toInt) → (∀ j : Nat, (fax 8 1 j).toInt = sg (fay 12 32 j).toInt ∧ 0 ≤ (fay 12 32 j).toInt) → BkE (ivy 12 23).toInt (fax 1 0) (fax 1 1) (fax 1 2) (fax 1 3) (fax 1 4) (fax 1 5) (fay 12 24) (fay 12 25) (fay 12 26) (fay 12 27) (fay 12 28) (fay 12 29) (fay 12 30) (fay 12 31) → va_P (dC, dI) classes (WX x gx cax ivx lvx fax lax) H → va_D A (WX x gx cax ivx lvx fax lax) → va_P (dC, dI) classes (WM y gy cay ivy lvy fay lay) H → va_D A (WM y gy cay ivy lvy fay lay) → va_S A s.heap H locs → W p l e room_1 s m #[Value.ref b] below meth c H locs 98 5431 (lw_Z below #[Value.ref b] s) (F0 m 1508 ls [])) : W p l e room_1 s m #[Value.ref b] below meth c H locs 98 5431 (lw_Z below #[Value.ref b] s) (F0 m 815 ls []) := by
  obtain ⟨hx, hb, hr, hml, hown, hts, hX, hbl, hlocks, hgv⟩ := id C0
  have ht := tb_of hts
  have hw8r := congrArg Int32.toInt hq_rules
  have hJB : ∀ j : Nat, (j : Int) < (ivx 1 7).toInt → 0 ≤ (fax 1 0 j).toInt := fun j hj => (hbk j (by omega)).2.2.1
  have hJK : ∀ k j : Nat, (k : Int) < (ivy 12 23).toInt → 12 * k ≤ j → (j : Int) < 12 * (k : Int) + (fay 12 25 k).toInt → (fay 12 26 j).toInt = 3 → 0 ≤ (fay 12 28 j).toInt ∧ (fay 12 28 j).toInt < (k : Int) := bk_K hbk
  have hJT : ∀ j : Nat, 0 ≤ (fay 12 32 j).toInt := fun j => (htx j).2
  refine lv_aload_n hx hb dL_law_815 rfl (lv_at hl 2 rfl) ?_
  refine lv_aload_n hx hb dL_law_816 rfl (lv_at hl 3 rfl) ?_
  refine lv_iload_n hx hb dL_law_817 rfl (lv_at hl 0 rfl) ?_
  refine lv_iconst (v := 1) hx hb dL_law_818 (by decide) ?_
  refine lv_iadd hx hb dL_law_819 ?_
  refine lv_topi (fun v1 ev1 => ?_)
  have tv1 := z_add ev1 (rfl : (i).toInt = _) (by decide : (1 : Int32).toInt = 1) (by omega) (by omega)
  refine va_sld hx hb hX hbl hbA hS (vp_in_iff.mpr ⟨by omega, by omega⟩ : vp_in v1 L) dL_law_820 ?_
  refine lv_topi (fun v2 ev2 => ?_)
  refine lv_aload_n hx hb dL_law_821 rfl (lv_at hl 3 rfl) ?_
  refine lv_iload_n hx hb dL_law_822 rfl (lv_at hl 0 rfl) ?_
  refine lv_iconst (v := 2) hx hb dL_law_823 (by decide) ?_
  refine lv_iadd hx hb dL_law_824 ?_
  refine lv_topi (fun v3 ev3 => ?_)
  have tv3 := z_add ev3 (rfl : (i).toInt = _) (by decide : (2 : Int32).toInt = 2) (by omega) (by omega)
  refine va_sld hx hb hX hbl hbA hS (vp_in_iff.mpr ⟨by omega, by omega⟩ : vp_in v3 L) dL_law_825 ?_
  refine lv_topi (fun v4 ev4 => ?_)
  have hFc := free_all hDx hS hA
  refine va_calli (va_runV (As := [.int v2, .int v4]) (rest := []) ⟨hx, hb, hml, hown, ht⟩ (c_X11_cause l dC dI H.size ak av x gx cax ivx lvx fax lax hIx v2 v4) (kV 2 ht m_866 m_867 m_868 m_77 m_869 rfl rfl hd_X11_cause_v ⟨Nat.le_of_ble_eq_true rfl, Nat.le_of_ble_eq_true rfl⟩) (vWZ hPx hKx hDx ((hZ.kept hS.2.1).narrow (free_all hDx hS hA)) (rX_11 hKx hPx)) rfl rfl hl.1 rfl (lv_room (Nat.le_of_ble_eq_true rfl)) dL_law_826 ⟨Nat.le_of_ble_eq_true rfl, Nat.le_of_ble_eq_true rfl⟩) hS (fun q _ h => hFc q h) hFc (fun r5 u t H1 locs ht9 hvm hr5 hB hz1 hk1 hS => ?_)
  obtain ⟨n6, n7, n8, n9, n10, n11, n12, hn6, hr5, rfl⟩ := hr5
  obtain ⟨hPx, hDx⟩ := hB
  rw [ht9] at hPx
  have hPy := P_kept hPy (la := AdM y gy) (lb := AdX x gx) wmM wmX (fun a ha b hb => (hXY b hb a ha).symm) hk1
  generalize H1 = H at hPx hPy hS ⊢
  have hPx : va_P (dC, dI) classes (WX x gx cax (u2 (u2 (u2 ivx 2 3 n10) 2 4 n11) 2 5 n12) lvx (u2 (u2 fax 1 6 n6) 20 2 n7) (u2 (u2 lax 20 0 n8) 20 1 n9)) H := hPx
  have hDx : va_D A (WX x gx cax (u2 (u2 (u2 ivx 2 3 n10) 2 4 n11) 2 5 n12) lvx (u2 (u2 fax 1 6 n6) 20 2 n7) (u2 (u2 lax 20 0 n8) 20 1 n9)) := (show va_D _ (WX x gx cax (u2 (u2 (u2 ivx 2 3 n10) 2 4 n11) 2 5 n12) lvx (u2 (u2 fax 1 6 n6) 20 2 n7) (u2 (u2 lax 20 0 n8) 20 1 n9)) from hDx).weaken (fun _ _ _ h => hFc _ h)
  refine lv_pop hx hb dL_law_829 rfl ?_
  refine lv_aload_n hx hb dL_law_830 rfl (lv_at hl 1 rfl) ?_
  refine lv_aload_n hx hb dL_law_831 rfl (lv_at hl 3 rfl) ?_
  refine lv_iload_n hx hb dL_law_832 rfl (lv_at hl 0 rfl) ?_
  refine lv_iconst (v := 1) hx hb dL_law_833 (by decide) ?_
  refine lv_iadd hx hb dL_law_834 ?_
  refine lv_topi (fun v13 ev13 => ?_)
  have tv13 := z_add ev13 (rfl : (i).toInt = _) (by decide : (1 : Int32).toInt = 1) (by omega) (by omega)
  refine va_sld hx hb hX hbl hbA hS (vp_in_iff.mpr ⟨by omega, by omega⟩ : vp_in v13 L) dL_law_835 ?_
  refine lv_topi (fun v14 ev14 => ?_)
  refine lv_aload_n hx hb dL_law_836 rfl (lv_at hl 3 rfl) ?_
  refine lv_iload_n hx hb dL_law_837 rfl (lv_at hl 0 rfl) ?_
  refine lv_iconst (v := 2) hx hb dL_law_838 (by decide) ?_
  refine lv_iadd hx hb dL_law_839 ?_
  refine lv_topi (fun v15 ev15 => ?_)
  have tv15 := z_add ev15 (rfl : (i).toInt = _) (by decide : (2 : Int32).toInt = 2) (by omega) (by omega)
  refine va_sld hx hb hX hbl hbA hS (vp_in_iff.mpr ⟨by omega, by omega⟩ : vp_in v15 L) dL_law_840 ?_
  refine lv_topi (fun v16 ev16 => ?_)
  have hFc := free_all hDy hS hA
  refine va_calli (va_runV (As := [.int v14, .int v16]) (rest := []) ⟨hx, hb, hml, hown, ht⟩ (c_X12_cause l dC dI H.size y gy cay ivy lvy fay lay hIy v14 v16 hJC hJR hJO) (kV 2 ht m_1574 m_1575 m_1576 m_89 m_1577 rfl rfl hd_X12_cause_v ⟨Nat.le_of_ble_eq_true rfl, Nat.le_of_ble_eq_true rfl⟩) (vW hPy hKy hDy (rM_12 hKy hPy)) rfl rfl hl.1 rfl (lv_room (Nat.le_of_ble_eq_true rfl)) dL_law_841 ⟨Nat.le_of_ble_eq_true rfl, Nat.le_of_ble_eq_true rfl⟩) hS (fun q _ h => hFc q h) hFc (fun r17 u t H1 locs ht9 hvm hr17 hB hz1 hk1 hS => ?_)
  obtain ⟨n18, n19, n20, n21, n22, n23, n24, n25, n26, n27, n28, hn18, hn19, hn25, hn26, xr17_0, xr17_1, xr17_2, hr17, rfl⟩ := hr17
  obtain ⟨hPy, hDy⟩ := hB
  rw [ht9] at hPy
  have hPx := P_kept hPx (la := AdX x gx) (lb := AdM y gy) wmX wmM hXY hk1
  generalize H1 = H at hPx hPy hS ⊢
  have hPy : va_P (dC, dI) classes (WM y gy cay (u2 (u2 (u2 (u2 (u2 (u2 ivy 12 19 n21) 12 20 n22) 12 21 n23) 12 22 n24) 12 41 n25) 12 48 n26) (u2 (u2 lvy 12 17 n27) 12 18 n28) (u2 (u2 (u2 fay 12 39 n18) 12 40 n19) 12 49 n20) lay) H := hPy
  have hDy : va_D A (WM y gy cay (u2 (u2 (u2 (u2 (u2 (u2 ivy 12 19 n21) 12 20 n22) 12 21 n23) 12 22 n24) 12 41 n25) 12 48 n26) (u2 (u2 lvy 12 17 n27) 12 18 n28) (u2 (u2 (u2 fay 12 39 n18) 12 40 n19) 12 49 n20) lay) := (show va_D _ (WM y gy cay (u2 (u2 (u2 (u2 (u2 (u2 ivy 12 19 n21) 12 20 n22) 12 21 n23) 12 22 n24) 12 41 n25) 12 48 n26) (u2 (u2 lvy 12 17 n27) 12 18 n28) (u2 (u2 (u2 fay 12 39 n18) 12 40 n19) 12 49 n20) lay) from hDy).weaken (fun _ _ _ h => hFc _ h)
  refine lv_pop hx hb dL_law_844 rfl ?_
  refine lv_goto (tgt := 1508) hx hb dL_law_845 (by decide) ?_
  exact kk _ _ (u2 (u2 (u2 ivx 2 3 n10) 2 4 n11) 2 5 n12) lvx (u2 (u2 fax 1 6 n6) 20 2 n7) (u2 (u2 lax 20 0 n8) 20 1 n9) (u2 (u2 (u2 (u2 (u2 (u2 ivy 12 19 n21) 12 20 n22) 12 21 n23) 12 22 n24) 12 41 n25) 12 48 n26) (u2 (u2 lvy 12 17 n27) 12 18 n28) (u2 (u2 (u2 fay 12 39 n18) 12 40 n19) 12 49 n20) lay (IX_a (c := 20) (k := 2) (IX_a (c := 1) (k := 6) (IX_i (c := 2) (k := 5) (IX_i (c := 2) (k := 4) (IX_i (c := 2) (k := 3) hIx (full_i _)) (full_i _)) (full_i _)) hn6) (fun j => full_i _)) (IX_a (c := 12) (k := 49) (IX_a (c := 12) (k := 40) (IX_a (c := 12) (k := 39) (IX_i (c := 12) (k := 48) (IX_i (c := 12) (k := 41) (IX_i (c := 12) (k := 22) (IX_i (c := 12) (k := 21) (IX_i (c := 12) (k := 20) (IX_i (c := 12) (k := 19) hIy (full_i _)) (full_i _)) (full_i _)) (full_i _)) hn25) hn26) hn18) hn19) (fun j => full_i _)) hJC hJR hJN ⟨xr17_0, xr17_1, xr17_2⟩ hq_now hq_bales hq_skeins hq_rules hq_text hq_place hrs hls htx hbk hPx hDx hPy hDy hS
set_option maxHeartbeats 4000000 in
set_option maxRecDepth 100000 in
theorem law_18 {p : Program} {e : Env} {s : State} {m : MethodId} {below : List Frame} {meth : Method} {c : Code} (l : Launch) {b L : Nat} {xs : Nat → Int32} (hL : L ≤ 4096) (C0 : lw_At p s m meth c b L xs) {dC : Nat → ClassId} {dI : Nat → Nat → Nat} {A : Nat → Prop} (hA : ∀ q : Nat, s.heap.size ≤ q → A q) (hbA : ¬ A b) (hAs : ∀ q : Nat, A q → s.heap.size ≤ q) {x y : Nat} {gx gy : Nat → Nat → Nat} {cax cay : Nat → Nat → ClassId} {ak av : Nat → Nat} (hKx : va_K (dC, dI) classes (TX cax) s) (hKy : va_K (dC, dI) classes (TM cay) s) (hXY : ∀ a ∈ AdX x gx, ∀ b ∈ AdM y gy, a ≠ b) (hZ : zC ak av A s s.heap) {H : Heap} {locs : List Loc} {ivx : Nat → Nat → Int32} {lvx : Nat → Nat → Int64} {fax : Nat → Nat → Nat → Int32} {lax : Nat → Nat → Nat → Int64} {ivy : Nat → Nat → Int32} {lvy : Nat → Nat → Int64} {fay : Nat → Nat → Nat → Int32} {lay : Nat → Nat → Nat → Int64} (hIx : IX ivx fax) (hIy : IX ivy fay) (hJC : JCf (ivy 12 23).toInt (fay 12 25) (fay 12 26) (fay 12 27) (fay 12 28)) (hJR : JRf (ivy 12 3).toInt (fay 12 7)) (hJN : JNf (ivy 12 3).toInt (fay 12 4) (fay 12 5)) (hJO : ((ivy 12 20).toInt = -1 ∧ (ivy 12 21).toInt = -1 ∧ (ivy 12 22).toInt = -1)) (hq_now : ivx 11 10 = ivy 12 0) (hq_bales : ivx 0 7 = ivy 12 1) (hq_skeins : ivx 10 1 = ivy 12 3) (hq_rules : ivx 1 7 = ivy 12 23) (hq_text : ivx 8 2 = ivy 12 33) (hq_place : ivx 8 3 = ivy 12 36) (hrs : (∀ s : Nat, (s : Int) < (ivy 12 3).toInt → fax 10 0 (9 * s + 0) = fay 12 4 s ∧ fax 10 0 (9 * s + 1) = fay 12 5 s ∧ fax 10 0 (9 * s + 2) = fay 12 6 s ∧ fax 10 0 (9 * s + 3) = fay 12 7 s ∧ fax 10 0 (9 * s + 4) = fay 12 8 s ∧ fax 10 0 (9 * s + 5) = fay 12 9 s ∧ fax 10 0 (9 * s + 6) = fay 12 10 s ∧ fax 10 0 (9 * s + 7) = fay 12 11 s ∧ fax 10 0 (9 * s + 8) = fay 12 12 s)) (hls : (∀ j : Nat, -1 ≤ (fay 12 12 j).toInt)) (htx : (∀ j : Nat, (fax 8 1 j).toInt = sg (fay 12 32 j).toInt ∧ 0 ≤ (fay 12 32 j).toInt)) (hbk : BkE (ivy 12 23).toInt (fax 1 0) (fax 1 1) (fax 1 2) (fax 1 3) (fax 1 4) (fax 1 5) (fay 12 24) (fay 12 25) (fay 12 26) (fay 12 27) (fay 12 28) (fay 12 29) (fay 12 30) (fay 12 31)) (hPx : va_P (dC, dI) classes (WX x gx cax ivx lvx fax lax) H) (hDx : va_D A (WX x gx cax ivx lvx fax lax)) (hPy : va_P (dC, dI) classes (WM y gy cay ivy lvy fay lay) H) (hDy : va_D A (WM y gy cay ivy lvy fay lay)) (hS : va_S A s.heap H locs) {i : Int32} {ls : Array Slot} (hl : lv_has ls 4 [(3, .int i), (2, .ref y), (1, .ref x), (0, .ref b)]) (hi : 0 ≤ i.toInt ∧ i.toInt ≤ 4088) (hi8 : i.toInt + 8 ≤ (L : Int)) (kk : ∀ (H : Heap) (locs : List Loc) (ivx : Nat → Nat → Int32) (lvx : Nat → Nat → Int64) (fax : Nat → Nat → Nat → Int32) (lax : Nat → Nat → Nat → Int64) (ivy : Nat → Nat → Int32) (lvy : Nat → Nat → Int64) (fay : Nat → Nat → Nat → Int32) (lay : Nat → Nat → Nat → Int64), IX ivx fax → IX ivy fay → JCf (ivy 12 23).toInt (fay 12 25) (fay 12 26) (fay 12 27) (fay 12 28) → JRf (ivy 12 3).toInt (fay 12 7) → JNf (ivy 12 3).toInt (fay 12 4) (fay 12 5) → ((ivy 12 20).toInt = -1 ∧ (ivy 12 21).toInt = -1 ∧ (ivy 12 22).toInt = -1) → ivx 11 10 = ivy 12 0 → ivx 0 7 = ivy 12 1 → ivx 10 1 = ivy 12 3 → ivx 1 7 = ivy 12 23 → ivx 8 2 = ivy 12 33 → ivx 8 3 = ivy 12 36 → (∀ s : Nat, (s : Int) < (ivy 12 3).toInt → fax 10 0 (9 * s + 0) = fay 12 4 s ∧ fax 10 0 (9 * s + 1) = fay 12 5 s ∧ fax 10 0 (9 * s + 2) = fay 12 6 s ∧ fax 10 0 (9 * s + 3) = fay 12 7 s ∧ fax 10 0 (9 * s + 4) = fay 12 8 s ∧ fax 10 0 (9 * s + 5) = fay 12 9 s ∧ fax 10 0 (9 * s + 6) = fay 12 10 s ∧ fax 10 0 (9 * s + 7) = fay 12 11 s ∧ fax 10 0 (9 * s + 8) = fay 12 12 s) → (∀ j : Nat, -1 ≤ (fay 12 12 j).toInt) → (∀ j : Nat, (fax 8 1 j).toInt = sg (fay 12 32 j).toInt ∧ 0 ≤ (fay 12 32 j).toInt) → BkE (ivy 12 23).toInt (fax 1 0) (fax 1 1) (fax 1 2) (fax 1 3) (fax 1 4) (fax 1 5) (fay 12 24) (fay 12 25) (fay 12 26) (fay 12 27) (fay 12 28) (fay 12 29) (fay 12 30) (fay 12 31) → va_P (dC, dI) classes (WX x gx cax ivx lvx fax lax) H → va_D A (WX x gx cax ivx lvx fax lax) → va_P (dC, dI) classes (WM y gy cay ivy lvy fay lay) H → va_D A (WM y gy cay ivy lvy fay lay) → va_S A s.heap H locs → W p l e room_1 s m #[Value.ref b] below meth c H locs 98 5431 (lw_Z below #[Value.ref b] s) (F0 m 1508 ls [])) : W p l e room_1 s m #[Value.ref b] below meth c H locs 98 5431 (lw_Z below #[Value.ref b] s) (F0 m 848 ls []) := by
  obtain ⟨hx, hb, hr, hml, hown, hts, hX, hbl, hlocks, hgv⟩ := id C0
  have ht := tb_of hts
  have hw8r := congrArg Int32.toInt hq_rules
  have hJB : ∀ j : Nat, (j : Int) < (ivx 1 7).toInt → 0 ≤ (fax 1 0 j).toInt := fun j hj => (hbk j (by omega)).2.2.1
  have hJK : ∀ k j : Nat, (k : Int) < (ivy 12 23).toInt → 12 * k ≤ j → (j : Int) < 12 * (k : Int) + (fay 12 25 k).toInt → (fay 12 26 j).toInt = 3 → 0 ≤ (fay 12 28 j).toInt ∧ (fay 12 28 j).toInt < (k : Int) := bk_K hbk
  have hJT : ∀ j : Nat, 0 ≤ (fay 12 32 j).toInt := fun j => (htx j).2
  refine lv_aload_n hx hb dL_law_848 rfl (lv_at hl 2 rfl) ?_
  refine lv_aload_n hx hb dL_law_849 rfl (lv_at hl 3 rfl) ?_
  refine lv_iload_n hx hb dL_law_850 rfl (lv_at hl 0 rfl) ?_
  refine lv_iconst (v := 1) hx hb dL_law_851 (by decide) ?_
  refine lv_iadd hx hb dL_law_852 ?_
  refine lv_topi (fun v1 ev1 => ?_)
  have tv1 := z_add ev1 (rfl : (i).toInt = _) (by decide : (1 : Int32).toInt = 1) (by omega) (by omega)
  refine va_sld hx hb hX hbl hbA hS (vp_in_iff.mpr ⟨by omega, by omega⟩ : vp_in v1 L) dL_law_853 ?_
  refine lv_topi (fun v2 ev2 => ?_)
  refine lv_aload_n hx hb dL_law_854 rfl (lv_at hl 3 rfl) ?_
  refine lv_iload_n hx hb dL_law_855 rfl (lv_at hl 0 rfl) ?_
  refine lv_iconst (v := 2) hx hb dL_law_856 (by decide) ?_
  refine lv_iadd hx hb dL_law_857 ?_
  refine lv_topi (fun v3 ev3 => ?_)
  have tv3 := z_add ev3 (rfl : (i).toInt = _) (by decide : (2 : Int32).toInt = 2) (by omega) (by omega)
  refine va_sld hx hb hX hbl hbA hS (vp_in_iff.mpr ⟨by omega, by omega⟩ : vp_in v3 L) dL_law_858 ?_
  refine lv_topi (fun v4 ev4 => ?_)
  have hFc := free_all hDx hS hA
  refine va_calli (va_runV (As := [.int v2, .int v4]) (rest := []) ⟨hx, hb, hml, hown, ht⟩ (c_X11_odd l dC dI H.size ak av x gx cax ivx lvx fax lax hIx v2 v4) (kV 2 ht m_913 m_914 m_915 m_77 m_916 rfl rfl hd_X11_odd_v ⟨Nat.le_of_ble_eq_true rfl, Nat.le_of_ble_eq_true rfl⟩) (vWZ hPx hKx hDx ((hZ.kept hS.2.1).narrow (free_all hDx hS hA)) (rX_11 hKx hPx)) rfl rfl hl.1 rfl (lv_room (Nat.le_of_ble_eq_true rfl)) dL_law_859 ⟨Nat.le_of_ble_eq_true rfl, Nat.le_of_ble_eq_true rfl⟩) hS (fun q _ h => hFc q h) hFc (fun r5 u t H1 locs ht9 hvm hr5 hB hz1 hk1 hS => ?_)
  obtain ⟨n6, n7, n8, n9, n10, n11, n12, n13, hn6, hn7, hr5, rfl⟩ := hr5
  obtain ⟨hPx, hDx⟩ := hB
  rw [ht9] at hPx
  have hPy := P_kept hPy (la := AdM y gy) (lb := AdX x gx) wmM wmX (fun a ha b hb => (hXY b hb a ha).symm) hk1
  generalize H1 = H at hPx hPy hS ⊢
  have hPx : va_P (dC, dI) classes (WX x gx cax (u2 (u2 (u2 ivx 2 3 n11) 2 4 n12) 2 5 n13) lvx (u2 (u2 (u2 fax 1 6 n6) 2 2 n7) 20 2 n8) (u2 (u2 lax 20 0 n9) 20 1 n10)) H := hPx
  have hDx : va_D A (WX x gx cax (u2 (u2 (u2 ivx 2 3 n11) 2 4 n12) 2 5 n13) lvx (u2 (u2 (u2 fax 1 6 n6) 2 2 n7) 20 2 n8) (u2 (u2 lax 20 0 n9) 20 1 n10)) := (show va_D _ (WX x gx cax (u2 (u2 (u2 ivx 2 3 n11) 2 4 n12) 2 5 n13) lvx (u2 (u2 (u2 fax 1 6 n6) 2 2 n7) 20 2 n8) (u2 (u2 lax 20 0 n9) 20 1 n10)) from hDx).weaken (fun _ _ _ h => hFc _ h)
  refine lv_pop hx hb dL_law_862 rfl ?_
  refine lv_aload_n hx hb dL_law_863 rfl (lv_at hl 1 rfl) ?_
  refine lv_aload_n hx hb dL_law_864 rfl (lv_at hl 3 rfl) ?_
  refine lv_iload_n hx hb dL_law_865 rfl (lv_at hl 0 rfl) ?_
  refine lv_iconst (v := 1) hx hb dL_law_866 (by decide) ?_
  refine lv_iadd hx hb dL_law_867 ?_
  refine lv_topi (fun v14 ev14 => ?_)
  have tv14 := z_add ev14 (rfl : (i).toInt = _) (by decide : (1 : Int32).toInt = 1) (by omega) (by omega)
  refine va_sld hx hb hX hbl hbA hS (vp_in_iff.mpr ⟨by omega, by omega⟩ : vp_in v14 L) dL_law_868 ?_
  refine lv_topi (fun v15 ev15 => ?_)
  refine lv_aload_n hx hb dL_law_869 rfl (lv_at hl 3 rfl) ?_
  refine lv_iload_n hx hb dL_law_870 rfl (lv_at hl 0 rfl) ?_
  refine lv_iconst (v := 2) hx hb dL_law_871 (by decide) ?_
  refine lv_iadd hx hb dL_law_872 ?_
  refine lv_topi (fun v16 ev16 => ?_)
  have tv16 := z_add ev16 (rfl : (i).toInt = _) (by decide : (2 : Int32).toInt = 2) (by omega) (by omega)
  refine va_sld hx hb hX hbl hbA hS (vp_in_iff.mpr ⟨by omega, by omega⟩ : vp_in v16 L) dL_law_873 ?_
  refine lv_topi (fun v17 ev17 => ?_)
  have hFc := free_all hDy hS hA
  refine va_calli (va_runV (As := [.int v15, .int v17]) (rest := []) ⟨hx, hb, hml, hown, ht⟩ (c_X12_odd l dC dI H.size y gy cay ivy lvy fay lay hIy v15 v17 hJC) (kV 2 ht m_1594 m_1595 m_1596 m_89 m_1597 rfl rfl hd_X12_odd_v ⟨Nat.le_of_ble_eq_true rfl, Nat.le_of_ble_eq_true rfl⟩) (vW hPy hKy hDy (rM_12 hKy hPy)) rfl rfl hl.1 rfl (lv_room (Nat.le_of_ble_eq_true rfl)) dL_law_874 ⟨Nat.le_of_ble_eq_true rfl, Nat.le_of_ble_eq_true rfl⟩) hS (fun q _ h => hFc q h) hFc (fun r18 u t H1 locs ht9 hvm hr18 hB hz1 hk1 hS => ?_)
  obtain ⟨n19, n20, n21, hn19, hn20, hn21, hr18, rfl⟩ := hr18
  obtain ⟨hPy, hDy⟩ := hB
  rw [ht9] at hPy
  have hPx := P_kept hPx (la := AdX x gx) (lb := AdM y gy) wmX wmM hXY hk1
  generalize H1 = H at hPx hPy hS ⊢
  have hPy : va_P (dC, dI) classes (WM y gy cay (u2 ivy 12 41 n21) lvy (u2 (u2 fay 12 39 n19) 12 40 n20) lay) H := hPy
  have hDy : va_D A (WM y gy cay (u2 ivy 12 41 n21) lvy (u2 (u2 fay 12 39 n19) 12 40 n20) lay) := (show va_D _ (WM y gy cay (u2 ivy 12 41 n21) lvy (u2 (u2 fay 12 39 n19) 12 40 n20) lay) from hDy).weaken (fun _ _ _ h => hFc _ h)
  refine lv_pop hx hb dL_law_877 rfl ?_
  refine lv_goto (tgt := 1508) hx hb dL_law_878 (by decide) ?_
  exact kk _ _ (u2 (u2 (u2 ivx 2 3 n11) 2 4 n12) 2 5 n13) lvx (u2 (u2 (u2 fax 1 6 n6) 2 2 n7) 20 2 n8) (u2 (u2 lax 20 0 n9) 20 1 n10) (u2 ivy 12 41 n21) lvy (u2 (u2 fay 12 39 n19) 12 40 n20) lay (IX_a (c := 20) (k := 2) (IX_a (c := 2) (k := 2) (IX_a (c := 1) (k := 6) (IX_i (c := 2) (k := 5) (IX_i (c := 2) (k := 4) (IX_i (c := 2) (k := 3) hIx (full_i _)) (full_i _)) (full_i _)) hn6) hn7) (fun j => full_i _)) (IX_a (c := 12) (k := 40) (IX_a (c := 12) (k := 39) (IX_i (c := 12) (k := 41) hIy hn21) hn19) hn20) hJC hJR hJN hJO hq_now hq_bales hq_skeins hq_rules hq_text hq_place hrs hls htx hbk hPx hDx hPy hDy hS
set_option maxHeartbeats 4000000 in
set_option maxRecDepth 100000 in
theorem law_19 {p : Program} {e : Env} {s : State} {m : MethodId} {below : List Frame} {meth : Method} {c : Code} (l : Launch) {b L : Nat} {xs : Nat → Int32} (hL : L ≤ 4096) (C0 : lw_At p s m meth c b L xs) {dC : Nat → ClassId} {dI : Nat → Nat → Nat} {A : Nat → Prop} (hA : ∀ q : Nat, s.heap.size ≤ q → A q) (hbA : ¬ A b) (hAs : ∀ q : Nat, A q → s.heap.size ≤ q) {x y : Nat} {gx gy : Nat → Nat → Nat} {cax cay : Nat → Nat → ClassId} {ak av : Nat → Nat} (hKx : va_K (dC, dI) classes (TX cax) s) (hKy : va_K (dC, dI) classes (TM cay) s) (hXY : ∀ a ∈ AdX x gx, ∀ b ∈ AdM y gy, a ≠ b) (hZ : zC ak av A s s.heap) {H : Heap} {locs : List Loc} {ivx : Nat → Nat → Int32} {lvx : Nat → Nat → Int64} {fax : Nat → Nat → Nat → Int32} {lax : Nat → Nat → Nat → Int64} {ivy : Nat → Nat → Int32} {lvy : Nat → Nat → Int64} {fay : Nat → Nat → Nat → Int32} {lay : Nat → Nat → Nat → Int64} (hIx : IX ivx fax) (hIy : IX ivy fay) (hJC : JCf (ivy 12 23).toInt (fay 12 25) (fay 12 26) (fay 12 27) (fay 12 28)) (hJR : JRf (ivy 12 3).toInt (fay 12 7)) (hJN : JNf (ivy 12 3).toInt (fay 12 4) (fay 12 5)) (hJO : ((ivy 12 20).toInt = -1 ∧ (ivy 12 21).toInt = -1 ∧ (ivy 12 22).toInt = -1)) (hq_now : ivx 11 10 = ivy 12 0) (hq_bales : ivx 0 7 = ivy 12 1) (hq_skeins : ivx 10 1 = ivy 12 3) (hq_rules : ivx 1 7 = ivy 12 23) (hq_text : ivx 8 2 = ivy 12 33) (hq_place : ivx 8 3 = ivy 12 36) (hrs : (∀ s : Nat, (s : Int) < (ivy 12 3).toInt → fax 10 0 (9 * s + 0) = fay 12 4 s ∧ fax 10 0 (9 * s + 1) = fay 12 5 s ∧ fax 10 0 (9 * s + 2) = fay 12 6 s ∧ fax 10 0 (9 * s + 3) = fay 12 7 s ∧ fax 10 0 (9 * s + 4) = fay 12 8 s ∧ fax 10 0 (9 * s + 5) = fay 12 9 s ∧ fax 10 0 (9 * s + 6) = fay 12 10 s ∧ fax 10 0 (9 * s + 7) = fay 12 11 s ∧ fax 10 0 (9 * s + 8) = fay 12 12 s)) (hls : (∀ j : Nat, -1 ≤ (fay 12 12 j).toInt)) (htx : (∀ j : Nat, (fax 8 1 j).toInt = sg (fay 12 32 j).toInt ∧ 0 ≤ (fay 12 32 j).toInt)) (hbk : BkE (ivy 12 23).toInt (fax 1 0) (fax 1 1) (fax 1 2) (fax 1 3) (fax 1 4) (fax 1 5) (fay 12 24) (fay 12 25) (fay 12 26) (fay 12 27) (fay 12 28) (fay 12 29) (fay 12 30) (fay 12 31)) (hPx : va_P (dC, dI) classes (WX x gx cax ivx lvx fax lax) H) (hDx : va_D A (WX x gx cax ivx lvx fax lax)) (hPy : va_P (dC, dI) classes (WM y gy cay ivy lvy fay lay) H) (hDy : va_D A (WM y gy cay ivy lvy fay lay)) (hS : va_S A s.heap H locs) {i : Int32} {ls : Array Slot} (hl : lv_has ls 4 [(3, .int i), (2, .ref y), (1, .ref x), (0, .ref b)]) (hi : 0 ≤ i.toInt ∧ i.toInt ≤ 4088) (hi8 : i.toInt + 8 ≤ (L : Int)) (kk : ∀ (H : Heap) (locs : List Loc) (ivx : Nat → Nat → Int32) (lvx : Nat → Nat → Int64) (fax : Nat → Nat → Nat → Int32) (lax : Nat → Nat → Nat → Int64) (ivy : Nat → Nat → Int32) (lvy : Nat → Nat → Int64) (fay : Nat → Nat → Nat → Int32) (lay : Nat → Nat → Nat → Int64), IX ivx fax → IX ivy fay → JCf (ivy 12 23).toInt (fay 12 25) (fay 12 26) (fay 12 27) (fay 12 28) → JRf (ivy 12 3).toInt (fay 12 7) → JNf (ivy 12 3).toInt (fay 12 4) (fay 12 5) → ((ivy 12 20).toInt = -1 ∧ (ivy 12 21).toInt = -1 ∧ (ivy 12 22).toInt = -1) → ivx 11 10 = ivy 12 0 → ivx 0 7 = ivy 12 1 → ivx 10 1 = ivy 12 3 → ivx 1 7 = ivy 12 23 → ivx 8 2 = ivy 12 33 → ivx 8 3 = ivy 12 36 → (∀ s : Nat, (s : Int) < (ivy 12 3).toInt → fax 10 0 (9 * s + 0) = fay 12 4 s ∧ fax 10 0 (9 * s + 1) = fay 12 5 s ∧ fax 10 0 (9 * s + 2) = fay 12 6 s ∧ fax 10 0 (9 * s + 3) = fay 12 7 s ∧ fax 10 0 (9 * s + 4) = fay 12 8 s ∧ fax 10 0 (9 * s + 5) = fay 12 9 s ∧ fax 10 0 (9 * s + 6) = fay 12 10 s ∧ fax 10 0 (9 * s + 7) = fay 12 11 s ∧ fax 10 0 (9 * s + 8) = fay 12 12 s) → (∀ j : Nat, -1 ≤ (fay 12 12 j).toInt) → (∀ j : Nat, (fax 8 1 j).toInt = sg (fay 12 32 j).toInt ∧ 0 ≤ (fay 12 32 j).toInt) → BkE (ivy 12 23).toInt (fax 1 0) (fax 1 1) (fax 1 2) (fax 1 3) (fax 1 4) (fax 1 5) (fay 12 24) (fay 12 25) (fay 12 26) (fay 12 27) (fay 12 28) (fay 12 29) (fay 12 30) (fay 12 31) → va_P (dC, dI) classes (WX x gx cax ivx lvx fax lax) H → va_D A (WX x gx cax ivx lvx fax lax) → va_P (dC, dI) classes (WM y gy cay ivy lvy fay lay) H → va_D A (WM y gy cay ivy lvy fay lay) → va_S A s.heap H locs → W p l e room_1 s m #[Value.ref b] below meth c H locs 98 5431 (lw_Z below #[Value.ref b] s) (F0 m 1508 ls [])) : W p l e room_1 s m #[Value.ref b] below meth c H locs 98 5431 (lw_Z below #[Value.ref b] s) (F0 m 881 ls []) := by
  obtain ⟨hx, hb, hr, hml, hown, hts, hX, hbl, hlocks, hgv⟩ := id C0
  have ht := tb_of hts
  have hw8r := congrArg Int32.toInt hq_rules
  have hJB : ∀ j : Nat, (j : Int) < (ivx 1 7).toInt → 0 ≤ (fax 1 0 j).toInt := fun j hj => (hbk j (by omega)).2.2.1
  have hJK : ∀ k j : Nat, (k : Int) < (ivy 12 23).toInt → 12 * k ≤ j → (j : Int) < 12 * (k : Int) + (fay 12 25 k).toInt → (fay 12 26 j).toInt = 3 → 0 ≤ (fay 12 28 j).toInt ∧ (fay 12 28 j).toInt < (k : Int) := bk_K hbk
  have hJT : ∀ j : Nat, 0 ≤ (fay 12 32 j).toInt := fun j => (htx j).2
  refine lv_aload_n hx hb dL_law_881 rfl (lv_at hl 2 rfl) ?_
  refine lv_aload_n hx hb dL_law_882 rfl (lv_at hl 3 rfl) ?_
  refine lv_iload_n hx hb dL_law_883 rfl (lv_at hl 0 rfl) ?_
  refine lv_iconst (v := 1) hx hb dL_law_884 (by decide) ?_
  refine lv_iadd hx hb dL_law_885 ?_
  refine lv_topi (fun v1 ev1 => ?_)
  have tv1 := z_add ev1 (rfl : (i).toInt = _) (by decide : (1 : Int32).toInt = 1) (by omega) (by omega)
  refine va_sld hx hb hX hbl hbA hS (vp_in_iff.mpr ⟨by omega, by omega⟩ : vp_in v1 L) dL_law_886 ?_
  refine lv_topi (fun v2 ev2 => ?_)
  refine lv_aload_n hx hb dL_law_887 rfl (lv_at hl 3 rfl) ?_
  refine lv_iload_n hx hb dL_law_888 rfl (lv_at hl 0 rfl) ?_
  refine lv_iconst (v := 2) hx hb dL_law_889 (by decide) ?_
  refine lv_iadd hx hb dL_law_890 ?_
  refine lv_topi (fun v3 ev3 => ?_)
  have tv3 := z_add ev3 (rfl : (i).toInt = _) (by decide : (2 : Int32).toInt = 2) (by omega) (by omega)
  refine va_sld hx hb hX hbl hbA hS (vp_in_iff.mpr ⟨by omega, by omega⟩ : vp_in v3 L) dL_law_891 ?_
  refine lv_topi (fun v4 ev4 => ?_)
  have hFc := free_all hDx hS hA
  refine va_calli (va_runV (As := [.int v2, .int v4]) (rest := []) ⟨hx, hb, hml, hown, ht⟩ (c_X11_needed l dC dI H.size ak av x gx cax ivx lvx fax lax hIx v2 v4) (kV 2 ht m_925 m_926 m_927 m_77 m_928 rfl rfl hd_X11_needed_v ⟨Nat.le_of_ble_eq_true rfl, Nat.le_of_ble_eq_true rfl⟩) (vWZ hPx hKx hDx ((hZ.kept hS.2.1).narrow (free_all hDx hS hA)) (rX_11 hKx hPx)) rfl rfl hl.1 rfl (lv_room (Nat.le_of_ble_eq_true rfl)) dL_law_892 ⟨Nat.le_of_ble_eq_true rfl, Nat.le_of_ble_eq_true rfl⟩) hS (fun q _ h => hFc q h) hFc (fun r5 u t H1 locs ht9 hvm hr5 hB hz1 hk1 hS => ?_)
  obtain ⟨n6, n7, n8, n9, n10, n11, n12, n13, n14, n15, hn6, hn7, hr5, rfl⟩ := hr5
  obtain ⟨hPx, hDx⟩ := hB
  rw [ht9] at hPx
  have hPy := P_kept hPy (la := AdM y gy) (lb := AdX x gx) wmM wmX (fun a ha b hb => (hXY b hb a ha).symm) hk1
  generalize H1 = H at hPx hPy hS ⊢
  have hPx : va_P (dC, dI) classes (WX x gx cax (u2 (u2 (u2 (u2 (u2 ivx 2 3 n11) 2 4 n12) 2 5 n13) 2 6 n14) 2 7 n15) lvx (u2 (u2 (u2 fax 1 6 n6) 2 2 n7) 20 2 n8) (u2 (u2 lax 20 0 n9) 20 1 n10)) H := hPx
  have hDx : va_D A (WX x gx cax (u2 (u2 (u2 (u2 (u2 ivx 2 3 n11) 2 4 n12) 2 5 n13) 2 6 n14) 2 7 n15) lvx (u2 (u2 (u2 fax 1 6 n6) 2 2 n7) 20 2 n8) (u2 (u2 lax 20 0 n9) 20 1 n10)) := (show va_D _ (WX x gx cax (u2 (u2 (u2 (u2 (u2 ivx 2 3 n11) 2 4 n12) 2 5 n13) 2 6 n14) 2 7 n15) lvx (u2 (u2 (u2 fax 1 6 n6) 2 2 n7) 20 2 n8) (u2 (u2 lax 20 0 n9) 20 1 n10)) from hDx).weaken (fun _ _ _ h => hFc _ h)
  refine lv_pop hx hb dL_law_895 rfl ?_
  refine lv_aload_n hx hb dL_law_896 rfl (lv_at hl 1 rfl) ?_
  refine lv_aload_n hx hb dL_law_897 rfl (lv_at hl 3 rfl) ?_
  refine lv_iload_n hx hb dL_law_898 rfl (lv_at hl 0 rfl) ?_
  refine lv_iconst (v := 1) hx hb dL_law_899 (by decide) ?_
  refine lv_iadd hx hb dL_law_900 ?_
  refine lv_topi (fun v16 ev16 => ?_)
  have tv16 := z_add ev16 (rfl : (i).toInt = _) (by decide : (1 : Int32).toInt = 1) (by omega) (by omega)
  refine va_sld hx hb hX hbl hbA hS (vp_in_iff.mpr ⟨by omega, by omega⟩ : vp_in v16 L) dL_law_901 ?_
  refine lv_topi (fun v17 ev17 => ?_)
  refine lv_aload_n hx hb dL_law_902 rfl (lv_at hl 3 rfl) ?_
  refine lv_iload_n hx hb dL_law_903 rfl (lv_at hl 0 rfl) ?_
  refine lv_iconst (v := 2) hx hb dL_law_904 (by decide) ?_
  refine lv_iadd hx hb dL_law_905 ?_
  refine lv_topi (fun v18 ev18 => ?_)
  have tv18 := z_add ev18 (rfl : (i).toInt = _) (by decide : (2 : Int32).toInt = 2) (by omega) (by omega)
  refine va_sld hx hb hX hbl hbA hS (vp_in_iff.mpr ⟨by omega, by omega⟩ : vp_in v18 L) dL_law_906 ?_
  refine lv_topi (fun v19 ev19 => ?_)
  have hFc := free_all hDy hS hA
  refine va_calli (va_runV (As := [.int v17, .int v19]) (rest := []) ⟨hx, hb, hml, hown, ht⟩ (c_X12_needed l dC dI H.size y gy cay ivy lvy fay lay hIy v17 v19 hJC hJR hJN) (kV 2 ht m_1598 m_1599 m_1600 m_89 m_1601 rfl rfl hd_X12_needed_v ⟨Nat.le_of_ble_eq_true rfl, Nat.le_of_ble_eq_true rfl⟩) (vW hPy hKy hDy (rM_12 hKy hPy)) rfl rfl hl.1 rfl (lv_room (Nat.le_of_ble_eq_true rfl)) dL_law_907 ⟨Nat.le_of_ble_eq_true rfl, Nat.le_of_ble_eq_true rfl⟩) hS (fun q _ h => hFc q h) hFc (fun r20 u t H1 locs ht9 hvm hr20 hB hz1 hk1 hS => ?_)
  obtain ⟨n21, n22, n23, n24, n25, n26, n27, hn21, hn22, hn23, hn25, hr20, rfl⟩ := hr20
  obtain ⟨hPy, hDy⟩ := hB
  rw [ht9] at hPy
  have hPx := P_kept hPx (la := AdX x gx) (lb := AdM y gy) wmX wmM hXY hk1
  generalize H1 = H at hPx hPy hS ⊢
  have hPy : va_P (dC, dI) classes (WM y gy cay (u2 (u2 ivy 12 19 n24) 12 41 n25) (u2 (u2 lvy 12 17 n26) 12 18 n27) (u2 (u2 (u2 fay 12 39 n21) 12 40 n22) 12 50 n23) lay) H := hPy
  have hDy : va_D A (WM y gy cay (u2 (u2 ivy 12 19 n24) 12 41 n25) (u2 (u2 lvy 12 17 n26) 12 18 n27) (u2 (u2 (u2 fay 12 39 n21) 12 40 n22) 12 50 n23) lay) := (show va_D _ (WM y gy cay (u2 (u2 ivy 12 19 n24) 12 41 n25) (u2 (u2 lvy 12 17 n26) 12 18 n27) (u2 (u2 (u2 fay 12 39 n21) 12 40 n22) 12 50 n23) lay) from hDy).weaken (fun _ _ _ h => hFc _ h)
  refine lv_pop hx hb dL_law_910 rfl ?_
  refine lv_goto (tgt := 1508) hx hb dL_law_911 (by decide) ?_
  exact kk _ _ (u2 (u2 (u2 (u2 (u2 ivx 2 3 n11) 2 4 n12) 2 5 n13) 2 6 n14) 2 7 n15) lvx (u2 (u2 (u2 fax 1 6 n6) 2 2 n7) 20 2 n8) (u2 (u2 lax 20 0 n9) 20 1 n10) (u2 (u2 ivy 12 19 n24) 12 41 n25) (u2 (u2 lvy 12 17 n26) 12 18 n27) (u2 (u2 (u2 fay 12 39 n21) 12 40 n22) 12 50 n23) lay (IX_a (c := 20) (k := 2) (IX_a (c := 2) (k := 2) (IX_a (c := 1) (k := 6) (IX_i (c := 2) (k := 7) (IX_i (c := 2) (k := 6) (IX_i (c := 2) (k := 5) (IX_i (c := 2) (k := 4) (IX_i (c := 2) (k := 3) hIx (full_i _)) (full_i _)) (full_i _)) (full_i _)) (full_i _)) hn6) hn7) (fun j => full_i _)) (IX_a (c := 12) (k := 50) (IX_a (c := 12) (k := 40) (IX_a (c := 12) (k := 39) (IX_i (c := 12) (k := 41) (IX_i (c := 12) (k := 19) hIy (full_i _)) hn25) hn21) hn22) hn23) hJC hJR hJN hJO hq_now hq_bales hq_skeins hq_rules hq_text hq_place hrs hls htx hbk hPx hDx hPy hDy hS
