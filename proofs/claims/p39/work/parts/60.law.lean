/-! ===== law ===== -/
theorem m_833 : Cond.methodLink RL 81 yX11_lawful ∈ tb := mb_4_1 _ (List.mem_of_getElem? (i := 11) rfl)
theorem m_834 : Cond.instanceMethod yX11_lawful ∈ tb := mb_4_1 _ (List.mem_of_getElem? (i := 12) rfl)
theorem m_835 : Cond.selects RX11 yX11_lawful yX11_lawful ∈ tb := mb_4_1 _ (List.mem_of_getElem? (i := 13) rfl)
theorem m_836 : Cond.code yX11_lawful cX11_lawful 4 (some .long) ∈ tb := mb_4_1 _ (List.mem_of_getElem? (i := 14) rfl)
theorem m_854 : Cond.methodLink RL 86 yX11_span ∈ tb := mb_4_2 _ (List.mem_of_getElem? (i := 7) rfl)
theorem m_855 : Cond.instanceMethod yX11_span ∈ tb := mb_4_2 _ (List.mem_of_getElem? (i := 8) rfl)
theorem m_856 : Cond.selects RX11 yX11_span yX11_span ∈ tb := mb_4_2 _ (List.mem_of_getElem? (i := 9) rfl)
theorem m_857 : Cond.code yX11_span cX11_span 7 (some .long) ∈ tb := mb_4_2 _ (List.mem_of_getElem? (i := 10) rfl)
theorem m_866 : Cond.methodLink RL 91 yX11_cause ∈ tb := mb_4_2 _ (List.mem_of_getElem? (i := 18) rfl)
theorem m_867 : Cond.instanceMethod yX11_cause ∈ tb := mb_4_2 _ (List.mem_of_getElem? (i := 19) rfl)
theorem m_868 : Cond.selects RX11 yX11_cause yX11_cause ∈ tb := mb_4_2 _ (List.mem_of_getElem? (i := 20) rfl)
theorem m_869 : Cond.code yX11_cause cX11_cause 3 (some .int) ∈ tb := mb_4_2 _ (List.mem_of_getElem? (i := 21) rfl)
theorem m_913 : Cond.methodLink RL 95 yX11_odd ∈ tb := mb_4_4 _ (List.mem_of_getElem? (i := 10) rfl)
theorem m_914 : Cond.instanceMethod yX11_odd ∈ tb := mb_4_4 _ (List.mem_of_getElem? (i := 11) rfl)
theorem m_915 : Cond.selects RX11 yX11_odd yX11_odd ∈ tb := mb_4_4 _ (List.mem_of_getElem? (i := 12) rfl)
theorem m_916 : Cond.code yX11_odd cX11_odd 3 (some .int) ∈ tb := mb_4_4 _ (List.mem_of_getElem? (i := 13) rfl)
theorem m_925 : Cond.methodLink RL 99 yX11_needed ∈ tb := mb_4_4 _ (List.mem_of_getElem? (i := 21) rfl)
theorem m_926 : Cond.instanceMethod yX11_needed ∈ tb := mb_4_4 _ (List.mem_of_getElem? (i := 22) rfl)
theorem m_927 : Cond.selects RX11 yX11_needed yX11_needed ∈ tb := mb_4_4 _ (List.mem_of_getElem? (i := 23) rfl)
theorem m_928 : Cond.code yX11_needed cX11_needed 3 (some .int) ∈ tb := mb_4_5 _ (List.mem_of_getElem? (i := 0) rfl)
theorem m_1556 : Cond.methodLink RL 85 yX12_lawful ∈ tb := mb_7_1 _ (List.mem_of_getElem? (i := 10) rfl)
theorem m_1557 : Cond.instanceMethod yX12_lawful ∈ tb := mb_7_1 _ (List.mem_of_getElem? (i := 11) rfl)
theorem m_1558 : Cond.selects RX12 yX12_lawful yX12_lawful ∈ tb := mb_7_1 _ (List.mem_of_getElem? (i := 12) rfl)
theorem m_1559 : Cond.code yX12_lawful cX12_lawful 4 (some .long) ∈ tb := mb_7_1 _ (List.mem_of_getElem? (i := 13) rfl)
theorem m_1567 : Cond.methodLink RL 90 yX12_span ∈ tb := mb_7_1 _ (List.mem_of_getElem? (i := 20) rfl)
theorem m_1568 : Cond.instanceMethod yX12_span ∈ tb := mb_7_1 _ (List.mem_of_getElem? (i := 21) rfl)
theorem m_1569 : Cond.selects RX12 yX12_span yX12_span ∈ tb := mb_7_1 _ (List.mem_of_getElem? (i := 22) rfl)
theorem m_1570 : Cond.code yX12_span cX12_span 6 (some .long) ∈ tb := mb_7_1 _ (List.mem_of_getElem? (i := 23) rfl)
theorem m_1574 : Cond.methodLink RL 94 yX12_cause ∈ tb := mb_7_2 _ (List.mem_of_getElem? (i := 3) rfl)
theorem m_1575 : Cond.instanceMethod yX12_cause ∈ tb := mb_7_2 _ (List.mem_of_getElem? (i := 4) rfl)
theorem m_1576 : Cond.selects RX12 yX12_cause yX12_cause ∈ tb := mb_7_2 _ (List.mem_of_getElem? (i := 5) rfl)
theorem m_1577 : Cond.code yX12_cause cX12_cause 5 (some .int) ∈ tb := mb_7_2 _ (List.mem_of_getElem? (i := 6) rfl)
theorem m_1594 : Cond.methodLink RL 98 yX12_odd ∈ tb := mb_7_2 _ (List.mem_of_getElem? (i := 19) rfl)
theorem m_1595 : Cond.instanceMethod yX12_odd ∈ tb := mb_7_2 _ (List.mem_of_getElem? (i := 20) rfl)
theorem m_1596 : Cond.selects RX12 yX12_odd yX12_odd ∈ tb := mb_7_2 _ (List.mem_of_getElem? (i := 21) rfl)
theorem m_1597 : Cond.code yX12_odd cX12_odd 8 (some .int) ∈ tb := mb_7_2 _ (List.mem_of_getElem? (i := 22) rfl)
theorem m_1598 : Cond.methodLink RL 102 yX12_needed ∈ tb := mb_7_2 _ (List.mem_of_getElem? (i := 23) rfl)
theorem m_1599 : Cond.instanceMethod yX12_needed ∈ tb := mb_7_3 _ (List.mem_of_getElem? (i := 0) rfl)
theorem m_1600 : Cond.selects RX12 yX12_needed yX12_needed ∈ tb := mb_7_3 _ (List.mem_of_getElem? (i := 1) rfl)
theorem m_1601 : Cond.code yX12_needed cX12_needed 7 (some .int) ∈ tb := mb_7_3 _ (List.mem_of_getElem? (i := 2) rfl)
theorem hd_X11_cause_v : yX11_cause.cls = RX11 ∧ yX11_cause.cls ≠ "java/lang/invoke/MethodHandle" ∧ yX11_cause.cls ≠ "java/lang/invoke/VarHandle" ∧ (parseMethodDescriptor yX11_cause.desc).map (fun d => d.parameters.length) = some 2 := by decide +kernel
theorem hd_X11_lawful_v : yX11_lawful.cls = RX11 ∧ yX11_lawful.cls ≠ "java/lang/invoke/MethodHandle" ∧ yX11_lawful.cls ≠ "java/lang/invoke/VarHandle" ∧ (parseMethodDescriptor yX11_lawful.desc).map (fun d => d.parameters.length) = some 3 := by decide +kernel
theorem hd_X11_needed_v : yX11_needed.cls = RX11 ∧ yX11_needed.cls ≠ "java/lang/invoke/MethodHandle" ∧ yX11_needed.cls ≠ "java/lang/invoke/VarHandle" ∧ (parseMethodDescriptor yX11_needed.desc).map (fun d => d.parameters.length) = some 2 := by decide +kernel
theorem hd_X11_odd_v : yX11_odd.cls = RX11 ∧ yX11_odd.cls ≠ "java/lang/invoke/MethodHandle" ∧ yX11_odd.cls ≠ "java/lang/invoke/VarHandle" ∧ (parseMethodDescriptor yX11_odd.desc).map (fun d => d.parameters.length) = some 2 := by decide +kernel
theorem hd_X11_span_v : yX11_span.cls = RX11 ∧ yX11_span.cls ≠ "java/lang/invoke/MethodHandle" ∧ yX11_span.cls ≠ "java/lang/invoke/VarHandle" ∧ (parseMethodDescriptor yX11_span.desc).map (fun d => d.parameters.length) = some 2 := by decide +kernel
theorem hd_X12_cause_v : yX12_cause.cls = RX12 ∧ yX12_cause.cls ≠ "java/lang/invoke/MethodHandle" ∧ yX12_cause.cls ≠ "java/lang/invoke/VarHandle" ∧ (parseMethodDescriptor yX12_cause.desc).map (fun d => d.parameters.length) = some 2 := by decide +kernel
theorem hd_X12_lawful_v : yX12_lawful.cls = RX12 ∧ yX12_lawful.cls ≠ "java/lang/invoke/MethodHandle" ∧ yX12_lawful.cls ≠ "java/lang/invoke/VarHandle" ∧ (parseMethodDescriptor yX12_lawful.desc).map (fun d => d.parameters.length) = some 3 := by decide +kernel
theorem hd_X12_needed_v : yX12_needed.cls = RX12 ∧ yX12_needed.cls ≠ "java/lang/invoke/MethodHandle" ∧ yX12_needed.cls ≠ "java/lang/invoke/VarHandle" ∧ (parseMethodDescriptor yX12_needed.desc).map (fun d => d.parameters.length) = some 2 := by decide +kernel
theorem hd_X12_odd_v : yX12_odd.cls = RX12 ∧ yX12_odd.cls ≠ "java/lang/invoke/MethodHandle" ∧ yX12_odd.cls ≠ "java/lang/invoke/VarHandle" ∧ (parseMethodDescriptor yX12_odd.desc).map (fun d => d.parameters.length) = some 2 := by decide +kernel
theorem hd_X12_span_v : yX12_span.cls = RX12 ∧ yX12_span.cls ≠ "java/lang/invoke/MethodHandle" ∧ yX12_span.cls ≠ "java/lang/invoke/VarHandle" ∧ (parseMethodDescriptor yX12_span.desc).map (fun d => d.parameters.length) = some 2 := by decide +kernel
theorem dL_law_739 : decode cL_law 739 = .ok (.aload_n 1, 1) := dk_43 (w_at wL_30 19 (p := 739) rfl rfl rfl)
theorem dL_law_740 : decode cL_law 740 = .ok (.aload_n 0, 1) := dk_42 (w_at wL_30 20 (p := 740) rfl rfl rfl)
theorem dL_law_741 : decode cL_law 741 = .ok (.iload_n 3, 1) := dk_29 (w_at wL_30 21 (p := 741) rfl rfl rfl)
theorem dL_law_742 : decode cL_law 742 = .ok (.iconst 1, 1) := dk_4 (w_at wL_30 22 (p := 742) rfl rfl rfl)
theorem dL_law_743 : decode cL_law 743 = .ok (.iadd, 1) := dk_96 (w_at wL_30 23 (p := 743) rfl rfl rfl)
set_option maxRecDepth 100000 in
theorem wL_31 : Win cL_law 744 [46, 42, 29, 5, 96, 46, 42, 29, 6, 96, 46, 182, 0, 81, 88, 44, 42, 29, 4, 96, 46, 42, 29, 5, 96, 46, 42, 29] := Win_sub (o := 720) (o2 := 24) (n := 28) WL_3 (by decide +kernel)
theorem dL_law_744 : decode cL_law 744 = .ok (.iaload, 1) := dk_46 (w_at wL_31 0 (p := 744) rfl rfl rfl)
theorem dL_law_745 : decode cL_law 745 = .ok (.aload_n 0, 1) := dk_42 (w_at wL_31 1 (p := 745) rfl rfl rfl)
theorem dL_law_746 : decode cL_law 746 = .ok (.iload_n 3, 1) := dk_29 (w_at wL_31 2 (p := 746) rfl rfl rfl)
theorem dL_law_747 : decode cL_law 747 = .ok (.iconst 2, 1) := dk_5 (w_at wL_31 3 (p := 747) rfl rfl rfl)
theorem dL_law_748 : decode cL_law 748 = .ok (.iadd, 1) := dk_96 (w_at wL_31 4 (p := 748) rfl rfl rfl)
theorem dL_law_749 : decode cL_law 749 = .ok (.iaload, 1) := dk_46 (w_at wL_31 5 (p := 749) rfl rfl rfl)
theorem dL_law_750 : decode cL_law 750 = .ok (.aload_n 0, 1) := dk_42 (w_at wL_31 6 (p := 750) rfl rfl rfl)
theorem dL_law_751 : decode cL_law 751 = .ok (.iload_n 3, 1) := dk_29 (w_at wL_31 7 (p := 751) rfl rfl rfl)
theorem dL_law_752 : decode cL_law 752 = .ok (.iconst 3, 1) := dk_6 (w_at wL_31 8 (p := 752) rfl rfl rfl)
theorem dL_law_753 : decode cL_law 753 = .ok (.iadd, 1) := dk_96 (w_at wL_31 9 (p := 753) rfl rfl rfl)
theorem dL_law_754 : decode cL_law 754 = .ok (.iaload, 1) := dk_46 (w_at wL_31 10 (p := 754) rfl rfl rfl)
theorem dL_law_755 : decode cL_law 755 = .ok (.invokevirtual 81, 3) := dk_iv (w_at wL_31 11 (p := 755) rfl rfl rfl) (w_at wL_31 12 (p := 756) rfl rfl rfl) (w_at wL_31 13 (p := 757) rfl rfl rfl) rfl
theorem dk_88 {c : ByteArray} {p : Nat} (h : B1 c p 88) : decode c p = .ok (.pop2, 1) := by
  show Except.bind (Except.bind ((Reader.u1 : Reader DecodeError Nat) c p) _) _ = _
  unfold B1 at h
  rw [h]
  show Except.ok ((.pop2 : Instr), p + 1 - p) = _
  rw [Nat.add_sub_cancel_left]
theorem dL_law_758 : decode cL_law 758 = .ok (.pop2, 1) := dk_88 (w_at wL_31 14 (p := 758) rfl rfl rfl)
theorem dL_law_759 : decode cL_law 759 = .ok (.aload_n 2, 1) := dk_44 (w_at wL_31 15 (p := 759) rfl rfl rfl)
theorem dL_law_760 : decode cL_law 760 = .ok (.aload_n 0, 1) := dk_42 (w_at wL_31 16 (p := 760) rfl rfl rfl)
theorem dL_law_761 : decode cL_law 761 = .ok (.iload_n 3, 1) := dk_29 (w_at wL_31 17 (p := 761) rfl rfl rfl)
theorem dL_law_762 : decode cL_law 762 = .ok (.iconst 1, 1) := dk_4 (w_at wL_31 18 (p := 762) rfl rfl rfl)
theorem dL_law_763 : decode cL_law 763 = .ok (.iadd, 1) := dk_96 (w_at wL_31 19 (p := 763) rfl rfl rfl)
theorem dL_law_764 : decode cL_law 764 = .ok (.iaload, 1) := dk_46 (w_at wL_31 20 (p := 764) rfl rfl rfl)
theorem dL_law_765 : decode cL_law 765 = .ok (.aload_n 0, 1) := dk_42 (w_at wL_31 21 (p := 765) rfl rfl rfl)
theorem dL_law_766 : decode cL_law 766 = .ok (.iload_n 3, 1) := dk_29 (w_at wL_31 22 (p := 766) rfl rfl rfl)
theorem dL_law_767 : decode cL_law 767 = .ok (.iconst 2, 1) := dk_5 (w_at wL_31 23 (p := 767) rfl rfl rfl)
set_option maxRecDepth 100000 in
theorem wL_32 : Win cL_law 768 [96, 46, 42, 29, 6, 96, 46, 182, 0, 85, 88, 167, 2, 218, 43, 42, 29, 4, 96, 46, 42, 29, 5, 96, 46, 182, 0, 86] := Win_sub (o := 720) (o2 := 48) (n := 28) WL_3 (by decide +kernel)
theorem dL_law_768 : decode cL_law 768 = .ok (.iadd, 1) := dk_96 (w_at wL_32 0 (p := 768) rfl rfl rfl)
theorem dL_law_769 : decode cL_law 769 = .ok (.iaload, 1) := dk_46 (w_at wL_32 1 (p := 769) rfl rfl rfl)
theorem dL_law_770 : decode cL_law 770 = .ok (.aload_n 0, 1) := dk_42 (w_at wL_32 2 (p := 770) rfl rfl rfl)
theorem dL_law_771 : decode cL_law 771 = .ok (.iload_n 3, 1) := dk_29 (w_at wL_32 3 (p := 771) rfl rfl rfl)
theorem dL_law_772 : decode cL_law 772 = .ok (.iconst 3, 1) := dk_6 (w_at wL_32 4 (p := 772) rfl rfl rfl)
theorem dL_law_773 : decode cL_law 773 = .ok (.iadd, 1) := dk_96 (w_at wL_32 5 (p := 773) rfl rfl rfl)
theorem dL_law_774 : decode cL_law 774 = .ok (.iaload, 1) := dk_46 (w_at wL_32 6 (p := 774) rfl rfl rfl)
theorem dL_law_775 : decode cL_law 775 = .ok (.invokevirtual 85, 3) := dk_iv (w_at wL_32 7 (p := 775) rfl rfl rfl) (w_at wL_32 8 (p := 776) rfl rfl rfl) (w_at wL_32 9 (p := 777) rfl rfl rfl) rfl
theorem dL_law_778 : decode cL_law 778 = .ok (.pop2, 1) := dk_88 (w_at wL_32 10 (p := 778) rfl rfl rfl)
theorem dL_law_782 : decode cL_law 782 = .ok (.aload_n 1, 1) := dk_43 (w_at wL_32 14 (p := 782) rfl rfl rfl)
theorem dL_law_783 : decode cL_law 783 = .ok (.aload_n 0, 1) := dk_42 (w_at wL_32 15 (p := 783) rfl rfl rfl)
theorem dL_law_784 : decode cL_law 784 = .ok (.iload_n 3, 1) := dk_29 (w_at wL_32 16 (p := 784) rfl rfl rfl)
theorem dL_law_785 : decode cL_law 785 = .ok (.iconst 1, 1) := dk_4 (w_at wL_32 17 (p := 785) rfl rfl rfl)
theorem dL_law_786 : decode cL_law 786 = .ok (.iadd, 1) := dk_96 (w_at wL_32 18 (p := 786) rfl rfl rfl)
theorem dL_law_787 : decode cL_law 787 = .ok (.iaload, 1) := dk_46 (w_at wL_32 19 (p := 787) rfl rfl rfl)
theorem dL_law_788 : decode cL_law 788 = .ok (.aload_n 0, 1) := dk_42 (w_at wL_32 20 (p := 788) rfl rfl rfl)
theorem dL_law_789 : decode cL_law 789 = .ok (.iload_n 3, 1) := dk_29 (w_at wL_32 21 (p := 789) rfl rfl rfl)
theorem dL_law_790 : decode cL_law 790 = .ok (.iconst 2, 1) := dk_5 (w_at wL_32 22 (p := 790) rfl rfl rfl)
theorem dL_law_791 : decode cL_law 791 = .ok (.iadd, 1) := dk_96 (w_at wL_32 23 (p := 791) rfl rfl rfl)
set_option maxRecDepth 100000 in
theorem wL_33 : Win cL_law 792 [46, 182, 0, 86, 88, 44, 42, 29, 4, 96, 46, 42, 29, 5, 96, 46, 182, 0, 90, 88, 167, 2, 185, 43, 42, 29, 4, 96] := Win_sub (o := 720) (o2 := 72) (n := 28) WL_3 (by decide +kernel)
theorem dL_law_792 : decode cL_law 792 = .ok (.iaload, 1) := dk_46 (w_at wL_33 0 (p := 792) rfl rfl rfl)
theorem dL_law_793 : decode cL_law 793 = .ok (.invokevirtual 86, 3) := dk_iv (w_at wL_33 1 (p := 793) rfl rfl rfl) (w_at wL_33 2 (p := 794) rfl rfl rfl) (w_at wL_33 3 (p := 795) rfl rfl rfl) rfl
theorem dL_law_796 : decode cL_law 796 = .ok (.pop2, 1) := dk_88 (w_at wL_33 4 (p := 796) rfl rfl rfl)
theorem dL_law_797 : decode cL_law 797 = .ok (.aload_n 2, 1) := dk_44 (w_at wL_33 5 (p := 797) rfl rfl rfl)
theorem dL_law_798 : decode cL_law 798 = .ok (.aload_n 0, 1) := dk_42 (w_at wL_33 6 (p := 798) rfl rfl rfl)
theorem dL_law_799 : decode cL_law 799 = .ok (.iload_n 3, 1) := dk_29 (w_at wL_33 7 (p := 799) rfl rfl rfl)
theorem dL_law_800 : decode cL_law 800 = .ok (.iconst 1, 1) := dk_4 (w_at wL_33 8 (p := 800) rfl rfl rfl)
theorem dL_law_801 : decode cL_law 801 = .ok (.iadd, 1) := dk_96 (w_at wL_33 9 (p := 801) rfl rfl rfl)
theorem dL_law_802 : decode cL_law 802 = .ok (.iaload, 1) := dk_46 (w_at wL_33 10 (p := 802) rfl rfl rfl)
theorem dL_law_803 : decode cL_law 803 = .ok (.aload_n 0, 1) := dk_42 (w_at wL_33 11 (p := 803) rfl rfl rfl)
theorem dL_law_804 : decode cL_law 804 = .ok (.iload_n 3, 1) := dk_29 (w_at wL_33 12 (p := 804) rfl rfl rfl)
theorem dL_law_805 : decode cL_law 805 = .ok (.iconst 2, 1) := dk_5 (w_at wL_33 13 (p := 805) rfl rfl rfl)
theorem dL_law_806 : decode cL_law 806 = .ok (.iadd, 1) := dk_96 (w_at wL_33 14 (p := 806) rfl rfl rfl)
theorem dL_law_807 : decode cL_law 807 = .ok (.iaload, 1) := dk_46 (w_at wL_33 15 (p := 807) rfl rfl rfl)
theorem dL_law_808 : decode cL_law 808 = .ok (.invokevirtual 90, 3) := dk_iv (w_at wL_33 16 (p := 808) rfl rfl rfl) (w_at wL_33 17 (p := 809) rfl rfl rfl) (w_at wL_33 18 (p := 810) rfl rfl rfl) rfl
theorem dL_law_811 : decode cL_law 811 = .ok (.pop2, 1) := dk_88 (w_at wL_33 19 (p := 811) rfl rfl rfl)
theorem dL_law_815 : decode cL_law 815 = .ok (.aload_n 1, 1) := dk_43 (w_at wL_33 23 (p := 815) rfl rfl rfl)
set_option maxRecDepth 100000 in
theorem wL_34 : Win cL_law 816 [42, 29, 4, 96, 46, 42, 29, 5, 96, 46, 182, 0, 91, 87, 44, 42, 29, 4, 96, 46, 42, 29, 5, 96, 46, 182, 0, 94] := Win_sub (o := 720) (o2 := 96) (n := 28) WL_3 (by decide +kernel)
theorem dL_law_816 : decode cL_law 816 = .ok (.aload_n 0, 1) := dk_42 (w_at wL_34 0 (p := 816) rfl rfl rfl)
theorem dL_law_817 : decode cL_law 817 = .ok (.iload_n 3, 1) := dk_29 (w_at wL_34 1 (p := 817) rfl rfl rfl)
theorem dL_law_818 : decode cL_law 818 = .ok (.iconst 1, 1) := dk_4 (w_at wL_34 2 (p := 818) rfl rfl rfl)
theorem dL_law_819 : decode cL_law 819 = .ok (.iadd, 1) := dk_96 (w_at wL_34 3 (p := 819) rfl rfl rfl)
theorem dL_law_820 : decode cL_law 820 = .ok (.iaload, 1) := dk_46 (w_at wL_34 4 (p := 820) rfl rfl rfl)
theorem dL_law_821 : decode cL_law 821 = .ok (.aload_n 0, 1) := dk_42 (w_at wL_34 5 (p := 821) rfl rfl rfl)
theorem dL_law_822 : decode cL_law 822 = .ok (.iload_n 3, 1) := dk_29 (w_at wL_34 6 (p := 822) rfl rfl rfl)
theorem dL_law_823 : decode cL_law 823 = .ok (.iconst 2, 1) := dk_5 (w_at wL_34 7 (p := 823) rfl rfl rfl)
theorem dL_law_824 : decode cL_law 824 = .ok (.iadd, 1) := dk_96 (w_at wL_34 8 (p := 824) rfl rfl rfl)
theorem dL_law_825 : decode cL_law 825 = .ok (.iaload, 1) := dk_46 (w_at wL_34 9 (p := 825) rfl rfl rfl)
theorem dL_law_826 : decode cL_law 826 = .ok (.invokevirtual 91, 3) := dk_iv (w_at wL_34 10 (p := 826) rfl rfl rfl) (w_at wL_34 11 (p := 827) rfl rfl rfl) (w_at wL_34 12 (p := 828) rfl rfl rfl) rfl
theorem dL_law_829 : decode cL_law 829 = .ok (.pop, 1) := dk_87 (w_at wL_34 13 (p := 829) rfl rfl rfl)
theorem dL_law_830 : decode cL_law 830 = .ok (.aload_n 2, 1) := dk_44 (w_at wL_34 14 (p := 830) rfl rfl rfl)
theorem dL_law_831 : decode cL_law 831 = .ok (.aload_n 0, 1) := dk_42 (w_at wL_34 15 (p := 831) rfl rfl rfl)
theorem dL_law_832 : decode cL_law 832 = .ok (.iload_n 3, 1) := dk_29 (w_at wL_34 16 (p := 832) rfl rfl rfl)
theorem dL_law_833 : decode cL_law 833 = .ok (.iconst 1, 1) := dk_4 (w_at wL_34 17 (p := 833) rfl rfl rfl)
theorem dL_law_834 : decode cL_law 834 = .ok (.iadd, 1) := dk_96 (w_at wL_34 18 (p := 834) rfl rfl rfl)
theorem dL_law_835 : decode cL_law 835 = .ok (.iaload, 1) := dk_46 (w_at wL_34 19 (p := 835) rfl rfl rfl)
theorem dL_law_836 : decode cL_law 836 = .ok (.aload_n 0, 1) := dk_42 (w_at wL_34 20 (p := 836) rfl rfl rfl)
theorem dL_law_837 : decode cL_law 837 = .ok (.iload_n 3, 1) := dk_29 (w_at wL_34 21 (p := 837) rfl rfl rfl)
theorem dL_law_838 : decode cL_law 838 = .ok (.iconst 2, 1) := dk_5 (w_at wL_34 22 (p := 838) rfl rfl rfl)
theorem dL_law_839 : decode cL_law 839 = .ok (.iadd, 1) := dk_96 (w_at wL_34 23 (p := 839) rfl rfl rfl)
set_option maxRecDepth 100000 in
theorem wL_35 : Win cL_law 840 [46, 182, 0, 94, 87, 167, 2, 152, 43, 42, 29, 4, 96, 46, 42, 29, 5, 96, 46, 182, 0, 95, 87, 44, 42, 29, 4, 96] := Win_sub (o := 720) (o2 := 120) (n := 28) WL_3 (by decide +kernel)
theorem dL_law_840 : decode cL_law 840 = .ok (.iaload, 1) := dk_46 (w_at wL_35 0 (p := 840) rfl rfl rfl)
theorem dL_law_841 : decode cL_law 841 = .ok (.invokevirtual 94, 3) := dk_iv (w_at wL_35 1 (p := 841) rfl rfl rfl) (w_at wL_35 2 (p := 842) rfl rfl rfl) (w_at wL_35 3 (p := 843) rfl rfl rfl) rfl
theorem dL_law_844 : decode cL_law 844 = .ok (.pop, 1) := dk_87 (w_at wL_35 4 (p := 844) rfl rfl rfl)
theorem dL_law_848 : decode cL_law 848 = .ok (.aload_n 1, 1) := dk_43 (w_at wL_35 8 (p := 848) rfl rfl rfl)
theorem dL_law_849 : decode cL_law 849 = .ok (.aload_n 0, 1) := dk_42 (w_at wL_35 9 (p := 849) rfl rfl rfl)
theorem dL_law_850 : decode cL_law 850 = .ok (.iload_n 3, 1) := dk_29 (w_at wL_35 10 (p := 850) rfl rfl rfl)
theorem dL_law_851 : decode cL_law 851 = .ok (.iconst 1, 1) := dk_4 (w_at wL_35 11 (p := 851) rfl rfl rfl)
theorem dL_law_852 : decode cL_law 852 = .ok (.iadd, 1) := dk_96 (w_at wL_35 12 (p := 852) rfl rfl rfl)
theorem dL_law_853 : decode cL_law 853 = .ok (.iaload, 1) := dk_46 (w_at wL_35 13 (p := 853) rfl rfl rfl)
theorem dL_law_854 : decode cL_law 854 = .ok (.aload_n 0, 1) := dk_42 (w_at wL_35 14 (p := 854) rfl rfl rfl)
theorem dL_law_855 : decode cL_law 855 = .ok (.iload_n 3, 1) := dk_29 (w_at wL_35 15 (p := 855) rfl rfl rfl)
theorem dL_law_856 : decode cL_law 856 = .ok (.iconst 2, 1) := dk_5 (w_at wL_35 16 (p := 856) rfl rfl rfl)
theorem dL_law_857 : decode cL_law 857 = .ok (.iadd, 1) := dk_96 (w_at wL_35 17 (p := 857) rfl rfl rfl)
theorem dL_law_858 : decode cL_law 858 = .ok (.iaload, 1) := dk_46 (w_at wL_35 18 (p := 858) rfl rfl rfl)
theorem dL_law_859 : decode cL_law 859 = .ok (.invokevirtual 95, 3) := dk_iv (w_at wL_35 19 (p := 859) rfl rfl rfl) (w_at wL_35 20 (p := 860) rfl rfl rfl) (w_at wL_35 21 (p := 861) rfl rfl rfl) rfl
theorem dL_law_862 : decode cL_law 862 = .ok (.pop, 1) := dk_87 (w_at wL_35 22 (p := 862) rfl rfl rfl)
theorem dL_law_863 : decode cL_law 863 = .ok (.aload_n 2, 1) := dk_44 (w_at wL_35 23 (p := 863) rfl rfl rfl)
set_option maxRecDepth 100000 in
theorem wL_36 : Win cL_law 864 [42, 29, 4, 96, 46, 42, 29, 5, 96, 46, 182, 0, 98, 87, 167, 2, 119, 43, 42, 29, 4, 96, 46, 42, 29, 5, 96, 46] := Win_sub (o := 720) (o2 := 144) (n := 28) WL_3 (by decide +kernel)
theorem dL_law_864 : decode cL_law 864 = .ok (.aload_n 0, 1) := dk_42 (w_at wL_36 0 (p := 864) rfl rfl rfl)
theorem dL_law_865 : decode cL_law 865 = .ok (.iload_n 3, 1) := dk_29 (w_at wL_36 1 (p := 865) rfl rfl rfl)
theorem dL_law_866 : decode cL_law 866 = .ok (.iconst 1, 1) := dk_4 (w_at wL_36 2 (p := 866) rfl rfl rfl)
theorem dL_law_867 : decode cL_law 867 = .ok (.iadd, 1) := dk_96 (w_at wL_36 3 (p := 867) rfl rfl rfl)
theorem dL_law_868 : decode cL_law 868 = .ok (.iaload, 1) := dk_46 (w_at wL_36 4 (p := 868) rfl rfl rfl)
theorem dL_law_869 : decode cL_law 869 = .ok (.aload_n 0, 1) := dk_42 (w_at wL_36 5 (p := 869) rfl rfl rfl)
theorem dL_law_870 : decode cL_law 870 = .ok (.iload_n 3, 1) := dk_29 (w_at wL_36 6 (p := 870) rfl rfl rfl)
theorem dL_law_871 : decode cL_law 871 = .ok (.iconst 2, 1) := dk_5 (w_at wL_36 7 (p := 871) rfl rfl rfl)
theorem dL_law_872 : decode cL_law 872 = .ok (.iadd, 1) := dk_96 (w_at wL_36 8 (p := 872) rfl rfl rfl)
theorem dL_law_873 : decode cL_law 873 = .ok (.iaload, 1) := dk_46 (w_at wL_36 9 (p := 873) rfl rfl rfl)
theorem dL_law_874 : decode cL_law 874 = .ok (.invokevirtual 98, 3) := dk_iv (w_at wL_36 10 (p := 874) rfl rfl rfl) (w_at wL_36 11 (p := 875) rfl rfl rfl) (w_at wL_36 12 (p := 876) rfl rfl rfl) rfl
theorem dL_law_877 : decode cL_law 877 = .ok (.pop, 1) := dk_87 (w_at wL_36 13 (p := 877) rfl rfl rfl)
theorem dL_law_881 : decode cL_law 881 = .ok (.aload_n 1, 1) := dk_43 (w_at wL_36 17 (p := 881) rfl rfl rfl)
theorem dL_law_882 : decode cL_law 882 = .ok (.aload_n 0, 1) := dk_42 (w_at wL_36 18 (p := 882) rfl rfl rfl)
theorem dL_law_883 : decode cL_law 883 = .ok (.iload_n 3, 1) := dk_29 (w_at wL_36 19 (p := 883) rfl rfl rfl)
theorem dL_law_884 : decode cL_law 884 = .ok (.iconst 1, 1) := dk_4 (w_at wL_36 20 (p := 884) rfl rfl rfl)
theorem dL_law_885 : decode cL_law 885 = .ok (.iadd, 1) := dk_96 (w_at wL_36 21 (p := 885) rfl rfl rfl)
theorem dL_law_886 : decode cL_law 886 = .ok (.iaload, 1) := dk_46 (w_at wL_36 22 (p := 886) rfl rfl rfl)
theorem dL_law_887 : decode cL_law 887 = .ok (.aload_n 0, 1) := dk_42 (w_at wL_36 23 (p := 887) rfl rfl rfl)
set_option maxRecDepth 100000 in
theorem wL_37 : Win cL_law 888 [29, 5, 96, 46, 182, 0, 99, 87, 44, 42, 29, 4, 96, 46, 42, 29, 5, 96, 46, 182, 0, 102, 87, 167, 2, 86, 43, 42] := Win_sub (o := 720) (o2 := 168) (n := 28) WL_3 (by decide +kernel)
theorem dL_law_888 : decode cL_law 888 = .ok (.iload_n 3, 1) := dk_29 (w_at wL_37 0 (p := 888) rfl rfl rfl)
theorem dL_law_889 : decode cL_law 889 = .ok (.iconst 2, 1) := dk_5 (w_at wL_37 1 (p := 889) rfl rfl rfl)
theorem dL_law_890 : decode cL_law 890 = .ok (.iadd, 1) := dk_96 (w_at wL_37 2 (p := 890) rfl rfl rfl)
theorem dL_law_891 : decode cL_law 891 = .ok (.iaload, 1) := dk_46 (w_at wL_37 3 (p := 891) rfl rfl rfl)
theorem dL_law_892 : decode cL_law 892 = .ok (.invokevirtual 99, 3) := dk_iv (w_at wL_37 4 (p := 892) rfl rfl rfl) (w_at wL_37 5 (p := 893) rfl rfl rfl) (w_at wL_37 6 (p := 894) rfl rfl rfl) rfl
theorem dL_law_895 : decode cL_law 895 = .ok (.pop, 1) := dk_87 (w_at wL_37 7 (p := 895) rfl rfl rfl)
theorem dL_law_896 : decode cL_law 896 = .ok (.aload_n 2, 1) := dk_44 (w_at wL_37 8 (p := 896) rfl rfl rfl)
theorem dL_law_897 : decode cL_law 897 = .ok (.aload_n 0, 1) := dk_42 (w_at wL_37 9 (p := 897) rfl rfl rfl)
theorem dL_law_898 : decode cL_law 898 = .ok (.iload_n 3, 1) := dk_29 (w_at wL_37 10 (p := 898) rfl rfl rfl)
theorem dL_law_899 : decode cL_law 899 = .ok (.iconst 1, 1) := dk_4 (w_at wL_37 11 (p := 899) rfl rfl rfl)
theorem dL_law_900 : decode cL_law 900 = .ok (.iadd, 1) := dk_96 (w_at wL_37 12 (p := 900) rfl rfl rfl)
theorem dL_law_901 : decode cL_law 901 = .ok (.iaload, 1) := dk_46 (w_at wL_37 13 (p := 901) rfl rfl rfl)
theorem dL_law_902 : decode cL_law 902 = .ok (.aload_n 0, 1) := dk_42 (w_at wL_37 14 (p := 902) rfl rfl rfl)
theorem dL_law_903 : decode cL_law 903 = .ok (.iload_n 3, 1) := dk_29 (w_at wL_37 15 (p := 903) rfl rfl rfl)
theorem dL_law_904 : decode cL_law 904 = .ok (.iconst 2, 1) := dk_5 (w_at wL_37 16 (p := 904) rfl rfl rfl)
theorem dL_law_905 : decode cL_law 905 = .ok (.iadd, 1) := dk_96 (w_at wL_37 17 (p := 905) rfl rfl rfl)
theorem dL_law_906 : decode cL_law 906 = .ok (.iaload, 1) := dk_46 (w_at wL_37 18 (p := 906) rfl rfl rfl)
theorem dL_law_907 : decode cL_law 907 = .ok (.invokevirtual 102, 3) := dk_iv (w_at wL_37 19 (p := 907) rfl rfl rfl) (w_at wL_37 20 (p := 908) rfl rfl rfl) (w_at wL_37 21 (p := 909) rfl rfl rfl) rfl
theorem dL_law_910 : decode cL_law 910 = .ok (.pop, 1) := dk_87 (w_at wL_37 22 (p := 910) rfl rfl rfl)
set_option maxRecDepth 100000 in
theorem dvL_law_779 : ([(779, .goto 730, 3), (812, .goto 697, 3), (845, .goto 664, 3), (878, .goto 631, 3), (911, .goto 598, 3)] : List (Nat × Instr × Nat)).all (fun q => decide (decode cL_law q.1 = .ok (q.2.1, q.2.2))) = true := by decide +kernel
theorem dL_law_779 : decode cL_law 779 = .ok (.goto 730, 3) := all_at dvL_law_779 0 rfl
theorem dL_law_812 : decode cL_law 812 = .ok (.goto 697, 3) := all_at dvL_law_779 1 rfl
theorem dL_law_845 : decode cL_law 845 = .ok (.goto 664, 3) := all_at dvL_law_779 2 rfl
theorem dL_law_878 : decode cL_law 878 = .ok (.goto 631, 3) := all_at dvL_law_779 3 rfl
theorem dL_law_911 : decode cL_law 911 = .ok (.goto 598, 3) := all_at dvL_law_779 4 rfl
set_option maxHeartbeats 4000000 in
set_option maxRecDepth 100000 in
theorem law_15 {p : Program} {e : Env} {s : State} {m : MethodId} {below : List Frame} {meth : Method} {c : Code} (l : Launch) {b L : Nat} {xs : Nat → Int32} (hL : L ≤ 4096) (C0 : lw_At p s m meth c b L xs) {dC : Nat → ClassId} {dI : Nat → Nat → Nat} {A : Nat → Prop} (hA : ∀ q : Nat, s.heap.size ≤ q → A q) (hbA : ¬ A b) (hAs : ∀ q : Nat, A q → s.heap.size ≤ q) {x y : Nat} {gx gy : Nat → Nat → Nat} {cax cay : Nat → Nat → ClassId} {ak av : Nat → Nat} (hKx : va_K (dC, dI) classes (TX cax) s) (hKy : va_K (dC, dI) classes (TM cay) s) (hXY : ∀ a ∈ AdX x gx, ∀ b ∈ AdM y gy, a ≠ b) (hZ : zC ak av A s s.heap) {H : Heap} {locs : List Loc} {ivx : Nat → Nat → Int32} {lvx : Nat → Nat → Int64} {fax : Nat → Nat → Nat → Int32} {lax : Nat → Nat → Nat → Int64} {ivy : Nat → Nat → Int32} {lvy : Nat → Nat → Int64} {fay : Nat → Nat → Nat → Int32} {lay : Nat → Nat → Nat → Int64} (hIx : IX ivx fax) (hIy : IX ivy fay) (hJC : JCf (ivy 12 23).toInt (fay 12 25) (fay 12 26) (fay 12 27) (fay 12 28)) (hJR : JRf (ivy 12 3).toInt (fay 12 7)) (hJN : JNf (ivy 12 3).toInt (fay 12 4) (fay 12 5)) (hJO : ((ivy 12 20).toInt = -1 ∧ (ivy 12 21).toInt = -1 ∧ (ivy 12 22).toInt = -1)) (hq_now : ivx 11 10 = ivy 12 0) (hq_bales : ivx 0 7 = ivy 12 1) (hq_skeins : ivx 10 1 = ivy 12 3) (hq_rules : ivx 1 7 = ivy 12 23) (hq_text : ivx 8 2 = ivy 12 33) (hq_place : ivx 8 3 = ivy 12 36) (hq_papers : ivx 6 7 = ivy 12 67) (hrs : (∀ s : Nat, (s : Int) < (ivy 12 3).toInt → fax 10 0 (9 * s + 0) = fay 12 4 s ∧ fax 10 0 (9 * s + 1) = fay 12 5 s ∧ fax 10 0 (9 * s + 2) = fay 12 6 s ∧ fax 10 0 (9 * s + 3) = fay 12 7 s ∧ fax 10 0 (9 * s + 4) = fay 12 8 s ∧ fax 10 0 (9 * s + 5) = fay 12 9 s ∧ fax 10 0 (9 * s + 6) = fay 12 10 s ∧ fax 10 0 (9 * s + 7) = fay 12 11 s ∧ fax 10 0 (9 * s + 8) = fay 12 12 s)) (hls : (∀ j : Nat, -1 ≤ (fay 12 12 j).toInt)) (hwd : (∀ s : Nat, (s : Int) < (ivy 12 3).toInt → (100 ≤ (fay 12 7 s).toInt ∧ (fay 12 7 s).toInt ≤ 9999) ∧ (50 ≤ (fay 12 8 s).toInt ∧ (fay 12 8 s).toInt ≤ 9999))) (htx : (∀ j : Nat, (fax 8 1 j).toInt = sg (fay 12 32 j).toInt ∧ 0 ≤ (fay 12 32 j).toInt)) (hbk : BkE (ivy 12 23).toInt (fax 1 0) (fax 1 1) (fax 1 2) (fax 1 3) (fax 1 4) (fax 1 5) (fay 12 24) (fay 12 25) (fay 12 26) (fay 12 27) (fay 12 28) (fay 12 29) (fay 12 30) (fay 12 31)) (hgr : (∀ j : Nat, fax 0 0 j = fay 12 2 j)) (hgb : (∀ j : Nat, (j : Int) < (ivx 0 7).toInt → 1 ≤ (fax 0 0 j).toInt ∧ (fax 0 0 j).toInt ≤ 99999)) (hpa : PaE (ivy 12 67).toInt (fax 6 0) (fax 6 1) (fax 6 2) (fax 6 3) (fax 6 4) (fax 6 5) (fay 12 68) (fay 12 69) (lay 12 70) (fay 12 71) (fay 12 72) (fay 12 73)) (hdr : (∀ s : Nat, (s : Int) < (ivy 12 3).toInt → (fay 12 8 s).toInt ≤ (fay 12 7 s).toInt)) (hPx : va_P (dC, dI) classes (WX x gx cax ivx lvx fax lax) H) (hDx : va_D A (WX x gx cax ivx lvx fax lax)) (hPy : va_P (dC, dI) classes (WM y gy cay ivy lvy fay lay) H) (hDy : va_D A (WM y gy cay ivy lvy fay lay)) (hS : va_S A s.heap H locs) {i : Int32} {ls : Array Slot} (hl : lv_has ls 4 [(3, .int i), (2, .ref y), (1, .ref x), (0, .ref b)]) (hi : 0 ≤ i.toInt ∧ i.toInt ≤ 4088) (hi8 : i.toInt + 8 ≤ (L : Int)) (kk : ∀ (H : Heap) (locs : List Loc) (ivx : Nat → Nat → Int32) (lvx : Nat → Nat → Int64) (fax : Nat → Nat → Nat → Int32) (lax : Nat → Nat → Nat → Int64) (ivy : Nat → Nat → Int32) (lvy : Nat → Nat → Int64) (fay : Nat → Nat → Nat → Int32) (lay : Nat → Nat → Nat → Int64), IX ivx fax → IX ivy fay → JCf (ivy 12 23).toInt (fay 12 25) (fay 12 26) (fay 12 27) (fay 12 28) → JRf (ivy 12 3).toInt (fay 12 7) → JNf (ivy 12 3).toInt (fay 12 4) (fay 12 5) → ((ivy 12 20).toInt = -1 ∧ (ivy 12 21).toInt = -1 ∧ (ivy 12 22).toInt = -1) → ivx 11 10 = ivy 12 0 → ivx 0 7 = ivy 12 1 → ivx 10 1 = ivy 12 3 → ivx 1 7 = ivy 12 23 → ivx 8 2 = ivy 12 33 → ivx 8 3 = ivy 12 36 → ivx 6 7 = ivy 12 67 → (∀ s : Nat, (s : Int) < (ivy 12 3).toInt → fax 10 0 (9 * s + 0) = fay 12 4 s ∧ fax 10 0 (9 * s + 1) = fay 12 5 s ∧ fax 10 0 (9 * s + 2) = fay 12 6 s ∧ fax 10 0 (9 * s + 3) = fay 12 7 s ∧ fax 10 0 (9 * s + 4) = fay 12 8 s ∧ fax 10 0 (9 * s + 5) = fay 12 9 s ∧ fax 10 0 (9 * s + 6) = fay 12 10 s ∧ fax 10 0 (9 * s + 7) = fay 12 11 s ∧ fax 10 0 (9 * s + 8) = fay 12 12 s) → (∀ j : Nat, -1 ≤ (fay 12 12 j).toInt) → (∀ s : Nat, (s : Int) < (ivy 12 3).toInt → (100 ≤ (fay 12 7 s).toInt ∧ (fay 12 7 s).toInt ≤ 9999) ∧ (50 ≤ (fay 12 8 s).toInt ∧ (fay 12 8 s).toInt ≤ 9999)) → (∀ j : Nat, (fax 8 1 j).toInt = sg (fay 12 32 j).toInt ∧ 0 ≤ (fay 12 32 j).toInt) → BkE (ivy 12 23).toInt (fax 1 0) (fax 1 1) (fax 1 2) (fax 1 3) (fax 1 4) (fax 1 5) (fay 12 24) (fay 12 25) (fay 12 26) (fay 12 27) (fay 12 28) (fay 12 29) (fay 12 30) (fay 12 31) → (∀ j : Nat, fax 0 0 j = fay 12 2 j) → (∀ j : Nat, (j : Int) < (ivx 0 7).toInt → 1 ≤ (fax 0 0 j).toInt ∧ (fax 0 0 j).toInt ≤ 99999) → PaE (ivy 12 67).toInt (fax 6 0) (fax 6 1) (fax 6 2) (fax 6 3) (fax 6 4) (fax 6 5) (fay 12 68) (fay 12 69) (lay 12 70) (fay 12 71) (fay 12 72) (fay 12 73) → (∀ s : Nat, (s : Int) < (ivy 12 3).toInt → (fay 12 8 s).toInt ≤ (fay 12 7 s).toInt) → va_P (dC, dI) classes (WX x gx cax ivx lvx fax lax) H → va_D A (WX x gx cax ivx lvx fax lax) → va_P (dC, dI) classes (WM y gy cay ivy lvy fay lay) H → va_D A (WM y gy cay ivy lvy fay lay) → va_S A s.heap H locs → W p l e room_1 s m #[Value.ref b] below meth c H locs 98 5431 (lw_Z below #[Value.ref b] s) (F0 m 1509 ls [])) : W p l e room_1 s m #[Value.ref b] below meth c H locs 98 5431 (lw_Z below #[Value.ref b] s) (F0 m 739 ls []) := by
  obtain ⟨hx, hb, hr, hml, hown, hts, hX, hbl, hlocks, hgv⟩ := id C0
  have ht := tb_of hts
  have hJD := hwd
  have hw8 := congrArg Int32.toInt hq_skeins
  have hJW : ∀ s : Nat, (s : Int) < (ivx 10 1).toInt → (100 ≤ (fax 10 0 (9 * s + 3)).toInt ∧ (fax 10 0 (9 * s + 3)).toInt ≤ 9999) ∧ (50 ≤ (fax 10 0 (9 * s + 4)).toInt ∧ (fax 10 0 (9 * s + 4)).toInt ≤ 9999) := fun s hs => by rw [(hrs s (by omega)).2.2.2.1, (hrs s (by omega)).2.2.2.2.1]; exact hwd s (by omega)
  have hw8r := congrArg Int32.toInt hq_rules
  have hJB : ∀ j : Nat, (j : Int) < (ivx 1 7).toInt → 0 ≤ (fax 1 0 j).toInt := fun j hj => (hbk j (by omega)).2.2.1
  have hJK : ∀ k j : Nat, (k : Int) < (ivy 12 23).toInt → 12 * k ≤ j → (j : Int) < 12 * (k : Int) + (fay 12 25 k).toInt → (fay 12 26 j).toInt = 3 → 0 ≤ (fay 12 28 j).toInt ∧ (fay 12 28 j).toInt < (k : Int) := bk_K hbk
  have hw8b := congrArg Int32.toInt hq_bales
  have hJF : ∀ a d v : Int, 0 ≤ a → a ≤ 5 → FoX (ivx 1 7).toInt (fax 1 0) (fax 1 1) (fax 1 2) (fax 1 3) a d v → fLo a ≤ v ∧ v ≤ fHi a := fun a d v h1 h2 x => by rw [hq_rules] at x; exact FoX_b hbk ⟨h1, h2⟩ x
  have hJH : ∀ a d v : Int, 0 ≤ a → a ≤ 5 → FoY (ivy 12 23).toInt (fay 12 24) (fay 12 25) (fay 12 26) (fay 12 27) (fay 12 28) a d v → fLo a ≤ v ∧ v ≤ fHi a := fun a d v h1 h2 x => FoY_b hbk ⟨h1, h2⟩ x
  have hJG := hgb
  have hJI : ∀ j : Nat, (j : Int) < (ivy 12 1).toInt → 1 ≤ (fay 12 2 j).toInt ∧ (fay 12 2 j).toInt ≤ 99999 := fun j hj => by rw [← hgr j]; exact hgb j (by omega)
  have hJL : ∀ b l : Int32, cn0 (fun s => fax 10 0 (9 * s + 0)) (fun s => fax 10 0 (9 * s + 1)) b l (ivx 10 1).toInt.toNat ≤ 12 := fun b l => by rw [hq_skeins, cn0_congr (ob := fay 12 4) (ol := fay 12 5) _ (fun j hj => ⟨(hrs j (by omega)).1, (hrs j (by omega)).2.1⟩)]; exact hJN b l
  have hw8p := congrArg Int32.toInt hq_papers
  have hJQ : ∀ p : Nat, (p : Int) < (ivy 12 67).toInt → 0 ≤ (lay 12 70 p).toInt ∧ ((fay 12 68 p).toInt = 0 → (lay 12 70 p).toInt ≤ 129998) ∧ (lay 12 70 p).toInt ≤ 129868002 ∧ -1 ≤ (fay 12 71 p).toInt ∧ (fay 12 71 p).toInt < (p : Int) := fun p hp => ⟨(hpa p hp).2.2.1, (hpa p hp).2.2.2.1, (hpa p hp).2.2.2.2.1, (hpa p hp).2.2.2.2.2.1, (hpa p hp).2.2.2.2.2.2.1⟩
  have hJP : ∀ p : Nat, (p : Int) < (ivx 6 7).toInt → 0 ≤ (fax 6 2 p).toInt ∧ ((fax 6 0 p).toInt = 0 → (fax 6 2 p).toInt ≤ 129998) ∧ (fax 6 2 p).toInt ≤ 129868002 ∧ -1 ≤ (fax 6 3 p).toInt ∧ (fax 6 3 p).toInt < (p : Int) := fun p hp => by rw [(hpa p (by omega)).1.1, (hpa p (by omega)).1.2.2.1, (hpa p (by omega)).1.2.2.2.1]; exact hJQ p (by omega)
  have hJS : ∀ s : Nat, (s : Int) < (ivx 10 1).toInt → (fax 10 0 (9 * s + 4)).toInt ≤ (fax 10 0 (9 * s + 3)).toInt := fun s hs => by rw [(hrs s (by omega)).2.2.2.1, (hrs s (by omega)).2.2.2.2.1]; exact hdr s (by omega)
  have hJT : ∀ j : Nat, 0 ≤ (fay 12 32 j).toInt := fun j => (htx j).2
  refine lv_aload_n hx hb dL_law_739 rfl (lv_at hl 2 rfl) ?_
  refine aw_iconst (v := 1) hx hb hX hbl hbA hS hl hi hi8 (by decide) ⟨by decide, by decide⟩ dL_law_740 dL_law_741 dL_law_742 dL_law_743 dL_law_744 (fun v1 ev1 v2 ev2 => ?_)
  refine aw_iconst (v := 2) hx hb hX hbl hbA hS hl hi hi8 (by decide) ⟨by decide, by decide⟩ dL_law_745 dL_law_746 dL_law_747 dL_law_748 dL_law_749 (fun v3 ev3 v4 ev4 => ?_)
  refine aw_iconst (v := 3) hx hb hX hbl hbA hS hl hi hi8 (by decide) ⟨by decide, by decide⟩ dL_law_750 dL_law_751 dL_law_752 dL_law_753 dL_law_754 (fun v5 ev5 v6 ev6 => ?_)
  have hFc := free_all hDx hS hA
  refine va_calll (va_runV (As := [.int v2, .int v4, .int v6]) (rest := []) ⟨hx, hb, hml, hown, ht⟩ (c_X11_lawful_w l dC dI H.size ak av x gx cax ivx lvx fax lax hIx v2 v4 v6 hJB hJW hJF hJG hJL) (kV 3 ht m_833 m_834 m_835 m_77 m_836 rfl rfl hd_X11_lawful_v ⟨Nat.le_of_ble_eq_true rfl, Nat.le_of_ble_eq_true rfl⟩) (vWZ hPx hKx hDx ((hZ.kept hS.2.1).narrow (free_all hDx hS hA)) (rX_11 hKx hPx)) rfl rfl hl.1 rfl (lv_room (Nat.le_of_ble_eq_true rfl)) dL_law_755 ⟨Nat.le_of_ble_eq_true rfl, Nat.le_of_ble_eq_true rfl⟩) hS (fun q _ h => hFc q h) hFc (fun r7 u t H1 locs ht9 hvm hr7 hB hz1 hk1 hS => ?_)
  obtain ⟨n8, n9, n10, n11, n12, n13, hn8, hn12, hn13, xr7_0, hr7, rfl⟩ := hr7
  obtain ⟨hPx, hDx⟩ := hB
  rw [ht9] at hPx
  have hPy := P_kept hPy (la := AdM y gy) (lb := AdX x gx) wmM wmX (fun a ha b hb => (hXY b hb a ha).symm) hk1
  generalize H1 = H at hPx hPy hS ⊢
  have hPx : va_P (dC, dI) classes (WX x gx cax (u2 (u2 ivx 3 3 n12) 3 4 n13) lvx (u2 (u2 fax 1 6 n8) 30 2 n9) (u2 (u2 lax 30 0 n10) 30 1 n11)) H := hPx
  have hDx : va_D A (WX x gx cax (u2 (u2 ivx 3 3 n12) 3 4 n13) lvx (u2 (u2 fax 1 6 n8) 30 2 n9) (u2 (u2 lax 30 0 n10) 30 1 n11)) := (show va_D _ (WX x gx cax (u2 (u2 ivx 3 3 n12) 3 4 n13) lvx (u2 (u2 fax 1 6 n8) 30 2 n9) (u2 (u2 lax 30 0 n10) 30 1 n11)) from hDx).weaken (fun _ _ _ h => hFc _ h)
  refine lv_pop2_2 hx hb dL_law_758 rfl ?_
  refine lv_aload_n hx hb dL_law_759 rfl (lv_at hl 1 rfl) ?_
  refine aw_iconst (v := 1) hx hb hX hbl hbA hS hl hi hi8 (by decide) ⟨by decide, by decide⟩ dL_law_760 dL_law_761 dL_law_762 dL_law_763 dL_law_764 (fun v14 ev14 v15 ev15 => ?_)
  refine aw_iconst (v := 2) hx hb hX hbl hbA hS hl hi hi8 (by decide) ⟨by decide, by decide⟩ dL_law_765 dL_law_766 dL_law_767 dL_law_768 dL_law_769 (fun v16 ev16 v17 ev17 => ?_)
  refine aw_iconst (v := 3) hx hb hX hbl hbA hS hl hi hi8 (by decide) ⟨by decide, by decide⟩ dL_law_770 dL_law_771 dL_law_772 dL_law_773 dL_law_774 (fun v18 ev18 v19 ev19 => ?_)
  have hFc := free_all hDy hS hA
  refine va_calll (va_runV (As := [.int v15, .int v17, .int v19]) (rest := []) ⟨hx, hb, hml, hown, ht⟩ (c_X12_lawful_w l dC dI H.size y gy cay ivy lvy fay lay hIy v15 v17 v19 hJC hJR hJO hJK hJD hJN hJH hJI) (kV 3 ht m_1556 m_1557 m_1558 m_89 m_1559 rfl rfl hd_X12_lawful_v ⟨Nat.le_of_ble_eq_true rfl, Nat.le_of_ble_eq_true rfl⟩) (vW hPy hKy hDy (rM_12 hKy hPy)) rfl rfl hl.1 rfl (lv_room (Nat.le_of_ble_eq_true rfl)) dL_law_775 ⟨Nat.le_of_ble_eq_true rfl, Nat.le_of_ble_eq_true rfl⟩) hS (fun q _ h => hFc q h) hFc (fun r20 u t H1 locs ht9 hvm hr20 hB hz1 hk1 hS => ?_)
  obtain ⟨n21, n22, n23, n24, n25, n26, n27, n28, n29, n30, n31, n32, hn21, hn22, hn26, xr20_0, hr20, rfl⟩ := hr20
  obtain ⟨hPy, hDy⟩ := hB
  rw [ht9] at hPy
  have hPx := P_kept hPx (la := AdX x gx) (lb := AdM y gy) wmX wmM hXY hk1
  generalize H1 = H at hPx hPy hS ⊢
  have hPy : va_P (dC, dI) classes (WM y gy cay (u2 (u2 ivy 12 19 n25) 12 41 n26) (u2 (u2 (u2 (u2 (u2 (u2 lvy 12 17 n27) 12 18 n28) 12 44 n29) 12 45 n30) 12 46 n31) 12 47 n32) (u2 (u2 fay 12 39 n21) 12 40 n22) (u2 (u2 lay 12 42 n23) 12 43 n24)) H := hPy
  have hDy : va_D A (WM y gy cay (u2 (u2 ivy 12 19 n25) 12 41 n26) (u2 (u2 (u2 (u2 (u2 (u2 lvy 12 17 n27) 12 18 n28) 12 44 n29) 12 45 n30) 12 46 n31) 12 47 n32) (u2 (u2 fay 12 39 n21) 12 40 n22) (u2 (u2 lay 12 42 n23) 12 43 n24)) := (show va_D _ (WM y gy cay (u2 (u2 ivy 12 19 n25) 12 41 n26) (u2 (u2 (u2 (u2 (u2 (u2 lvy 12 17 n27) 12 18 n28) 12 44 n29) 12 45 n30) 12 46 n31) 12 47 n32) (u2 (u2 fay 12 39 n21) 12 40 n22) (u2 (u2 lay 12 42 n23) 12 43 n24)) from hDy).weaken (fun _ _ _ h => hFc _ h)
  refine lv_pop2_2 hx hb dL_law_778 rfl ?_
  refine lv_goto (tgt := 1509) hx hb dL_law_779 (by decide) ?_
  exact kk _ _ (u2 (u2 ivx 3 3 n12) 3 4 n13) lvx (u2 (u2 fax 1 6 n8) 30 2 n9) (u2 (u2 lax 30 0 n10) 30 1 n11) (u2 (u2 ivy 12 19 n25) 12 41 n26) (u2 (u2 (u2 (u2 (u2 (u2 lvy 12 17 n27) 12 18 n28) 12 44 n29) 12 45 n30) 12 46 n31) 12 47 n32) (u2 (u2 fay 12 39 n21) 12 40 n22) (u2 (u2 lay 12 42 n23) 12 43 n24) (IX_a (c := 30) (k := 2) (IX_a (c := 1) (k := 6) (IX_i (c := 3) (k := 4) (IX_i (c := 3) (k := 3) hIx hn12) hn13) hn8) (fun j => full_i _)) (IX_a (c := 12) (k := 40) (IX_a (c := 12) (k := 39) (IX_i (c := 12) (k := 41) (IX_i (c := 12) (k := 19) hIy (full_i _)) hn26) hn21) hn22) hJC hJR hJN hJO hq_now hq_bales hq_skeins hq_rules hq_text hq_place hq_papers hrs hls hwd htx hbk hgr hgb hpa hdr hPx hDx hPy hDy hS
set_option maxHeartbeats 4000000 in
set_option maxRecDepth 100000 in
theorem law_16 {p : Program} {e : Env} {s : State} {m : MethodId} {below : List Frame} {meth : Method} {c : Code} (l : Launch) {b L : Nat} {xs : Nat → Int32} (hL : L ≤ 4096) (C0 : lw_At p s m meth c b L xs) {dC : Nat → ClassId} {dI : Nat → Nat → Nat} {A : Nat → Prop} (hA : ∀ q : Nat, s.heap.size ≤ q → A q) (hbA : ¬ A b) (hAs : ∀ q : Nat, A q → s.heap.size ≤ q) {x y : Nat} {gx gy : Nat → Nat → Nat} {cax cay : Nat → Nat → ClassId} {ak av : Nat → Nat} (hKx : va_K (dC, dI) classes (TX cax) s) (hKy : va_K (dC, dI) classes (TM cay) s) (hXY : ∀ a ∈ AdX x gx, ∀ b ∈ AdM y gy, a ≠ b) (hZ : zC ak av A s s.heap) {H : Heap} {locs : List Loc} {ivx : Nat → Nat → Int32} {lvx : Nat → Nat → Int64} {fax : Nat → Nat → Nat → Int32} {lax : Nat → Nat → Nat → Int64} {ivy : Nat → Nat → Int32} {lvy : Nat → Nat → Int64} {fay : Nat → Nat → Nat → Int32} {lay : Nat → Nat → Nat → Int64} (hIx : IX ivx fax) (hIy : IX ivy fay) (hJC : JCf (ivy 12 23).toInt (fay 12 25) (fay 12 26) (fay 12 27) (fay 12 28)) (hJR : JRf (ivy 12 3).toInt (fay 12 7)) (hJN : JNf (ivy 12 3).toInt (fay 12 4) (fay 12 5)) (hJO : ((ivy 12 20).toInt = -1 ∧ (ivy 12 21).toInt = -1 ∧ (ivy 12 22).toInt = -1)) (hq_now : ivx 11 10 = ivy 12 0) (hq_bales : ivx 0 7 = ivy 12 1) (hq_skeins : ivx 10 1 = ivy 12 3) (hq_rules : ivx 1 7 = ivy 12 23) (hq_text : ivx 8 2 = ivy 12 33) (hq_place : ivx 8 3 = ivy 12 36) (hq_papers : ivx 6 7 = ivy 12 67) (hrs : (∀ s : Nat, (s : Int) < (ivy 12 3).toInt → fax 10 0 (9 * s + 0) = fay 12 4 s ∧ fax 10 0 (9 * s + 1) = fay 12 5 s ∧ fax 10 0 (9 * s + 2) = fay 12 6 s ∧ fax 10 0 (9 * s + 3) = fay 12 7 s ∧ fax 10 0 (9 * s + 4) = fay 12 8 s ∧ fax 10 0 (9 * s + 5) = fay 12 9 s ∧ fax 10 0 (9 * s + 6) = fay 12 10 s ∧ fax 10 0 (9 * s + 7) = fay 12 11 s ∧ fax 10 0 (9 * s + 8) = fay 12 12 s)) (hls : (∀ j : Nat, -1 ≤ (fay 12 12 j).toInt)) (hwd : (∀ s : Nat, (s : Int) < (ivy 12 3).toInt → (100 ≤ (fay 12 7 s).toInt ∧ (fay 12 7 s).toInt ≤ 9999) ∧ (50 ≤ (fay 12 8 s).toInt ∧ (fay 12 8 s).toInt ≤ 9999))) (htx : (∀ j : Nat, (fax 8 1 j).toInt = sg (fay 12 32 j).toInt ∧ 0 ≤ (fay 12 32 j).toInt)) (hbk : BkE (ivy 12 23).toInt (fax 1 0) (fax 1 1) (fax 1 2) (fax 1 3) (fax 1 4) (fax 1 5) (fay 12 24) (fay 12 25) (fay 12 26) (fay 12 27) (fay 12 28) (fay 12 29) (fay 12 30) (fay 12 31)) (hgr : (∀ j : Nat, fax 0 0 j = fay 12 2 j)) (hgb : (∀ j : Nat, (j : Int) < (ivx 0 7).toInt → 1 ≤ (fax 0 0 j).toInt ∧ (fax 0 0 j).toInt ≤ 99999)) (hpa : PaE (ivy 12 67).toInt (fax 6 0) (fax 6 1) (fax 6 2) (fax 6 3) (fax 6 4) (fax 6 5) (fay 12 68) (fay 12 69) (lay 12 70) (fay 12 71) (fay 12 72) (fay 12 73)) (hdr : (∀ s : Nat, (s : Int) < (ivy 12 3).toInt → (fay 12 8 s).toInt ≤ (fay 12 7 s).toInt)) (hPx : va_P (dC, dI) classes (WX x gx cax ivx lvx fax lax) H) (hDx : va_D A (WX x gx cax ivx lvx fax lax)) (hPy : va_P (dC, dI) classes (WM y gy cay ivy lvy fay lay) H) (hDy : va_D A (WM y gy cay ivy lvy fay lay)) (hS : va_S A s.heap H locs) {i : Int32} {ls : Array Slot} (hl : lv_has ls 4 [(3, .int i), (2, .ref y), (1, .ref x), (0, .ref b)]) (hi : 0 ≤ i.toInt ∧ i.toInt ≤ 4088) (hi8 : i.toInt + 8 ≤ (L : Int)) (kk : ∀ (H : Heap) (locs : List Loc) (ivx : Nat → Nat → Int32) (lvx : Nat → Nat → Int64) (fax : Nat → Nat → Nat → Int32) (lax : Nat → Nat → Nat → Int64) (ivy : Nat → Nat → Int32) (lvy : Nat → Nat → Int64) (fay : Nat → Nat → Nat → Int32) (lay : Nat → Nat → Nat → Int64), IX ivx fax → IX ivy fay → JCf (ivy 12 23).toInt (fay 12 25) (fay 12 26) (fay 12 27) (fay 12 28) → JRf (ivy 12 3).toInt (fay 12 7) → JNf (ivy 12 3).toInt (fay 12 4) (fay 12 5) → ((ivy 12 20).toInt = -1 ∧ (ivy 12 21).toInt = -1 ∧ (ivy 12 22).toInt = -1) → ivx 11 10 = ivy 12 0 → ivx 0 7 = ivy 12 1 → ivx 10 1 = ivy 12 3 → ivx 1 7 = ivy 12 23 → ivx 8 2 = ivy 12 33 → ivx 8 3 = ivy 12 36 → ivx 6 7 = ivy 12 67 → (∀ s : Nat, (s : Int) < (ivy 12 3).toInt → fax 10 0 (9 * s + 0) = fay 12 4 s ∧ fax 10 0 (9 * s + 1) = fay 12 5 s ∧ fax 10 0 (9 * s + 2) = fay 12 6 s ∧ fax 10 0 (9 * s + 3) = fay 12 7 s ∧ fax 10 0 (9 * s + 4) = fay 12 8 s ∧ fax 10 0 (9 * s + 5) = fay 12 9 s ∧ fax 10 0 (9 * s + 6) = fay 12 10 s ∧ fax 10 0 (9 * s + 7) = fay 12 11 s ∧ fax 10 0 (9 * s + 8) = fay 12 12 s) → (∀ j : Nat, -1 ≤ (fay 12 12 j).toInt) → (∀ s : Nat, (s : Int) < (ivy 12 3).toInt → (100 ≤ (fay 12 7 s).toInt ∧ (fay 12 7 s).toInt ≤ 9999) ∧ (50 ≤ (fay 12 8 s).toInt ∧ (fay 12 8 s).toInt ≤ 9999)) → (∀ j : Nat, (fax 8 1 j).toInt = sg (fay 12 32 j).toInt ∧ 0 ≤ (fay 12 32 j).toInt) → BkE (ivy 12 23).toInt (fax 1 0) (fax 1 1) (fax 1 2) (fax 1 3) (fax 1 4) (fax 1 5) (fay 12 24) (fay 12 25) (fay 12 26) (fay 12 27) (fay 12 28) (fay 12 29) (fay 12 30) (fay 12 31) → (∀ j : Nat, fax 0 0 j = fay 12 2 j) → (∀ j : Nat, (j : Int) < (ivx 0 7).toInt → 1 ≤ (fax 0 0 j).toInt ∧ (fax 0 0 j).toInt ≤ 99999) → PaE (ivy 12 67).toInt (fax 6 0) (fax 6 1) (fax 6 2) (fax 6 3) (fax 6 4) (fax 6 5) (fay 12 68) (fay 12 69) (lay 12 70) (fay 12 71) (fay 12 72) (fay 12 73) → (∀ s : Nat, (s : Int) < (ivy 12 3).toInt → (fay 12 8 s).toInt ≤ (fay 12 7 s).toInt) → va_P (dC, dI) classes (WX x gx cax ivx lvx fax lax) H → va_D A (WX x gx cax ivx lvx fax lax) → va_P (dC, dI) classes (WM y gy cay ivy lvy fay lay) H → va_D A (WM y gy cay ivy lvy fay lay) → va_S A s.heap H locs → W p l e room_1 s m #[Value.ref b] below meth c H locs 98 5431 (lw_Z below #[Value.ref b] s) (F0 m 1509 ls [])) : W p l e room_1 s m #[Value.ref b] below meth c H locs 98 5431 (lw_Z below #[Value.ref b] s) (F0 m 782 ls []) := by
  obtain ⟨hx, hb, hr, hml, hown, hts, hX, hbl, hlocks, hgv⟩ := id C0
  have ht := tb_of hts
  have hJD := hwd
  have hw8 := congrArg Int32.toInt hq_skeins
  have hJW : ∀ s : Nat, (s : Int) < (ivx 10 1).toInt → (100 ≤ (fax 10 0 (9 * s + 3)).toInt ∧ (fax 10 0 (9 * s + 3)).toInt ≤ 9999) ∧ (50 ≤ (fax 10 0 (9 * s + 4)).toInt ∧ (fax 10 0 (9 * s + 4)).toInt ≤ 9999) := fun s hs => by rw [(hrs s (by omega)).2.2.2.1, (hrs s (by omega)).2.2.2.2.1]; exact hwd s (by omega)
  have hw8r := congrArg Int32.toInt hq_rules
  have hJB : ∀ j : Nat, (j : Int) < (ivx 1 7).toInt → 0 ≤ (fax 1 0 j).toInt := fun j hj => (hbk j (by omega)).2.2.1
  have hJK : ∀ k j : Nat, (k : Int) < (ivy 12 23).toInt → 12 * k ≤ j → (j : Int) < 12 * (k : Int) + (fay 12 25 k).toInt → (fay 12 26 j).toInt = 3 → 0 ≤ (fay 12 28 j).toInt ∧ (fay 12 28 j).toInt < (k : Int) := bk_K hbk
  have hw8b := congrArg Int32.toInt hq_bales
  have hJF : ∀ a d v : Int, 0 ≤ a → a ≤ 5 → FoX (ivx 1 7).toInt (fax 1 0) (fax 1 1) (fax 1 2) (fax 1 3) a d v → fLo a ≤ v ∧ v ≤ fHi a := fun a d v h1 h2 x => by rw [hq_rules] at x; exact FoX_b hbk ⟨h1, h2⟩ x
  have hJH : ∀ a d v : Int, 0 ≤ a → a ≤ 5 → FoY (ivy 12 23).toInt (fay 12 24) (fay 12 25) (fay 12 26) (fay 12 27) (fay 12 28) a d v → fLo a ≤ v ∧ v ≤ fHi a := fun a d v h1 h2 x => FoY_b hbk ⟨h1, h2⟩ x
  have hJG := hgb
  have hJI : ∀ j : Nat, (j : Int) < (ivy 12 1).toInt → 1 ≤ (fay 12 2 j).toInt ∧ (fay 12 2 j).toInt ≤ 99999 := fun j hj => by rw [← hgr j]; exact hgb j (by omega)
  have hJL : ∀ b l : Int32, cn0 (fun s => fax 10 0 (9 * s + 0)) (fun s => fax 10 0 (9 * s + 1)) b l (ivx 10 1).toInt.toNat ≤ 12 := fun b l => by rw [hq_skeins, cn0_congr (ob := fay 12 4) (ol := fay 12 5) _ (fun j hj => ⟨(hrs j (by omega)).1, (hrs j (by omega)).2.1⟩)]; exact hJN b l
  have hw8p := congrArg Int32.toInt hq_papers
  have hJQ : ∀ p : Nat, (p : Int) < (ivy 12 67).toInt → 0 ≤ (lay 12 70 p).toInt ∧ ((fay 12 68 p).toInt = 0 → (lay 12 70 p).toInt ≤ 129998) ∧ (lay 12 70 p).toInt ≤ 129868002 ∧ -1 ≤ (fay 12 71 p).toInt ∧ (fay 12 71 p).toInt < (p : Int) := fun p hp => ⟨(hpa p hp).2.2.1, (hpa p hp).2.2.2.1, (hpa p hp).2.2.2.2.1, (hpa p hp).2.2.2.2.2.1, (hpa p hp).2.2.2.2.2.2.1⟩
  have hJP : ∀ p : Nat, (p : Int) < (ivx 6 7).toInt → 0 ≤ (fax 6 2 p).toInt ∧ ((fax 6 0 p).toInt = 0 → (fax 6 2 p).toInt ≤ 129998) ∧ (fax 6 2 p).toInt ≤ 129868002 ∧ -1 ≤ (fax 6 3 p).toInt ∧ (fax 6 3 p).toInt < (p : Int) := fun p hp => by rw [(hpa p (by omega)).1.1, (hpa p (by omega)).1.2.2.1, (hpa p (by omega)).1.2.2.2.1]; exact hJQ p (by omega)
  have hJS : ∀ s : Nat, (s : Int) < (ivx 10 1).toInt → (fax 10 0 (9 * s + 4)).toInt ≤ (fax 10 0 (9 * s + 3)).toInt := fun s hs => by rw [(hrs s (by omega)).2.2.2.1, (hrs s (by omega)).2.2.2.2.1]; exact hdr s (by omega)
  have hJT : ∀ j : Nat, 0 ≤ (fay 12 32 j).toInt := fun j => (htx j).2
  refine lv_aload_n hx hb dL_law_782 rfl (lv_at hl 2 rfl) ?_
  refine aw_iconst (v := 1) hx hb hX hbl hbA hS hl hi hi8 (by decide) ⟨by decide, by decide⟩ dL_law_783 dL_law_784 dL_law_785 dL_law_786 dL_law_787 (fun v1 ev1 v2 ev2 => ?_)
  refine aw_iconst (v := 2) hx hb hX hbl hbA hS hl hi hi8 (by decide) ⟨by decide, by decide⟩ dL_law_788 dL_law_789 dL_law_790 dL_law_791 dL_law_792 (fun v3 ev3 v4 ev4 => ?_)
  have hFc := free_all hDx hS hA
  refine va_calll (va_runV (As := [.int v2, .int v4]) (rest := []) ⟨hx, hb, hml, hown, ht⟩ (c_X11_span l dC dI H.size ak av x gx cax ivx lvx fax lax hIx v2 v4) (kV 2 ht m_854 m_855 m_856 m_77 m_857 rfl rfl hd_X11_span_v ⟨Nat.le_of_ble_eq_true rfl, Nat.le_of_ble_eq_true rfl⟩) (vWZ hPx hKx hDx ((hZ.kept hS.2.1).narrow (free_all hDx hS hA)) (rX_11 hKx hPx)) rfl rfl hl.1 rfl (lv_room (Nat.le_of_ble_eq_true rfl)) dL_law_793 ⟨Nat.le_of_ble_eq_true rfl, Nat.le_of_ble_eq_true rfl⟩) hS (fun q _ h => hFc q h) hFc (fun r5 u t H1 locs ht9 hvm hr5 hB hz1 hk1 hS => ?_)
  obtain ⟨n6, n7, n8, n9, hn6, hr5, rfl⟩ := hr5
  obtain ⟨hPx, hDx⟩ := hB
  rw [ht9] at hPx
  have hPy := P_kept hPy (la := AdM y gy) (lb := AdX x gx) wmM wmX (fun a ha b hb => (hXY b hb a ha).symm) hk1
  generalize H1 = H at hPx hPy hS ⊢
  have hPx : va_P (dC, dI) classes (WX x gx cax ivx lvx (u2 (u2 fax 1 6 n6) 30 2 n7) (u2 (u2 lax 30 0 n8) 30 1 n9)) H := hPx
  have hDx : va_D A (WX x gx cax ivx lvx (u2 (u2 fax 1 6 n6) 30 2 n7) (u2 (u2 lax 30 0 n8) 30 1 n9)) := (show va_D _ (WX x gx cax ivx lvx (u2 (u2 fax 1 6 n6) 30 2 n7) (u2 (u2 lax 30 0 n8) 30 1 n9)) from hDx).weaken (fun _ _ _ h => hFc _ h)
  refine lv_pop2_2 hx hb dL_law_796 rfl ?_
  refine lv_aload_n hx hb dL_law_797 rfl (lv_at hl 1 rfl) ?_
  refine aw_iconst (v := 1) hx hb hX hbl hbA hS hl hi hi8 (by decide) ⟨by decide, by decide⟩ dL_law_798 dL_law_799 dL_law_800 dL_law_801 dL_law_802 (fun v10 ev10 v11 ev11 => ?_)
  refine aw_iconst (v := 2) hx hb hX hbl hbA hS hl hi hi8 (by decide) ⟨by decide, by decide⟩ dL_law_803 dL_law_804 dL_law_805 dL_law_806 dL_law_807 (fun v12 ev12 v13 ev13 => ?_)
  have hFc := free_all hDy hS hA
  refine va_calll (va_runV (As := [.int v11, .int v13]) (rest := []) ⟨hx, hb, hml, hown, ht⟩ (c_X12_span l dC dI H.size y gy cay ivy lvy fay lay hIy v11 v13 hJC hJR hJO) (kV 2 ht m_1567 m_1568 m_1569 m_89 m_1570 rfl rfl hd_X12_span_v ⟨Nat.le_of_ble_eq_true rfl, Nat.le_of_ble_eq_true rfl⟩) (vW hPy hKy hDy (rM_12 hKy hPy)) rfl rfl hl.1 rfl (lv_room (Nat.le_of_ble_eq_true rfl)) dL_law_808 ⟨Nat.le_of_ble_eq_true rfl, Nat.le_of_ble_eq_true rfl⟩) hS (fun q _ h => hFc q h) hFc (fun r14 u t H1 locs ht9 hvm hr14 hB hz1 hk1 hS => ?_)
  obtain ⟨n15, n16, n17, n18, n19, n20, n21, n22, hn15, hn16, hn18, hr14, rfl⟩ := hr14
  obtain ⟨hPy, hDy⟩ := hB
  rw [ht9] at hPy
  have hPx := P_kept hPx (la := AdX x gx) (lb := AdM y gy) wmX wmM hXY hk1
  generalize H1 = H at hPx hPy hS ⊢
  have hPy : va_P (dC, dI) classes (WM y gy cay (u2 (u2 ivy 12 19 n17) 12 41 n18) (u2 (u2 (u2 (u2 lvy 12 17 n19) 12 18 n20) 12 46 n21) 12 47 n22) (u2 (u2 fay 12 39 n15) 12 40 n16) lay) H := hPy
  have hDy : va_D A (WM y gy cay (u2 (u2 ivy 12 19 n17) 12 41 n18) (u2 (u2 (u2 (u2 lvy 12 17 n19) 12 18 n20) 12 46 n21) 12 47 n22) (u2 (u2 fay 12 39 n15) 12 40 n16) lay) := (show va_D _ (WM y gy cay (u2 (u2 ivy 12 19 n17) 12 41 n18) (u2 (u2 (u2 (u2 lvy 12 17 n19) 12 18 n20) 12 46 n21) 12 47 n22) (u2 (u2 fay 12 39 n15) 12 40 n16) lay) from hDy).weaken (fun _ _ _ h => hFc _ h)
  refine lv_pop2_2 hx hb dL_law_811 rfl ?_
  refine lv_goto (tgt := 1509) hx hb dL_law_812 (by decide) ?_
  exact kk _ _ ivx lvx (u2 (u2 fax 1 6 n6) 30 2 n7) (u2 (u2 lax 30 0 n8) 30 1 n9) (u2 (u2 ivy 12 19 n17) 12 41 n18) (u2 (u2 (u2 (u2 lvy 12 17 n19) 12 18 n20) 12 46 n21) 12 47 n22) (u2 (u2 fay 12 39 n15) 12 40 n16) lay (IX_a (c := 30) (k := 2) (IX_a (c := 1) (k := 6) hIx hn6) (fun j => full_i _)) (IX_a (c := 12) (k := 40) (IX_a (c := 12) (k := 39) (IX_i (c := 12) (k := 41) (IX_i (c := 12) (k := 19) hIy (full_i _)) hn18) hn15) hn16) hJC hJR hJN hJO hq_now hq_bales hq_skeins hq_rules hq_text hq_place hq_papers hrs hls hwd htx hbk hgr hgb hpa hdr hPx hDx hPy hDy hS
set_option maxHeartbeats 4000000 in
set_option maxRecDepth 100000 in
theorem law_17 {p : Program} {e : Env} {s : State} {m : MethodId} {below : List Frame} {meth : Method} {c : Code} (l : Launch) {b L : Nat} {xs : Nat → Int32} (hL : L ≤ 4096) (C0 : lw_At p s m meth c b L xs) {dC : Nat → ClassId} {dI : Nat → Nat → Nat} {A : Nat → Prop} (hA : ∀ q : Nat, s.heap.size ≤ q → A q) (hbA : ¬ A b) (hAs : ∀ q : Nat, A q → s.heap.size ≤ q) {x y : Nat} {gx gy : Nat → Nat → Nat} {cax cay : Nat → Nat → ClassId} {ak av : Nat → Nat} (hKx : va_K (dC, dI) classes (TX cax) s) (hKy : va_K (dC, dI) classes (TM cay) s) (hXY : ∀ a ∈ AdX x gx, ∀ b ∈ AdM y gy, a ≠ b) (hZ : zC ak av A s s.heap) {H : Heap} {locs : List Loc} {ivx : Nat → Nat → Int32} {lvx : Nat → Nat → Int64} {fax : Nat → Nat → Nat → Int32} {lax : Nat → Nat → Nat → Int64} {ivy : Nat → Nat → Int32} {lvy : Nat → Nat → Int64} {fay : Nat → Nat → Nat → Int32} {lay : Nat → Nat → Nat → Int64} (hIx : IX ivx fax) (hIy : IX ivy fay) (hJC : JCf (ivy 12 23).toInt (fay 12 25) (fay 12 26) (fay 12 27) (fay 12 28)) (hJR : JRf (ivy 12 3).toInt (fay 12 7)) (hJN : JNf (ivy 12 3).toInt (fay 12 4) (fay 12 5)) (hJO : ((ivy 12 20).toInt = -1 ∧ (ivy 12 21).toInt = -1 ∧ (ivy 12 22).toInt = -1)) (hq_now : ivx 11 10 = ivy 12 0) (hq_bales : ivx 0 7 = ivy 12 1) (hq_skeins : ivx 10 1 = ivy 12 3) (hq_rules : ivx 1 7 = ivy 12 23) (hq_text : ivx 8 2 = ivy 12 33) (hq_place : ivx 8 3 = ivy 12 36) (hq_papers : ivx 6 7 = ivy 12 67) (hrs : (∀ s : Nat, (s : Int) < (ivy 12 3).toInt → fax 10 0 (9 * s + 0) = fay 12 4 s ∧ fax 10 0 (9 * s + 1) = fay 12 5 s ∧ fax 10 0 (9 * s + 2) = fay 12 6 s ∧ fax 10 0 (9 * s + 3) = fay 12 7 s ∧ fax 10 0 (9 * s + 4) = fay 12 8 s ∧ fax 10 0 (9 * s + 5) = fay 12 9 s ∧ fax 10 0 (9 * s + 6) = fay 12 10 s ∧ fax 10 0 (9 * s + 7) = fay 12 11 s ∧ fax 10 0 (9 * s + 8) = fay 12 12 s)) (hls : (∀ j : Nat, -1 ≤ (fay 12 12 j).toInt)) (hwd : (∀ s : Nat, (s : Int) < (ivy 12 3).toInt → (100 ≤ (fay 12 7 s).toInt ∧ (fay 12 7 s).toInt ≤ 9999) ∧ (50 ≤ (fay 12 8 s).toInt ∧ (fay 12 8 s).toInt ≤ 9999))) (htx : (∀ j : Nat, (fax 8 1 j).toInt = sg (fay 12 32 j).toInt ∧ 0 ≤ (fay 12 32 j).toInt)) (hbk : BkE (ivy 12 23).toInt (fax 1 0) (fax 1 1) (fax 1 2) (fax 1 3) (fax 1 4) (fax 1 5) (fay 12 24) (fay 12 25) (fay 12 26) (fay 12 27) (fay 12 28) (fay 12 29) (fay 12 30) (fay 12 31)) (hgr : (∀ j : Nat, fax 0 0 j = fay 12 2 j)) (hgb : (∀ j : Nat, (j : Int) < (ivx 0 7).toInt → 1 ≤ (fax 0 0 j).toInt ∧ (fax 0 0 j).toInt ≤ 99999)) (hpa : PaE (ivy 12 67).toInt (fax 6 0) (fax 6 1) (fax 6 2) (fax 6 3) (fax 6 4) (fax 6 5) (fay 12 68) (fay 12 69) (lay 12 70) (fay 12 71) (fay 12 72) (fay 12 73)) (hdr : (∀ s : Nat, (s : Int) < (ivy 12 3).toInt → (fay 12 8 s).toInt ≤ (fay 12 7 s).toInt)) (hPx : va_P (dC, dI) classes (WX x gx cax ivx lvx fax lax) H) (hDx : va_D A (WX x gx cax ivx lvx fax lax)) (hPy : va_P (dC, dI) classes (WM y gy cay ivy lvy fay lay) H) (hDy : va_D A (WM y gy cay ivy lvy fay lay)) (hS : va_S A s.heap H locs) {i : Int32} {ls : Array Slot} (hl : lv_has ls 4 [(3, .int i), (2, .ref y), (1, .ref x), (0, .ref b)]) (hi : 0 ≤ i.toInt ∧ i.toInt ≤ 4088) (hi8 : i.toInt + 8 ≤ (L : Int)) (kk : ∀ (H : Heap) (locs : List Loc) (ivx : Nat → Nat → Int32) (lvx : Nat → Nat → Int64) (fax : Nat → Nat → Nat → Int32) (lax : Nat → Nat → Nat → Int64) (ivy : Nat → Nat → Int32) (lvy : Nat → Nat → Int64) (fay : Nat → Nat → Nat → Int32) (lay : Nat → Nat → Nat → Int64), IX ivx fax → IX ivy fay → JCf (ivy 12 23).toInt (fay 12 25) (fay 12 26) (fay 12 27) (fay 12 28) → JRf (ivy 12 3).toInt (fay 12 7) → JNf (ivy 12 3).toInt (fay 12 4) (fay 12 5) → ((ivy 12 20).toInt = -1 ∧ (ivy 12 21).toInt = -1 ∧ (ivy 12 22).toInt = -1) → ivx 11 10 = ivy 12 0 → ivx 0 7 = ivy 12 1 → ivx 10 1 = ivy 12 3 → ivx 1 7 = ivy 12 23 → ivx 8 2 = ivy 12 33 → ivx 8 3 = ivy 12 36 → ivx 6 7 = ivy 12 67 → (∀ s : Nat, (s : Int) < (ivy 12 3).toInt → fax 10 0 (9 * s + 0) = fay 12 4 s ∧ fax 10 0 (9 * s + 1) = fay 12 5 s ∧ fax 10 0 (9 * s + 2) = fay 12 6 s ∧ fax 10 0 (9 * s + 3) = fay 12 7 s ∧ fax 10 0 (9 * s + 4) = fay 12 8 s ∧ fax 10 0 (9 * s + 5) = fay 12 9 s ∧ fax 10 0 (9 * s + 6) = fay 12 10 s ∧ fax 10 0 (9 * s + 7) = fay 12 11 s ∧ fax 10 0 (9 * s + 8) = fay 12 12 s) → (∀ j : Nat, -1 ≤ (fay 12 12 j).toInt) → (∀ s : Nat, (s : Int) < (ivy 12 3).toInt → (100 ≤ (fay 12 7 s).toInt ∧ (fay 12 7 s).toInt ≤ 9999) ∧ (50 ≤ (fay 12 8 s).toInt ∧ (fay 12 8 s).toInt ≤ 9999)) → (∀ j : Nat, (fax 8 1 j).toInt = sg (fay 12 32 j).toInt ∧ 0 ≤ (fay 12 32 j).toInt) → BkE (ivy 12 23).toInt (fax 1 0) (fax 1 1) (fax 1 2) (fax 1 3) (fax 1 4) (fax 1 5) (fay 12 24) (fay 12 25) (fay 12 26) (fay 12 27) (fay 12 28) (fay 12 29) (fay 12 30) (fay 12 31) → (∀ j : Nat, fax 0 0 j = fay 12 2 j) → (∀ j : Nat, (j : Int) < (ivx 0 7).toInt → 1 ≤ (fax 0 0 j).toInt ∧ (fax 0 0 j).toInt ≤ 99999) → PaE (ivy 12 67).toInt (fax 6 0) (fax 6 1) (fax 6 2) (fax 6 3) (fax 6 4) (fax 6 5) (fay 12 68) (fay 12 69) (lay 12 70) (fay 12 71) (fay 12 72) (fay 12 73) → (∀ s : Nat, (s : Int) < (ivy 12 3).toInt → (fay 12 8 s).toInt ≤ (fay 12 7 s).toInt) → va_P (dC, dI) classes (WX x gx cax ivx lvx fax lax) H → va_D A (WX x gx cax ivx lvx fax lax) → va_P (dC, dI) classes (WM y gy cay ivy lvy fay lay) H → va_D A (WM y gy cay ivy lvy fay lay) → va_S A s.heap H locs → W p l e room_1 s m #[Value.ref b] below meth c H locs 98 5431 (lw_Z below #[Value.ref b] s) (F0 m 1509 ls [])) : W p l e room_1 s m #[Value.ref b] below meth c H locs 98 5431 (lw_Z below #[Value.ref b] s) (F0 m 815 ls []) := by
  obtain ⟨hx, hb, hr, hml, hown, hts, hX, hbl, hlocks, hgv⟩ := id C0
  have ht := tb_of hts
  have hJD := hwd
  have hw8 := congrArg Int32.toInt hq_skeins
  have hJW : ∀ s : Nat, (s : Int) < (ivx 10 1).toInt → (100 ≤ (fax 10 0 (9 * s + 3)).toInt ∧ (fax 10 0 (9 * s + 3)).toInt ≤ 9999) ∧ (50 ≤ (fax 10 0 (9 * s + 4)).toInt ∧ (fax 10 0 (9 * s + 4)).toInt ≤ 9999) := fun s hs => by rw [(hrs s (by omega)).2.2.2.1, (hrs s (by omega)).2.2.2.2.1]; exact hwd s (by omega)
  have hw8r := congrArg Int32.toInt hq_rules
  have hJB : ∀ j : Nat, (j : Int) < (ivx 1 7).toInt → 0 ≤ (fax 1 0 j).toInt := fun j hj => (hbk j (by omega)).2.2.1
  have hJK : ∀ k j : Nat, (k : Int) < (ivy 12 23).toInt → 12 * k ≤ j → (j : Int) < 12 * (k : Int) + (fay 12 25 k).toInt → (fay 12 26 j).toInt = 3 → 0 ≤ (fay 12 28 j).toInt ∧ (fay 12 28 j).toInt < (k : Int) := bk_K hbk
  have hw8b := congrArg Int32.toInt hq_bales
  have hJF : ∀ a d v : Int, 0 ≤ a → a ≤ 5 → FoX (ivx 1 7).toInt (fax 1 0) (fax 1 1) (fax 1 2) (fax 1 3) a d v → fLo a ≤ v ∧ v ≤ fHi a := fun a d v h1 h2 x => by rw [hq_rules] at x; exact FoX_b hbk ⟨h1, h2⟩ x
  have hJH : ∀ a d v : Int, 0 ≤ a → a ≤ 5 → FoY (ivy 12 23).toInt (fay 12 24) (fay 12 25) (fay 12 26) (fay 12 27) (fay 12 28) a d v → fLo a ≤ v ∧ v ≤ fHi a := fun a d v h1 h2 x => FoY_b hbk ⟨h1, h2⟩ x
  have hJG := hgb
  have hJI : ∀ j : Nat, (j : Int) < (ivy 12 1).toInt → 1 ≤ (fay 12 2 j).toInt ∧ (fay 12 2 j).toInt ≤ 99999 := fun j hj => by rw [← hgr j]; exact hgb j (by omega)
  have hJL : ∀ b l : Int32, cn0 (fun s => fax 10 0 (9 * s + 0)) (fun s => fax 10 0 (9 * s + 1)) b l (ivx 10 1).toInt.toNat ≤ 12 := fun b l => by rw [hq_skeins, cn0_congr (ob := fay 12 4) (ol := fay 12 5) _ (fun j hj => ⟨(hrs j (by omega)).1, (hrs j (by omega)).2.1⟩)]; exact hJN b l
  have hw8p := congrArg Int32.toInt hq_papers
  have hJQ : ∀ p : Nat, (p : Int) < (ivy 12 67).toInt → 0 ≤ (lay 12 70 p).toInt ∧ ((fay 12 68 p).toInt = 0 → (lay 12 70 p).toInt ≤ 129998) ∧ (lay 12 70 p).toInt ≤ 129868002 ∧ -1 ≤ (fay 12 71 p).toInt ∧ (fay 12 71 p).toInt < (p : Int) := fun p hp => ⟨(hpa p hp).2.2.1, (hpa p hp).2.2.2.1, (hpa p hp).2.2.2.2.1, (hpa p hp).2.2.2.2.2.1, (hpa p hp).2.2.2.2.2.2.1⟩
  have hJP : ∀ p : Nat, (p : Int) < (ivx 6 7).toInt → 0 ≤ (fax 6 2 p).toInt ∧ ((fax 6 0 p).toInt = 0 → (fax 6 2 p).toInt ≤ 129998) ∧ (fax 6 2 p).toInt ≤ 129868002 ∧ -1 ≤ (fax 6 3 p).toInt ∧ (fax 6 3 p).toInt < (p : Int) := fun p hp => by rw [(hpa p (by omega)).1.1, (hpa p (by omega)).1.2.2.1, (hpa p (by omega)).1.2.2.2.1]; exact hJQ p (by omega)
  have hJS : ∀ s : Nat, (s : Int) < (ivx 10 1).toInt → (fax 10 0 (9 * s + 4)).toInt ≤ (fax 10 0 (9 * s + 3)).toInt := fun s hs => by rw [(hrs s (by omega)).2.2.2.1, (hrs s (by omega)).2.2.2.2.1]; exact hdr s (by omega)
  have hJT : ∀ j : Nat, 0 ≤ (fay 12 32 j).toInt := fun j => (htx j).2
  refine lv_aload_n hx hb dL_law_815 rfl (lv_at hl 2 rfl) ?_
  refine aw_iconst (v := 1) hx hb hX hbl hbA hS hl hi hi8 (by decide) ⟨by decide, by decide⟩ dL_law_816 dL_law_817 dL_law_818 dL_law_819 dL_law_820 (fun v1 ev1 v2 ev2 => ?_)
  refine aw_iconst (v := 2) hx hb hX hbl hbA hS hl hi hi8 (by decide) ⟨by decide, by decide⟩ dL_law_821 dL_law_822 dL_law_823 dL_law_824 dL_law_825 (fun v3 ev3 v4 ev4 => ?_)
  have hFc := free_all hDx hS hA
  refine va_calli (va_runV (As := [.int v2, .int v4]) (rest := []) ⟨hx, hb, hml, hown, ht⟩ (c_X11_cause l dC dI H.size ak av x gx cax ivx lvx fax lax hIx v2 v4) (kV 2 ht m_866 m_867 m_868 m_77 m_869 rfl rfl hd_X11_cause_v ⟨Nat.le_of_ble_eq_true rfl, Nat.le_of_ble_eq_true rfl⟩) (vWZ hPx hKx hDx ((hZ.kept hS.2.1).narrow (free_all hDx hS hA)) (rX_11 hKx hPx)) rfl rfl hl.1 rfl (lv_room (Nat.le_of_ble_eq_true rfl)) dL_law_826 ⟨Nat.le_of_ble_eq_true rfl, Nat.le_of_ble_eq_true rfl⟩) hS (fun q _ h => hFc q h) hFc (fun r5 u t H1 locs ht9 hvm hr5 hB hz1 hk1 hS => ?_)
  obtain ⟨n6, n7, n8, n9, n10, n11, n12, hn6, hr5, rfl⟩ := hr5
  obtain ⟨hPx, hDx⟩ := hB
  rw [ht9] at hPx
  have hPy := P_kept hPy (la := AdM y gy) (lb := AdX x gx) wmM wmX (fun a ha b hb => (hXY b hb a ha).symm) hk1
  generalize H1 = H at hPx hPy hS ⊢
  have hPx : va_P (dC, dI) classes (WX x gx cax (u2 (u2 (u2 ivx 2 3 n10) 2 4 n11) 2 5 n12) lvx (u2 (u2 fax 1 6 n6) 20 2 n7) (u2 (u2 lax 20 0 n8) 20 1 n9)) H := hPx
  have hDx : va_D A (WX x gx cax (u2 (u2 (u2 ivx 2 3 n10) 2 4 n11) 2 5 n12) lvx (u2 (u2 fax 1 6 n6) 20 2 n7) (u2 (u2 lax 20 0 n8) 20 1 n9)) := (show va_D _ (WX x gx cax (u2 (u2 (u2 ivx 2 3 n10) 2 4 n11) 2 5 n12) lvx (u2 (u2 fax 1 6 n6) 20 2 n7) (u2 (u2 lax 20 0 n8) 20 1 n9)) from hDx).weaken (fun _ _ _ h => hFc _ h)
  refine lv_pop hx hb dL_law_829 rfl ?_
  refine lv_aload_n hx hb dL_law_830 rfl (lv_at hl 1 rfl) ?_
  refine aw_iconst (v := 1) hx hb hX hbl hbA hS hl hi hi8 (by decide) ⟨by decide, by decide⟩ dL_law_831 dL_law_832 dL_law_833 dL_law_834 dL_law_835 (fun v13 ev13 v14 ev14 => ?_)
  refine aw_iconst (v := 2) hx hb hX hbl hbA hS hl hi hi8 (by decide) ⟨by decide, by decide⟩ dL_law_836 dL_law_837 dL_law_838 dL_law_839 dL_law_840 (fun v15 ev15 v16 ev16 => ?_)
  have hFc := free_all hDy hS hA
  refine va_calli (va_runV (As := [.int v14, .int v16]) (rest := []) ⟨hx, hb, hml, hown, ht⟩ (c_X12_cause l dC dI H.size y gy cay ivy lvy fay lay hIy v14 v16 hJC hJR hJO) (kV 2 ht m_1574 m_1575 m_1576 m_89 m_1577 rfl rfl hd_X12_cause_v ⟨Nat.le_of_ble_eq_true rfl, Nat.le_of_ble_eq_true rfl⟩) (vW hPy hKy hDy (rM_12 hKy hPy)) rfl rfl hl.1 rfl (lv_room (Nat.le_of_ble_eq_true rfl)) dL_law_841 ⟨Nat.le_of_ble_eq_true rfl, Nat.le_of_ble_eq_true rfl⟩) hS (fun q _ h => hFc q h) hFc (fun r17 u t H1 locs ht9 hvm hr17 hB hz1 hk1 hS => ?_)
  obtain ⟨n18, n19, n20, n21, n22, n23, n24, n25, n26, n27, n28, hn18, hn19, hn25, hn26, xr17_0, xr17_1, xr17_2, hr17, rfl⟩ := hr17
  obtain ⟨hPy, hDy⟩ := hB
  rw [ht9] at hPy
  have hPx := P_kept hPx (la := AdX x gx) (lb := AdM y gy) wmX wmM hXY hk1
  generalize H1 = H at hPx hPy hS ⊢
  have hPy : va_P (dC, dI) classes (WM y gy cay (u2 (u2 (u2 (u2 (u2 (u2 ivy 12 19 n21) 12 20 n22) 12 21 n23) 12 22 n24) 12 41 n25) 12 48 n26) (u2 (u2 lvy 12 17 n27) 12 18 n28) (u2 (u2 (u2 fay 12 39 n18) 12 40 n19) 12 49 n20) lay) H := hPy
  have hDy : va_D A (WM y gy cay (u2 (u2 (u2 (u2 (u2 (u2 ivy 12 19 n21) 12 20 n22) 12 21 n23) 12 22 n24) 12 41 n25) 12 48 n26) (u2 (u2 lvy 12 17 n27) 12 18 n28) (u2 (u2 (u2 fay 12 39 n18) 12 40 n19) 12 49 n20) lay) := (show va_D _ (WM y gy cay (u2 (u2 (u2 (u2 (u2 (u2 ivy 12 19 n21) 12 20 n22) 12 21 n23) 12 22 n24) 12 41 n25) 12 48 n26) (u2 (u2 lvy 12 17 n27) 12 18 n28) (u2 (u2 (u2 fay 12 39 n18) 12 40 n19) 12 49 n20) lay) from hDy).weaken (fun _ _ _ h => hFc _ h)
  refine lv_pop hx hb dL_law_844 rfl ?_
  refine lv_goto (tgt := 1509) hx hb dL_law_845 (by decide) ?_
  exact kk _ _ (u2 (u2 (u2 ivx 2 3 n10) 2 4 n11) 2 5 n12) lvx (u2 (u2 fax 1 6 n6) 20 2 n7) (u2 (u2 lax 20 0 n8) 20 1 n9) (u2 (u2 (u2 (u2 (u2 (u2 ivy 12 19 n21) 12 20 n22) 12 21 n23) 12 22 n24) 12 41 n25) 12 48 n26) (u2 (u2 lvy 12 17 n27) 12 18 n28) (u2 (u2 (u2 fay 12 39 n18) 12 40 n19) 12 49 n20) lay (IX_a (c := 20) (k := 2) (IX_a (c := 1) (k := 6) (IX_i (c := 2) (k := 5) (IX_i (c := 2) (k := 4) (IX_i (c := 2) (k := 3) hIx (full_i _)) (full_i _)) (full_i _)) hn6) (fun j => full_i _)) (IX_a (c := 12) (k := 49) (IX_a (c := 12) (k := 40) (IX_a (c := 12) (k := 39) (IX_i (c := 12) (k := 48) (IX_i (c := 12) (k := 41) (IX_i (c := 12) (k := 22) (IX_i (c := 12) (k := 21) (IX_i (c := 12) (k := 20) (IX_i (c := 12) (k := 19) hIy (full_i _)) (full_i _)) (full_i _)) (full_i _)) hn25) hn26) hn18) hn19) (fun j => full_i _)) hJC hJR hJN ⟨xr17_0, xr17_1, xr17_2⟩ hq_now hq_bales hq_skeins hq_rules hq_text hq_place hq_papers hrs hls hwd htx hbk hgr hgb hpa hdr hPx hDx hPy hDy hS
set_option maxHeartbeats 4000000 in
set_option maxRecDepth 100000 in
theorem law_18 {p : Program} {e : Env} {s : State} {m : MethodId} {below : List Frame} {meth : Method} {c : Code} (l : Launch) {b L : Nat} {xs : Nat → Int32} (hL : L ≤ 4096) (C0 : lw_At p s m meth c b L xs) {dC : Nat → ClassId} {dI : Nat → Nat → Nat} {A : Nat → Prop} (hA : ∀ q : Nat, s.heap.size ≤ q → A q) (hbA : ¬ A b) (hAs : ∀ q : Nat, A q → s.heap.size ≤ q) {x y : Nat} {gx gy : Nat → Nat → Nat} {cax cay : Nat → Nat → ClassId} {ak av : Nat → Nat} (hKx : va_K (dC, dI) classes (TX cax) s) (hKy : va_K (dC, dI) classes (TM cay) s) (hXY : ∀ a ∈ AdX x gx, ∀ b ∈ AdM y gy, a ≠ b) (hZ : zC ak av A s s.heap) {H : Heap} {locs : List Loc} {ivx : Nat → Nat → Int32} {lvx : Nat → Nat → Int64} {fax : Nat → Nat → Nat → Int32} {lax : Nat → Nat → Nat → Int64} {ivy : Nat → Nat → Int32} {lvy : Nat → Nat → Int64} {fay : Nat → Nat → Nat → Int32} {lay : Nat → Nat → Nat → Int64} (hIx : IX ivx fax) (hIy : IX ivy fay) (hJC : JCf (ivy 12 23).toInt (fay 12 25) (fay 12 26) (fay 12 27) (fay 12 28)) (hJR : JRf (ivy 12 3).toInt (fay 12 7)) (hJN : JNf (ivy 12 3).toInt (fay 12 4) (fay 12 5)) (hJO : ((ivy 12 20).toInt = -1 ∧ (ivy 12 21).toInt = -1 ∧ (ivy 12 22).toInt = -1)) (hq_now : ivx 11 10 = ivy 12 0) (hq_bales : ivx 0 7 = ivy 12 1) (hq_skeins : ivx 10 1 = ivy 12 3) (hq_rules : ivx 1 7 = ivy 12 23) (hq_text : ivx 8 2 = ivy 12 33) (hq_place : ivx 8 3 = ivy 12 36) (hq_papers : ivx 6 7 = ivy 12 67) (hrs : (∀ s : Nat, (s : Int) < (ivy 12 3).toInt → fax 10 0 (9 * s + 0) = fay 12 4 s ∧ fax 10 0 (9 * s + 1) = fay 12 5 s ∧ fax 10 0 (9 * s + 2) = fay 12 6 s ∧ fax 10 0 (9 * s + 3) = fay 12 7 s ∧ fax 10 0 (9 * s + 4) = fay 12 8 s ∧ fax 10 0 (9 * s + 5) = fay 12 9 s ∧ fax 10 0 (9 * s + 6) = fay 12 10 s ∧ fax 10 0 (9 * s + 7) = fay 12 11 s ∧ fax 10 0 (9 * s + 8) = fay 12 12 s)) (hls : (∀ j : Nat, -1 ≤ (fay 12 12 j).toInt)) (hwd : (∀ s : Nat, (s : Int) < (ivy 12 3).toInt → (100 ≤ (fay 12 7 s).toInt ∧ (fay 12 7 s).toInt ≤ 9999) ∧ (50 ≤ (fay 12 8 s).toInt ∧ (fay 12 8 s).toInt ≤ 9999))) (htx : (∀ j : Nat, (fax 8 1 j).toInt = sg (fay 12 32 j).toInt ∧ 0 ≤ (fay 12 32 j).toInt)) (hbk : BkE (ivy 12 23).toInt (fax 1 0) (fax 1 1) (fax 1 2) (fax 1 3) (fax 1 4) (fax 1 5) (fay 12 24) (fay 12 25) (fay 12 26) (fay 12 27) (fay 12 28) (fay 12 29) (fay 12 30) (fay 12 31)) (hgr : (∀ j : Nat, fax 0 0 j = fay 12 2 j)) (hgb : (∀ j : Nat, (j : Int) < (ivx 0 7).toInt → 1 ≤ (fax 0 0 j).toInt ∧ (fax 0 0 j).toInt ≤ 99999)) (hpa : PaE (ivy 12 67).toInt (fax 6 0) (fax 6 1) (fax 6 2) (fax 6 3) (fax 6 4) (fax 6 5) (fay 12 68) (fay 12 69) (lay 12 70) (fay 12 71) (fay 12 72) (fay 12 73)) (hdr : (∀ s : Nat, (s : Int) < (ivy 12 3).toInt → (fay 12 8 s).toInt ≤ (fay 12 7 s).toInt)) (hPx : va_P (dC, dI) classes (WX x gx cax ivx lvx fax lax) H) (hDx : va_D A (WX x gx cax ivx lvx fax lax)) (hPy : va_P (dC, dI) classes (WM y gy cay ivy lvy fay lay) H) (hDy : va_D A (WM y gy cay ivy lvy fay lay)) (hS : va_S A s.heap H locs) {i : Int32} {ls : Array Slot} (hl : lv_has ls 4 [(3, .int i), (2, .ref y), (1, .ref x), (0, .ref b)]) (hi : 0 ≤ i.toInt ∧ i.toInt ≤ 4088) (hi8 : i.toInt + 8 ≤ (L : Int)) (kk : ∀ (H : Heap) (locs : List Loc) (ivx : Nat → Nat → Int32) (lvx : Nat → Nat → Int64) (fax : Nat → Nat → Nat → Int32) (lax : Nat → Nat → Nat → Int64) (ivy : Nat → Nat → Int32) (lvy : Nat → Nat → Int64) (fay : Nat → Nat → Nat → Int32) (lay : Nat → Nat → Nat → Int64), IX ivx fax → IX ivy fay → JCf (ivy 12 23).toInt (fay 12 25) (fay 12 26) (fay 12 27) (fay 12 28) → JRf (ivy 12 3).toInt (fay 12 7) → JNf (ivy 12 3).toInt (fay 12 4) (fay 12 5) → ((ivy 12 20).toInt = -1 ∧ (ivy 12 21).toInt = -1 ∧ (ivy 12 22).toInt = -1) → ivx 11 10 = ivy 12 0 → ivx 0 7 = ivy 12 1 → ivx 10 1 = ivy 12 3 → ivx 1 7 = ivy 12 23 → ivx 8 2 = ivy 12 33 → ivx 8 3 = ivy 12 36 → ivx 6 7 = ivy 12 67 → (∀ s : Nat, (s : Int) < (ivy 12 3).toInt → fax 10 0 (9 * s + 0) = fay 12 4 s ∧ fax 10 0 (9 * s + 1) = fay 12 5 s ∧ fax 10 0 (9 * s + 2) = fay 12 6 s ∧ fax 10 0 (9 * s + 3) = fay 12 7 s ∧ fax 10 0 (9 * s + 4) = fay 12 8 s ∧ fax 10 0 (9 * s + 5) = fay 12 9 s ∧ fax 10 0 (9 * s + 6) = fay 12 10 s ∧ fax 10 0 (9 * s + 7) = fay 12 11 s ∧ fax 10 0 (9 * s + 8) = fay 12 12 s) → (∀ j : Nat, -1 ≤ (fay 12 12 j).toInt) → (∀ s : Nat, (s : Int) < (ivy 12 3).toInt → (100 ≤ (fay 12 7 s).toInt ∧ (fay 12 7 s).toInt ≤ 9999) ∧ (50 ≤ (fay 12 8 s).toInt ∧ (fay 12 8 s).toInt ≤ 9999)) → (∀ j : Nat, (fax 8 1 j).toInt = sg (fay 12 32 j).toInt ∧ 0 ≤ (fay 12 32 j).toInt) → BkE (ivy 12 23).toInt (fax 1 0) (fax 1 1) (fax 1 2) (fax 1 3) (fax 1 4) (fax 1 5) (fay 12 24) (fay 12 25) (fay 12 26) (fay 12 27) (fay 12 28) (fay 12 29) (fay 12 30) (fay 12 31) → (∀ j : Nat, fax 0 0 j = fay 12 2 j) → (∀ j : Nat, (j : Int) < (ivx 0 7).toInt → 1 ≤ (fax 0 0 j).toInt ∧ (fax 0 0 j).toInt ≤ 99999) → PaE (ivy 12 67).toInt (fax 6 0) (fax 6 1) (fax 6 2) (fax 6 3) (fax 6 4) (fax 6 5) (fay 12 68) (fay 12 69) (lay 12 70) (fay 12 71) (fay 12 72) (fay 12 73) → (∀ s : Nat, (s : Int) < (ivy 12 3).toInt → (fay 12 8 s).toInt ≤ (fay 12 7 s).toInt) → va_P (dC, dI) classes (WX x gx cax ivx lvx fax lax) H → va_D A (WX x gx cax ivx lvx fax lax) → va_P (dC, dI) classes (WM y gy cay ivy lvy fay lay) H → va_D A (WM y gy cay ivy lvy fay lay) → va_S A s.heap H locs → W p l e room_1 s m #[Value.ref b] below meth c H locs 98 5431 (lw_Z below #[Value.ref b] s) (F0 m 1509 ls [])) : W p l e room_1 s m #[Value.ref b] below meth c H locs 98 5431 (lw_Z below #[Value.ref b] s) (F0 m 848 ls []) := by
  obtain ⟨hx, hb, hr, hml, hown, hts, hX, hbl, hlocks, hgv⟩ := id C0
  have ht := tb_of hts
  have hJD := hwd
  have hw8 := congrArg Int32.toInt hq_skeins
  have hJW : ∀ s : Nat, (s : Int) < (ivx 10 1).toInt → (100 ≤ (fax 10 0 (9 * s + 3)).toInt ∧ (fax 10 0 (9 * s + 3)).toInt ≤ 9999) ∧ (50 ≤ (fax 10 0 (9 * s + 4)).toInt ∧ (fax 10 0 (9 * s + 4)).toInt ≤ 9999) := fun s hs => by rw [(hrs s (by omega)).2.2.2.1, (hrs s (by omega)).2.2.2.2.1]; exact hwd s (by omega)
  have hw8r := congrArg Int32.toInt hq_rules
  have hJB : ∀ j : Nat, (j : Int) < (ivx 1 7).toInt → 0 ≤ (fax 1 0 j).toInt := fun j hj => (hbk j (by omega)).2.2.1
  have hJK : ∀ k j : Nat, (k : Int) < (ivy 12 23).toInt → 12 * k ≤ j → (j : Int) < 12 * (k : Int) + (fay 12 25 k).toInt → (fay 12 26 j).toInt = 3 → 0 ≤ (fay 12 28 j).toInt ∧ (fay 12 28 j).toInt < (k : Int) := bk_K hbk
  have hw8b := congrArg Int32.toInt hq_bales
  have hJF : ∀ a d v : Int, 0 ≤ a → a ≤ 5 → FoX (ivx 1 7).toInt (fax 1 0) (fax 1 1) (fax 1 2) (fax 1 3) a d v → fLo a ≤ v ∧ v ≤ fHi a := fun a d v h1 h2 x => by rw [hq_rules] at x; exact FoX_b hbk ⟨h1, h2⟩ x
  have hJH : ∀ a d v : Int, 0 ≤ a → a ≤ 5 → FoY (ivy 12 23).toInt (fay 12 24) (fay 12 25) (fay 12 26) (fay 12 27) (fay 12 28) a d v → fLo a ≤ v ∧ v ≤ fHi a := fun a d v h1 h2 x => FoY_b hbk ⟨h1, h2⟩ x
  have hJG := hgb
  have hJI : ∀ j : Nat, (j : Int) < (ivy 12 1).toInt → 1 ≤ (fay 12 2 j).toInt ∧ (fay 12 2 j).toInt ≤ 99999 := fun j hj => by rw [← hgr j]; exact hgb j (by omega)
  have hJL : ∀ b l : Int32, cn0 (fun s => fax 10 0 (9 * s + 0)) (fun s => fax 10 0 (9 * s + 1)) b l (ivx 10 1).toInt.toNat ≤ 12 := fun b l => by rw [hq_skeins, cn0_congr (ob := fay 12 4) (ol := fay 12 5) _ (fun j hj => ⟨(hrs j (by omega)).1, (hrs j (by omega)).2.1⟩)]; exact hJN b l
  have hw8p := congrArg Int32.toInt hq_papers
  have hJQ : ∀ p : Nat, (p : Int) < (ivy 12 67).toInt → 0 ≤ (lay 12 70 p).toInt ∧ ((fay 12 68 p).toInt = 0 → (lay 12 70 p).toInt ≤ 129998) ∧ (lay 12 70 p).toInt ≤ 129868002 ∧ -1 ≤ (fay 12 71 p).toInt ∧ (fay 12 71 p).toInt < (p : Int) := fun p hp => ⟨(hpa p hp).2.2.1, (hpa p hp).2.2.2.1, (hpa p hp).2.2.2.2.1, (hpa p hp).2.2.2.2.2.1, (hpa p hp).2.2.2.2.2.2.1⟩
  have hJP : ∀ p : Nat, (p : Int) < (ivx 6 7).toInt → 0 ≤ (fax 6 2 p).toInt ∧ ((fax 6 0 p).toInt = 0 → (fax 6 2 p).toInt ≤ 129998) ∧ (fax 6 2 p).toInt ≤ 129868002 ∧ -1 ≤ (fax 6 3 p).toInt ∧ (fax 6 3 p).toInt < (p : Int) := fun p hp => by rw [(hpa p (by omega)).1.1, (hpa p (by omega)).1.2.2.1, (hpa p (by omega)).1.2.2.2.1]; exact hJQ p (by omega)
  have hJS : ∀ s : Nat, (s : Int) < (ivx 10 1).toInt → (fax 10 0 (9 * s + 4)).toInt ≤ (fax 10 0 (9 * s + 3)).toInt := fun s hs => by rw [(hrs s (by omega)).2.2.2.1, (hrs s (by omega)).2.2.2.2.1]; exact hdr s (by omega)
  have hJT : ∀ j : Nat, 0 ≤ (fay 12 32 j).toInt := fun j => (htx j).2
  refine lv_aload_n hx hb dL_law_848 rfl (lv_at hl 2 rfl) ?_
  refine aw_iconst (v := 1) hx hb hX hbl hbA hS hl hi hi8 (by decide) ⟨by decide, by decide⟩ dL_law_849 dL_law_850 dL_law_851 dL_law_852 dL_law_853 (fun v1 ev1 v2 ev2 => ?_)
  refine aw_iconst (v := 2) hx hb hX hbl hbA hS hl hi hi8 (by decide) ⟨by decide, by decide⟩ dL_law_854 dL_law_855 dL_law_856 dL_law_857 dL_law_858 (fun v3 ev3 v4 ev4 => ?_)
  have hFc := free_all hDx hS hA
  refine va_calli (va_runV (As := [.int v2, .int v4]) (rest := []) ⟨hx, hb, hml, hown, ht⟩ (c_X11_odd l dC dI H.size ak av x gx cax ivx lvx fax lax hIx v2 v4) (kV 2 ht m_913 m_914 m_915 m_77 m_916 rfl rfl hd_X11_odd_v ⟨Nat.le_of_ble_eq_true rfl, Nat.le_of_ble_eq_true rfl⟩) (vWZ hPx hKx hDx ((hZ.kept hS.2.1).narrow (free_all hDx hS hA)) (rX_11 hKx hPx)) rfl rfl hl.1 rfl (lv_room (Nat.le_of_ble_eq_true rfl)) dL_law_859 ⟨Nat.le_of_ble_eq_true rfl, Nat.le_of_ble_eq_true rfl⟩) hS (fun q _ h => hFc q h) hFc (fun r5 u t H1 locs ht9 hvm hr5 hB hz1 hk1 hS => ?_)
  obtain ⟨n6, n7, n8, n9, n10, n11, n12, n13, hn6, hn7, hr5, rfl⟩ := hr5
  obtain ⟨hPx, hDx⟩ := hB
  rw [ht9] at hPx
  have hPy := P_kept hPy (la := AdM y gy) (lb := AdX x gx) wmM wmX (fun a ha b hb => (hXY b hb a ha).symm) hk1
  generalize H1 = H at hPx hPy hS ⊢
  have hPx : va_P (dC, dI) classes (WX x gx cax (u2 (u2 (u2 ivx 2 3 n11) 2 4 n12) 2 5 n13) lvx (u2 (u2 (u2 fax 1 6 n6) 2 2 n7) 20 2 n8) (u2 (u2 lax 20 0 n9) 20 1 n10)) H := hPx
  have hDx : va_D A (WX x gx cax (u2 (u2 (u2 ivx 2 3 n11) 2 4 n12) 2 5 n13) lvx (u2 (u2 (u2 fax 1 6 n6) 2 2 n7) 20 2 n8) (u2 (u2 lax 20 0 n9) 20 1 n10)) := (show va_D _ (WX x gx cax (u2 (u2 (u2 ivx 2 3 n11) 2 4 n12) 2 5 n13) lvx (u2 (u2 (u2 fax 1 6 n6) 2 2 n7) 20 2 n8) (u2 (u2 lax 20 0 n9) 20 1 n10)) from hDx).weaken (fun _ _ _ h => hFc _ h)
  refine lv_pop hx hb dL_law_862 rfl ?_
  refine lv_aload_n hx hb dL_law_863 rfl (lv_at hl 1 rfl) ?_
  refine aw_iconst (v := 1) hx hb hX hbl hbA hS hl hi hi8 (by decide) ⟨by decide, by decide⟩ dL_law_864 dL_law_865 dL_law_866 dL_law_867 dL_law_868 (fun v14 ev14 v15 ev15 => ?_)
  refine aw_iconst (v := 2) hx hb hX hbl hbA hS hl hi hi8 (by decide) ⟨by decide, by decide⟩ dL_law_869 dL_law_870 dL_law_871 dL_law_872 dL_law_873 (fun v16 ev16 v17 ev17 => ?_)
  have hFc := free_all hDy hS hA
  refine va_calli (va_runV (As := [.int v15, .int v17]) (rest := []) ⟨hx, hb, hml, hown, ht⟩ (c_X12_odd l dC dI H.size y gy cay ivy lvy fay lay hIy v15 v17 hJC) (kV 2 ht m_1594 m_1595 m_1596 m_89 m_1597 rfl rfl hd_X12_odd_v ⟨Nat.le_of_ble_eq_true rfl, Nat.le_of_ble_eq_true rfl⟩) (vW hPy hKy hDy (rM_12 hKy hPy)) rfl rfl hl.1 rfl (lv_room (Nat.le_of_ble_eq_true rfl)) dL_law_874 ⟨Nat.le_of_ble_eq_true rfl, Nat.le_of_ble_eq_true rfl⟩) hS (fun q _ h => hFc q h) hFc (fun r18 u t H1 locs ht9 hvm hr18 hB hz1 hk1 hS => ?_)
  obtain ⟨n19, n20, n21, hn19, hn20, hn21, hr18, rfl⟩ := hr18
  obtain ⟨hPy, hDy⟩ := hB
  rw [ht9] at hPy
  have hPx := P_kept hPx (la := AdX x gx) (lb := AdM y gy) wmX wmM hXY hk1
  generalize H1 = H at hPx hPy hS ⊢
  have hPy : va_P (dC, dI) classes (WM y gy cay (u2 ivy 12 41 n21) lvy (u2 (u2 fay 12 39 n19) 12 40 n20) lay) H := hPy
  have hDy : va_D A (WM y gy cay (u2 ivy 12 41 n21) lvy (u2 (u2 fay 12 39 n19) 12 40 n20) lay) := (show va_D _ (WM y gy cay (u2 ivy 12 41 n21) lvy (u2 (u2 fay 12 39 n19) 12 40 n20) lay) from hDy).weaken (fun _ _ _ h => hFc _ h)
  refine lv_pop hx hb dL_law_877 rfl ?_
  refine lv_goto (tgt := 1509) hx hb dL_law_878 (by decide) ?_
  exact kk _ _ (u2 (u2 (u2 ivx 2 3 n11) 2 4 n12) 2 5 n13) lvx (u2 (u2 (u2 fax 1 6 n6) 2 2 n7) 20 2 n8) (u2 (u2 lax 20 0 n9) 20 1 n10) (u2 ivy 12 41 n21) lvy (u2 (u2 fay 12 39 n19) 12 40 n20) lay (IX_a (c := 20) (k := 2) (IX_a (c := 2) (k := 2) (IX_a (c := 1) (k := 6) (IX_i (c := 2) (k := 5) (IX_i (c := 2) (k := 4) (IX_i (c := 2) (k := 3) hIx (full_i _)) (full_i _)) (full_i _)) hn6) hn7) (fun j => full_i _)) (IX_a (c := 12) (k := 40) (IX_a (c := 12) (k := 39) (IX_i (c := 12) (k := 41) hIy hn21) hn19) hn20) hJC hJR hJN hJO hq_now hq_bales hq_skeins hq_rules hq_text hq_place hq_papers hrs hls hwd htx hbk hgr hgb hpa hdr hPx hDx hPy hDy hS
set_option maxHeartbeats 4000000 in
set_option maxRecDepth 100000 in
theorem law_19 {p : Program} {e : Env} {s : State} {m : MethodId} {below : List Frame} {meth : Method} {c : Code} (l : Launch) {b L : Nat} {xs : Nat → Int32} (hL : L ≤ 4096) (C0 : lw_At p s m meth c b L xs) {dC : Nat → ClassId} {dI : Nat → Nat → Nat} {A : Nat → Prop} (hA : ∀ q : Nat, s.heap.size ≤ q → A q) (hbA : ¬ A b) (hAs : ∀ q : Nat, A q → s.heap.size ≤ q) {x y : Nat} {gx gy : Nat → Nat → Nat} {cax cay : Nat → Nat → ClassId} {ak av : Nat → Nat} (hKx : va_K (dC, dI) classes (TX cax) s) (hKy : va_K (dC, dI) classes (TM cay) s) (hXY : ∀ a ∈ AdX x gx, ∀ b ∈ AdM y gy, a ≠ b) (hZ : zC ak av A s s.heap) {H : Heap} {locs : List Loc} {ivx : Nat → Nat → Int32} {lvx : Nat → Nat → Int64} {fax : Nat → Nat → Nat → Int32} {lax : Nat → Nat → Nat → Int64} {ivy : Nat → Nat → Int32} {lvy : Nat → Nat → Int64} {fay : Nat → Nat → Nat → Int32} {lay : Nat → Nat → Nat → Int64} (hIx : IX ivx fax) (hIy : IX ivy fay) (hJC : JCf (ivy 12 23).toInt (fay 12 25) (fay 12 26) (fay 12 27) (fay 12 28)) (hJR : JRf (ivy 12 3).toInt (fay 12 7)) (hJN : JNf (ivy 12 3).toInt (fay 12 4) (fay 12 5)) (hJO : ((ivy 12 20).toInt = -1 ∧ (ivy 12 21).toInt = -1 ∧ (ivy 12 22).toInt = -1)) (hq_now : ivx 11 10 = ivy 12 0) (hq_bales : ivx 0 7 = ivy 12 1) (hq_skeins : ivx 10 1 = ivy 12 3) (hq_rules : ivx 1 7 = ivy 12 23) (hq_text : ivx 8 2 = ivy 12 33) (hq_place : ivx 8 3 = ivy 12 36) (hq_papers : ivx 6 7 = ivy 12 67) (hrs : (∀ s : Nat, (s : Int) < (ivy 12 3).toInt → fax 10 0 (9 * s + 0) = fay 12 4 s ∧ fax 10 0 (9 * s + 1) = fay 12 5 s ∧ fax 10 0 (9 * s + 2) = fay 12 6 s ∧ fax 10 0 (9 * s + 3) = fay 12 7 s ∧ fax 10 0 (9 * s + 4) = fay 12 8 s ∧ fax 10 0 (9 * s + 5) = fay 12 9 s ∧ fax 10 0 (9 * s + 6) = fay 12 10 s ∧ fax 10 0 (9 * s + 7) = fay 12 11 s ∧ fax 10 0 (9 * s + 8) = fay 12 12 s)) (hls : (∀ j : Nat, -1 ≤ (fay 12 12 j).toInt)) (hwd : (∀ s : Nat, (s : Int) < (ivy 12 3).toInt → (100 ≤ (fay 12 7 s).toInt ∧ (fay 12 7 s).toInt ≤ 9999) ∧ (50 ≤ (fay 12 8 s).toInt ∧ (fay 12 8 s).toInt ≤ 9999))) (htx : (∀ j : Nat, (fax 8 1 j).toInt = sg (fay 12 32 j).toInt ∧ 0 ≤ (fay 12 32 j).toInt)) (hbk : BkE (ivy 12 23).toInt (fax 1 0) (fax 1 1) (fax 1 2) (fax 1 3) (fax 1 4) (fax 1 5) (fay 12 24) (fay 12 25) (fay 12 26) (fay 12 27) (fay 12 28) (fay 12 29) (fay 12 30) (fay 12 31)) (hgr : (∀ j : Nat, fax 0 0 j = fay 12 2 j)) (hgb : (∀ j : Nat, (j : Int) < (ivx 0 7).toInt → 1 ≤ (fax 0 0 j).toInt ∧ (fax 0 0 j).toInt ≤ 99999)) (hpa : PaE (ivy 12 67).toInt (fax 6 0) (fax 6 1) (fax 6 2) (fax 6 3) (fax 6 4) (fax 6 5) (fay 12 68) (fay 12 69) (lay 12 70) (fay 12 71) (fay 12 72) (fay 12 73)) (hdr : (∀ s : Nat, (s : Int) < (ivy 12 3).toInt → (fay 12 8 s).toInt ≤ (fay 12 7 s).toInt)) (hPx : va_P (dC, dI) classes (WX x gx cax ivx lvx fax lax) H) (hDx : va_D A (WX x gx cax ivx lvx fax lax)) (hPy : va_P (dC, dI) classes (WM y gy cay ivy lvy fay lay) H) (hDy : va_D A (WM y gy cay ivy lvy fay lay)) (hS : va_S A s.heap H locs) {i : Int32} {ls : Array Slot} (hl : lv_has ls 4 [(3, .int i), (2, .ref y), (1, .ref x), (0, .ref b)]) (hi : 0 ≤ i.toInt ∧ i.toInt ≤ 4088) (hi8 : i.toInt + 8 ≤ (L : Int)) (kk : ∀ (H : Heap) (locs : List Loc) (ivx : Nat → Nat → Int32) (lvx : Nat → Nat → Int64) (fax : Nat → Nat → Nat → Int32) (lax : Nat → Nat → Nat → Int64) (ivy : Nat → Nat → Int32) (lvy : Nat → Nat → Int64) (fay : Nat → Nat → Nat → Int32) (lay : Nat → Nat → Nat → Int64), IX ivx fax → IX ivy fay → JCf (ivy 12 23).toInt (fay 12 25) (fay 12 26) (fay 12 27) (fay 12 28) → JRf (ivy 12 3).toInt (fay 12 7) → JNf (ivy 12 3).toInt (fay 12 4) (fay 12 5) → ((ivy 12 20).toInt = -1 ∧ (ivy 12 21).toInt = -1 ∧ (ivy 12 22).toInt = -1) → ivx 11 10 = ivy 12 0 → ivx 0 7 = ivy 12 1 → ivx 10 1 = ivy 12 3 → ivx 1 7 = ivy 12 23 → ivx 8 2 = ivy 12 33 → ivx 8 3 = ivy 12 36 → ivx 6 7 = ivy 12 67 → (∀ s : Nat, (s : Int) < (ivy 12 3).toInt → fax 10 0 (9 * s + 0) = fay 12 4 s ∧ fax 10 0 (9 * s + 1) = fay 12 5 s ∧ fax 10 0 (9 * s + 2) = fay 12 6 s ∧ fax 10 0 (9 * s + 3) = fay 12 7 s ∧ fax 10 0 (9 * s + 4) = fay 12 8 s ∧ fax 10 0 (9 * s + 5) = fay 12 9 s ∧ fax 10 0 (9 * s + 6) = fay 12 10 s ∧ fax 10 0 (9 * s + 7) = fay 12 11 s ∧ fax 10 0 (9 * s + 8) = fay 12 12 s) → (∀ j : Nat, -1 ≤ (fay 12 12 j).toInt) → (∀ s : Nat, (s : Int) < (ivy 12 3).toInt → (100 ≤ (fay 12 7 s).toInt ∧ (fay 12 7 s).toInt ≤ 9999) ∧ (50 ≤ (fay 12 8 s).toInt ∧ (fay 12 8 s).toInt ≤ 9999)) → (∀ j : Nat, (fax 8 1 j).toInt = sg (fay 12 32 j).toInt ∧ 0 ≤ (fay 12 32 j).toInt) → BkE (ivy 12 23).toInt (fax 1 0) (fax 1 1) (fax 1 2) (fax 1 3) (fax 1 4) (fax 1 5) (fay 12 24) (fay 12 25) (fay 12 26) (fay 12 27) (fay 12 28) (fay 12 29) (fay 12 30) (fay 12 31) → (∀ j : Nat, fax 0 0 j = fay 12 2 j) → (∀ j : Nat, (j : Int) < (ivx 0 7).toInt → 1 ≤ (fax 0 0 j).toInt ∧ (fax 0 0 j).toInt ≤ 99999) → PaE (ivy 12 67).toInt (fax 6 0) (fax 6 1) (fax 6 2) (fax 6 3) (fax 6 4) (fax 6 5) (fay 12 68) (fay 12 69) (lay 12 70) (fay 12 71) (fay 12 72) (fay 12 73) → (∀ s : Nat, (s : Int) < (ivy 12 3).toInt → (fay 12 8 s).toInt ≤ (fay 12 7 s).toInt) → va_P (dC, dI) classes (WX x gx cax ivx lvx fax lax) H → va_D A (WX x gx cax ivx lvx fax lax) → va_P (dC, dI) classes (WM y gy cay ivy lvy fay lay) H → va_D A (WM y gy cay ivy lvy fay lay) → va_S A s.heap H locs → W p l e room_1 s m #[Value.ref b] below meth c H locs 98 5431 (lw_Z below #[Value.ref b] s) (F0 m 1509 ls [])) : W p l e room_1 s m #[Value.ref b] below meth c H locs 98 5431 (lw_Z below #[Value.ref b] s) (F0 m 881 ls []) := by
  obtain ⟨hx, hb, hr, hml, hown, hts, hX, hbl, hlocks, hgv⟩ := id C0
  have ht := tb_of hts
  have hJD := hwd
  have hw8 := congrArg Int32.toInt hq_skeins
  have hJW : ∀ s : Nat, (s : Int) < (ivx 10 1).toInt → (100 ≤ (fax 10 0 (9 * s + 3)).toInt ∧ (fax 10 0 (9 * s + 3)).toInt ≤ 9999) ∧ (50 ≤ (fax 10 0 (9 * s + 4)).toInt ∧ (fax 10 0 (9 * s + 4)).toInt ≤ 9999) := fun s hs => by rw [(hrs s (by omega)).2.2.2.1, (hrs s (by omega)).2.2.2.2.1]; exact hwd s (by omega)
  have hw8r := congrArg Int32.toInt hq_rules
  have hJB : ∀ j : Nat, (j : Int) < (ivx 1 7).toInt → 0 ≤ (fax 1 0 j).toInt := fun j hj => (hbk j (by omega)).2.2.1
  have hJK : ∀ k j : Nat, (k : Int) < (ivy 12 23).toInt → 12 * k ≤ j → (j : Int) < 12 * (k : Int) + (fay 12 25 k).toInt → (fay 12 26 j).toInt = 3 → 0 ≤ (fay 12 28 j).toInt ∧ (fay 12 28 j).toInt < (k : Int) := bk_K hbk
  have hw8b := congrArg Int32.toInt hq_bales
  have hJF : ∀ a d v : Int, 0 ≤ a → a ≤ 5 → FoX (ivx 1 7).toInt (fax 1 0) (fax 1 1) (fax 1 2) (fax 1 3) a d v → fLo a ≤ v ∧ v ≤ fHi a := fun a d v h1 h2 x => by rw [hq_rules] at x; exact FoX_b hbk ⟨h1, h2⟩ x
  have hJH : ∀ a d v : Int, 0 ≤ a → a ≤ 5 → FoY (ivy 12 23).toInt (fay 12 24) (fay 12 25) (fay 12 26) (fay 12 27) (fay 12 28) a d v → fLo a ≤ v ∧ v ≤ fHi a := fun a d v h1 h2 x => FoY_b hbk ⟨h1, h2⟩ x
  have hJG := hgb
  have hJI : ∀ j : Nat, (j : Int) < (ivy 12 1).toInt → 1 ≤ (fay 12 2 j).toInt ∧ (fay 12 2 j).toInt ≤ 99999 := fun j hj => by rw [← hgr j]; exact hgb j (by omega)
  have hJL : ∀ b l : Int32, cn0 (fun s => fax 10 0 (9 * s + 0)) (fun s => fax 10 0 (9 * s + 1)) b l (ivx 10 1).toInt.toNat ≤ 12 := fun b l => by rw [hq_skeins, cn0_congr (ob := fay 12 4) (ol := fay 12 5) _ (fun j hj => ⟨(hrs j (by omega)).1, (hrs j (by omega)).2.1⟩)]; exact hJN b l
  have hw8p := congrArg Int32.toInt hq_papers
  have hJQ : ∀ p : Nat, (p : Int) < (ivy 12 67).toInt → 0 ≤ (lay 12 70 p).toInt ∧ ((fay 12 68 p).toInt = 0 → (lay 12 70 p).toInt ≤ 129998) ∧ (lay 12 70 p).toInt ≤ 129868002 ∧ -1 ≤ (fay 12 71 p).toInt ∧ (fay 12 71 p).toInt < (p : Int) := fun p hp => ⟨(hpa p hp).2.2.1, (hpa p hp).2.2.2.1, (hpa p hp).2.2.2.2.1, (hpa p hp).2.2.2.2.2.1, (hpa p hp).2.2.2.2.2.2.1⟩
  have hJP : ∀ p : Nat, (p : Int) < (ivx 6 7).toInt → 0 ≤ (fax 6 2 p).toInt ∧ ((fax 6 0 p).toInt = 0 → (fax 6 2 p).toInt ≤ 129998) ∧ (fax 6 2 p).toInt ≤ 129868002 ∧ -1 ≤ (fax 6 3 p).toInt ∧ (fax 6 3 p).toInt < (p : Int) := fun p hp => by rw [(hpa p (by omega)).1.1, (hpa p (by omega)).1.2.2.1, (hpa p (by omega)).1.2.2.2.1]; exact hJQ p (by omega)
  have hJS : ∀ s : Nat, (s : Int) < (ivx 10 1).toInt → (fax 10 0 (9 * s + 4)).toInt ≤ (fax 10 0 (9 * s + 3)).toInt := fun s hs => by rw [(hrs s (by omega)).2.2.2.1, (hrs s (by omega)).2.2.2.2.1]; exact hdr s (by omega)
  have hJT : ∀ j : Nat, 0 ≤ (fay 12 32 j).toInt := fun j => (htx j).2
  refine lv_aload_n hx hb dL_law_881 rfl (lv_at hl 2 rfl) ?_
  refine aw_iconst (v := 1) hx hb hX hbl hbA hS hl hi hi8 (by decide) ⟨by decide, by decide⟩ dL_law_882 dL_law_883 dL_law_884 dL_law_885 dL_law_886 (fun v1 ev1 v2 ev2 => ?_)
  refine aw_iconst (v := 2) hx hb hX hbl hbA hS hl hi hi8 (by decide) ⟨by decide, by decide⟩ dL_law_887 dL_law_888 dL_law_889 dL_law_890 dL_law_891 (fun v3 ev3 v4 ev4 => ?_)
  have hFc := free_all hDx hS hA
  refine va_calli (va_runV (As := [.int v2, .int v4]) (rest := []) ⟨hx, hb, hml, hown, ht⟩ (c_X11_needed l dC dI H.size ak av x gx cax ivx lvx fax lax hIx v2 v4) (kV 2 ht m_925 m_926 m_927 m_77 m_928 rfl rfl hd_X11_needed_v ⟨Nat.le_of_ble_eq_true rfl, Nat.le_of_ble_eq_true rfl⟩) (vWZ hPx hKx hDx ((hZ.kept hS.2.1).narrow (free_all hDx hS hA)) (rX_11 hKx hPx)) rfl rfl hl.1 rfl (lv_room (Nat.le_of_ble_eq_true rfl)) dL_law_892 ⟨Nat.le_of_ble_eq_true rfl, Nat.le_of_ble_eq_true rfl⟩) hS (fun q _ h => hFc q h) hFc (fun r5 u t H1 locs ht9 hvm hr5 hB hz1 hk1 hS => ?_)
  obtain ⟨n6, n7, n8, n9, n10, n11, n12, n13, n14, n15, hn6, hn7, hr5, rfl⟩ := hr5
  obtain ⟨hPx, hDx⟩ := hB
  rw [ht9] at hPx
  have hPy := P_kept hPy (la := AdM y gy) (lb := AdX x gx) wmM wmX (fun a ha b hb => (hXY b hb a ha).symm) hk1
  generalize H1 = H at hPx hPy hS ⊢
  have hPx : va_P (dC, dI) classes (WX x gx cax (u2 (u2 (u2 (u2 (u2 ivx 2 3 n11) 2 4 n12) 2 5 n13) 2 6 n14) 2 7 n15) lvx (u2 (u2 (u2 fax 1 6 n6) 2 2 n7) 20 2 n8) (u2 (u2 lax 20 0 n9) 20 1 n10)) H := hPx
  have hDx : va_D A (WX x gx cax (u2 (u2 (u2 (u2 (u2 ivx 2 3 n11) 2 4 n12) 2 5 n13) 2 6 n14) 2 7 n15) lvx (u2 (u2 (u2 fax 1 6 n6) 2 2 n7) 20 2 n8) (u2 (u2 lax 20 0 n9) 20 1 n10)) := (show va_D _ (WX x gx cax (u2 (u2 (u2 (u2 (u2 ivx 2 3 n11) 2 4 n12) 2 5 n13) 2 6 n14) 2 7 n15) lvx (u2 (u2 (u2 fax 1 6 n6) 2 2 n7) 20 2 n8) (u2 (u2 lax 20 0 n9) 20 1 n10)) from hDx).weaken (fun _ _ _ h => hFc _ h)
  refine lv_pop hx hb dL_law_895 rfl ?_
  refine lv_aload_n hx hb dL_law_896 rfl (lv_at hl 1 rfl) ?_
  refine aw_iconst (v := 1) hx hb hX hbl hbA hS hl hi hi8 (by decide) ⟨by decide, by decide⟩ dL_law_897 dL_law_898 dL_law_899 dL_law_900 dL_law_901 (fun v16 ev16 v17 ev17 => ?_)
  refine aw_iconst (v := 2) hx hb hX hbl hbA hS hl hi hi8 (by decide) ⟨by decide, by decide⟩ dL_law_902 dL_law_903 dL_law_904 dL_law_905 dL_law_906 (fun v18 ev18 v19 ev19 => ?_)
  have hFc := free_all hDy hS hA
  refine va_calli (va_runV (As := [.int v17, .int v19]) (rest := []) ⟨hx, hb, hml, hown, ht⟩ (c_X12_needed l dC dI H.size y gy cay ivy lvy fay lay hIy v17 v19 hJC hJR hJN) (kV 2 ht m_1598 m_1599 m_1600 m_89 m_1601 rfl rfl hd_X12_needed_v ⟨Nat.le_of_ble_eq_true rfl, Nat.le_of_ble_eq_true rfl⟩) (vW hPy hKy hDy (rM_12 hKy hPy)) rfl rfl hl.1 rfl (lv_room (Nat.le_of_ble_eq_true rfl)) dL_law_907 ⟨Nat.le_of_ble_eq_true rfl, Nat.le_of_ble_eq_true rfl⟩) hS (fun q _ h => hFc q h) hFc (fun r20 u t H1 locs ht9 hvm hr20 hB hz1 hk1 hS => ?_)
  obtain ⟨n21, n22, n23, n24, n25, n26, n27, hn21, hn22, hn23, hn25, hr20, rfl⟩ := hr20
  obtain ⟨hPy, hDy⟩ := hB
  rw [ht9] at hPy
  have hPx := P_kept hPx (la := AdX x gx) (lb := AdM y gy) wmX wmM hXY hk1
  generalize H1 = H at hPx hPy hS ⊢
  have hPy : va_P (dC, dI) classes (WM y gy cay (u2 (u2 ivy 12 19 n24) 12 41 n25) (u2 (u2 lvy 12 17 n26) 12 18 n27) (u2 (u2 (u2 fay 12 39 n21) 12 40 n22) 12 50 n23) lay) H := hPy
  have hDy : va_D A (WM y gy cay (u2 (u2 ivy 12 19 n24) 12 41 n25) (u2 (u2 lvy 12 17 n26) 12 18 n27) (u2 (u2 (u2 fay 12 39 n21) 12 40 n22) 12 50 n23) lay) := (show va_D _ (WM y gy cay (u2 (u2 ivy 12 19 n24) 12 41 n25) (u2 (u2 lvy 12 17 n26) 12 18 n27) (u2 (u2 (u2 fay 12 39 n21) 12 40 n22) 12 50 n23) lay) from hDy).weaken (fun _ _ _ h => hFc _ h)
  refine lv_pop hx hb dL_law_910 rfl ?_
  refine lv_goto (tgt := 1509) hx hb dL_law_911 (by decide) ?_
  exact kk _ _ (u2 (u2 (u2 (u2 (u2 ivx 2 3 n11) 2 4 n12) 2 5 n13) 2 6 n14) 2 7 n15) lvx (u2 (u2 (u2 fax 1 6 n6) 2 2 n7) 20 2 n8) (u2 (u2 lax 20 0 n9) 20 1 n10) (u2 (u2 ivy 12 19 n24) 12 41 n25) (u2 (u2 lvy 12 17 n26) 12 18 n27) (u2 (u2 (u2 fay 12 39 n21) 12 40 n22) 12 50 n23) lay (IX_a (c := 20) (k := 2) (IX_a (c := 2) (k := 2) (IX_a (c := 1) (k := 6) (IX_i (c := 2) (k := 7) (IX_i (c := 2) (k := 6) (IX_i (c := 2) (k := 5) (IX_i (c := 2) (k := 4) (IX_i (c := 2) (k := 3) hIx (full_i _)) (full_i _)) (full_i _)) (full_i _)) (full_i _)) hn6) hn7) (fun j => full_i _)) (IX_a (c := 12) (k := 50) (IX_a (c := 12) (k := 40) (IX_a (c := 12) (k := 39) (IX_i (c := 12) (k := 41) (IX_i (c := 12) (k := 19) hIy (full_i _)) hn25) hn21) hn22) hn23) hJC hJR hJN hJO hq_now hq_bales hq_skeins hq_rules hq_text hq_place hq_papers hrs hls hwd htx hbk hgr hgb hpa hdr hPx hDx hPy hDy hS
