/-! ===== law ===== -/
set_option maxRecDepth 100000 in
theorem m_941 : Cond.methodLink RL 103 yX11_thread ∈ tb := tb_in 941 (by decide +kernel) rfl
set_option maxRecDepth 100000 in
theorem m_942 : Cond.instanceMethod yX11_thread ∈ tb := tb_in 942 (by decide +kernel) rfl
set_option maxRecDepth 100000 in
theorem m_943 : Cond.selects RX11 yX11_thread yX11_thread ∈ tb := tb_in 943 (by decide +kernel) rfl
set_option maxRecDepth 100000 in
theorem m_944 : Cond.code yX11_thread cX11_thread 3 (some .int) ∈ tb := tb_in 944 rfl rfl
set_option maxRecDepth 100000 in
theorem m_949 : Cond.methodLink RL 107 yX11_size ∈ tb := tb_in 949 (by decide +kernel) rfl
set_option maxRecDepth 100000 in
theorem m_950 : Cond.instanceMethod yX11_size ∈ tb := tb_in 950 (by decide +kernel) rfl
set_option maxRecDepth 100000 in
theorem m_951 : Cond.selects RX11 yX11_size yX11_size ∈ tb := tb_in 951 (by decide +kernel) rfl
set_option maxRecDepth 100000 in
theorem m_952 : Cond.code yX11_size cX11_size 7 (some .int) ∈ tb := tb_in 952 rfl rfl
set_option maxRecDepth 100000 in
theorem m_961 : Cond.methodLink RL 111 yX11_named ∈ tb := tb_in 961 (by decide +kernel) rfl
set_option maxRecDepth 100000 in
theorem m_962 : Cond.instanceMethod yX11_named ∈ tb := tb_in 962 (by decide +kernel) rfl
set_option maxRecDepth 100000 in
theorem m_963 : Cond.selects RX11 yX11_named yX11_named ∈ tb := tb_in 963 (by decide +kernel) rfl
set_option maxRecDepth 100000 in
theorem m_964 : Cond.code yX11_named cX11_named 3 (some .int) ∈ tb := tb_in 964 rfl rfl
set_option maxRecDepth 100000 in
theorem m_973 : Cond.methodLink RL 115 yX11_turns ∈ tb := tb_in 973 (by decide +kernel) rfl
set_option maxRecDepth 100000 in
theorem m_974 : Cond.instanceMethod yX11_turns ∈ tb := tb_in 974 (by decide +kernel) rfl
set_option maxRecDepth 100000 in
theorem m_975 : Cond.selects RX11 yX11_turns yX11_turns ∈ tb := tb_in 975 (by decide +kernel) rfl
set_option maxRecDepth 100000 in
theorem m_976 : Cond.code yX11_turns cX11_turns 3 (some .int) ∈ tb := tb_in 976 rfl rfl
set_option maxRecDepth 100000 in
theorem m_981 : Cond.methodLink RL 119 yX11_twist ∈ tb := tb_in 981 (by decide +kernel) rfl
set_option maxRecDepth 100000 in
theorem m_982 : Cond.instanceMethod yX11_twist ∈ tb := tb_in 982 (by decide +kernel) rfl
set_option maxRecDepth 100000 in
theorem m_983 : Cond.selects RX11 yX11_twist yX11_twist ∈ tb := tb_in 983 (by decide +kernel) rfl
set_option maxRecDepth 100000 in
theorem m_984 : Cond.code yX11_twist cX11_twist 2 (some .int) ∈ tb := tb_in 984 rfl rfl
set_option maxRecDepth 100000 in
theorem m_1609 : Cond.methodLink RL 106 yX12_thread ∈ tb := tb_in 1609 (by decide +kernel) rfl
set_option maxRecDepth 100000 in
theorem m_1610 : Cond.instanceMethod yX12_thread ∈ tb := tb_in 1610 (by decide +kernel) rfl
set_option maxRecDepth 100000 in
theorem m_1611 : Cond.selects RX12 yX12_thread yX12_thread ∈ tb := tb_in 1611 (by decide +kernel) rfl
set_option maxRecDepth 100000 in
theorem m_1612 : Cond.code yX12_thread cX12_thread 3 (some .int) ∈ tb := tb_in 1612 rfl rfl
set_option maxRecDepth 100000 in
theorem m_1613 : Cond.methodLink RL 110 yX12_size ∈ tb := tb_in 1613 (by decide +kernel) rfl
set_option maxRecDepth 100000 in
theorem m_1614 : Cond.instanceMethod yX12_size ∈ tb := tb_in 1614 (by decide +kernel) rfl
set_option maxRecDepth 100000 in
theorem m_1615 : Cond.selects RX12 yX12_size yX12_size ∈ tb := tb_in 1615 (by decide +kernel) rfl
set_option maxRecDepth 100000 in
theorem m_1616 : Cond.code yX12_size cX12_size 14 (some .int) ∈ tb := tb_in 1616 rfl rfl
set_option maxRecDepth 100000 in
theorem m_1617 : Cond.methodLink RL 114 yX12_named ∈ tb := tb_in 1617 (by decide +kernel) rfl
set_option maxRecDepth 100000 in
theorem m_1618 : Cond.instanceMethod yX12_named ∈ tb := tb_in 1618 (by decide +kernel) rfl
set_option maxRecDepth 100000 in
theorem m_1619 : Cond.selects RX12 yX12_named yX12_named ∈ tb := tb_in 1619 (by decide +kernel) rfl
set_option maxRecDepth 100000 in
theorem m_1620 : Cond.code yX12_named cX12_named 10 (some .int) ∈ tb := tb_in 1620 rfl rfl
set_option maxRecDepth 100000 in
theorem m_1621 : Cond.methodLink RL 118 yX12_turns ∈ tb := tb_in 1621 (by decide +kernel) rfl
set_option maxRecDepth 100000 in
theorem m_1622 : Cond.instanceMethod yX12_turns ∈ tb := tb_in 1622 (by decide +kernel) rfl
set_option maxRecDepth 100000 in
theorem m_1623 : Cond.selects RX12 yX12_turns yX12_turns ∈ tb := tb_in 1623 (by decide +kernel) rfl
set_option maxRecDepth 100000 in
theorem m_1624 : Cond.code yX12_turns cX12_turns 3 (some .int) ∈ tb := tb_in 1624 rfl rfl
set_option maxRecDepth 100000 in
theorem m_1625 : Cond.methodLink RL 122 yX12_twist ∈ tb := tb_in 1625 (by decide +kernel) rfl
set_option maxRecDepth 100000 in
theorem m_1626 : Cond.instanceMethod yX12_twist ∈ tb := tb_in 1626 (by decide +kernel) rfl
set_option maxRecDepth 100000 in
theorem m_1627 : Cond.selects RX12 yX12_twist yX12_twist ∈ tb := tb_in 1627 (by decide +kernel) rfl
set_option maxRecDepth 100000 in
theorem m_1628 : Cond.code yX12_twist cX12_twist 8 (some .int) ∈ tb := tb_in 1628 rfl rfl
theorem hd_X11_named_v : yX11_named.cls = RX11 ∧ yX11_named.cls ≠ "java/lang/invoke/MethodHandle" ∧ yX11_named.cls ≠ "java/lang/invoke/VarHandle" ∧ (parseMethodDescriptor yX11_named.desc).map (fun d => d.parameters.length) = some 2 := by decide +kernel
theorem hd_X11_size_v : yX11_size.cls = RX11 ∧ yX11_size.cls ≠ "java/lang/invoke/MethodHandle" ∧ yX11_size.cls ≠ "java/lang/invoke/VarHandle" ∧ (parseMethodDescriptor yX11_size.desc).map (fun d => d.parameters.length) = some 2 := by decide +kernel
theorem hd_X11_thread_v : yX11_thread.cls = RX11 ∧ yX11_thread.cls ≠ "java/lang/invoke/MethodHandle" ∧ yX11_thread.cls ≠ "java/lang/invoke/VarHandle" ∧ (parseMethodDescriptor yX11_thread.desc).map (fun d => d.parameters.length) = some 2 := by decide +kernel
theorem hd_X11_turns_v : yX11_turns.cls = RX11 ∧ yX11_turns.cls ≠ "java/lang/invoke/MethodHandle" ∧ yX11_turns.cls ≠ "java/lang/invoke/VarHandle" ∧ (parseMethodDescriptor yX11_turns.desc).map (fun d => d.parameters.length) = some 2 := by decide +kernel
theorem hd_X11_twist_v : yX11_twist.cls = RX11 ∧ yX11_twist.cls ≠ "java/lang/invoke/MethodHandle" ∧ yX11_twist.cls ≠ "java/lang/invoke/VarHandle" ∧ (parseMethodDescriptor yX11_twist.desc).map (fun d => d.parameters.length) = some 1 := by decide +kernel
theorem hd_X12_named_v : yX12_named.cls = RX12 ∧ yX12_named.cls ≠ "java/lang/invoke/MethodHandle" ∧ yX12_named.cls ≠ "java/lang/invoke/VarHandle" ∧ (parseMethodDescriptor yX12_named.desc).map (fun d => d.parameters.length) = some 2 := by decide +kernel
theorem hd_X12_size_v : yX12_size.cls = RX12 ∧ yX12_size.cls ≠ "java/lang/invoke/MethodHandle" ∧ yX12_size.cls ≠ "java/lang/invoke/VarHandle" ∧ (parseMethodDescriptor yX12_size.desc).map (fun d => d.parameters.length) = some 2 := by decide +kernel
theorem hd_X12_thread_v : yX12_thread.cls = RX12 ∧ yX12_thread.cls ≠ "java/lang/invoke/MethodHandle" ∧ yX12_thread.cls ≠ "java/lang/invoke/VarHandle" ∧ (parseMethodDescriptor yX12_thread.desc).map (fun d => d.parameters.length) = some 2 := by decide +kernel
theorem hd_X12_turns_v : yX12_turns.cls = RX12 ∧ yX12_turns.cls ≠ "java/lang/invoke/MethodHandle" ∧ yX12_turns.cls ≠ "java/lang/invoke/VarHandle" ∧ (parseMethodDescriptor yX12_turns.desc).map (fun d => d.parameters.length) = some 2 := by decide +kernel
theorem hd_X12_twist_v : yX12_twist.cls = RX12 ∧ yX12_twist.cls ≠ "java/lang/invoke/MethodHandle" ∧ yX12_twist.cls ≠ "java/lang/invoke/VarHandle" ∧ (parseMethodDescriptor yX12_twist.desc).map (fun d => d.parameters.length) = some 1 := by decide +kernel
set_option maxRecDepth 100000 in
theorem dvL_law_914 : ([(914, .aload_n 1, 1), (915, .aload_n 0, 1), (916, .iload_n 3, 1), (917, .iconst 1, 1), (918, .iadd, 1), (919, .iaload, 1), (920, .aload_n 0, 1), (921, .iload_n 3, 1), (922, .iconst 2, 1), (923, .iadd, 1), (924, .iaload, 1), (925, .invokevirtual 103, 3), (928, .pop, 1), (929, .aload_n 2, 1), (930, .aload_n 0, 1), (931, .iload_n 3, 1), (932, .iconst 1, 1), (933, .iadd, 1), (934, .iaload, 1), (935, .aload_n 0, 1), (936, .iload_n 3, 1), (937, .iconst 2, 1), (938, .iadd, 1), (939, .iaload, 1)] : List (Nat × Instr × Nat)).all (fun q => decide (decode cL_law q.1 = .ok (q.2.1, q.2.2))) = true := by decide +kernel
theorem dL_law_914 : decode cL_law 914 = .ok (.aload_n 1, 1) := all_at dvL_law_914 0 rfl
theorem dL_law_915 : decode cL_law 915 = .ok (.aload_n 0, 1) := all_at dvL_law_914 1 rfl
theorem dL_law_916 : decode cL_law 916 = .ok (.iload_n 3, 1) := all_at dvL_law_914 2 rfl
theorem dL_law_917 : decode cL_law 917 = .ok (.iconst 1, 1) := all_at dvL_law_914 3 rfl
theorem dL_law_918 : decode cL_law 918 = .ok (.iadd, 1) := all_at dvL_law_914 4 rfl
theorem dL_law_919 : decode cL_law 919 = .ok (.iaload, 1) := all_at dvL_law_914 5 rfl
theorem dL_law_920 : decode cL_law 920 = .ok (.aload_n 0, 1) := all_at dvL_law_914 6 rfl
theorem dL_law_921 : decode cL_law 921 = .ok (.iload_n 3, 1) := all_at dvL_law_914 7 rfl
theorem dL_law_922 : decode cL_law 922 = .ok (.iconst 2, 1) := all_at dvL_law_914 8 rfl
theorem dL_law_923 : decode cL_law 923 = .ok (.iadd, 1) := all_at dvL_law_914 9 rfl
theorem dL_law_924 : decode cL_law 924 = .ok (.iaload, 1) := all_at dvL_law_914 10 rfl
theorem dL_law_925 : decode cL_law 925 = .ok (.invokevirtual 103, 3) := all_at dvL_law_914 11 rfl
theorem dL_law_928 : decode cL_law 928 = .ok (.pop, 1) := all_at dvL_law_914 12 rfl
theorem dL_law_929 : decode cL_law 929 = .ok (.aload_n 2, 1) := all_at dvL_law_914 13 rfl
theorem dL_law_930 : decode cL_law 930 = .ok (.aload_n 0, 1) := all_at dvL_law_914 14 rfl
theorem dL_law_931 : decode cL_law 931 = .ok (.iload_n 3, 1) := all_at dvL_law_914 15 rfl
theorem dL_law_932 : decode cL_law 932 = .ok (.iconst 1, 1) := all_at dvL_law_914 16 rfl
theorem dL_law_933 : decode cL_law 933 = .ok (.iadd, 1) := all_at dvL_law_914 17 rfl
theorem dL_law_934 : decode cL_law 934 = .ok (.iaload, 1) := all_at dvL_law_914 18 rfl
theorem dL_law_935 : decode cL_law 935 = .ok (.aload_n 0, 1) := all_at dvL_law_914 19 rfl
theorem dL_law_936 : decode cL_law 936 = .ok (.iload_n 3, 1) := all_at dvL_law_914 20 rfl
theorem dL_law_937 : decode cL_law 937 = .ok (.iconst 2, 1) := all_at dvL_law_914 21 rfl
theorem dL_law_938 : decode cL_law 938 = .ok (.iadd, 1) := all_at dvL_law_914 22 rfl
theorem dL_law_939 : decode cL_law 939 = .ok (.iaload, 1) := all_at dvL_law_914 23 rfl
set_option maxRecDepth 100000 in
theorem dvL_law_940 : ([(940, .invokevirtual 106, 3), (943, .pop, 1), (944, .goto 564, 3), (947, .aload_n 1, 1), (948, .aload_n 0, 1), (949, .iload_n 3, 1), (950, .iconst 1, 1), (951, .iadd, 1), (952, .iaload, 1), (953, .aload_n 0, 1), (954, .iload_n 3, 1), (955, .iconst 2, 1), (956, .iadd, 1), (957, .iaload, 1), (958, .invokevirtual 107, 3), (961, .aload_n 2, 1), (962, .aload_n 0, 1), (963, .iload_n 3, 1), (964, .iconst 1, 1), (965, .iadd, 1), (966, .iaload, 1), (967, .aload_n 0, 1), (968, .iload_n 3, 1), (969, .iconst 2, 1)] : List (Nat × Instr × Nat)).all (fun q => decide (decode cL_law q.1 = .ok (q.2.1, q.2.2))) = true := by decide +kernel
theorem dL_law_940 : decode cL_law 940 = .ok (.invokevirtual 106, 3) := all_at dvL_law_940 0 rfl
theorem dL_law_943 : decode cL_law 943 = .ok (.pop, 1) := all_at dvL_law_940 1 rfl
theorem dL_law_944 : decode cL_law 944 = .ok (.goto 564, 3) := all_at dvL_law_940 2 rfl
theorem dL_law_947 : decode cL_law 947 = .ok (.aload_n 1, 1) := all_at dvL_law_940 3 rfl
theorem dL_law_948 : decode cL_law 948 = .ok (.aload_n 0, 1) := all_at dvL_law_940 4 rfl
theorem dL_law_949 : decode cL_law 949 = .ok (.iload_n 3, 1) := all_at dvL_law_940 5 rfl
theorem dL_law_950 : decode cL_law 950 = .ok (.iconst 1, 1) := all_at dvL_law_940 6 rfl
theorem dL_law_951 : decode cL_law 951 = .ok (.iadd, 1) := all_at dvL_law_940 7 rfl
theorem dL_law_952 : decode cL_law 952 = .ok (.iaload, 1) := all_at dvL_law_940 8 rfl
theorem dL_law_953 : decode cL_law 953 = .ok (.aload_n 0, 1) := all_at dvL_law_940 9 rfl
theorem dL_law_954 : decode cL_law 954 = .ok (.iload_n 3, 1) := all_at dvL_law_940 10 rfl
theorem dL_law_955 : decode cL_law 955 = .ok (.iconst 2, 1) := all_at dvL_law_940 11 rfl
theorem dL_law_956 : decode cL_law 956 = .ok (.iadd, 1) := all_at dvL_law_940 12 rfl
theorem dL_law_957 : decode cL_law 957 = .ok (.iaload, 1) := all_at dvL_law_940 13 rfl
theorem dL_law_958 : decode cL_law 958 = .ok (.invokevirtual 107, 3) := all_at dvL_law_940 14 rfl
theorem dL_law_961 : decode cL_law 961 = .ok (.aload_n 2, 1) := all_at dvL_law_940 15 rfl
theorem dL_law_962 : decode cL_law 962 = .ok (.aload_n 0, 1) := all_at dvL_law_940 16 rfl
theorem dL_law_963 : decode cL_law 963 = .ok (.iload_n 3, 1) := all_at dvL_law_940 17 rfl
theorem dL_law_964 : decode cL_law 964 = .ok (.iconst 1, 1) := all_at dvL_law_940 18 rfl
theorem dL_law_965 : decode cL_law 965 = .ok (.iadd, 1) := all_at dvL_law_940 19 rfl
theorem dL_law_966 : decode cL_law 966 = .ok (.iaload, 1) := all_at dvL_law_940 20 rfl
theorem dL_law_967 : decode cL_law 967 = .ok (.aload_n 0, 1) := all_at dvL_law_940 21 rfl
theorem dL_law_968 : decode cL_law 968 = .ok (.iload_n 3, 1) := all_at dvL_law_940 22 rfl
theorem dL_law_969 : decode cL_law 969 = .ok (.iconst 2, 1) := all_at dvL_law_940 23 rfl
set_option maxRecDepth 100000 in
theorem dvL_law_970 : ([(970, .iadd, 1), (971, .iaload, 1), (972, .invokevirtual 110, 3), (975, .if_icmp .eq 533, 3), (980, .aload_n 1, 1), (981, .aload_n 0, 1), (982, .iload_n 3, 1), (983, .iconst 1, 1), (984, .iadd, 1), (985, .iaload, 1), (986, .aload_n 0, 1), (987, .iload_n 3, 1), (988, .iconst 2, 1), (989, .iadd, 1), (990, .iaload, 1), (991, .invokevirtual 111, 3), (994, .pop, 1), (995, .aload_n 2, 1), (996, .aload_n 0, 1), (997, .iload_n 3, 1), (998, .iconst 1, 1), (999, .iadd, 1), (1000, .iaload, 1), (1001, .aload_n 0, 1)] : List (Nat × Instr × Nat)).all (fun q => decide (decode cL_law q.1 = .ok (q.2.1, q.2.2))) = true := by decide +kernel
theorem dL_law_970 : decode cL_law 970 = .ok (.iadd, 1) := all_at dvL_law_970 0 rfl
theorem dL_law_971 : decode cL_law 971 = .ok (.iaload, 1) := all_at dvL_law_970 1 rfl
theorem dL_law_972 : decode cL_law 972 = .ok (.invokevirtual 110, 3) := all_at dvL_law_970 2 rfl
theorem dL_law_975 : decode cL_law 975 = .ok (.if_icmp .eq 533, 3) := all_at dvL_law_970 3 rfl
theorem dL_law_980 : decode cL_law 980 = .ok (.aload_n 1, 1) := all_at dvL_law_970 4 rfl
theorem dL_law_981 : decode cL_law 981 = .ok (.aload_n 0, 1) := all_at dvL_law_970 5 rfl
theorem dL_law_982 : decode cL_law 982 = .ok (.iload_n 3, 1) := all_at dvL_law_970 6 rfl
theorem dL_law_983 : decode cL_law 983 = .ok (.iconst 1, 1) := all_at dvL_law_970 7 rfl
theorem dL_law_984 : decode cL_law 984 = .ok (.iadd, 1) := all_at dvL_law_970 8 rfl
theorem dL_law_985 : decode cL_law 985 = .ok (.iaload, 1) := all_at dvL_law_970 9 rfl
theorem dL_law_986 : decode cL_law 986 = .ok (.aload_n 0, 1) := all_at dvL_law_970 10 rfl
theorem dL_law_987 : decode cL_law 987 = .ok (.iload_n 3, 1) := all_at dvL_law_970 11 rfl
theorem dL_law_988 : decode cL_law 988 = .ok (.iconst 2, 1) := all_at dvL_law_970 12 rfl
theorem dL_law_989 : decode cL_law 989 = .ok (.iadd, 1) := all_at dvL_law_970 13 rfl
theorem dL_law_990 : decode cL_law 990 = .ok (.iaload, 1) := all_at dvL_law_970 14 rfl
theorem dL_law_991 : decode cL_law 991 = .ok (.invokevirtual 111, 3) := all_at dvL_law_970 15 rfl
theorem dL_law_994 : decode cL_law 994 = .ok (.pop, 1) := all_at dvL_law_970 16 rfl
theorem dL_law_995 : decode cL_law 995 = .ok (.aload_n 2, 1) := all_at dvL_law_970 17 rfl
theorem dL_law_996 : decode cL_law 996 = .ok (.aload_n 0, 1) := all_at dvL_law_970 18 rfl
theorem dL_law_997 : decode cL_law 997 = .ok (.iload_n 3, 1) := all_at dvL_law_970 19 rfl
theorem dL_law_998 : decode cL_law 998 = .ok (.iconst 1, 1) := all_at dvL_law_970 20 rfl
theorem dL_law_999 : decode cL_law 999 = .ok (.iadd, 1) := all_at dvL_law_970 21 rfl
theorem dL_law_1000 : decode cL_law 1000 = .ok (.iaload, 1) := all_at dvL_law_970 22 rfl
theorem dL_law_1001 : decode cL_law 1001 = .ok (.aload_n 0, 1) := all_at dvL_law_970 23 rfl
set_option maxRecDepth 100000 in
theorem dvL_law_1002 : ([(1002, .iload_n 3, 1), (1003, .iconst 2, 1), (1004, .iadd, 1), (1005, .iaload, 1), (1006, .invokevirtual 114, 3), (1009, .pop, 1), (1010, .goto 498, 3), (1013, .aload_n 1, 1), (1014, .aload_n 0, 1), (1015, .iload_n 3, 1), (1016, .iconst 1, 1), (1017, .iadd, 1), (1018, .iaload, 1), (1019, .aload_n 0, 1), (1020, .iload_n 3, 1), (1021, .iconst 2, 1), (1022, .iadd, 1), (1023, .iaload, 1), (1024, .invokevirtual 115, 3), (1027, .pop, 1), (1028, .aload_n 2, 1), (1029, .aload_n 0, 1), (1030, .iload_n 3, 1), (1031, .iconst 1, 1)] : List (Nat × Instr × Nat)).all (fun q => decide (decode cL_law q.1 = .ok (q.2.1, q.2.2))) = true := by decide +kernel
theorem dL_law_1002 : decode cL_law 1002 = .ok (.iload_n 3, 1) := all_at dvL_law_1002 0 rfl
theorem dL_law_1003 : decode cL_law 1003 = .ok (.iconst 2, 1) := all_at dvL_law_1002 1 rfl
theorem dL_law_1004 : decode cL_law 1004 = .ok (.iadd, 1) := all_at dvL_law_1002 2 rfl
theorem dL_law_1005 : decode cL_law 1005 = .ok (.iaload, 1) := all_at dvL_law_1002 3 rfl
theorem dL_law_1006 : decode cL_law 1006 = .ok (.invokevirtual 114, 3) := all_at dvL_law_1002 4 rfl
theorem dL_law_1009 : decode cL_law 1009 = .ok (.pop, 1) := all_at dvL_law_1002 5 rfl
theorem dL_law_1010 : decode cL_law 1010 = .ok (.goto 498, 3) := all_at dvL_law_1002 6 rfl
theorem dL_law_1013 : decode cL_law 1013 = .ok (.aload_n 1, 1) := all_at dvL_law_1002 7 rfl
theorem dL_law_1014 : decode cL_law 1014 = .ok (.aload_n 0, 1) := all_at dvL_law_1002 8 rfl
theorem dL_law_1015 : decode cL_law 1015 = .ok (.iload_n 3, 1) := all_at dvL_law_1002 9 rfl
theorem dL_law_1016 : decode cL_law 1016 = .ok (.iconst 1, 1) := all_at dvL_law_1002 10 rfl
theorem dL_law_1017 : decode cL_law 1017 = .ok (.iadd, 1) := all_at dvL_law_1002 11 rfl
theorem dL_law_1018 : decode cL_law 1018 = .ok (.iaload, 1) := all_at dvL_law_1002 12 rfl
theorem dL_law_1019 : decode cL_law 1019 = .ok (.aload_n 0, 1) := all_at dvL_law_1002 13 rfl
theorem dL_law_1020 : decode cL_law 1020 = .ok (.iload_n 3, 1) := all_at dvL_law_1002 14 rfl
theorem dL_law_1021 : decode cL_law 1021 = .ok (.iconst 2, 1) := all_at dvL_law_1002 15 rfl
theorem dL_law_1022 : decode cL_law 1022 = .ok (.iadd, 1) := all_at dvL_law_1002 16 rfl
theorem dL_law_1023 : decode cL_law 1023 = .ok (.iaload, 1) := all_at dvL_law_1002 17 rfl
theorem dL_law_1024 : decode cL_law 1024 = .ok (.invokevirtual 115, 3) := all_at dvL_law_1002 18 rfl
theorem dL_law_1027 : decode cL_law 1027 = .ok (.pop, 1) := all_at dvL_law_1002 19 rfl
theorem dL_law_1028 : decode cL_law 1028 = .ok (.aload_n 2, 1) := all_at dvL_law_1002 20 rfl
theorem dL_law_1029 : decode cL_law 1029 = .ok (.aload_n 0, 1) := all_at dvL_law_1002 21 rfl
theorem dL_law_1030 : decode cL_law 1030 = .ok (.iload_n 3, 1) := all_at dvL_law_1002 22 rfl
theorem dL_law_1031 : decode cL_law 1031 = .ok (.iconst 1, 1) := all_at dvL_law_1002 23 rfl
set_option maxRecDepth 100000 in
theorem dvL_law_1032 : ([(1032, .iadd, 1), (1033, .iaload, 1), (1034, .aload_n 0, 1), (1035, .iload_n 3, 1), (1036, .iconst 2, 1), (1037, .iadd, 1), (1038, .iaload, 1), (1039, .invokevirtual 118, 3), (1042, .pop, 1), (1043, .goto 465, 3), (1046, .aload_n 1, 1), (1047, .aload_n 0, 1), (1048, .iload_n 3, 1), (1049, .iconst 1, 1), (1050, .iadd, 1), (1051, .iaload, 1), (1052, .invokevirtual 119, 3), (1055, .pop, 1), (1056, .aload_n 2, 1), (1057, .aload_n 0, 1), (1058, .iload_n 3, 1), (1059, .iconst 1, 1), (1060, .iadd, 1), (1061, .iaload, 1)] : List (Nat × Instr × Nat)).all (fun q => decide (decode cL_law q.1 = .ok (q.2.1, q.2.2))) = true := by decide +kernel
theorem dL_law_1032 : decode cL_law 1032 = .ok (.iadd, 1) := all_at dvL_law_1032 0 rfl
theorem dL_law_1033 : decode cL_law 1033 = .ok (.iaload, 1) := all_at dvL_law_1032 1 rfl
theorem dL_law_1034 : decode cL_law 1034 = .ok (.aload_n 0, 1) := all_at dvL_law_1032 2 rfl
theorem dL_law_1035 : decode cL_law 1035 = .ok (.iload_n 3, 1) := all_at dvL_law_1032 3 rfl
theorem dL_law_1036 : decode cL_law 1036 = .ok (.iconst 2, 1) := all_at dvL_law_1032 4 rfl
theorem dL_law_1037 : decode cL_law 1037 = .ok (.iadd, 1) := all_at dvL_law_1032 5 rfl
theorem dL_law_1038 : decode cL_law 1038 = .ok (.iaload, 1) := all_at dvL_law_1032 6 rfl
theorem dL_law_1039 : decode cL_law 1039 = .ok (.invokevirtual 118, 3) := all_at dvL_law_1032 7 rfl
theorem dL_law_1042 : decode cL_law 1042 = .ok (.pop, 1) := all_at dvL_law_1032 8 rfl
theorem dL_law_1043 : decode cL_law 1043 = .ok (.goto 465, 3) := all_at dvL_law_1032 9 rfl
theorem dL_law_1046 : decode cL_law 1046 = .ok (.aload_n 1, 1) := all_at dvL_law_1032 10 rfl
theorem dL_law_1047 : decode cL_law 1047 = .ok (.aload_n 0, 1) := all_at dvL_law_1032 11 rfl
theorem dL_law_1048 : decode cL_law 1048 = .ok (.iload_n 3, 1) := all_at dvL_law_1032 12 rfl
theorem dL_law_1049 : decode cL_law 1049 = .ok (.iconst 1, 1) := all_at dvL_law_1032 13 rfl
theorem dL_law_1050 : decode cL_law 1050 = .ok (.iadd, 1) := all_at dvL_law_1032 14 rfl
theorem dL_law_1051 : decode cL_law 1051 = .ok (.iaload, 1) := all_at dvL_law_1032 15 rfl
theorem dL_law_1052 : decode cL_law 1052 = .ok (.invokevirtual 119, 3) := all_at dvL_law_1032 16 rfl
theorem dL_law_1055 : decode cL_law 1055 = .ok (.pop, 1) := all_at dvL_law_1032 17 rfl
theorem dL_law_1056 : decode cL_law 1056 = .ok (.aload_n 2, 1) := all_at dvL_law_1032 18 rfl
theorem dL_law_1057 : decode cL_law 1057 = .ok (.aload_n 0, 1) := all_at dvL_law_1032 19 rfl
theorem dL_law_1058 : decode cL_law 1058 = .ok (.iload_n 3, 1) := all_at dvL_law_1032 20 rfl
theorem dL_law_1059 : decode cL_law 1059 = .ok (.iconst 1, 1) := all_at dvL_law_1032 21 rfl
theorem dL_law_1060 : decode cL_law 1060 = .ok (.iadd, 1) := all_at dvL_law_1032 22 rfl
theorem dL_law_1061 : decode cL_law 1061 = .ok (.iaload, 1) := all_at dvL_law_1032 23 rfl
theorem dL_law_1062 : decode cL_law 1062 = .ok (.invokevirtual 122, 3) := by decide +kernel
theorem dL_law_1065 : decode cL_law 1065 = .ok (.pop, 1) := by decide +kernel
theorem dL_law_1066 : decode cL_law 1066 = .ok (.goto 442, 3) := by decide +kernel
set_option maxHeartbeats 4000000 in
set_option maxRecDepth 100000 in
theorem law_20 {p : Program} {e : Env} {s : State} {m : MethodId} {below : List Frame} {meth : Method} {c : Code} (l : Launch) {b L : Nat} {xs : Nat → Int32} (hL : L ≤ 4096) (C0 : lw_At p s m meth c b L xs) {dC : Nat → ClassId} {dI : Nat → Nat → Nat} {A : Nat → Prop} (hA : ∀ q : Nat, s.heap.size ≤ q → A q) (hbA : ¬ A b) (hAs : ∀ q : Nat, A q → s.heap.size ≤ q) {x y : Nat} {gx gy : Nat → Nat → Nat} {cax cay : Nat → Nat → ClassId} {ak av : Nat → Nat} (hKx : va_K (dC, dI) classes (TX cax) s) (hKy : va_K (dC, dI) classes (TM cay) s) (hXY : ∀ a ∈ AdX x gx, ∀ b ∈ AdM y gy, a ≠ b) (hZ : zC ak av A s s.heap) {H : Heap} {locs : List Loc} {ivx : Nat → Nat → Int32} {lvx : Nat → Nat → Int64} {fax : Nat → Nat → Nat → Int32} {lax : Nat → Nat → Nat → Int64} {ivy : Nat → Nat → Int32} {lvy : Nat → Nat → Int64} {fay : Nat → Nat → Nat → Int32} {lay : Nat → Nat → Nat → Int64} (hIx : IX ivx fax) (hIy : IX ivy fay) (hJC : JCf (ivy 12 23).toInt (fay 12 25) (fay 12 26) (fay 12 27) (fay 12 28)) (hJR : JRf (ivy 12 3).toInt (fay 12 7)) (hJN : JNf (ivy 12 3).toInt (fay 12 4) (fay 12 5)) (hJO : ((ivy 12 20).toInt = -1 ∧ (ivy 12 21).toInt = -1 ∧ (ivy 12 22).toInt = -1)) (hq_bales : ivx 0 7 = ivy 12 1) (ha_thread : (∀ j : Nat, fax 0 1 j = fay 12 51 j)) (hz_thread : (∀ j : Nat, (ivx 0 7).toInt ≤ (j : Int) → (fax 0 1 j).toInt = 0)) (hsz : (∀ j : Nat, (fax 0 5 j).toInt = 2 * (fay 12 52 j).toInt ∧ 0 ≤ (fay 12 52 j).toInt ∧ (fay 12 52 j).toInt ≤ 999)) (hPx : va_P (dC, dI) classes (WX x gx cax ivx lvx fax lax) H) (hDx : va_D A (WX x gx cax ivx lvx fax lax)) (hPy : va_P (dC, dI) classes (WM y gy cay ivy lvy fay lay) H) (hDy : va_D A (WM y gy cay ivy lvy fay lay)) (hS : va_S A s.heap H locs) {i : Int32} {ls : Array Slot} (hl : lv_has ls 4 [(3, .int i), (2, .ref y), (1, .ref x), (0, .ref b)]) (hi : 0 ≤ i.toInt ∧ i.toInt ≤ 4088) (hi8 : i.toInt + 8 ≤ (L : Int)) (kk : ∀ (H : Heap) (locs : List Loc) (ivx : Nat → Nat → Int32) (lvx : Nat → Nat → Int64) (fax : Nat → Nat → Nat → Int32) (lax : Nat → Nat → Nat → Int64) (ivy : Nat → Nat → Int32) (lvy : Nat → Nat → Int64) (fay : Nat → Nat → Nat → Int32) (lay : Nat → Nat → Nat → Int64), IX ivx fax → IX ivy fay → JCf (ivy 12 23).toInt (fay 12 25) (fay 12 26) (fay 12 27) (fay 12 28) → JRf (ivy 12 3).toInt (fay 12 7) → JNf (ivy 12 3).toInt (fay 12 4) (fay 12 5) → ((ivy 12 20).toInt = -1 ∧ (ivy 12 21).toInt = -1 ∧ (ivy 12 22).toInt = -1) → ivx 0 7 = ivy 12 1 → (∀ j : Nat, fax 0 1 j = fay 12 51 j) → (∀ j : Nat, (ivx 0 7).toInt ≤ (j : Int) → (fax 0 1 j).toInt = 0) → (∀ j : Nat, (fax 0 5 j).toInt = 2 * (fay 12 52 j).toInt ∧ 0 ≤ (fay 12 52 j).toInt ∧ (fay 12 52 j).toInt ≤ 999) → va_P (dC, dI) classes (WX x gx cax ivx lvx fax lax) H → va_D A (WX x gx cax ivx lvx fax lax) → va_P (dC, dI) classes (WM y gy cay ivy lvy fay lay) H → va_D A (WM y gy cay ivy lvy fay lay) → va_S A s.heap H locs → W p l e room_1 s m #[Value.ref b] below meth c H locs 98 5431 (lw_Z below #[Value.ref b] s) (F0 m 1508 ls [])) : W p l e room_1 s m #[Value.ref b] below meth c H locs 98 5431 (lw_Z below #[Value.ref b] s) (F0 m 914 ls []) := by
  obtain ⟨hx, hb, hr, hml, hown, hts, hX, hbl, hlocks, hgv⟩ := id C0
  have ht := tb_of hts
  have hJV : ∀ j : Nat, 0 ≤ (fay 12 52 j).toInt ∧ (fay 12 52 j).toInt ≤ 999 := fun j => (hsz j).2
  have hJZ : ∀ j : Nat, 0 ≤ (fax 0 5 j).toInt ∧ (fax 0 5 j).toInt ≤ 1998 := fun j => by have h5 := hsz j; omega
  refine lv_aload_n hx hb dL_law_914 rfl (lv_at hl 2 rfl) ?_
  refine lv_aload_n hx hb dL_law_915 rfl (lv_at hl 3 rfl) ?_
  refine lv_iload_n hx hb dL_law_916 rfl (lv_at hl 0 rfl) ?_
  refine lv_iconst (v := 1) hx hb dL_law_917 (by decide) ?_
  refine lv_iadd hx hb dL_law_918 ?_
  refine lv_topi (fun v1 ev1 => ?_)
  have tv1 := z_add ev1 (rfl : (i).toInt = _) (by decide : (1 : Int32).toInt = 1) (by omega) (by omega)
  refine va_sld hx hb hX hbl hbA hS (vp_in_iff.mpr ⟨by omega, by omega⟩ : vp_in v1 L) dL_law_919 ?_
  refine lv_topi (fun v2 ev2 => ?_)
  refine lv_aload_n hx hb dL_law_920 rfl (lv_at hl 3 rfl) ?_
  refine lv_iload_n hx hb dL_law_921 rfl (lv_at hl 0 rfl) ?_
  refine lv_iconst (v := 2) hx hb dL_law_922 (by decide) ?_
  refine lv_iadd hx hb dL_law_923 ?_
  refine lv_topi (fun v3 ev3 => ?_)
  have tv3 := z_add ev3 (rfl : (i).toInt = _) (by decide : (2 : Int32).toInt = 2) (by omega) (by omega)
  refine va_sld hx hb hX hbl hbA hS (vp_in_iff.mpr ⟨by omega, by omega⟩ : vp_in v3 L) dL_law_924 ?_
  refine lv_topi (fun v4 ev4 => ?_)
  have hFc := free_all hDx hS hA
  refine va_calli (va_runV (As := [.int v2, .int v4]) (rest := []) ⟨hx, hb, hml, hown, ht⟩ (c_X11_thread_z l dC dI H.size x gx cax ivx lvx fax lax hIx v2 v4) (kV 2 ht m_941 m_942 m_943 m_77 m_944 rfl rfl hd_X11_thread_v ⟨Nat.le_of_ble_eq_true rfl, Nat.le_of_ble_eq_true rfl⟩) (vW hPx hKx hDx (rX_11 hKx hPx)) rfl rfl hl.1 rfl (lv_room (Nat.le_of_ble_eq_true rfl)) dL_law_925 ⟨Nat.le_of_ble_eq_true rfl, Nat.le_of_ble_eq_true rfl⟩) hS (fun q _ h => hFc q h) hFc (fun r5 u t H1 locs ht9 hvm hr5 hB hz1 hk1 hS => ?_)
  obtain ⟨n6, n7, hn6, xr5_0, xr5_1, xr5_2, xr5_3, hr5, rfl⟩ := hr5
  obtain ⟨hPx, hDx⟩ := hB
  rw [ht9] at hPx
  have hPy := P_kept hPy (la := AdM y gy) (lb := AdX x gx) wmM wmX (fun a ha b hb => (hXY b hb a ha).symm) hk1
  generalize H1 = H at hPx hPy hS ⊢
  have hPx : va_P (dC, dI) classes (WX x gx cax ivx lvx (u2 (u2 fax 0 1 n6) 0 5 n7) lax) H := hPx
  have hDx : va_D A (WX x gx cax ivx lvx (u2 (u2 fax 0 1 n6) 0 5 n7) lax) := (show va_D _ (WX x gx cax ivx lvx (u2 (u2 fax 0 1 n6) 0 5 n7) lax) from hDx).weaken (fun _ _ _ h => hFc _ h)
  refine lv_pop hx hb dL_law_928 rfl ?_
  refine lv_aload_n hx hb dL_law_929 rfl (lv_at hl 1 rfl) ?_
  refine lv_aload_n hx hb dL_law_930 rfl (lv_at hl 3 rfl) ?_
  refine lv_iload_n hx hb dL_law_931 rfl (lv_at hl 0 rfl) ?_
  refine lv_iconst (v := 1) hx hb dL_law_932 (by decide) ?_
  refine lv_iadd hx hb dL_law_933 ?_
  refine lv_topi (fun v8 ev8 => ?_)
  have tv8 := z_add ev8 (rfl : (i).toInt = _) (by decide : (1 : Int32).toInt = 1) (by omega) (by omega)
  refine va_sld hx hb hX hbl hbA hS (vp_in_iff.mpr ⟨by omega, by omega⟩ : vp_in v8 L) dL_law_934 ?_
  refine lv_topi (fun v9 ev9 => ?_)
  refine lv_aload_n hx hb dL_law_935 rfl (lv_at hl 3 rfl) ?_
  refine lv_iload_n hx hb dL_law_936 rfl (lv_at hl 0 rfl) ?_
  refine lv_iconst (v := 2) hx hb dL_law_937 (by decide) ?_
  refine lv_iadd hx hb dL_law_938 ?_
  refine lv_topi (fun v10 ev10 => ?_)
  have tv10 := z_add ev10 (rfl : (i).toInt = _) (by decide : (2 : Int32).toInt = 2) (by omega) (by omega)
  refine va_sld hx hb hX hbl hbA hS (vp_in_iff.mpr ⟨by omega, by omega⟩ : vp_in v10 L) dL_law_939 ?_
  refine lv_topi (fun v11 ev11 => ?_)
  have hFc := free_all hDy hS hA
  refine va_calli (va_runV (As := [.int v9, .int v11]) (rest := []) ⟨hx, hb, hml, hown, ht⟩ (c_X12_thread_z l dC dI H.size y gy cay ivy lvy fay lay hIy v9 v11) (kV 2 ht m_1609 m_1610 m_1611 m_89 m_1612 rfl rfl hd_X12_thread_v ⟨Nat.le_of_ble_eq_true rfl, Nat.le_of_ble_eq_true rfl⟩) (vW hPy hKy hDy (rM_12 hKy hPy)) rfl rfl hl.1 rfl (lv_room (Nat.le_of_ble_eq_true rfl)) dL_law_940 ⟨Nat.le_of_ble_eq_true rfl, Nat.le_of_ble_eq_true rfl⟩) hS (fun q _ h => hFc q h) hFc (fun r12 u t H1 locs ht9 hvm hr12 hB hz1 hk1 hS => ?_)
  obtain ⟨n13, n14, hn13, xr12_0, xr12_1, xr12_2, xr12_3, hr12, rfl⟩ := hr12
  obtain ⟨hPy, hDy⟩ := hB
  rw [ht9] at hPy
  have hPx := P_kept hPx (la := AdX x gx) (lb := AdM y gy) wmX wmM hXY hk1
  generalize H1 = H at hPx hPy hS ⊢
  have hPy : va_P (dC, dI) classes (WM y gy cay ivy lvy (u2 (u2 fay 12 51 n13) 12 52 n14) lay) H := hPy
  have hDy : va_D A (WM y gy cay ivy lvy (u2 (u2 fay 12 51 n13) 12 52 n14) lay) := (show va_D _ (WM y gy cay ivy lvy (u2 (u2 fay 12 51 n13) 12 52 n14) lay) from hDy).weaken (fun _ _ _ h => hFc _ h)
  have hv9_0 : (v2 : Int32) = v9 := by rw [ev2, ev9, ev1, ev8]
  have hu9_0 := congrArg Int32.toInt hv9_0
  have hv9_1 : (v4 : Int32) = v11 := by rw [ev4, ev11, ev3, ev10]
  have hu9_1 := congrArg Int32.toInt hv9_1
  have hw9_bales := congrArg Int32.toInt hq_bales
  have y9x_0 : ((r5.toInt = -100001 ∧ ¬ (0 ≤ (v2 : Int32).toInt ∧ (v2 : Int32).toInt < (ivx 0 7).toInt)) ∨ (r5.toInt = -100002 ∧ 0 ≤ (v2 : Int32).toInt ∧ (v2 : Int32).toInt < (ivx 0 7).toInt ∧ ¬ (1 ≤ (v4 : Int32).toInt ∧ (v4 : Int32).toInt ≤ 999)) ∨ (r5.toInt = -100004 ∧ 0 ≤ (v2 : Int32).toInt ∧ (v2 : Int32).toInt < (ivx 0 7).toInt ∧ 1 ≤ (v4 : Int32).toInt ∧ (v4 : Int32).toInt ≤ 999 ∧ 12 ≤ ((fax 0 1) (v2 : Int32).toNatClampNeg).toInt) ∨ (0 ≤ (v2 : Int32).toInt ∧ (v2 : Int32).toInt < (ivx 0 7).toInt ∧ 1 ≤ (v4 : Int32).toInt ∧ (v4 : Int32).toInt ≤ 999 ∧ ((fax 0 1) (v2 : Int32).toNatClampNeg).toInt < 12 ∧ r5.toInt = ((fax 0 1) (v2 : Int32).toNatClampNeg).toInt + 1)) := xr5_0
  have y9x_1 : ∀ j : Nat, j ≠ (v2 : Int32).toNatClampNeg → n6 j = (fax 0 1) j := xr5_1
  have y9x_2 : ((r5.toInt < 0 ∧ (n6 (v2 : Int32).toNatClampNeg) = ((fax 0 1) (v2 : Int32).toNatClampNeg)) ∨ (0 ≤ r5.toInt ∧ (n6 (v2 : Int32).toNatClampNeg).toInt = r5.toInt)) := xr5_2
  have y9x_3 : ((r5.toInt < 0 ∧ ∀ j : Nat, n7 j = (fax 0 5) j) ∨ (0 ≤ r5.toInt ∧ (∀ j : Nat, j ≠ (12 * ((v2 : Int32).toInt).toNat + (((fax 0 1) ((v2 : Int32).toInt).toNat).toInt).toNat) → n7 j = (fax 0 5) j) ∧ (n7 (12 * ((v2 : Int32).toInt).toNat + (((fax 0 1) ((v2 : Int32).toInt).toNat).toInt).toNat)).toInt = 2 * (v4 : Int32).toInt)) := xr5_3
  have y9y_0 : ((r12.toInt = -100001 ∧ ¬ (0 ≤ (v9 : Int32).toInt ∧ (v9 : Int32).toInt < (ivy 12 1).toInt)) ∨ (r12.toInt = -100002 ∧ 0 ≤ (v9 : Int32).toInt ∧ (v9 : Int32).toInt < (ivy 12 1).toInt ∧ ¬ (1 ≤ (v11 : Int32).toInt ∧ (v11 : Int32).toInt ≤ 999)) ∨ (r12.toInt = -100004 ∧ 0 ≤ (v9 : Int32).toInt ∧ (v9 : Int32).toInt < (ivy 12 1).toInt ∧ 1 ≤ (v11 : Int32).toInt ∧ (v11 : Int32).toInt ≤ 999 ∧ 12 ≤ ((fay 12 51) (v9 : Int32).toNatClampNeg).toInt) ∨ (0 ≤ (v9 : Int32).toInt ∧ (v9 : Int32).toInt < (ivy 12 1).toInt ∧ 1 ≤ (v11 : Int32).toInt ∧ (v11 : Int32).toInt ≤ 999 ∧ ((fay 12 51) (v9 : Int32).toNatClampNeg).toInt < 12 ∧ r12.toInt = ((fay 12 51) (v9 : Int32).toNatClampNeg).toInt + 1)) := xr12_0
  have y9y_1 : ∀ j : Nat, j ≠ (v9 : Int32).toNatClampNeg → n13 j = (fay 12 51) j := xr12_1
  have y9y_2 : ((r12.toInt < 0 ∧ (n13 (v9 : Int32).toNatClampNeg) = ((fay 12 51) (v9 : Int32).toNatClampNeg)) ∨ (0 ≤ r12.toInt ∧ (n13 (v9 : Int32).toNatClampNeg).toInt = r12.toInt)) := xr12_2
  have y9y_3 : ((r12.toInt < 0 ∧ ∀ j : Nat, n14 j = (fay 12 52) j) ∨ (0 ≤ r12.toInt ∧ (∀ j : Nat, j ≠ (12 * ((v9 : Int32).toInt).toNat + (((fay 12 51) ((v9 : Int32).toInt).toNat).toInt).toNat) → n14 j = (fay 12 52) j) ∧ (n14 (12 * ((v9 : Int32).toInt).toNat + (((fay 12 51) ((v9 : Int32).toInt).toNat).toInt).toNat)).toInt = (v11 : Int32).toInt)) := xr12_3
  have hh9 : ((fax 0 1) (v2 : Int32).toNatClampNeg).toInt = ((fay 12 51) (v9 : Int32).toNatClampNeg).toInt := by rw [← hv9_0, ha_thread]
  have hr8 : (r5 : Int32).toInt = (r12 : Int32).toInt := by omega
  have hn_thread : ∀ j : Nat, n6 j = n13 j := by
    intro j
    by_cases hj : j = (v2 : Int32).toNatClampNeg
    · rw [hj]
      have hk : n13 (v2 : Int32).toNatClampNeg = n13 (v9 : Int32).toNatClampNeg := by rw [hv9_0]
      rw [hk]
      apply Int32.toInt_inj.mp
      rcases y9x_2 with ⟨q1, q2⟩ | ⟨q1, q2⟩
      · rcases y9y_2 with ⟨q3, q4⟩ | ⟨q3, q4⟩
        · rw [q2, q4]; exact hh9
        · omega
      · rcases y9y_2 with ⟨q3, q4⟩ | ⟨q3, q4⟩
        · omega
        · omega
    · rw [y9x_1 j hj, y9y_1 j (by rw [← hv9_0]; exact hj)]; exact ha_thread j
  have hy_thread : ∀ j : Nat, (ivx 0 7).toInt ≤ (j : Int) → (n6 j).toInt = 0 := by
    intro j h0
    by_cases hj : j = (v2 : Int32).toNatClampNeg
    · have hj2 : j = (v2 : Int32).toInt.toNat := hj
      rw [hj] at h0 ⊢
      have h1 := hz_thread _ h0
      rw [← hj] at h0
      rcases y9x_2 with ⟨q1, q2⟩ | ⟨q1, q2⟩
      · rw [q2]; exact h1
      · exfalso; omega
    · rw [y9x_1 j hj]; exact hz_thread j h0
  have hsn : ∀ j : Nat, (n7 j).toInt = 2 * (n14 j).toInt ∧ 0 ≤ (n14 j).toInt ∧ (n14 j).toInt ≤ 999 := by
    intro j
    rcases y9x_3 with ⟨q1, q2⟩ | ⟨q1, q2, q3⟩
    · rcases y9y_3 with ⟨p1, p2⟩ | ⟨p1, -⟩
      · rw [q2 j, p2 j]; exact hsz j
      · exfalso; omega
    · rcases y9y_3 with ⟨p1, -⟩ | ⟨p1, p2, p3⟩
      · exfalso; omega
      · rw [← hv9_0, ← ha_thread] at p2 p3
        by_cases hj : j = (12 * ((v2 : Int32).toInt).toNat + ((fax 0 1 ((v2 : Int32).toInt).toNat).toInt).toNat)
        · rw [← hj] at q3 p3
          exact ⟨by omega, by omega, by omega⟩
        · rw [q2 j hj, p2 j hj]; exact hsz j
  refine lv_pop hx hb dL_law_943 rfl ?_
  refine lv_goto (tgt := 1508) hx hb dL_law_944 (by decide) ?_
  exact kk _ _ ivx lvx (u2 (u2 fax 0 1 n6) 0 5 n7) lax ivy lvy (u2 (u2 fay 12 51 n13) 12 52 n14) lay (IX_a (c := 0) (k := 5) (IX_a (c := 0) (k := 1) hIx hn6) (fun j => full_i _)) (IX_a (c := 12) (k := 52) (IX_a (c := 12) (k := 51) hIy hn13) (fun j => full_i _)) hJC hJR hJN hJO hq_bales hn_thread hy_thread hsn hPx hDx hPy hDy hS
set_option maxHeartbeats 4000000 in
set_option maxRecDepth 100000 in
theorem law_21 {p : Program} {e : Env} {s : State} {m : MethodId} {below : List Frame} {meth : Method} {c : Code} (l : Launch) {b L : Nat} {xs : Nat → Int32} (hL : L ≤ 4096) (C0 : lw_At p s m meth c b L xs) {dC : Nat → ClassId} {dI : Nat → Nat → Nat} {A : Nat → Prop} (hA : ∀ q : Nat, s.heap.size ≤ q → A q) (hbA : ¬ A b) (hAs : ∀ q : Nat, A q → s.heap.size ≤ q) {x y : Nat} {gx gy : Nat → Nat → Nat} {cax cay : Nat → Nat → ClassId} {ak av : Nat → Nat} (hKx : va_K (dC, dI) classes (TX cax) s) (hKy : va_K (dC, dI) classes (TM cay) s) (hXY : ∀ a ∈ AdX x gx, ∀ b ∈ AdM y gy, a ≠ b) (hZ : zC ak av A s s.heap) {H : Heap} {locs : List Loc} {ivx : Nat → Nat → Int32} {lvx : Nat → Nat → Int64} {fax : Nat → Nat → Nat → Int32} {lax : Nat → Nat → Nat → Int64} {ivy : Nat → Nat → Int32} {lvy : Nat → Nat → Int64} {fay : Nat → Nat → Nat → Int32} {lay : Nat → Nat → Nat → Int64} (hIx : IX ivx fax) (hIy : IX ivy fay) (hJC : JCf (ivy 12 23).toInt (fay 12 25) (fay 12 26) (fay 12 27) (fay 12 28)) (hJR : JRf (ivy 12 3).toInt (fay 12 7)) (hJN : JNf (ivy 12 3).toInt (fay 12 4) (fay 12 5)) (hJO : ((ivy 12 20).toInt = -1 ∧ (ivy 12 21).toInt = -1 ∧ (ivy 12 22).toInt = -1)) (hq_bales : ivx 0 7 = ivy 12 1) (ha_thread : (∀ j : Nat, fax 0 1 j = fay 12 51 j)) (hz_thread : (∀ j : Nat, (ivx 0 7).toInt ≤ (j : Int) → (fax 0 1 j).toInt = 0)) (hsz : (∀ j : Nat, (fax 0 5 j).toInt = 2 * (fay 12 52 j).toInt ∧ 0 ≤ (fay 12 52 j).toInt ∧ (fay 12 52 j).toInt ≤ 999)) (hPx : va_P (dC, dI) classes (WX x gx cax ivx lvx fax lax) H) (hDx : va_D A (WX x gx cax ivx lvx fax lax)) (hPy : va_P (dC, dI) classes (WM y gy cay ivy lvy fay lay) H) (hDy : va_D A (WM y gy cay ivy lvy fay lay)) (hS : va_S A s.heap H locs) {i : Int32} {ls : Array Slot} (hl : lv_has ls 4 [(3, .int i), (2, .ref y), (1, .ref x), (0, .ref b)]) (hi : 0 ≤ i.toInt ∧ i.toInt ≤ 4088) (hi8 : i.toInt + 8 ≤ (L : Int)) (kk : ∀ (H : Heap) (locs : List Loc) (ivx : Nat → Nat → Int32) (lvx : Nat → Nat → Int64) (fax : Nat → Nat → Nat → Int32) (lax : Nat → Nat → Nat → Int64) (ivy : Nat → Nat → Int32) (lvy : Nat → Nat → Int64) (fay : Nat → Nat → Nat → Int32) (lay : Nat → Nat → Nat → Int64), IX ivx fax → IX ivy fay → JCf (ivy 12 23).toInt (fay 12 25) (fay 12 26) (fay 12 27) (fay 12 28) → JRf (ivy 12 3).toInt (fay 12 7) → JNf (ivy 12 3).toInt (fay 12 4) (fay 12 5) → ((ivy 12 20).toInt = -1 ∧ (ivy 12 21).toInt = -1 ∧ (ivy 12 22).toInt = -1) → ivx 0 7 = ivy 12 1 → (∀ j : Nat, fax 0 1 j = fay 12 51 j) → (∀ j : Nat, (ivx 0 7).toInt ≤ (j : Int) → (fax 0 1 j).toInt = 0) → (∀ j : Nat, (fax 0 5 j).toInt = 2 * (fay 12 52 j).toInt ∧ 0 ≤ (fay 12 52 j).toInt ∧ (fay 12 52 j).toInt ≤ 999) → va_P (dC, dI) classes (WX x gx cax ivx lvx fax lax) H → va_D A (WX x gx cax ivx lvx fax lax) → va_P (dC, dI) classes (WM y gy cay ivy lvy fay lay) H → va_D A (WM y gy cay ivy lvy fay lay) → va_S A s.heap H locs → W p l e room_1 s m #[Value.ref b] below meth c H locs 98 5431 (lw_Z below #[Value.ref b] s) (F0 m 1508 ls [])) : W p l e room_1 s m #[Value.ref b] below meth c H locs 98 5431 (lw_Z below #[Value.ref b] s) (F0 m 947 ls []) := by
  obtain ⟨hx, hb, hr, hml, hown, hts, hX, hbl, hlocks, hgv⟩ := id C0
  have ht := tb_of hts
  have hJV : ∀ j : Nat, 0 ≤ (fay 12 52 j).toInt ∧ (fay 12 52 j).toInt ≤ 999 := fun j => (hsz j).2
  have hJZ : ∀ j : Nat, 0 ≤ (fax 0 5 j).toInt ∧ (fax 0 5 j).toInt ≤ 1998 := fun j => by have h5 := hsz j; omega
  refine lv_aload_n hx hb dL_law_947 rfl (lv_at hl 2 rfl) ?_
  refine lv_aload_n hx hb dL_law_948 rfl (lv_at hl 3 rfl) ?_
  refine lv_iload_n hx hb dL_law_949 rfl (lv_at hl 0 rfl) ?_
  refine lv_iconst (v := 1) hx hb dL_law_950 (by decide) ?_
  refine lv_iadd hx hb dL_law_951 ?_
  refine lv_topi (fun v1 ev1 => ?_)
  have tv1 := z_add ev1 (rfl : (i).toInt = _) (by decide : (1 : Int32).toInt = 1) (by omega) (by omega)
  refine va_sld hx hb hX hbl hbA hS (vp_in_iff.mpr ⟨by omega, by omega⟩ : vp_in v1 L) dL_law_952 ?_
  refine lv_topi (fun v2 ev2 => ?_)
  refine lv_aload_n hx hb dL_law_953 rfl (lv_at hl 3 rfl) ?_
  refine lv_iload_n hx hb dL_law_954 rfl (lv_at hl 0 rfl) ?_
  refine lv_iconst (v := 2) hx hb dL_law_955 (by decide) ?_
  refine lv_iadd hx hb dL_law_956 ?_
  refine lv_topi (fun v3 ev3 => ?_)
  have tv3 := z_add ev3 (rfl : (i).toInt = _) (by decide : (2 : Int32).toInt = 2) (by omega) (by omega)
  refine va_sld hx hb hX hbl hbA hS (vp_in_iff.mpr ⟨by omega, by omega⟩ : vp_in v3 L) dL_law_957 ?_
  refine lv_topi (fun v4 ev4 => ?_)
  have hFc := free_all hDx hS hA
  refine va_calli (va_runV (As := [.int v2, .int v4]) (rest := []) ⟨hx, hb, hml, hown, ht⟩ (c_X11_size_z l dC dI H.size x gx cax ivx lvx fax lax hIx v2 v4 hJZ) (kV 2 ht m_949 m_950 m_951 m_77 m_952 rfl rfl hd_X11_size_v ⟨Nat.le_of_ble_eq_true rfl, Nat.le_of_ble_eq_true rfl⟩) (vW hPx hKx hDx (rX_11 hKx hPx)) rfl rfl hl.1 rfl (lv_room (Nat.le_of_ble_eq_true rfl)) dL_law_958 ⟨Nat.le_of_ble_eq_true rfl, Nat.le_of_ble_eq_true rfl⟩) hS (fun q _ h => hFc q h) hFc (fun r5 u t H1 locs ht9 hvm hr5 hB hz1 hk1 hS => ?_)
  obtain ⟨xr5_0, hr5, rfl⟩ := hr5
  obtain ⟨hPx, hDx⟩ := hB
  rw [ht9] at hPx
  have hPy := P_kept hPy (la := AdM y gy) (lb := AdX x gx) wmM wmX (fun a ha b hb => (hXY b hb a ha).symm) hk1
  generalize H1 = H at hPx hPy hS ⊢
  have hPx : va_P (dC, dI) classes (WX x gx cax ivx lvx fax lax) H := hPx
  have hDx : va_D A (WX x gx cax ivx lvx fax lax) := (show va_D _ (WX x gx cax ivx lvx fax lax) from hDx).weaken (fun _ _ _ h => hFc _ h)
  refine lv_aload_n hx hb dL_law_961 rfl (lv_at hl 1 rfl) ?_
  refine lv_aload_n hx hb dL_law_962 rfl (lv_at hl 3 rfl) ?_
  refine lv_iload_n hx hb dL_law_963 rfl (lv_at hl 0 rfl) ?_
  refine lv_iconst (v := 1) hx hb dL_law_964 (by decide) ?_
  refine lv_iadd hx hb dL_law_965 ?_
  refine lv_topi (fun v6 ev6 => ?_)
  have tv6 := z_add ev6 (rfl : (i).toInt = _) (by decide : (1 : Int32).toInt = 1) (by omega) (by omega)
  refine va_sld hx hb hX hbl hbA hS (vp_in_iff.mpr ⟨by omega, by omega⟩ : vp_in v6 L) dL_law_966 ?_
  refine lv_topi (fun v7 ev7 => ?_)
  refine lv_aload_n hx hb dL_law_967 rfl (lv_at hl 3 rfl) ?_
  refine lv_iload_n hx hb dL_law_968 rfl (lv_at hl 0 rfl) ?_
  refine lv_iconst (v := 2) hx hb dL_law_969 (by decide) ?_
  refine lv_iadd hx hb dL_law_970 ?_
  refine lv_topi (fun v8 ev8 => ?_)
  have tv8 := z_add ev8 (rfl : (i).toInt = _) (by decide : (2 : Int32).toInt = 2) (by omega) (by omega)
  refine va_sld hx hb hX hbl hbA hS (vp_in_iff.mpr ⟨by omega, by omega⟩ : vp_in v8 L) dL_law_971 ?_
  refine lv_topi (fun v9 ev9 => ?_)
  have hFc := free_all hDy hS hA
  refine va_calli (va_runV (As := [.int v7, .int v9]) (rest := [.int r5]) ⟨hx, hb, hml, hown, ht⟩ (c_X12_size_z l dC dI H.size y gy cay ivy lvy fay lay hIy v7 v9 hJV) (kV 2 ht m_1613 m_1614 m_1615 m_89 m_1616 rfl rfl hd_X12_size_v ⟨Nat.le_of_ble_eq_true rfl, Nat.le_of_ble_eq_true rfl⟩) (vW hPy hKy hDy (rM_12 hKy hPy)) rfl rfl hl.1 rfl (lv_room (Nat.le_of_ble_eq_true rfl)) dL_law_972 ⟨Nat.le_of_ble_eq_true rfl, Nat.le_of_ble_eq_true rfl⟩) hS (fun q _ h => hFc q h) hFc (fun r10 u t H1 locs ht9 hvm hr10 hB hz1 hk1 hS => ?_)
  obtain ⟨xr10_0, hr10, rfl⟩ := hr10
  obtain ⟨hPy, hDy⟩ := hB
  rw [ht9] at hPy
  have hPx := P_kept hPx (la := AdX x gx) (lb := AdM y gy) wmX wmM hXY hk1
  generalize H1 = H at hPx hPy hS ⊢
  have hPy : va_P (dC, dI) classes (WM y gy cay ivy lvy fay lay) H := hPy
  have hDy : va_D A (WM y gy cay ivy lvy fay lay) := (show va_D _ (WM y gy cay ivy lvy fay lay) from hDy).weaken (fun _ _ _ h => hFc _ h)
  have hv9_0 : (v2 : Int32) = v7 := by rw [ev2, ev7, ev1, ev6]
  have hu9_0 := congrArg Int32.toInt hv9_0
  have hv9_1 : (v4 : Int32) = v9 := by rw [ev4, ev9, ev3, ev8]
  have hu9_1 := congrArg Int32.toInt hv9_1
  have hw9_bales := congrArg Int32.toInt hq_bales
  have y9x_0 : ((r5.toInt = -100001 ∧ ¬ (0 ≤ (v2 : Int32).toInt ∧ (v2 : Int32).toInt < (ivx 0 7).toInt)) ∨ (r5.toInt = -100002 ∧ (0 ≤ (v2 : Int32).toInt ∧ (v2 : Int32).toInt < (ivx 0 7).toInt) ∧ ¬ (0 ≤ (v4 : Int32).toInt ∧ (v4 : Int32).toInt ≤ 3)) ∨ ((0 ≤ (v2 : Int32).toInt ∧ (v2 : Int32).toInt < (ivx 0 7).toInt) ∧ (0 ≤ (v4 : Int32).toInt ∧ (v4 : Int32).toInt ≤ 3) ∧ (((fax 0 1) ((v2 : Int32).toInt).toNat).toInt) = 0 ∧ r5.toInt = -1) ∨ ((0 ≤ (v2 : Int32).toInt ∧ (v2 : Int32).toInt < (ivx 0 7).toInt) ∧ (0 ≤ (v4 : Int32).toInt ∧ (v4 : Int32).toInt ≤ 3) ∧ 0 < (((fax 0 1) ((v2 : Int32).toInt).toNat).toInt) ∧ r5.toInt = szF (sI (fun k : Nat => ((fax 0 5) (12 * ((v2 : Int32).toInt).toNat + k)).toInt) ((((fax 0 1) ((v2 : Int32).toInt).toNat).toInt)).toNat) (qI (fun k : Nat => ((fax 0 5) (12 * ((v2 : Int32).toInt).toNat + k)).toInt) ((((fax 0 1) ((v2 : Int32).toInt).toNat).toInt)).toNat) (((fax 0 1) ((v2 : Int32).toInt).toNat).toInt) (v4 : Int32).toInt)) := xr5_0
  have y9y_0 : ((r10.toInt = -100001 ∧ ¬ (0 ≤ (v7 : Int32).toInt ∧ (v7 : Int32).toInt < (ivy 12 1).toInt)) ∨ (r10.toInt = -100002 ∧ (0 ≤ (v7 : Int32).toInt ∧ (v7 : Int32).toInt < (ivy 12 1).toInt) ∧ ¬ (0 ≤ (v9 : Int32).toInt ∧ (v9 : Int32).toInt ≤ 3)) ∨ ((0 ≤ (v7 : Int32).toInt ∧ (v7 : Int32).toInt < (ivy 12 1).toInt) ∧ (0 ≤ (v9 : Int32).toInt ∧ (v9 : Int32).toInt ≤ 3) ∧ (((fay 12 51) ((v7 : Int32).toInt).toNat).toInt) = 0 ∧ r10.toInt = -1) ∨ ((0 ≤ (v7 : Int32).toInt ∧ (v7 : Int32).toInt < (ivy 12 1).toInt) ∧ (0 ≤ (v9 : Int32).toInt ∧ (v9 : Int32).toInt ≤ 3) ∧ 0 < (((fay 12 51) ((v7 : Int32).toInt).toNat).toInt) ∧ r10.toInt = szF (sI (fun k : Nat => 2 * ((fay 12 52) (12 * ((v7 : Int32).toInt).toNat + k)).toInt) ((((fay 12 51) ((v7 : Int32).toInt).toNat).toInt)).toNat) (qI (fun k : Nat => 2 * ((fay 12 52) (12 * ((v7 : Int32).toInt).toNat + k)).toInt) ((((fay 12 51) ((v7 : Int32).toInt).toNat).toInt)).toNat) (((fay 12 51) ((v7 : Int32).toInt).toNat).toInt) (v9 : Int32).toInt)) := xr10_0
  have hg9 := sI_cg (f := fun k : Nat => (fax 0 5 (12 * ((v2 : Int32).toInt).toNat + k)).toInt) (g := fun k : Nat => 2 * (fay 12 52 (12 * ((v2 : Int32).toInt).toNat + k)).toInt) ((fax 0 1 ((v2 : Int32).toInt).toNat).toInt).toNat (fun j hj => (hsz _).1)
  rw [← hv9_0, ← ha_thread, ← hg9.1, ← hg9.2, ← hu9_1] at y9y_0
  have hr8 : (r5 : Int32).toInt = (r10 : Int32).toInt := by omega
  have hr9 : (r5 : Int32) = r10 := Int32.toInt_inj.mp (by omega)
  refine lv_icmp_eq (tgt := 1508) hx hb dL_law_975 (by decide) (fun c9 => ?_) (fun c9 => ?_)
  · skip
    exact kk _ _ ivx lvx fax lax ivy lvy fay lay hIx hIy hJC hJR hJN hJO hq_bales ha_thread hz_thread hsz hPx hDx hPy hDy hS
  · exact absurd hr9 c9
set_option maxHeartbeats 4000000 in
set_option maxRecDepth 100000 in
theorem law_22 {p : Program} {e : Env} {s : State} {m : MethodId} {below : List Frame} {meth : Method} {c : Code} (l : Launch) {b L : Nat} {xs : Nat → Int32} (hL : L ≤ 4096) (C0 : lw_At p s m meth c b L xs) {dC : Nat → ClassId} {dI : Nat → Nat → Nat} {A : Nat → Prop} (hA : ∀ q : Nat, s.heap.size ≤ q → A q) (hbA : ¬ A b) (hAs : ∀ q : Nat, A q → s.heap.size ≤ q) {x y : Nat} {gx gy : Nat → Nat → Nat} {cax cay : Nat → Nat → ClassId} {ak av : Nat → Nat} (hKx : va_K (dC, dI) classes (TX cax) s) (hKy : va_K (dC, dI) classes (TM cay) s) (hXY : ∀ a ∈ AdX x gx, ∀ b ∈ AdM y gy, a ≠ b) (hZ : zC ak av A s s.heap) {H : Heap} {locs : List Loc} {ivx : Nat → Nat → Int32} {lvx : Nat → Nat → Int64} {fax : Nat → Nat → Nat → Int32} {lax : Nat → Nat → Nat → Int64} {ivy : Nat → Nat → Int32} {lvy : Nat → Nat → Int64} {fay : Nat → Nat → Nat → Int32} {lay : Nat → Nat → Nat → Int64} (hIx : IX ivx fax) (hIy : IX ivy fay) (hJC : JCf (ivy 12 23).toInt (fay 12 25) (fay 12 26) (fay 12 27) (fay 12 28)) (hJR : JRf (ivy 12 3).toInt (fay 12 7)) (hJN : JNf (ivy 12 3).toInt (fay 12 4) (fay 12 5)) (hJO : ((ivy 12 20).toInt = -1 ∧ (ivy 12 21).toInt = -1 ∧ (ivy 12 22).toInt = -1)) (hq_bales : ivx 0 7 = ivy 12 1) (ha_thread : (∀ j : Nat, fax 0 1 j = fay 12 51 j)) (hz_thread : (∀ j : Nat, (ivx 0 7).toInt ≤ (j : Int) → (fax 0 1 j).toInt = 0)) (hsz : (∀ j : Nat, (fax 0 5 j).toInt = 2 * (fay 12 52 j).toInt ∧ 0 ≤ (fay 12 52 j).toInt ∧ (fay 12 52 j).toInt ≤ 999)) (hPx : va_P (dC, dI) classes (WX x gx cax ivx lvx fax lax) H) (hDx : va_D A (WX x gx cax ivx lvx fax lax)) (hPy : va_P (dC, dI) classes (WM y gy cay ivy lvy fay lay) H) (hDy : va_D A (WM y gy cay ivy lvy fay lay)) (hS : va_S A s.heap H locs) {i : Int32} {ls : Array Slot} (hl : lv_has ls 4 [(3, .int i), (2, .ref y), (1, .ref x), (0, .ref b)]) (hi : 0 ≤ i.toInt ∧ i.toInt ≤ 4088) (hi8 : i.toInt + 8 ≤ (L : Int)) (kk : ∀ (H : Heap) (locs : List Loc) (ivx : Nat → Nat → Int32) (lvx : Nat → Nat → Int64) (fax : Nat → Nat → Nat → Int32) (lax : Nat → Nat → Nat → Int64) (ivy : Nat → Nat → Int32) (lvy : Nat → Nat → Int64) (fay : Nat → Nat → Nat → Int32) (lay : Nat → Nat → Nat → Int64), IX ivx fax → IX ivy fay → JCf (ivy 12 23).toInt (fay 12 25) (fay 12 26) (fay 12 27) (fay 12 28) → JRf (ivy 12 3).toInt (fay 12 7) → JNf (ivy 12 3).toInt (fay 12 4) (fay 12 5) → ((ivy 12 20).toInt = -1 ∧ (ivy 12 21).toInt = -1 ∧ (ivy 12 22).toInt = -1) → ivx 0 7 = ivy 12 1 → (∀ j : Nat, fax 0 1 j = fay 12 51 j) → (∀ j : Nat, (ivx 0 7).toInt ≤ (j : Int) → (fax 0 1 j).toInt = 0) → (∀ j : Nat, (fax 0 5 j).toInt = 2 * (fay 12 52 j).toInt ∧ 0 ≤ (fay 12 52 j).toInt ∧ (fay 12 52 j).toInt ≤ 999) → va_P (dC, dI) classes (WX x gx cax ivx lvx fax lax) H → va_D A (WX x gx cax ivx lvx fax lax) → va_P (dC, dI) classes (WM y gy cay ivy lvy fay lay) H → va_D A (WM y gy cay ivy lvy fay lay) → va_S A s.heap H locs → W p l e room_1 s m #[Value.ref b] below meth c H locs 98 5431 (lw_Z below #[Value.ref b] s) (F0 m 1508 ls [])) : W p l e room_1 s m #[Value.ref b] below meth c H locs 98 5431 (lw_Z below #[Value.ref b] s) (F0 m 980 ls []) := by
  obtain ⟨hx, hb, hr, hml, hown, hts, hX, hbl, hlocks, hgv⟩ := id C0
  have ht := tb_of hts
  have hJV : ∀ j : Nat, 0 ≤ (fay 12 52 j).toInt ∧ (fay 12 52 j).toInt ≤ 999 := fun j => (hsz j).2
  have hJZ : ∀ j : Nat, 0 ≤ (fax 0 5 j).toInt ∧ (fax 0 5 j).toInt ≤ 1998 := fun j => by have h5 := hsz j; omega
  refine lv_aload_n hx hb dL_law_980 rfl (lv_at hl 2 rfl) ?_
  refine lv_aload_n hx hb dL_law_981 rfl (lv_at hl 3 rfl) ?_
  refine lv_iload_n hx hb dL_law_982 rfl (lv_at hl 0 rfl) ?_
  refine lv_iconst (v := 1) hx hb dL_law_983 (by decide) ?_
  refine lv_iadd hx hb dL_law_984 ?_
  refine lv_topi (fun v1 ev1 => ?_)
  have tv1 := z_add ev1 (rfl : (i).toInt = _) (by decide : (1 : Int32).toInt = 1) (by omega) (by omega)
  refine va_sld hx hb hX hbl hbA hS (vp_in_iff.mpr ⟨by omega, by omega⟩ : vp_in v1 L) dL_law_985 ?_
  refine lv_topi (fun v2 ev2 => ?_)
  refine lv_aload_n hx hb dL_law_986 rfl (lv_at hl 3 rfl) ?_
  refine lv_iload_n hx hb dL_law_987 rfl (lv_at hl 0 rfl) ?_
  refine lv_iconst (v := 2) hx hb dL_law_988 (by decide) ?_
  refine lv_iadd hx hb dL_law_989 ?_
  refine lv_topi (fun v3 ev3 => ?_)
  have tv3 := z_add ev3 (rfl : (i).toInt = _) (by decide : (2 : Int32).toInt = 2) (by omega) (by omega)
  refine va_sld hx hb hX hbl hbA hS (vp_in_iff.mpr ⟨by omega, by omega⟩ : vp_in v3 L) dL_law_990 ?_
  refine lv_topi (fun v4 ev4 => ?_)
  have hFc := free_all hDx hS hA
  refine va_calli (va_runV (As := [.int v2, .int v4]) (rest := []) ⟨hx, hb, hml, hown, ht⟩ (c_X11_named l dC dI H.size x gx cax ivx lvx fax lax hIx v2 v4) (kV 2 ht m_961 m_962 m_963 m_77 m_964 rfl rfl hd_X11_named_v ⟨Nat.le_of_ble_eq_true rfl, Nat.le_of_ble_eq_true rfl⟩) (vW hPx hKx hDx (rX_11 hKx hPx)) rfl rfl hl.1 rfl (lv_room (Nat.le_of_ble_eq_true rfl)) dL_law_991 ⟨Nat.le_of_ble_eq_true rfl, Nat.le_of_ble_eq_true rfl⟩) hS (fun q _ h => hFc q h) hFc (fun r5 u t H1 locs ht9 hvm hr5 hB hz1 hk1 hS => ?_)
  obtain ⟨n6, hn6, hr5, rfl⟩ := hr5
  obtain ⟨hPx, hDx⟩ := hB
  rw [ht9] at hPx
  have hPy := P_kept hPy (la := AdM y gy) (lb := AdX x gx) wmM wmX (fun a ha b hb => (hXY b hb a ha).symm) hk1
  generalize H1 = H at hPx hPy hS ⊢
  have hPx : va_P (dC, dI) classes (WX x gx cax ivx lvx (u2 fax 1 6 n6) lax) H := hPx
  have hDx : va_D A (WX x gx cax ivx lvx (u2 fax 1 6 n6) lax) := (show va_D _ (WX x gx cax ivx lvx (u2 fax 1 6 n6) lax) from hDx).weaken (fun _ _ _ h => hFc _ h)
  refine lv_pop hx hb dL_law_994 rfl ?_
  refine lv_aload_n hx hb dL_law_995 rfl (lv_at hl 1 rfl) ?_
  refine lv_aload_n hx hb dL_law_996 rfl (lv_at hl 3 rfl) ?_
  refine lv_iload_n hx hb dL_law_997 rfl (lv_at hl 0 rfl) ?_
  refine lv_iconst (v := 1) hx hb dL_law_998 (by decide) ?_
  refine lv_iadd hx hb dL_law_999 ?_
  refine lv_topi (fun v7 ev7 => ?_)
  have tv7 := z_add ev7 (rfl : (i).toInt = _) (by decide : (1 : Int32).toInt = 1) (by omega) (by omega)
  refine va_sld hx hb hX hbl hbA hS (vp_in_iff.mpr ⟨by omega, by omega⟩ : vp_in v7 L) dL_law_1000 ?_
  refine lv_topi (fun v8 ev8 => ?_)
  refine lv_aload_n hx hb dL_law_1001 rfl (lv_at hl 3 rfl) ?_
  refine lv_iload_n hx hb dL_law_1002 rfl (lv_at hl 0 rfl) ?_
  refine lv_iconst (v := 2) hx hb dL_law_1003 (by decide) ?_
  refine lv_iadd hx hb dL_law_1004 ?_
  refine lv_topi (fun v9 ev9 => ?_)
  have tv9 := z_add ev9 (rfl : (i).toInt = _) (by decide : (2 : Int32).toInt = 2) (by omega) (by omega)
  refine va_sld hx hb hX hbl hbA hS (vp_in_iff.mpr ⟨by omega, by omega⟩ : vp_in v9 L) dL_law_1005 ?_
  refine lv_topi (fun v10 ev10 => ?_)
  have hFc := free_all hDy hS hA
  refine va_calli (va_runV (As := [.int v8, .int v10]) (rest := []) ⟨hx, hb, hml, hown, ht⟩ (c_X12_named l dC dI H.size y gy cay ivy lvy fay lay hIy v8 v10 hJC) (kV 2 ht m_1617 m_1618 m_1619 m_89 m_1620 rfl rfl hd_X12_named_v ⟨Nat.le_of_ble_eq_true rfl, Nat.le_of_ble_eq_true rfl⟩) (vW hPy hKy hDy (rM_12 hKy hPy)) rfl rfl hl.1 rfl (lv_room (Nat.le_of_ble_eq_true rfl)) dL_law_1006 ⟨Nat.le_of_ble_eq_true rfl, Nat.le_of_ble_eq_true rfl⟩) hS (fun q _ h => hFc q h) hFc (fun r11 u t H1 locs ht9 hvm hr11 hB hz1 hk1 hS => ?_)
  obtain ⟨n12, n13, n14, hn12, hn13, hn14, hr11, rfl⟩ := hr11
  obtain ⟨hPy, hDy⟩ := hB
  rw [ht9] at hPy
  have hPx := P_kept hPx (la := AdX x gx) (lb := AdM y gy) wmX wmM hXY hk1
  generalize H1 = H at hPx hPy hS ⊢
  have hPy : va_P (dC, dI) classes (WM y gy cay (u2 ivy 12 41 n14) lvy (u2 (u2 fay 12 39 n12) 12 40 n13) lay) H := hPy
  have hDy : va_D A (WM y gy cay (u2 ivy 12 41 n14) lvy (u2 (u2 fay 12 39 n12) 12 40 n13) lay) := (show va_D _ (WM y gy cay (u2 ivy 12 41 n14) lvy (u2 (u2 fay 12 39 n12) 12 40 n13) lay) from hDy).weaken (fun _ _ _ h => hFc _ h)
  refine lv_pop hx hb dL_law_1009 rfl ?_
  refine lv_goto (tgt := 1508) hx hb dL_law_1010 (by decide) ?_
  exact kk _ _ ivx lvx (u2 fax 1 6 n6) lax (u2 ivy 12 41 n14) lvy (u2 (u2 fay 12 39 n12) 12 40 n13) lay (IX_a (c := 1) (k := 6) hIx hn6) (IX_a (c := 12) (k := 40) (IX_a (c := 12) (k := 39) (IX_i (c := 12) (k := 41) hIy hn14) hn12) hn13) hJC hJR hJN hJO hq_bales ha_thread hz_thread hsz hPx hDx hPy hDy hS
set_option maxHeartbeats 4000000 in
set_option maxRecDepth 100000 in
theorem law_23 {p : Program} {e : Env} {s : State} {m : MethodId} {below : List Frame} {meth : Method} {c : Code} (l : Launch) {b L : Nat} {xs : Nat → Int32} (hL : L ≤ 4096) (C0 : lw_At p s m meth c b L xs) {dC : Nat → ClassId} {dI : Nat → Nat → Nat} {A : Nat → Prop} (hA : ∀ q : Nat, s.heap.size ≤ q → A q) (hbA : ¬ A b) (hAs : ∀ q : Nat, A q → s.heap.size ≤ q) {x y : Nat} {gx gy : Nat → Nat → Nat} {cax cay : Nat → Nat → ClassId} {ak av : Nat → Nat} (hKx : va_K (dC, dI) classes (TX cax) s) (hKy : va_K (dC, dI) classes (TM cay) s) (hXY : ∀ a ∈ AdX x gx, ∀ b ∈ AdM y gy, a ≠ b) (hZ : zC ak av A s s.heap) {H : Heap} {locs : List Loc} {ivx : Nat → Nat → Int32} {lvx : Nat → Nat → Int64} {fax : Nat → Nat → Nat → Int32} {lax : Nat → Nat → Nat → Int64} {ivy : Nat → Nat → Int32} {lvy : Nat → Nat → Int64} {fay : Nat → Nat → Nat → Int32} {lay : Nat → Nat → Nat → Int64} (hIx : IX ivx fax) (hIy : IX ivy fay) (hJC : JCf (ivy 12 23).toInt (fay 12 25) (fay 12 26) (fay 12 27) (fay 12 28)) (hJR : JRf (ivy 12 3).toInt (fay 12 7)) (hJN : JNf (ivy 12 3).toInt (fay 12 4) (fay 12 5)) (hJO : ((ivy 12 20).toInt = -1 ∧ (ivy 12 21).toInt = -1 ∧ (ivy 12 22).toInt = -1)) (hq_bales : ivx 0 7 = ivy 12 1) (ha_thread : (∀ j : Nat, fax 0 1 j = fay 12 51 j)) (hz_thread : (∀ j : Nat, (ivx 0 7).toInt ≤ (j : Int) → (fax 0 1 j).toInt = 0)) (hsz : (∀ j : Nat, (fax 0 5 j).toInt = 2 * (fay 12 52 j).toInt ∧ 0 ≤ (fay 12 52 j).toInt ∧ (fay 12 52 j).toInt ≤ 999)) (hPx : va_P (dC, dI) classes (WX x gx cax ivx lvx fax lax) H) (hDx : va_D A (WX x gx cax ivx lvx fax lax)) (hPy : va_P (dC, dI) classes (WM y gy cay ivy lvy fay lay) H) (hDy : va_D A (WM y gy cay ivy lvy fay lay)) (hS : va_S A s.heap H locs) {i : Int32} {ls : Array Slot} (hl : lv_has ls 4 [(3, .int i), (2, .ref y), (1, .ref x), (0, .ref b)]) (hi : 0 ≤ i.toInt ∧ i.toInt ≤ 4088) (hi8 : i.toInt + 8 ≤ (L : Int)) (kk : ∀ (H : Heap) (locs : List Loc) (ivx : Nat → Nat → Int32) (lvx : Nat → Nat → Int64) (fax : Nat → Nat → Nat → Int32) (lax : Nat → Nat → Nat → Int64) (ivy : Nat → Nat → Int32) (lvy : Nat → Nat → Int64) (fay : Nat → Nat → Nat → Int32) (lay : Nat → Nat → Nat → Int64), IX ivx fax → IX ivy fay → JCf (ivy 12 23).toInt (fay 12 25) (fay 12 26) (fay 12 27) (fay 12 28) → JRf (ivy 12 3).toInt (fay 12 7) → JNf (ivy 12 3).toInt (fay 12 4) (fay 12 5) → ((ivy 12 20).toInt = -1 ∧ (ivy 12 21).toInt = -1 ∧ (ivy 12 22).toInt = -1) → ivx 0 7 = ivy 12 1 → (∀ j : Nat, fax 0 1 j = fay 12 51 j) → (∀ j : Nat, (ivx 0 7).toInt ≤ (j : Int) → (fax 0 1 j).toInt = 0) → (∀ j : Nat, (fax 0 5 j).toInt = 2 * (fay 12 52 j).toInt ∧ 0 ≤ (fay 12 52 j).toInt ∧ (fay 12 52 j).toInt ≤ 999) → va_P (dC, dI) classes (WX x gx cax ivx lvx fax lax) H → va_D A (WX x gx cax ivx lvx fax lax) → va_P (dC, dI) classes (WM y gy cay ivy lvy fay lay) H → va_D A (WM y gy cay ivy lvy fay lay) → va_S A s.heap H locs → W p l e room_1 s m #[Value.ref b] below meth c H locs 98 5431 (lw_Z below #[Value.ref b] s) (F0 m 1508 ls [])) : W p l e room_1 s m #[Value.ref b] below meth c H locs 98 5431 (lw_Z below #[Value.ref b] s) (F0 m 1013 ls []) := by
  obtain ⟨hx, hb, hr, hml, hown, hts, hX, hbl, hlocks, hgv⟩ := id C0
  have ht := tb_of hts
  have hJV : ∀ j : Nat, 0 ≤ (fay 12 52 j).toInt ∧ (fay 12 52 j).toInt ≤ 999 := fun j => (hsz j).2
  have hJZ : ∀ j : Nat, 0 ≤ (fax 0 5 j).toInt ∧ (fax 0 5 j).toInt ≤ 1998 := fun j => by have h5 := hsz j; omega
  refine lv_aload_n hx hb dL_law_1013 rfl (lv_at hl 2 rfl) ?_
  refine lv_aload_n hx hb dL_law_1014 rfl (lv_at hl 3 rfl) ?_
  refine lv_iload_n hx hb dL_law_1015 rfl (lv_at hl 0 rfl) ?_
  refine lv_iconst (v := 1) hx hb dL_law_1016 (by decide) ?_
  refine lv_iadd hx hb dL_law_1017 ?_
  refine lv_topi (fun v1 ev1 => ?_)
  have tv1 := z_add ev1 (rfl : (i).toInt = _) (by decide : (1 : Int32).toInt = 1) (by omega) (by omega)
  refine va_sld hx hb hX hbl hbA hS (vp_in_iff.mpr ⟨by omega, by omega⟩ : vp_in v1 L) dL_law_1018 ?_
  refine lv_topi (fun v2 ev2 => ?_)
  refine lv_aload_n hx hb dL_law_1019 rfl (lv_at hl 3 rfl) ?_
  refine lv_iload_n hx hb dL_law_1020 rfl (lv_at hl 0 rfl) ?_
  refine lv_iconst (v := 2) hx hb dL_law_1021 (by decide) ?_
  refine lv_iadd hx hb dL_law_1022 ?_
  refine lv_topi (fun v3 ev3 => ?_)
  have tv3 := z_add ev3 (rfl : (i).toInt = _) (by decide : (2 : Int32).toInt = 2) (by omega) (by omega)
  refine va_sld hx hb hX hbl hbA hS (vp_in_iff.mpr ⟨by omega, by omega⟩ : vp_in v3 L) dL_law_1023 ?_
  refine lv_topi (fun v4 ev4 => ?_)
  have hFc := free_all hDx hS hA
  refine va_calli (va_runV (As := [.int v2, .int v4]) (rest := []) ⟨hx, hb, hml, hown, ht⟩ (c_X11_turns l dC dI H.size x gx cax ivx lvx fax lax hIx v2 v4) (kV 2 ht m_973 m_974 m_975 m_77 m_976 rfl rfl hd_X11_turns_v ⟨Nat.le_of_ble_eq_true rfl, Nat.le_of_ble_eq_true rfl⟩) (vW hPx hKx hDx (rX_11 hKx hPx)) rfl rfl hl.1 rfl (lv_room (Nat.le_of_ble_eq_true rfl)) dL_law_1024 ⟨Nat.le_of_ble_eq_true rfl, Nat.le_of_ble_eq_true rfl⟩) hS (fun q _ h => hFc q h) hFc (fun r5 u t H1 locs ht9 hvm hr5 hB hz1 hk1 hS => ?_)
  obtain ⟨n6, n7, hn6, hr5, rfl⟩ := hr5
  obtain ⟨hPx, hDx⟩ := hB
  rw [ht9] at hPx
  have hPy := P_kept hPy (la := AdM y gy) (lb := AdX x gx) wmM wmX (fun a ha b hb => (hXY b hb a ha).symm) hk1
  generalize H1 = H at hPx hPy hS ⊢
  have hPx : va_P (dC, dI) classes (WX x gx cax ivx lvx (u2 (u2 fax 0 2 n6) 0 6 n7) lax) H := hPx
  have hDx : va_D A (WX x gx cax ivx lvx (u2 (u2 fax 0 2 n6) 0 6 n7) lax) := (show va_D _ (WX x gx cax ivx lvx (u2 (u2 fax 0 2 n6) 0 6 n7) lax) from hDx).weaken (fun _ _ _ h => hFc _ h)
  refine lv_pop hx hb dL_law_1027 rfl ?_
  refine lv_aload_n hx hb dL_law_1028 rfl (lv_at hl 1 rfl) ?_
  refine lv_aload_n hx hb dL_law_1029 rfl (lv_at hl 3 rfl) ?_
  refine lv_iload_n hx hb dL_law_1030 rfl (lv_at hl 0 rfl) ?_
  refine lv_iconst (v := 1) hx hb dL_law_1031 (by decide) ?_
  refine lv_iadd hx hb dL_law_1032 ?_
  refine lv_topi (fun v8 ev8 => ?_)
  have tv8 := z_add ev8 (rfl : (i).toInt = _) (by decide : (1 : Int32).toInt = 1) (by omega) (by omega)
  refine va_sld hx hb hX hbl hbA hS (vp_in_iff.mpr ⟨by omega, by omega⟩ : vp_in v8 L) dL_law_1033 ?_
  refine lv_topi (fun v9 ev9 => ?_)
  refine lv_aload_n hx hb dL_law_1034 rfl (lv_at hl 3 rfl) ?_
  refine lv_iload_n hx hb dL_law_1035 rfl (lv_at hl 0 rfl) ?_
  refine lv_iconst (v := 2) hx hb dL_law_1036 (by decide) ?_
  refine lv_iadd hx hb dL_law_1037 ?_
  refine lv_topi (fun v10 ev10 => ?_)
  have tv10 := z_add ev10 (rfl : (i).toInt = _) (by decide : (2 : Int32).toInt = 2) (by omega) (by omega)
  refine va_sld hx hb hX hbl hbA hS (vp_in_iff.mpr ⟨by omega, by omega⟩ : vp_in v10 L) dL_law_1038 ?_
  refine lv_topi (fun v11 ev11 => ?_)
  have hFc := free_all hDy hS hA
  refine va_calli (va_runV (As := [.int v9, .int v11]) (rest := []) ⟨hx, hb, hml, hown, ht⟩ (c_X12_turns l dC dI H.size y gy cay ivy lvy fay lay hIy v9 v11) (kV 2 ht m_1621 m_1622 m_1623 m_89 m_1624 rfl rfl hd_X12_turns_v ⟨Nat.le_of_ble_eq_true rfl, Nat.le_of_ble_eq_true rfl⟩) (vW hPy hKy hDy (rM_12 hKy hPy)) rfl rfl hl.1 rfl (lv_room (Nat.le_of_ble_eq_true rfl)) dL_law_1039 ⟨Nat.le_of_ble_eq_true rfl, Nat.le_of_ble_eq_true rfl⟩) hS (fun q _ h => hFc q h) hFc (fun r12 u t H1 locs ht9 hvm hr12 hB hz1 hk1 hS => ?_)
  obtain ⟨n13, n14, hn13, hr12, rfl⟩ := hr12
  obtain ⟨hPy, hDy⟩ := hB
  rw [ht9] at hPy
  have hPx := P_kept hPx (la := AdX x gx) (lb := AdM y gy) wmX wmM hXY hk1
  generalize H1 = H at hPx hPy hS ⊢
  have hPy : va_P (dC, dI) classes (WM y gy cay ivy lvy (u2 (u2 fay 12 53 n13) 12 54 n14) lay) H := hPy
  have hDy : va_D A (WM y gy cay ivy lvy (u2 (u2 fay 12 53 n13) 12 54 n14) lay) := (show va_D _ (WM y gy cay ivy lvy (u2 (u2 fay 12 53 n13) 12 54 n14) lay) from hDy).weaken (fun _ _ _ h => hFc _ h)
  refine lv_pop hx hb dL_law_1042 rfl ?_
  refine lv_goto (tgt := 1508) hx hb dL_law_1043 (by decide) ?_
  exact kk _ _ ivx lvx (u2 (u2 fax 0 2 n6) 0 6 n7) lax ivy lvy (u2 (u2 fay 12 53 n13) 12 54 n14) lay (IX_a (c := 0) (k := 6) (IX_a (c := 0) (k := 2) hIx hn6) (fun j => full_i _)) (IX_a (c := 12) (k := 54) (IX_a (c := 12) (k := 53) hIy hn13) (fun j => full_i _)) hJC hJR hJN hJO hq_bales ha_thread hz_thread hsz hPx hDx hPy hDy hS
set_option maxHeartbeats 4000000 in
set_option maxRecDepth 100000 in
theorem law_24 {p : Program} {e : Env} {s : State} {m : MethodId} {below : List Frame} {meth : Method} {c : Code} (l : Launch) {b L : Nat} {xs : Nat → Int32} (hL : L ≤ 4096) (C0 : lw_At p s m meth c b L xs) {dC : Nat → ClassId} {dI : Nat → Nat → Nat} {A : Nat → Prop} (hA : ∀ q : Nat, s.heap.size ≤ q → A q) (hbA : ¬ A b) (hAs : ∀ q : Nat, A q → s.heap.size ≤ q) {x y : Nat} {gx gy : Nat → Nat → Nat} {cax cay : Nat → Nat → ClassId} {ak av : Nat → Nat} (hKx : va_K (dC, dI) classes (TX cax) s) (hKy : va_K (dC, dI) classes (TM cay) s) (hXY : ∀ a ∈ AdX x gx, ∀ b ∈ AdM y gy, a ≠ b) (hZ : zC ak av A s s.heap) {H : Heap} {locs : List Loc} {ivx : Nat → Nat → Int32} {lvx : Nat → Nat → Int64} {fax : Nat → Nat → Nat → Int32} {lax : Nat → Nat → Nat → Int64} {ivy : Nat → Nat → Int32} {lvy : Nat → Nat → Int64} {fay : Nat → Nat → Nat → Int32} {lay : Nat → Nat → Nat → Int64} (hIx : IX ivx fax) (hIy : IX ivy fay) (hJC : JCf (ivy 12 23).toInt (fay 12 25) (fay 12 26) (fay 12 27) (fay 12 28)) (hJR : JRf (ivy 12 3).toInt (fay 12 7)) (hJN : JNf (ivy 12 3).toInt (fay 12 4) (fay 12 5)) (hJO : ((ivy 12 20).toInt = -1 ∧ (ivy 12 21).toInt = -1 ∧ (ivy 12 22).toInt = -1)) (hq_bales : ivx 0 7 = ivy 12 1) (ha_thread : (∀ j : Nat, fax 0 1 j = fay 12 51 j)) (hz_thread : (∀ j : Nat, (ivx 0 7).toInt ≤ (j : Int) → (fax 0 1 j).toInt = 0)) (hsz : (∀ j : Nat, (fax 0 5 j).toInt = 2 * (fay 12 52 j).toInt ∧ 0 ≤ (fay 12 52 j).toInt ∧ (fay 12 52 j).toInt ≤ 999)) (hPx : va_P (dC, dI) classes (WX x gx cax ivx lvx fax lax) H) (hDx : va_D A (WX x gx cax ivx lvx fax lax)) (hPy : va_P (dC, dI) classes (WM y gy cay ivy lvy fay lay) H) (hDy : va_D A (WM y gy cay ivy lvy fay lay)) (hS : va_S A s.heap H locs) {i : Int32} {ls : Array Slot} (hl : lv_has ls 4 [(3, .int i), (2, .ref y), (1, .ref x), (0, .ref b)]) (hi : 0 ≤ i.toInt ∧ i.toInt ≤ 4088) (hi8 : i.toInt + 8 ≤ (L : Int)) (kk : ∀ (H : Heap) (locs : List Loc) (ivx : Nat → Nat → Int32) (lvx : Nat → Nat → Int64) (fax : Nat → Nat → Nat → Int32) (lax : Nat → Nat → Nat → Int64) (ivy : Nat → Nat → Int32) (lvy : Nat → Nat → Int64) (fay : Nat → Nat → Nat → Int32) (lay : Nat → Nat → Nat → Int64), IX ivx fax → IX ivy fay → JCf (ivy 12 23).toInt (fay 12 25) (fay 12 26) (fay 12 27) (fay 12 28) → JRf (ivy 12 3).toInt (fay 12 7) → JNf (ivy 12 3).toInt (fay 12 4) (fay 12 5) → ((ivy 12 20).toInt = -1 ∧ (ivy 12 21).toInt = -1 ∧ (ivy 12 22).toInt = -1) → ivx 0 7 = ivy 12 1 → (∀ j : Nat, fax 0 1 j = fay 12 51 j) → (∀ j : Nat, (ivx 0 7).toInt ≤ (j : Int) → (fax 0 1 j).toInt = 0) → (∀ j : Nat, (fax 0 5 j).toInt = 2 * (fay 12 52 j).toInt ∧ 0 ≤ (fay 12 52 j).toInt ∧ (fay 12 52 j).toInt ≤ 999) → va_P (dC, dI) classes (WX x gx cax ivx lvx fax lax) H → va_D A (WX x gx cax ivx lvx fax lax) → va_P (dC, dI) classes (WM y gy cay ivy lvy fay lay) H → va_D A (WM y gy cay ivy lvy fay lay) → va_S A s.heap H locs → W p l e room_1 s m #[Value.ref b] below meth c H locs 98 5431 (lw_Z below #[Value.ref b] s) (F0 m 1508 ls [])) : W p l e room_1 s m #[Value.ref b] below meth c H locs 98 5431 (lw_Z below #[Value.ref b] s) (F0 m 1046 ls []) := by
  obtain ⟨hx, hb, hr, hml, hown, hts, hX, hbl, hlocks, hgv⟩ := id C0
  have ht := tb_of hts
  have hJV : ∀ j : Nat, 0 ≤ (fay 12 52 j).toInt ∧ (fay 12 52 j).toInt ≤ 999 := fun j => (hsz j).2
  have hJZ : ∀ j : Nat, 0 ≤ (fax 0 5 j).toInt ∧ (fax 0 5 j).toInt ≤ 1998 := fun j => by have h5 := hsz j; omega
  refine lv_aload_n hx hb dL_law_1046 rfl (lv_at hl 2 rfl) ?_
  refine lv_aload_n hx hb dL_law_1047 rfl (lv_at hl 3 rfl) ?_
  refine lv_iload_n hx hb dL_law_1048 rfl (lv_at hl 0 rfl) ?_
  refine lv_iconst (v := 1) hx hb dL_law_1049 (by decide) ?_
  refine lv_iadd hx hb dL_law_1050 ?_
  refine lv_topi (fun v1 ev1 => ?_)
  have tv1 := z_add ev1 (rfl : (i).toInt = _) (by decide : (1 : Int32).toInt = 1) (by omega) (by omega)
  refine va_sld hx hb hX hbl hbA hS (vp_in_iff.mpr ⟨by omega, by omega⟩ : vp_in v1 L) dL_law_1051 ?_
  refine lv_topi (fun v2 ev2 => ?_)
  refine vp_callSi (W.runV (As := [.int v2]) (rest := []) ⟨hx, hb, hml, hown, ht⟩ (c_X11_twist l dC dI x gx cax ivx lvx fax lax hIx v2) (kV 1 ht m_981 m_982 m_983 m_77 m_984 rfl rfl hd_X11_twist_v ⟨Nat.le_of_ble_eq_true rfl, Nat.le_of_ble_eq_true rfl⟩) (vR hPx hKx (rX_11 hKx hPx)) rfl rfl hl.1 rfl (lv_room (Nat.le_of_ble_eq_true rfl)) dL_law_1052 ⟨Nat.le_of_ble_eq_true rfl, Nat.le_of_ble_eq_true rfl⟩) (fun r3 hr3 => ?_)
  refine lv_pop hx hb dL_law_1055 rfl ?_
  refine lv_aload_n hx hb dL_law_1056 rfl (lv_at hl 1 rfl) ?_
  refine lv_aload_n hx hb dL_law_1057 rfl (lv_at hl 3 rfl) ?_
  refine lv_iload_n hx hb dL_law_1058 rfl (lv_at hl 0 rfl) ?_
  refine lv_iconst (v := 1) hx hb dL_law_1059 (by decide) ?_
  refine lv_iadd hx hb dL_law_1060 ?_
  refine lv_topi (fun v4 ev4 => ?_)
  have tv4 := z_add ev4 (rfl : (i).toInt = _) (by decide : (1 : Int32).toInt = 1) (by omega) (by omega)
  refine va_sld hx hb hX hbl hbA hS (vp_in_iff.mpr ⟨by omega, by omega⟩ : vp_in v4 L) dL_law_1061 ?_
  refine lv_topi (fun v5 ev5 => ?_)
  refine vp_callSi (W.runV (As := [.int v5]) (rest := []) ⟨hx, hb, hml, hown, ht⟩ (c_X12_twist l dC dI y gy cay ivy lvy fay lay hIy v5) (kV 1 ht m_1625 m_1626 m_1627 m_89 m_1628 rfl rfl hd_X12_twist_v ⟨Nat.le_of_ble_eq_true rfl, Nat.le_of_ble_eq_true rfl⟩) (vR hPy hKy (rM_12 hKy hPy)) rfl rfl hl.1 rfl (lv_room (Nat.le_of_ble_eq_true rfl)) dL_law_1062 ⟨Nat.le_of_ble_eq_true rfl, Nat.le_of_ble_eq_true rfl⟩) (fun r6 hr6 => ?_)
  refine lv_pop hx hb dL_law_1065 rfl ?_
  refine lv_goto (tgt := 1508) hx hb dL_law_1066 (by decide) ?_
  exact kk _ _ ivx lvx fax lax ivy lvy fay lay hIx hIy hJC hJR hJN hJO hq_bales ha_thread hz_thread hsz hPx hDx hPy hDy hS
