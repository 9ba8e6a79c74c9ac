/-! ===== law ===== -/
set_option maxRecDepth 100000 in
theorem m_989 : Cond.methodLink RL 123 yX11_burnt ∈ tb := tb_in 989 (by decide +kernel) rfl
set_option maxRecDepth 100000 in
theorem m_990 : Cond.instanceMethod yX11_burnt ∈ tb := tb_in 990 (by decide +kernel) rfl
set_option maxRecDepth 100000 in
theorem m_991 : Cond.selects RX11 yX11_burnt yX11_burnt ∈ tb := tb_in 991 (by decide +kernel) rfl
set_option maxRecDepth 100000 in
theorem m_992 : Cond.code yX11_burnt cX11_burnt 5 (some .int) ∈ tb := tb_in 992 rfl rfl
set_option maxRecDepth 100000 in
theorem m_993 : Cond.methodLink RL 128 yX11_cheat ∈ tb := tb_in 993 (by decide +kernel) rfl
set_option maxRecDepth 100000 in
theorem m_994 : Cond.instanceMethod yX11_cheat ∈ tb := tb_in 994 (by decide +kernel) rfl
set_option maxRecDepth 100000 in
theorem m_995 : Cond.selects RX11 yX11_cheat yX11_cheat ∈ tb := tb_in 995 (by decide +kernel) rfl
set_option maxRecDepth 100000 in
theorem m_996 : Cond.code yX11_cheat cX11_cheat 6 (some .int) ∈ tb := tb_in 996 rfl rfl
set_option maxRecDepth 100000 in
theorem m_1001 : Cond.methodLink RL 132 yX11_load ∈ tb := tb_in 1001 (by decide +kernel) rfl
set_option maxRecDepth 100000 in
theorem m_1002 : Cond.instanceMethod yX11_load ∈ tb := tb_in 1002 (by decide +kernel) rfl
set_option maxRecDepth 100000 in
theorem m_1003 : Cond.selects RX11 yX11_load yX11_load ∈ tb := tb_in 1003 (by decide +kernel) rfl
set_option maxRecDepth 100000 in
theorem m_1004 : Cond.code yX11_load cX11_load 2 (some .int) ∈ tb := tb_in 1004 rfl rfl
set_option maxRecDepth 100000 in
theorem m_1009 : Cond.methodLink RL 136 yX11_order ∈ tb := tb_in 1009 (by decide +kernel) rfl
set_option maxRecDepth 100000 in
theorem m_1010 : Cond.instanceMethod yX11_order ∈ tb := tb_in 1010 (by decide +kernel) rfl
set_option maxRecDepth 100000 in
theorem m_1011 : Cond.selects RX11 yX11_order yX11_order ∈ tb := tb_in 1011 (by decide +kernel) rfl
set_option maxRecDepth 100000 in
theorem m_1012 : Cond.code yX11_order cX11_order 3 (some .int) ∈ tb := tb_in 1012 rfl rfl
set_option maxRecDepth 100000 in
theorem m_1026 : Cond.methodLink RL 140 yX11_empty ∈ tb := tb_in 1026 (by decide +kernel) rfl
set_option maxRecDepth 100000 in
theorem m_1027 : Cond.instanceMethod yX11_empty ∈ tb := tb_in 1027 (by decide +kernel) rfl
set_option maxRecDepth 100000 in
theorem m_1028 : Cond.selects RX11 yX11_empty yX11_empty ∈ tb := tb_in 1028 (by decide +kernel) rfl
set_option maxRecDepth 100000 in
theorem m_1029 : Cond.code yX11_empty cX11_empty 1 (some .int) ∈ tb := tb_in 1029 rfl rfl
set_option maxRecDepth 100000 in
theorem m_1629 : Cond.methodLink RL 127 yX12_burnt ∈ tb := tb_in 1629 (by decide +kernel) rfl
set_option maxRecDepth 100000 in
theorem m_1630 : Cond.instanceMethod yX12_burnt ∈ tb := tb_in 1630 (by decide +kernel) rfl
set_option maxRecDepth 100000 in
theorem m_1631 : Cond.selects RX12 yX12_burnt yX12_burnt ∈ tb := tb_in 1631 (by decide +kernel) rfl
set_option maxRecDepth 100000 in
theorem m_1632 : Cond.code yX12_burnt cX12_burnt 5 (some .int) ∈ tb := tb_in 1632 rfl rfl
set_option maxRecDepth 100000 in
theorem m_1633 : Cond.methodLink RL 131 yX12_cheat ∈ tb := tb_in 1633 (by decide +kernel) rfl
set_option maxRecDepth 100000 in
theorem m_1634 : Cond.instanceMethod yX12_cheat ∈ tb := tb_in 1634 (by decide +kernel) rfl
set_option maxRecDepth 100000 in
theorem m_1635 : Cond.selects RX12 yX12_cheat yX12_cheat ∈ tb := tb_in 1635 (by decide +kernel) rfl
set_option maxRecDepth 100000 in
theorem m_1636 : Cond.code yX12_cheat cX12_cheat 7 (some .int) ∈ tb := tb_in 1636 rfl rfl
set_option maxRecDepth 100000 in
theorem m_1637 : Cond.methodLink RL 135 yX12_load ∈ tb := tb_in 1637 (by decide +kernel) rfl
set_option maxRecDepth 100000 in
theorem m_1638 : Cond.instanceMethod yX12_load ∈ tb := tb_in 1638 (by decide +kernel) rfl
set_option maxRecDepth 100000 in
theorem m_1639 : Cond.selects RX12 yX12_load yX12_load ∈ tb := tb_in 1639 (by decide +kernel) rfl
set_option maxRecDepth 100000 in
theorem m_1640 : Cond.code yX12_load cX12_load 2 (some .int) ∈ tb := tb_in 1640 rfl rfl
set_option maxRecDepth 100000 in
theorem m_1641 : Cond.methodLink RL 139 yX12_order ∈ tb := tb_in 1641 (by decide +kernel) rfl
set_option maxRecDepth 100000 in
theorem m_1642 : Cond.instanceMethod yX12_order ∈ tb := tb_in 1642 (by decide +kernel) rfl
set_option maxRecDepth 100000 in
theorem m_1643 : Cond.selects RX12 yX12_order yX12_order ∈ tb := tb_in 1643 (by decide +kernel) rfl
set_option maxRecDepth 100000 in
theorem m_1644 : Cond.code yX12_order cX12_order 3 (some .int) ∈ tb := tb_in 1644 rfl rfl
set_option maxRecDepth 100000 in
theorem m_1656 : Cond.methodLink RL 143 yX12_empty ∈ tb := tb_in 1656 (by decide +kernel) rfl
set_option maxRecDepth 100000 in
theorem m_1657 : Cond.instanceMethod yX12_empty ∈ tb := tb_in 1657 (by decide +kernel) rfl
set_option maxRecDepth 100000 in
theorem m_1658 : Cond.selects RX12 yX12_empty yX12_empty ∈ tb := tb_in 1658 (by decide +kernel) rfl
set_option maxRecDepth 100000 in
theorem m_1659 : Cond.code yX12_empty cX12_empty 2 (some .int) ∈ tb := tb_in 1659 rfl rfl
theorem hd_X11_burnt_v : yX11_burnt.cls = RX11 ∧ yX11_burnt.cls ≠ "java/lang/invoke/MethodHandle" ∧ yX11_burnt.cls ≠ "java/lang/invoke/VarHandle" ∧ (parseMethodDescriptor yX11_burnt.desc).map (fun d => d.parameters.length) = some 4 := by decide +kernel
theorem hd_X11_cheat_v : yX11_cheat.cls = RX11 ∧ yX11_cheat.cls ≠ "java/lang/invoke/MethodHandle" ∧ yX11_cheat.cls ≠ "java/lang/invoke/VarHandle" ∧ (parseMethodDescriptor yX11_cheat.desc).map (fun d => d.parameters.length) = some 4 := by decide +kernel
theorem hd_X11_empty_v : yX11_empty.cls = RX11 ∧ yX11_empty.cls ≠ "java/lang/invoke/MethodHandle" ∧ yX11_empty.cls ≠ "java/lang/invoke/VarHandle" ∧ (parseMethodDescriptor yX11_empty.desc).map (fun d => d.parameters.length) = some 0 := by decide +kernel
theorem hd_X11_load_v : yX11_load.cls = RX11 ∧ yX11_load.cls ≠ "java/lang/invoke/MethodHandle" ∧ yX11_load.cls ≠ "java/lang/invoke/VarHandle" ∧ (parseMethodDescriptor yX11_load.desc).map (fun d => d.parameters.length) = some 1 := by decide +kernel
theorem hd_X11_order_v : yX11_order.cls = RX11 ∧ yX11_order.cls ≠ "java/lang/invoke/MethodHandle" ∧ yX11_order.cls ≠ "java/lang/invoke/VarHandle" ∧ (parseMethodDescriptor yX11_order.desc).map (fun d => d.parameters.length) = some 2 := by decide +kernel
theorem hd_X12_burnt_v : yX12_burnt.cls = RX12 ∧ yX12_burnt.cls ≠ "java/lang/invoke/MethodHandle" ∧ yX12_burnt.cls ≠ "java/lang/invoke/VarHandle" ∧ (parseMethodDescriptor yX12_burnt.desc).map (fun d => d.parameters.length) = some 4 := by decide +kernel
theorem hd_X12_cheat_v : yX12_cheat.cls = RX12 ∧ yX12_cheat.cls ≠ "java/lang/invoke/MethodHandle" ∧ yX12_cheat.cls ≠ "java/lang/invoke/VarHandle" ∧ (parseMethodDescriptor yX12_cheat.desc).map (fun d => d.parameters.length) = some 4 := by decide +kernel
theorem hd_X12_empty_v : yX12_empty.cls = RX12 ∧ yX12_empty.cls ≠ "java/lang/invoke/MethodHandle" ∧ yX12_empty.cls ≠ "java/lang/invoke/VarHandle" ∧ (parseMethodDescriptor yX12_empty.desc).map (fun d => d.parameters.length) = some 0 := by decide +kernel
theorem hd_X12_load_v : yX12_load.cls = RX12 ∧ yX12_load.cls ≠ "java/lang/invoke/MethodHandle" ∧ yX12_load.cls ≠ "java/lang/invoke/VarHandle" ∧ (parseMethodDescriptor yX12_load.desc).map (fun d => d.parameters.length) = some 1 := by decide +kernel
theorem hd_X12_order_v : yX12_order.cls = RX12 ∧ yX12_order.cls ≠ "java/lang/invoke/MethodHandle" ∧ yX12_order.cls ≠ "java/lang/invoke/VarHandle" ∧ (parseMethodDescriptor yX12_order.desc).map (fun d => d.parameters.length) = some 2 := by decide +kernel
set_option maxRecDepth 100000 in
theorem dvL_law_1069 : ([(1069, .aload_n 1, 1), (1070, .aload_n 0, 1), (1071, .iload_n 3, 1), (1072, .iconst 1, 1), (1073, .iadd, 1), (1074, .iaload, 1), (1075, .aload_n 0, 1), (1076, .iload_n 3, 1), (1077, .iconst 2, 1), (1078, .iadd, 1), (1079, .iaload, 1), (1080, .aload_n 0, 1), (1081, .iload_n 3, 1), (1082, .iconst 3, 1), (1083, .iadd, 1), (1084, .iaload, 1), (1085, .aload_n 0, 1), (1086, .iload_n 3, 1), (1087, .iconst 4, 1), (1088, .iadd, 1), (1089, .iaload, 1), (1090, .invokevirtual 123, 3), (1093, .pop, 1), (1094, .aload_n 2, 1)] : List (Nat × Instr × Nat)).all (fun q => decide (decode cL_law q.1 = .ok (q.2.1, q.2.2))) = true := by decide +kernel
theorem dL_law_1069 : decode cL_law 1069 = .ok (.aload_n 1, 1) := all_at dvL_law_1069 0 rfl
theorem dL_law_1070 : decode cL_law 1070 = .ok (.aload_n 0, 1) := all_at dvL_law_1069 1 rfl
theorem dL_law_1071 : decode cL_law 1071 = .ok (.iload_n 3, 1) := all_at dvL_law_1069 2 rfl
theorem dL_law_1072 : decode cL_law 1072 = .ok (.iconst 1, 1) := all_at dvL_law_1069 3 rfl
theorem dL_law_1073 : decode cL_law 1073 = .ok (.iadd, 1) := all_at dvL_law_1069 4 rfl
theorem dL_law_1074 : decode cL_law 1074 = .ok (.iaload, 1) := all_at dvL_law_1069 5 rfl
theorem dL_law_1075 : decode cL_law 1075 = .ok (.aload_n 0, 1) := all_at dvL_law_1069 6 rfl
theorem dL_law_1076 : decode cL_law 1076 = .ok (.iload_n 3, 1) := all_at dvL_law_1069 7 rfl
theorem dL_law_1077 : decode cL_law 1077 = .ok (.iconst 2, 1) := all_at dvL_law_1069 8 rfl
theorem dL_law_1078 : decode cL_law 1078 = .ok (.iadd, 1) := all_at dvL_law_1069 9 rfl
theorem dL_law_1079 : decode cL_law 1079 = .ok (.iaload, 1) := all_at dvL_law_1069 10 rfl
theorem dL_law_1080 : decode cL_law 1080 = .ok (.aload_n 0, 1) := all_at dvL_law_1069 11 rfl
theorem dL_law_1081 : decode cL_law 1081 = .ok (.iload_n 3, 1) := all_at dvL_law_1069 12 rfl
theorem dL_law_1082 : decode cL_law 1082 = .ok (.iconst 3, 1) := all_at dvL_law_1069 13 rfl
theorem dL_law_1083 : decode cL_law 1083 = .ok (.iadd, 1) := all_at dvL_law_1069 14 rfl
theorem dL_law_1084 : decode cL_law 1084 = .ok (.iaload, 1) := all_at dvL_law_1069 15 rfl
theorem dL_law_1085 : decode cL_law 1085 = .ok (.aload_n 0, 1) := all_at dvL_law_1069 16 rfl
theorem dL_law_1086 : decode cL_law 1086 = .ok (.iload_n 3, 1) := all_at dvL_law_1069 17 rfl
theorem dL_law_1087 : decode cL_law 1087 = .ok (.iconst 4, 1) := all_at dvL_law_1069 18 rfl
theorem dL_law_1088 : decode cL_law 1088 = .ok (.iadd, 1) := all_at dvL_law_1069 19 rfl
theorem dL_law_1089 : decode cL_law 1089 = .ok (.iaload, 1) := all_at dvL_law_1069 20 rfl
theorem dL_law_1090 : decode cL_law 1090 = .ok (.invokevirtual 123, 3) := all_at dvL_law_1069 21 rfl
theorem dL_law_1093 : decode cL_law 1093 = .ok (.pop, 1) := all_at dvL_law_1069 22 rfl
theorem dL_law_1094 : decode cL_law 1094 = .ok (.aload_n 2, 1) := all_at dvL_law_1069 23 rfl
set_option maxRecDepth 100000 in
theorem dvL_law_1095 : ([(1095, .aload_n 0, 1), (1096, .iload_n 3, 1), (1097, .iconst 1, 1), (1098, .iadd, 1), (1099, .iaload, 1), (1100, .aload_n 0, 1), (1101, .iload_n 3, 1), (1102, .iconst 2, 1), (1103, .iadd, 1), (1104, .iaload, 1), (1105, .aload_n 0, 1), (1106, .iload_n 3, 1), (1107, .iconst 3, 1), (1108, .iadd, 1), (1109, .iaload, 1), (1110, .aload_n 0, 1), (1111, .iload_n 3, 1), (1112, .iconst 4, 1), (1113, .iadd, 1), (1114, .iaload, 1), (1115, .invokevirtual 127, 3), (1118, .pop, 1), (1119, .goto 389, 3), (1122, .aload_n 1, 1)] : List (Nat × Instr × Nat)).all (fun q => decide (decode cL_law q.1 = .ok (q.2.1, q.2.2))) = true := by decide +kernel
theorem dL_law_1095 : decode cL_law 1095 = .ok (.aload_n 0, 1) := all_at dvL_law_1095 0 rfl
theorem dL_law_1096 : decode cL_law 1096 = .ok (.iload_n 3, 1) := all_at dvL_law_1095 1 rfl
theorem dL_law_1097 : decode cL_law 1097 = .ok (.iconst 1, 1) := all_at dvL_law_1095 2 rfl
theorem dL_law_1098 : decode cL_law 1098 = .ok (.iadd, 1) := all_at dvL_law_1095 3 rfl
theorem dL_law_1099 : decode cL_law 1099 = .ok (.iaload, 1) := all_at dvL_law_1095 4 rfl
theorem dL_law_1100 : decode cL_law 1100 = .ok (.aload_n 0, 1) := all_at dvL_law_1095 5 rfl
theorem dL_law_1101 : decode cL_law 1101 = .ok (.iload_n 3, 1) := all_at dvL_law_1095 6 rfl
theorem dL_law_1102 : decode cL_law 1102 = .ok (.iconst 2, 1) := all_at dvL_law_1095 7 rfl
theorem dL_law_1103 : decode cL_law 1103 = .ok (.iadd, 1) := all_at dvL_law_1095 8 rfl
theorem dL_law_1104 : decode cL_law 1104 = .ok (.iaload, 1) := all_at dvL_law_1095 9 rfl
theorem dL_law_1105 : decode cL_law 1105 = .ok (.aload_n 0, 1) := all_at dvL_law_1095 10 rfl
theorem dL_law_1106 : decode cL_law 1106 = .ok (.iload_n 3, 1) := all_at dvL_law_1095 11 rfl
theorem dL_law_1107 : decode cL_law 1107 = .ok (.iconst 3, 1) := all_at dvL_law_1095 12 rfl
theorem dL_law_1108 : decode cL_law 1108 = .ok (.iadd, 1) := all_at dvL_law_1095 13 rfl
theorem dL_law_1109 : decode cL_law 1109 = .ok (.iaload, 1) := all_at dvL_law_1095 14 rfl
theorem dL_law_1110 : decode cL_law 1110 = .ok (.aload_n 0, 1) := all_at dvL_law_1095 15 rfl
theorem dL_law_1111 : decode cL_law 1111 = .ok (.iload_n 3, 1) := all_at dvL_law_1095 16 rfl
theorem dL_law_1112 : decode cL_law 1112 = .ok (.iconst 4, 1) := all_at dvL_law_1095 17 rfl
theorem dL_law_1113 : decode cL_law 1113 = .ok (.iadd, 1) := all_at dvL_law_1095 18 rfl
theorem dL_law_1114 : decode cL_law 1114 = .ok (.iaload, 1) := all_at dvL_law_1095 19 rfl
theorem dL_law_1115 : decode cL_law 1115 = .ok (.invokevirtual 127, 3) := all_at dvL_law_1095 20 rfl
theorem dL_law_1118 : decode cL_law 1118 = .ok (.pop, 1) := all_at dvL_law_1095 21 rfl
theorem dL_law_1119 : decode cL_law 1119 = .ok (.goto 389, 3) := all_at dvL_law_1095 22 rfl
theorem dL_law_1122 : decode cL_law 1122 = .ok (.aload_n 1, 1) := all_at dvL_law_1095 23 rfl
set_option maxRecDepth 100000 in
theorem dvL_law_1123 : ([(1123, .aload_n 0, 1), (1124, .iload_n 3, 1), (1125, .iconst 1, 1), (1126, .iadd, 1), (1127, .iaload, 1), (1128, .aload_n 0, 1), (1129, .iload_n 3, 1), (1130, .iconst 2, 1), (1131, .iadd, 1), (1132, .iaload, 1), (1133, .aload_n 0, 1), (1134, .iload_n 3, 1), (1135, .iconst 3, 1), (1136, .iadd, 1), (1137, .iaload, 1), (1138, .aload_n 0, 1), (1139, .iload_n 3, 1), (1140, .iconst 4, 1), (1141, .iadd, 1), (1142, .iaload, 1), (1143, .invokevirtual 128, 3), (1146, .pop, 1), (1147, .aload_n 2, 1), (1148, .aload_n 0, 1)] : List (Nat × Instr × Nat)).all (fun q => decide (decode cL_law q.1 = .ok (q.2.1, q.2.2))) = true := by decide +kernel
theorem dL_law_1123 : decode cL_law 1123 = .ok (.aload_n 0, 1) := all_at dvL_law_1123 0 rfl
theorem dL_law_1124 : decode cL_law 1124 = .ok (.iload_n 3, 1) := all_at dvL_law_1123 1 rfl
theorem dL_law_1125 : decode cL_law 1125 = .ok (.iconst 1, 1) := all_at dvL_law_1123 2 rfl
theorem dL_law_1126 : decode cL_law 1126 = .ok (.iadd, 1) := all_at dvL_law_1123 3 rfl
theorem dL_law_1127 : decode cL_law 1127 = .ok (.iaload, 1) := all_at dvL_law_1123 4 rfl
theorem dL_law_1128 : decode cL_law 1128 = .ok (.aload_n 0, 1) := all_at dvL_law_1123 5 rfl
theorem dL_law_1129 : decode cL_law 1129 = .ok (.iload_n 3, 1) := all_at dvL_law_1123 6 rfl
theorem dL_law_1130 : decode cL_law 1130 = .ok (.iconst 2, 1) := all_at dvL_law_1123 7 rfl
theorem dL_law_1131 : decode cL_law 1131 = .ok (.iadd, 1) := all_at dvL_law_1123 8 rfl
theorem dL_law_1132 : decode cL_law 1132 = .ok (.iaload, 1) := all_at dvL_law_1123 9 rfl
theorem dL_law_1133 : decode cL_law 1133 = .ok (.aload_n 0, 1) := all_at dvL_law_1123 10 rfl
theorem dL_law_1134 : decode cL_law 1134 = .ok (.iload_n 3, 1) := all_at dvL_law_1123 11 rfl
theorem dL_law_1135 : decode cL_law 1135 = .ok (.iconst 3, 1) := all_at dvL_law_1123 12 rfl
theorem dL_law_1136 : decode cL_law 1136 = .ok (.iadd, 1) := all_at dvL_law_1123 13 rfl
theorem dL_law_1137 : decode cL_law 1137 = .ok (.iaload, 1) := all_at dvL_law_1123 14 rfl
theorem dL_law_1138 : decode cL_law 1138 = .ok (.aload_n 0, 1) := all_at dvL_law_1123 15 rfl
theorem dL_law_1139 : decode cL_law 1139 = .ok (.iload_n 3, 1) := all_at dvL_law_1123 16 rfl
theorem dL_law_1140 : decode cL_law 1140 = .ok (.iconst 4, 1) := all_at dvL_law_1123 17 rfl
theorem dL_law_1141 : decode cL_law 1141 = .ok (.iadd, 1) := all_at dvL_law_1123 18 rfl
theorem dL_law_1142 : decode cL_law 1142 = .ok (.iaload, 1) := all_at dvL_law_1123 19 rfl
theorem dL_law_1143 : decode cL_law 1143 = .ok (.invokevirtual 128, 3) := all_at dvL_law_1123 20 rfl
theorem dL_law_1146 : decode cL_law 1146 = .ok (.pop, 1) := all_at dvL_law_1123 21 rfl
theorem dL_law_1147 : decode cL_law 1147 = .ok (.aload_n 2, 1) := all_at dvL_law_1123 22 rfl
theorem dL_law_1148 : decode cL_law 1148 = .ok (.aload_n 0, 1) := all_at dvL_law_1123 23 rfl
set_option maxRecDepth 100000 in
theorem dvL_law_1149 : ([(1149, .iload_n 3, 1), (1150, .iconst 1, 1), (1151, .iadd, 1), (1152, .iaload, 1), (1153, .aload_n 0, 1), (1154, .iload_n 3, 1), (1155, .iconst 2, 1), (1156, .iadd, 1), (1157, .iaload, 1), (1158, .aload_n 0, 1), (1159, .iload_n 3, 1), (1160, .iconst 3, 1), (1161, .iadd, 1), (1162, .iaload, 1), (1163, .aload_n 0, 1), (1164, .iload_n 3, 1), (1165, .iconst 4, 1), (1166, .iadd, 1), (1167, .iaload, 1), (1168, .invokevirtual 131, 3), (1171, .pop, 1), (1172, .goto 336, 3), (1175, .aload_n 1, 1), (1176, .aload_n 0, 1)] : List (Nat × Instr × Nat)).all (fun q => decide (decode cL_law q.1 = .ok (q.2.1, q.2.2))) = true := by decide +kernel
theorem dL_law_1149 : decode cL_law 1149 = .ok (.iload_n 3, 1) := all_at dvL_law_1149 0 rfl
theorem dL_law_1150 : decode cL_law 1150 = .ok (.iconst 1, 1) := all_at dvL_law_1149 1 rfl
theorem dL_law_1151 : decode cL_law 1151 = .ok (.iadd, 1) := all_at dvL_law_1149 2 rfl
theorem dL_law_1152 : decode cL_law 1152 = .ok (.iaload, 1) := all_at dvL_law_1149 3 rfl
theorem dL_law_1153 : decode cL_law 1153 = .ok (.aload_n 0, 1) := all_at dvL_law_1149 4 rfl
theorem dL_law_1154 : decode cL_law 1154 = .ok (.iload_n 3, 1) := all_at dvL_law_1149 5 rfl
theorem dL_law_1155 : decode cL_law 1155 = .ok (.iconst 2, 1) := all_at dvL_law_1149 6 rfl
theorem dL_law_1156 : decode cL_law 1156 = .ok (.iadd, 1) := all_at dvL_law_1149 7 rfl
theorem dL_law_1157 : decode cL_law 1157 = .ok (.iaload, 1) := all_at dvL_law_1149 8 rfl
theorem dL_law_1158 : decode cL_law 1158 = .ok (.aload_n 0, 1) := all_at dvL_law_1149 9 rfl
theorem dL_law_1159 : decode cL_law 1159 = .ok (.iload_n 3, 1) := all_at dvL_law_1149 10 rfl
theorem dL_law_1160 : decode cL_law 1160 = .ok (.iconst 3, 1) := all_at dvL_law_1149 11 rfl
theorem dL_law_1161 : decode cL_law 1161 = .ok (.iadd, 1) := all_at dvL_law_1149 12 rfl
theorem dL_law_1162 : decode cL_law 1162 = .ok (.iaload, 1) := all_at dvL_law_1149 13 rfl
theorem dL_law_1163 : decode cL_law 1163 = .ok (.aload_n 0, 1) := all_at dvL_law_1149 14 rfl
theorem dL_law_1164 : decode cL_law 1164 = .ok (.iload_n 3, 1) := all_at dvL_law_1149 15 rfl
theorem dL_law_1165 : decode cL_law 1165 = .ok (.iconst 4, 1) := all_at dvL_law_1149 16 rfl
theorem dL_law_1166 : decode cL_law 1166 = .ok (.iadd, 1) := all_at dvL_law_1149 17 rfl
theorem dL_law_1167 : decode cL_law 1167 = .ok (.iaload, 1) := all_at dvL_law_1149 18 rfl
theorem dL_law_1168 : decode cL_law 1168 = .ok (.invokevirtual 131, 3) := all_at dvL_law_1149 19 rfl
theorem dL_law_1171 : decode cL_law 1171 = .ok (.pop, 1) := all_at dvL_law_1149 20 rfl
theorem dL_law_1172 : decode cL_law 1172 = .ok (.goto 336, 3) := all_at dvL_law_1149 21 rfl
theorem dL_law_1175 : decode cL_law 1175 = .ok (.aload_n 1, 1) := all_at dvL_law_1149 22 rfl
theorem dL_law_1176 : decode cL_law 1176 = .ok (.aload_n 0, 1) := all_at dvL_law_1149 23 rfl
set_option maxRecDepth 100000 in
theorem dvL_law_1177 : ([(1177, .iload_n 3, 1), (1178, .iconst 1, 1), (1179, .iadd, 1), (1180, .iaload, 1), (1181, .invokevirtual 132, 3), (1184, .pop, 1), (1185, .aload_n 2, 1), (1186, .aload_n 0, 1), (1187, .iload_n 3, 1), (1188, .iconst 1, 1), (1189, .iadd, 1), (1190, .iaload, 1), (1191, .invokevirtual 135, 3), (1194, .pop, 1), (1195, .goto 313, 3), (1198, .aload_n 1, 1), (1199, .aload_n 0, 1), (1200, .iload_n 3, 1), (1201, .iconst 1, 1), (1202, .iadd, 1), (1203, .iaload, 1), (1204, .aload_n 0, 1), (1205, .iload_n 3, 1), (1206, .iconst 2, 1)] : List (Nat × Instr × Nat)).all (fun q => decide (decode cL_law q.1 = .ok (q.2.1, q.2.2))) = true := by decide +kernel
theorem dL_law_1177 : decode cL_law 1177 = .ok (.iload_n 3, 1) := all_at dvL_law_1177 0 rfl
theorem dL_law_1178 : decode cL_law 1178 = .ok (.iconst 1, 1) := all_at dvL_law_1177 1 rfl
theorem dL_law_1179 : decode cL_law 1179 = .ok (.iadd, 1) := all_at dvL_law_1177 2 rfl
theorem dL_law_1180 : decode cL_law 1180 = .ok (.iaload, 1) := all_at dvL_law_1177 3 rfl
theorem dL_law_1181 : decode cL_law 1181 = .ok (.invokevirtual 132, 3) := all_at dvL_law_1177 4 rfl
theorem dL_law_1184 : decode cL_law 1184 = .ok (.pop, 1) := all_at dvL_law_1177 5 rfl
theorem dL_law_1185 : decode cL_law 1185 = .ok (.aload_n 2, 1) := all_at dvL_law_1177 6 rfl
theorem dL_law_1186 : decode cL_law 1186 = .ok (.aload_n 0, 1) := all_at dvL_law_1177 7 rfl
theorem dL_law_1187 : decode cL_law 1187 = .ok (.iload_n 3, 1) := all_at dvL_law_1177 8 rfl
theorem dL_law_1188 : decode cL_law 1188 = .ok (.iconst 1, 1) := all_at dvL_law_1177 9 rfl
theorem dL_law_1189 : decode cL_law 1189 = .ok (.iadd, 1) := all_at dvL_law_1177 10 rfl
theorem dL_law_1190 : decode cL_law 1190 = .ok (.iaload, 1) := all_at dvL_law_1177 11 rfl
theorem dL_law_1191 : decode cL_law 1191 = .ok (.invokevirtual 135, 3) := all_at dvL_law_1177 12 rfl
theorem dL_law_1194 : decode cL_law 1194 = .ok (.pop, 1) := all_at dvL_law_1177 13 rfl
theorem dL_law_1195 : decode cL_law 1195 = .ok (.goto 313, 3) := all_at dvL_law_1177 14 rfl
theorem dL_law_1198 : decode cL_law 1198 = .ok (.aload_n 1, 1) := all_at dvL_law_1177 15 rfl
theorem dL_law_1199 : decode cL_law 1199 = .ok (.aload_n 0, 1) := all_at dvL_law_1177 16 rfl
theorem dL_law_1200 : decode cL_law 1200 = .ok (.iload_n 3, 1) := all_at dvL_law_1177 17 rfl
theorem dL_law_1201 : decode cL_law 1201 = .ok (.iconst 1, 1) := all_at dvL_law_1177 18 rfl
theorem dL_law_1202 : decode cL_law 1202 = .ok (.iadd, 1) := all_at dvL_law_1177 19 rfl
theorem dL_law_1203 : decode cL_law 1203 = .ok (.iaload, 1) := all_at dvL_law_1177 20 rfl
theorem dL_law_1204 : decode cL_law 1204 = .ok (.aload_n 0, 1) := all_at dvL_law_1177 21 rfl
theorem dL_law_1205 : decode cL_law 1205 = .ok (.iload_n 3, 1) := all_at dvL_law_1177 22 rfl
theorem dL_law_1206 : decode cL_law 1206 = .ok (.iconst 2, 1) := all_at dvL_law_1177 23 rfl
set_option maxRecDepth 100000 in
theorem dvL_law_1207 : ([(1207, .iadd, 1), (1208, .iaload, 1), (1209, .invokevirtual 136, 3), (1212, .pop, 1), (1213, .aload_n 2, 1), (1214, .aload_n 0, 1), (1215, .iload_n 3, 1), (1216, .iconst 1, 1), (1217, .iadd, 1), (1218, .iaload, 1), (1219, .aload_n 0, 1), (1220, .iload_n 3, 1), (1221, .iconst 2, 1), (1222, .iadd, 1), (1223, .iaload, 1), (1224, .invokevirtual 139, 3), (1227, .pop, 1), (1228, .goto 280, 3), (1231, .aload_n 1, 1), (1232, .invokevirtual 140, 3), (1235, .pop, 1), (1236, .aload_n 2, 1), (1237, .invokevirtual 143, 3), (1240, .pop, 1)] : List (Nat × Instr × Nat)).all (fun q => decide (decode cL_law q.1 = .ok (q.2.1, q.2.2))) = true := by decide +kernel
theorem dL_law_1207 : decode cL_law 1207 = .ok (.iadd, 1) := all_at dvL_law_1207 0 rfl
theorem dL_law_1208 : decode cL_law 1208 = .ok (.iaload, 1) := all_at dvL_law_1207 1 rfl
theorem dL_law_1209 : decode cL_law 1209 = .ok (.invokevirtual 136, 3) := all_at dvL_law_1207 2 rfl
theorem dL_law_1212 : decode cL_law 1212 = .ok (.pop, 1) := all_at dvL_law_1207 3 rfl
theorem dL_law_1213 : decode cL_law 1213 = .ok (.aload_n 2, 1) := all_at dvL_law_1207 4 rfl
theorem dL_law_1214 : decode cL_law 1214 = .ok (.aload_n 0, 1) := all_at dvL_law_1207 5 rfl
theorem dL_law_1215 : decode cL_law 1215 = .ok (.iload_n 3, 1) := all_at dvL_law_1207 6 rfl
theorem dL_law_1216 : decode cL_law 1216 = .ok (.iconst 1, 1) := all_at dvL_law_1207 7 rfl
theorem dL_law_1217 : decode cL_law 1217 = .ok (.iadd, 1) := all_at dvL_law_1207 8 rfl
theorem dL_law_1218 : decode cL_law 1218 = .ok (.iaload, 1) := all_at dvL_law_1207 9 rfl
theorem dL_law_1219 : decode cL_law 1219 = .ok (.aload_n 0, 1) := all_at dvL_law_1207 10 rfl
theorem dL_law_1220 : decode cL_law 1220 = .ok (.iload_n 3, 1) := all_at dvL_law_1207 11 rfl
theorem dL_law_1221 : decode cL_law 1221 = .ok (.iconst 2, 1) := all_at dvL_law_1207 12 rfl
theorem dL_law_1222 : decode cL_law 1222 = .ok (.iadd, 1) := all_at dvL_law_1207 13 rfl
theorem dL_law_1223 : decode cL_law 1223 = .ok (.iaload, 1) := all_at dvL_law_1207 14 rfl
theorem dL_law_1224 : decode cL_law 1224 = .ok (.invokevirtual 139, 3) := all_at dvL_law_1207 15 rfl
theorem dL_law_1227 : decode cL_law 1227 = .ok (.pop, 1) := all_at dvL_law_1207 16 rfl
theorem dL_law_1228 : decode cL_law 1228 = .ok (.goto 280, 3) := all_at dvL_law_1207 17 rfl
theorem dL_law_1231 : decode cL_law 1231 = .ok (.aload_n 1, 1) := all_at dvL_law_1207 18 rfl
theorem dL_law_1232 : decode cL_law 1232 = .ok (.invokevirtual 140, 3) := all_at dvL_law_1207 19 rfl
theorem dL_law_1235 : decode cL_law 1235 = .ok (.pop, 1) := all_at dvL_law_1207 20 rfl
theorem dL_law_1236 : decode cL_law 1236 = .ok (.aload_n 2, 1) := all_at dvL_law_1207 21 rfl
theorem dL_law_1237 : decode cL_law 1237 = .ok (.invokevirtual 143, 3) := all_at dvL_law_1207 22 rfl
theorem dL_law_1240 : decode cL_law 1240 = .ok (.pop, 1) := all_at dvL_law_1207 23 rfl
theorem dL_law_1241 : decode cL_law 1241 = .ok (.goto 267, 3) := by decide +kernel
set_option maxHeartbeats 4000000 in
set_option maxRecDepth 100000 in
theorem law_25 {p : Program} {e : Env} {s : State} {m : MethodId} {below : List Frame} {meth : Method} {c : Code} (l : Launch) {b L : Nat} {xs : Nat → Int32} (hL : L ≤ 4096) (C0 : lw_At p s m meth c b L xs) {dC : Nat → ClassId} {dI : Nat → Nat → Nat} {A : Nat → Prop} (hA : ∀ q : Nat, s.heap.size ≤ q → A q) (hbA : ¬ A b) (hAs : ∀ q : Nat, A q → s.heap.size ≤ q) {x y : Nat} {gx gy : Nat → Nat → Nat} {cax cay : Nat → Nat → ClassId} {ak av : Nat → Nat} (hKx : va_K (dC, dI) classes (TX cax) s) (hKy : va_K (dC, dI) classes (TM cay) s) (hXY : ∀ a ∈ AdX x gx, ∀ b ∈ AdM y gy, a ≠ b) (hZ : zC ak av A s s.heap) {H : Heap} {locs : List Loc} {ivx : Nat → Nat → Int32} {lvx : Nat → Nat → Int64} {fax : Nat → Nat → Nat → Int32} {lax : Nat → Nat → Nat → Int64} {ivy : Nat → Nat → Int32} {lvy : Nat → Nat → Int64} {fay : Nat → Nat → Nat → Int32} {lay : Nat → Nat → Nat → Int64} (hIx : IX ivx fax) (hIy : IX ivy fay) (hJC : JCf (ivy 12 23).toInt (fay 12 25) (fay 12 26) (fay 12 27) (fay 12 28)) (hJR : JRf (ivy 12 3).toInt (fay 12 7)) (hJN : JNf (ivy 12 3).toInt (fay 12 4) (fay 12 5)) (hJO : ((ivy 12 20).toInt = -1 ∧ (ivy 12 21).toInt = -1 ∧ (ivy 12 22).toInt = -1)) (hq_now : ivx 11 10 = ivy 12 0) (hq_bales : ivx 0 7 = ivy 12 1) (hq_skeins : ivx 10 1 = ivy 12 3) (hq_rules : ivx 1 7 = ivy 12 23) (hq_text : ivx 8 2 = ivy 12 33) (hq_place : ivx 8 3 = ivy 12 36) (hrs : (∀ s : Nat, (s : Int) < (ivy 12 3).toInt → fax 10 0 (9 * s + 0) = fay 12 4 s ∧ fax 10 0 (9 * s + 1) = fay 12 5 s ∧ fax 10 0 (9 * s + 2) = fay 12 6 s ∧ fax 10 0 (9 * s + 3) = fay 12 7 s ∧ fax 10 0 (9 * s + 4) = fay 12 8 s ∧ fax 10 0 (9 * s + 5) = fay 12 9 s ∧ fax 10 0 (9 * s + 6) = fay 12 10 s ∧ fax 10 0 (9 * s + 7) = fay 12 11 s ∧ fax 10 0 (9 * s + 8) = fay 12 12 s)) (hls : (∀ j : Nat, -1 ≤ (fay 12 12 j).toInt)) (htx : (∀ j : Nat, (fax 8 1 j).toInt = sg (fay 12 32 j).toInt ∧ 0 ≤ (fay 12 32 j).toInt)) (hbk : BkE (ivy 12 23).toInt (fax 1 0) (fax 1 1) (fax 1 2) (fax 1 3) (fax 1 4) (fax 1 5) (fay 12 24) (fay 12 25) (fay 12 26) (fay 12 27) (fay 12 28) (fay 12 29) (fay 12 30) (fay 12 31)) (hPx : va_P (dC, dI) classes (WX x gx cax ivx lvx fax lax) H) (hDx : va_D A (WX x gx cax ivx lvx fax lax)) (hPy : va_P (dC, dI) classes (WM y gy cay ivy lvy fay lay) H) (hDy : va_D A (WM y gy cay ivy lvy fay lay)) (hS : va_S A s.heap H locs) {i : Int32} {ls : Array Slot} (hl : lv_has ls 4 [(3, .int i), (2, .ref y), (1, .ref x), (0, .ref b)]) (hi : 0 ≤ i.toInt ∧ i.toInt ≤ 4088) (hi8 : i.toInt + 8 ≤ (L : Int)) (kk : ∀ (H : Heap) (locs : List Loc) (ivx : Nat → Nat → Int32) (lvx : Nat → Nat → Int64) (fax : Nat → Nat → Nat → Int32) (lax : Nat → Nat → Nat → Int64) (ivy : Nat → Nat → Int32) (lvy : Nat → Nat → Int64) (fay : Nat → Nat → Nat → Int32) (lay : Nat → Nat → Nat → Int64), IX ivx fax → IX ivy fay → JCf (ivy 12 23).toInt (fay 12 25) (fay 12 26) (fay 12 27) (fay 12 28) → JRf (ivy 12 3).toInt (fay 12 7) → JNf (ivy 12 3).toInt (fay 12 4) (fay 12 5) → ((ivy 12 20).toInt = -1 ∧ (ivy 12 21).toInt = -1 ∧ (ivy 12 22).toInt = -1) → ivx 11 10 = ivy 12 0 → ivx 0 7 = ivy 12 1 → ivx 10 1 = ivy 12 3 → ivx 1 7 = ivy 12 23 → ivx 8 2 = ivy 12 33 → ivx 8 3 = ivy 12 36 → (∀ s : Nat, (s : Int) < (ivy 12 3).toInt → fax 10 0 (9 * s + 0) = fay 12 4 s ∧ fax 10 0 (9 * s + 1) = fay 12 5 s ∧ fax 10 0 (9 * s + 2) = fay 12 6 s ∧ fax 10 0 (9 * s + 3) = fay 12 7 s ∧ fax 10 0 (9 * s + 4) = fay 12 8 s ∧ fax 10 0 (9 * s + 5) = fay 12 9 s ∧ fax 10 0 (9 * s + 6) = fay 12 10 s ∧ fax 10 0 (9 * s + 7) = fay 12 11 s ∧ fax 10 0 (9 * s + 8) = fay 12 12 s) → (∀ j : Nat, -1 ≤ (fay 12 12 j).toInt) → (∀ j : Nat, (fax 8 1 j).toInt = sg (fay 12 32 j).toInt ∧ 0 ≤ (fay 12 32 j).toInt) → BkE (ivy 12 23).toInt (fax 1 0) (fax 1 1) (fax 1 2) (fax 1 3) (fax 1 4) (fax 1 5) (fay 12 24) (fay 12 25) (fay 12 26) (fay 12 27) (fay 12 28) (fay 12 29) (fay 12 30) (fay 12 31) → va_P (dC, dI) classes (WX x gx cax ivx lvx fax lax) H → va_D A (WX x gx cax ivx lvx fax lax) → va_P (dC, dI) classes (WM y gy cay ivy lvy fay lay) H → va_D A (WM y gy cay ivy lvy fay lay) → va_S A s.heap H locs → W p l e room_1 s m #[Value.ref b] below meth c H locs 98 5431 (lw_Z below #[Value.ref b] s) (F0 m 1508 ls [])) : W p l e room_1 s m #[Value.ref b] below meth c H locs 98 5431 (lw_Z below #[Value.ref b] s) (F0 m 1069 ls []) := by
  obtain ⟨hx, hb, hr, hml, hown, hts, hX, hbl, hlocks, hgv⟩ := id C0
  have ht := tb_of hts
  have hw8r := congrArg Int32.toInt hq_rules
  have hJB : ∀ j : Nat, (j : Int) < (ivx 1 7).toInt → 0 ≤ (fax 1 0 j).toInt := fun j hj => (hbk j (by omega)).2.2.1
  have hJK : ∀ k j : Nat, (k : Int) < (ivy 12 23).toInt → 12 * k ≤ j → (j : Int) < 12 * (k : Int) + (fay 12 25 k).toInt → (fay 12 26 j).toInt = 3 → 0 ≤ (fay 12 28 j).toInt ∧ (fay 12 28 j).toInt < (k : Int) := bk_K hbk
  have hJT : ∀ j : Nat, 0 ≤ (fay 12 32 j).toInt := fun j => (htx j).2
  refine lv_aload_n hx hb dL_law_1069 rfl (lv_at hl 2 rfl) ?_
  refine lv_aload_n hx hb dL_law_1070 rfl (lv_at hl 3 rfl) ?_
  refine lv_iload_n hx hb dL_law_1071 rfl (lv_at hl 0 rfl) ?_
  refine lv_iconst (v := 1) hx hb dL_law_1072 (by decide) ?_
  refine lv_iadd hx hb dL_law_1073 ?_
  refine lv_topi (fun v1 ev1 => ?_)
  have tv1 := z_add ev1 (rfl : (i).toInt = _) (by decide : (1 : Int32).toInt = 1) (by omega) (by omega)
  refine va_sld hx hb hX hbl hbA hS (vp_in_iff.mpr ⟨by omega, by omega⟩ : vp_in v1 L) dL_law_1074 ?_
  refine lv_topi (fun v2 ev2 => ?_)
  refine lv_aload_n hx hb dL_law_1075 rfl (lv_at hl 3 rfl) ?_
  refine lv_iload_n hx hb dL_law_1076 rfl (lv_at hl 0 rfl) ?_
  refine lv_iconst (v := 2) hx hb dL_law_1077 (by decide) ?_
  refine lv_iadd hx hb dL_law_1078 ?_
  refine lv_topi (fun v3 ev3 => ?_)
  have tv3 := z_add ev3 (rfl : (i).toInt = _) (by decide : (2 : Int32).toInt = 2) (by omega) (by omega)
  refine va_sld hx hb hX hbl hbA hS (vp_in_iff.mpr ⟨by omega, by omega⟩ : vp_in v3 L) dL_law_1079 ?_
  refine lv_topi (fun v4 ev4 => ?_)
  refine lv_aload_n hx hb dL_law_1080 rfl (lv_at hl 3 rfl) ?_
  refine lv_iload_n hx hb dL_law_1081 rfl (lv_at hl 0 rfl) ?_
  refine lv_iconst (v := 3) hx hb dL_law_1082 (by decide) ?_
  refine lv_iadd hx hb dL_law_1083 ?_
  refine lv_topi (fun v5 ev5 => ?_)
  have tv5 := z_add ev5 (rfl : (i).toInt = _) (by decide : (3 : Int32).toInt = 3) (by omega) (by omega)
  refine va_sld hx hb hX hbl hbA hS (vp_in_iff.mpr ⟨by omega, by omega⟩ : vp_in v5 L) dL_law_1084 ?_
  refine lv_topi (fun v6 ev6 => ?_)
  refine lv_aload_n hx hb dL_law_1085 rfl (lv_at hl 3 rfl) ?_
  refine lv_iload_n hx hb dL_law_1086 rfl (lv_at hl 0 rfl) ?_
  refine lv_iconst (v := 4) hx hb dL_law_1087 (by decide) ?_
  refine lv_iadd hx hb dL_law_1088 ?_
  refine lv_topi (fun v7 ev7 => ?_)
  have tv7 := z_add ev7 (rfl : (i).toInt = _) (by decide : (4 : Int32).toInt = 4) (by omega) (by omega)
  refine va_sld hx hb hX hbl hbA hS (vp_in_iff.mpr ⟨by omega, by omega⟩ : vp_in v7 L) dL_law_1089 ?_
  refine lv_topi (fun v8 ev8 => ?_)
  have hFc := free_all hDx hS hA
  refine va_calli (va_runV (As := [.int v2, .int v4, .int v6, .int v8]) (rest := []) ⟨hx, hb, hml, hown, ht⟩ (c_X11_burnt l dC dI H.size x gx cax ivx lvx fax lax hIx v2 v4 v6 v8) (kV 4 ht m_989 m_990 m_991 m_77 m_992 rfl rfl hd_X11_burnt_v ⟨Nat.le_of_ble_eq_true rfl, Nat.le_of_ble_eq_true rfl⟩) (vW hPx hKx hDx (rX_11 hKx hPx)) rfl rfl hl.1 rfl (lv_room (Nat.le_of_ble_eq_true rfl)) dL_law_1090 ⟨Nat.le_of_ble_eq_true rfl, Nat.le_of_ble_eq_true rfl⟩) hS (fun q _ h => hFc q h) hFc (fun r9 u t H1 locs ht9 hvm hr9 hB hz1 hk1 hS => ?_)
  obtain ⟨n10, n11, hr9, rfl⟩ := hr9
  obtain ⟨hPx, hDx⟩ := hB
  rw [ht9] at hPx
  have hPy := P_kept hPy (la := AdM y gy) (lb := AdX x gx) wmM wmX (fun a ha b hb => (hXY b hb a ha).symm) hk1
  generalize H1 = H at hPx hPy hS ⊢
  have hPx : va_P (dC, dI) classes (WX x gx cax ivx lvx (u2 (u2 fax 0 3 n10) 0 4 n11) lax) H := hPx
  have hDx : va_D A (WX x gx cax ivx lvx (u2 (u2 fax 0 3 n10) 0 4 n11) lax) := (show va_D _ (WX x gx cax ivx lvx (u2 (u2 fax 0 3 n10) 0 4 n11) lax) from hDx).weaken (fun _ _ _ h => hFc _ h)
  refine lv_pop hx hb dL_law_1093 rfl ?_
  refine lv_aload_n hx hb dL_law_1094 rfl (lv_at hl 1 rfl) ?_
  refine lv_aload_n hx hb dL_law_1095 rfl (lv_at hl 3 rfl) ?_
  refine lv_iload_n hx hb dL_law_1096 rfl (lv_at hl 0 rfl) ?_
  refine lv_iconst (v := 1) hx hb dL_law_1097 (by decide) ?_
  refine lv_iadd hx hb dL_law_1098 ?_
  refine lv_topi (fun v12 ev12 => ?_)
  have tv12 := z_add ev12 (rfl : (i).toInt = _) (by decide : (1 : Int32).toInt = 1) (by omega) (by omega)
  refine va_sld hx hb hX hbl hbA hS (vp_in_iff.mpr ⟨by omega, by omega⟩ : vp_in v12 L) dL_law_1099 ?_
  refine lv_topi (fun v13 ev13 => ?_)
  refine lv_aload_n hx hb dL_law_1100 rfl (lv_at hl 3 rfl) ?_
  refine lv_iload_n hx hb dL_law_1101 rfl (lv_at hl 0 rfl) ?_
  refine lv_iconst (v := 2) hx hb dL_law_1102 (by decide) ?_
  refine lv_iadd hx hb dL_law_1103 ?_
  refine lv_topi (fun v14 ev14 => ?_)
  have tv14 := z_add ev14 (rfl : (i).toInt = _) (by decide : (2 : Int32).toInt = 2) (by omega) (by omega)
  refine va_sld hx hb hX hbl hbA hS (vp_in_iff.mpr ⟨by omega, by omega⟩ : vp_in v14 L) dL_law_1104 ?_
  refine lv_topi (fun v15 ev15 => ?_)
  refine lv_aload_n hx hb dL_law_1105 rfl (lv_at hl 3 rfl) ?_
  refine lv_iload_n hx hb dL_law_1106 rfl (lv_at hl 0 rfl) ?_
  refine lv_iconst (v := 3) hx hb dL_law_1107 (by decide) ?_
  refine lv_iadd hx hb dL_law_1108 ?_
  refine lv_topi (fun v16 ev16 => ?_)
  have tv16 := z_add ev16 (rfl : (i).toInt = _) (by decide : (3 : Int32).toInt = 3) (by omega) (by omega)
  refine va_sld hx hb hX hbl hbA hS (vp_in_iff.mpr ⟨by omega, by omega⟩ : vp_in v16 L) dL_law_1109 ?_
  refine lv_topi (fun v17 ev17 => ?_)
  refine lv_aload_n hx hb dL_law_1110 rfl (lv_at hl 3 rfl) ?_
  refine lv_iload_n hx hb dL_law_1111 rfl (lv_at hl 0 rfl) ?_
  refine lv_iconst (v := 4) hx hb dL_law_1112 (by decide) ?_
  refine lv_iadd hx hb dL_law_1113 ?_
  refine lv_topi (fun v18 ev18 => ?_)
  have tv18 := z_add ev18 (rfl : (i).toInt = _) (by decide : (4 : Int32).toInt = 4) (by omega) (by omega)
  refine va_sld hx hb hX hbl hbA hS (vp_in_iff.mpr ⟨by omega, by omega⟩ : vp_in v18 L) dL_law_1114 ?_
  refine lv_topi (fun v19 ev19 => ?_)
  have hFc := free_all hDy hS hA
  refine va_calli (va_runV (As := [.int v13, .int v15, .int v17, .int v19]) (rest := []) ⟨hx, hb, hml, hown, ht⟩ (c_X12_burnt l dC dI H.size y gy cay ivy lvy fay lay hIy v13 v15 v17 v19) (kV 4 ht m_1629 m_1630 m_1631 m_89 m_1632 rfl rfl hd_X12_burnt_v ⟨Nat.le_of_ble_eq_true rfl, Nat.le_of_ble_eq_true rfl⟩) (vW hPy hKy hDy (rM_12 hKy hPy)) rfl rfl hl.1 rfl (lv_room (Nat.le_of_ble_eq_true rfl)) dL_law_1115 ⟨Nat.le_of_ble_eq_true rfl, Nat.le_of_ble_eq_true rfl⟩) hS (fun q _ h => hFc q h) hFc (fun r20 u t H1 locs ht9 hvm hr20 hB hz1 hk1 hS => ?_)
  obtain ⟨n21, n22, hr20, rfl⟩ := hr20
  obtain ⟨hPy, hDy⟩ := hB
  rw [ht9] at hPy
  have hPx := P_kept hPx (la := AdX x gx) (lb := AdM y gy) wmX wmM hXY hk1
  generalize H1 = H at hPx hPy hS ⊢
  have hPy : va_P (dC, dI) classes (WM y gy cay ivy lvy (u2 (u2 fay 12 55 n21) 12 56 n22) lay) H := hPy
  have hDy : va_D A (WM y gy cay ivy lvy (u2 (u2 fay 12 55 n21) 12 56 n22) lay) := (show va_D _ (WM y gy cay ivy lvy (u2 (u2 fay 12 55 n21) 12 56 n22) lay) from hDy).weaken (fun _ _ _ h => hFc _ h)
  refine lv_pop hx hb dL_law_1118 rfl ?_
  refine lv_goto (tgt := 1508) hx hb dL_law_1119 (by decide) ?_
  exact kk _ _ ivx lvx (u2 (u2 fax 0 3 n10) 0 4 n11) lax ivy lvy (u2 (u2 fay 12 55 n21) 12 56 n22) lay (IX_a (c := 0) (k := 4) (IX_a (c := 0) (k := 3) hIx (fun j => full_i _)) (fun j => full_i _)) (IX_a (c := 12) (k := 56) (IX_a (c := 12) (k := 55) hIy (fun j => full_i _)) (fun j => full_i _)) hJC hJR hJN hJO hq_now hq_bales hq_skeins hq_rules hq_text hq_place hrs hls htx hbk hPx hDx hPy hDy hS
set_option maxHeartbeats 4000000 in
set_option maxRecDepth 100000 in
theorem law_26 {p : Program} {e : Env} {s : State} {m : MethodId} {below : List Frame} {meth : Method} {c : Code} (l : Launch) {b L : Nat} {xs : Nat → Int32} (hL : L ≤ 4096) (C0 : lw_At p s m meth c b L xs) {dC : Nat → ClassId} {dI : Nat → Nat → Nat} {A : Nat → Prop} (hA : ∀ q : Nat, s.heap.size ≤ q → A q) (hbA : ¬ A b) (hAs : ∀ q : Nat, A q → s.heap.size ≤ q) {x y : Nat} {gx gy : Nat → Nat → Nat} {cax cay : Nat → Nat → ClassId} {ak av : Nat → Nat} (hKx : va_K (dC, dI) classes (TX cax) s) (hKy : va_K (dC, dI) classes (TM cay) s) (hXY : ∀ a ∈ AdX x gx, ∀ b ∈ AdM y gy, a ≠ b) (hZ : zC ak av A s s.heap) {H : Heap} {locs : List Loc} {ivx : Nat → Nat → Int32} {lvx : Nat → Nat → Int64} {fax : Nat → Nat → Nat → Int32} {lax : Nat → Nat → Nat → Int64} {ivy : Nat → Nat → Int32} {lvy : Nat → Nat → Int64} {fay : Nat → Nat → Nat → Int32} {lay : Nat → Nat → Nat → Int64} (hIx : IX ivx fax) (hIy : IX ivy fay) (hJC : JCf (ivy 12 23).toInt (fay 12 25) (fay 12 26) (fay 12 27) (fay 12 28)) (hJR : JRf (ivy 12 3).toInt (fay 12 7)) (hJN : JNf (ivy 12 3).toInt (fay 12 4) (fay 12 5)) (hJO : ((ivy 12 20).toInt = -1 ∧ (ivy 12 21).toInt = -1 ∧ (ivy 12 22).toInt = -1)) (hq_now : ivx 11 10 = ivy 12 0) (hq_bales : ivx 0 7 = ivy 12 1) (hq_skeins : ivx 10 1 = ivy 12 3) (hq_rules : ivx 1 7 = ivy 12 23) (hq_text : ivx 8 2 = ivy 12 33) (hq_place : ivx 8 3 = ivy 12 36) (hrs : (∀ s : Nat, (s : Int) < (ivy 12 3).toInt → fax 10 0 (9 * s + 0) = fay 12 4 s ∧ fax 10 0 (9 * s + 1) = fay 12 5 s ∧ fax 10 0 (9 * s + 2) = fay 12 6 s ∧ fax 10 0 (9 * s + 3) = fay 12 7 s ∧ fax 10 0 (9 * s + 4) = fay 12 8 s ∧ fax 10 0 (9 * s + 5) = fay 12 9 s ∧ fax 10 0 (9 * s + 6) = fay 12 10 s ∧ fax 10 0 (9 * s + 7) = fay 12 11 s ∧ fax 10 0 (9 * s + 8) = fay 12 12 s)) (hls : (∀ j : Nat, -1 ≤ (fay 12 12 j).toInt)) (htx : (∀ j : Nat, (fax 8 1 j).toInt = sg (fay 12 32 j).toInt ∧ 0 ≤ (fay 12 32 j).toInt)) (hbk : BkE (ivy 12 23).toInt (fax 1 0) (fax 1 1) (fax 1 2) (fax 1 3) (fax 1 4) (fax 1 5) (fay 12 24) (fay 12 25) (fay 12 26) (fay 12 27) (fay 12 28) (fay 12 29) (fay 12 30) (fay 12 31)) (hPx : va_P (dC, dI) classes (WX x gx cax ivx lvx fax lax) H) (hDx : va_D A (WX x gx cax ivx lvx fax lax)) (hPy : va_P (dC, dI) classes (WM y gy cay ivy lvy fay lay) H) (hDy : va_D A (WM y gy cay ivy lvy fay lay)) (hS : va_S A s.heap H locs) {i : Int32} {ls : Array Slot} (hl : lv_has ls 4 [(3, .int i), (2, .ref y), (1, .ref x), (0, .ref b)]) (hi : 0 ≤ i.toInt ∧ i.toInt ≤ 4088) (hi8 : i.toInt + 8 ≤ (L : Int)) (kk : ∀ (H : Heap) (locs : List Loc) (ivx : Nat → Nat → Int32) (lvx : Nat → Nat → Int64) (fax : Nat → Nat → Nat → Int32) (lax : Nat → Nat → Nat → Int64) (ivy : Nat → Nat → Int32) (lvy : Nat → Nat → Int64) (fay : Nat → Nat → Nat → Int32) (lay : Nat → Nat → Nat → Int64), IX ivx fax → IX ivy fay → JCf (ivy 12 23).toInt (fay 12 25) (fay 12 26) (fay 12 27) (fay 12 28) → JRf (ivy 12 3).toInt (fay 12 7) → JNf (ivy 12 3).toInt (fay 12 4) (fay 12 5) → ((ivy 12 20).toInt = -1 ∧ (ivy 12 21).toInt = -1 ∧ (ivy 12 22).toInt = -1) → ivx 11 10 = ivy 12 0 → ivx 0 7 = ivy 12 1 → ivx 10 1 = ivy 12 3 → ivx 1 7 = ivy 12 23 → ivx 8 2 = ivy 12 33 → ivx 8 3 = ivy 12 36 → (∀ s : Nat, (s : Int) < (ivy 12 3).toInt → fax 10 0 (9 * s + 0) = fay 12 4 s ∧ fax 10 0 (9 * s + 1) = fay 12 5 s ∧ fax 10 0 (9 * s + 2) = fay 12 6 s ∧ fax 10 0 (9 * s + 3) = fay 12 7 s ∧ fax 10 0 (9 * s + 4) = fay 12 8 s ∧ fax 10 0 (9 * s + 5) = fay 12 9 s ∧ fax 10 0 (9 * s + 6) = fay 12 10 s ∧ fax 10 0 (9 * s + 7) = fay 12 11 s ∧ fax 10 0 (9 * s + 8) = fay 12 12 s) → (∀ j : Nat, -1 ≤ (fay 12 12 j).toInt) → (∀ j : Nat, (fax 8 1 j).toInt = sg (fay 12 32 j).toInt ∧ 0 ≤ (fay 12 32 j).toInt) → BkE (ivy 12 23).toInt (fax 1 0) (fax 1 1) (fax 1 2) (fax 1 3) (fax 1 4) (fax 1 5) (fay 12 24) (fay 12 25) (fay 12 26) (fay 12 27) (fay 12 28) (fay 12 29) (fay 12 30) (fay 12 31) → va_P (dC, dI) classes (WX x gx cax ivx lvx fax lax) H → va_D A (WX x gx cax ivx lvx fax lax) → va_P (dC, dI) classes (WM y gy cay ivy lvy fay lay) H → va_D A (WM y gy cay ivy lvy fay lay) → va_S A s.heap H locs → W p l e room_1 s m #[Value.ref b] below meth c H locs 98 5431 (lw_Z below #[Value.ref b] s) (F0 m 1508 ls [])) : W p l e room_1 s m #[Value.ref b] below meth c H locs 98 5431 (lw_Z below #[Value.ref b] s) (F0 m 1122 ls []) := by
  obtain ⟨hx, hb, hr, hml, hown, hts, hX, hbl, hlocks, hgv⟩ := id C0
  have ht := tb_of hts
  have hw8r := congrArg Int32.toInt hq_rules
  have hJB : ∀ j : Nat, (j : Int) < (ivx 1 7).toInt → 0 ≤ (fax 1 0 j).toInt := fun j hj => (hbk j (by omega)).2.2.1
  have hJK : ∀ k j : Nat, (k : Int) < (ivy 12 23).toInt → 12 * k ≤ j → (j : Int) < 12 * (k : Int) + (fay 12 25 k).toInt → (fay 12 26 j).toInt = 3 → 0 ≤ (fay 12 28 j).toInt ∧ (fay 12 28 j).toInt < (k : Int) := bk_K hbk
  have hJT : ∀ j : Nat, 0 ≤ (fay 12 32 j).toInt := fun j => (htx j).2
  refine lv_aload_n hx hb dL_law_1122 rfl (lv_at hl 2 rfl) ?_
  refine lv_aload_n hx hb dL_law_1123 rfl (lv_at hl 3 rfl) ?_
  refine lv_iload_n hx hb dL_law_1124 rfl (lv_at hl 0 rfl) ?_
  refine lv_iconst (v := 1) hx hb dL_law_1125 (by decide) ?_
  refine lv_iadd hx hb dL_law_1126 ?_
  refine lv_topi (fun v1 ev1 => ?_)
  have tv1 := z_add ev1 (rfl : (i).toInt = _) (by decide : (1 : Int32).toInt = 1) (by omega) (by omega)
  refine va_sld hx hb hX hbl hbA hS (vp_in_iff.mpr ⟨by omega, by omega⟩ : vp_in v1 L) dL_law_1127 ?_
  refine lv_topi (fun v2 ev2 => ?_)
  refine lv_aload_n hx hb dL_law_1128 rfl (lv_at hl 3 rfl) ?_
  refine lv_iload_n hx hb dL_law_1129 rfl (lv_at hl 0 rfl) ?_
  refine lv_iconst (v := 2) hx hb dL_law_1130 (by decide) ?_
  refine lv_iadd hx hb dL_law_1131 ?_
  refine lv_topi (fun v3 ev3 => ?_)
  have tv3 := z_add ev3 (rfl : (i).toInt = _) (by decide : (2 : Int32).toInt = 2) (by omega) (by omega)
  refine va_sld hx hb hX hbl hbA hS (vp_in_iff.mpr ⟨by omega, by omega⟩ : vp_in v3 L) dL_law_1132 ?_
  refine lv_topi (fun v4 ev4 => ?_)
  refine lv_aload_n hx hb dL_law_1133 rfl (lv_at hl 3 rfl) ?_
  refine lv_iload_n hx hb dL_law_1134 rfl (lv_at hl 0 rfl) ?_
  refine lv_iconst (v := 3) hx hb dL_law_1135 (by decide) ?_
  refine lv_iadd hx hb dL_law_1136 ?_
  refine lv_topi (fun v5 ev5 => ?_)
  have tv5 := z_add ev5 (rfl : (i).toInt = _) (by decide : (3 : Int32).toInt = 3) (by omega) (by omega)
  refine va_sld hx hb hX hbl hbA hS (vp_in_iff.mpr ⟨by omega, by omega⟩ : vp_in v5 L) dL_law_1137 ?_
  refine lv_topi (fun v6 ev6 => ?_)
  refine lv_aload_n hx hb dL_law_1138 rfl (lv_at hl 3 rfl) ?_
  refine lv_iload_n hx hb dL_law_1139 rfl (lv_at hl 0 rfl) ?_
  refine lv_iconst (v := 4) hx hb dL_law_1140 (by decide) ?_
  refine lv_iadd hx hb dL_law_1141 ?_
  refine lv_topi (fun v7 ev7 => ?_)
  have tv7 := z_add ev7 (rfl : (i).toInt = _) (by decide : (4 : Int32).toInt = 4) (by omega) (by omega)
  refine va_sld hx hb hX hbl hbA hS (vp_in_iff.mpr ⟨by omega, by omega⟩ : vp_in v7 L) dL_law_1142 ?_
  refine lv_topi (fun v8 ev8 => ?_)
  have hFc := free_all hDx hS hA
  refine va_calli (va_runV (As := [.int v2, .int v4, .int v6, .int v8]) (rest := []) ⟨hx, hb, hml, hown, ht⟩ (c_X11_cheat l dC dI H.size x gx cax ivx lvx fax lax hIx v2 v4 v6 v8) (kV 4 ht m_993 m_994 m_995 m_77 m_996 rfl rfl hd_X11_cheat_v ⟨Nat.le_of_ble_eq_true rfl, Nat.le_of_ble_eq_true rfl⟩) (vW hPx hKx hDx (rX_11 hKx hPx)) rfl rfl hl.1 rfl (lv_room (Nat.le_of_ble_eq_true rfl)) dL_law_1143 ⟨Nat.le_of_ble_eq_true rfl, Nat.le_of_ble_eq_true rfl⟩) hS (fun q _ h => hFc q h) hFc (fun r9 u t H1 locs ht9 hvm hr9 hB hz1 hk1 hS => ?_)
  obtain ⟨n10, n11, n12, hr9, rfl⟩ := hr9
  obtain ⟨hPx, hDx⟩ := hB
  rw [ht9] at hPx
  have hPy := P_kept hPy (la := AdM y gy) (lb := AdX x gx) wmM wmX (fun a ha b hb => (hXY b hb a ha).symm) hk1
  generalize H1 = H at hPx hPy hS ⊢
  have hPx : va_P (dC, dI) classes (WX x gx cax ivx lvx (u2 fax 30 2 n10) (u2 (u2 lax 30 0 n11) 30 1 n12)) H := hPx
  have hDx : va_D A (WX x gx cax ivx lvx (u2 fax 30 2 n10) (u2 (u2 lax 30 0 n11) 30 1 n12)) := (show va_D _ (WX x gx cax ivx lvx (u2 fax 30 2 n10) (u2 (u2 lax 30 0 n11) 30 1 n12)) from hDx).weaken (fun _ _ _ h => hFc _ h)
  refine lv_pop hx hb dL_law_1146 rfl ?_
  refine lv_aload_n hx hb dL_law_1147 rfl (lv_at hl 1 rfl) ?_
  refine lv_aload_n hx hb dL_law_1148 rfl (lv_at hl 3 rfl) ?_
  refine lv_iload_n hx hb dL_law_1149 rfl (lv_at hl 0 rfl) ?_
  refine lv_iconst (v := 1) hx hb dL_law_1150 (by decide) ?_
  refine lv_iadd hx hb dL_law_1151 ?_
  refine lv_topi (fun v13 ev13 => ?_)
  have tv13 := z_add ev13 (rfl : (i).toInt = _) (by decide : (1 : Int32).toInt = 1) (by omega) (by omega)
  refine va_sld hx hb hX hbl hbA hS (vp_in_iff.mpr ⟨by omega, by omega⟩ : vp_in v13 L) dL_law_1152 ?_
  refine lv_topi (fun v14 ev14 => ?_)
  refine lv_aload_n hx hb dL_law_1153 rfl (lv_at hl 3 rfl) ?_
  refine lv_iload_n hx hb dL_law_1154 rfl (lv_at hl 0 rfl) ?_
  refine lv_iconst (v := 2) hx hb dL_law_1155 (by decide) ?_
  refine lv_iadd hx hb dL_law_1156 ?_
  refine lv_topi (fun v15 ev15 => ?_)
  have tv15 := z_add ev15 (rfl : (i).toInt = _) (by decide : (2 : Int32).toInt = 2) (by omega) (by omega)
  refine va_sld hx hb hX hbl hbA hS (vp_in_iff.mpr ⟨by omega, by omega⟩ : vp_in v15 L) dL_law_1157 ?_
  refine lv_topi (fun v16 ev16 => ?_)
  refine lv_aload_n hx hb dL_law_1158 rfl (lv_at hl 3 rfl) ?_
  refine lv_iload_n hx hb dL_law_1159 rfl (lv_at hl 0 rfl) ?_
  refine lv_iconst (v := 3) hx hb dL_law_1160 (by decide) ?_
  refine lv_iadd hx hb dL_law_1161 ?_
  refine lv_topi (fun v17 ev17 => ?_)
  have tv17 := z_add ev17 (rfl : (i).toInt = _) (by decide : (3 : Int32).toInt = 3) (by omega) (by omega)
  refine va_sld hx hb hX hbl hbA hS (vp_in_iff.mpr ⟨by omega, by omega⟩ : vp_in v17 L) dL_law_1162 ?_
  refine lv_topi (fun v18 ev18 => ?_)
  refine lv_aload_n hx hb dL_law_1163 rfl (lv_at hl 3 rfl) ?_
  refine lv_iload_n hx hb dL_law_1164 rfl (lv_at hl 0 rfl) ?_
  refine lv_iconst (v := 4) hx hb dL_law_1165 (by decide) ?_
  refine lv_iadd hx hb dL_law_1166 ?_
  refine lv_topi (fun v19 ev19 => ?_)
  have tv19 := z_add ev19 (rfl : (i).toInt = _) (by decide : (4 : Int32).toInt = 4) (by omega) (by omega)
  refine va_sld hx hb hX hbl hbA hS (vp_in_iff.mpr ⟨by omega, by omega⟩ : vp_in v19 L) dL_law_1167 ?_
  refine lv_topi (fun v20 ev20 => ?_)
  have hFc := free_all hDy hS hA
  refine va_calli (va_runV (As := [.int v14, .int v16, .int v18, .int v20]) (rest := []) ⟨hx, hb, hml, hown, ht⟩ (c_X12_cheat l dC dI H.size y gy cay ivy lvy fay lay hIy v14 v16 v18 v20 hJR) (kV 4 ht m_1633 m_1634 m_1635 m_89 m_1636 rfl rfl hd_X12_cheat_v ⟨Nat.le_of_ble_eq_true rfl, Nat.le_of_ble_eq_true rfl⟩) (vW hPy hKy hDy (rM_12 hKy hPy)) rfl rfl hl.1 rfl (lv_room (Nat.le_of_ble_eq_true rfl)) dL_law_1168 ⟨Nat.le_of_ble_eq_true rfl, Nat.le_of_ble_eq_true rfl⟩) hS (fun q _ h => hFc q h) hFc (fun r21 u t H1 locs ht9 hvm hr21 hB hz1 hk1 hS => ?_)
  obtain ⟨n22, n23, n24, hr21, rfl⟩ := hr21
  obtain ⟨hPy, hDy⟩ := hB
  rw [ht9] at hPy
  have hPx := P_kept hPx (la := AdX x gx) (lb := AdM y gy) wmX wmM hXY hk1
  generalize H1 = H at hPx hPy hS ⊢
  have hPy : va_P (dC, dI) classes (WM y gy cay (u2 ivy 12 19 n22) (u2 (u2 lvy 12 17 n23) 12 18 n24) fay lay) H := hPy
  have hDy : va_D A (WM y gy cay (u2 ivy 12 19 n22) (u2 (u2 lvy 12 17 n23) 12 18 n24) fay lay) := (show va_D _ (WM y gy cay (u2 ivy 12 19 n22) (u2 (u2 lvy 12 17 n23) 12 18 n24) fay lay) from hDy).weaken (fun _ _ _ h => hFc _ h)
  refine lv_pop hx hb dL_law_1171 rfl ?_
  refine lv_goto (tgt := 1508) hx hb dL_law_1172 (by decide) ?_
  exact kk _ _ ivx lvx (u2 fax 30 2 n10) (u2 (u2 lax 30 0 n11) 30 1 n12) (u2 ivy 12 19 n22) (u2 (u2 lvy 12 17 n23) 12 18 n24) fay lay (IX_a (c := 30) (k := 2) hIx (fun j => full_i _)) (IX_i (c := 12) (k := 19) hIy (full_i _)) hJC hJR hJN hJO hq_now hq_bales hq_skeins hq_rules hq_text hq_place hrs hls htx hbk hPx hDx hPy hDy hS
set_option maxHeartbeats 4000000 in
set_option maxRecDepth 100000 in
theorem law_27 {p : Program} {e : Env} {s : State} {m : MethodId} {below : List Frame} {meth : Method} {c : Code} (l : Launch) {b L : Nat} {xs : Nat → Int32} (hL : L ≤ 4096) (C0 : lw_At p s m meth c b L xs) {dC : Nat → ClassId} {dI : Nat → Nat → Nat} {A : Nat → Prop} (hA : ∀ q : Nat, s.heap.size ≤ q → A q) (hbA : ¬ A b) (hAs : ∀ q : Nat, A q → s.heap.size ≤ q) {x y : Nat} {gx gy : Nat → Nat → Nat} {cax cay : Nat → Nat → ClassId} {ak av : Nat → Nat} (hKx : va_K (dC, dI) classes (TX cax) s) (hKy : va_K (dC, dI) classes (TM cay) s) (hXY : ∀ a ∈ AdX x gx, ∀ b ∈ AdM y gy, a ≠ b) (hZ : zC ak av A s s.heap) {H : Heap} {locs : List Loc} {ivx : Nat → Nat → Int32} {lvx : Nat → Nat → Int64} {fax : Nat → Nat → Nat → Int32} {lax : Nat → Nat → Nat → Int64} {ivy : Nat → Nat → Int32} {lvy : Nat → Nat → Int64} {fay : Nat → Nat → Nat → Int32} {lay : Nat → Nat → Nat → Int64} (hIx : IX ivx fax) (hIy : IX ivy fay) (hJC : JCf (ivy 12 23).toInt (fay 12 25) (fay 12 26) (fay 12 27) (fay 12 28)) (hJR : JRf (ivy 12 3).toInt (fay 12 7)) (hJN : JNf (ivy 12 3).toInt (fay 12 4) (fay 12 5)) (hJO : ((ivy 12 20).toInt = -1 ∧ (ivy 12 21).toInt = -1 ∧ (ivy 12 22).toInt = -1)) (hq_now : ivx 11 10 = ivy 12 0) (hq_bales : ivx 0 7 = ivy 12 1) (hq_skeins : ivx 10 1 = ivy 12 3) (hq_rules : ivx 1 7 = ivy 12 23) (hq_text : ivx 8 2 = ivy 12 33) (hq_place : ivx 8 3 = ivy 12 36) (hrs : (∀ s : Nat, (s : Int) < (ivy 12 3).toInt → fax 10 0 (9 * s + 0) = fay 12 4 s ∧ fax 10 0 (9 * s + 1) = fay 12 5 s ∧ fax 10 0 (9 * s + 2) = fay 12 6 s ∧ fax 10 0 (9 * s + 3) = fay 12 7 s ∧ fax 10 0 (9 * s + 4) = fay 12 8 s ∧ fax 10 0 (9 * s + 5) = fay 12 9 s ∧ fax 10 0 (9 * s + 6) = fay 12 10 s ∧ fax 10 0 (9 * s + 7) = fay 12 11 s ∧ fax 10 0 (9 * s + 8) = fay 12 12 s)) (hls : (∀ j : Nat, -1 ≤ (fay 12 12 j).toInt)) (htx : (∀ j : Nat, (fax 8 1 j).toInt = sg (fay 12 32 j).toInt ∧ 0 ≤ (fay 12 32 j).toInt)) (hbk : BkE (ivy 12 23).toInt (fax 1 0) (fax 1 1) (fax 1 2) (fax 1 3) (fax 1 4) (fax 1 5) (fay 12 24) (fay 12 25) (fay 12 26) (fay 12 27) (fay 12 28) (fay 12 29) (fay 12 30) (fay 12 31)) (hPx : va_P (dC, dI) classes (WX x gx cax ivx lvx fax lax) H) (hDx : va_D A (WX x gx cax ivx lvx fax lax)) (hPy : va_P (dC, dI) classes (WM y gy cay ivy lvy fay lay) H) (hDy : va_D A (WM y gy cay ivy lvy fay lay)) (hS : va_S A s.heap H locs) {i : Int32} {ls : Array Slot} (hl : lv_has ls 4 [(3, .int i), (2, .ref y), (1, .ref x), (0, .ref b)]) (hi : 0 ≤ i.toInt ∧ i.toInt ≤ 4088) (hi8 : i.toInt + 8 ≤ (L : Int)) (kk : ∀ (H : Heap) (locs : List Loc) (ivx : Nat → Nat → Int32) (lvx : Nat → Nat → Int64) (fax : Nat → Nat → Nat → Int32) (lax : Nat → Nat → Nat → Int64) (ivy : Nat → Nat → Int32) (lvy : Nat → Nat → Int64) (fay : Nat → Nat → Nat → Int32) (lay : Nat → Nat → Nat → Int64), IX ivx fax → IX ivy fay → JCf (ivy 12 23).toInt (fay 12 25) (fay 12 26) (fay 12 27) (fay 12 28) → JRf (ivy 12 3).toInt (fay 12 7) → JNf (ivy 12 3).toInt (fay 12 4) (fay 12 5) → ((ivy 12 20).toInt = -1 ∧ (ivy 12 21).toInt = -1 ∧ (ivy 12 22).toInt = -1) → ivx 11 10 = ivy 12 0 → ivx 0 7 = ivy 12 1 → ivx 10 1 = ivy 12 3 → ivx 1 7 = ivy 12 23 → ivx 8 2 = ivy 12 33 → ivx 8 3 = ivy 12 36 → (∀ s : Nat, (s : Int) < (ivy 12 3).toInt → fax 10 0 (9 * s + 0) = fay 12 4 s ∧ fax 10 0 (9 * s + 1) = fay 12 5 s ∧ fax 10 0 (9 * s + 2) = fay 12 6 s ∧ fax 10 0 (9 * s + 3) = fay 12 7 s ∧ fax 10 0 (9 * s + 4) = fay 12 8 s ∧ fax 10 0 (9 * s + 5) = fay 12 9 s ∧ fax 10 0 (9 * s + 6) = fay 12 10 s ∧ fax 10 0 (9 * s + 7) = fay 12 11 s ∧ fax 10 0 (9 * s + 8) = fay 12 12 s) → (∀ j : Nat, -1 ≤ (fay 12 12 j).toInt) → (∀ j : Nat, (fax 8 1 j).toInt = sg (fay 12 32 j).toInt ∧ 0 ≤ (fay 12 32 j).toInt) → BkE (ivy 12 23).toInt (fax 1 0) (fax 1 1) (fax 1 2) (fax 1 3) (fax 1 4) (fax 1 5) (fay 12 24) (fay 12 25) (fay 12 26) (fay 12 27) (fay 12 28) (fay 12 29) (fay 12 30) (fay 12 31) → va_P (dC, dI) classes (WX x gx cax ivx lvx fax lax) H → va_D A (WX x gx cax ivx lvx fax lax) → va_P (dC, dI) classes (WM y gy cay ivy lvy fay lay) H → va_D A (WM y gy cay ivy lvy fay lay) → va_S A s.heap H locs → W p l e room_1 s m #[Value.ref b] below meth c H locs 98 5431 (lw_Z below #[Value.ref b] s) (F0 m 1508 ls [])) : W p l e room_1 s m #[Value.ref b] below meth c H locs 98 5431 (lw_Z below #[Value.ref b] s) (F0 m 1175 ls []) := by
  obtain ⟨hx, hb, hr, hml, hown, hts, hX, hbl, hlocks, hgv⟩ := id C0
  have ht := tb_of hts
  have hw8r := congrArg Int32.toInt hq_rules
  have hJB : ∀ j : Nat, (j : Int) < (ivx 1 7).toInt → 0 ≤ (fax 1 0 j).toInt := fun j hj => (hbk j (by omega)).2.2.1
  have hJK : ∀ k j : Nat, (k : Int) < (ivy 12 23).toInt → 12 * k ≤ j → (j : Int) < 12 * (k : Int) + (fay 12 25 k).toInt → (fay 12 26 j).toInt = 3 → 0 ≤ (fay 12 28 j).toInt ∧ (fay 12 28 j).toInt < (k : Int) := bk_K hbk
  have hJT : ∀ j : Nat, 0 ≤ (fay 12 32 j).toInt := fun j => (htx j).2
  refine lv_aload_n hx hb dL_law_1175 rfl (lv_at hl 2 rfl) ?_
  refine lv_aload_n hx hb dL_law_1176 rfl (lv_at hl 3 rfl) ?_
  refine lv_iload_n hx hb dL_law_1177 rfl (lv_at hl 0 rfl) ?_
  refine lv_iconst (v := 1) hx hb dL_law_1178 (by decide) ?_
  refine lv_iadd hx hb dL_law_1179 ?_
  refine lv_topi (fun v1 ev1 => ?_)
  have tv1 := z_add ev1 (rfl : (i).toInt = _) (by decide : (1 : Int32).toInt = 1) (by omega) (by omega)
  refine va_sld hx hb hX hbl hbA hS (vp_in_iff.mpr ⟨by omega, by omega⟩ : vp_in v1 L) dL_law_1180 ?_
  refine lv_topi (fun v2 ev2 => ?_)
  have hFc := free_all hDx hS hA
  refine va_calli (va_runV (As := [.int v2]) (rest := []) ⟨hx, hb, hml, hown, ht⟩ (c_X11_load l dC dI H.size x gx cax ivx lvx fax lax hIx v2) (kV 1 ht m_1001 m_1002 m_1003 m_77 m_1004 rfl rfl hd_X11_load_v ⟨Nat.le_of_ble_eq_true rfl, Nat.le_of_ble_eq_true rfl⟩) (vW hPx hKx hDx (rX_11 hKx hPx)) rfl rfl hl.1 rfl (lv_room (Nat.le_of_ble_eq_true rfl)) dL_law_1181 ⟨Nat.le_of_ble_eq_true rfl, Nat.le_of_ble_eq_true rfl⟩) hS (fun q _ h => hFc q h) hFc (fun r3 u t H1 locs ht9 hvm hr3 hB hz1 hk1 hS => ?_)
  obtain ⟨n4, n5, n6, hn5, hr3, rfl⟩ := hr3
  obtain ⟨hPx, hDx⟩ := hB
  rw [ht9] at hPx
  have hPy := P_kept hPy (la := AdM y gy) (lb := AdX x gx) wmM wmX (fun a ha b hb => (hXY b hb a ha).symm) hk1
  generalize H1 = H at hPx hPy hS ⊢
  have hPx : va_P (dC, dI) classes (WX x gx cax (u2 (u2 ivx 5 4 n5) 5 6 n6) lvx (u2 fax 5 0 n4) lax) H := hPx
  have hDx : va_D A (WX x gx cax (u2 (u2 ivx 5 4 n5) 5 6 n6) lvx (u2 fax 5 0 n4) lax) := (show va_D _ (WX x gx cax (u2 (u2 ivx 5 4 n5) 5 6 n6) lvx (u2 fax 5 0 n4) lax) from hDx).weaken (fun _ _ _ h => hFc _ h)
  refine lv_pop hx hb dL_law_1184 rfl ?_
  refine lv_aload_n hx hb dL_law_1185 rfl (lv_at hl 1 rfl) ?_
  refine lv_aload_n hx hb dL_law_1186 rfl (lv_at hl 3 rfl) ?_
  refine lv_iload_n hx hb dL_law_1187 rfl (lv_at hl 0 rfl) ?_
  refine lv_iconst (v := 1) hx hb dL_law_1188 (by decide) ?_
  refine lv_iadd hx hb dL_law_1189 ?_
  refine lv_topi (fun v7 ev7 => ?_)
  have tv7 := z_add ev7 (rfl : (i).toInt = _) (by decide : (1 : Int32).toInt = 1) (by omega) (by omega)
  refine va_sld hx hb hX hbl hbA hS (vp_in_iff.mpr ⟨by omega, by omega⟩ : vp_in v7 L) dL_law_1190 ?_
  refine lv_topi (fun v8 ev8 => ?_)
  have hFc := free_all hDy hS hA
  refine va_calli (va_runV (As := [.int v8]) (rest := []) ⟨hx, hb, hml, hown, ht⟩ (c_X12_load l dC dI H.size y gy cay ivy lvy fay lay hIy v8) (kV 1 ht m_1637 m_1638 m_1639 m_89 m_1640 rfl rfl hd_X12_load_v ⟨Nat.le_of_ble_eq_true rfl, Nat.le_of_ble_eq_true rfl⟩) (vW hPy hKy hDy (rM_12 hKy hPy)) rfl rfl hl.1 rfl (lv_room (Nat.le_of_ble_eq_true rfl)) dL_law_1191 ⟨Nat.le_of_ble_eq_true rfl, Nat.le_of_ble_eq_true rfl⟩) hS (fun q _ h => hFc q h) hFc (fun r9 u t H1 locs ht9 hvm hr9 hB hz1 hk1 hS => ?_)
  obtain ⟨n10, n11, hn11, hr9, rfl⟩ := hr9
  obtain ⟨hPy, hDy⟩ := hB
  rw [ht9] at hPy
  have hPx := P_kept hPx (la := AdX x gx) (lb := AdM y gy) wmX wmM hXY hk1
  generalize H1 = H at hPx hPy hS ⊢
  have hPy : va_P (dC, dI) classes (WM y gy cay (u2 ivy 12 57 n11) lvy (u2 fay 12 58 n10) lay) H := hPy
  have hDy : va_D A (WM y gy cay (u2 ivy 12 57 n11) lvy (u2 fay 12 58 n10) lay) := (show va_D _ (WM y gy cay (u2 ivy 12 57 n11) lvy (u2 fay 12 58 n10) lay) from hDy).weaken (fun _ _ _ h => hFc _ h)
  refine lv_pop hx hb dL_law_1194 rfl ?_
  refine lv_goto (tgt := 1508) hx hb dL_law_1195 (by decide) ?_
  exact kk _ _ (u2 (u2 ivx 5 4 n5) 5 6 n6) lvx (u2 fax 5 0 n4) lax (u2 ivy 12 57 n11) lvy (u2 fay 12 58 n10) lay (IX_a (c := 5) (k := 0) (IX_i (c := 5) (k := 6) (IX_i (c := 5) (k := 4) hIx hn5) (full_i _)) (fun j => full_i _)) (IX_a (c := 12) (k := 58) (IX_i (c := 12) (k := 57) hIy hn11) (fun j => full_i _)) hJC hJR hJN hJO hq_now hq_bales hq_skeins hq_rules hq_text hq_place hrs hls htx hbk hPx hDx hPy hDy hS
set_option maxHeartbeats 4000000 in
set_option maxRecDepth 100000 in
theorem law_28 {p : Program} {e : Env} {s : State} {m : MethodId} {below : List Frame} {meth : Method} {c : Code} (l : Launch) {b L : Nat} {xs : Nat → Int32} (hL : L ≤ 4096) (C0 : lw_At p s m meth c b L xs) {dC : Nat → ClassId} {dI : Nat → Nat → Nat} {A : Nat → Prop} (hA : ∀ q : Nat, s.heap.size ≤ q → A q) (hbA : ¬ A b) (hAs : ∀ q : Nat, A q → s.heap.size ≤ q) {x y : Nat} {gx gy : Nat → Nat → Nat} {cax cay : Nat → Nat → ClassId} {ak av : Nat → Nat} (hKx : va_K (dC, dI) classes (TX cax) s) (hKy : va_K (dC, dI) classes (TM cay) s) (hXY : ∀ a ∈ AdX x gx, ∀ b ∈ AdM y gy, a ≠ b) (hZ : zC ak av A s s.heap) {H : Heap} {locs : List Loc} {ivx : Nat → Nat → Int32} {lvx : Nat → Nat → Int64} {fax : Nat → Nat → Nat → Int32} {lax : Nat → Nat → Nat → Int64} {ivy : Nat → Nat → Int32} {lvy : Nat → Nat → Int64} {fay : Nat → Nat → Nat → Int32} {lay : Nat → Nat → Nat → Int64} (hIx : IX ivx fax) (hIy : IX ivy fay) (hJC : JCf (ivy 12 23).toInt (fay 12 25) (fay 12 26) (fay 12 27) (fay 12 28)) (hJR : JRf (ivy 12 3).toInt (fay 12 7)) (hJN : JNf (ivy 12 3).toInt (fay 12 4) (fay 12 5)) (hJO : ((ivy 12 20).toInt = -1 ∧ (ivy 12 21).toInt = -1 ∧ (ivy 12 22).toInt = -1)) (hq_now : ivx 11 10 = ivy 12 0) (hq_bales : ivx 0 7 = ivy 12 1) (hq_skeins : ivx 10 1 = ivy 12 3) (hq_rules : ivx 1 7 = ivy 12 23) (hq_text : ivx 8 2 = ivy 12 33) (hq_place : ivx 8 3 = ivy 12 36) (hrs : (∀ s : Nat, (s : Int) < (ivy 12 3).toInt → fax 10 0 (9 * s + 0) = fay 12 4 s ∧ fax 10 0 (9 * s + 1) = fay 12 5 s ∧ fax 10 0 (9 * s + 2) = fay 12 6 s ∧ fax 10 0 (9 * s + 3) = fay 12 7 s ∧ fax 10 0 (9 * s + 4) = fay 12 8 s ∧ fax 10 0 (9 * s + 5) = fay 12 9 s ∧ fax 10 0 (9 * s + 6) = fay 12 10 s ∧ fax 10 0 (9 * s + 7) = fay 12 11 s ∧ fax 10 0 (9 * s + 8) = fay 12 12 s)) (hls : (∀ j : Nat, -1 ≤ (fay 12 12 j).toInt)) (htx : (∀ j : Nat, (fax 8 1 j).toInt = sg (fay 12 32 j).toInt ∧ 0 ≤ (fay 12 32 j).toInt)) (hbk : BkE (ivy 12 23).toInt (fax 1 0) (fax 1 1) (fax 1 2) (fax 1 3) (fax 1 4) (fax 1 5) (fay 12 24) (fay 12 25) (fay 12 26) (fay 12 27) (fay 12 28) (fay 12 29) (fay 12 30) (fay 12 31)) (hPx : va_P (dC, dI) classes (WX x gx cax ivx lvx fax lax) H) (hDx : va_D A (WX x gx cax ivx lvx fax lax)) (hPy : va_P (dC, dI) classes (WM y gy cay ivy lvy fay lay) H) (hDy : va_D A (WM y gy cay ivy lvy fay lay)) (hS : va_S A s.heap H locs) {i : Int32} {ls : Array Slot} (hl : lv_has ls 4 [(3, .int i), (2, .ref y), (1, .ref x), (0, .ref b)]) (hi : 0 ≤ i.toInt ∧ i.toInt ≤ 4088) (hi8 : i.toInt + 8 ≤ (L : Int)) (kk : ∀ (H : Heap) (locs : List Loc) (ivx : Nat → Nat → Int32) (lvx : Nat → Nat → Int64) (fax : Nat → Nat → Nat → Int32) (lax : Nat → Nat → Nat → Int64) (ivy : Nat → Nat → Int32) (lvy : Nat → Nat → Int64) (fay : Nat → Nat → Nat → Int32) (lay : Nat → Nat → Nat → Int64), IX ivx fax → IX ivy fay → JCf (ivy 12 23).toInt (fay 12 25) (fay 12 26) (fay 12 27) (fay 12 28) → JRf (ivy 12 3).toInt (fay 12 7) → JNf (ivy 12 3).toInt (fay 12 4) (fay 12 5) → ((ivy 12 20).toInt = -1 ∧ (ivy 12 21).toInt = -1 ∧ (ivy 12 22).toInt = -1) → ivx 11 10 = ivy 12 0 → ivx 0 7 = ivy 12 1 → ivx 10 1 = ivy 12 3 → ivx 1 7 = ivy 12 23 → ivx 8 2 = ivy 12 33 → ivx 8 3 = ivy 12 36 → (∀ s : Nat, (s : Int) < (ivy 12 3).toInt → fax 10 0 (9 * s + 0) = fay 12 4 s ∧ fax 10 0 (9 * s + 1) = fay 12 5 s ∧ fax 10 0 (9 * s + 2) = fay 12 6 s ∧ fax 10 0 (9 * s + 3) = fay 12 7 s ∧ fax 10 0 (9 * s + 4) = fay 12 8 s ∧ fax 10 0 (9 * s + 5) = fay 12 9 s ∧ fax 10 0 (9 * s + 6) = fay 12 10 s ∧ fax 10 0 (9 * s + 7) = fay 12 11 s ∧ fax 10 0 (9 * s + 8) = fay 12 12 s) → (∀ j : Nat, -1 ≤ (fay 12 12 j).toInt) → (∀ j : Nat, (fax 8 1 j).toInt = sg (fay 12 32 j).toInt ∧ 0 ≤ (fay 12 32 j).toInt) → BkE (ivy 12 23).toInt (fax 1 0) (fax 1 1) (fax 1 2) (fax 1 3) (fax 1 4) (fax 1 5) (fay 12 24) (fay 12 25) (fay 12 26) (fay 12 27) (fay 12 28) (fay 12 29) (fay 12 30) (fay 12 31) → va_P (dC, dI) classes (WX x gx cax ivx lvx fax lax) H → va_D A (WX x gx cax ivx lvx fax lax) → va_P (dC, dI) classes (WM y gy cay ivy lvy fay lay) H → va_D A (WM y gy cay ivy lvy fay lay) → va_S A s.heap H locs → W p l e room_1 s m #[Value.ref b] below meth c H locs 98 5431 (lw_Z below #[Value.ref b] s) (F0 m 1508 ls [])) : W p l e room_1 s m #[Value.ref b] below meth c H locs 98 5431 (lw_Z below #[Value.ref b] s) (F0 m 1198 ls []) := by
  obtain ⟨hx, hb, hr, hml, hown, hts, hX, hbl, hlocks, hgv⟩ := id C0
  have ht := tb_of hts
  have hw8r := congrArg Int32.toInt hq_rules
  have hJB : ∀ j : Nat, (j : Int) < (ivx 1 7).toInt → 0 ≤ (fax 1 0 j).toInt := fun j hj => (hbk j (by omega)).2.2.1
  have hJK : ∀ k j : Nat, (k : Int) < (ivy 12 23).toInt → 12 * k ≤ j → (j : Int) < 12 * (k : Int) + (fay 12 25 k).toInt → (fay 12 26 j).toInt = 3 → 0 ≤ (fay 12 28 j).toInt ∧ (fay 12 28 j).toInt < (k : Int) := bk_K hbk
  have hJT : ∀ j : Nat, 0 ≤ (fay 12 32 j).toInt := fun j => (htx j).2
  refine lv_aload_n hx hb dL_law_1198 rfl (lv_at hl 2 rfl) ?_
  refine lv_aload_n hx hb dL_law_1199 rfl (lv_at hl 3 rfl) ?_
  refine lv_iload_n hx hb dL_law_1200 rfl (lv_at hl 0 rfl) ?_
  refine lv_iconst (v := 1) hx hb dL_law_1201 (by decide) ?_
  refine lv_iadd hx hb dL_law_1202 ?_
  refine lv_topi (fun v1 ev1 => ?_)
  have tv1 := z_add ev1 (rfl : (i).toInt = _) (by decide : (1 : Int32).toInt = 1) (by omega) (by omega)
  refine va_sld hx hb hX hbl hbA hS (vp_in_iff.mpr ⟨by omega, by omega⟩ : vp_in v1 L) dL_law_1203 ?_
  refine lv_topi (fun v2 ev2 => ?_)
  refine lv_aload_n hx hb dL_law_1204 rfl (lv_at hl 3 rfl) ?_
  refine lv_iload_n hx hb dL_law_1205 rfl (lv_at hl 0 rfl) ?_
  refine lv_iconst (v := 2) hx hb dL_law_1206 (by decide) ?_
  refine lv_iadd hx hb dL_law_1207 ?_
  refine lv_topi (fun v3 ev3 => ?_)
  have tv3 := z_add ev3 (rfl : (i).toInt = _) (by decide : (2 : Int32).toInt = 2) (by omega) (by omega)
  refine va_sld hx hb hX hbl hbA hS (vp_in_iff.mpr ⟨by omega, by omega⟩ : vp_in v3 L) dL_law_1208 ?_
  refine lv_topi (fun v4 ev4 => ?_)
  have hFc := free_all hDx hS hA
  refine va_calli (va_runV (As := [.int v2, .int v4]) (rest := []) ⟨hx, hb, hml, hown, ht⟩ (c_X11_order l dC dI H.size x gx cax ivx lvx fax lax hIx v2 v4) (kV 2 ht m_1009 m_1010 m_1011 m_77 m_1012 rfl rfl hd_X11_order_v ⟨Nat.le_of_ble_eq_true rfl, Nat.le_of_ble_eq_true rfl⟩) (vW hPx hKx hDx (rX_11 hKx hPx)) rfl rfl hl.1 rfl (lv_room (Nat.le_of_ble_eq_true rfl)) dL_law_1209 ⟨Nat.le_of_ble_eq_true rfl, Nat.le_of_ble_eq_true rfl⟩) hS (fun q _ h => hFc q h) hFc (fun r5 u t H1 locs ht9 hvm hr5 hB hz1 hk1 hS => ?_)
  obtain ⟨n6, n7, n8, n9, n10, hr5, rfl⟩ := hr5
  obtain ⟨hPx, hDx⟩ := hB
  rw [ht9] at hPx
  have hPy := P_kept hPy (la := AdM y gy) (lb := AdX x gx) wmM wmX (fun a ha b hb => (hXY b hb a ha).symm) hk1
  generalize H1 = H at hPx hPy hS ⊢
  have hPx : va_P (dC, dI) classes (WX x gx cax (u2 (u2 ivx 5 5 n9) 5 6 n10) lvx (u2 (u2 (u2 fax 5 1 n6) 5 2 n7) 5 3 n8) lax) H := hPx
  have hDx : va_D A (WX x gx cax (u2 (u2 ivx 5 5 n9) 5 6 n10) lvx (u2 (u2 (u2 fax 5 1 n6) 5 2 n7) 5 3 n8) lax) := (show va_D _ (WX x gx cax (u2 (u2 ivx 5 5 n9) 5 6 n10) lvx (u2 (u2 (u2 fax 5 1 n6) 5 2 n7) 5 3 n8) lax) from hDx).weaken (fun _ _ _ h => hFc _ h)
  refine lv_pop hx hb dL_law_1212 rfl ?_
  refine lv_aload_n hx hb dL_law_1213 rfl (lv_at hl 1 rfl) ?_
  refine lv_aload_n hx hb dL_law_1214 rfl (lv_at hl 3 rfl) ?_
  refine lv_iload_n hx hb dL_law_1215 rfl (lv_at hl 0 rfl) ?_
  refine lv_iconst (v := 1) hx hb dL_law_1216 (by decide) ?_
  refine lv_iadd hx hb dL_law_1217 ?_
  refine lv_topi (fun v11 ev11 => ?_)
  have tv11 := z_add ev11 (rfl : (i).toInt = _) (by decide : (1 : Int32).toInt = 1) (by omega) (by omega)
  refine va_sld hx hb hX hbl hbA hS (vp_in_iff.mpr ⟨by omega, by omega⟩ : vp_in v11 L) dL_law_1218 ?_
  refine lv_topi (fun v12 ev12 => ?_)
  refine lv_aload_n hx hb dL_law_1219 rfl (lv_at hl 3 rfl) ?_
  refine lv_iload_n hx hb dL_law_1220 rfl (lv_at hl 0 rfl) ?_
  refine lv_iconst (v := 2) hx hb dL_law_1221 (by decide) ?_
  refine lv_iadd hx hb dL_law_1222 ?_
  refine lv_topi (fun v13 ev13 => ?_)
  have tv13 := z_add ev13 (rfl : (i).toInt = _) (by decide : (2 : Int32).toInt = 2) (by omega) (by omega)
  refine va_sld hx hb hX hbl hbA hS (vp_in_iff.mpr ⟨by omega, by omega⟩ : vp_in v13 L) dL_law_1223 ?_
  refine lv_topi (fun v14 ev14 => ?_)
  have hFc := free_all hDy hS hA
  refine va_calli (va_runV (As := [.int v12, .int v14]) (rest := []) ⟨hx, hb, hml, hown, ht⟩ (c_X12_order l dC dI H.size y gy cay ivy lvy fay lay hIy v12 v14) (kV 2 ht m_1641 m_1642 m_1643 m_89 m_1644 rfl rfl hd_X12_order_v ⟨Nat.le_of_ble_eq_true rfl, Nat.le_of_ble_eq_true rfl⟩) (vW hPy hKy hDy (rM_12 hKy hPy)) rfl rfl hl.1 rfl (lv_room (Nat.le_of_ble_eq_true rfl)) dL_law_1224 ⟨Nat.le_of_ble_eq_true rfl, Nat.le_of_ble_eq_true rfl⟩) hS (fun q _ h => hFc q h) hFc (fun r15 u t H1 locs ht9 hvm hr15 hB hz1 hk1 hS => ?_)
  obtain ⟨n16, n17, n18, hr15, rfl⟩ := hr15
  obtain ⟨hPy, hDy⟩ := hB
  rw [ht9] at hPy
  have hPx := P_kept hPx (la := AdX x gx) (lb := AdM y gy) wmX wmM hXY hk1
  generalize H1 = H at hPx hPy hS ⊢
  have hPy : va_P (dC, dI) classes (WM y gy cay (u2 (u2 ivy 12 60 n17) 12 61 n18) lvy (u2 fay 12 59 n16) lay) H := hPy
  have hDy : va_D A (WM y gy cay (u2 (u2 ivy 12 60 n17) 12 61 n18) lvy (u2 fay 12 59 n16) lay) := (show va_D _ (WM y gy cay (u2 (u2 ivy 12 60 n17) 12 61 n18) lvy (u2 fay 12 59 n16) lay) from hDy).weaken (fun _ _ _ h => hFc _ h)
  refine lv_pop hx hb dL_law_1227 rfl ?_
  refine lv_goto (tgt := 1508) hx hb dL_law_1228 (by decide) ?_
  exact kk _ _ (u2 (u2 ivx 5 5 n9) 5 6 n10) lvx (u2 (u2 (u2 fax 5 1 n6) 5 2 n7) 5 3 n8) lax (u2 (u2 ivy 12 60 n17) 12 61 n18) lvy (u2 fay 12 59 n16) lay (IX_a (c := 5) (k := 3) (IX_a (c := 5) (k := 2) (IX_a (c := 5) (k := 1) (IX_i (c := 5) (k := 6) (IX_i (c := 5) (k := 5) hIx (full_i _)) (full_i _)) (fun j => full_i _)) (fun j => full_i _)) (fun j => full_i _)) (IX_a (c := 12) (k := 59) (IX_i (c := 12) (k := 61) (IX_i (c := 12) (k := 60) hIy (full_i _)) (full_i _)) (fun j => full_i _)) hJC hJR hJN hJO hq_now hq_bales hq_skeins hq_rules hq_text hq_place hrs hls htx hbk hPx hDx hPy hDy hS
set_option maxHeartbeats 4000000 in
set_option maxRecDepth 100000 in
theorem law_29 {p : Program} {e : Env} {s : State} {m : MethodId} {below : List Frame} {meth : Method} {c : Code} (l : Launch) {b L : Nat} {xs : Nat → Int32} (hL : L ≤ 4096) (C0 : lw_At p s m meth c b L xs) {dC : Nat → ClassId} {dI : Nat → Nat → Nat} {A : Nat → Prop} (hA : ∀ q : Nat, s.heap.size ≤ q → A q) (hbA : ¬ A b) (hAs : ∀ q : Nat, A q → s.heap.size ≤ q) {x y : Nat} {gx gy : Nat → Nat → Nat} {cax cay : Nat → Nat → ClassId} {ak av : Nat → Nat} (hKx : va_K (dC, dI) classes (TX cax) s) (hKy : va_K (dC, dI) classes (TM cay) s) (hXY : ∀ a ∈ AdX x gx, ∀ b ∈ AdM y gy, a ≠ b) (hZ : zC ak av A s s.heap) {H : Heap} {locs : List Loc} {ivx : Nat → Nat → Int32} {lvx : Nat → Nat → Int64} {fax : Nat → Nat → Nat → Int32} {lax : Nat → Nat → Nat → Int64} {ivy : Nat → Nat → Int32} {lvy : Nat → Nat → Int64} {fay : Nat → Nat → Nat → Int32} {lay : Nat → Nat → Nat → Int64} (hIx : IX ivx fax) (hIy : IX ivy fay) (hJC : JCf (ivy 12 23).toInt (fay 12 25) (fay 12 26) (fay 12 27) (fay 12 28)) (hJR : JRf (ivy 12 3).toInt (fay 12 7)) (hJN : JNf (ivy 12 3).toInt (fay 12 4) (fay 12 5)) (hJO : ((ivy 12 20).toInt = -1 ∧ (ivy 12 21).toInt = -1 ∧ (ivy 12 22).toInt = -1)) (hq_now : ivx 11 10 = ivy 12 0) (hq_bales : ivx 0 7 = ivy 12 1) (hq_skeins : ivx 10 1 = ivy 12 3) (hq_rules : ivx 1 7 = ivy 12 23) (hq_text : ivx 8 2 = ivy 12 33) (hq_place : ivx 8 3 = ivy 12 36) (hrs : (∀ s : Nat, (s : Int) < (ivy 12 3).toInt → fax 10 0 (9 * s + 0) = fay 12 4 s ∧ fax 10 0 (9 * s + 1) = fay 12 5 s ∧ fax 10 0 (9 * s + 2) = fay 12 6 s ∧ fax 10 0 (9 * s + 3) = fay 12 7 s ∧ fax 10 0 (9 * s + 4) = fay 12 8 s ∧ fax 10 0 (9 * s + 5) = fay 12 9 s ∧ fax 10 0 (9 * s + 6) = fay 12 10 s ∧ fax 10 0 (9 * s + 7) = fay 12 11 s ∧ fax 10 0 (9 * s + 8) = fay 12 12 s)) (hls : (∀ j : Nat, -1 ≤ (fay 12 12 j).toInt)) (htx : (∀ j : Nat, (fax 8 1 j).toInt = sg (fay 12 32 j).toInt ∧ 0 ≤ (fay 12 32 j).toInt)) (hbk : BkE (ivy 12 23).toInt (fax 1 0) (fax 1 1) (fax 1 2) (fax 1 3) (fax 1 4) (fax 1 5) (fay 12 24) (fay 12 25) (fay 12 26) (fay 12 27) (fay 12 28) (fay 12 29) (fay 12 30) (fay 12 31)) (hPx : va_P (dC, dI) classes (WX x gx cax ivx lvx fax lax) H) (hDx : va_D A (WX x gx cax ivx lvx fax lax)) (hPy : va_P (dC, dI) classes (WM y gy cay ivy lvy fay lay) H) (hDy : va_D A (WM y gy cay ivy lvy fay lay)) (hS : va_S A s.heap H locs) {i : Int32} {ls : Array Slot} (hl : lv_has ls 4 [(3, .int i), (2, .ref y), (1, .ref x), (0, .ref b)]) (hi : 0 ≤ i.toInt ∧ i.toInt ≤ 4088) (hi8 : i.toInt + 8 ≤ (L : Int)) (kk : ∀ (H : Heap) (locs : List Loc) (ivx : Nat → Nat → Int32) (lvx : Nat → Nat → Int64) (fax : Nat → Nat → Nat → Int32) (lax : Nat → Nat → Nat → Int64) (ivy : Nat → Nat → Int32) (lvy : Nat → Nat → Int64) (fay : Nat → Nat → Nat → Int32) (lay : Nat → Nat → Nat → Int64), IX ivx fax → IX ivy fay → JCf (ivy 12 23).toInt (fay 12 25) (fay 12 26) (fay 12 27) (fay 12 28) → JRf (ivy 12 3).toInt (fay 12 7) → JNf (ivy 12 3).toInt (fay 12 4) (fay 12 5) → ((ivy 12 20).toInt = -1 ∧ (ivy 12 21).toInt = -1 ∧ (ivy 12 22).toInt = -1) → ivx 11 10 = ivy 12 0 → ivx 0 7 = ivy 12 1 → ivx 10 1 = ivy 12 3 → ivx 1 7 = ivy 12 23 → ivx 8 2 = ivy 12 33 → ivx 8 3 = ivy 12 36 → (∀ s : Nat, (s : Int) < (ivy 12 3).toInt → fax 10 0 (9 * s + 0) = fay 12 4 s ∧ fax 10 0 (9 * s + 1) = fay 12 5 s ∧ fax 10 0 (9 * s + 2) = fay 12 6 s ∧ fax 10 0 (9 * s + 3) = fay 12 7 s ∧ fax 10 0 (9 * s + 4) = fay 12 8 s ∧ fax 10 0 (9 * s + 5) = fay 12 9 s ∧ fax 10 0 (9 * s + 6) = fay 12 10 s ∧ fax 10 0 (9 * s + 7) = fay 12 11 s ∧ fax 10 0 (9 * s + 8) = fay 12 12 s) → (∀ j : Nat, -1 ≤ (fay 12 12 j).toInt) → (∀ j : Nat, (fax 8 1 j).toInt = sg (fay 12 32 j).toInt ∧ 0 ≤ (fay 12 32 j).toInt) → BkE (ivy 12 23).toInt (fax 1 0) (fax 1 1) (fax 1 2) (fax 1 3) (fax 1 4) (fax 1 5) (fay 12 24) (fay 12 25) (fay 12 26) (fay 12 27) (fay 12 28) (fay 12 29) (fay 12 30) (fay 12 31) → va_P (dC, dI) classes (WX x gx cax ivx lvx fax lax) H → va_D A (WX x gx cax ivx lvx fax lax) → va_P (dC, dI) classes (WM y gy cay ivy lvy fay lay) H → va_D A (WM y gy cay ivy lvy fay lay) → va_S A s.heap H locs → W p l e room_1 s m #[Value.ref b] below meth c H locs 98 5431 (lw_Z below #[Value.ref b] s) (F0 m 1508 ls [])) : W p l e room_1 s m #[Value.ref b] below meth c H locs 98 5431 (lw_Z below #[Value.ref b] s) (F0 m 1231 ls []) := by
  obtain ⟨hx, hb, hr, hml, hown, hts, hX, hbl, hlocks, hgv⟩ := id C0
  have ht := tb_of hts
  have hw8r := congrArg Int32.toInt hq_rules
  have hJB : ∀ j : Nat, (j : Int) < (ivx 1 7).toInt → 0 ≤ (fax 1 0 j).toInt := fun j hj => (hbk j (by omega)).2.2.1
  have hJK : ∀ k j : Nat, (k : Int) < (ivy 12 23).toInt → 12 * k ≤ j → (j : Int) < 12 * (k : Int) + (fay 12 25 k).toInt → (fay 12 26 j).toInt = 3 → 0 ≤ (fay 12 28 j).toInt ∧ (fay 12 28 j).toInt < (k : Int) := bk_K hbk
  have hJT : ∀ j : Nat, 0 ≤ (fay 12 32 j).toInt := fun j => (htx j).2
  refine lv_aload_n hx hb dL_law_1231 rfl (lv_at hl 2 rfl) ?_
  have hFc := free_all hDx hS hA
  refine va_calli (va_runV (As := []) (rest := []) ⟨hx, hb, hml, hown, ht⟩ (c_X11_empty l dC dI H.size x gx cax ivx lvx fax lax hIx) (kV 0 ht m_1026 m_1027 m_1028 m_77 m_1029 rfl rfl hd_X11_empty_v ⟨Nat.le_of_ble_eq_true rfl, Nat.le_of_ble_eq_true rfl⟩) (vW hPx hKx hDx (rX_11 hKx hPx)) rfl rfl hl.1 rfl (lv_room (Nat.le_of_ble_eq_true rfl)) dL_law_1232 ⟨Nat.le_of_ble_eq_true rfl, Nat.le_of_ble_eq_true rfl⟩) hS (fun q _ h => hFc q h) hFc (fun r1 u t H1 locs ht9 hvm hr1 hB hz1 hk1 hS => ?_)
  obtain ⟨n2, n3, hn2, hr1, rfl⟩ := hr1
  obtain ⟨hPx, hDx⟩ := hB
  rw [ht9] at hPx
  have hPy := P_kept hPy (la := AdM y gy) (lb := AdX x gx) wmM wmX (fun a ha b hb => (hXY b hb a ha).symm) hk1
  generalize H1 = H at hPx hPy hS ⊢
  have hPx : va_P (dC, dI) classes (WX x gx cax (u2 (u2 ivx 5 4 n2) 5 6 n3) lvx fax lax) H := hPx
  have hDx : va_D A (WX x gx cax (u2 (u2 ivx 5 4 n2) 5 6 n3) lvx fax lax) := (show va_D _ (WX x gx cax (u2 (u2 ivx 5 4 n2) 5 6 n3) lvx fax lax) from hDx).weaken (fun _ _ _ h => hFc _ h)
  refine lv_pop hx hb dL_law_1235 rfl ?_
  refine lv_aload_n hx hb dL_law_1236 rfl (lv_at hl 1 rfl) ?_
  have hFc := free_all hDy hS hA
  refine va_calli (va_runV (As := []) (rest := []) ⟨hx, hb, hml, hown, ht⟩ (c_X12_empty l dC dI H.size y gy cay ivy lvy fay lay hIy) (kV 0 ht m_1656 m_1657 m_1658 m_89 m_1659 rfl rfl hd_X12_empty_v ⟨Nat.le_of_ble_eq_true rfl, Nat.le_of_ble_eq_true rfl⟩) (vW hPy hKy hDy (rM_12 hKy hPy)) rfl rfl hl.1 rfl (lv_room (Nat.le_of_ble_eq_true rfl)) dL_law_1237 ⟨Nat.le_of_ble_eq_true rfl, Nat.le_of_ble_eq_true rfl⟩) hS (fun q _ h => hFc q h) hFc (fun r4 u t H1 locs ht9 hvm hr4 hB hz1 hk1 hS => ?_)
  obtain ⟨n5, hn5, hr4, rfl⟩ := hr4
  obtain ⟨hPy, hDy⟩ := hB
  rw [ht9] at hPy
  have hPx := P_kept hPx (la := AdX x gx) (lb := AdM y gy) wmX wmM hXY hk1
  generalize H1 = H at hPx hPy hS ⊢
  have hPy : va_P (dC, dI) classes (WM y gy cay (u2 ivy 12 57 n5) lvy fay lay) H := hPy
  have hDy : va_D A (WM y gy cay (u2 ivy 12 57 n5) lvy fay lay) := (show va_D _ (WM y gy cay (u2 ivy 12 57 n5) lvy fay lay) from hDy).weaken (fun _ _ _ h => hFc _ h)
  refine lv_pop hx hb dL_law_1240 rfl ?_
  refine lv_goto (tgt := 1508) hx hb dL_law_1241 (by decide) ?_
  exact kk _ _ (u2 (u2 ivx 5 4 n2) 5 6 n3) lvx fax lax (u2 ivy 12 57 n5) lvy fay lay (IX_i (c := 5) (k := 6) (IX_i (c := 5) (k := 4) hIx hn2) (full_i _)) (IX_i (c := 12) (k := 57) hIy hn5) hJC hJR hJN hJO hq_now hq_bales hq_skeins hq_rules hq_text hq_place hrs hls htx hbk hPx hDx hPy hDy hS
