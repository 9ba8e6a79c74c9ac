/-! ===== law ===== -/
theorem m_989 : Cond.methodLink RL 123 yX11_burnt ∈ tb := mb_4_7 _ (List.mem_of_getElem? (i := 11) rfl)
theorem m_990 : Cond.instanceMethod yX11_burnt ∈ tb := mb_4_7 _ (List.mem_of_getElem? (i := 12) rfl)
theorem m_991 : Cond.selects RX11 yX11_burnt yX11_burnt ∈ tb := mb_4_7 _ (List.mem_of_getElem? (i := 13) rfl)
theorem m_992 : Cond.code yX11_burnt cX11_burnt 5 (some .int) ∈ tb := mb_4_7 _ (List.mem_of_getElem? (i := 14) rfl)
theorem m_993 : Cond.methodLink RL 128 yX11_cheat ∈ tb := mb_4_7 _ (List.mem_of_getElem? (i := 15) rfl)
theorem m_994 : Cond.instanceMethod yX11_cheat ∈ tb := mb_4_7 _ (List.mem_of_getElem? (i := 16) rfl)
theorem m_995 : Cond.selects RX11 yX11_cheat yX11_cheat ∈ tb := mb_4_7 _ (List.mem_of_getElem? (i := 17) rfl)
theorem m_996 : Cond.code yX11_cheat cX11_cheat 6 (some .int) ∈ tb := mb_4_7 _ (List.mem_of_getElem? (i := 18) rfl)
theorem m_1001 : Cond.methodLink RL 132 yX11_load ∈ tb := mb_4_7 _ (List.mem_of_getElem? (i := 22) rfl)
theorem m_1002 : Cond.instanceMethod yX11_load ∈ tb := mb_4_7 _ (List.mem_of_getElem? (i := 23) rfl)
theorem m_1003 : Cond.selects RX11 yX11_load yX11_load ∈ tb := mb_4_8 _ (List.mem_of_getElem? (i := 0) rfl)
theorem m_1004 : Cond.code yX11_load cX11_load 2 (some .int) ∈ tb := mb_4_8 _ (List.mem_of_getElem? (i := 1) rfl)
theorem m_1009 : Cond.methodLink RL 136 yX11_order ∈ tb := mb_4_8 _ (List.mem_of_getElem? (i := 6) rfl)
theorem m_1010 : Cond.instanceMethod yX11_order ∈ tb := mb_4_8 _ (List.mem_of_getElem? (i := 7) rfl)
theorem m_1011 : Cond.selects RX11 yX11_order yX11_order ∈ tb := mb_4_8 _ (List.mem_of_getElem? (i := 8) rfl)
theorem m_1012 : Cond.code yX11_order cX11_order 3 (some .int) ∈ tb := mb_4_8 _ (List.mem_of_getElem? (i := 9) rfl)
theorem m_1026 : Cond.methodLink RL 140 yX11_empty ∈ tb := mb_4_8 _ (List.mem_of_getElem? (i := 22) rfl)
theorem m_1027 : Cond.instanceMethod yX11_empty ∈ tb := mb_4_8 _ (List.mem_of_getElem? (i := 23) rfl)
theorem m_1028 : Cond.selects RX11 yX11_empty yX11_empty ∈ tb := mb_4_9 _ (List.mem_of_getElem? (i := 0) rfl)
theorem m_1029 : Cond.code yX11_empty cX11_empty 1 (some .int) ∈ tb := mb_4_9 _ (List.mem_of_getElem? (i := 1) rfl)
theorem m_1629 : Cond.methodLink RL 127 yX12_burnt ∈ tb := mb_7_4 _ (List.mem_of_getElem? (i := 5) rfl)
theorem m_1630 : Cond.instanceMethod yX12_burnt ∈ tb := mb_7_4 _ (List.mem_of_getElem? (i := 6) rfl)
theorem m_1631 : Cond.selects RX12 yX12_burnt yX12_burnt ∈ tb := mb_7_4 _ (List.mem_of_getElem? (i := 7) rfl)
theorem m_1632 : Cond.code yX12_burnt cX12_burnt 5 (some .int) ∈ tb := mb_7_4 _ (List.mem_of_getElem? (i := 8) rfl)
theorem m_1633 : Cond.methodLink RL 131 yX12_cheat ∈ tb := mb_7_4 _ (List.mem_of_getElem? (i := 9) rfl)
theorem m_1634 : Cond.instanceMethod yX12_cheat ∈ tb := mb_7_4 _ (List.mem_of_getElem? (i := 10) rfl)
theorem m_1635 : Cond.selects RX12 yX12_cheat yX12_cheat ∈ tb := mb_7_4 _ (List.mem_of_getElem? (i := 11) rfl)
theorem m_1636 : Cond.code yX12_cheat cX12_cheat 7 (some .int) ∈ tb := mb_7_4 _ (List.mem_of_getElem? (i := 12) rfl)
theorem m_1637 : Cond.methodLink RL 135 yX12_load ∈ tb := mb_7_4 _ (List.mem_of_getElem? (i := 13) rfl)
theorem m_1638 : Cond.instanceMethod yX12_load ∈ tb := mb_7_4 _ (List.mem_of_getElem? (i := 14) rfl)
theorem m_1639 : Cond.selects RX12 yX12_load yX12_load ∈ tb := mb_7_4 _ (List.mem_of_getElem? (i := 15) rfl)
theorem m_1640 : Cond.code yX12_load cX12_load 2 (some .int) ∈ tb := mb_7_4 _ (List.mem_of_getElem? (i := 16) rfl)
theorem m_1641 : Cond.methodLink RL 139 yX12_order ∈ tb := mb_7_4 _ (List.mem_of_getElem? (i := 17) rfl)
theorem m_1642 : Cond.instanceMethod yX12_order ∈ tb := mb_7_4 _ (List.mem_of_getElem? (i := 18) rfl)
theorem m_1643 : Cond.selects RX12 yX12_order yX12_order ∈ tb := mb_7_4 _ (List.mem_of_getElem? (i := 19) rfl)
theorem m_1644 : Cond.code yX12_order cX12_order 3 (some .int) ∈ tb := mb_7_4 _ (List.mem_of_getElem? (i := 20) rfl)
theorem m_1656 : Cond.methodLink RL 143 yX12_empty ∈ tb := mb_7_5 _ (List.mem_of_getElem? (i := 6) rfl)
theorem m_1657 : Cond.instanceMethod yX12_empty ∈ tb := mb_7_5 _ (List.mem_of_getElem? (i := 7) rfl)
theorem m_1658 : Cond.selects RX12 yX12_empty yX12_empty ∈ tb := mb_7_5 _ (List.mem_of_getElem? (i := 8) rfl)
theorem m_1659 : Cond.code yX12_empty cX12_empty 2 (some .int) ∈ tb := mb_7_5 _ (List.mem_of_getElem? (i := 9) rfl)
theorem hd_X11_burnt_v : yX11_burnt.cls = RX11 ∧ yX11_burnt.cls ≠ "java/lang/invoke/MethodHandle" ∧ yX11_burnt.cls ≠ "java/lang/invoke/VarHandle" ∧ (parseMethodDescriptor yX11_burnt.desc).map (fun d => d.parameters.length) = some 4 := by decide +kernel
theorem hd_X11_cheat_v : yX11_cheat.cls = RX11 ∧ yX11_cheat.cls ≠ "java/lang/invoke/MethodHandle" ∧ yX11_cheat.cls ≠ "java/lang/invoke/VarHandle" ∧ (parseMethodDescriptor yX11_cheat.desc).map (fun d => d.parameters.length) = some 4 := by decide +kernel
theorem hd_X11_empty_v : yX11_empty.cls = RX11 ∧ yX11_empty.cls ≠ "java/lang/invoke/MethodHandle" ∧ yX11_empty.cls ≠ "java/lang/invoke/VarHandle" ∧ (parseMethodDescriptor yX11_empty.desc).map (fun d => d.parameters.length) = some 0 := by decide +kernel
theorem hd_X11_load_v : yX11_load.cls = RX11 ∧ yX11_load.cls ≠ "java/lang/invoke/MethodHandle" ∧ yX11_load.cls ≠ "java/lang/invoke/VarHandle" ∧ (parseMethodDescriptor yX11_load.desc).map (fun d => d.parameters.length) = some 1 := by decide +kernel
theorem hd_X11_order_v : yX11_order.cls = RX11 ∧ yX11_order.cls ≠ "java/lang/invoke/MethodHandle" ∧ yX11_order.cls ≠ "java/lang/invoke/VarHandle" ∧ (parseMethodDescriptor yX11_order.desc).map (fun d => d.parameters.length) = some 2 := by decide +kernel
theorem hd_X12_burnt_v : yX12_burnt.cls = RX12 ∧ yX12_burnt.cls ≠ "java/lang/invoke/MethodHandle" ∧ yX12_burnt.cls ≠ "java/lang/invoke/VarHandle" ∧ (parseMethodDescriptor yX12_burnt.desc).map (fun d => d.parameters.length) = some 4 := by decide +kernel
theorem hd_X12_cheat_v : yX12_cheat.cls = RX12 ∧ yX12_cheat.cls ≠ "java/lang/invoke/MethodHandle" ∧ yX12_cheat.cls ≠ "java/lang/invoke/VarHandle" ∧ (parseMethodDescriptor yX12_cheat.desc).map (fun d => d.parameters.length) = some 4 := by decide +kernel
theorem hd_X12_empty_v : yX12_empty.cls = RX12 ∧ yX12_empty.cls ≠ "java/lang/invoke/MethodHandle" ∧ yX12_empty.cls ≠ "java/lang/invoke/VarHandle" ∧ (parseMethodDescriptor yX12_empty.desc).map (fun d => d.parameters.length) = some 0 := by decide +kernel
theorem hd_X12_load_v : yX12_load.cls = RX12 ∧ yX12_load.cls ≠ "java/lang/invoke/MethodHandle" ∧ yX12_load.cls ≠ "java/lang/invoke/VarHandle" ∧ (parseMethodDescriptor yX12_load.desc).map (fun d => d.parameters.length) = some 1 := by decide +kernel
theorem hd_X12_order_v : yX12_order.cls = RX12 ∧ yX12_order.cls ≠ "java/lang/invoke/MethodHandle" ∧ yX12_order.cls ≠ "java/lang/invoke/VarHandle" ∧ (parseMethodDescriptor yX12_order.desc).map (fun d => d.parameters.length) = some 2 := by decide +kernel
theorem dL_law_1069 : decode cL_law 1069 = .ok (.aload_n 1, 1) := dk_43 (w_at wL_44 13 (p := 1069) rfl rfl rfl)
theorem dL_law_1070 : decode cL_law 1070 = .ok (.aload_n 0, 1) := dk_42 (w_at wL_44 14 (p := 1070) rfl rfl rfl)
theorem dL_law_1071 : decode cL_law 1071 = .ok (.iload_n 3, 1) := dk_29 (w_at wL_44 15 (p := 1071) rfl rfl rfl)
theorem dL_law_1072 : decode cL_law 1072 = .ok (.iconst 1, 1) := dk_4 (w_at wL_44 16 (p := 1072) rfl rfl rfl)
theorem dL_law_1073 : decode cL_law 1073 = .ok (.iadd, 1) := dk_96 (w_at wL_44 17 (p := 1073) rfl rfl rfl)
theorem dL_law_1074 : decode cL_law 1074 = .ok (.iaload, 1) := dk_46 (w_at wL_44 18 (p := 1074) rfl rfl rfl)
theorem dL_law_1075 : decode cL_law 1075 = .ok (.aload_n 0, 1) := dk_42 (w_at wL_44 19 (p := 1075) rfl rfl rfl)
theorem dL_law_1076 : decode cL_law 1076 = .ok (.iload_n 3, 1) := dk_29 (w_at wL_44 20 (p := 1076) rfl rfl rfl)
theorem dL_law_1077 : decode cL_law 1077 = .ok (.iconst 2, 1) := dk_5 (w_at wL_44 21 (p := 1077) rfl rfl rfl)
theorem dL_law_1078 : decode cL_law 1078 = .ok (.iadd, 1) := dk_96 (w_at wL_44 22 (p := 1078) rfl rfl rfl)
theorem dL_law_1079 : decode cL_law 1079 = .ok (.iaload, 1) := dk_46 (w_at wL_44 23 (p := 1079) rfl rfl rfl)
set_option maxRecDepth 100000 in
theorem wL_45 : Win cL_law 1080 [42, 29, 6, 96, 46, 42, 29, 7, 96, 46, 182, 0, 123, 87, 44, 42, 29, 4, 96, 46, 42, 29, 5, 96, 46, 42, 29, 6] := Win_sub (o := 960) (o2 := 120) (n := 28) WL_4 (by decide +kernel)
theorem dL_law_1080 : decode cL_law 1080 = .ok (.aload_n 0, 1) := dk_42 (w_at wL_45 0 (p := 1080) rfl rfl rfl)
theorem dL_law_1081 : decode cL_law 1081 = .ok (.iload_n 3, 1) := dk_29 (w_at wL_45 1 (p := 1081) rfl rfl rfl)
theorem dL_law_1082 : decode cL_law 1082 = .ok (.iconst 3, 1) := dk_6 (w_at wL_45 2 (p := 1082) rfl rfl rfl)
theorem dL_law_1083 : decode cL_law 1083 = .ok (.iadd, 1) := dk_96 (w_at wL_45 3 (p := 1083) rfl rfl rfl)
theorem dL_law_1084 : decode cL_law 1084 = .ok (.iaload, 1) := dk_46 (w_at wL_45 4 (p := 1084) rfl rfl rfl)
theorem dL_law_1085 : decode cL_law 1085 = .ok (.aload_n 0, 1) := dk_42 (w_at wL_45 5 (p := 1085) rfl rfl rfl)
theorem dL_law_1086 : decode cL_law 1086 = .ok (.iload_n 3, 1) := dk_29 (w_at wL_45 6 (p := 1086) rfl rfl rfl)
theorem dL_law_1087 : decode cL_law 1087 = .ok (.iconst 4, 1) := dk_7 (w_at wL_45 7 (p := 1087) rfl rfl rfl)
theorem dL_law_1088 : decode cL_law 1088 = .ok (.iadd, 1) := dk_96 (w_at wL_45 8 (p := 1088) rfl rfl rfl)
theorem dL_law_1089 : decode cL_law 1089 = .ok (.iaload, 1) := dk_46 (w_at wL_45 9 (p := 1089) rfl rfl rfl)
theorem dL_law_1090 : decode cL_law 1090 = .ok (.invokevirtual 123, 3) := dk_iv (w_at wL_45 10 (p := 1090) rfl rfl rfl) (w_at wL_45 11 (p := 1091) rfl rfl rfl) (w_at wL_45 12 (p := 1092) rfl rfl rfl) rfl
theorem dL_law_1093 : decode cL_law 1093 = .ok (.pop, 1) := dk_87 (w_at wL_45 13 (p := 1093) rfl rfl rfl)
theorem dL_law_1094 : decode cL_law 1094 = .ok (.aload_n 2, 1) := dk_44 (w_at wL_45 14 (p := 1094) rfl rfl rfl)
theorem dL_law_1095 : decode cL_law 1095 = .ok (.aload_n 0, 1) := dk_42 (w_at wL_45 15 (p := 1095) rfl rfl rfl)
theorem dL_law_1096 : decode cL_law 1096 = .ok (.iload_n 3, 1) := dk_29 (w_at wL_45 16 (p := 1096) rfl rfl rfl)
theorem dL_law_1097 : decode cL_law 1097 = .ok (.iconst 1, 1) := dk_4 (w_at wL_45 17 (p := 1097) rfl rfl rfl)
theorem dL_law_1098 : decode cL_law 1098 = .ok (.iadd, 1) := dk_96 (w_at wL_45 18 (p := 1098) rfl rfl rfl)
theorem dL_law_1099 : decode cL_law 1099 = .ok (.iaload, 1) := dk_46 (w_at wL_45 19 (p := 1099) rfl rfl rfl)
theorem dL_law_1100 : decode cL_law 1100 = .ok (.aload_n 0, 1) := dk_42 (w_at wL_45 20 (p := 1100) rfl rfl rfl)
theorem dL_law_1101 : decode cL_law 1101 = .ok (.iload_n 3, 1) := dk_29 (w_at wL_45 21 (p := 1101) rfl rfl rfl)
theorem dL_law_1102 : decode cL_law 1102 = .ok (.iconst 2, 1) := dk_5 (w_at wL_45 22 (p := 1102) rfl rfl rfl)
theorem dL_law_1103 : decode cL_law 1103 = .ok (.iadd, 1) := dk_96 (w_at wL_45 23 (p := 1103) rfl rfl rfl)
set_option maxRecDepth 100000 in
theorem wL_46 : Win cL_law 1104 [46, 42, 29, 6, 96, 46, 42, 29, 7, 96, 46, 182, 0, 127, 87, 167, 1, 134, 43, 42, 29, 4, 96, 46, 42, 29, 5, 96] := Win_sub (o := 960) (o2 := 144) (n := 28) WL_4 (by decide +kernel)
theorem dL_law_1104 : decode cL_law 1104 = .ok (.iaload, 1) := dk_46 (w_at wL_46 0 (p := 1104) rfl rfl rfl)
theorem dL_law_1105 : decode cL_law 1105 = .ok (.aload_n 0, 1) := dk_42 (w_at wL_46 1 (p := 1105) rfl rfl rfl)
theorem dL_law_1106 : decode cL_law 1106 = .ok (.iload_n 3, 1) := dk_29 (w_at wL_46 2 (p := 1106) rfl rfl rfl)
theorem dL_law_1107 : decode cL_law 1107 = .ok (.iconst 3, 1) := dk_6 (w_at wL_46 3 (p := 1107) rfl rfl rfl)
theorem dL_law_1108 : decode cL_law 1108 = .ok (.iadd, 1) := dk_96 (w_at wL_46 4 (p := 1108) rfl rfl rfl)
theorem dL_law_1109 : decode cL_law 1109 = .ok (.iaload, 1) := dk_46 (w_at wL_46 5 (p := 1109) rfl rfl rfl)
theorem dL_law_1110 : decode cL_law 1110 = .ok (.aload_n 0, 1) := dk_42 (w_at wL_46 6 (p := 1110) rfl rfl rfl)
theorem dL_law_1111 : decode cL_law 1111 = .ok (.iload_n 3, 1) := dk_29 (w_at wL_46 7 (p := 1111) rfl rfl rfl)
theorem dL_law_1112 : decode cL_law 1112 = .ok (.iconst 4, 1) := dk_7 (w_at wL_46 8 (p := 1112) rfl rfl rfl)
theorem dL_law_1113 : decode cL_law 1113 = .ok (.iadd, 1) := dk_96 (w_at wL_46 9 (p := 1113) rfl rfl rfl)
theorem dL_law_1114 : decode cL_law 1114 = .ok (.iaload, 1) := dk_46 (w_at wL_46 10 (p := 1114) rfl rfl rfl)
theorem dL_law_1115 : decode cL_law 1115 = .ok (.invokevirtual 127, 3) := dk_iv (w_at wL_46 11 (p := 1115) rfl rfl rfl) (w_at wL_46 12 (p := 1116) rfl rfl rfl) (w_at wL_46 13 (p := 1117) rfl rfl rfl) rfl
theorem dL_law_1118 : decode cL_law 1118 = .ok (.pop, 1) := dk_87 (w_at wL_46 14 (p := 1118) rfl rfl rfl)
theorem dL_law_1122 : decode cL_law 1122 = .ok (.aload_n 1, 1) := dk_43 (w_at wL_46 18 (p := 1122) rfl rfl rfl)
theorem dL_law_1123 : decode cL_law 1123 = .ok (.aload_n 0, 1) := dk_42 (w_at wL_46 19 (p := 1123) rfl rfl rfl)
theorem dL_law_1124 : decode cL_law 1124 = .ok (.iload_n 3, 1) := dk_29 (w_at wL_46 20 (p := 1124) rfl rfl rfl)
theorem dL_law_1125 : decode cL_law 1125 = .ok (.iconst 1, 1) := dk_4 (w_at wL_46 21 (p := 1125) rfl rfl rfl)
theorem dL_law_1126 : decode cL_law 1126 = .ok (.iadd, 1) := dk_96 (w_at wL_46 22 (p := 1126) rfl rfl rfl)
theorem dL_law_1127 : decode cL_law 1127 = .ok (.iaload, 1) := dk_46 (w_at wL_46 23 (p := 1127) rfl rfl rfl)
set_option maxRecDepth 100000 in
theorem wL_47 : Win cL_law 1128 [42, 29, 5, 96, 46, 42, 29, 6, 96, 46, 42, 29, 7, 96, 46, 182, 0, 128, 87, 44, 42, 29, 4, 96, 46, 42, 29, 5] := Win_sub (o := 960) (o2 := 168) (n := 28) WL_4 (by decide +kernel)
theorem dL_law_1128 : decode cL_law 1128 = .ok (.aload_n 0, 1) := dk_42 (w_at wL_47 0 (p := 1128) rfl rfl rfl)
theorem dL_law_1129 : decode cL_law 1129 = .ok (.iload_n 3, 1) := dk_29 (w_at wL_47 1 (p := 1129) rfl rfl rfl)
theorem dL_law_1130 : decode cL_law 1130 = .ok (.iconst 2, 1) := dk_5 (w_at wL_47 2 (p := 1130) rfl rfl rfl)
theorem dL_law_1131 : decode cL_law 1131 = .ok (.iadd, 1) := dk_96 (w_at wL_47 3 (p := 1131) rfl rfl rfl)
theorem dL_law_1132 : decode cL_law 1132 = .ok (.iaload, 1) := dk_46 (w_at wL_47 4 (p := 1132) rfl rfl rfl)
theorem dL_law_1133 : decode cL_law 1133 = .ok (.aload_n 0, 1) := dk_42 (w_at wL_47 5 (p := 1133) rfl rfl rfl)
theorem dL_law_1134 : decode cL_law 1134 = .ok (.iload_n 3, 1) := dk_29 (w_at wL_47 6 (p := 1134) rfl rfl rfl)
theorem dL_law_1135 : decode cL_law 1135 = .ok (.iconst 3, 1) := dk_6 (w_at wL_47 7 (p := 1135) rfl rfl rfl)
theorem dL_law_1136 : decode cL_law 1136 = .ok (.iadd, 1) := dk_96 (w_at wL_47 8 (p := 1136) rfl rfl rfl)
theorem dL_law_1137 : decode cL_law 1137 = .ok (.iaload, 1) := dk_46 (w_at wL_47 9 (p := 1137) rfl rfl rfl)
theorem dL_law_1138 : decode cL_law 1138 = .ok (.aload_n 0, 1) := dk_42 (w_at wL_47 10 (p := 1138) rfl rfl rfl)
theorem dL_law_1139 : decode cL_law 1139 = .ok (.iload_n 3, 1) := dk_29 (w_at wL_47 11 (p := 1139) rfl rfl rfl)
theorem dL_law_1140 : decode cL_law 1140 = .ok (.iconst 4, 1) := dk_7 (w_at wL_47 12 (p := 1140) rfl rfl rfl)
theorem dL_law_1141 : decode cL_law 1141 = .ok (.iadd, 1) := dk_96 (w_at wL_47 13 (p := 1141) rfl rfl rfl)
theorem dL_law_1142 : decode cL_law 1142 = .ok (.iaload, 1) := dk_46 (w_at wL_47 14 (p := 1142) rfl rfl rfl)
theorem dL_law_1143 : decode cL_law 1143 = .ok (.invokevirtual 128, 3) := dk_iv (w_at wL_47 15 (p := 1143) rfl rfl rfl) (w_at wL_47 16 (p := 1144) rfl rfl rfl) (w_at wL_47 17 (p := 1145) rfl rfl rfl) rfl
theorem dL_law_1146 : decode cL_law 1146 = .ok (.pop, 1) := dk_87 (w_at wL_47 18 (p := 1146) rfl rfl rfl)
theorem dL_law_1147 : decode cL_law 1147 = .ok (.aload_n 2, 1) := dk_44 (w_at wL_47 19 (p := 1147) rfl rfl rfl)
theorem dL_law_1148 : decode cL_law 1148 = .ok (.aload_n 0, 1) := dk_42 (w_at wL_47 20 (p := 1148) rfl rfl rfl)
theorem dL_law_1149 : decode cL_law 1149 = .ok (.iload_n 3, 1) := dk_29 (w_at wL_47 21 (p := 1149) rfl rfl rfl)
theorem dL_law_1150 : decode cL_law 1150 = .ok (.iconst 1, 1) := dk_4 (w_at wL_47 22 (p := 1150) rfl rfl rfl)
theorem dL_law_1151 : decode cL_law 1151 = .ok (.iadd, 1) := dk_96 (w_at wL_47 23 (p := 1151) rfl rfl rfl)
set_option maxRecDepth 100000 in
theorem wL_48 : Win cL_law 1152 [46, 42, 29, 5, 96, 46, 42, 29, 6, 96, 46, 42, 29, 7, 96, 46, 182, 0, 131, 87, 167, 1, 81, 43, 42, 29, 4, 96] := Win_sub (o := 960) (o2 := 192) (n := 28) WL_4 (by decide +kernel)
theorem dL_law_1152 : decode cL_law 1152 = .ok (.iaload, 1) := dk_46 (w_at wL_48 0 (p := 1152) rfl rfl rfl)
theorem dL_law_1153 : decode cL_law 1153 = .ok (.aload_n 0, 1) := dk_42 (w_at wL_48 1 (p := 1153) rfl rfl rfl)
theorem dL_law_1154 : decode cL_law 1154 = .ok (.iload_n 3, 1) := dk_29 (w_at wL_48 2 (p := 1154) rfl rfl rfl)
theorem dL_law_1155 : decode cL_law 1155 = .ok (.iconst 2, 1) := dk_5 (w_at wL_48 3 (p := 1155) rfl rfl rfl)
theorem dL_law_1156 : decode cL_law 1156 = .ok (.iadd, 1) := dk_96 (w_at wL_48 4 (p := 1156) rfl rfl rfl)
theorem dL_law_1157 : decode cL_law 1157 = .ok (.iaload, 1) := dk_46 (w_at wL_48 5 (p := 1157) rfl rfl rfl)
theorem dL_law_1158 : decode cL_law 1158 = .ok (.aload_n 0, 1) := dk_42 (w_at wL_48 6 (p := 1158) rfl rfl rfl)
theorem dL_law_1159 : decode cL_law 1159 = .ok (.iload_n 3, 1) := dk_29 (w_at wL_48 7 (p := 1159) rfl rfl rfl)
theorem dL_law_1160 : decode cL_law 1160 = .ok (.iconst 3, 1) := dk_6 (w_at wL_48 8 (p := 1160) rfl rfl rfl)
theorem dL_law_1161 : decode cL_law 1161 = .ok (.iadd, 1) := dk_96 (w_at wL_48 9 (p := 1161) rfl rfl rfl)
theorem dL_law_1162 : decode cL_law 1162 = .ok (.iaload, 1) := dk_46 (w_at wL_48 10 (p := 1162) rfl rfl rfl)
theorem dL_law_1163 : decode cL_law 1163 = .ok (.aload_n 0, 1) := dk_42 (w_at wL_48 11 (p := 1163) rfl rfl rfl)
theorem dL_law_1164 : decode cL_law 1164 = .ok (.iload_n 3, 1) := dk_29 (w_at wL_48 12 (p := 1164) rfl rfl rfl)
theorem dL_law_1165 : decode cL_law 1165 = .ok (.iconst 4, 1) := dk_7 (w_at wL_48 13 (p := 1165) rfl rfl rfl)
theorem dL_law_1166 : decode cL_law 1166 = .ok (.iadd, 1) := dk_96 (w_at wL_48 14 (p := 1166) rfl rfl rfl)
theorem dL_law_1167 : decode cL_law 1167 = .ok (.iaload, 1) := dk_46 (w_at wL_48 15 (p := 1167) rfl rfl rfl)
theorem dL_law_1168 : decode cL_law 1168 = .ok (.invokevirtual 131, 3) := dk_iv (w_at wL_48 16 (p := 1168) rfl rfl rfl) (w_at wL_48 17 (p := 1169) rfl rfl rfl) (w_at wL_48 18 (p := 1170) rfl rfl rfl) rfl
theorem dL_law_1171 : decode cL_law 1171 = .ok (.pop, 1) := dk_87 (w_at wL_48 19 (p := 1171) rfl rfl rfl)
theorem dL_law_1175 : decode cL_law 1175 = .ok (.aload_n 1, 1) := dk_43 (w_at wL_48 23 (p := 1175) rfl rfl rfl)
set_option maxRecDepth 100000 in
theorem wL_49 : Win cL_law 1176 [42, 29, 4, 96, 46, 182, 0, 132, 87, 44, 42, 29, 4, 96, 46, 182, 0, 135, 87, 167, 1, 58, 43, 42, 29, 4, 96, 46] := Win_sub (o := 960) (o2 := 216) (n := 28) WL_4 (by decide +kernel)
theorem dL_law_1176 : decode cL_law 1176 = .ok (.aload_n 0, 1) := dk_42 (w_at wL_49 0 (p := 1176) rfl rfl rfl)
theorem dL_law_1177 : decode cL_law 1177 = .ok (.iload_n 3, 1) := dk_29 (w_at wL_49 1 (p := 1177) rfl rfl rfl)
theorem dL_law_1178 : decode cL_law 1178 = .ok (.iconst 1, 1) := dk_4 (w_at wL_49 2 (p := 1178) rfl rfl rfl)
theorem dL_law_1179 : decode cL_law 1179 = .ok (.iadd, 1) := dk_96 (w_at wL_49 3 (p := 1179) rfl rfl rfl)
theorem dL_law_1180 : decode cL_law 1180 = .ok (.iaload, 1) := dk_46 (w_at wL_49 4 (p := 1180) rfl rfl rfl)
theorem dL_law_1181 : decode cL_law 1181 = .ok (.invokevirtual 132, 3) := dk_iv (w_at wL_49 5 (p := 1181) rfl rfl rfl) (w_at wL_49 6 (p := 1182) rfl rfl rfl) (w_at wL_49 7 (p := 1183) rfl rfl rfl) rfl
theorem dL_law_1184 : decode cL_law 1184 = .ok (.pop, 1) := dk_87 (w_at wL_49 8 (p := 1184) rfl rfl rfl)
theorem dL_law_1185 : decode cL_law 1185 = .ok (.aload_n 2, 1) := dk_44 (w_at wL_49 9 (p := 1185) rfl rfl rfl)
theorem dL_law_1186 : decode cL_law 1186 = .ok (.aload_n 0, 1) := dk_42 (w_at wL_49 10 (p := 1186) rfl rfl rfl)
theorem dL_law_1187 : decode cL_law 1187 = .ok (.iload_n 3, 1) := dk_29 (w_at wL_49 11 (p := 1187) rfl rfl rfl)
theorem dL_law_1188 : decode cL_law 1188 = .ok (.iconst 1, 1) := dk_4 (w_at wL_49 12 (p := 1188) rfl rfl rfl)
theorem dL_law_1189 : decode cL_law 1189 = .ok (.iadd, 1) := dk_96 (w_at wL_49 13 (p := 1189) rfl rfl rfl)
theorem dL_law_1190 : decode cL_law 1190 = .ok (.iaload, 1) := dk_46 (w_at wL_49 14 (p := 1190) rfl rfl rfl)
theorem dL_law_1191 : decode cL_law 1191 = .ok (.invokevirtual 135, 3) := dk_iv (w_at wL_49 15 (p := 1191) rfl rfl rfl) (w_at wL_49 16 (p := 1192) rfl rfl rfl) (w_at wL_49 17 (p := 1193) rfl rfl rfl) rfl
theorem dL_law_1194 : decode cL_law 1194 = .ok (.pop, 1) := dk_87 (w_at wL_49 18 (p := 1194) rfl rfl rfl)
theorem dL_law_1198 : decode cL_law 1198 = .ok (.aload_n 1, 1) := dk_43 (w_at wL_49 22 (p := 1198) rfl rfl rfl)
theorem dL_law_1199 : decode cL_law 1199 = .ok (.aload_n 0, 1) := dk_42 (w_at wL_49 23 (p := 1199) rfl rfl rfl)
def bL_5 : List UInt8 := [29, 4, 96, 46, 42, 29, 5, 96, 46, 182, 0, 136, 87, 44, 42, 29, 4, 96, 46, 42, 29, 5, 96, 46, 182, 0, 139, 87, 167, 1, 25, 43, 182, 0, 140, 87, 44, 182, 0, 143, 87, 167, 1, 12, 43, 42, 29, 4, 96, 46, 42, 29, 5, 96, 46, 42, 29, 6, 96, 46, 42, 29, 7, 96, 46, 182, 0, 144, 87, 44, 42, 29, 4, 96, 46, 42, 29, 5, 96, 46, 42, 29, 6, 96, 46, 42, 29, 7, 96, 46, 182, 0, 147, 87, 167, 0, 215, 43, 42, 29, 4, 96, 46, 182, 0, 148, 87, 44, 42, 29, 4, 96, 46, 182, 0, 151, 87, 167, 0, 192, 43, 42, 29, 4, 96, 46, 182, 0, 152, 87, 44, 42, 29, 4, 96, 46, 182, 0, 155, 87, 167, 0, 169, 43, 42, 29, 4, 96, 46, 42, 29, 5, 96, 46, 182, 0, 156, 87, 44, 42, 29, 4, 96, 46, 42, 29, 5, 96, 46, 182, 0, 159, 87, 167, 0, 136, 43, 42, 29, 4, 96, 46, 42, 29, 5, 96, 46, 42, 29, 6, 96, 46, 182, 0, 160, 87, 44, 42, 29, 4, 96, 46, 42, 29, 5, 96, 46, 42, 29, 6, 96, 46, 182, 0, 163, 87, 167, 0, 93, 43, 42, 29, 4, 96, 46, 182, 0, 164, 87, 44, 42, 29, 4, 96, 46, 182, 0, 167, 87, 167, 0, 70, 43, 42, 29, 4, 96, 46, 42, 29, 5, 96, 46, 182, 0, 168, 87, 44, 42, 29, 4, 96, 46, 42, 29, 5, 96, 46]
set_option maxRecDepth 100000 in
theorem WL_5 : Win cL_law 1200 bL_5 := Win_of (n := 268) (by decide +kernel)
set_option maxRecDepth 100000 in
theorem wL_50 : Win cL_law 1200 [29, 4, 96, 46, 42, 29, 5, 96, 46, 182, 0, 136, 87, 44, 42, 29, 4, 96, 46, 42, 29, 5, 96, 46, 182, 0, 139, 87] := Win_sub (o := 1200) (o2 := 0) (n := 28) WL_5 (by decide +kernel)
theorem dL_law_1200 : decode cL_law 1200 = .ok (.iload_n 3, 1) := dk_29 (w_at wL_50 0 (p := 1200) rfl rfl rfl)
theorem dL_law_1201 : decode cL_law 1201 = .ok (.iconst 1, 1) := dk_4 (w_at wL_50 1 (p := 1201) rfl rfl rfl)
theorem dL_law_1202 : decode cL_law 1202 = .ok (.iadd, 1) := dk_96 (w_at wL_50 2 (p := 1202) rfl rfl rfl)
theorem dL_law_1203 : decode cL_law 1203 = .ok (.iaload, 1) := dk_46 (w_at wL_50 3 (p := 1203) rfl rfl rfl)
theorem dL_law_1204 : decode cL_law 1204 = .ok (.aload_n 0, 1) := dk_42 (w_at wL_50 4 (p := 1204) rfl rfl rfl)
theorem dL_law_1205 : decode cL_law 1205 = .ok (.iload_n 3, 1) := dk_29 (w_at wL_50 5 (p := 1205) rfl rfl rfl)
theorem dL_law_1206 : decode cL_law 1206 = .ok (.iconst 2, 1) := dk_5 (w_at wL_50 6 (p := 1206) rfl rfl rfl)
theorem dL_law_1207 : decode cL_law 1207 = .ok (.iadd, 1) := dk_96 (w_at wL_50 7 (p := 1207) rfl rfl rfl)
theorem dL_law_1208 : decode cL_law 1208 = .ok (.iaload, 1) := dk_46 (w_at wL_50 8 (p := 1208) rfl rfl rfl)
theorem dL_law_1209 : decode cL_law 1209 = .ok (.invokevirtual 136, 3) := dk_iv (w_at wL_50 9 (p := 1209) rfl rfl rfl) (w_at wL_50 10 (p := 1210) rfl rfl rfl) (w_at wL_50 11 (p := 1211) rfl rfl rfl) rfl
theorem dL_law_1212 : decode cL_law 1212 = .ok (.pop, 1) := dk_87 (w_at wL_50 12 (p := 1212) rfl rfl rfl)
theorem dL_law_1213 : decode cL_law 1213 = .ok (.aload_n 2, 1) := dk_44 (w_at wL_50 13 (p := 1213) rfl rfl rfl)
theorem dL_law_1214 : decode cL_law 1214 = .ok (.aload_n 0, 1) := dk_42 (w_at wL_50 14 (p := 1214) rfl rfl rfl)
theorem dL_law_1215 : decode cL_law 1215 = .ok (.iload_n 3, 1) := dk_29 (w_at wL_50 15 (p := 1215) rfl rfl rfl)
theorem dL_law_1216 : decode cL_law 1216 = .ok (.iconst 1, 1) := dk_4 (w_at wL_50 16 (p := 1216) rfl rfl rfl)
theorem dL_law_1217 : decode cL_law 1217 = .ok (.iadd, 1) := dk_96 (w_at wL_50 17 (p := 1217) rfl rfl rfl)
theorem dL_law_1218 : decode cL_law 1218 = .ok (.iaload, 1) := dk_46 (w_at wL_50 18 (p := 1218) rfl rfl rfl)
theorem dL_law_1219 : decode cL_law 1219 = .ok (.aload_n 0, 1) := dk_42 (w_at wL_50 19 (p := 1219) rfl rfl rfl)
theorem dL_law_1220 : decode cL_law 1220 = .ok (.iload_n 3, 1) := dk_29 (w_at wL_50 20 (p := 1220) rfl rfl rfl)
theorem dL_law_1221 : decode cL_law 1221 = .ok (.iconst 2, 1) := dk_5 (w_at wL_50 21 (p := 1221) rfl rfl rfl)
theorem dL_law_1222 : decode cL_law 1222 = .ok (.iadd, 1) := dk_96 (w_at wL_50 22 (p := 1222) rfl rfl rfl)
theorem dL_law_1223 : decode cL_law 1223 = .ok (.iaload, 1) := dk_46 (w_at wL_50 23 (p := 1223) rfl rfl rfl)
set_option maxRecDepth 100000 in
theorem wL_51 : Win cL_law 1224 [182, 0, 139, 87, 167, 1, 25, 43, 182, 0, 140, 87, 44, 182, 0, 143, 87, 167, 1, 12, 43, 42, 29, 4, 96, 46, 42, 29] := Win_sub (o := 1200) (o2 := 24) (n := 28) WL_5 (by decide +kernel)
theorem dL_law_1224 : decode cL_law 1224 = .ok (.invokevirtual 139, 3) := dk_iv (w_at wL_51 0 (p := 1224) rfl rfl rfl) (w_at wL_51 1 (p := 1225) rfl rfl rfl) (w_at wL_51 2 (p := 1226) rfl rfl rfl) rfl
theorem dL_law_1227 : decode cL_law 1227 = .ok (.pop, 1) := dk_87 (w_at wL_51 3 (p := 1227) rfl rfl rfl)
theorem dL_law_1231 : decode cL_law 1231 = .ok (.aload_n 1, 1) := dk_43 (w_at wL_51 7 (p := 1231) rfl rfl rfl)
theorem dL_law_1232 : decode cL_law 1232 = .ok (.invokevirtual 140, 3) := dk_iv (w_at wL_51 8 (p := 1232) rfl rfl rfl) (w_at wL_51 9 (p := 1233) rfl rfl rfl) (w_at wL_51 10 (p := 1234) rfl rfl rfl) rfl
theorem dL_law_1235 : decode cL_law 1235 = .ok (.pop, 1) := dk_87 (w_at wL_51 11 (p := 1235) rfl rfl rfl)
theorem dL_law_1236 : decode cL_law 1236 = .ok (.aload_n 2, 1) := dk_44 (w_at wL_51 12 (p := 1236) rfl rfl rfl)
theorem dL_law_1237 : decode cL_law 1237 = .ok (.invokevirtual 143, 3) := dk_iv (w_at wL_51 13 (p := 1237) rfl rfl rfl) (w_at wL_51 14 (p := 1238) rfl rfl rfl) (w_at wL_51 15 (p := 1239) rfl rfl rfl) rfl
theorem dL_law_1240 : decode cL_law 1240 = .ok (.pop, 1) := dk_87 (w_at wL_51 16 (p := 1240) rfl rfl rfl)
set_option maxRecDepth 100000 in
theorem dvL_law_1119 : ([(1119, .goto 390, 3), (1172, .goto 337, 3), (1195, .goto 314, 3), (1228, .goto 281, 3), (1241, .goto 268, 3)] : List (Nat × Instr × Nat)).all (fun q => decide (decode cL_law q.1 = .ok (q.2.1, q.2.2))) = true := by decide +kernel
theorem dL_law_1119 : decode cL_law 1119 = .ok (.goto 390, 3) := all_at dvL_law_1119 0 rfl
theorem dL_law_1172 : decode cL_law 1172 = .ok (.goto 337, 3) := all_at dvL_law_1119 1 rfl
theorem dL_law_1195 : decode cL_law 1195 = .ok (.goto 314, 3) := all_at dvL_law_1119 2 rfl
theorem dL_law_1228 : decode cL_law 1228 = .ok (.goto 281, 3) := all_at dvL_law_1119 3 rfl
theorem dL_law_1241 : decode cL_law 1241 = .ok (.goto 268, 3) := all_at dvL_law_1119 4 rfl
set_option maxHeartbeats 4000000 in
set_option maxRecDepth 100000 in
theorem law_25 {p : Program} {e : Env} {s : State} {m : MethodId} {below : List Frame} {meth : Method} {c : Code} (l : Launch) {b L : Nat} {xs : Nat → Int32} (hL : L ≤ 4096) (C0 : lw_At p s m meth c b L xs) {dC : Nat → ClassId} {dI : Nat → Nat → Nat} {A : Nat → Prop} (hA : ∀ q : Nat, s.heap.size ≤ q → A q) (hbA : ¬ A b) (hAs : ∀ q : Nat, A q → s.heap.size ≤ q) {x y : Nat} {gx gy : Nat → Nat → Nat} {cax cay : Nat → Nat → ClassId} {ak av : Nat → Nat} (hKx : va_K (dC, dI) classes (TX cax) s) (hKy : va_K (dC, dI) classes (TM cay) s) (hXY : ∀ a ∈ AdX x gx, ∀ b ∈ AdM y gy, a ≠ b) (hZ : zC ak av A s s.heap) {H : Heap} {locs : List Loc} {ivx : Nat → Nat → Int32} {lvx : Nat → Nat → Int64} {fax : Nat → Nat → Nat → Int32} {lax : Nat → Nat → Nat → Int64} {ivy : Nat → Nat → Int32} {lvy : Nat → Nat → Int64} {fay : Nat → Nat → Nat → Int32} {lay : Nat → Nat → Nat → Int64} (hIx : IX ivx fax) (hIy : IX ivy fay) (hJC : JCf (ivy 12 23).toInt (fay 12 25) (fay 12 26) (fay 12 27) (fay 12 28)) (hJR : JRf (ivy 12 3).toInt (fay 12 7)) (hJN : JNf (ivy 12 3).toInt (fay 12 4) (fay 12 5)) (hJO : ((ivy 12 20).toInt = -1 ∧ (ivy 12 21).toInt = -1 ∧ (ivy 12 22).toInt = -1)) (hq_now : ivx 11 10 = ivy 12 0) (hq_bales : ivx 0 7 = ivy 12 1) (hq_skeins : ivx 10 1 = ivy 12 3) (hq_rules : ivx 1 7 = ivy 12 23) (hq_text : ivx 8 2 = ivy 12 33) (hq_place : ivx 8 3 = ivy 12 36) (hq_papers : ivx 6 7 = ivy 12 67) (hrs : (∀ s : Nat, (s : Int) < (ivy 12 3).toInt → fax 10 0 (9 * s + 0) = fay 12 4 s ∧ fax 10 0 (9 * s + 1) = fay 12 5 s ∧ fax 10 0 (9 * s + 2) = fay 12 6 s ∧ fax 10 0 (9 * s + 3) = fay 12 7 s ∧ fax 10 0 (9 * s + 4) = fay 12 8 s ∧ fax 10 0 (9 * s + 5) = fay 12 9 s ∧ fax 10 0 (9 * s + 6) = fay 12 10 s ∧ fax 10 0 (9 * s + 7) = fay 12 11 s ∧ fax 10 0 (9 * s + 8) = fay 12 12 s)) (hls : (∀ j : Nat, -1 ≤ (fay 12 12 j).toInt)) (hwd : (∀ s : Nat, (s : Int) < (ivy 12 3).toInt → (100 ≤ (fay 12 7 s).toInt ∧ (fay 12 7 s).toInt ≤ 9999) ∧ (50 ≤ (fay 12 8 s).toInt ∧ (fay 12 8 s).toInt ≤ 9999))) (htx : (∀ j : Nat, (fax 8 1 j).toInt = sg (fay 12 32 j).toInt ∧ 0 ≤ (fay 12 32 j).toInt)) (hbk : BkE (ivy 12 23).toInt (fax 1 0) (fax 1 1) (fax 1 2) (fax 1 3) (fax 1 4) (fax 1 5) (fay 12 24) (fay 12 25) (fay 12 26) (fay 12 27) (fay 12 28) (fay 12 29) (fay 12 30) (fay 12 31)) (hgr : (∀ j : Nat, fax 0 0 j = fay 12 2 j)) (hgb : (∀ j : Nat, (j : Int) < (ivx 0 7).toInt → 1 ≤ (fax 0 0 j).toInt ∧ (fax 0 0 j).toInt ≤ 99999)) (hpa : PaE (ivy 12 67).toInt (fax 6 0) (fax 6 1) (fax 6 2) (fax 6 3) (fax 6 4) (fax 6 5) (fay 12 68) (fay 12 69) (lay 12 70) (fay 12 71) (fay 12 72) (fay 12 73)) (hdr : (∀ s : Nat, (s : Int) < (ivy 12 3).toInt → (fay 12 8 s).toInt ≤ (fay 12 7 s).toInt)) (hPx : va_P (dC, dI) classes (WX x gx cax ivx lvx fax lax) H) (hDx : va_D A (WX x gx cax ivx lvx fax lax)) (hPy : va_P (dC, dI) classes (WM y gy cay ivy lvy fay lay) H) (hDy : va_D A (WM y gy cay ivy lvy fay lay)) (hS : va_S A s.heap H locs) {i : Int32} {ls : Array Slot} (hl : lv_has ls 4 [(3, .int i), (2, .ref y), (1, .ref x), (0, .ref b)]) (hi : 0 ≤ i.toInt ∧ i.toInt ≤ 4088) (hi8 : i.toInt + 8 ≤ (L : Int)) (kk : ∀ (H : Heap) (locs : List Loc) (ivx : Nat → Nat → Int32) (lvx : Nat → Nat → Int64) (fax : Nat → Nat → Nat → Int32) (lax : Nat → Nat → Nat → Int64) (ivy : Nat → Nat → Int32) (lvy : Nat → Nat → Int64) (fay : Nat → Nat → Nat → Int32) (lay : Nat → Nat → Nat → Int64), IX ivx fax → IX ivy fay → JCf (ivy 12 23).toInt (fay 12 25) (fay 12 26) (fay 12 27) (fay 12 28) → JRf (ivy 12 3).toInt (fay 12 7) → JNf (ivy 12 3).toInt (fay 12 4) (fay 12 5) → ((ivy 12 20).toInt = -1 ∧ (ivy 12 21).toInt = -1 ∧ (ivy 12 22).toInt = -1) → ivx 11 10 = ivy 12 0 → ivx 0 7 = ivy 12 1 → ivx 10 1 = ivy 12 3 → ivx 1 7 = ivy 12 23 → ivx 8 2 = ivy 12 33 → ivx 8 3 = ivy 12 36 → ivx 6 7 = ivy 12 67 → (∀ s : Nat, (s : Int) < (ivy 12 3).toInt → fax 10 0 (9 * s + 0) = fay 12 4 s ∧ fax 10 0 (9 * s + 1) = fay 12 5 s ∧ fax 10 0 (9 * s + 2) = fay 12 6 s ∧ fax 10 0 (9 * s + 3) = fay 12 7 s ∧ fax 10 0 (9 * s + 4) = fay 12 8 s ∧ fax 10 0 (9 * s + 5) = fay 12 9 s ∧ fax 10 0 (9 * s + 6) = fay 12 10 s ∧ fax 10 0 (9 * s + 7) = fay 12 11 s ∧ fax 10 0 (9 * s + 8) = fay 12 12 s) → (∀ j : Nat, -1 ≤ (fay 12 12 j).toInt) → (∀ s : Nat, (s : Int) < (ivy 12 3).toInt → (100 ≤ (fay 12 7 s).toInt ∧ (fay 12 7 s).toInt ≤ 9999) ∧ (50 ≤ (fay 12 8 s).toInt ∧ (fay 12 8 s).toInt ≤ 9999)) → (∀ j : Nat, (fax 8 1 j).toInt = sg (fay 12 32 j).toInt ∧ 0 ≤ (fay 12 32 j).toInt) → BkE (ivy 12 23).toInt (fax 1 0) (fax 1 1) (fax 1 2) (fax 1 3) (fax 1 4) (fax 1 5) (fay 12 24) (fay 12 25) (fay 12 26) (fay 12 27) (fay 12 28) (fay 12 29) (fay 12 30) (fay 12 31) → (∀ j : Nat, fax 0 0 j = fay 12 2 j) → (∀ j : Nat, (j : Int) < (ivx 0 7).toInt → 1 ≤ (fax 0 0 j).toInt ∧ (fax 0 0 j).toInt ≤ 99999) → PaE (ivy 12 67).toInt (fax 6 0) (fax 6 1) (fax 6 2) (fax 6 3) (fax 6 4) (fax 6 5) (fay 12 68) (fay 12 69) (lay 12 70) (fay 12 71) (fay 12 72) (fay 12 73) → (∀ s : Nat, (s : Int) < (ivy 12 3).toInt → (fay 12 8 s).toInt ≤ (fay 12 7 s).toInt) → va_P (dC, dI) classes (WX x gx cax ivx lvx fax lax) H → va_D A (WX x gx cax ivx lvx fax lax) → va_P (dC, dI) classes (WM y gy cay ivy lvy fay lay) H → va_D A (WM y gy cay ivy lvy fay lay) → va_S A s.heap H locs → W p l e room_1 s m #[Value.ref b] below meth c H locs 98 5431 (lw_Z below #[Value.ref b] s) (F0 m 1509 ls [])) : W p l e room_1 s m #[Value.ref b] below meth c H locs 98 5431 (lw_Z below #[Value.ref b] s) (F0 m 1069 ls []) := by
  obtain ⟨hx, hb, hr, hml, hown, hts, hX, hbl, hlocks, hgv⟩ := id C0
  have ht := tb_of hts
  have hJD := hwd
  have hw8 := congrArg Int32.toInt hq_skeins
  have hJW : ∀ s : Nat, (s : Int) < (ivx 10 1).toInt → (100 ≤ (fax 10 0 (9 * s + 3)).toInt ∧ (fax 10 0 (9 * s + 3)).toInt ≤ 9999) ∧ (50 ≤ (fax 10 0 (9 * s + 4)).toInt ∧ (fax 10 0 (9 * s + 4)).toInt ≤ 9999) := fun s hs => by rw [(hrs s (by omega)).2.2.2.1, (hrs s (by omega)).2.2.2.2.1]; exact hwd s (by omega)
  have hw8r := congrArg Int32.toInt hq_rules
  have hJB : ∀ j : Nat, (j : Int) < (ivx 1 7).toInt → 0 ≤ (fax 1 0 j).toInt := fun j hj => (hbk j (by omega)).2.2.1
  have hJK : ∀ k j : Nat, (k : Int) < (ivy 12 23).toInt → 12 * k ≤ j → (j : Int) < 12 * (k : Int) + (fay 12 25 k).toInt → (fay 12 26 j).toInt = 3 → 0 ≤ (fay 12 28 j).toInt ∧ (fay 12 28 j).toInt < (k : Int) := bk_K hbk
  have hw8b := congrArg Int32.toInt hq_bales
  have hJF : ∀ a d v : Int, 0 ≤ a → a ≤ 5 → FoX (ivx 1 7).toInt (fax 1 0) (fax 1 1) (fax 1 2) (fax 1 3) a d v → fLo a ≤ v ∧ v ≤ fHi a := fun a d v h1 h2 x => by rw [hq_rules] at x; exact FoX_b hbk ⟨h1, h2⟩ x
  have hJH : ∀ a d v : Int, 0 ≤ a → a ≤ 5 → FoY (ivy 12 23).toInt (fay 12 24) (fay 12 25) (fay 12 26) (fay 12 27) (fay 12 28) a d v → fLo a ≤ v ∧ v ≤ fHi a := fun a d v h1 h2 x => FoY_b hbk ⟨h1, h2⟩ x
  have hJG := hgb
  have hJI : ∀ j : Nat, (j : Int) < (ivy 12 1).toInt → 1 ≤ (fay 12 2 j).toInt ∧ (fay 12 2 j).toInt ≤ 99999 := fun j hj => by rw [← hgr j]; exact hgb j (by omega)
  have hJL : ∀ b l : Int32, cn0 (fun s => fax 10 0 (9 * s + 0)) (fun s => fax 10 0 (9 * s + 1)) b l (ivx 10 1).toInt.toNat ≤ 12 := fun b l => by rw [hq_skeins, cn0_congr (ob := fay 12 4) (ol := fay 12 5) _ (fun j hj => ⟨(hrs j (by omega)).1, (hrs j (by omega)).2.1⟩)]; exact hJN b l
  have hw8p := congrArg Int32.toInt hq_papers
  have hJQ : ∀ p : Nat, (p : Int) < (ivy 12 67).toInt → 0 ≤ (lay 12 70 p).toInt ∧ ((fay 12 68 p).toInt = 0 → (lay 12 70 p).toInt ≤ 129998) ∧ (lay 12 70 p).toInt ≤ 129868002 ∧ -1 ≤ (fay 12 71 p).toInt ∧ (fay 12 71 p).toInt < (p : Int) := fun p hp => ⟨(hpa p hp).2.2.1, (hpa p hp).2.2.2.1, (hpa p hp).2.2.2.2.1, (hpa p hp).2.2.2.2.2.1, (hpa p hp).2.2.2.2.2.2.1⟩
  have hJP : ∀ p : Nat, (p : Int) < (ivx 6 7).toInt → 0 ≤ (fax 6 2 p).toInt ∧ ((fax 6 0 p).toInt = 0 → (fax 6 2 p).toInt ≤ 129998) ∧ (fax 6 2 p).toInt ≤ 129868002 ∧ -1 ≤ (fax 6 3 p).toInt ∧ (fax 6 3 p).toInt < (p : Int) := fun p hp => by rw [(hpa p (by omega)).1.1, (hpa p (by omega)).1.2.2.1, (hpa p (by omega)).1.2.2.2.1]; exact hJQ p (by omega)
  have hJS : ∀ s : Nat, (s : Int) < (ivx 10 1).toInt → (fax 10 0 (9 * s + 4)).toInt ≤ (fax 10 0 (9 * s + 3)).toInt := fun s hs => by rw [(hrs s (by omega)).2.2.2.1, (hrs s (by omega)).2.2.2.2.1]; exact hdr s (by omega)
  have hJT : ∀ j : Nat, 0 ≤ (fay 12 32 j).toInt := fun j => (htx j).2
  refine lv_aload_n hx hb dL_law_1069 rfl (lv_at hl 2 rfl) ?_
  refine aw_iconst (v := 1) hx hb hX hbl hbA hS hl hi hi8 (by decide) ⟨by decide, by decide⟩ dL_law_1070 dL_law_1071 dL_law_1072 dL_law_1073 dL_law_1074 (fun v1 ev1 v2 ev2 => ?_)
  refine aw_iconst (v := 2) hx hb hX hbl hbA hS hl hi hi8 (by decide) ⟨by decide, by decide⟩ dL_law_1075 dL_law_1076 dL_law_1077 dL_law_1078 dL_law_1079 (fun v3 ev3 v4 ev4 => ?_)
  refine aw_iconst (v := 3) hx hb hX hbl hbA hS hl hi hi8 (by decide) ⟨by decide, by decide⟩ dL_law_1080 dL_law_1081 dL_law_1082 dL_law_1083 dL_law_1084 (fun v5 ev5 v6 ev6 => ?_)
  refine aw_iconst (v := 4) hx hb hX hbl hbA hS hl hi hi8 (by decide) ⟨by decide, by decide⟩ dL_law_1085 dL_law_1086 dL_law_1087 dL_law_1088 dL_law_1089 (fun v7 ev7 v8 ev8 => ?_)
  have hFc := free_all hDx hS hA
  refine va_calli (va_runV (As := [.int v2, .int v4, .int v6, .int v8]) (rest := []) ⟨hx, hb, hml, hown, ht⟩ (c_X11_burnt l dC dI H.size x gx cax ivx lvx fax lax hIx v2 v4 v6 v8) (kV 4 ht m_989 m_990 m_991 m_77 m_992 rfl rfl hd_X11_burnt_v ⟨Nat.le_of_ble_eq_true rfl, Nat.le_of_ble_eq_true rfl⟩) (vW hPx hKx hDx (rX_11 hKx hPx)) rfl rfl hl.1 rfl (lv_room (Nat.le_of_ble_eq_true rfl)) dL_law_1090 ⟨Nat.le_of_ble_eq_true rfl, Nat.le_of_ble_eq_true rfl⟩) hS (fun q _ h => hFc q h) hFc (fun r9 u t H1 locs ht9 hvm hr9 hB hz1 hk1 hS => ?_)
  obtain ⟨n10, n11, hr9, rfl⟩ := hr9
  obtain ⟨hPx, hDx⟩ := hB
  rw [ht9] at hPx
  have hPy := P_kept hPy (la := AdM y gy) (lb := AdX x gx) wmM wmX (fun a ha b hb => (hXY b hb a ha).symm) hk1
  generalize H1 = H at hPx hPy hS ⊢
  have hPx : va_P (dC, dI) classes (WX x gx cax ivx lvx (u2 (u2 fax 0 3 n10) 0 4 n11) lax) H := hPx
  have hDx : va_D A (WX x gx cax ivx lvx (u2 (u2 fax 0 3 n10) 0 4 n11) lax) := (show va_D _ (WX x gx cax ivx lvx (u2 (u2 fax 0 3 n10) 0 4 n11) lax) from hDx).weaken (fun _ _ _ h => hFc _ h)
  refine lv_pop hx hb dL_law_1093 rfl ?_
  refine lv_aload_n hx hb dL_law_1094 rfl (lv_at hl 1 rfl) ?_
  refine aw_iconst (v := 1) hx hb hX hbl hbA hS hl hi hi8 (by decide) ⟨by decide, by decide⟩ dL_law_1095 dL_law_1096 dL_law_1097 dL_law_1098 dL_law_1099 (fun v12 ev12 v13 ev13 => ?_)
  refine aw_iconst (v := 2) hx hb hX hbl hbA hS hl hi hi8 (by decide) ⟨by decide, by decide⟩ dL_law_1100 dL_law_1101 dL_law_1102 dL_law_1103 dL_law_1104 (fun v14 ev14 v15 ev15 => ?_)
  refine aw_iconst (v := 3) hx hb hX hbl hbA hS hl hi hi8 (by decide) ⟨by decide, by decide⟩ dL_law_1105 dL_law_1106 dL_law_1107 dL_law_1108 dL_law_1109 (fun v16 ev16 v17 ev17 => ?_)
  refine aw_iconst (v := 4) hx hb hX hbl hbA hS hl hi hi8 (by decide) ⟨by decide, by decide⟩ dL_law_1110 dL_law_1111 dL_law_1112 dL_law_1113 dL_law_1114 (fun v18 ev18 v19 ev19 => ?_)
  have hFc := free_all hDy hS hA
  refine va_calli (va_runV (As := [.int v13, .int v15, .int v17, .int v19]) (rest := []) ⟨hx, hb, hml, hown, ht⟩ (c_X12_burnt l dC dI H.size y gy cay ivy lvy fay lay hIy v13 v15 v17 v19) (kV 4 ht m_1629 m_1630 m_1631 m_89 m_1632 rfl rfl hd_X12_burnt_v ⟨Nat.le_of_ble_eq_true rfl, Nat.le_of_ble_eq_true rfl⟩) (vW hPy hKy hDy (rM_12 hKy hPy)) rfl rfl hl.1 rfl (lv_room (Nat.le_of_ble_eq_true rfl)) dL_law_1115 ⟨Nat.le_of_ble_eq_true rfl, Nat.le_of_ble_eq_true rfl⟩) hS (fun q _ h => hFc q h) hFc (fun r20 u t H1 locs ht9 hvm hr20 hB hz1 hk1 hS => ?_)
  obtain ⟨n21, n22, hr20, rfl⟩ := hr20
  obtain ⟨hPy, hDy⟩ := hB
  rw [ht9] at hPy
  have hPx := P_kept hPx (la := AdX x gx) (lb := AdM y gy) wmX wmM hXY hk1
  generalize H1 = H at hPx hPy hS ⊢
  have hPy : va_P (dC, dI) classes (WM y gy cay ivy lvy (u2 (u2 fay 12 55 n21) 12 56 n22) lay) H := hPy
  have hDy : va_D A (WM y gy cay ivy lvy (u2 (u2 fay 12 55 n21) 12 56 n22) lay) := (show va_D _ (WM y gy cay ivy lvy (u2 (u2 fay 12 55 n21) 12 56 n22) lay) from hDy).weaken (fun _ _ _ h => hFc _ h)
  refine lv_pop hx hb dL_law_1118 rfl ?_
  refine lv_goto (tgt := 1509) hx hb dL_law_1119 (by decide) ?_
  exact kk _ _ ivx lvx (u2 (u2 fax 0 3 n10) 0 4 n11) lax ivy lvy (u2 (u2 fay 12 55 n21) 12 56 n22) lay (IX_a (c := 0) (k := 4) (IX_a (c := 0) (k := 3) hIx (fun j => full_i _)) (fun j => full_i _)) (IX_a (c := 12) (k := 56) (IX_a (c := 12) (k := 55) hIy (fun j => full_i _)) (fun j => full_i _)) hJC hJR hJN hJO hq_now hq_bales hq_skeins hq_rules hq_text hq_place hq_papers hrs hls hwd htx hbk hgr hgb hpa hdr hPx hDx hPy hDy hS
set_option maxHeartbeats 4000000 in
set_option maxRecDepth 100000 in
theorem law_26 {p : Program} {e : Env} {s : State} {m : MethodId} {below : List Frame} {meth : Method} {c : Code} (l : Launch) {b L : Nat} {xs : Nat → Int32} (hL : L ≤ 4096) (C0 : lw_At p s m meth c b L xs) {dC : Nat → ClassId} {dI : Nat → Nat → Nat} {A : Nat → Prop} (hA : ∀ q : Nat, s.heap.size ≤ q → A q) (hbA : ¬ A b) (hAs : ∀ q : Nat, A q → s.heap.size ≤ q) {x y : Nat} {gx gy : Nat → Nat → Nat} {cax cay : Nat → Nat → ClassId} {ak av : Nat → Nat} (hKx : va_K (dC, dI) classes (TX cax) s) (hKy : va_K (dC, dI) classes (TM cay) s) (hXY : ∀ a ∈ AdX x gx, ∀ b ∈ AdM y gy, a ≠ b) (hZ : zC ak av A s s.heap) {H : Heap} {locs : List Loc} {ivx : Nat → Nat → Int32} {lvx : Nat → Nat → Int64} {fax : Nat → Nat → Nat → Int32} {lax : Nat → Nat → Nat → Int64} {ivy : Nat → Nat → Int32} {lvy : Nat → Nat → Int64} {fay : Nat → Nat → Nat → Int32} {lay : Nat → Nat → Nat → Int64} (hIx : IX ivx fax) (hIy : IX ivy fay) (hJC : JCf (ivy 12 23).toInt (fay 12 25) (fay 12 26) (fay 12 27) (fay 12 28)) (hJR : JRf (ivy 12 3).toInt (fay 12 7)) (hJN : JNf (ivy 12 3).toInt (fay 12 4) (fay 12 5)) (hJO : ((ivy 12 20).toInt = -1 ∧ (ivy 12 21).toInt = -1 ∧ (ivy 12 22).toInt = -1)) (hq_now : ivx 11 10 = ivy 12 0) (hq_bales : ivx 0 7 = ivy 12 1) (hq_skeins : ivx 10 1 = ivy 12 3) (hq_rules : ivx 1 7 = ivy 12 23) (hq_text : ivx 8 2 = ivy 12 33) (hq_place : ivx 8 3 = ivy 12 36) (hq_papers : ivx 6 7 = ivy 12 67) (hrs : (∀ s : Nat, (s : Int) < (ivy 12 3).toInt → fax 10 0 (9 * s + 0) = fay 12 4 s ∧ fax 10 0 (9 * s + 1) = fay 12 5 s ∧ fax 10 0 (9 * s + 2) = fay 12 6 s ∧ fax 10 0 (9 * s + 3) = fay 12 7 s ∧ fax 10 0 (9 * s + 4) = fay 12 8 s ∧ fax 10 0 (9 * s + 5) = fay 12 9 s ∧ fax 10 0 (9 * s + 6) = fay 12 10 s ∧ fax 10 0 (9 * s + 7) = fay 12 11 s ∧ fax 10 0 (9 * s + 8) = fay 12 12 s)) (hls : (∀ j : Nat, -1 ≤ (fay 12 12 j).toInt)) (hwd : (∀ s : Nat, (s : Int) < (ivy 12 3).toInt → (100 ≤ (fay 12 7 s).toInt ∧ (fay 12 7 s).toInt ≤ 9999) ∧ (50 ≤ (fay 12 8 s).toInt ∧ (fay 12 8 s).toInt ≤ 9999))) (htx : (∀ j : Nat, (fax 8 1 j).toInt = sg (fay 12 32 j).toInt ∧ 0 ≤ (fay 12 32 j).toInt)) (hbk : BkE (ivy 12 23).toInt (fax 1 0) (fax 1 1) (fax 1 2) (fax 1 3) (fax 1 4) (fax 1 5) (fay 12 24) (fay 12 25) (fay 12 26) (fay 12 27) (fay 12 28) (fay 12 29) (fay 12 30) (fay 12 31)) (hgr : (∀ j : Nat, fax 0 0 j = fay 12 2 j)) (hgb : (∀ j : Nat, (j : Int) < (ivx 0 7).toInt → 1 ≤ (fax 0 0 j).toInt ∧ (fax 0 0 j).toInt ≤ 99999)) (hpa : PaE (ivy 12 67).toInt (fax 6 0) (fax 6 1) (fax 6 2) (fax 6 3) (fax 6 4) (fax 6 5) (fay 12 68) (fay 12 69) (lay 12 70) (fay 12 71) (fay 12 72) (fay 12 73)) (hdr : (∀ s : Nat, (s : Int) < (ivy 12 3).toInt → (fay 12 8 s).toInt ≤ (fay 12 7 s).toInt)) (hPx : va_P (dC, dI) classes (WX x gx cax ivx lvx fax lax) H) (hDx : va_D A (WX x gx cax ivx lvx fax lax)) (hPy : va_P (dC, dI) classes (WM y gy cay ivy lvy fay lay) H) (hDy : va_D A (WM y gy cay ivy lvy fay lay)) (hS : va_S A s.heap H locs) {i : Int32} {ls : Array Slot} (hl : lv_has ls 4 [(3, .int i), (2, .ref y), (1, .ref x), (0, .ref b)]) (hi : 0 ≤ i.toInt ∧ i.toInt ≤ 4088) (hi8 : i.toInt + 8 ≤ (L : Int)) (kk : ∀ (H : Heap) (locs : List Loc) (ivx : Nat → Nat → Int32) (lvx : Nat → Nat → Int64) (fax : Nat → Nat → Nat → Int32) (lax : Nat → Nat → Nat → Int64) (ivy : Nat → Nat → Int32) (lvy : Nat → Nat → Int64) (fay : Nat → Nat → Nat → Int32) (lay : Nat → Nat → Nat → Int64), IX ivx fax → IX ivy fay → JCf (ivy 12 23).toInt (fay 12 25) (fay 12 26) (fay 12 27) (fay 12 28) → JRf (ivy 12 3).toInt (fay 12 7) → JNf (ivy 12 3).toInt (fay 12 4) (fay 12 5) → ((ivy 12 20).toInt = -1 ∧ (ivy 12 21).toInt = -1 ∧ (ivy 12 22).toInt = -1) → ivx 11 10 = ivy 12 0 → ivx 0 7 = ivy 12 1 → ivx 10 1 = ivy 12 3 → ivx 1 7 = ivy 12 23 → ivx 8 2 = ivy 12 33 → ivx 8 3 = ivy 12 36 → ivx 6 7 = ivy 12 67 → (∀ s : Nat, (s : Int) < (ivy 12 3).toInt → fax 10 0 (9 * s + 0) = fay 12 4 s ∧ fax 10 0 (9 * s + 1) = fay 12 5 s ∧ fax 10 0 (9 * s + 2) = fay 12 6 s ∧ fax 10 0 (9 * s + 3) = fay 12 7 s ∧ fax 10 0 (9 * s + 4) = fay 12 8 s ∧ fax 10 0 (9 * s + 5) = fay 12 9 s ∧ fax 10 0 (9 * s + 6) = fay 12 10 s ∧ fax 10 0 (9 * s + 7) = fay 12 11 s ∧ fax 10 0 (9 * s + 8) = fay 12 12 s) → (∀ j : Nat, -1 ≤ (fay 12 12 j).toInt) → (∀ s : Nat, (s : Int) < (ivy 12 3).toInt → (100 ≤ (fay 12 7 s).toInt ∧ (fay 12 7 s).toInt ≤ 9999) ∧ (50 ≤ (fay 12 8 s).toInt ∧ (fay 12 8 s).toInt ≤ 9999)) → (∀ j : Nat, (fax 8 1 j).toInt = sg (fay 12 32 j).toInt ∧ 0 ≤ (fay 12 32 j).toInt) → BkE (ivy 12 23).toInt (fax 1 0) (fax 1 1) (fax 1 2) (fax 1 3) (fax 1 4) (fax 1 5) (fay 12 24) (fay 12 25) (fay 12 26) (fay 12 27) (fay 12 28) (fay 12 29) (fay 12 30) (fay 12 31) → (∀ j : Nat, fax 0 0 j = fay 12 2 j) → (∀ j : Nat, (j : Int) < (ivx 0 7).toInt → 1 ≤ (fax 0 0 j).toInt ∧ (fax 0 0 j).toInt ≤ 99999) → PaE (ivy 12 67).toInt (fax 6 0) (fax 6 1) (fax 6 2) (fax 6 3) (fax 6 4) (fax 6 5) (fay 12 68) (fay 12 69) (lay 12 70) (fay 12 71) (fay 12 72) (fay 12 73) → (∀ s : Nat, (s : Int) < (ivy 12 3).toInt → (fay 12 8 s).toInt ≤ (fay 12 7 s).toInt) → va_P (dC, dI) classes (WX x gx cax ivx lvx fax lax) H → va_D A (WX x gx cax ivx lvx fax lax) → va_P (dC, dI) classes (WM y gy cay ivy lvy fay lay) H → va_D A (WM y gy cay ivy lvy fay lay) → va_S A s.heap H locs → W p l e room_1 s m #[Value.ref b] below meth c H locs 98 5431 (lw_Z below #[Value.ref b] s) (F0 m 1509 ls [])) : W p l e room_1 s m #[Value.ref b] below meth c H locs 98 5431 (lw_Z below #[Value.ref b] s) (F0 m 1122 ls []) := by
  obtain ⟨hx, hb, hr, hml, hown, hts, hX, hbl, hlocks, hgv⟩ := id C0
  have ht := tb_of hts
  have hJD := hwd
  have hw8 := congrArg Int32.toInt hq_skeins
  have hJW : ∀ s : Nat, (s : Int) < (ivx 10 1).toInt → (100 ≤ (fax 10 0 (9 * s + 3)).toInt ∧ (fax 10 0 (9 * s + 3)).toInt ≤ 9999) ∧ (50 ≤ (fax 10 0 (9 * s + 4)).toInt ∧ (fax 10 0 (9 * s + 4)).toInt ≤ 9999) := fun s hs => by rw [(hrs s (by omega)).2.2.2.1, (hrs s (by omega)).2.2.2.2.1]; exact hwd s (by omega)
  have hw8r := congrArg Int32.toInt hq_rules
  have hJB : ∀ j : Nat, (j : Int) < (ivx 1 7).toInt → 0 ≤ (fax 1 0 j).toInt := fun j hj => (hbk j (by omega)).2.2.1
  have hJK : ∀ k j : Nat, (k : Int) < (ivy 12 23).toInt → 12 * k ≤ j → (j : Int) < 12 * (k : Int) + (fay 12 25 k).toInt → (fay 12 26 j).toInt = 3 → 0 ≤ (fay 12 28 j).toInt ∧ (fay 12 28 j).toInt < (k : Int) := bk_K hbk
  have hw8b := congrArg Int32.toInt hq_bales
  have hJF : ∀ a d v : Int, 0 ≤ a → a ≤ 5 → FoX (ivx 1 7).toInt (fax 1 0) (fax 1 1) (fax 1 2) (fax 1 3) a d v → fLo a ≤ v ∧ v ≤ fHi a := fun a d v h1 h2 x => by rw [hq_rules] at x; exact FoX_b hbk ⟨h1, h2⟩ x
  have hJH : ∀ a d v : Int, 0 ≤ a → a ≤ 5 → FoY (ivy 12 23).toInt (fay 12 24) (fay 12 25) (fay 12 26) (fay 12 27) (fay 12 28) a d v → fLo a ≤ v ∧ v ≤ fHi a := fun a d v h1 h2 x => FoY_b hbk ⟨h1, h2⟩ x
  have hJG := hgb
  have hJI : ∀ j : Nat, (j : Int) < (ivy 12 1).toInt → 1 ≤ (fay 12 2 j).toInt ∧ (fay 12 2 j).toInt ≤ 99999 := fun j hj => by rw [← hgr j]; exact hgb j (by omega)
  have hJL : ∀ b l : Int32, cn0 (fun s => fax 10 0 (9 * s + 0)) (fun s => fax 10 0 (9 * s + 1)) b l (ivx 10 1).toInt.toNat ≤ 12 := fun b l => by rw [hq_skeins, cn0_congr (ob := fay 12 4) (ol := fay 12 5) _ (fun j hj => ⟨(hrs j (by omega)).1, (hrs j (by omega)).2.1⟩)]; exact hJN b l
  have hw8p := congrArg Int32.toInt hq_papers
  have hJQ : ∀ p : Nat, (p : Int) < (ivy 12 67).toInt → 0 ≤ (lay 12 70 p).toInt ∧ ((fay 12 68 p).toInt = 0 → (lay 12 70 p).toInt ≤ 129998) ∧ (lay 12 70 p).toInt ≤ 129868002 ∧ -1 ≤ (fay 12 71 p).toInt ∧ (fay 12 71 p).toInt < (p : Int) := fun p hp => ⟨(hpa p hp).2.2.1, (hpa p hp).2.2.2.1, (hpa p hp).2.2.2.2.1, (hpa p hp).2.2.2.2.2.1, (hpa p hp).2.2.2.2.2.2.1⟩
  have hJP : ∀ p : Nat, (p : Int) < (ivx 6 7).toInt → 0 ≤ (fax 6 2 p).toInt ∧ ((fax 6 0 p).toInt = 0 → (fax 6 2 p).toInt ≤ 129998) ∧ (fax 6 2 p).toInt ≤ 129868002 ∧ -1 ≤ (fax 6 3 p).toInt ∧ (fax 6 3 p).toInt < (p : Int) := fun p hp => by rw [(hpa p (by omega)).1.1, (hpa p (by omega)).1.2.2.1, (hpa p (by omega)).1.2.2.2.1]; exact hJQ p (by omega)
  have hJS : ∀ s : Nat, (s : Int) < (ivx 10 1).toInt → (fax 10 0 (9 * s + 4)).toInt ≤ (fax 10 0 (9 * s + 3)).toInt := fun s hs => by rw [(hrs s (by omega)).2.2.2.1, (hrs s (by omega)).2.2.2.2.1]; exact hdr s (by omega)
  have hJT : ∀ j : Nat, 0 ≤ (fay 12 32 j).toInt := fun j => (htx j).2
  refine lv_aload_n hx hb dL_law_1122 rfl (lv_at hl 2 rfl) ?_
  refine aw_iconst (v := 1) hx hb hX hbl hbA hS hl hi hi8 (by decide) ⟨by decide, by decide⟩ dL_law_1123 dL_law_1124 dL_law_1125 dL_law_1126 dL_law_1127 (fun v1 ev1 v2 ev2 => ?_)
  refine aw_iconst (v := 2) hx hb hX hbl hbA hS hl hi hi8 (by decide) ⟨by decide, by decide⟩ dL_law_1128 dL_law_1129 dL_law_1130 dL_law_1131 dL_law_1132 (fun v3 ev3 v4 ev4 => ?_)
  refine aw_iconst (v := 3) hx hb hX hbl hbA hS hl hi hi8 (by decide) ⟨by decide, by decide⟩ dL_law_1133 dL_law_1134 dL_law_1135 dL_law_1136 dL_law_1137 (fun v5 ev5 v6 ev6 => ?_)
  refine aw_iconst (v := 4) hx hb hX hbl hbA hS hl hi hi8 (by decide) ⟨by decide, by decide⟩ dL_law_1138 dL_law_1139 dL_law_1140 dL_law_1141 dL_law_1142 (fun v7 ev7 v8 ev8 => ?_)
  have hFc := free_all hDx hS hA
  refine va_calli (va_runV (As := [.int v2, .int v4, .int v6, .int v8]) (rest := []) ⟨hx, hb, hml, hown, ht⟩ (c_X11_cheat l dC dI H.size x gx cax ivx lvx fax lax hIx v2 v4 v6 v8) (kV 4 ht m_993 m_994 m_995 m_77 m_996 rfl rfl hd_X11_cheat_v ⟨Nat.le_of_ble_eq_true rfl, Nat.le_of_ble_eq_true rfl⟩) (vW hPx hKx hDx (rX_11 hKx hPx)) rfl rfl hl.1 rfl (lv_room (Nat.le_of_ble_eq_true rfl)) dL_law_1143 ⟨Nat.le_of_ble_eq_true rfl, Nat.le_of_ble_eq_true rfl⟩) hS (fun q _ h => hFc q h) hFc (fun r9 u t H1 locs ht9 hvm hr9 hB hz1 hk1 hS => ?_)
  obtain ⟨n10, n11, n12, hr9, rfl⟩ := hr9
  obtain ⟨hPx, hDx⟩ := hB
  rw [ht9] at hPx
  have hPy := P_kept hPy (la := AdM y gy) (lb := AdX x gx) wmM wmX (fun a ha b hb => (hXY b hb a ha).symm) hk1
  generalize H1 = H at hPx hPy hS ⊢
  have hPx : va_P (dC, dI) classes (WX x gx cax ivx lvx (u2 fax 30 2 n10) (u2 (u2 lax 30 0 n11) 30 1 n12)) H := hPx
  have hDx : va_D A (WX x gx cax ivx lvx (u2 fax 30 2 n10) (u2 (u2 lax 30 0 n11) 30 1 n12)) := (show va_D _ (WX x gx cax ivx lvx (u2 fax 30 2 n10) (u2 (u2 lax 30 0 n11) 30 1 n12)) from hDx).weaken (fun _ _ _ h => hFc _ h)
  refine lv_pop hx hb dL_law_1146 rfl ?_
  refine lv_aload_n hx hb dL_law_1147 rfl (lv_at hl 1 rfl) ?_
  refine aw_iconst (v := 1) hx hb hX hbl hbA hS hl hi hi8 (by decide) ⟨by decide, by decide⟩ dL_law_1148 dL_law_1149 dL_law_1150 dL_law_1151 dL_law_1152 (fun v13 ev13 v14 ev14 => ?_)
  refine aw_iconst (v := 2) hx hb hX hbl hbA hS hl hi hi8 (by decide) ⟨by decide, by decide⟩ dL_law_1153 dL_law_1154 dL_law_1155 dL_law_1156 dL_law_1157 (fun v15 ev15 v16 ev16 => ?_)
  refine aw_iconst (v := 3) hx hb hX hbl hbA hS hl hi hi8 (by decide) ⟨by decide, by decide⟩ dL_law_1158 dL_law_1159 dL_law_1160 dL_law_1161 dL_law_1162 (fun v17 ev17 v18 ev18 => ?_)
  refine aw_iconst (v := 4) hx hb hX hbl hbA hS hl hi hi8 (by decide) ⟨by decide, by decide⟩ dL_law_1163 dL_law_1164 dL_law_1165 dL_law_1166 dL_law_1167 (fun v19 ev19 v20 ev20 => ?_)
  have hFc := free_all hDy hS hA
  refine va_calli (va_runV (As := [.int v14, .int v16, .int v18, .int v20]) (rest := []) ⟨hx, hb, hml, hown, ht⟩ (c_X12_cheat l dC dI H.size y gy cay ivy lvy fay lay hIy v14 v16 v18 v20 hJR) (kV 4 ht m_1633 m_1634 m_1635 m_89 m_1636 rfl rfl hd_X12_cheat_v ⟨Nat.le_of_ble_eq_true rfl, Nat.le_of_ble_eq_true rfl⟩) (vW hPy hKy hDy (rM_12 hKy hPy)) rfl rfl hl.1 rfl (lv_room (Nat.le_of_ble_eq_true rfl)) dL_law_1168 ⟨Nat.le_of_ble_eq_true rfl, Nat.le_of_ble_eq_true rfl⟩) hS (fun q _ h => hFc q h) hFc (fun r21 u t H1 locs ht9 hvm hr21 hB hz1 hk1 hS => ?_)
  obtain ⟨n22, n23, n24, hr21, rfl⟩ := hr21
  obtain ⟨hPy, hDy⟩ := hB
  rw [ht9] at hPy
  have hPx := P_kept hPx (la := AdX x gx) (lb := AdM y gy) wmX wmM hXY hk1
  generalize H1 = H at hPx hPy hS ⊢
  have hPy : va_P (dC, dI) classes (WM y gy cay (u2 ivy 12 19 n22) (u2 (u2 lvy 12 17 n23) 12 18 n24) fay lay) H := hPy
  have hDy : va_D A (WM y gy cay (u2 ivy 12 19 n22) (u2 (u2 lvy 12 17 n23) 12 18 n24) fay lay) := (show va_D _ (WM y gy cay (u2 ivy 12 19 n22) (u2 (u2 lvy 12 17 n23) 12 18 n24) fay lay) from hDy).weaken (fun _ _ _ h => hFc _ h)
  refine lv_pop hx hb dL_law_1171 rfl ?_
  refine lv_goto (tgt := 1509) hx hb dL_law_1172 (by decide) ?_
  exact kk _ _ ivx lvx (u2 fax 30 2 n10) (u2 (u2 lax 30 0 n11) 30 1 n12) (u2 ivy 12 19 n22) (u2 (u2 lvy 12 17 n23) 12 18 n24) fay lay (IX_a (c := 30) (k := 2) hIx (fun j => full_i _)) (IX_i (c := 12) (k := 19) hIy (full_i _)) hJC hJR hJN hJO hq_now hq_bales hq_skeins hq_rules hq_text hq_place hq_papers hrs hls hwd htx hbk hgr hgb hpa hdr hPx hDx hPy hDy hS
set_option maxHeartbeats 4000000 in
set_option maxRecDepth 100000 in
theorem law_27 {p : Program} {e : Env} {s : State} {m : MethodId} {below : List Frame} {meth : Method} {c : Code} (l : Launch) {b L : Nat} {xs : Nat → Int32} (hL : L ≤ 4096) (C0 : lw_At p s m meth c b L xs) {dC : Nat → ClassId} {dI : Nat → Nat → Nat} {A : Nat → Prop} (hA : ∀ q : Nat, s.heap.size ≤ q → A q) (hbA : ¬ A b) (hAs : ∀ q : Nat, A q → s.heap.size ≤ q) {x y : Nat} {gx gy : Nat → Nat → Nat} {cax cay : Nat → Nat → ClassId} {ak av : Nat → Nat} (hKx : va_K (dC, dI) classes (TX cax) s) (hKy : va_K (dC, dI) classes (TM cay) s) (hXY : ∀ a ∈ AdX x gx, ∀ b ∈ AdM y gy, a ≠ b) (hZ : zC ak av A s s.heap) {H : Heap} {locs : List Loc} {ivx : Nat → Nat → Int32} {lvx : Nat → Nat → Int64} {fax : Nat → Nat → Nat → Int32} {lax : Nat → Nat → Nat → Int64} {ivy : Nat → Nat → Int32} {lvy : Nat → Nat → Int64} {fay : Nat → Nat → Nat → Int32} {lay : Nat → Nat → Nat → Int64} (hIx : IX ivx fax) (hIy : IX ivy fay) (hJC : JCf (ivy 12 23).toInt (fay 12 25) (fay 12 26) (fay 12 27) (fay 12 28)) (hJR : JRf (ivy 12 3).toInt (fay 12 7)) (hJN : JNf (ivy 12 3).toInt (fay 12 4) (fay 12 5)) (hJO : ((ivy 12 20).toInt = -1 ∧ (ivy 12 21).toInt = -1 ∧ (ivy 12 22).toInt = -1)) (hq_now : ivx 11 10 = ivy 12 0) (hq_bales : ivx 0 7 = ivy 12 1) (hq_skeins : ivx 10 1 = ivy 12 3) (hq_rules : ivx 1 7 = ivy 12 23) (hq_text : ivx 8 2 = ivy 12 33) (hq_place : ivx 8 3 = ivy 12 36) (hq_papers : ivx 6 7 = ivy 12 67) (hrs : (∀ s : Nat, (s : Int) < (ivy 12 3).toInt → fax 10 0 (9 * s + 0) = fay 12 4 s ∧ fax 10 0 (9 * s + 1) = fay 12 5 s ∧ fax 10 0 (9 * s + 2) = fay 12 6 s ∧ fax 10 0 (9 * s + 3) = fay 12 7 s ∧ fax 10 0 (9 * s + 4) = fay 12 8 s ∧ fax 10 0 (9 * s + 5) = fay 12 9 s ∧ fax 10 0 (9 * s + 6) = fay 12 10 s ∧ fax 10 0 (9 * s + 7) = fay 12 11 s ∧ fax 10 0 (9 * s + 8) = fay 12 12 s)) (hls : (∀ j : Nat, -1 ≤ (fay 12 12 j).toInt)) (hwd : (∀ s : Nat, (s : Int) < (ivy 12 3).toInt → (100 ≤ (fay 12 7 s).toInt ∧ (fay 12 7 s).toInt ≤ 9999) ∧ (50 ≤ (fay 12 8 s).toInt ∧ (fay 12 8 s).toInt ≤ 9999))) (htx : (∀ j : Nat, (fax 8 1 j).toInt = sg (fay 12 32 j).toInt ∧ 0 ≤ (fay 12 32 j).toInt)) (hbk : BkE (ivy 12 23).toInt (fax 1 0) (fax 1 1) (fax 1 2) (fax 1 3) (fax 1 4) (fax 1 5) (fay 12 24) (fay 12 25) (fay 12 26) (fay 12 27) (fay 12 28) (fay 12 29) (fay 12 30) (fay 12 31)) (hgr : (∀ j : Nat, fax 0 0 j = fay 12 2 j)) (hgb : (∀ j : Nat, (j : Int) < (ivx 0 7).toInt → 1 ≤ (fax 0 0 j).toInt ∧ (fax 0 0 j).toInt ≤ 99999)) (hpa : PaE (ivy 12 67).toInt (fax 6 0) (fax 6 1) (fax 6 2) (fax 6 3) (fax 6 4) (fax 6 5) (fay 12 68) (fay 12 69) (lay 12 70) (fay 12 71) (fay 12 72) (fay 12 73)) (hdr : (∀ s : Nat, (s : Int) < (ivy 12 3).toInt → (fay 12 8 s).toInt ≤ (fay 12 7 s).toInt)) (hPx : va_P (dC, dI) classes (WX x gx cax ivx lvx fax lax) H) (hDx : va_D A (WX x gx cax ivx lvx fax lax)) (hPy : va_P (dC, dI) classes (WM y gy cay ivy lvy fay lay) H) (hDy : va_D A (WM y gy cay ivy lvy fay lay)) (hS : va_S A s.heap H locs) {i : Int32} {ls : Array Slot} (hl : lv_has ls 4 [(3, .int i), (2, .ref y), (1, .ref x), (0, .ref b)]) (hi : 0 ≤ i.toInt ∧ i.toInt ≤ 4088) (hi8 : i.toInt + 8 ≤ (L : Int)) (kk : ∀ (H : Heap) (locs : List Loc) (ivx : Nat → Nat → Int32) (lvx : Nat → Nat → Int64) (fax : Nat → Nat → Nat → Int32) (lax : Nat → Nat → Nat → Int64) (ivy : Nat → Nat → Int32) (lvy : Nat → Nat → Int64) (fay : Nat → Nat → Nat → Int32) (lay : Nat → Nat → Nat → Int64), IX ivx fax → IX ivy fay → JCf (ivy 12 23).toInt (fay 12 25) (fay 12 26) (fay 12 27) (fay 12 28) → JRf (ivy 12 3).toInt (fay 12 7) → JNf (ivy 12 3).toInt (fay 12 4) (fay 12 5) → ((ivy 12 20).toInt = -1 ∧ (ivy 12 21).toInt = -1 ∧ (ivy 12 22).toInt = -1) → ivx 11 10 = ivy 12 0 → ivx 0 7 = ivy 12 1 → ivx 10 1 = ivy 12 3 → ivx 1 7 = ivy 12 23 → ivx 8 2 = ivy 12 33 → ivx 8 3 = ivy 12 36 → ivx 6 7 = ivy 12 67 → (∀ s : Nat, (s : Int) < (ivy 12 3).toInt → fax 10 0 (9 * s + 0) = fay 12 4 s ∧ fax 10 0 (9 * s + 1) = fay 12 5 s ∧ fax 10 0 (9 * s + 2) = fay 12 6 s ∧ fax 10 0 (9 * s + 3) = fay 12 7 s ∧ fax 10 0 (9 * s + 4) = fay 12 8 s ∧ fax 10 0 (9 * s + 5) = fay 12 9 s ∧ fax 10 0 (9 * s + 6) = fay 12 10 s ∧ fax 10 0 (9 * s + 7) = fay 12 11 s ∧ fax 10 0 (9 * s + 8) = fay 12 12 s) → (∀ j : Nat, -1 ≤ (fay 12 12 j).toInt) → (∀ s : Nat, (s : Int) < (ivy 12 3).toInt → (100 ≤ (fay 12 7 s).toInt ∧ (fay 12 7 s).toInt ≤ 9999) ∧ (50 ≤ (fay 12 8 s).toInt ∧ (fay 12 8 s).toInt ≤ 9999)) → (∀ j : Nat, (fax 8 1 j).toInt = sg (fay 12 32 j).toInt ∧ 0 ≤ (fay 12 32 j).toInt) → BkE (ivy 12 23).toInt (fax 1 0) (fax 1 1) (fax 1 2) (fax 1 3) (fax 1 4) (fax 1 5) (fay 12 24) (fay 12 25) (fay 12 26) (fay 12 27) (fay 12 28) (fay 12 29) (fay 12 30) (fay 12 31) → (∀ j : Nat, fax 0 0 j = fay 12 2 j) → (∀ j : Nat, (j : Int) < (ivx 0 7).toInt → 1 ≤ (fax 0 0 j).toInt ∧ (fax 0 0 j).toInt ≤ 99999) → PaE (ivy 12 67).toInt (fax 6 0) (fax 6 1) (fax 6 2) (fax 6 3) (fax 6 4) (fax 6 5) (fay 12 68) (fay 12 69) (lay 12 70) (fay 12 71) (fay 12 72) (fay 12 73) → (∀ s : Nat, (s : Int) < (ivy 12 3).toInt → (fay 12 8 s).toInt ≤ (fay 12 7 s).toInt) → va_P (dC, dI) classes (WX x gx cax ivx lvx fax lax) H → va_D A (WX x gx cax ivx lvx fax lax) → va_P (dC, dI) classes (WM y gy cay ivy lvy fay lay) H → va_D A (WM y gy cay ivy lvy fay lay) → va_S A s.heap H locs → W p l e room_1 s m #[Value.ref b] below meth c H locs 98 5431 (lw_Z below #[Value.ref b] s) (F0 m 1509 ls [])) : W p l e room_1 s m #[Value.ref b] below meth c H locs 98 5431 (lw_Z below #[Value.ref b] s) (F0 m 1175 ls []) := by
  obtain ⟨hx, hb, hr, hml, hown, hts, hX, hbl, hlocks, hgv⟩ := id C0
  have ht := tb_of hts
  have hJD := hwd
  have hw8 := congrArg Int32.toInt hq_skeins
  have hJW : ∀ s : Nat, (s : Int) < (ivx 10 1).toInt → (100 ≤ (fax 10 0 (9 * s + 3)).toInt ∧ (fax 10 0 (9 * s + 3)).toInt ≤ 9999) ∧ (50 ≤ (fax 10 0 (9 * s + 4)).toInt ∧ (fax 10 0 (9 * s + 4)).toInt ≤ 9999) := fun s hs => by rw [(hrs s (by omega)).2.2.2.1, (hrs s (by omega)).2.2.2.2.1]; exact hwd s (by omega)
  have hw8r := congrArg Int32.toInt hq_rules
  have hJB : ∀ j : Nat, (j : Int) < (ivx 1 7).toInt → 0 ≤ (fax 1 0 j).toInt := fun j hj => (hbk j (by omega)).2.2.1
  have hJK : ∀ k j : Nat, (k : Int) < (ivy 12 23).toInt → 12 * k ≤ j → (j : Int) < 12 * (k : Int) + (fay 12 25 k).toInt → (fay 12 26 j).toInt = 3 → 0 ≤ (fay 12 28 j).toInt ∧ (fay 12 28 j).toInt < (k : Int) := bk_K hbk
  have hw8b := congrArg Int32.toInt hq_bales
  have hJF : ∀ a d v : Int, 0 ≤ a → a ≤ 5 → FoX (ivx 1 7).toInt (fax 1 0) (fax 1 1) (fax 1 2) (fax 1 3) a d v → fLo a ≤ v ∧ v ≤ fHi a := fun a d v h1 h2 x => by rw [hq_rules] at x; exact FoX_b hbk ⟨h1, h2⟩ x
  have hJH : ∀ a d v : Int, 0 ≤ a → a ≤ 5 → FoY (ivy 12 23).toInt (fay 12 24) (fay 12 25) (fay 12 26) (fay 12 27) (fay 12 28) a d v → fLo a ≤ v ∧ v ≤ fHi a := fun a d v h1 h2 x => FoY_b hbk ⟨h1, h2⟩ x
  have hJG := hgb
  have hJI : ∀ j : Nat, (j : Int) < (ivy 12 1).toInt → 1 ≤ (fay 12 2 j).toInt ∧ (fay 12 2 j).toInt ≤ 99999 := fun j hj => by rw [← hgr j]; exact hgb j (by omega)
  have hJL : ∀ b l : Int32, cn0 (fun s => fax 10 0 (9 * s + 0)) (fun s => fax 10 0 (9 * s + 1)) b l (ivx 10 1).toInt.toNat ≤ 12 := fun b l => by rw [hq_skeins, cn0_congr (ob := fay 12 4) (ol := fay 12 5) _ (fun j hj => ⟨(hrs j (by omega)).1, (hrs j (by omega)).2.1⟩)]; exact hJN b l
  have hw8p := congrArg Int32.toInt hq_papers
  have hJQ : ∀ p : Nat, (p : Int) < (ivy 12 67).toInt → 0 ≤ (lay 12 70 p).toInt ∧ ((fay 12 68 p).toInt = 0 → (lay 12 70 p).toInt ≤ 129998) ∧ (lay 12 70 p).toInt ≤ 129868002 ∧ -1 ≤ (fay 12 71 p).toInt ∧ (fay 12 71 p).toInt < (p : Int) := fun p hp => ⟨(hpa p hp).2.2.1, (hpa p hp).2.2.2.1, (hpa p hp).2.2.2.2.1, (hpa p hp).2.2.2.2.2.1, (hpa p hp).2.2.2.2.2.2.1⟩
  have hJP : ∀ p : Nat, (p : Int) < (ivx 6 7).toInt → 0 ≤ (fax 6 2 p).toInt ∧ ((fax 6 0 p).toInt = 0 → (fax 6 2 p).toInt ≤ 129998) ∧ (fax 6 2 p).toInt ≤ 129868002 ∧ -1 ≤ (fax 6 3 p).toInt ∧ (fax 6 3 p).toInt < (p : Int) := fun p hp => by rw [(hpa p (by omega)).1.1, (hpa p (by omega)).1.2.2.1, (hpa p (by omega)).1.2.2.2.1]; exact hJQ p (by omega)
  have hJS : ∀ s : Nat, (s : Int) < (ivx 10 1).toInt → (fax 10 0 (9 * s + 4)).toInt ≤ (fax 10 0 (9 * s + 3)).toInt := fun s hs => by rw [(hrs s (by omega)).2.2.2.1, (hrs s (by omega)).2.2.2.2.1]; exact hdr s (by omega)
  have hJT : ∀ j : Nat, 0 ≤ (fay 12 32 j).toInt := fun j => (htx j).2
  refine lv_aload_n hx hb dL_law_1175 rfl (lv_at hl 2 rfl) ?_
  refine aw_iconst (v := 1) hx hb hX hbl hbA hS hl hi hi8 (by decide) ⟨by decide, by decide⟩ dL_law_1176 dL_law_1177 dL_law_1178 dL_law_1179 dL_law_1180 (fun v1 ev1 v2 ev2 => ?_)
  have hFc := free_all hDx hS hA
  refine va_calli (va_runV (As := [.int v2]) (rest := []) ⟨hx, hb, hml, hown, ht⟩ (c_X11_load l dC dI H.size x gx cax ivx lvx fax lax hIx v2) (kV 1 ht m_1001 m_1002 m_1003 m_77 m_1004 rfl rfl hd_X11_load_v ⟨Nat.le_of_ble_eq_true rfl, Nat.le_of_ble_eq_true rfl⟩) (vW hPx hKx hDx (rX_11 hKx hPx)) rfl rfl hl.1 rfl (lv_room (Nat.le_of_ble_eq_true rfl)) dL_law_1181 ⟨Nat.le_of_ble_eq_true rfl, Nat.le_of_ble_eq_true rfl⟩) hS (fun q _ h => hFc q h) hFc (fun r3 u t H1 locs ht9 hvm hr3 hB hz1 hk1 hS => ?_)
  obtain ⟨n4, n5, n6, hn5, hr3, rfl⟩ := hr3
  obtain ⟨hPx, hDx⟩ := hB
  rw [ht9] at hPx
  have hPy := P_kept hPy (la := AdM y gy) (lb := AdX x gx) wmM wmX (fun a ha b hb => (hXY b hb a ha).symm) hk1
  generalize H1 = H at hPx hPy hS ⊢
  have hPx : va_P (dC, dI) classes (WX x gx cax (u2 (u2 ivx 5 4 n5) 5 6 n6) lvx (u2 fax 5 0 n4) lax) H := hPx
  have hDx : va_D A (WX x gx cax (u2 (u2 ivx 5 4 n5) 5 6 n6) lvx (u2 fax 5 0 n4) lax) := (show va_D _ (WX x gx cax (u2 (u2 ivx 5 4 n5) 5 6 n6) lvx (u2 fax 5 0 n4) lax) from hDx).weaken (fun _ _ _ h => hFc _ h)
  refine lv_pop hx hb dL_law_1184 rfl ?_
  refine lv_aload_n hx hb dL_law_1185 rfl (lv_at hl 1 rfl) ?_
  refine aw_iconst (v := 1) hx hb hX hbl hbA hS hl hi hi8 (by decide) ⟨by decide, by decide⟩ dL_law_1186 dL_law_1187 dL_law_1188 dL_law_1189 dL_law_1190 (fun v7 ev7 v8 ev8 => ?_)
  have hFc := free_all hDy hS hA
  refine va_calli (va_runV (As := [.int v8]) (rest := []) ⟨hx, hb, hml, hown, ht⟩ (c_X12_load l dC dI H.size y gy cay ivy lvy fay lay hIy v8) (kV 1 ht m_1637 m_1638 m_1639 m_89 m_1640 rfl rfl hd_X12_load_v ⟨Nat.le_of_ble_eq_true rfl, Nat.le_of_ble_eq_true rfl⟩) (vW hPy hKy hDy (rM_12 hKy hPy)) rfl rfl hl.1 rfl (lv_room (Nat.le_of_ble_eq_true rfl)) dL_law_1191 ⟨Nat.le_of_ble_eq_true rfl, Nat.le_of_ble_eq_true rfl⟩) hS (fun q _ h => hFc q h) hFc (fun r9 u t H1 locs ht9 hvm hr9 hB hz1 hk1 hS => ?_)
  obtain ⟨n10, n11, hn11, hr9, rfl⟩ := hr9
  obtain ⟨hPy, hDy⟩ := hB
  rw [ht9] at hPy
  have hPx := P_kept hPx (la := AdX x gx) (lb := AdM y gy) wmX wmM hXY hk1
  generalize H1 = H at hPx hPy hS ⊢
  have hPy : va_P (dC, dI) classes (WM y gy cay (u2 ivy 12 57 n11) lvy (u2 fay 12 58 n10) lay) H := hPy
  have hDy : va_D A (WM y gy cay (u2 ivy 12 57 n11) lvy (u2 fay 12 58 n10) lay) := (show va_D _ (WM y gy cay (u2 ivy 12 57 n11) lvy (u2 fay 12 58 n10) lay) from hDy).weaken (fun _ _ _ h => hFc _ h)
  refine lv_pop hx hb dL_law_1194 rfl ?_
  refine lv_goto (tgt := 1509) hx hb dL_law_1195 (by decide) ?_
  exact kk _ _ (u2 (u2 ivx 5 4 n5) 5 6 n6) lvx (u2 fax 5 0 n4) lax (u2 ivy 12 57 n11) lvy (u2 fay 12 58 n10) lay (IX_a (c := 5) (k := 0) (IX_i (c := 5) (k := 6) (IX_i (c := 5) (k := 4) hIx hn5) (full_i _)) (fun j => full_i _)) (IX_a (c := 12) (k := 58) (IX_i (c := 12) (k := 57) hIy hn11) (fun j => full_i _)) hJC hJR hJN hJO hq_now hq_bales hq_skeins hq_rules hq_text hq_place hq_papers hrs hls hwd htx hbk hgr hgb hpa hdr hPx hDx hPy hDy hS
set_option maxHeartbeats 4000000 in
set_option maxRecDepth 100000 in
theorem law_28 {p : Program} {e : Env} {s : State} {m : MethodId} {below : List Frame} {meth : Method} {c : Code} (l : Launch) {b L : Nat} {xs : Nat → Int32} (hL : L ≤ 4096) (C0 : lw_At p s m meth c b L xs) {dC : Nat → ClassId} {dI : Nat → Nat → Nat} {A : Nat → Prop} (hA : ∀ q : Nat, s.heap.size ≤ q → A q) (hbA : ¬ A b) (hAs : ∀ q : Nat, A q → s.heap.size ≤ q) {x y : Nat} {gx gy : Nat → Nat → Nat} {cax cay : Nat → Nat → ClassId} {ak av : Nat → Nat} (hKx : va_K (dC, dI) classes (TX cax) s) (hKy : va_K (dC, dI) classes (TM cay) s) (hXY : ∀ a ∈ AdX x gx, ∀ b ∈ AdM y gy, a ≠ b) (hZ : zC ak av A s s.heap) {H : Heap} {locs : List Loc} {ivx : Nat → Nat → Int32} {lvx : Nat → Nat → Int64} {fax : Nat → Nat → Nat → Int32} {lax : Nat → Nat → Nat → Int64} {ivy : Nat → Nat → Int32} {lvy : Nat → Nat → Int64} {fay : Nat → Nat → Nat → Int32} {lay : Nat → Nat → Nat → Int64} (hIx : IX ivx fax) (hIy : IX ivy fay) (hJC : JCf (ivy 12 23).toInt (fay 12 25) (fay 12 26) (fay 12 27) (fay 12 28)) (hJR : JRf (ivy 12 3).toInt (fay 12 7)) (hJN : JNf (ivy 12 3).toInt (fay 12 4) (fay 12 5)) (hJO : ((ivy 12 20).toInt = -1 ∧ (ivy 12 21).toInt = -1 ∧ (ivy 12 22).toInt = -1)) (hq_now : ivx 11 10 = ivy 12 0) (hq_bales : ivx 0 7 = ivy 12 1) (hq_skeins : ivx 10 1 = ivy 12 3) (hq_rules : ivx 1 7 = ivy 12 23) (hq_text : ivx 8 2 = ivy 12 33) (hq_place : ivx 8 3 = ivy 12 36) (hq_papers : ivx 6 7 = ivy 12 67) (hrs : (∀ s : Nat, (s : Int) < (ivy 12 3).toInt → fax 10 0 (9 * s + 0) = fay 12 4 s ∧ fax 10 0 (9 * s + 1) = fay 12 5 s ∧ fax 10 0 (9 * s + 2) = fay 12 6 s ∧ fax 10 0 (9 * s + 3) = fay 12 7 s ∧ fax 10 0 (9 * s + 4) = fay 12 8 s ∧ fax 10 0 (9 * s + 5) = fay 12 9 s ∧ fax 10 0 (9 * s + 6) = fay 12 10 s ∧ fax 10 0 (9 * s + 7) = fay 12 11 s ∧ fax 10 0 (9 * s + 8) = fay 12 12 s)) (hls : (∀ j : Nat, -1 ≤ (fay 12 12 j).toInt)) (hwd : (∀ s : Nat, (s : Int) < (ivy 12 3).toInt → (100 ≤ (fay 12 7 s).toInt ∧ (fay 12 7 s).toInt ≤ 9999) ∧ (50 ≤ (fay 12 8 s).toInt ∧ (fay 12 8 s).toInt ≤ 9999))) (htx : (∀ j : Nat, (fax 8 1 j).toInt = sg (fay 12 32 j).toInt ∧ 0 ≤ (fay 12 32 j).toInt)) (hbk : BkE (ivy 12 23).toInt (fax 1 0) (fax 1 1) (fax 1 2) (fax 1 3) (fax 1 4) (fax 1 5) (fay 12 24) (fay 12 25) (fay 12 26) (fay 12 27) (fay 12 28) (fay 12 29) (fay 12 30) (fay 12 31)) (hgr : (∀ j : Nat, fax 0 0 j = fay 12 2 j)) (hgb : (∀ j : Nat, (j : Int) < (ivx 0 7).toInt → 1 ≤ (fax 0 0 j).toInt ∧ (fax 0 0 j).toInt ≤ 99999)) (hpa : PaE (ivy 12 67).toInt (fax 6 0) (fax 6 1) (fax 6 2) (fax 6 3) (fax 6 4) (fax 6 5) (fay 12 68) (fay 12 69) (lay 12 70) (fay 12 71) (fay 12 72) (fay 12 73)) (hdr : (∀ s : Nat, (s : Int) < (ivy 12 3).toInt → (fay 12 8 s).toInt ≤ (fay 12 7 s).toInt)) (hPx : va_P (dC, dI) classes (WX x gx cax ivx lvx fax lax) H) (hDx : va_D A (WX x gx cax ivx lvx fax lax)) (hPy : va_P (dC, dI) classes (WM y gy cay ivy lvy fay lay) H) (hDy : va_D A (WM y gy cay ivy lvy fay lay)) (hS : va_S A s.heap H locs) {i : Int32} {ls : Array Slot} (hl : lv_has ls 4 [(3, .int i), (2, .ref y), (1, .ref x), (0, .ref b)]) (hi : 0 ≤ i.toInt ∧ i.toInt ≤ 4088) (hi8 : i.toInt + 8 ≤ (L : Int)) (kk : ∀ (H : Heap) (locs : List Loc) (ivx : Nat → Nat → Int32) (lvx : Nat → Nat → Int64) (fax : Nat → Nat → Nat → Int32) (lax : Nat → Nat → Nat → Int64) (ivy : Nat → Nat → Int32) (lvy : Nat → Nat → Int64) (fay : Nat → Nat → Nat → Int32) (lay : Nat → Nat → Nat → Int64), IX ivx fax → IX ivy fay → JCf (ivy 12 23).toInt (fay 12 25) (fay 12 26) (fay 12 27) (fay 12 28) → JRf (ivy 12 3).toInt (fay 12 7) → JNf (ivy 12 3).toInt (fay 12 4) (fay 12 5) → ((ivy 12 20).toInt = -1 ∧ (ivy 12 21).toInt = -1 ∧ (ivy 12 22).toInt = -1) → ivx 11 10 = ivy 12 0 → ivx 0 7 = ivy 12 1 → ivx 10 1 = ivy 12 3 → ivx 1 7 = ivy 12 23 → ivx 8 2 = ivy 12 33 → ivx 8 3 = ivy 12 36 → ivx 6 7 = ivy 12 67 → (∀ s : Nat, (s : Int) < (ivy 12 3).toInt → fax 10 0 (9 * s + 0) = fay 12 4 s ∧ fax 10 0 (9 * s + 1) = fay 12 5 s ∧ fax 10 0 (9 * s + 2) = fay 12 6 s ∧ fax 10 0 (9 * s + 3) = fay 12 7 s ∧ fax 10 0 (9 * s + 4) = fay 12 8 s ∧ fax 10 0 (9 * s + 5) = fay 12 9 s ∧ fax 10 0 (9 * s + 6) = fay 12 10 s ∧ fax 10 0 (9 * s + 7) = fay 12 11 s ∧ fax 10 0 (9 * s + 8) = fay 12 12 s) → (∀ j : Nat, -1 ≤ (fay 12 12 j).toInt) → (∀ s : Nat, (s : Int) < (ivy 12 3).toInt → (100 ≤ (fay 12 7 s).toInt ∧ (fay 12 7 s).toInt ≤ 9999) ∧ (50 ≤ (fay 12 8 s).toInt ∧ (fay 12 8 s).toInt ≤ 9999)) → (∀ j : Nat, (fax 8 1 j).toInt = sg (fay 12 32 j).toInt ∧ 0 ≤ (fay 12 32 j).toInt) → BkE (ivy 12 23).toInt (fax 1 0) (fax 1 1) (fax 1 2) (fax 1 3) (fax 1 4) (fax 1 5) (fay 12 24) (fay 12 25) (fay 12 26) (fay 12 27) (fay 12 28) (fay 12 29) (fay 12 30) (fay 12 31) → (∀ j : Nat, fax 0 0 j = fay 12 2 j) → (∀ j : Nat, (j : Int) < (ivx 0 7).toInt → 1 ≤ (fax 0 0 j).toInt ∧ (fax 0 0 j).toInt ≤ 99999) → PaE (ivy 12 67).toInt (fax 6 0) (fax 6 1) (fax 6 2) (fax 6 3) (fax 6 4) (fax 6 5) (fay 12 68) (fay 12 69) (lay 12 70) (fay 12 71) (fay 12 72) (fay 12 73) → (∀ s : Nat, (s : Int) < (ivy 12 3).toInt → (fay 12 8 s).toInt ≤ (fay 12 7 s).toInt) → va_P (dC, dI) classes (WX x gx cax ivx lvx fax lax) H → va_D A (WX x gx cax ivx lvx fax lax) → va_P (dC, dI) classes (WM y gy cay ivy lvy fay lay) H → va_D A (WM y gy cay ivy lvy fay lay) → va_S A s.heap H locs → W p l e room_1 s m #[Value.ref b] below meth c H locs 98 5431 (lw_Z below #[Value.ref b] s) (F0 m 1509 ls [])) : W p l e room_1 s m #[Value.ref b] below meth c H locs 98 5431 (lw_Z below #[Value.ref b] s) (F0 m 1198 ls []) := by
  obtain ⟨hx, hb, hr, hml, hown, hts, hX, hbl, hlocks, hgv⟩ := id C0
  have ht := tb_of hts
  have hJD := hwd
  have hw8 := congrArg Int32.toInt hq_skeins
  have hJW : ∀ s : Nat, (s : Int) < (ivx 10 1).toInt → (100 ≤ (fax 10 0 (9 * s + 3)).toInt ∧ (fax 10 0 (9 * s + 3)).toInt ≤ 9999) ∧ (50 ≤ (fax 10 0 (9 * s + 4)).toInt ∧ (fax 10 0 (9 * s + 4)).toInt ≤ 9999) := fun s hs => by rw [(hrs s (by omega)).2.2.2.1, (hrs s (by omega)).2.2.2.2.1]; exact hwd s (by omega)
  have hw8r := congrArg Int32.toInt hq_rules
  have hJB : ∀ j : Nat, (j : Int) < (ivx 1 7).toInt → 0 ≤ (fax 1 0 j).toInt := fun j hj => (hbk j (by omega)).2.2.1
  have hJK : ∀ k j : Nat, (k : Int) < (ivy 12 23).toInt → 12 * k ≤ j → (j : Int) < 12 * (k : Int) + (fay 12 25 k).toInt → (fay 12 26 j).toInt = 3 → 0 ≤ (fay 12 28 j).toInt ∧ (fay 12 28 j).toInt < (k : Int) := bk_K hbk
  have hw8b := congrArg Int32.toInt hq_bales
  have hJF : ∀ a d v : Int, 0 ≤ a → a ≤ 5 → FoX (ivx 1 7).toInt (fax 1 0) (fax 1 1) (fax 1 2) (fax 1 3) a d v → fLo a ≤ v ∧ v ≤ fHi a := fun a d v h1 h2 x => by rw [hq_rules] at x; exact FoX_b hbk ⟨h1, h2⟩ x
  have hJH : ∀ a d v : Int, 0 ≤ a → a ≤ 5 → FoY (ivy 12 23).toInt (fay 12 24) (fay 12 25) (fay 12 26) (fay 12 27) (fay 12 28) a d v → fLo a ≤ v ∧ v ≤ fHi a := fun a d v h1 h2 x => FoY_b hbk ⟨h1, h2⟩ x
  have hJG := hgb
  have hJI : ∀ j : Nat, (j : Int) < (ivy 12 1).toInt → 1 ≤ (fay 12 2 j).toInt ∧ (fay 12 2 j).toInt ≤ 99999 := fun j hj => by rw [← hgr j]; exact hgb j (by omega)
  have hJL : ∀ b l : Int32, cn0 (fun s => fax 10 0 (9 * s + 0)) (fun s => fax 10 0 (9 * s + 1)) b l (ivx 10 1).toInt.toNat ≤ 12 := fun b l => by rw [hq_skeins, cn0_congr (ob := fay 12 4) (ol := fay 12 5) _ (fun j hj => ⟨(hrs j (by omega)).1, (hrs j (by omega)).2.1⟩)]; exact hJN b l
  have hw8p := congrArg Int32.toInt hq_papers
  have hJQ : ∀ p : Nat, (p : Int) < (ivy 12 67).toInt → 0 ≤ (lay 12 70 p).toInt ∧ ((fay 12 68 p).toInt = 0 → (lay 12 70 p).toInt ≤ 129998) ∧ (lay 12 70 p).toInt ≤ 129868002 ∧ -1 ≤ (fay 12 71 p).toInt ∧ (fay 12 71 p).toInt < (p : Int) := fun p hp => ⟨(hpa p hp).2.2.1, (hpa p hp).2.2.2.1, (hpa p hp).2.2.2.2.1, (hpa p hp).2.2.2.2.2.1, (hpa p hp).2.2.2.2.2.2.1⟩
  have hJP : ∀ p : Nat, (p : Int) < (ivx 6 7).toInt → 0 ≤ (fax 6 2 p).toInt ∧ ((fax 6 0 p).toInt = 0 → (fax 6 2 p).toInt ≤ 129998) ∧ (fax 6 2 p).toInt ≤ 129868002 ∧ -1 ≤ (fax 6 3 p).toInt ∧ (fax 6 3 p).toInt < (p : Int) := fun p hp => by rw [(hpa p (by omega)).1.1, (hpa p (by omega)).1.2.2.1, (hpa p (by omega)).1.2.2.2.1]; exact hJQ p (by omega)
  have hJS : ∀ s : Nat, (s : Int) < (ivx 10 1).toInt → (fax 10 0 (9 * s + 4)).toInt ≤ (fax 10 0 (9 * s + 3)).toInt := fun s hs => by rw [(hrs s (by omega)).2.2.2.1, (hrs s (by omega)).2.2.2.2.1]; exact hdr s (by omega)
  have hJT : ∀ j : Nat, 0 ≤ (fay 12 32 j).toInt := fun j => (htx j).2
  refine lv_aload_n hx hb dL_law_1198 rfl (lv_at hl 2 rfl) ?_
  refine aw_iconst (v := 1) hx hb hX hbl hbA hS hl hi hi8 (by decide) ⟨by decide, by decide⟩ dL_law_1199 dL_law_1200 dL_law_1201 dL_law_1202 dL_law_1203 (fun v1 ev1 v2 ev2 => ?_)
  refine aw_iconst (v := 2) hx hb hX hbl hbA hS hl hi hi8 (by decide) ⟨by decide, by decide⟩ dL_law_1204 dL_law_1205 dL_law_1206 dL_law_1207 dL_law_1208 (fun v3 ev3 v4 ev4 => ?_)
  have hFc := free_all hDx hS hA
  refine va_calli (va_runV (As := [.int v2, .int v4]) (rest := []) ⟨hx, hb, hml, hown, ht⟩ (c_X11_order l dC dI H.size x gx cax ivx lvx fax lax hIx v2 v4) (kV 2 ht m_1009 m_1010 m_1011 m_77 m_1012 rfl rfl hd_X11_order_v ⟨Nat.le_of_ble_eq_true rfl, Nat.le_of_ble_eq_true rfl⟩) (vW hPx hKx hDx (rX_11 hKx hPx)) rfl rfl hl.1 rfl (lv_room (Nat.le_of_ble_eq_true rfl)) dL_law_1209 ⟨Nat.le_of_ble_eq_true rfl, Nat.le_of_ble_eq_true rfl⟩) hS (fun q _ h => hFc q h) hFc (fun r5 u t H1 locs ht9 hvm hr5 hB hz1 hk1 hS => ?_)
  obtain ⟨n6, n7, n8, n9, n10, hr5, rfl⟩ := hr5
  obtain ⟨hPx, hDx⟩ := hB
  rw [ht9] at hPx
  have hPy := P_kept hPy (la := AdM y gy) (lb := AdX x gx) wmM wmX (fun a ha b hb => (hXY b hb a ha).symm) hk1
  generalize H1 = H at hPx hPy hS ⊢
  have hPx : va_P (dC, dI) classes (WX x gx cax (u2 (u2 ivx 5 5 n9) 5 6 n10) lvx (u2 (u2 (u2 fax 5 1 n6) 5 2 n7) 5 3 n8) lax) H := hPx
  have hDx : va_D A (WX x gx cax (u2 (u2 ivx 5 5 n9) 5 6 n10) lvx (u2 (u2 (u2 fax 5 1 n6) 5 2 n7) 5 3 n8) lax) := (show va_D _ (WX x gx cax (u2 (u2 ivx 5 5 n9) 5 6 n10) lvx (u2 (u2 (u2 fax 5 1 n6) 5 2 n7) 5 3 n8) lax) from hDx).weaken (fun _ _ _ h => hFc _ h)
  refine lv_pop hx hb dL_law_1212 rfl ?_
  refine lv_aload_n hx hb dL_law_1213 rfl (lv_at hl 1 rfl) ?_
  refine aw_iconst (v := 1) hx hb hX hbl hbA hS hl hi hi8 (by decide) ⟨by decide, by decide⟩ dL_law_1214 dL_law_1215 dL_law_1216 dL_law_1217 dL_law_1218 (fun v11 ev11 v12 ev12 => ?_)
  refine aw_iconst (v := 2) hx hb hX hbl hbA hS hl hi hi8 (by decide) ⟨by decide, by decide⟩ dL_law_1219 dL_law_1220 dL_law_1221 dL_law_1222 dL_law_1223 (fun v13 ev13 v14 ev14 => ?_)
  have hFc := free_all hDy hS hA
  refine va_calli (va_runV (As := [.int v12, .int v14]) (rest := []) ⟨hx, hb, hml, hown, ht⟩ (c_X12_order l dC dI H.size y gy cay ivy lvy fay lay hIy v12 v14) (kV 2 ht m_1641 m_1642 m_1643 m_89 m_1644 rfl rfl hd_X12_order_v ⟨Nat.le_of_ble_eq_true rfl, Nat.le_of_ble_eq_true rfl⟩) (vW hPy hKy hDy (rM_12 hKy hPy)) rfl rfl hl.1 rfl (lv_room (Nat.le_of_ble_eq_true rfl)) dL_law_1224 ⟨Nat.le_of_ble_eq_true rfl, Nat.le_of_ble_eq_true rfl⟩) hS (fun q _ h => hFc q h) hFc (fun r15 u t H1 locs ht9 hvm hr15 hB hz1 hk1 hS => ?_)
  obtain ⟨n16, n17, n18, hr15, rfl⟩ := hr15
  obtain ⟨hPy, hDy⟩ := hB
  rw [ht9] at hPy
  have hPx := P_kept hPx (la := AdX x gx) (lb := AdM y gy) wmX wmM hXY hk1
  generalize H1 = H at hPx hPy hS ⊢
  have hPy : va_P (dC, dI) classes (WM y gy cay (u2 (u2 ivy 12 60 n17) 12 61 n18) lvy (u2 fay 12 59 n16) lay) H := hPy
  have hDy : va_D A (WM y gy cay (u2 (u2 ivy 12 60 n17) 12 61 n18) lvy (u2 fay 12 59 n16) lay) := (show va_D _ (WM y gy cay (u2 (u2 ivy 12 60 n17) 12 61 n18) lvy (u2 fay 12 59 n16) lay) from hDy).weaken (fun _ _ _ h => hFc _ h)
  refine lv_pop hx hb dL_law_1227 rfl ?_
  refine lv_goto (tgt := 1509) hx hb dL_law_1228 (by decide) ?_
  exact kk _ _ (u2 (u2 ivx 5 5 n9) 5 6 n10) lvx (u2 (u2 (u2 fax 5 1 n6) 5 2 n7) 5 3 n8) lax (u2 (u2 ivy 12 60 n17) 12 61 n18) lvy (u2 fay 12 59 n16) lay (IX_a (c := 5) (k := 3) (IX_a (c := 5) (k := 2) (IX_a (c := 5) (k := 1) (IX_i (c := 5) (k := 6) (IX_i (c := 5) (k := 5) hIx (full_i _)) (full_i _)) (fun j => full_i _)) (fun j => full_i _)) (fun j => full_i _)) (IX_a (c := 12) (k := 59) (IX_i (c := 12) (k := 61) (IX_i (c := 12) (k := 60) hIy (full_i _)) (full_i _)) (fun j => full_i _)) hJC hJR hJN hJO hq_now hq_bales hq_skeins hq_rules hq_text hq_place hq_papers hrs hls hwd htx hbk hgr hgb hpa hdr hPx hDx hPy hDy hS
set_option maxHeartbeats 4000000 in
set_option maxRecDepth 100000 in
theorem law_29 {p : Program} {e : Env} {s : State} {m : MethodId} {below : List Frame} {meth : Method} {c : Code} (l : Launch) {b L : Nat} {xs : Nat → Int32} (hL : L ≤ 4096) (C0 : lw_At p s m meth c b L xs) {dC : Nat → ClassId} {dI : Nat → Nat → Nat} {A : Nat → Prop} (hA : ∀ q : Nat, s.heap.size ≤ q → A q) (hbA : ¬ A b) (hAs : ∀ q : Nat, A q → s.heap.size ≤ q) {x y : Nat} {gx gy : Nat → Nat → Nat} {cax cay : Nat → Nat → ClassId} {ak av : Nat → Nat} (hKx : va_K (dC, dI) classes (TX cax) s) (hKy : va_K (dC, dI) classes (TM cay) s) (hXY : ∀ a ∈ AdX x gx, ∀ b ∈ AdM y gy, a ≠ b) (hZ : zC ak av A s s.heap) {H : Heap} {locs : List Loc} {ivx : Nat → Nat → Int32} {lvx : Nat → Nat → Int64} {fax : Nat → Nat → Nat → Int32} {lax : Nat → Nat → Nat → Int64} {ivy : Nat → Nat → Int32} {lvy : Nat → Nat → Int64} {fay : Nat → Nat → Nat → Int32} {lay : Nat → Nat → Nat → Int64} (hIx : IX ivx fax) (hIy : IX ivy fay) (hJC : JCf (ivy 12 23).toInt (fay 12 25) (fay 12 26) (fay 12 27) (fay 12 28)) (hJR : JRf (ivy 12 3).toInt (fay 12 7)) (hJN : JNf (ivy 12 3).toInt (fay 12 4) (fay 12 5)) (hJO : ((ivy 12 20).toInt = -1 ∧ (ivy 12 21).toInt = -1 ∧ (ivy 12 22).toInt = -1)) (hq_now : ivx 11 10 = ivy 12 0) (hq_bales : ivx 0 7 = ivy 12 1) (hq_skeins : ivx 10 1 = ivy 12 3) (hq_rules : ivx 1 7 = ivy 12 23) (hq_text : ivx 8 2 = ivy 12 33) (hq_place : ivx 8 3 = ivy 12 36) (hq_papers : ivx 6 7 = ivy 12 67) (hrs : (∀ s : Nat, (s : Int) < (ivy 12 3).toInt → fax 10 0 (9 * s + 0) = fay 12 4 s ∧ fax 10 0 (9 * s + 1) = fay 12 5 s ∧ fax 10 0 (9 * s + 2) = fay 12 6 s ∧ fax 10 0 (9 * s + 3) = fay 12 7 s ∧ fax 10 0 (9 * s + 4) = fay 12 8 s ∧ fax 10 0 (9 * s + 5) = fay 12 9 s ∧ fax 10 0 (9 * s + 6) = fay 12 10 s ∧ fax 10 0 (9 * s + 7) = fay 12 11 s ∧ fax 10 0 (9 * s + 8) = fay 12 12 s)) (hls : (∀ j : Nat, -1 ≤ (fay 12 12 j).toInt)) (hwd : (∀ s : Nat, (s : Int) < (ivy 12 3).toInt → (100 ≤ (fay 12 7 s).toInt ∧ (fay 12 7 s).toInt ≤ 9999) ∧ (50 ≤ (fay 12 8 s).toInt ∧ (fay 12 8 s).toInt ≤ 9999))) (htx : (∀ j : Nat, (fax 8 1 j).toInt = sg (fay 12 32 j).toInt ∧ 0 ≤ (fay 12 32 j).toInt)) (hbk : BkE (ivy 12 23).toInt (fax 1 0) (fax 1 1) (fax 1 2) (fax 1 3) (fax 1 4) (fax 1 5) (fay 12 24) (fay 12 25) (fay 12 26) (fay 12 27) (fay 12 28) (fay 12 29) (fay 12 30) (fay 12 31)) (hgr : (∀ j : Nat, fax 0 0 j = fay 12 2 j)) (hgb : (∀ j : Nat, (j : Int) < (ivx 0 7).toInt → 1 ≤ (fax 0 0 j).toInt ∧ (fax 0 0 j).toInt ≤ 99999)) (hpa : PaE (ivy 12 67).toInt (fax 6 0) (fax 6 1) (fax 6 2) (fax 6 3) (fax 6 4) (fax 6 5) (fay 12 68) (fay 12 69) (lay 12 70) (fay 12 71) (fay 12 72) (fay 12 73)) (hdr : (∀ s : Nat, (s : Int) < (ivy 12 3).toInt → (fay 12 8 s).toInt ≤ (fay 12 7 s).toInt)) (hPx : va_P (dC, dI) classes (WX x gx cax ivx lvx fax lax) H) (hDx : va_D A (WX x gx cax ivx lvx fax lax)) (hPy : va_P (dC, dI) classes (WM y gy cay ivy lvy fay lay) H) (hDy : va_D A (WM y gy cay ivy lvy fay lay)) (hS : va_S A s.heap H locs) {i : Int32} {ls : Array Slot} (hl : lv_has ls 4 [(3, .int i), (2, .ref y), (1, .ref x), (0, .ref b)]) (hi : 0 ≤ i.toInt ∧ i.toInt ≤ 4088) (hi8 : i.toInt + 8 ≤ (L : Int)) (kk : ∀ (H : Heap) (locs : List Loc) (ivx : Nat → Nat → Int32) (lvx : Nat → Nat → Int64) (fax : Nat → Nat → Nat → Int32) (lax : Nat → Nat → Nat → Int64) (ivy : Nat → Nat → Int32) (lvy : Nat → Nat → Int64) (fay : Nat → Nat → Nat → Int32) (lay : Nat → Nat → Nat → Int64), IX ivx fax → IX ivy fay → JCf (ivy 12 23).toInt (fay 12 25) (fay 12 26) (fay 12 27) (fay 12 28) → JRf (ivy 12 3).toInt (fay 12 7) → JNf (ivy 12 3).toInt (fay 12 4) (fay 12 5) → ((ivy 12 20).toInt = -1 ∧ (ivy 12 21).toInt = -1 ∧ (ivy 12 22).toInt = -1) → ivx 11 10 = ivy 12 0 → ivx 0 7 = ivy 12 1 → ivx 10 1 = ivy 12 3 → ivx 1 7 = ivy 12 23 → ivx 8 2 = ivy 12 33 → ivx 8 3 = ivy 12 36 → ivx 6 7 = ivy 12 67 → (∀ s : Nat, (s : Int) < (ivy 12 3).toInt → fax 10 0 (9 * s + 0) = fay 12 4 s ∧ fax 10 0 (9 * s + 1) = fay 12 5 s ∧ fax 10 0 (9 * s + 2) = fay 12 6 s ∧ fax 10 0 (9 * s + 3) = fay 12 7 s ∧ fax 10 0 (9 * s + 4) = fay 12 8 s ∧ fax 10 0 (9 * s + 5) = fay 12 9 s ∧ fax 10 0 (9 * s + 6) = fay 12 10 s ∧ fax 10 0 (9 * s + 7) = fay 12 11 s ∧ fax 10 0 (9 * s + 8) = fay 12 12 s) → (∀ j : Nat, -1 ≤ (fay 12 12 j).toInt) → (∀ s : Nat, (s : Int) < (ivy 12 3).toInt → (100 ≤ (fay 12 7 s).toInt ∧ (fay 12 7 s).toInt ≤ 9999) ∧ (50 ≤ (fay 12 8 s).toInt ∧ (fay 12 8 s).toInt ≤ 9999)) → (∀ j : Nat, (fax 8 1 j).toInt = sg (fay 12 32 j).toInt ∧ 0 ≤ (fay 12 32 j).toInt) → BkE (ivy 12 23).toInt (fax 1 0) (fax 1 1) (fax 1 2) (fax 1 3) (fax 1 4) (fax 1 5) (fay 12 24) (fay 12 25) (fay 12 26) (fay 12 27) (fay 12 28) (fay 12 29) (fay 12 30) (fay 12 31) → (∀ j : Nat, fax 0 0 j = fay 12 2 j) → (∀ j : Nat, (j : Int) < (ivx 0 7).toInt → 1 ≤ (fax 0 0 j).toInt ∧ (fax 0 0 j).toInt ≤ 99999) → PaE (ivy 12 67).toInt (fax 6 0) (fax 6 1) (fax 6 2) (fax 6 3) (fax 6 4) (fax 6 5) (fay 12 68) (fay 12 69) (lay 12 70) (fay 12 71) (fay 12 72) (fay 12 73) → (∀ s : Nat, (s : Int) < (ivy 12 3).toInt → (fay 12 8 s).toInt ≤ (fay 12 7 s).toInt) → va_P (dC, dI) classes (WX x gx cax ivx lvx fax lax) H → va_D A (WX x gx cax ivx lvx fax lax) → va_P (dC, dI) classes (WM y gy cay ivy lvy fay lay) H → va_D A (WM y gy cay ivy lvy fay lay) → va_S A s.heap H locs → W p l e room_1 s m #[Value.ref b] below meth c H locs 98 5431 (lw_Z below #[Value.ref b] s) (F0 m 1509 ls [])) : W p l e room_1 s m #[Value.ref b] below meth c H locs 98 5431 (lw_Z below #[Value.ref b] s) (F0 m 1231 ls []) := by
  obtain ⟨hx, hb, hr, hml, hown, hts, hX, hbl, hlocks, hgv⟩ := id C0
  have ht := tb_of hts
  have hJD := hwd
  have hw8 := congrArg Int32.toInt hq_skeins
  have hJW : ∀ s : Nat, (s : Int) < (ivx 10 1).toInt → (100 ≤ (fax 10 0 (9 * s + 3)).toInt ∧ (fax 10 0 (9 * s + 3)).toInt ≤ 9999) ∧ (50 ≤ (fax 10 0 (9 * s + 4)).toInt ∧ (fax 10 0 (9 * s + 4)).toInt ≤ 9999) := fun s hs => by rw [(hrs s (by omega)).2.2.2.1, (hrs s (by omega)).2.2.2.2.1]; exact hwd s (by omega)
  have hw8r := congrArg Int32.toInt hq_rules
  have hJB : ∀ j : Nat, (j : Int) < (ivx 1 7).toInt → 0 ≤ (fax 1 0 j).toInt := fun j hj => (hbk j (by omega)).2.2.1
  have hJK : ∀ k j : Nat, (k : Int) < (ivy 12 23).toInt → 12 * k ≤ j → (j : Int) < 12 * (k : Int) + (fay 12 25 k).toInt → (fay 12 26 j).toInt = 3 → 0 ≤ (fay 12 28 j).toInt ∧ (fay 12 28 j).toInt < (k : Int) := bk_K hbk
  have hw8b := congrArg Int32.toInt hq_bales
  have hJF : ∀ a d v : Int, 0 ≤ a → a ≤ 5 → FoX (ivx 1 7).toInt (fax 1 0) (fax 1 1) (fax 1 2) (fax 1 3) a d v → fLo a ≤ v ∧ v ≤ fHi a := fun a d v h1 h2 x => by rw [hq_rules] at x; exact FoX_b hbk ⟨h1, h2⟩ x
  have hJH : ∀ a d v : Int, 0 ≤ a → a ≤ 5 → FoY (ivy 12 23).toInt (fay 12 24) (fay 12 25) (fay 12 26) (fay 12 27) (fay 12 28) a d v → fLo a ≤ v ∧ v ≤ fHi a := fun a d v h1 h2 x => FoY_b hbk ⟨h1, h2⟩ x
  have hJG := hgb
  have hJI : ∀ j : Nat, (j : Int) < (ivy 12 1).toInt → 1 ≤ (fay 12 2 j).toInt ∧ (fay 12 2 j).toInt ≤ 99999 := fun j hj => by rw [← hgr j]; exact hgb j (by omega)
  have hJL : ∀ b l : Int32, cn0 (fun s => fax 10 0 (9 * s + 0)) (fun s => fax 10 0 (9 * s + 1)) b l (ivx 10 1).toInt.toNat ≤ 12 := fun b l => by rw [hq_skeins, cn0_congr (ob := fay 12 4) (ol := fay 12 5) _ (fun j hj => ⟨(hrs j (by omega)).1, (hrs j (by omega)).2.1⟩)]; exact hJN b l
  have hw8p := congrArg Int32.toInt hq_papers
  have hJQ : ∀ p : Nat, (p : Int) < (ivy 12 67).toInt → 0 ≤ (lay 12 70 p).toInt ∧ ((fay 12 68 p).toInt = 0 → (lay 12 70 p).toInt ≤ 129998) ∧ (lay 12 70 p).toInt ≤ 129868002 ∧ -1 ≤ (fay 12 71 p).toInt ∧ (fay 12 71 p).toInt < (p : Int) := fun p hp => ⟨(hpa p hp).2.2.1, (hpa p hp).2.2.2.1, (hpa p hp).2.2.2.2.1, (hpa p hp).2.2.2.2.2.1, (hpa p hp).2.2.2.2.2.2.1⟩
  have hJP : ∀ p : Nat, (p : Int) < (ivx 6 7).toInt → 0 ≤ (fax 6 2 p).toInt ∧ ((fax 6 0 p).toInt = 0 → (fax 6 2 p).toInt ≤ 129998) ∧ (fax 6 2 p).toInt ≤ 129868002 ∧ -1 ≤ (fax 6 3 p).toInt ∧ (fax 6 3 p).toInt < (p : Int) := fun p hp => by rw [(hpa p (by omega)).1.1, (hpa p (by omega)).1.2.2.1, (hpa p (by omega)).1.2.2.2.1]; exact hJQ p (by omega)
  have hJS : ∀ s : Nat, (s : Int) < (ivx 10 1).toInt → (fax 10 0 (9 * s + 4)).toInt ≤ (fax 10 0 (9 * s + 3)).toInt := fun s hs => by rw [(hrs s (by omega)).2.2.2.1, (hrs s (by omega)).2.2.2.2.1]; exact hdr s (by omega)
  have hJT : ∀ j : Nat, 0 ≤ (fay 12 32 j).toInt := fun j => (htx j).2
  refine lv_aload_n hx hb dL_law_1231 rfl (lv_at hl 2 rfl) ?_
  have hFc := free_all hDx hS hA
  refine va_calli (va_runV (As := []) (rest := []) ⟨hx, hb, hml, hown, ht⟩ (c_X11_empty l dC dI H.size x gx cax ivx lvx fax lax hIx) (kV 0 ht m_1026 m_1027 m_1028 m_77 m_1029 rfl rfl hd_X11_empty_v ⟨Nat.le_of_ble_eq_true rfl, Nat.le_of_ble_eq_true rfl⟩) (vW hPx hKx hDx (rX_11 hKx hPx)) rfl rfl hl.1 rfl (lv_room (Nat.le_of_ble_eq_true rfl)) dL_law_1232 ⟨Nat.le_of_ble_eq_true rfl, Nat.le_of_ble_eq_true rfl⟩) hS (fun q _ h => hFc q h) hFc (fun r1 u t H1 locs ht9 hvm hr1 hB hz1 hk1 hS => ?_)
  obtain ⟨n2, n3, hn2, hr1, rfl⟩ := hr1
  obtain ⟨hPx, hDx⟩ := hB
  rw [ht9] at hPx
  have hPy := P_kept hPy (la := AdM y gy) (lb := AdX x gx) wmM wmX (fun a ha b hb => (hXY b hb a ha).symm) hk1
  generalize H1 = H at hPx hPy hS ⊢
  have hPx : va_P (dC, dI) classes (WX x gx cax (u2 (u2 ivx 5 4 n2) 5 6 n3) lvx fax lax) H := hPx
  have hDx : va_D A (WX x gx cax (u2 (u2 ivx 5 4 n2) 5 6 n3) lvx fax lax) := (show va_D _ (WX x gx cax (u2 (u2 ivx 5 4 n2) 5 6 n3) lvx fax lax) from hDx).weaken (fun _ _ _ h => hFc _ h)
  refine lv_pop hx hb dL_law_1235 rfl ?_
  refine lv_aload_n hx hb dL_law_1236 rfl (lv_at hl 1 rfl) ?_
  have hFc := free_all hDy hS hA
  refine va_calli (va_runV (As := []) (rest := []) ⟨hx, hb, hml, hown, ht⟩ (c_X12_empty l dC dI H.size y gy cay ivy lvy fay lay hIy) (kV 0 ht m_1656 m_1657 m_1658 m_89 m_1659 rfl rfl hd_X12_empty_v ⟨Nat.le_of_ble_eq_true rfl, Nat.le_of_ble_eq_true rfl⟩) (vW hPy hKy hDy (rM_12 hKy hPy)) rfl rfl hl.1 rfl (lv_room (Nat.le_of_ble_eq_true rfl)) dL_law_1237 ⟨Nat.le_of_ble_eq_true rfl, Nat.le_of_ble_eq_true rfl⟩) hS (fun q _ h => hFc q h) hFc (fun r4 u t H1 locs ht9 hvm hr4 hB hz1 hk1 hS => ?_)
  obtain ⟨n5, hn5, hr4, rfl⟩ := hr4
  obtain ⟨hPy, hDy⟩ := hB
  rw [ht9] at hPy
  have hPx := P_kept hPx (la := AdX x gx) (lb := AdM y gy) wmX wmM hXY hk1
  generalize H1 = H at hPx hPy hS ⊢
  have hPy : va_P (dC, dI) classes (WM y gy cay (u2 ivy 12 57 n5) lvy fay lay) H := hPy
  have hDy : va_D A (WM y gy cay (u2 ivy 12 57 n5) lvy fay lay) := (show va_D _ (WM y gy cay (u2 ivy 12 57 n5) lvy fay lay) from hDy).weaken (fun _ _ _ h => hFc _ h)
  refine lv_pop hx hb dL_law_1240 rfl ?_
  refine lv_goto (tgt := 1509) hx hb dL_law_1241 (by decide) ?_
  exact kk _ _ (u2 (u2 ivx 5 4 n2) 5 6 n3) lvx fax lax (u2 ivy 12 57 n5) lvy fay lay (IX_i (c := 5) (k := 6) (IX_i (c := 5) (k := 4) hIx hn2) (full_i _)) (IX_i (c := 12) (k := 57) hIy hn5) hJC hJR hJN hJO hq_now hq_bales hq_skeins hq_rules hq_text hq_place hq_papers hrs hls hwd htx hbk hgr hgb hpa hdr hPx hDx hPy hDy hS
