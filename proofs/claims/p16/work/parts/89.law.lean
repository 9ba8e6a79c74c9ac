/-! ===== law ===== -/
set_option maxRecDepth 100000 in
theorem m_1034 : Cond.methodLink RL 144 yX11_shared ∈ tb := tb_in 1034 (by decide +kernel) rfl
set_option maxRecDepth 100000 in
theorem m_1035 : Cond.instanceMethod yX11_shared ∈ tb := tb_in 1035 (by decide +kernel) rfl
set_option maxRecDepth 100000 in
theorem m_1036 : Cond.selects RX11 yX11_shared yX11_shared ∈ tb := tb_in 1036 (by decide +kernel) rfl
set_option maxRecDepth 100000 in
theorem m_1037 : Cond.code yX11_shared cX11_shared 5 (some .int) ∈ tb := tb_in 1037 rfl rfl
set_option maxRecDepth 100000 in
theorem m_1042 : Cond.methodLink RL 148 yX11_houses ∈ tb := tb_in 1042 (by decide +kernel) rfl
set_option maxRecDepth 100000 in
theorem m_1043 : Cond.instanceMethod yX11_houses ∈ tb := tb_in 1043 (by decide +kernel) rfl
set_option maxRecDepth 100000 in
theorem m_1044 : Cond.selects RX11 yX11_houses yX11_houses ∈ tb := tb_in 1044 (by decide +kernel) rfl
set_option maxRecDepth 100000 in
theorem m_1045 : Cond.code yX11_houses cX11_houses 3 (some .int) ∈ tb := tb_in 1045 rfl rfl
set_option maxRecDepth 100000 in
theorem m_1070 : Cond.methodLink RL 152 yX11_certify ∈ tb := tb_in 1070 (by decide +kernel) rfl
set_option maxRecDepth 100000 in
theorem m_1071 : Cond.instanceMethod yX11_certify ∈ tb := tb_in 1071 (by decide +kernel) rfl
set_option maxRecDepth 100000 in
theorem m_1072 : Cond.selects RX11 yX11_certify yX11_certify ∈ tb := tb_in 1072 (by decide +kernel) rfl
set_option maxRecDepth 100000 in
theorem m_1073 : Cond.code yX11_certify cX11_certify 6 (some .int) ∈ tb := tb_in 1073 rfl rfl
set_option maxRecDepth 100000 in
theorem m_1091 : Cond.methodLink RL 156 yX11_bill ∈ tb := tb_in 1091 (by decide +kernel) rfl
set_option maxRecDepth 100000 in
theorem m_1092 : Cond.instanceMethod yX11_bill ∈ tb := tb_in 1092 (by decide +kernel) rfl
set_option maxRecDepth 100000 in
theorem m_1093 : Cond.selects RX11 yX11_bill yX11_bill ∈ tb := tb_in 1093 (by decide +kernel) rfl
set_option maxRecDepth 100000 in
theorem m_1094 : Cond.code yX11_bill cX11_bill 3 (some .int) ∈ tb := tb_in 1094 rfl rfl
set_option maxRecDepth 100000 in
theorem m_1100 : Cond.methodLink RL 160 yX11_cut ∈ tb := tb_in 1100 (by decide +kernel) rfl
set_option maxRecDepth 100000 in
theorem m_1101 : Cond.instanceMethod yX11_cut ∈ tb := tb_in 1101 (by decide +kernel) rfl
set_option maxRecDepth 100000 in
theorem m_1102 : Cond.selects RX11 yX11_cut yX11_cut ∈ tb := tb_in 1102 (by decide +kernel) rfl
set_option maxRecDepth 100000 in
theorem m_1103 : Cond.code yX11_cut cX11_cut 5 (some .int) ∈ tb := tb_in 1103 rfl rfl
set_option maxRecDepth 100000 in
theorem m_1660 : Cond.methodLink RL 147 yX12_shared ∈ tb := tb_in 1660 (by decide +kernel) rfl
set_option maxRecDepth 100000 in
theorem m_1661 : Cond.instanceMethod yX12_shared ∈ tb := tb_in 1661 (by decide +kernel) rfl
set_option maxRecDepth 100000 in
theorem m_1662 : Cond.selects RX12 yX12_shared yX12_shared ∈ tb := tb_in 1662 (by decide +kernel) rfl
set_option maxRecDepth 100000 in
theorem m_1663 : Cond.code yX12_shared cX12_shared 5 (some .int) ∈ tb := tb_in 1663 rfl rfl
set_option maxRecDepth 100000 in
theorem m_1664 : Cond.methodLink RL 151 yX12_houses ∈ tb := tb_in 1664 (by decide +kernel) rfl
set_option maxRecDepth 100000 in
theorem m_1665 : Cond.instanceMethod yX12_houses ∈ tb := tb_in 1665 (by decide +kernel) rfl
set_option maxRecDepth 100000 in
theorem m_1666 : Cond.selects RX12 yX12_houses yX12_houses ∈ tb := tb_in 1666 (by decide +kernel) rfl
set_option maxRecDepth 100000 in
theorem m_1667 : Cond.code yX12_houses cX12_houses 4 (some .int) ∈ tb := tb_in 1667 rfl rfl
set_option maxRecDepth 100000 in
theorem m_1672 : Cond.methodLink RL 155 yX12_certify ∈ tb := tb_in 1672 (by decide +kernel) rfl
set_option maxRecDepth 100000 in
theorem m_1673 : Cond.instanceMethod yX12_certify ∈ tb := tb_in 1673 (by decide +kernel) rfl
set_option maxRecDepth 100000 in
theorem m_1674 : Cond.selects RX12 yX12_certify yX12_certify ∈ tb := tb_in 1674 (by decide +kernel) rfl
set_option maxRecDepth 100000 in
theorem m_1675 : Cond.code yX12_certify cX12_certify 4 (some .int) ∈ tb := tb_in 1675 rfl rfl
set_option maxRecDepth 100000 in
theorem m_1680 : Cond.methodLink RL 159 yX12_bill ∈ tb := tb_in 1680 (by decide +kernel) rfl
set_option maxRecDepth 100000 in
theorem m_1681 : Cond.instanceMethod yX12_bill ∈ tb := tb_in 1681 (by decide +kernel) rfl
set_option maxRecDepth 100000 in
theorem m_1682 : Cond.selects RX12 yX12_bill yX12_bill ∈ tb := tb_in 1682 (by decide +kernel) rfl
set_option maxRecDepth 100000 in
theorem m_1683 : Cond.code yX12_bill cX12_bill 3 (some .int) ∈ tb := tb_in 1683 rfl rfl
set_option maxRecDepth 100000 in
theorem m_1692 : Cond.methodLink RL 163 yX12_cut ∈ tb := tb_in 1692 (by decide +kernel) rfl
set_option maxRecDepth 100000 in
theorem m_1693 : Cond.instanceMethod yX12_cut ∈ tb := tb_in 1693 (by decide +kernel) rfl
set_option maxRecDepth 100000 in
theorem m_1694 : Cond.selects RX12 yX12_cut yX12_cut ∈ tb := tb_in 1694 (by decide +kernel) rfl
set_option maxRecDepth 100000 in
theorem m_1695 : Cond.code yX12_cut cX12_cut 6 (some .int) ∈ tb := tb_in 1695 rfl rfl
theorem hd_X11_bill_v : yX11_bill.cls = RX11 ∧ yX11_bill.cls ≠ "java/lang/invoke/MethodHandle" ∧ yX11_bill.cls ≠ "java/lang/invoke/VarHandle" ∧ (parseMethodDescriptor yX11_bill.desc).map (fun d => d.parameters.length) = some 2 := by decide +kernel
theorem hd_X11_certify_v : yX11_certify.cls = RX11 ∧ yX11_certify.cls ≠ "java/lang/invoke/MethodHandle" ∧ yX11_certify.cls ≠ "java/lang/invoke/VarHandle" ∧ (parseMethodDescriptor yX11_certify.desc).map (fun d => d.parameters.length) = some 1 := by decide +kernel
theorem hd_X11_cut_v : yX11_cut.cls = RX11 ∧ yX11_cut.cls ≠ "java/lang/invoke/MethodHandle" ∧ yX11_cut.cls ≠ "java/lang/invoke/VarHandle" ∧ (parseMethodDescriptor yX11_cut.desc).map (fun d => d.parameters.length) = some 3 := by decide +kernel
theorem hd_X11_houses_v : yX11_houses.cls = RX11 ∧ yX11_houses.cls ≠ "java/lang/invoke/MethodHandle" ∧ yX11_houses.cls ≠ "java/lang/invoke/VarHandle" ∧ (parseMethodDescriptor yX11_houses.desc).map (fun d => d.parameters.length) = some 1 := by decide +kernel
theorem hd_X11_shared_v : yX11_shared.cls = RX11 ∧ yX11_shared.cls ≠ "java/lang/invoke/MethodHandle" ∧ yX11_shared.cls ≠ "java/lang/invoke/VarHandle" ∧ (parseMethodDescriptor yX11_shared.desc).map (fun d => d.parameters.length) = some 4 := by decide +kernel
theorem hd_X12_bill_v : yX12_bill.cls = RX12 ∧ yX12_bill.cls ≠ "java/lang/invoke/MethodHandle" ∧ yX12_bill.cls ≠ "java/lang/invoke/VarHandle" ∧ (parseMethodDescriptor yX12_bill.desc).map (fun d => d.parameters.length) = some 2 := by decide +kernel
theorem hd_X12_certify_v : yX12_certify.cls = RX12 ∧ yX12_certify.cls ≠ "java/lang/invoke/MethodHandle" ∧ yX12_certify.cls ≠ "java/lang/invoke/VarHandle" ∧ (parseMethodDescriptor yX12_certify.desc).map (fun d => d.parameters.length) = some 1 := by decide +kernel
theorem hd_X12_cut_v : yX12_cut.cls = RX12 ∧ yX12_cut.cls ≠ "java/lang/invoke/MethodHandle" ∧ yX12_cut.cls ≠ "java/lang/invoke/VarHandle" ∧ (parseMethodDescriptor yX12_cut.desc).map (fun d => d.parameters.length) = some 3 := by decide +kernel
theorem hd_X12_houses_v : yX12_houses.cls = RX12 ∧ yX12_houses.cls ≠ "java/lang/invoke/MethodHandle" ∧ yX12_houses.cls ≠ "java/lang/invoke/VarHandle" ∧ (parseMethodDescriptor yX12_houses.desc).map (fun d => d.parameters.length) = some 1 := by decide +kernel
theorem hd_X12_shared_v : yX12_shared.cls = RX12 ∧ yX12_shared.cls ≠ "java/lang/invoke/MethodHandle" ∧ yX12_shared.cls ≠ "java/lang/invoke/VarHandle" ∧ (parseMethodDescriptor yX12_shared.desc).map (fun d => d.parameters.length) = some 4 := by decide +kernel
set_option maxRecDepth 100000 in
theorem dvL_law_1244 : ([(1244, .aload_n 1, 1), (1245, .aload_n 0, 1), (1246, .iload_n 3, 1), (1247, .iconst 1, 1), (1248, .iadd, 1), (1249, .iaload, 1), (1250, .aload_n 0, 1), (1251, .iload_n 3, 1), (1252, .iconst 2, 1), (1253, .iadd, 1), (1254, .iaload, 1), (1255, .aload_n 0, 1), (1256, .iload_n 3, 1), (1257, .iconst 3, 1), (1258, .iadd, 1), (1259, .iaload, 1), (1260, .aload_n 0, 1), (1261, .iload_n 3, 1), (1262, .iconst 4, 1), (1263, .iadd, 1), (1264, .iaload, 1), (1265, .invokevirtual 144, 3), (1268, .pop, 1), (1269, .aload_n 2, 1)] : List (Nat × Instr × Nat)).all (fun q => decide (decode cL_law q.1 = .ok (q.2.1, q.2.2))) = true := by decide +kernel
theorem dL_law_1244 : decode cL_law 1244 = .ok (.aload_n 1, 1) := all_at dvL_law_1244 0 rfl
theorem dL_law_1245 : decode cL_law 1245 = .ok (.aload_n 0, 1) := all_at dvL_law_1244 1 rfl
theorem dL_law_1246 : decode cL_law 1246 = .ok (.iload_n 3, 1) := all_at dvL_law_1244 2 rfl
theorem dL_law_1247 : decode cL_law 1247 = .ok (.iconst 1, 1) := all_at dvL_law_1244 3 rfl
theorem dL_law_1248 : decode cL_law 1248 = .ok (.iadd, 1) := all_at dvL_law_1244 4 rfl
theorem dL_law_1249 : decode cL_law 1249 = .ok (.iaload, 1) := all_at dvL_law_1244 5 rfl
theorem dL_law_1250 : decode cL_law 1250 = .ok (.aload_n 0, 1) := all_at dvL_law_1244 6 rfl
theorem dL_law_1251 : decode cL_law 1251 = .ok (.iload_n 3, 1) := all_at dvL_law_1244 7 rfl
theorem dL_law_1252 : decode cL_law 1252 = .ok (.iconst 2, 1) := all_at dvL_law_1244 8 rfl
theorem dL_law_1253 : decode cL_law 1253 = .ok (.iadd, 1) := all_at dvL_law_1244 9 rfl
theorem dL_law_1254 : decode cL_law 1254 = .ok (.iaload, 1) := all_at dvL_law_1244 10 rfl
theorem dL_law_1255 : decode cL_law 1255 = .ok (.aload_n 0, 1) := all_at dvL_law_1244 11 rfl
theorem dL_law_1256 : decode cL_law 1256 = .ok (.iload_n 3, 1) := all_at dvL_law_1244 12 rfl
theorem dL_law_1257 : decode cL_law 1257 = .ok (.iconst 3, 1) := all_at dvL_law_1244 13 rfl
theorem dL_law_1258 : decode cL_law 1258 = .ok (.iadd, 1) := all_at dvL_law_1244 14 rfl
theorem dL_law_1259 : decode cL_law 1259 = .ok (.iaload, 1) := all_at dvL_law_1244 15 rfl
theorem dL_law_1260 : decode cL_law 1260 = .ok (.aload_n 0, 1) := all_at dvL_law_1244 16 rfl
theorem dL_law_1261 : decode cL_law 1261 = .ok (.iload_n 3, 1) := all_at dvL_law_1244 17 rfl
theorem dL_law_1262 : decode cL_law 1262 = .ok (.iconst 4, 1) := all_at dvL_law_1244 18 rfl
theorem dL_law_1263 : decode cL_law 1263 = .ok (.iadd, 1) := all_at dvL_law_1244 19 rfl
theorem dL_law_1264 : decode cL_law 1264 = .ok (.iaload, 1) := all_at dvL_law_1244 20 rfl
theorem dL_law_1265 : decode cL_law 1265 = .ok (.invokevirtual 144, 3) := all_at dvL_law_1244 21 rfl
theorem dL_law_1268 : decode cL_law 1268 = .ok (.pop, 1) := all_at dvL_law_1244 22 rfl
theorem dL_law_1269 : decode cL_law 1269 = .ok (.aload_n 2, 1) := all_at dvL_law_1244 23 rfl
set_option maxRecDepth 100000 in
theorem dvL_law_1270 : ([(1270, .aload_n 0, 1), (1271, .iload_n 3, 1), (1272, .iconst 1, 1), (1273, .iadd, 1), (1274, .iaload, 1), (1275, .aload_n 0, 1), (1276, .iload_n 3, 1), (1277, .iconst 2, 1), (1278, .iadd, 1), (1279, .iaload, 1), (1280, .aload_n 0, 1), (1281, .iload_n 3, 1), (1282, .iconst 3, 1), (1283, .iadd, 1), (1284, .iaload, 1), (1285, .aload_n 0, 1), (1286, .iload_n 3, 1), (1287, .iconst 4, 1), (1288, .iadd, 1), (1289, .iaload, 1), (1290, .invokevirtual 147, 3), (1293, .pop, 1), (1294, .goto 214, 3), (1297, .aload_n 1, 1)] : List (Nat × Instr × Nat)).all (fun q => decide (decode cL_law q.1 = .ok (q.2.1, q.2.2))) = true := by decide +kernel
theorem dL_law_1270 : decode cL_law 1270 = .ok (.aload_n 0, 1) := all_at dvL_law_1270 0 rfl
theorem dL_law_1271 : decode cL_law 1271 = .ok (.iload_n 3, 1) := all_at dvL_law_1270 1 rfl
theorem dL_law_1272 : decode cL_law 1272 = .ok (.iconst 1, 1) := all_at dvL_law_1270 2 rfl
theorem dL_law_1273 : decode cL_law 1273 = .ok (.iadd, 1) := all_at dvL_law_1270 3 rfl
theorem dL_law_1274 : decode cL_law 1274 = .ok (.iaload, 1) := all_at dvL_law_1270 4 rfl
theorem dL_law_1275 : decode cL_law 1275 = .ok (.aload_n 0, 1) := all_at dvL_law_1270 5 rfl
theorem dL_law_1276 : decode cL_law 1276 = .ok (.iload_n 3, 1) := all_at dvL_law_1270 6 rfl
theorem dL_law_1277 : decode cL_law 1277 = .ok (.iconst 2, 1) := all_at dvL_law_1270 7 rfl
theorem dL_law_1278 : decode cL_law 1278 = .ok (.iadd, 1) := all_at dvL_law_1270 8 rfl
theorem dL_law_1279 : decode cL_law 1279 = .ok (.iaload, 1) := all_at dvL_law_1270 9 rfl
theorem dL_law_1280 : decode cL_law 1280 = .ok (.aload_n 0, 1) := all_at dvL_law_1270 10 rfl
theorem dL_law_1281 : decode cL_law 1281 = .ok (.iload_n 3, 1) := all_at dvL_law_1270 11 rfl
theorem dL_law_1282 : decode cL_law 1282 = .ok (.iconst 3, 1) := all_at dvL_law_1270 12 rfl
theorem dL_law_1283 : decode cL_law 1283 = .ok (.iadd, 1) := all_at dvL_law_1270 13 rfl
theorem dL_law_1284 : decode cL_law 1284 = .ok (.iaload, 1) := all_at dvL_law_1270 14 rfl
theorem dL_law_1285 : decode cL_law 1285 = .ok (.aload_n 0, 1) := all_at dvL_law_1270 15 rfl
theorem dL_law_1286 : decode cL_law 1286 = .ok (.iload_n 3, 1) := all_at dvL_law_1270 16 rfl
theorem dL_law_1287 : decode cL_law 1287 = .ok (.iconst 4, 1) := all_at dvL_law_1270 17 rfl
theorem dL_law_1288 : decode cL_law 1288 = .ok (.iadd, 1) := all_at dvL_law_1270 18 rfl
theorem dL_law_1289 : decode cL_law 1289 = .ok (.iaload, 1) := all_at dvL_law_1270 19 rfl
theorem dL_law_1290 : decode cL_law 1290 = .ok (.invokevirtual 147, 3) := all_at dvL_law_1270 20 rfl
theorem dL_law_1293 : decode cL_law 1293 = .ok (.pop, 1) := all_at dvL_law_1270 21 rfl
theorem dL_law_1294 : decode cL_law 1294 = .ok (.goto 214, 3) := all_at dvL_law_1270 22 rfl
theorem dL_law_1297 : decode cL_law 1297 = .ok (.aload_n 1, 1) := all_at dvL_law_1270 23 rfl
set_option maxRecDepth 100000 in
theorem dvL_law_1298 : ([(1298, .aload_n 0, 1), (1299, .iload_n 3, 1), (1300, .iconst 1, 1), (1301, .iadd, 1), (1302, .iaload, 1), (1303, .invokevirtual 148, 3), (1306, .pop, 1), (1307, .aload_n 2, 1), (1308, .aload_n 0, 1), (1309, .iload_n 3, 1), (1310, .iconst 1, 1), (1311, .iadd, 1), (1312, .iaload, 1), (1313, .invokevirtual 151, 3), (1316, .pop, 1), (1317, .goto 191, 3), (1320, .aload_n 1, 1), (1321, .aload_n 0, 1), (1322, .iload_n 3, 1), (1323, .iconst 1, 1), (1324, .iadd, 1), (1325, .iaload, 1), (1326, .invokevirtual 152, 3), (1329, .pop, 1)] : List (Nat × Instr × Nat)).all (fun q => decide (decode cL_law q.1 = .ok (q.2.1, q.2.2))) = true := by decide +kernel
theorem dL_law_1298 : decode cL_law 1298 = .ok (.aload_n 0, 1) := all_at dvL_law_1298 0 rfl
theorem dL_law_1299 : decode cL_law 1299 = .ok (.iload_n 3, 1) := all_at dvL_law_1298 1 rfl
theorem dL_law_1300 : decode cL_law 1300 = .ok (.iconst 1, 1) := all_at dvL_law_1298 2 rfl
theorem dL_law_1301 : decode cL_law 1301 = .ok (.iadd, 1) := all_at dvL_law_1298 3 rfl
theorem dL_law_1302 : decode cL_law 1302 = .ok (.iaload, 1) := all_at dvL_law_1298 4 rfl
theorem dL_law_1303 : decode cL_law 1303 = .ok (.invokevirtual 148, 3) := all_at dvL_law_1298 5 rfl
theorem dL_law_1306 : decode cL_law 1306 = .ok (.pop, 1) := all_at dvL_law_1298 6 rfl
theorem dL_law_1307 : decode cL_law 1307 = .ok (.aload_n 2, 1) := all_at dvL_law_1298 7 rfl
theorem dL_law_1308 : decode cL_law 1308 = .ok (.aload_n 0, 1) := all_at dvL_law_1298 8 rfl
theorem dL_law_1309 : decode cL_law 1309 = .ok (.iload_n 3, 1) := all_at dvL_law_1298 9 rfl
theorem dL_law_1310 : decode cL_law 1310 = .ok (.iconst 1, 1) := all_at dvL_law_1298 10 rfl
theorem dL_law_1311 : decode cL_law 1311 = .ok (.iadd, 1) := all_at dvL_law_1298 11 rfl
theorem dL_law_1312 : decode cL_law 1312 = .ok (.iaload, 1) := all_at dvL_law_1298 12 rfl
theorem dL_law_1313 : decode cL_law 1313 = .ok (.invokevirtual 151, 3) := all_at dvL_law_1298 13 rfl
theorem dL_law_1316 : decode cL_law 1316 = .ok (.pop, 1) := all_at dvL_law_1298 14 rfl
theorem dL_law_1317 : decode cL_law 1317 = .ok (.goto 191, 3) := all_at dvL_law_1298 15 rfl
theorem dL_law_1320 : decode cL_law 1320 = .ok (.aload_n 1, 1) := all_at dvL_law_1298 16 rfl
theorem dL_law_1321 : decode cL_law 1321 = .ok (.aload_n 0, 1) := all_at dvL_law_1298 17 rfl
theorem dL_law_1322 : decode cL_law 1322 = .ok (.iload_n 3, 1) := all_at dvL_law_1298 18 rfl
theorem dL_law_1323 : decode cL_law 1323 = .ok (.iconst 1, 1) := all_at dvL_law_1298 19 rfl
theorem dL_law_1324 : decode cL_law 1324 = .ok (.iadd, 1) := all_at dvL_law_1298 20 rfl
theorem dL_law_1325 : decode cL_law 1325 = .ok (.iaload, 1) := all_at dvL_law_1298 21 rfl
theorem dL_law_1326 : decode cL_law 1326 = .ok (.invokevirtual 152, 3) := all_at dvL_law_1298 22 rfl
theorem dL_law_1329 : decode cL_law 1329 = .ok (.pop, 1) := all_at dvL_law_1298 23 rfl
set_option maxRecDepth 100000 in
theorem dvL_law_1330 : ([(1330, .aload_n 2, 1), (1331, .aload_n 0, 1), (1332, .iload_n 3, 1), (1333, .iconst 1, 1), (1334, .iadd, 1), (1335, .iaload, 1), (1336, .invokevirtual 155, 3), (1339, .pop, 1), (1340, .goto 168, 3), (1343, .aload_n 1, 1), (1344, .aload_n 0, 1), (1345, .iload_n 3, 1), (1346, .iconst 1, 1), (1347, .iadd, 1), (1348, .iaload, 1), (1349, .aload_n 0, 1), (1350, .iload_n 3, 1), (1351, .iconst 2, 1), (1352, .iadd, 1), (1353, .iaload, 1), (1354, .invokevirtual 156, 3), (1357, .pop, 1), (1358, .aload_n 2, 1), (1359, .aload_n 0, 1)] : List (Nat × Instr × Nat)).all (fun q => decide (decode cL_law q.1 = .ok (q.2.1, q.2.2))) = true := by decide +kernel
theorem dL_law_1330 : decode cL_law 1330 = .ok (.aload_n 2, 1) := all_at dvL_law_1330 0 rfl
theorem dL_law_1331 : decode cL_law 1331 = .ok (.aload_n 0, 1) := all_at dvL_law_1330 1 rfl
theorem dL_law_1332 : decode cL_law 1332 = .ok (.iload_n 3, 1) := all_at dvL_law_1330 2 rfl
theorem dL_law_1333 : decode cL_law 1333 = .ok (.iconst 1, 1) := all_at dvL_law_1330 3 rfl
theorem dL_law_1334 : decode cL_law 1334 = .ok (.iadd, 1) := all_at dvL_law_1330 4 rfl
theorem dL_law_1335 : decode cL_law 1335 = .ok (.iaload, 1) := all_at dvL_law_1330 5 rfl
theorem dL_law_1336 : decode cL_law 1336 = .ok (.invokevirtual 155, 3) := all_at dvL_law_1330 6 rfl
theorem dL_law_1339 : decode cL_law 1339 = .ok (.pop, 1) := all_at dvL_law_1330 7 rfl
theorem dL_law_1340 : decode cL_law 1340 = .ok (.goto 168, 3) := all_at dvL_law_1330 8 rfl
theorem dL_law_1343 : decode cL_law 1343 = .ok (.aload_n 1, 1) := all_at dvL_law_1330 9 rfl
theorem dL_law_1344 : decode cL_law 1344 = .ok (.aload_n 0, 1) := all_at dvL_law_1330 10 rfl
theorem dL_law_1345 : decode cL_law 1345 = .ok (.iload_n 3, 1) := all_at dvL_law_1330 11 rfl
theorem dL_law_1346 : decode cL_law 1346 = .ok (.iconst 1, 1) := all_at dvL_law_1330 12 rfl
theorem dL_law_1347 : decode cL_law 1347 = .ok (.iadd, 1) := all_at dvL_law_1330 13 rfl
theorem dL_law_1348 : decode cL_law 1348 = .ok (.iaload, 1) := all_at dvL_law_1330 14 rfl
theorem dL_law_1349 : decode cL_law 1349 = .ok (.aload_n 0, 1) := all_at dvL_law_1330 15 rfl
theorem dL_law_1350 : decode cL_law 1350 = .ok (.iload_n 3, 1) := all_at dvL_law_1330 16 rfl
theorem dL_law_1351 : decode cL_law 1351 = .ok (.iconst 2, 1) := all_at dvL_law_1330 17 rfl
theorem dL_law_1352 : decode cL_law 1352 = .ok (.iadd, 1) := all_at dvL_law_1330 18 rfl
theorem dL_law_1353 : decode cL_law 1353 = .ok (.iaload, 1) := all_at dvL_law_1330 19 rfl
theorem dL_law_1354 : decode cL_law 1354 = .ok (.invokevirtual 156, 3) := all_at dvL_law_1330 20 rfl
theorem dL_law_1357 : decode cL_law 1357 = .ok (.pop, 1) := all_at dvL_law_1330 21 rfl
theorem dL_law_1358 : decode cL_law 1358 = .ok (.aload_n 2, 1) := all_at dvL_law_1330 22 rfl
theorem dL_law_1359 : decode cL_law 1359 = .ok (.aload_n 0, 1) := all_at dvL_law_1330 23 rfl
set_option maxRecDepth 100000 in
theorem dvL_law_1360 : ([(1360, .iload_n 3, 1), (1361, .iconst 1, 1), (1362, .iadd, 1), (1363, .iaload, 1), (1364, .aload_n 0, 1), (1365, .iload_n 3, 1), (1366, .iconst 2, 1), (1367, .iadd, 1), (1368, .iaload, 1), (1369, .invokevirtual 159, 3), (1372, .pop, 1), (1373, .goto 135, 3), (1376, .aload_n 1, 1), (1377, .aload_n 0, 1), (1378, .iload_n 3, 1), (1379, .iconst 1, 1), (1380, .iadd, 1), (1381, .iaload, 1), (1382, .aload_n 0, 1), (1383, .iload_n 3, 1), (1384, .iconst 2, 1), (1385, .iadd, 1), (1386, .iaload, 1), (1387, .aload_n 0, 1)] : List (Nat × Instr × Nat)).all (fun q => decide (decode cL_law q.1 = .ok (q.2.1, q.2.2))) = true := by decide +kernel
theorem dL_law_1360 : decode cL_law 1360 = .ok (.iload_n 3, 1) := all_at dvL_law_1360 0 rfl
theorem dL_law_1361 : decode cL_law 1361 = .ok (.iconst 1, 1) := all_at dvL_law_1360 1 rfl
theorem dL_law_1362 : decode cL_law 1362 = .ok (.iadd, 1) := all_at dvL_law_1360 2 rfl
theorem dL_law_1363 : decode cL_law 1363 = .ok (.iaload, 1) := all_at dvL_law_1360 3 rfl
theorem dL_law_1364 : decode cL_law 1364 = .ok (.aload_n 0, 1) := all_at dvL_law_1360 4 rfl
theorem dL_law_1365 : decode cL_law 1365 = .ok (.iload_n 3, 1) := all_at dvL_law_1360 5 rfl
theorem dL_law_1366 : decode cL_law 1366 = .ok (.iconst 2, 1) := all_at dvL_law_1360 6 rfl
theorem dL_law_1367 : decode cL_law 1367 = .ok (.iadd, 1) := all_at dvL_law_1360 7 rfl
theorem dL_law_1368 : decode cL_law 1368 = .ok (.iaload, 1) := all_at dvL_law_1360 8 rfl
theorem dL_law_1369 : decode cL_law 1369 = .ok (.invokevirtual 159, 3) := all_at dvL_law_1360 9 rfl
theorem dL_law_1372 : decode cL_law 1372 = .ok (.pop, 1) := all_at dvL_law_1360 10 rfl
theorem dL_law_1373 : decode cL_law 1373 = .ok (.goto 135, 3) := all_at dvL_law_1360 11 rfl
theorem dL_law_1376 : decode cL_law 1376 = .ok (.aload_n 1, 1) := all_at dvL_law_1360 12 rfl
theorem dL_law_1377 : decode cL_law 1377 = .ok (.aload_n 0, 1) := all_at dvL_law_1360 13 rfl
theorem dL_law_1378 : decode cL_law 1378 = .ok (.iload_n 3, 1) := all_at dvL_law_1360 14 rfl
theorem dL_law_1379 : decode cL_law 1379 = .ok (.iconst 1, 1) := all_at dvL_law_1360 15 rfl
theorem dL_law_1380 : decode cL_law 1380 = .ok (.iadd, 1) := all_at dvL_law_1360 16 rfl
theorem dL_law_1381 : decode cL_law 1381 = .ok (.iaload, 1) := all_at dvL_law_1360 17 rfl
theorem dL_law_1382 : decode cL_law 1382 = .ok (.aload_n 0, 1) := all_at dvL_law_1360 18 rfl
theorem dL_law_1383 : decode cL_law 1383 = .ok (.iload_n 3, 1) := all_at dvL_law_1360 19 rfl
theorem dL_law_1384 : decode cL_law 1384 = .ok (.iconst 2, 1) := all_at dvL_law_1360 20 rfl
theorem dL_law_1385 : decode cL_law 1385 = .ok (.iadd, 1) := all_at dvL_law_1360 21 rfl
theorem dL_law_1386 : decode cL_law 1386 = .ok (.iaload, 1) := all_at dvL_law_1360 22 rfl
theorem dL_law_1387 : decode cL_law 1387 = .ok (.aload_n 0, 1) := all_at dvL_law_1360 23 rfl
set_option maxRecDepth 100000 in
theorem dvL_law_1388 : ([(1388, .iload_n 3, 1), (1389, .iconst 3, 1), (1390, .iadd, 1), (1391, .iaload, 1), (1392, .invokevirtual 160, 3), (1395, .pop, 1), (1396, .aload_n 2, 1), (1397, .aload_n 0, 1), (1398, .iload_n 3, 1), (1399, .iconst 1, 1), (1400, .iadd, 1), (1401, .iaload, 1), (1402, .aload_n 0, 1), (1403, .iload_n 3, 1), (1404, .iconst 2, 1), (1405, .iadd, 1), (1406, .iaload, 1), (1407, .aload_n 0, 1), (1408, .iload_n 3, 1), (1409, .iconst 3, 1), (1410, .iadd, 1), (1411, .iaload, 1), (1412, .invokevirtual 163, 3), (1415, .pop, 1)] : List (Nat × Instr × Nat)).all (fun q => decide (decode cL_law q.1 = .ok (q.2.1, q.2.2))) = true := by decide +kernel
theorem dL_law_1388 : decode cL_law 1388 = .ok (.iload_n 3, 1) := all_at dvL_law_1388 0 rfl
theorem dL_law_1389 : decode cL_law 1389 = .ok (.iconst 3, 1) := all_at dvL_law_1388 1 rfl
theorem dL_law_1390 : decode cL_law 1390 = .ok (.iadd, 1) := all_at dvL_law_1388 2 rfl
theorem dL_law_1391 : decode cL_law 1391 = .ok (.iaload, 1) := all_at dvL_law_1388 3 rfl
theorem dL_law_1392 : decode cL_law 1392 = .ok (.invokevirtual 160, 3) := all_at dvL_law_1388 4 rfl
theorem dL_law_1395 : decode cL_law 1395 = .ok (.pop, 1) := all_at dvL_law_1388 5 rfl
theorem dL_law_1396 : decode cL_law 1396 = .ok (.aload_n 2, 1) := all_at dvL_law_1388 6 rfl
theorem dL_law_1397 : decode cL_law 1397 = .ok (.aload_n 0, 1) := all_at dvL_law_1388 7 rfl
theorem dL_law_1398 : decode cL_law 1398 = .ok (.iload_n 3, 1) := all_at dvL_law_1388 8 rfl
theorem dL_law_1399 : decode cL_law 1399 = .ok (.iconst 1, 1) := all_at dvL_law_1388 9 rfl
theorem dL_law_1400 : decode cL_law 1400 = .ok (.iadd, 1) := all_at dvL_law_1388 10 rfl
theorem dL_law_1401 : decode cL_law 1401 = .ok (.iaload, 1) := all_at dvL_law_1388 11 rfl
theorem dL_law_1402 : decode cL_law 1402 = .ok (.aload_n 0, 1) := all_at dvL_law_1388 12 rfl
theorem dL_law_1403 : decode cL_law 1403 = .ok (.iload_n 3, 1) := all_at dvL_law_1388 13 rfl
theorem dL_law_1404 : decode cL_law 1404 = .ok (.iconst 2, 1) := all_at dvL_law_1388 14 rfl
theorem dL_law_1405 : decode cL_law 1405 = .ok (.iadd, 1) := all_at dvL_law_1388 15 rfl
theorem dL_law_1406 : decode cL_law 1406 = .ok (.iaload, 1) := all_at dvL_law_1388 16 rfl
theorem dL_law_1407 : decode cL_law 1407 = .ok (.aload_n 0, 1) := all_at dvL_law_1388 17 rfl
theorem dL_law_1408 : decode cL_law 1408 = .ok (.iload_n 3, 1) := all_at dvL_law_1388 18 rfl
theorem dL_law_1409 : decode cL_law 1409 = .ok (.iconst 3, 1) := all_at dvL_law_1388 19 rfl
theorem dL_law_1410 : decode cL_law 1410 = .ok (.iadd, 1) := all_at dvL_law_1388 20 rfl
theorem dL_law_1411 : decode cL_law 1411 = .ok (.iaload, 1) := all_at dvL_law_1388 21 rfl
theorem dL_law_1412 : decode cL_law 1412 = .ok (.invokevirtual 163, 3) := all_at dvL_law_1388 22 rfl
theorem dL_law_1415 : decode cL_law 1415 = .ok (.pop, 1) := all_at dvL_law_1388 23 rfl
theorem dL_law_1416 : decode cL_law 1416 = .ok (.goto 92, 3) := by decide +kernel
set_option maxHeartbeats 4000000 in
set_option maxRecDepth 100000 in
theorem law_30 {p : Program} {e : Env} {s : State} {m : MethodId} {below : List Frame} {meth : Method} {c : Code} (l : Launch) {b L : Nat} {xs : Nat → Int32} (hL : L ≤ 4096) (C0 : lw_At p s m meth c b L xs) {dC : Nat → ClassId} {dI : Nat → Nat → Nat} {A : Nat → Prop} (hA : ∀ q : Nat, s.heap.size ≤ q → A q) (hbA : ¬ A b) (hAs : ∀ q : Nat, A q → s.heap.size ≤ q) {x y : Nat} {gx gy : Nat → Nat → Nat} {cax cay : Nat → Nat → ClassId} {ak av : Nat → Nat} (hKx : va_K (dC, dI) classes (TX cax) s) (hKy : va_K (dC, dI) classes (TM cay) s) (hXY : ∀ a ∈ AdX x gx, ∀ b ∈ AdM y gy, a ≠ b) (hZ : zC ak av A s s.heap) {H : Heap} {locs : List Loc} {ivx : Nat → Nat → Int32} {lvx : Nat → Nat → Int64} {fax : Nat → Nat → Nat → Int32} {lax : Nat → Nat → Nat → Int64} {ivy : Nat → Nat → Int32} {lvy : Nat → Nat → Int64} {fay : Nat → Nat → Nat → Int32} {lay : Nat → Nat → Nat → Int64} (hIx : IX ivx fax) (hIy : IX ivy fay) (hJC : JCf (ivy 12 23).toInt (fay 12 25) (fay 12 26) (fay 12 27) (fay 12 28)) (hJR : JRf (ivy 12 3).toInt (fay 12 7)) (hJN : JNf (ivy 12 3).toInt (fay 12 4) (fay 12 5)) (hJO : ((ivy 12 20).toInt = -1 ∧ (ivy 12 21).toInt = -1 ∧ (ivy 12 22).toInt = -1)) (hq_now : ivx 11 10 = ivy 12 0) (hq_bales : ivx 0 7 = ivy 12 1) (hq_skeins : ivx 10 1 = ivy 12 3) (hq_rules : ivx 1 7 = ivy 12 23) (hq_text : ivx 8 2 = ivy 12 33) (hq_place : ivx 8 3 = ivy 12 36) (hrs : (∀ s : Nat, (s : Int) < (ivy 12 3).toInt → fax 10 0 (9 * s + 0) = fay 12 4 s ∧ fax 10 0 (9 * s + 1) = fay 12 5 s ∧ fax 10 0 (9 * s + 2) = fay 12 6 s ∧ fax 10 0 (9 * s + 3) = fay 12 7 s ∧ fax 10 0 (9 * s + 4) = fay 12 8 s ∧ fax 10 0 (9 * s + 5) = fay 12 9 s ∧ fax 10 0 (9 * s + 6) = fay 12 10 s ∧ fax 10 0 (9 * s + 7) = fay 12 11 s ∧ fax 10 0 (9 * s + 8) = fay 12 12 s)) (hls : (∀ j : Nat, -1 ≤ (fay 12 12 j).toInt)) (htx : (∀ j : Nat, (fax 8 1 j).toInt = sg (fay 12 32 j).toInt ∧ 0 ≤ (fay 12 32 j).toInt)) (hbk : BkE (ivy 12 23).toInt (fax 1 0) (fax 1 1) (fax 1 2) (fax 1 3) (fax 1 4) (fax 1 5) (fay 12 24) (fay 12 25) (fay 12 26) (fay 12 27) (fay 12 28) (fay 12 29) (fay 12 30) (fay 12 31)) (hPx : va_P (dC, dI) classes (WX x gx cax ivx lvx fax lax) H) (hDx : va_D A (WX x gx cax ivx lvx fax lax)) (hPy : va_P (dC, dI) classes (WM y gy cay ivy lvy fay lay) H) (hDy : va_D A (WM y gy cay ivy lvy fay lay)) (hS : va_S A s.heap H locs) {i : Int32} {ls : Array Slot} (hl : lv_has ls 4 [(3, .int i), (2, .ref y), (1, .ref x), (0, .ref b)]) (hi : 0 ≤ i.toInt ∧ i.toInt ≤ 4088) (hi8 : i.toInt + 8 ≤ (L : Int)) (kk : ∀ (H : Heap) (locs : List Loc) (ivx : Nat → Nat → Int32) (lvx : Nat → Nat → Int64) (fax : Nat → Nat → Nat → Int32) (lax : Nat → Nat → Nat → Int64) (ivy : Nat → Nat → Int32) (lvy : Nat → Nat → Int64) (fay : Nat → Nat → Nat → Int32) (lay : Nat → Nat → Nat → Int64), IX ivx fax → IX ivy fay → JCf (ivy 12 23).toInt (fay 12 25) (fay 12 26) (fay 12 27) (fay 12 28) → JRf (ivy 12 3).toInt (fay 12 7) → JNf (ivy 12 3).toInt (fay 12 4) (fay 12 5) → ((ivy 12 20).toInt = -1 ∧ (ivy 12 21).toInt = -1 ∧ (ivy 12 22).toInt = -1) → ivx 11 10 = ivy 12 0 → ivx 0 7 = ivy 12 1 → ivx 10 1 = ivy 12 3 → ivx 1 7 = ivy 12 23 → ivx 8 2 = ivy 12 33 → ivx 8 3 = ivy 12 36 → (∀ s : Nat, (s : Int) < (ivy 12 3).toInt → fax 10 0 (9 * s + 0) = fay 12 4 s ∧ fax 10 0 (9 * s + 1) = fay 12 5 s ∧ fax 10 0 (9 * s + 2) = fay 12 6 s ∧ fax 10 0 (9 * s + 3) = fay 12 7 s ∧ fax 10 0 (9 * s + 4) = fay 12 8 s ∧ fax 10 0 (9 * s + 5) = fay 12 9 s ∧ fax 10 0 (9 * s + 6) = fay 12 10 s ∧ fax 10 0 (9 * s + 7) = fay 12 11 s ∧ fax 10 0 (9 * s + 8) = fay 12 12 s) → (∀ j : Nat, -1 ≤ (fay 12 12 j).toInt) → (∀ j : Nat, (fax 8 1 j).toInt = sg (fay 12 32 j).toInt ∧ 0 ≤ (fay 12 32 j).toInt) → BkE (ivy 12 23).toInt (fax 1 0) (fax 1 1) (fax 1 2) (fax 1 3) (fax 1 4) (fax 1 5) (fay 12 24) (fay 12 25) (fay 12 26) (fay 12 27) (fay 12 28) (fay 12 29) (fay 12 30) (fay 12 31) → va_P (dC, dI) classes (WX x gx cax ivx lvx fax lax) H → va_D A (WX x gx cax ivx lvx fax lax) → va_P (dC, dI) classes (WM y gy cay ivy lvy fay lay) H → va_D A (WM y gy cay ivy lvy fay lay) → va_S A s.heap H locs → W p l e room_1 s m #[Value.ref b] below meth c H locs 98 5431 (lw_Z below #[Value.ref b] s) (F0 m 1508 ls [])) : W p l e room_1 s m #[Value.ref b] below meth c H locs 98 5431 (lw_Z below #[Value.ref b] s) (F0 m 1244 ls []) := by
  obtain ⟨hx, hb, hr, hml, hown, hts, hX, hbl, hlocks, hgv⟩ := id C0
  have ht := tb_of hts
  have hw8r := congrArg Int32.toInt hq_rules
  have hJB : ∀ j : Nat, (j : Int) < (ivx 1 7).toInt → 0 ≤ (fax 1 0 j).toInt := fun j hj => (hbk j (by omega)).2.2.1
  have hJK : ∀ k j : Nat, (k : Int) < (ivy 12 23).toInt → 12 * k ≤ j → (j : Int) < 12 * (k : Int) + (fay 12 25 k).toInt → (fay 12 26 j).toInt = 3 → 0 ≤ (fay 12 28 j).toInt ∧ (fay 12 28 j).toInt < (k : Int) := bk_K hbk
  have hJT : ∀ j : Nat, 0 ≤ (fay 12 32 j).toInt := fun j => (htx j).2
  refine lv_aload_n hx hb dL_law_1244 rfl (lv_at hl 2 rfl) ?_
  refine lv_aload_n hx hb dL_law_1245 rfl (lv_at hl 3 rfl) ?_
  refine lv_iload_n hx hb dL_law_1246 rfl (lv_at hl 0 rfl) ?_
  refine lv_iconst (v := 1) hx hb dL_law_1247 (by decide) ?_
  refine lv_iadd hx hb dL_law_1248 ?_
  refine lv_topi (fun v1 ev1 => ?_)
  have tv1 := z_add ev1 (rfl : (i).toInt = _) (by decide : (1 : Int32).toInt = 1) (by omega) (by omega)
  refine va_sld hx hb hX hbl hbA hS (vp_in_iff.mpr ⟨by omega, by omega⟩ : vp_in v1 L) dL_law_1249 ?_
  refine lv_topi (fun v2 ev2 => ?_)
  refine lv_aload_n hx hb dL_law_1250 rfl (lv_at hl 3 rfl) ?_
  refine lv_iload_n hx hb dL_law_1251 rfl (lv_at hl 0 rfl) ?_
  refine lv_iconst (v := 2) hx hb dL_law_1252 (by decide) ?_
  refine lv_iadd hx hb dL_law_1253 ?_
  refine lv_topi (fun v3 ev3 => ?_)
  have tv3 := z_add ev3 (rfl : (i).toInt = _) (by decide : (2 : Int32).toInt = 2) (by omega) (by omega)
  refine va_sld hx hb hX hbl hbA hS (vp_in_iff.mpr ⟨by omega, by omega⟩ : vp_in v3 L) dL_law_1254 ?_
  refine lv_topi (fun v4 ev4 => ?_)
  refine lv_aload_n hx hb dL_law_1255 rfl (lv_at hl 3 rfl) ?_
  refine lv_iload_n hx hb dL_law_1256 rfl (lv_at hl 0 rfl) ?_
  refine lv_iconst (v := 3) hx hb dL_law_1257 (by decide) ?_
  refine lv_iadd hx hb dL_law_1258 ?_
  refine lv_topi (fun v5 ev5 => ?_)
  have tv5 := z_add ev5 (rfl : (i).toInt = _) (by decide : (3 : Int32).toInt = 3) (by omega) (by omega)
  refine va_sld hx hb hX hbl hbA hS (vp_in_iff.mpr ⟨by omega, by omega⟩ : vp_in v5 L) dL_law_1259 ?_
  refine lv_topi (fun v6 ev6 => ?_)
  refine lv_aload_n hx hb dL_law_1260 rfl (lv_at hl 3 rfl) ?_
  refine lv_iload_n hx hb dL_law_1261 rfl (lv_at hl 0 rfl) ?_
  refine lv_iconst (v := 4) hx hb dL_law_1262 (by decide) ?_
  refine lv_iadd hx hb dL_law_1263 ?_
  refine lv_topi (fun v7 ev7 => ?_)
  have tv7 := z_add ev7 (rfl : (i).toInt = _) (by decide : (4 : Int32).toInt = 4) (by omega) (by omega)
  refine va_sld hx hb hX hbl hbA hS (vp_in_iff.mpr ⟨by omega, by omega⟩ : vp_in v7 L) dL_law_1264 ?_
  refine lv_topi (fun v8 ev8 => ?_)
  have hFc := free_all hDx hS hA
  refine va_calli (va_runV (As := [.int v2, .int v4, .int v6, .int v8]) (rest := []) ⟨hx, hb, hml, hown, ht⟩ (c_X11_shared l dC dI H.size x gx cax ivx lvx fax lax hIx v2 v4 v6 v8) (kV 4 ht m_1034 m_1035 m_1036 m_77 m_1037 rfl rfl hd_X11_shared_v ⟨Nat.le_of_ble_eq_true rfl, Nat.le_of_ble_eq_true rfl⟩) (vW hPx hKx hDx (rX_11 hKx hPx)) rfl rfl hl.1 rfl (lv_room (Nat.le_of_ble_eq_true rfl)) dL_law_1265 ⟨Nat.le_of_ble_eq_true rfl, Nat.le_of_ble_eq_true rfl⟩) hS (fun q _ h => hFc q h) hFc (fun r9 u t H1 locs ht9 hvm hr9 hB hz1 hk1 hS => ?_)
  obtain ⟨n10, n11, n12, hn12, hr9, rfl⟩ := hr9
  obtain ⟨hPx, hDx⟩ := hB
  rw [ht9] at hPx
  have hPy := P_kept hPy (la := AdM y gy) (lb := AdX x gx) wmM wmX (fun a ha b hb => (hXY b hb a ha).symm) hk1
  generalize H1 = H at hPx hPy hS ⊢
  have hPx : va_P (dC, dI) classes (WX x gx cax (u2 ivx 4 2 n12) lvx (u2 (u2 fax 4 0 n10) 4 1 n11) lax) H := hPx
  have hDx : va_D A (WX x gx cax (u2 ivx 4 2 n12) lvx (u2 (u2 fax 4 0 n10) 4 1 n11) lax) := (show va_D _ (WX x gx cax (u2 ivx 4 2 n12) lvx (u2 (u2 fax 4 0 n10) 4 1 n11) lax) from hDx).weaken (fun _ _ _ h => hFc _ h)
  refine lv_pop hx hb dL_law_1268 rfl ?_
  refine lv_aload_n hx hb dL_law_1269 rfl (lv_at hl 1 rfl) ?_
  refine lv_aload_n hx hb dL_law_1270 rfl (lv_at hl 3 rfl) ?_
  refine lv_iload_n hx hb dL_law_1271 rfl (lv_at hl 0 rfl) ?_
  refine lv_iconst (v := 1) hx hb dL_law_1272 (by decide) ?_
  refine lv_iadd hx hb dL_law_1273 ?_
  refine lv_topi (fun v13 ev13 => ?_)
  have tv13 := z_add ev13 (rfl : (i).toInt = _) (by decide : (1 : Int32).toInt = 1) (by omega) (by omega)
  refine va_sld hx hb hX hbl hbA hS (vp_in_iff.mpr ⟨by omega, by omega⟩ : vp_in v13 L) dL_law_1274 ?_
  refine lv_topi (fun v14 ev14 => ?_)
  refine lv_aload_n hx hb dL_law_1275 rfl (lv_at hl 3 rfl) ?_
  refine lv_iload_n hx hb dL_law_1276 rfl (lv_at hl 0 rfl) ?_
  refine lv_iconst (v := 2) hx hb dL_law_1277 (by decide) ?_
  refine lv_iadd hx hb dL_law_1278 ?_
  refine lv_topi (fun v15 ev15 => ?_)
  have tv15 := z_add ev15 (rfl : (i).toInt = _) (by decide : (2 : Int32).toInt = 2) (by omega) (by omega)
  refine va_sld hx hb hX hbl hbA hS (vp_in_iff.mpr ⟨by omega, by omega⟩ : vp_in v15 L) dL_law_1279 ?_
  refine lv_topi (fun v16 ev16 => ?_)
  refine lv_aload_n hx hb dL_law_1280 rfl (lv_at hl 3 rfl) ?_
  refine lv_iload_n hx hb dL_law_1281 rfl (lv_at hl 0 rfl) ?_
  refine lv_iconst (v := 3) hx hb dL_law_1282 (by decide) ?_
  refine lv_iadd hx hb dL_law_1283 ?_
  refine lv_topi (fun v17 ev17 => ?_)
  have tv17 := z_add ev17 (rfl : (i).toInt = _) (by decide : (3 : Int32).toInt = 3) (by omega) (by omega)
  refine va_sld hx hb hX hbl hbA hS (vp_in_iff.mpr ⟨by omega, by omega⟩ : vp_in v17 L) dL_law_1284 ?_
  refine lv_topi (fun v18 ev18 => ?_)
  refine lv_aload_n hx hb dL_law_1285 rfl (lv_at hl 3 rfl) ?_
  refine lv_iload_n hx hb dL_law_1286 rfl (lv_at hl 0 rfl) ?_
  refine lv_iconst (v := 4) hx hb dL_law_1287 (by decide) ?_
  refine lv_iadd hx hb dL_law_1288 ?_
  refine lv_topi (fun v19 ev19 => ?_)
  have tv19 := z_add ev19 (rfl : (i).toInt = _) (by decide : (4 : Int32).toInt = 4) (by omega) (by omega)
  refine va_sld hx hb hX hbl hbA hS (vp_in_iff.mpr ⟨by omega, by omega⟩ : vp_in v19 L) dL_law_1289 ?_
  refine lv_topi (fun v20 ev20 => ?_)
  have hFc := free_all hDy hS hA
  refine va_calli (va_runV (As := [.int v14, .int v16, .int v18, .int v20]) (rest := []) ⟨hx, hb, hml, hown, ht⟩ (c_X12_shared l dC dI H.size y gy cay ivy lvy fay lay hIy v14 v16 v18 v20) (kV 4 ht m_1660 m_1661 m_1662 m_89 m_1663 rfl rfl hd_X12_shared_v ⟨Nat.le_of_ble_eq_true rfl, Nat.le_of_ble_eq_true rfl⟩) (vW hPy hKy hDy (rM_12 hKy hPy)) rfl rfl hl.1 rfl (lv_room (Nat.le_of_ble_eq_true rfl)) dL_law_1290 ⟨Nat.le_of_ble_eq_true rfl, Nat.le_of_ble_eq_true rfl⟩) hS (fun q _ h => hFc q h) hFc (fun r21 u t H1 locs ht9 hvm hr21 hB hz1 hk1 hS => ?_)
  obtain ⟨n22, n23, n24, hn24, hr21, rfl⟩ := hr21
  obtain ⟨hPy, hDy⟩ := hB
  rw [ht9] at hPy
  have hPx := P_kept hPx (la := AdX x gx) (lb := AdM y gy) wmX wmM hXY hk1
  generalize H1 = H at hPx hPy hS ⊢
  have hPy : va_P (dC, dI) classes (WM y gy cay (u2 ivy 12 62 n24) lvy (u2 (u2 fay 12 63 n22) 12 64 n23) lay) H := hPy
  have hDy : va_D A (WM y gy cay (u2 ivy 12 62 n24) lvy (u2 (u2 fay 12 63 n22) 12 64 n23) lay) := (show va_D _ (WM y gy cay (u2 ivy 12 62 n24) lvy (u2 (u2 fay 12 63 n22) 12 64 n23) lay) from hDy).weaken (fun _ _ _ h => hFc _ h)
  refine lv_pop hx hb dL_law_1293 rfl ?_
  refine lv_goto (tgt := 1508) hx hb dL_law_1294 (by decide) ?_
  exact kk _ _ (u2 ivx 4 2 n12) lvx (u2 (u2 fax 4 0 n10) 4 1 n11) lax (u2 ivy 12 62 n24) lvy (u2 (u2 fay 12 63 n22) 12 64 n23) lay (IX_a (c := 4) (k := 1) (IX_a (c := 4) (k := 0) (IX_i (c := 4) (k := 2) hIx hn12) (fun j => full_i _)) (fun j => full_i _)) (IX_a (c := 12) (k := 64) (IX_a (c := 12) (k := 63) (IX_i (c := 12) (k := 62) hIy hn24) (fun j => full_i _)) (fun j => full_i _)) hJC hJR hJN hJO hq_now hq_bales hq_skeins hq_rules hq_text hq_place hrs hls htx hbk hPx hDx hPy hDy hS
set_option maxHeartbeats 4000000 in
set_option maxRecDepth 100000 in
theorem law_31 {p : Program} {e : Env} {s : State} {m : MethodId} {below : List Frame} {meth : Method} {c : Code} (l : Launch) {b L : Nat} {xs : Nat → Int32} (hL : L ≤ 4096) (C0 : lw_At p s m meth c b L xs) {dC : Nat → ClassId} {dI : Nat → Nat → Nat} {A : Nat → Prop} (hA : ∀ q : Nat, s.heap.size ≤ q → A q) (hbA : ¬ A b) (hAs : ∀ q : Nat, A q → s.heap.size ≤ q) {x y : Nat} {gx gy : Nat → Nat → Nat} {cax cay : Nat → Nat → ClassId} {ak av : Nat → Nat} (hKx : va_K (dC, dI) classes (TX cax) s) (hKy : va_K (dC, dI) classes (TM cay) s) (hXY : ∀ a ∈ AdX x gx, ∀ b ∈ AdM y gy, a ≠ b) (hZ : zC ak av A s s.heap) {H : Heap} {locs : List Loc} {ivx : Nat → Nat → Int32} {lvx : Nat → Nat → Int64} {fax : Nat → Nat → Nat → Int32} {lax : Nat → Nat → Nat → Int64} {ivy : Nat → Nat → Int32} {lvy : Nat → Nat → Int64} {fay : Nat → Nat → Nat → Int32} {lay : Nat → Nat → Nat → Int64} (hIx : IX ivx fax) (hIy : IX ivy fay) (hJC : JCf (ivy 12 23).toInt (fay 12 25) (fay 12 26) (fay 12 27) (fay 12 28)) (hJR : JRf (ivy 12 3).toInt (fay 12 7)) (hJN : JNf (ivy 12 3).toInt (fay 12 4) (fay 12 5)) (hJO : ((ivy 12 20).toInt = -1 ∧ (ivy 12 21).toInt = -1 ∧ (ivy 12 22).toInt = -1)) (hq_now : ivx 11 10 = ivy 12 0) (hq_bales : ivx 0 7 = ivy 12 1) (hq_skeins : ivx 10 1 = ivy 12 3) (hq_rules : ivx 1 7 = ivy 12 23) (hq_text : ivx 8 2 = ivy 12 33) (hq_place : ivx 8 3 = ivy 12 36) (hrs : (∀ s : Nat, (s : Int) < (ivy 12 3).toInt → fax 10 0 (9 * s + 0) = fay 12 4 s ∧ fax 10 0 (9 * s + 1) = fay 12 5 s ∧ fax 10 0 (9 * s + 2) = fay 12 6 s ∧ fax 10 0 (9 * s + 3) = fay 12 7 s ∧ fax 10 0 (9 * s + 4) = fay 12 8 s ∧ fax 10 0 (9 * s + 5) = fay 12 9 s ∧ fax 10 0 (9 * s + 6) = fay 12 10 s ∧ fax 10 0 (9 * s + 7) = fay 12 11 s ∧ fax 10 0 (9 * s + 8) = fay 12 12 s)) (hls : (∀ j : Nat, -1 ≤ (fay 12 12 j).toInt)) (htx : (∀ j : Nat, (fax 8 1 j).toInt = sg (fay 12 32 j).toInt ∧ 0 ≤ (fay 12 32 j).toInt)) (hbk : BkE (ivy 12 23).toInt (fax 1 0) (fax 1 1) (fax 1 2) (fax 1 3) (fax 1 4) (fax 1 5) (fay 12 24) (fay 12 25) (fay 12 26) (fay 12 27) (fay 12 28) (fay 12 29) (fay 12 30) (fay 12 31)) (hPx : va_P (dC, dI) classes (WX x gx cax ivx lvx fax lax) H) (hDx : va_D A (WX x gx cax ivx lvx fax lax)) (hPy : va_P (dC, dI) classes (WM y gy cay ivy lvy fay lay) H) (hDy : va_D A (WM y gy cay ivy lvy fay lay)) (hS : va_S A s.heap H locs) {i : Int32} {ls : Array Slot} (hl : lv_has ls 4 [(3, .int i), (2, .ref y), (1, .ref x), (0, .ref b)]) (hi : 0 ≤ i.toInt ∧ i.toInt ≤ 4088) (hi8 : i.toInt + 8 ≤ (L : Int)) (kk : ∀ (H : Heap) (locs : List Loc) (ivx : Nat → Nat → Int32) (lvx : Nat → Nat → Int64) (fax : Nat → Nat → Nat → Int32) (lax : Nat → Nat → Nat → Int64) (ivy : Nat → Nat → Int32) (lvy : Nat → Nat → Int64) (fay : Nat → Nat → Nat → Int32) (lay : Nat → Nat → Nat → Int64), IX ivx fax → IX ivy fay → JCf (ivy 12 23).toInt (fay 12 25) (fay 12 26) (fay 12 27) (fay 12 28) → JRf (ivy 12 3).toInt (fay 12 7) → JNf (ivy 12 3).toInt (fay 12 4) (fay 12 5) → ((ivy 12 20).toInt = -1 ∧ (ivy 12 21).toInt = -1 ∧ (ivy 12 22).toInt = -1) → ivx 11 10 = ivy 12 0 → ivx 0 7 = ivy 12 1 → ivx 10 1 = ivy 12 3 → ivx 1 7 = ivy 12 23 → ivx 8 2 = ivy 12 33 → ivx 8 3 = ivy 12 36 → (∀ s : Nat, (s : Int) < (ivy 12 3).toInt → fax 10 0 (9 * s + 0) = fay 12 4 s ∧ fax 10 0 (9 * s + 1) = fay 12 5 s ∧ fax 10 0 (9 * s + 2) = fay 12 6 s ∧ fax 10 0 (9 * s + 3) = fay 12 7 s ∧ fax 10 0 (9 * s + 4) = fay 12 8 s ∧ fax 10 0 (9 * s + 5) = fay 12 9 s ∧ fax 10 0 (9 * s + 6) = fay 12 10 s ∧ fax 10 0 (9 * s + 7) = fay 12 11 s ∧ fax 10 0 (9 * s + 8) = fay 12 12 s) → (∀ j : Nat, -1 ≤ (fay 12 12 j).toInt) → (∀ j : Nat, (fax 8 1 j).toInt = sg (fay 12 32 j).toInt ∧ 0 ≤ (fay 12 32 j).toInt) → BkE (ivy 12 23).toInt (fax 1 0) (fax 1 1) (fax 1 2) (fax 1 3) (fax 1 4) (fax 1 5) (fay 12 24) (fay 12 25) (fay 12 26) (fay 12 27) (fay 12 28) (fay 12 29) (fay 12 30) (fay 12 31) → va_P (dC, dI) classes (WX x gx cax ivx lvx fax lax) H → va_D A (WX x gx cax ivx lvx fax lax) → va_P (dC, dI) classes (WM y gy cay ivy lvy fay lay) H → va_D A (WM y gy cay ivy lvy fay lay) → va_S A s.heap H locs → W p l e room_1 s m #[Value.ref b] below meth c H locs 98 5431 (lw_Z below #[Value.ref b] s) (F0 m 1508 ls [])) : W p l e room_1 s m #[Value.ref b] below meth c H locs 98 5431 (lw_Z below #[Value.ref b] s) (F0 m 1297 ls []) := by
  obtain ⟨hx, hb, hr, hml, hown, hts, hX, hbl, hlocks, hgv⟩ := id C0
  have ht := tb_of hts
  have hw8r := congrArg Int32.toInt hq_rules
  have hJB : ∀ j : Nat, (j : Int) < (ivx 1 7).toInt → 0 ≤ (fax 1 0 j).toInt := fun j hj => (hbk j (by omega)).2.2.1
  have hJK : ∀ k j : Nat, (k : Int) < (ivy 12 23).toInt → 12 * k ≤ j → (j : Int) < 12 * (k : Int) + (fay 12 25 k).toInt → (fay 12 26 j).toInt = 3 → 0 ≤ (fay 12 28 j).toInt ∧ (fay 12 28 j).toInt < (k : Int) := bk_K hbk
  have hJT : ∀ j : Nat, 0 ≤ (fay 12 32 j).toInt := fun j => (htx j).2
  refine lv_aload_n hx hb dL_law_1297 rfl (lv_at hl 2 rfl) ?_
  refine lv_aload_n hx hb dL_law_1298 rfl (lv_at hl 3 rfl) ?_
  refine lv_iload_n hx hb dL_law_1299 rfl (lv_at hl 0 rfl) ?_
  refine lv_iconst (v := 1) hx hb dL_law_1300 (by decide) ?_
  refine lv_iadd hx hb dL_law_1301 ?_
  refine lv_topi (fun v1 ev1 => ?_)
  have tv1 := z_add ev1 (rfl : (i).toInt = _) (by decide : (1 : Int32).toInt = 1) (by omega) (by omega)
  refine va_sld hx hb hX hbl hbA hS (vp_in_iff.mpr ⟨by omega, by omega⟩ : vp_in v1 L) dL_law_1302 ?_
  refine lv_topi (fun v2 ev2 => ?_)
  refine vp_callSi (W.runV (As := [.int v2]) (rest := []) ⟨hx, hb, hml, hown, ht⟩ (c_X11_houses l dC dI x gx cax ivx lvx fax lax hIx v2) (kV 1 ht m_1042 m_1043 m_1044 m_77 m_1045 rfl rfl hd_X11_houses_v ⟨Nat.le_of_ble_eq_true rfl, Nat.le_of_ble_eq_true rfl⟩) (vR hPx hKx (rX_11 hKx hPx)) rfl rfl hl.1 rfl (lv_room (Nat.le_of_ble_eq_true rfl)) dL_law_1303 ⟨Nat.le_of_ble_eq_true rfl, Nat.le_of_ble_eq_true rfl⟩) (fun r3 hr3 => ?_)
  refine lv_pop hx hb dL_law_1306 rfl ?_
  refine lv_aload_n hx hb dL_law_1307 rfl (lv_at hl 1 rfl) ?_
  refine lv_aload_n hx hb dL_law_1308 rfl (lv_at hl 3 rfl) ?_
  refine lv_iload_n hx hb dL_law_1309 rfl (lv_at hl 0 rfl) ?_
  refine lv_iconst (v := 1) hx hb dL_law_1310 (by decide) ?_
  refine lv_iadd hx hb dL_law_1311 ?_
  refine lv_topi (fun v4 ev4 => ?_)
  have tv4 := z_add ev4 (rfl : (i).toInt = _) (by decide : (1 : Int32).toInt = 1) (by omega) (by omega)
  refine va_sld hx hb hX hbl hbA hS (vp_in_iff.mpr ⟨by omega, by omega⟩ : vp_in v4 L) dL_law_1312 ?_
  refine lv_topi (fun v5 ev5 => ?_)
  have hFc := free_all hDy hS hA
  refine va_calli (va_runV (As := [.int v5]) (rest := []) ⟨hx, hb, hml, hown, ht⟩ (c_X12_houses l dC dI H.size y gy cay ivy lvy fay lay hIy v5) (kV 1 ht m_1664 m_1665 m_1666 m_89 m_1667 rfl rfl hd_X12_houses_v ⟨Nat.le_of_ble_eq_true rfl, Nat.le_of_ble_eq_true rfl⟩) (vW hPy hKy hDy (rM_12 hKy hPy)) rfl rfl hl.1 rfl (lv_room (Nat.le_of_ble_eq_true rfl)) dL_law_1313 ⟨Nat.le_of_ble_eq_true rfl, Nat.le_of_ble_eq_true rfl⟩) hS (fun q _ h => hFc q h) hFc (fun r6 u t H1 locs ht9 hvm hr6 hB hz1 hk1 hS => ?_)
  obtain ⟨n7, n8, hr6, rfl⟩ := hr6
  obtain ⟨hPy, hDy⟩ := hB
  rw [ht9] at hPy
  have hPx := P_kept hPx (la := AdX x gx) (lb := AdM y gy) wmX wmM hXY hk1
  generalize H1 = H at hPx hPy hS ⊢
  have hPy : va_P (dC, dI) classes (WM y gy cay (u2 (u2 ivy 12 65 n7) 12 66 n8) lvy fay lay) H := hPy
  have hDy : va_D A (WM y gy cay (u2 (u2 ivy 12 65 n7) 12 66 n8) lvy fay lay) := (show va_D _ (WM y gy cay (u2 (u2 ivy 12 65 n7) 12 66 n8) lvy fay lay) from hDy).weaken (fun _ _ _ h => hFc _ h)
  refine lv_pop hx hb dL_law_1316 rfl ?_
  refine lv_goto (tgt := 1508) hx hb dL_law_1317 (by decide) ?_
  exact kk _ _ ivx lvx fax lax (u2 (u2 ivy 12 65 n7) 12 66 n8) lvy fay lay hIx (IX_i (c := 12) (k := 66) (IX_i (c := 12) (k := 65) hIy (full_i _)) (full_i _)) hJC hJR hJN hJO hq_now hq_bales hq_skeins hq_rules hq_text hq_place hrs hls htx hbk hPx hDx hPy hDy hS
set_option maxHeartbeats 4000000 in
set_option maxRecDepth 100000 in
theorem law_32 {p : Program} {e : Env} {s : State} {m : MethodId} {below : List Frame} {meth : Method} {c : Code} (l : Launch) {b L : Nat} {xs : Nat → Int32} (hL : L ≤ 4096) (C0 : lw_At p s m meth c b L xs) {dC : Nat → ClassId} {dI : Nat → Nat → Nat} {A : Nat → Prop} (hA : ∀ q : Nat, s.heap.size ≤ q → A q) (hbA : ¬ A b) (hAs : ∀ q : Nat, A q → s.heap.size ≤ q) {x y : Nat} {gx gy : Nat → Nat → Nat} {cax cay : Nat → Nat → ClassId} {ak av : Nat → Nat} (hKx : va_K (dC, dI) classes (TX cax) s) (hKy : va_K (dC, dI) classes (TM cay) s) (hXY : ∀ a ∈ AdX x gx, ∀ b ∈ AdM y gy, a ≠ b) (hZ : zC ak av A s s.heap) {H : Heap} {locs : List Loc} {ivx : Nat → Nat → Int32} {lvx : Nat → Nat → Int64} {fax : Nat → Nat → Nat → Int32} {lax : Nat → Nat → Nat → Int64} {ivy : Nat → Nat → Int32} {lvy : Nat → Nat → Int64} {fay : Nat → Nat → Nat → Int32} {lay : Nat → Nat → Nat → Int64} (hIx : IX ivx fax) (hIy : IX ivy fay) (hJC : JCf (ivy 12 23).toInt (fay 12 25) (fay 12 26) (fay 12 27) (fay 12 28)) (hJR : JRf (ivy 12 3).toInt (fay 12 7)) (hJN : JNf (ivy 12 3).toInt (fay 12 4) (fay 12 5)) (hJO : ((ivy 12 20).toInt = -1 ∧ (ivy 12 21).toInt = -1 ∧ (ivy 12 22).toInt = -1)) (hq_now : ivx 11 10 = ivy 12 0) (hq_bales : ivx 0 7 = ivy 12 1) (hq_skeins : ivx 10 1 = ivy 12 3) (hq_rules : ivx 1 7 = ivy 12 23) (hq_text : ivx 8 2 = ivy 12 33) (hq_place : ivx 8 3 = ivy 12 36) (hrs : (∀ s : Nat, (s : Int) < (ivy 12 3).toInt → fax 10 0 (9 * s + 0) = fay 12 4 s ∧ fax 10 0 (9 * s + 1) = fay 12 5 s ∧ fax 10 0 (9 * s + 2) = fay 12 6 s ∧ fax 10 0 (9 * s + 3) = fay 12 7 s ∧ fax 10 0 (9 * s + 4) = fay 12 8 s ∧ fax 10 0 (9 * s + 5) = fay 12 9 s ∧ fax 10 0 (9 * s + 6) = fay 12 10 s ∧ fax 10 0 (9 * s + 7) = fay 12 11 s ∧ fax 10 0 (9 * s + 8) = fay 12 12 s)) (hls : (∀ j : Nat, -1 ≤ (fay 12 12 j).toInt)) (htx : (∀ j : Nat, (fax 8 1 j).toInt = sg (fay 12 32 j).toInt ∧ 0 ≤ (fay 12 32 j).toInt)) (hbk : BkE (ivy 12 23).toInt (fax 1 0) (fax 1 1) (fax 1 2) (fax 1 3) (fax 1 4) (fax 1 5) (fay 12 24) (fay 12 25) (fay 12 26) (fay 12 27) (fay 12 28) (fay 12 29) (fay 12 30) (fay 12 31)) (hPx : va_P (dC, dI) classes (WX x gx cax ivx lvx fax lax) H) (hDx : va_D A (WX x gx cax ivx lvx fax lax)) (hPy : va_P (dC, dI) classes (WM y gy cay ivy lvy fay lay) H) (hDy : va_D A (WM y gy cay ivy lvy fay lay)) (hS : va_S A s.heap H locs) {i : Int32} {ls : Array Slot} (hl : lv_has ls 4 [(3, .int i), (2, .ref y), (1, .ref x), (0, .ref b)]) (hi : 0 ≤ i.toInt ∧ i.toInt ≤ 4088) (hi8 : i.toInt + 8 ≤ (L : Int)) (kk : ∀ (H : Heap) (locs : List Loc) (ivx : Nat → Nat → Int32) (lvx : Nat → Nat → Int64) (fax : Nat → Nat → Nat → Int32) (lax : Nat → Nat → Nat → Int64) (ivy : Nat → Nat → Int32) (lvy : Nat → Nat → Int64) (fay : Nat → Nat → Nat → Int32) (lay : Nat → Nat → Nat → Int64), IX ivx fax → IX ivy fay → JCf (ivy 12 23).toInt (fay 12 25) (fay 12 26) (fay 12 27) (fay 12 28) → JRf (ivy 12 3).toInt (fay 12 7) → JNf (ivy 12 3).toInt (fay 12 4) (fay 12 5) → ((ivy 12 20).toInt = -1 ∧ (ivy 12 21).toInt = -1 ∧ (ivy 12 22).toInt = -1) → ivx 11 10 = ivy 12 0 → ivx 0 7 = ivy 12 1 → ivx 10 1 = ivy 12 3 → ivx 1 7 = ivy 12 23 → ivx 8 2 = ivy 12 33 → ivx 8 3 = ivy 12 36 → (∀ s : Nat, (s : Int) < (ivy 12 3).toInt → fax 10 0 (9 * s + 0) = fay 12 4 s ∧ fax 10 0 (9 * s + 1) = fay 12 5 s ∧ fax 10 0 (9 * s + 2) = fay 12 6 s ∧ fax 10 0 (9 * s + 3) = fay 12 7 s ∧ fax 10 0 (9 * s + 4) = fay 12 8 s ∧ fax 10 0 (9 * s + 5) = fay 12 9 s ∧ fax 10 0 (9 * s + 6) = fay 12 10 s ∧ fax 10 0 (9 * s + 7) = fay 12 11 s ∧ fax 10 0 (9 * s + 8) = fay 12 12 s) → (∀ j : Nat, -1 ≤ (fay 12 12 j).toInt) → (∀ j : Nat, (fax 8 1 j).toInt = sg (fay 12 32 j).toInt ∧ 0 ≤ (fay 12 32 j).toInt) → BkE (ivy 12 23).toInt (fax 1 0) (fax 1 1) (fax 1 2) (fax 1 3) (fax 1 4) (fax 1 5) (fay 12 24) (fay 12 25) (fay 12 26) (fay 12 27) (fay 12 28) (fay 12 29) (fay 12 30) (fay 12 31) → va_P (dC, dI) classes (WX x gx cax ivx lvx fax lax) H → va_D A (WX x gx cax ivx lvx fax lax) → va_P (dC, dI) classes (WM y gy cay ivy lvy fay lay) H → va_D A (WM y gy cay ivy lvy fay lay) → va_S A s.heap H locs → W p l e room_1 s m #[Value.ref b] below meth c H locs 98 5431 (lw_Z below #[Value.ref b] s) (F0 m 1508 ls [])) : W p l e room_1 s m #[Value.ref b] below meth c H locs 98 5431 (lw_Z below #[Value.ref b] s) (F0 m 1320 ls []) := by
  obtain ⟨hx, hb, hr, hml, hown, hts, hX, hbl, hlocks, hgv⟩ := id C0
  have ht := tb_of hts
  have hw8r := congrArg Int32.toInt hq_rules
  have hJB : ∀ j : Nat, (j : Int) < (ivx 1 7).toInt → 0 ≤ (fax 1 0 j).toInt := fun j hj => (hbk j (by omega)).2.2.1
  have hJK : ∀ k j : Nat, (k : Int) < (ivy 12 23).toInt → 12 * k ≤ j → (j : Int) < 12 * (k : Int) + (fay 12 25 k).toInt → (fay 12 26 j).toInt = 3 → 0 ≤ (fay 12 28 j).toInt ∧ (fay 12 28 j).toInt < (k : Int) := bk_K hbk
  have hJT : ∀ j : Nat, 0 ≤ (fay 12 32 j).toInt := fun j => (htx j).2
  refine lv_aload_n hx hb dL_law_1320 rfl (lv_at hl 2 rfl) ?_
  refine lv_aload_n hx hb dL_law_1321 rfl (lv_at hl 3 rfl) ?_
  refine lv_iload_n hx hb dL_law_1322 rfl (lv_at hl 0 rfl) ?_
  refine lv_iconst (v := 1) hx hb dL_law_1323 (by decide) ?_
  refine lv_iadd hx hb dL_law_1324 ?_
  refine lv_topi (fun v1 ev1 => ?_)
  have tv1 := z_add ev1 (rfl : (i).toInt = _) (by decide : (1 : Int32).toInt = 1) (by omega) (by omega)
  refine va_sld hx hb hX hbl hbA hS (vp_in_iff.mpr ⟨by omega, by omega⟩ : vp_in v1 L) dL_law_1325 ?_
  refine lv_topi (fun v2 ev2 => ?_)
  have hFc := free_all hDx hS hA
  refine va_calli (va_runV (As := [.int v2]) (rest := []) ⟨hx, hb, hml, hown, ht⟩ (c_X11_certify l dC dI H.size ak av x gx cax ivx lvx fax lax hIx v2) (kV 1 ht m_1070 m_1071 m_1072 m_77 m_1073 rfl rfl hd_X11_certify_v ⟨Nat.le_of_ble_eq_true rfl, Nat.le_of_ble_eq_true rfl⟩) (vWZ hPx hKx hDx ((hZ.kept hS.2.1).narrow (free_all hDx hS hA)) (rX_11 hKx hPx)) rfl rfl hl.1 rfl (lv_room (Nat.le_of_ble_eq_true rfl)) dL_law_1326 ⟨Nat.le_of_ble_eq_true rfl, Nat.le_of_ble_eq_true rfl⟩) hS (fun q _ h => hFc q h) hFc (fun r3 u t H1 locs ht9 hvm hr3 hB hz1 hk1 hS => ?_)
  obtain ⟨n4, n5, n6, n7, n8, n9, n10, n11, n12, n13, n14, n15, n16, hn4, hn8, hn14, hn15, hn16, hr3, rfl⟩ := hr3
  obtain ⟨hPx, hDx⟩ := hB
  rw [ht9] at hPx
  have hPy := P_kept hPy (la := AdM y gy) (lb := AdX x gx) wmM wmX (fun a ha b hb => (hXY b hb a ha).symm) hk1
  generalize H1 = H at hPx hPy hS ⊢
  have hPx : va_P (dC, dI) classes (WX x gx cax (u2 (u2 (u2 ivx 3 3 n14) 3 4 n15) 6 7 n16) lvx (u2 (u2 (u2 (u2 (u2 (u2 (u2 (u2 fax 1 6 n4) 6 0 n5) 6 1 n6) 6 2 n7) 6 3 n8) 6 4 n9) 6 5 n10) 30 2 n11) (u2 (u2 lax 30 0 n12) 30 1 n13)) H := hPx
  have hDx : va_D A (WX x gx cax (u2 (u2 (u2 ivx 3 3 n14) 3 4 n15) 6 7 n16) lvx (u2 (u2 (u2 (u2 (u2 (u2 (u2 (u2 fax 1 6 n4) 6 0 n5) 6 1 n6) 6 2 n7) 6 3 n8) 6 4 n9) 6 5 n10) 30 2 n11) (u2 (u2 lax 30 0 n12) 30 1 n13)) := (show va_D _ (WX x gx cax (u2 (u2 (u2 ivx 3 3 n14) 3 4 n15) 6 7 n16) lvx (u2 (u2 (u2 (u2 (u2 (u2 (u2 (u2 fax 1 6 n4) 6 0 n5) 6 1 n6) 6 2 n7) 6 3 n8) 6 4 n9) 6 5 n10) 30 2 n11) (u2 (u2 lax 30 0 n12) 30 1 n13)) from hDx).weaken (fun _ _ _ h => hFc _ h)
  refine lv_pop hx hb dL_law_1329 rfl ?_
  refine lv_aload_n hx hb dL_law_1330 rfl (lv_at hl 1 rfl) ?_
  refine lv_aload_n hx hb dL_law_1331 rfl (lv_at hl 3 rfl) ?_
  refine lv_iload_n hx hb dL_law_1332 rfl (lv_at hl 0 rfl) ?_
  refine lv_iconst (v := 1) hx hb dL_law_1333 (by decide) ?_
  refine lv_iadd hx hb dL_law_1334 ?_
  refine lv_topi (fun v17 ev17 => ?_)
  have tv17 := z_add ev17 (rfl : (i).toInt = _) (by decide : (1 : Int32).toInt = 1) (by omega) (by omega)
  refine va_sld hx hb hX hbl hbA hS (vp_in_iff.mpr ⟨by omega, by omega⟩ : vp_in v17 L) dL_law_1335 ?_
  refine lv_topi (fun v18 ev18 => ?_)
  have hFc := free_all hDy hS hA
  refine va_calli (va_runV (As := [.int v18]) (rest := []) ⟨hx, hb, hml, hown, ht⟩ (c_X12_certify l dC dI H.size y gy cay ivy lvy fay lay hIy v18 hJC hJR) (kV 1 ht m_1672 m_1673 m_1674 m_89 m_1675 rfl rfl hd_X12_certify_v ⟨Nat.le_of_ble_eq_true rfl, Nat.le_of_ble_eq_true rfl⟩) (vW hPy hKy hDy (rM_12 hKy hPy)) rfl rfl hl.1 rfl (lv_room (Nat.le_of_ble_eq_true rfl)) dL_law_1336 ⟨Nat.le_of_ble_eq_true rfl, Nat.le_of_ble_eq_true rfl⟩) hS (fun q _ h => hFc q h) hFc (fun r19 u t H1 locs ht9 hvm hr19 hB hz1 hk1 hS => ?_)
  obtain ⟨n20, n21, n22, n23, n24, n25, n26, n27, n28, n29, n30, n31, n32, n33, n34, n35, n36, n37, n38, n39, hn20, hn21, hn24, hn32, hn33, hr19, rfl⟩ := hr19
  obtain ⟨hPy, hDy⟩ := hB
  rw [ht9] at hPy
  have hPx := P_kept hPx (la := AdX x gx) (lb := AdM y gy) wmX wmM hXY hk1
  generalize H1 = H at hPx hPy hS ⊢
  have hPy : va_P (dC, dI) classes (WM y gy cay (u2 (u2 (u2 ivy 12 19 n31) 12 41 n32) 12 67 n33) (u2 (u2 (u2 (u2 (u2 (u2 lvy 12 17 n34) 12 18 n35) 12 44 n36) 12 45 n37) 12 46 n38) 12 47 n39) (u2 (u2 (u2 (u2 (u2 (u2 (u2 (u2 fay 12 39 n20) 12 40 n21) 12 68 n22) 12 69 n23) 12 71 n24) 12 72 n25) 12 73 n26) 12 74 n27) (u2 (u2 (u2 lay 12 42 n28) 12 43 n29) 12 70 n30)) H := hPy
  have hDy : va_D A (WM y gy cay (u2 (u2 (u2 ivy 12 19 n31) 12 41 n32) 12 67 n33) (u2 (u2 (u2 (u2 (u2 (u2 lvy 12 17 n34) 12 18 n35) 12 44 n36) 12 45 n37) 12 46 n38) 12 47 n39) (u2 (u2 (u2 (u2 (u2 (u2 (u2 (u2 fay 12 39 n20) 12 40 n21) 12 68 n22) 12 69 n23) 12 71 n24) 12 72 n25) 12 73 n26) 12 74 n27) (u2 (u2 (u2 lay 12 42 n28) 12 43 n29) 12 70 n30)) := (show va_D _ (WM y gy cay (u2 (u2 (u2 ivy 12 19 n31) 12 41 n32) 12 67 n33) (u2 (u2 (u2 (u2 (u2 (u2 lvy 12 17 n34) 12 18 n35) 12 44 n36) 12 45 n37) 12 46 n38) 12 47 n39) (u2 (u2 (u2 (u2 (u2 (u2 (u2 (u2 fay 12 39 n20) 12 40 n21) 12 68 n22) 12 69 n23) 12 71 n24) 12 72 n25) 12 73 n26) 12 74 n27) (u2 (u2 (u2 lay 12 42 n28) 12 43 n29) 12 70 n30)) from hDy).weaken (fun _ _ _ h => hFc _ h)
  refine lv_pop hx hb dL_law_1339 rfl ?_
  refine lv_goto (tgt := 1508) hx hb dL_law_1340 (by decide) ?_
  exact kk _ _ (u2 (u2 (u2 ivx 3 3 n14) 3 4 n15) 6 7 n16) lvx (u2 (u2 (u2 (u2 (u2 (u2 (u2 (u2 fax 1 6 n4) 6 0 n5) 6 1 n6) 6 2 n7) 6 3 n8) 6 4 n9) 6 5 n10) 30 2 n11) (u2 (u2 lax 30 0 n12) 30 1 n13) (u2 (u2 (u2 ivy 12 19 n31) 12 41 n32) 12 67 n33) (u2 (u2 (u2 (u2 (u2 (u2 lvy 12 17 n34) 12 18 n35) 12 44 n36) 12 45 n37) 12 46 n38) 12 47 n39) (u2 (u2 (u2 (u2 (u2 (u2 (u2 (u2 fay 12 39 n20) 12 40 n21) 12 68 n22) 12 69 n23) 12 71 n24) 12 72 n25) 12 73 n26) 12 74 n27) (u2 (u2 (u2 lay 12 42 n28) 12 43 n29) 12 70 n30) (IX_a (c := 30) (k := 2) (IX_a (c := 6) (k := 5) (IX_a (c := 6) (k := 4) (IX_a (c := 6) (k := 3) (IX_a (c := 6) (k := 2) (IX_a (c := 6) (k := 1) (IX_a (c := 6) (k := 0) (IX_a (c := 1) (k := 6) (IX_i (c := 6) (k := 7) (IX_i (c := 3) (k := 4) (IX_i (c := 3) (k := 3) hIx hn14) hn15) hn16) hn4) (fun j => full_i _)) (fun j => full_i _)) (fun j => full_i _)) hn8) (fun j => full_i _)) (fun j => full_i _)) (fun j => full_i _)) (IX_a (c := 12) (k := 74) (IX_a (c := 12) (k := 73) (IX_a (c := 12) (k := 72) (IX_a (c := 12) (k := 71) (IX_a (c := 12) (k := 69) (IX_a (c := 12) (k := 68) (IX_a (c := 12) (k := 40) (IX_a (c := 12) (k := 39) (IX_i (c := 12) (k := 67) (IX_i (c := 12) (k := 41) (IX_i (c := 12) (k := 19) hIy (full_i _)) hn32) hn33) hn20) hn21) (fun j => full_i _)) (fun j => full_i _)) hn24) (fun j => full_i _)) (fun j => full_i _)) (fun j => full_i _)) hJC hJR hJN hJO hq_now hq_bales hq_skeins hq_rules hq_text hq_place hrs hls htx hbk hPx hDx hPy hDy hS
set_option maxHeartbeats 4000000 in
set_option maxRecDepth 100000 in
theorem law_33 {p : Program} {e : Env} {s : State} {m : MethodId} {below : List Frame} {meth : Method} {c : Code} (l : Launch) {b L : Nat} {xs : Nat → Int32} (hL : L ≤ 4096) (C0 : lw_At p s m meth c b L xs) {dC : Nat → ClassId} {dI : Nat → Nat → Nat} {A : Nat → Prop} (hA : ∀ q : Nat, s.heap.size ≤ q → A q) (hbA : ¬ A b) (hAs : ∀ q : Nat, A q → s.heap.size ≤ q) {x y : Nat} {gx gy : Nat → Nat → Nat} {cax cay : Nat → Nat → ClassId} {ak av : Nat → Nat} (hKx : va_K (dC, dI) classes (TX cax) s) (hKy : va_K (dC, dI) classes (TM cay) s) (hXY : ∀ a ∈ AdX x gx, ∀ b ∈ AdM y gy, a ≠ b) (hZ : zC ak av A s s.heap) {H : Heap} {locs : List Loc} {ivx : Nat → Nat → Int32} {lvx : Nat → Nat → Int64} {fax : Nat → Nat → Nat → Int32} {lax : Nat → Nat → Nat → Int64} {ivy : Nat → Nat → Int32} {lvy : Nat → Nat → Int64} {fay : Nat → Nat → Nat → Int32} {lay : Nat → Nat → Nat → Int64} (hIx : IX ivx fax) (hIy : IX ivy fay) (hJC : JCf (ivy 12 23).toInt (fay 12 25) (fay 12 26) (fay 12 27) (fay 12 28)) (hJR : JRf (ivy 12 3).toInt (fay 12 7)) (hJN : JNf (ivy 12 3).toInt (fay 12 4) (fay 12 5)) (hJO : ((ivy 12 20).toInt = -1 ∧ (ivy 12 21).toInt = -1 ∧ (ivy 12 22).toInt = -1)) (hq_now : ivx 11 10 = ivy 12 0) (hq_bales : ivx 0 7 = ivy 12 1) (hq_skeins : ivx 10 1 = ivy 12 3) (hq_rules : ivx 1 7 = ivy 12 23) (hq_text : ivx 8 2 = ivy 12 33) (hq_place : ivx 8 3 = ivy 12 36) (hrs : (∀ s : Nat, (s : Int) < (ivy 12 3).toInt → fax 10 0 (9 * s + 0) = fay 12 4 s ∧ fax 10 0 (9 * s + 1) = fay 12 5 s ∧ fax 10 0 (9 * s + 2) = fay 12 6 s ∧ fax 10 0 (9 * s + 3) = fay 12 7 s ∧ fax 10 0 (9 * s + 4) = fay 12 8 s ∧ fax 10 0 (9 * s + 5) = fay 12 9 s ∧ fax 10 0 (9 * s + 6) = fay 12 10 s ∧ fax 10 0 (9 * s + 7) = fay 12 11 s ∧ fax 10 0 (9 * s + 8) = fay 12 12 s)) (hls : (∀ j : Nat, -1 ≤ (fay 12 12 j).toInt)) (htx : (∀ j : Nat, (fax 8 1 j).toInt = sg (fay 12 32 j).toInt ∧ 0 ≤ (fay 12 32 j).toInt)) (hbk : BkE (ivy 12 23).toInt (fax 1 0) (fax 1 1) (fax 1 2) (fax 1 3) (fax 1 4) (fax 1 5) (fay 12 24) (fay 12 25) (fay 12 26) (fay 12 27) (fay 12 28) (fay 12 29) (fay 12 30) (fay 12 31)) (hPx : va_P (dC, dI) classes (WX x gx cax ivx lvx fax lax) H) (hDx : va_D A (WX x gx cax ivx lvx fax lax)) (hPy : va_P (dC, dI) classes (WM y gy cay ivy lvy fay lay) H) (hDy : va_D A (WM y gy cay ivy lvy fay lay)) (hS : va_S A s.heap H locs) {i : Int32} {ls : Array Slot} (hl : lv_has ls 4 [(3, .int i), (2, .ref y), (1, .ref x), (0, .ref b)]) (hi : 0 ≤ i.toInt ∧ i.toInt ≤ 4088) (hi8 : i.toInt + 8 ≤ (L : Int)) (kk : ∀ (H : Heap) (locs : List Loc) (ivx : Nat → Nat → Int32) (lvx : Nat → Nat → Int64) (fax : Nat → Nat → Nat → Int32) (lax : Nat → Nat → Nat → Int64) (ivy : Nat → Nat → Int32) (lvy : Nat → Nat → Int64) (fay : Nat → Nat → Nat → Int32) (lay : Nat → Nat → Nat → Int64), IX ivx fax → IX ivy fay → JCf (ivy 12 23).toInt (fay 12 25) (fay 12 26) (fay 12 27) (fay 12 28) → JRf (ivy 12 3).toInt (fay 12 7) → JNf (ivy 12 3).toInt (fay 12 4) (fay 12 5) → ((ivy 12 20).toInt = -1 ∧ (ivy 12 21).toInt = -1 ∧ (ivy 12 22).toInt = -1) → ivx 11 10 = ivy 12 0 → ivx 0 7 = ivy 12 1 → ivx 10 1 = ivy 12 3 → ivx 1 7 = ivy 12 23 → ivx 8 2 = ivy 12 33 → ivx 8 3 = ivy 12 36 → (∀ s : Nat, (s : Int) < (ivy 12 3).toInt → fax 10 0 (9 * s + 0) = fay 12 4 s ∧ fax 10 0 (9 * s + 1) = fay 12 5 s ∧ fax 10 0 (9 * s + 2) = fay 12 6 s ∧ fax 10 0 (9 * s + 3) = fay 12 7 s ∧ fax 10 0 (9 * s + 4) = fay 12 8 s ∧ fax 10 0 (9 * s + 5) = fay 12 9 s ∧ fax 10 0 (9 * s + 6) = fay 12 10 s ∧ fax 10 0 (9 * s + 7) = fay 12 11 s ∧ fax 10 0 (9 * s + 8) = fay 12 12 s) → (∀ j : Nat, -1 ≤ (fay 12 12 j).toInt) → (∀ j : Nat, (fax 8 1 j).toInt = sg (fay 12 32 j).toInt ∧ 0 ≤ (fay 12 32 j).toInt) → BkE (ivy 12 23).toInt (fax 1 0) (fax 1 1) (fax 1 2) (fax 1 3) (fax 1 4) (fax 1 5) (fay 12 24) (fay 12 25) (fay 12 26) (fay 12 27) (fay 12 28) (fay 12 29) (fay 12 30) (fay 12 31) → va_P (dC, dI) classes (WX x gx cax ivx lvx fax lax) H → va_D A (WX x gx cax ivx lvx fax lax) → va_P (dC, dI) classes (WM y gy cay ivy lvy fay lay) H → va_D A (WM y gy cay ivy lvy fay lay) → va_S A s.heap H locs → W p l e room_1 s m #[Value.ref b] below meth c H locs 98 5431 (lw_Z below #[Value.ref b] s) (F0 m 1508 ls [])) : W p l e room_1 s m #[Value.ref b] below meth c H locs 98 5431 (lw_Z below #[Value.ref b] s) (F0 m 1343 ls []) := by
  obtain ⟨hx, hb, hr, hml, hown, hts, hX, hbl, hlocks, hgv⟩ := id C0
  have ht := tb_of hts
  have hw8r := congrArg Int32.toInt hq_rules
  have hJB : ∀ j : Nat, (j : Int) < (ivx 1 7).toInt → 0 ≤ (fax 1 0 j).toInt := fun j hj => (hbk j (by omega)).2.2.1
  have hJK : ∀ k j : Nat, (k : Int) < (ivy 12 23).toInt → 12 * k ≤ j → (j : Int) < 12 * (k : Int) + (fay 12 25 k).toInt → (fay 12 26 j).toInt = 3 → 0 ≤ (fay 12 28 j).toInt ∧ (fay 12 28 j).toInt < (k : Int) := bk_K hbk
  have hJT : ∀ j : Nat, 0 ≤ (fay 12 32 j).toInt := fun j => (htx j).2
  refine lv_aload_n hx hb dL_law_1343 rfl (lv_at hl 2 rfl) ?_
  refine lv_aload_n hx hb dL_law_1344 rfl (lv_at hl 3 rfl) ?_
  refine lv_iload_n hx hb dL_law_1345 rfl (lv_at hl 0 rfl) ?_
  refine lv_iconst (v := 1) hx hb dL_law_1346 (by decide) ?_
  refine lv_iadd hx hb dL_law_1347 ?_
  refine lv_topi (fun v1 ev1 => ?_)
  have tv1 := z_add ev1 (rfl : (i).toInt = _) (by decide : (1 : Int32).toInt = 1) (by omega) (by omega)
  refine va_sld hx hb hX hbl hbA hS (vp_in_iff.mpr ⟨by omega, by omega⟩ : vp_in v1 L) dL_law_1348 ?_
  refine lv_topi (fun v2 ev2 => ?_)
  refine lv_aload_n hx hb dL_law_1349 rfl (lv_at hl 3 rfl) ?_
  refine lv_iload_n hx hb dL_law_1350 rfl (lv_at hl 0 rfl) ?_
  refine lv_iconst (v := 2) hx hb dL_law_1351 (by decide) ?_
  refine lv_iadd hx hb dL_law_1352 ?_
  refine lv_topi (fun v3 ev3 => ?_)
  have tv3 := z_add ev3 (rfl : (i).toInt = _) (by decide : (2 : Int32).toInt = 2) (by omega) (by omega)
  refine va_sld hx hb hX hbl hbA hS (vp_in_iff.mpr ⟨by omega, by omega⟩ : vp_in v3 L) dL_law_1353 ?_
  refine lv_topi (fun v4 ev4 => ?_)
  have hFc := free_all hDx hS hA
  refine va_calli (va_runV (As := [.int v2, .int v4]) (rest := []) ⟨hx, hb, hml, hown, ht⟩ (c_X11_bill l dC dI H.size x gx cax ivx lvx fax lax hIx v2 v4) (kV 2 ht m_1091 m_1092 m_1093 m_77 m_1094 rfl rfl hd_X11_bill_v ⟨Nat.le_of_ble_eq_true rfl, Nat.le_of_ble_eq_true rfl⟩) (vW hPx hKx hDx (rX_11 hKx hPx)) rfl rfl hl.1 rfl (lv_room (Nat.le_of_ble_eq_true rfl)) dL_law_1354 ⟨Nat.le_of_ble_eq_true rfl, Nat.le_of_ble_eq_true rfl⟩) hS (fun q _ h => hFc q h) hFc (fun r5 u t H1 locs ht9 hvm hr5 hB hz1 hk1 hS => ?_)
  obtain ⟨n6, n7, n8, n9, n10, n11, n12, hn9, hn12, hr5, rfl⟩ := hr5
  obtain ⟨hPx, hDx⟩ := hB
  rw [ht9] at hPx
  have hPy := P_kept hPy (la := AdM y gy) (lb := AdX x gx) wmM wmX (fun a ha b hb => (hXY b hb a ha).symm) hk1
  generalize H1 = H at hPx hPy hS ⊢
  have hPx : va_P (dC, dI) classes (WX x gx cax (u2 ivx 6 7 n12) lvx (u2 (u2 (u2 (u2 (u2 (u2 fax 6 0 n6) 6 1 n7) 6 2 n8) 6 3 n9) 6 4 n10) 6 5 n11) lax) H := hPx
  have hDx : va_D A (WX x gx cax (u2 ivx 6 7 n12) lvx (u2 (u2 (u2 (u2 (u2 (u2 fax 6 0 n6) 6 1 n7) 6 2 n8) 6 3 n9) 6 4 n10) 6 5 n11) lax) := (show va_D _ (WX x gx cax (u2 ivx 6 7 n12) lvx (u2 (u2 (u2 (u2 (u2 (u2 fax 6 0 n6) 6 1 n7) 6 2 n8) 6 3 n9) 6 4 n10) 6 5 n11) lax) from hDx).weaken (fun _ _ _ h => hFc _ h)
  refine lv_pop hx hb dL_law_1357 rfl ?_
  refine lv_aload_n hx hb dL_law_1358 rfl (lv_at hl 1 rfl) ?_
  refine lv_aload_n hx hb dL_law_1359 rfl (lv_at hl 3 rfl) ?_
  refine lv_iload_n hx hb dL_law_1360 rfl (lv_at hl 0 rfl) ?_
  refine lv_iconst (v := 1) hx hb dL_law_1361 (by decide) ?_
  refine lv_iadd hx hb dL_law_1362 ?_
  refine lv_topi (fun v13 ev13 => ?_)
  have tv13 := z_add ev13 (rfl : (i).toInt = _) (by decide : (1 : Int32).toInt = 1) (by omega) (by omega)
  refine va_sld hx hb hX hbl hbA hS (vp_in_iff.mpr ⟨by omega, by omega⟩ : vp_in v13 L) dL_law_1363 ?_
  refine lv_topi (fun v14 ev14 => ?_)
  refine lv_aload_n hx hb dL_law_1364 rfl (lv_at hl 3 rfl) ?_
  refine lv_iload_n hx hb dL_law_1365 rfl (lv_at hl 0 rfl) ?_
  refine lv_iconst (v := 2) hx hb dL_law_1366 (by decide) ?_
  refine lv_iadd hx hb dL_law_1367 ?_
  refine lv_topi (fun v15 ev15 => ?_)
  have tv15 := z_add ev15 (rfl : (i).toInt = _) (by decide : (2 : Int32).toInt = 2) (by omega) (by omega)
  refine va_sld hx hb hX hbl hbA hS (vp_in_iff.mpr ⟨by omega, by omega⟩ : vp_in v15 L) dL_law_1368 ?_
  refine lv_topi (fun v16 ev16 => ?_)
  have hFc := free_all hDy hS hA
  refine va_calli (va_runV (As := [.int v14, .int v16]) (rest := []) ⟨hx, hb, hml, hown, ht⟩ (c_X12_bill l dC dI H.size y gy cay ivy lvy fay lay hIy v14 v16) (kV 2 ht m_1680 m_1681 m_1682 m_89 m_1683 rfl rfl hd_X12_bill_v ⟨Nat.le_of_ble_eq_true rfl, Nat.le_of_ble_eq_true rfl⟩) (vW hPy hKy hDy (rM_12 hKy hPy)) rfl rfl hl.1 rfl (lv_room (Nat.le_of_ble_eq_true rfl)) dL_law_1369 ⟨Nat.le_of_ble_eq_true rfl, Nat.le_of_ble_eq_true rfl⟩) hS (fun q _ h => hFc q h) hFc (fun r17 u t H1 locs ht9 hvm hr17 hB hz1 hk1 hS => ?_)
  obtain ⟨n18, n19, n20, n21, n22, n23, n24, n25, hn20, hn25, hr17, rfl⟩ := hr17
  obtain ⟨hPy, hDy⟩ := hB
  rw [ht9] at hPy
  have hPx := P_kept hPx (la := AdX x gx) (lb := AdM y gy) wmX wmM hXY hk1
  generalize H1 = H at hPx hPy hS ⊢
  have hPy : va_P (dC, dI) classes (WM y gy cay (u2 ivy 12 67 n25) lvy (u2 (u2 (u2 (u2 (u2 (u2 fay 12 68 n18) 12 69 n19) 12 71 n20) 12 72 n21) 12 73 n22) 12 74 n23) (u2 lay 12 70 n24)) H := hPy
  have hDy : va_D A (WM y gy cay (u2 ivy 12 67 n25) lvy (u2 (u2 (u2 (u2 (u2 (u2 fay 12 68 n18) 12 69 n19) 12 71 n20) 12 72 n21) 12 73 n22) 12 74 n23) (u2 lay 12 70 n24)) := (show va_D _ (WM y gy cay (u2 ivy 12 67 n25) lvy (u2 (u2 (u2 (u2 (u2 (u2 fay 12 68 n18) 12 69 n19) 12 71 n20) 12 72 n21) 12 73 n22) 12 74 n23) (u2 lay 12 70 n24)) from hDy).weaken (fun _ _ _ h => hFc _ h)
  refine lv_pop hx hb dL_law_1372 rfl ?_
  refine lv_goto (tgt := 1508) hx hb dL_law_1373 (by decide) ?_
  exact kk _ _ (u2 ivx 6 7 n12) lvx (u2 (u2 (u2 (u2 (u2 (u2 fax 6 0 n6) 6 1 n7) 6 2 n8) 6 3 n9) 6 4 n10) 6 5 n11) lax (u2 ivy 12 67 n25) lvy (u2 (u2 (u2 (u2 (u2 (u2 fay 12 68 n18) 12 69 n19) 12 71 n20) 12 72 n21) 12 73 n22) 12 74 n23) (u2 lay 12 70 n24) (IX_a (c := 6) (k := 5) (IX_a (c := 6) (k := 4) (IX_a (c := 6) (k := 3) (IX_a (c := 6) (k := 2) (IX_a (c := 6) (k := 1) (IX_a (c := 6) (k := 0) (IX_i (c := 6) (k := 7) hIx hn12) (fun j => full_i _)) (fun j => full_i _)) (fun j => full_i _)) hn9) (fun j => full_i _)) (fun j => full_i _)) (IX_a (c := 12) (k := 74) (IX_a (c := 12) (k := 73) (IX_a (c := 12) (k := 72) (IX_a (c := 12) (k := 71) (IX_a (c := 12) (k := 69) (IX_a (c := 12) (k := 68) (IX_i (c := 12) (k := 67) hIy hn25) (fun j => full_i _)) (fun j => full_i _)) hn20) (fun j => full_i _)) (fun j => full_i _)) (fun j => full_i _)) hJC hJR hJN hJO hq_now hq_bales hq_skeins hq_rules hq_text hq_place hrs hls htx hbk hPx hDx hPy hDy hS
set_option maxHeartbeats 4000000 in
set_option maxRecDepth 100000 in
theorem law_34 {p : Program} {e : Env} {s : State} {m : MethodId} {below : List Frame} {meth : Method} {c : Code} (l : Launch) {b L : Nat} {xs : Nat → Int32} (hL : L ≤ 4096) (C0 : lw_At p s m meth c b L xs) {dC : Nat → ClassId} {dI : Nat → Nat → Nat} {A : Nat → Prop} (hA : ∀ q : Nat, s.heap.size ≤ q → A q) (hbA : ¬ A b) (hAs : ∀ q : Nat, A q → s.heap.size ≤ q) {x y : Nat} {gx gy : Nat → Nat → Nat} {cax cay : Nat → Nat → ClassId} {ak av : Nat → Nat} (hKx : va_K (dC, dI) classes (TX cax) s) (hKy : va_K (dC, dI) classes (TM cay) s) (hXY : ∀ a ∈ AdX x gx, ∀ b ∈ AdM y gy, a ≠ b) (hZ : zC ak av A s s.heap) {H : Heap} {locs : List Loc} {ivx : Nat → Nat → Int32} {lvx : Nat → Nat → Int64} {fax : Nat → Nat → Nat → Int32} {lax : Nat → Nat → Nat → Int64} {ivy : Nat → Nat → Int32} {lvy : Nat → Nat → Int64} {fay : Nat → Nat → Nat → Int32} {lay : Nat → Nat → Nat → Int64} (hIx : IX ivx fax) (hIy : IX ivy fay) (hJC : JCf (ivy 12 23).toInt (fay 12 25) (fay 12 26) (fay 12 27) (fay 12 28)) (hJR : JRf (ivy 12 3).toInt (fay 12 7)) (hJN : JNf (ivy 12 3).toInt (fay 12 4) (fay 12 5)) (hJO : ((ivy 12 20).toInt = -1 ∧ (ivy 12 21).toInt = -1 ∧ (ivy 12 22).toInt = -1)) (hq_now : ivx 11 10 = ivy 12 0) (hq_bales : ivx 0 7 = ivy 12 1) (hq_skeins : ivx 10 1 = ivy 12 3) (hq_rules : ivx 1 7 = ivy 12 23) (hq_text : ivx 8 2 = ivy 12 33) (hq_place : ivx 8 3 = ivy 12 36) (hrs : (∀ s : Nat, (s : Int) < (ivy 12 3).toInt → fax 10 0 (9 * s + 0) = fay 12 4 s ∧ fax 10 0 (9 * s + 1) = fay 12 5 s ∧ fax 10 0 (9 * s + 2) = fay 12 6 s ∧ fax 10 0 (9 * s + 3) = fay 12 7 s ∧ fax 10 0 (9 * s + 4) = fay 12 8 s ∧ fax 10 0 (9 * s + 5) = fay 12 9 s ∧ fax 10 0 (9 * s + 6) = fay 12 10 s ∧ fax 10 0 (9 * s + 7) = fay 12 11 s ∧ fax 10 0 (9 * s + 8) = fay 12 12 s)) (hls : (∀ j : Nat, -1 ≤ (fay 12 12 j).toInt)) (htx : (∀ j : Nat, (fax 8 1 j).toInt = sg (fay 12 32 j).toInt ∧ 0 ≤ (fay 12 32 j).toInt)) (hbk : BkE (ivy 12 23).toInt (fax 1 0) (fax 1 1) (fax 1 2) (fax 1 3) (fax 1 4) (fax 1 5) (fay 12 24) (fay 12 25) (fay 12 26) (fay 12 27) (fay 12 28) (fay 12 29) (fay 12 30) (fay 12 31)) (hPx : va_P (dC, dI) classes (WX x gx cax ivx lvx fax lax) H) (hDx : va_D A (WX x gx cax ivx lvx fax lax)) (hPy : va_P (dC, dI) classes (WM y gy cay ivy lvy fay lay) H) (hDy : va_D A (WM y gy cay ivy lvy fay lay)) (hS : va_S A s.heap H locs) {i : Int32} {ls : Array Slot} (hl : lv_has ls 4 [(3, .int i), (2, .ref y), (1, .ref x), (0, .ref b)]) (hi : 0 ≤ i.toInt ∧ i.toInt ≤ 4088) (hi8 : i.toInt + 8 ≤ (L : Int)) (kk : ∀ (H : Heap) (locs : List Loc) (ivx : Nat → Nat → Int32) (lvx : Nat → Nat → Int64) (fax : Nat → Nat → Nat → Int32) (lax : Nat → Nat → Nat → Int64) (ivy : Nat → Nat → Int32) (lvy : Nat → Nat → Int64) (fay : Nat → Nat → Nat → Int32) (lay : Nat → Nat → Nat → Int64), IX ivx fax → IX ivy fay → JCf (ivy 12 23).toInt (fay 12 25) (fay 12 26) (fay 12 27) (fay 12 28) → JRf (ivy 12 3).toInt (fay 12 7) → JNf (ivy 12 3).toInt (fay 12 4) (fay 12 5) → ((ivy 12 20).toInt = -1 ∧ (ivy 12 21).toInt = -1 ∧ (ivy 12 22).toInt = -1) → ivx 11 10 = ivy 12 0 → ivx 0 7 = ivy 12 1 → ivx 10 1 = ivy 12 3 → ivx 1 7 = ivy 12 23 → ivx 8 2 = ivy 12 33 → ivx 8 3 = ivy 12 36 → (∀ s : Nat, (s : Int) < (ivy 12 3).toInt → fax 10 0 (9 * s + 0) = fay 12 4 s ∧ fax 10 0 (9 * s + 1) = fay 12 5 s ∧ fax 10 0 (9 * s + 2) = fay 12 6 s ∧ fax 10 0 (9 * s + 3) = fay 12 7 s ∧ fax 10 0 (9 * s + 4) = fay 12 8 s ∧ fax 10 0 (9 * s + 5) = fay 12 9 s ∧ fax 10 0 (9 * s + 6) = fay 12 10 s ∧ fax 10 0 (9 * s + 7) = fay 12 11 s ∧ fax 10 0 (9 * s + 8) = fay 12 12 s) → (∀ j : Nat, -1 ≤ (fay 12 12 j).toInt) → (∀ j : Nat, (fax 8 1 j).toInt = sg (fay 12 32 j).toInt ∧ 0 ≤ (fay 12 32 j).toInt) → BkE (ivy 12 23).toInt (fax 1 0) (fax 1 1) (fax 1 2) (fax 1 3) (fax 1 4) (fax 1 5) (fay 12 24) (fay 12 25) (fay 12 26) (fay 12 27) (fay 12 28) (fay 12 29) (fay 12 30) (fay 12 31) → va_P (dC, dI) classes (WX x gx cax ivx lvx fax lax) H → va_D A (WX x gx cax ivx lvx fax lax) → va_P (dC, dI) classes (WM y gy cay ivy lvy fay lay) H → va_D A (WM y gy cay ivy lvy fay lay) → va_S A s.heap H locs → W p l e room_1 s m #[Value.ref b] below meth c H locs 98 5431 (lw_Z below #[Value.ref b] s) (F0 m 1508 ls [])) : W p l e room_1 s m #[Value.ref b] below meth c H locs 98 5431 (lw_Z below #[Value.ref b] s) (F0 m 1376 ls []) := by
  obtain ⟨hx, hb, hr, hml, hown, hts, hX, hbl, hlocks, hgv⟩ := id C0
  have ht := tb_of hts
  have hw8r := congrArg Int32.toInt hq_rules
  have hJB : ∀ j : Nat, (j : Int) < (ivx 1 7).toInt → 0 ≤ (fax 1 0 j).toInt := fun j hj => (hbk j (by omega)).2.2.1
  have hJK : ∀ k j : Nat, (k : Int) < (ivy 12 23).toInt → 12 * k ≤ j → (j : Int) < 12 * (k : Int) + (fay 12 25 k).toInt → (fay 12 26 j).toInt = 3 → 0 ≤ (fay 12 28 j).toInt ∧ (fay 12 28 j).toInt < (k : Int) := bk_K hbk
  have hJT : ∀ j : Nat, 0 ≤ (fay 12 32 j).toInt := fun j => (htx j).2
  refine lv_aload_n hx hb dL_law_1376 rfl (lv_at hl 2 rfl) ?_
  refine lv_aload_n hx hb dL_law_1377 rfl (lv_at hl 3 rfl) ?_
  refine lv_iload_n hx hb dL_law_1378 rfl (lv_at hl 0 rfl) ?_
  refine lv_iconst (v := 1) hx hb dL_law_1379 (by decide) ?_
  refine lv_iadd hx hb dL_law_1380 ?_
  refine lv_topi (fun v1 ev1 => ?_)
  have tv1 := z_add ev1 (rfl : (i).toInt = _) (by decide : (1 : Int32).toInt = 1) (by omega) (by omega)
  refine va_sld hx hb hX hbl hbA hS (vp_in_iff.mpr ⟨by omega, by omega⟩ : vp_in v1 L) dL_law_1381 ?_
  refine lv_topi (fun v2 ev2 => ?_)
  refine lv_aload_n hx hb dL_law_1382 rfl (lv_at hl 3 rfl) ?_
  refine lv_iload_n hx hb dL_law_1383 rfl (lv_at hl 0 rfl) ?_
  refine lv_iconst (v := 2) hx hb dL_law_1384 (by decide) ?_
  refine lv_iadd hx hb dL_law_1385 ?_
  refine lv_topi (fun v3 ev3 => ?_)
  have tv3 := z_add ev3 (rfl : (i).toInt = _) (by decide : (2 : Int32).toInt = 2) (by omega) (by omega)
  refine va_sld hx hb hX hbl hbA hS (vp_in_iff.mpr ⟨by omega, by omega⟩ : vp_in v3 L) dL_law_1386 ?_
  refine lv_topi (fun v4 ev4 => ?_)
  refine lv_aload_n hx hb dL_law_1387 rfl (lv_at hl 3 rfl) ?_
  refine lv_iload_n hx hb dL_law_1388 rfl (lv_at hl 0 rfl) ?_
  refine lv_iconst (v := 3) hx hb dL_law_1389 (by decide) ?_
  refine lv_iadd hx hb dL_law_1390 ?_
  refine lv_topi (fun v5 ev5 => ?_)
  have tv5 := z_add ev5 (rfl : (i).toInt = _) (by decide : (3 : Int32).toInt = 3) (by omega) (by omega)
  refine va_sld hx hb hX hbl hbA hS (vp_in_iff.mpr ⟨by omega, by omega⟩ : vp_in v5 L) dL_law_1391 ?_
  refine lv_topi (fun v6 ev6 => ?_)
  have hFc := free_all hDx hS hA
  refine va_calli (va_runV (As := [.int v2, .int v4, .int v6]) (rest := []) ⟨hx, hb, hml, hown, ht⟩ (c_X11_cut l dC dI H.size x gx cax ivx lvx fax lax hIx v2 v4 v6) (kV 3 ht m_1100 m_1101 m_1102 m_77 m_1103 rfl rfl hd_X11_cut_v ⟨Nat.le_of_ble_eq_true rfl, Nat.le_of_ble_eq_true rfl⟩) (vW hPx hKx hDx (rX_11 hKx hPx)) rfl rfl hl.1 rfl (lv_room (Nat.le_of_ble_eq_true rfl)) dL_law_1392 ⟨Nat.le_of_ble_eq_true rfl, Nat.le_of_ble_eq_true rfl⟩) hS (fun q _ h => hFc q h) hFc (fun r7 u t H1 locs ht9 hvm hr7 hB hz1 hk1 hS => ?_)
  obtain ⟨n8, n9, n10, n11, n12, n13, n14, hn11, hn14, hr7, rfl⟩ := hr7
  obtain ⟨hPx, hDx⟩ := hB
  rw [ht9] at hPx
  have hPy := P_kept hPy (la := AdM y gy) (lb := AdX x gx) wmM wmX (fun a ha b hb => (hXY b hb a ha).symm) hk1
  generalize H1 = H at hPx hPy hS ⊢
  have hPx : va_P (dC, dI) classes (WX x gx cax (u2 ivx 6 7 n14) lvx (u2 (u2 (u2 (u2 (u2 (u2 fax 6 0 n8) 6 1 n9) 6 2 n10) 6 3 n11) 6 4 n12) 6 5 n13) lax) H := hPx
  have hDx : va_D A (WX x gx cax (u2 ivx 6 7 n14) lvx (u2 (u2 (u2 (u2 (u2 (u2 fax 6 0 n8) 6 1 n9) 6 2 n10) 6 3 n11) 6 4 n12) 6 5 n13) lax) := (show va_D _ (WX x gx cax (u2 ivx 6 7 n14) lvx (u2 (u2 (u2 (u2 (u2 (u2 fax 6 0 n8) 6 1 n9) 6 2 n10) 6 3 n11) 6 4 n12) 6 5 n13) lax) from hDx).weaken (fun _ _ _ h => hFc _ h)
  refine lv_pop hx hb dL_law_1395 rfl ?_
  refine lv_aload_n hx hb dL_law_1396 rfl (lv_at hl 1 rfl) ?_
  refine lv_aload_n hx hb dL_law_1397 rfl (lv_at hl 3 rfl) ?_
  refine lv_iload_n hx hb dL_law_1398 rfl (lv_at hl 0 rfl) ?_
  refine lv_iconst (v := 1) hx hb dL_law_1399 (by decide) ?_
  refine lv_iadd hx hb dL_law_1400 ?_
  refine lv_topi (fun v15 ev15 => ?_)
  have tv15 := z_add ev15 (rfl : (i).toInt = _) (by decide : (1 : Int32).toInt = 1) (by omega) (by omega)
  refine va_sld hx hb hX hbl hbA hS (vp_in_iff.mpr ⟨by omega, by omega⟩ : vp_in v15 L) dL_law_1401 ?_
  refine lv_topi (fun v16 ev16 => ?_)
  refine lv_aload_n hx hb dL_law_1402 rfl (lv_at hl 3 rfl) ?_
  refine lv_iload_n hx hb dL_law_1403 rfl (lv_at hl 0 rfl) ?_
  refine lv_iconst (v := 2) hx hb dL_law_1404 (by decide) ?_
  refine lv_iadd hx hb dL_law_1405 ?_
  refine lv_topi (fun v17 ev17 => ?_)
  have tv17 := z_add ev17 (rfl : (i).toInt = _) (by decide : (2 : Int32).toInt = 2) (by omega) (by omega)
  refine va_sld hx hb hX hbl hbA hS (vp_in_iff.mpr ⟨by omega, by omega⟩ : vp_in v17 L) dL_law_1406 ?_
  refine lv_topi (fun v18 ev18 => ?_)
  refine lv_aload_n hx hb dL_law_1407 rfl (lv_at hl 3 rfl) ?_
  refine lv_iload_n hx hb dL_law_1408 rfl (lv_at hl 0 rfl) ?_
  refine lv_iconst (v := 3) hx hb dL_law_1409 (by decide) ?_
  refine lv_iadd hx hb dL_law_1410 ?_
  refine lv_topi (fun v19 ev19 => ?_)
  have tv19 := z_add ev19 (rfl : (i).toInt = _) (by decide : (3 : Int32).toInt = 3) (by omega) (by omega)
  refine va_sld hx hb hX hbl hbA hS (vp_in_iff.mpr ⟨by omega, by omega⟩ : vp_in v19 L) dL_law_1411 ?_
  refine lv_topi (fun v20 ev20 => ?_)
  have hFc := free_all hDy hS hA
  refine va_calli (va_runV (As := [.int v16, .int v18, .int v20]) (rest := []) ⟨hx, hb, hml, hown, ht⟩ (c_X12_cut l dC dI H.size y gy cay ivy lvy fay lay hIy v16 v18 v20) (kV 3 ht m_1692 m_1693 m_1694 m_89 m_1695 rfl rfl hd_X12_cut_v ⟨Nat.le_of_ble_eq_true rfl, Nat.le_of_ble_eq_true rfl⟩) (vW hPy hKy hDy (rM_12 hKy hPy)) rfl rfl hl.1 rfl (lv_room (Nat.le_of_ble_eq_true rfl)) dL_law_1412 ⟨Nat.le_of_ble_eq_true rfl, Nat.le_of_ble_eq_true rfl⟩) hS (fun q _ h => hFc q h) hFc (fun r21 u t H1 locs ht9 hvm hr21 hB hz1 hk1 hS => ?_)
  obtain ⟨n22, n23, n24, n25, n26, n27, n28, n29, hn24, hn29, hr21, rfl⟩ := hr21
  obtain ⟨hPy, hDy⟩ := hB
  rw [ht9] at hPy
  have hPx := P_kept hPx (la := AdX x gx) (lb := AdM y gy) wmX wmM hXY hk1
  generalize H1 = H at hPx hPy hS ⊢
  have hPy : va_P (dC, dI) classes (WM y gy cay (u2 ivy 12 67 n29) lvy (u2 (u2 (u2 (u2 (u2 (u2 fay 12 68 n22) 12 69 n23) 12 71 n24) 12 72 n25) 12 73 n26) 12 74 n27) (u2 lay 12 70 n28)) H := hPy
  have hDy : va_D A (WM y gy cay (u2 ivy 12 67 n29) lvy (u2 (u2 (u2 (u2 (u2 (u2 fay 12 68 n22) 12 69 n23) 12 71 n24) 12 72 n25) 12 73 n26) 12 74 n27) (u2 lay 12 70 n28)) := (show va_D _ (WM y gy cay (u2 ivy 12 67 n29) lvy (u2 (u2 (u2 (u2 (u2 (u2 fay 12 68 n22) 12 69 n23) 12 71 n24) 12 72 n25) 12 73 n26) 12 74 n27) (u2 lay 12 70 n28)) from hDy).weaken (fun _ _ _ h => hFc _ h)
  refine lv_pop hx hb dL_law_1415 rfl ?_
  refine lv_goto (tgt := 1508) hx hb dL_law_1416 (by decide) ?_
  exact kk _ _ (u2 ivx 6 7 n14) lvx (u2 (u2 (u2 (u2 (u2 (u2 fax 6 0 n8) 6 1 n9) 6 2 n10) 6 3 n11) 6 4 n12) 6 5 n13) lax (u2 ivy 12 67 n29) lvy (u2 (u2 (u2 (u2 (u2 (u2 fay 12 68 n22) 12 69 n23) 12 71 n24) 12 72 n25) 12 73 n26) 12 74 n27) (u2 lay 12 70 n28) (IX_a (c := 6) (k := 5) (IX_a (c := 6) (k := 4) (IX_a (c := 6) (k := 3) (IX_a (c := 6) (k := 2) (IX_a (c := 6) (k := 1) (IX_a (c := 6) (k := 0) (IX_i (c := 6) (k := 7) hIx hn14) (fun j => full_i _)) (fun j => full_i _)) (fun j => full_i _)) hn11) (fun j => full_i _)) (fun j => full_i _)) (IX_a (c := 12) (k := 74) (IX_a (c := 12) (k := 73) (IX_a (c := 12) (k := 72) (IX_a (c := 12) (k := 71) (IX_a (c := 12) (k := 69) (IX_a (c := 12) (k := 68) (IX_i (c := 12) (k := 67) hIy hn29) (fun j => full_i _)) (fun j => full_i _)) hn24) (fun j => full_i _)) (fun j => full_i _)) (fun j => full_i _)) hJC hJR hJN hJO hq_now hq_bales hq_skeins hq_rules hq_text hq_place hrs hls htx hbk hPx hDx hPy hDy hS
