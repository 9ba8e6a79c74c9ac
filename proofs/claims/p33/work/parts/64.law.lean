/-! ===== law ===== -/
set_option maxRecDepth 100000 in
theorem m_1034 : Cond.methodLink RL 144 yX11_shared ∈ tb := tb_in 1034 rfl rfl
set_option maxRecDepth 100000 in
theorem m_1035 : Cond.instanceMethod yX11_shared ∈ tb := tb_in 1035 rfl rfl
set_option maxRecDepth 100000 in
theorem m_1036 : Cond.selects RX11 yX11_shared yX11_shared ∈ tb := tb_in 1036 rfl rfl
set_option maxRecDepth 100000 in
theorem m_1037 : Cond.code yX11_shared cX11_shared 5 (some .int) ∈ tb := tb_in 1037 rfl rfl
set_option maxRecDepth 100000 in
theorem m_1042 : Cond.methodLink RL 148 yX11_houses ∈ tb := tb_in 1042 rfl rfl
set_option maxRecDepth 100000 in
theorem m_1043 : Cond.instanceMethod yX11_houses ∈ tb := tb_in 1043 rfl rfl
set_option maxRecDepth 100000 in
theorem m_1044 : Cond.selects RX11 yX11_houses yX11_houses ∈ tb := tb_in 1044 rfl rfl
set_option maxRecDepth 100000 in
theorem m_1045 : Cond.code yX11_houses cX11_houses 3 (some .int) ∈ tb := tb_in 1045 rfl rfl
set_option maxRecDepth 100000 in
theorem m_1070 : Cond.methodLink RL 152 yX11_certify ∈ tb := tb_in 1070 rfl rfl
set_option maxRecDepth 100000 in
theorem m_1071 : Cond.instanceMethod yX11_certify ∈ tb := tb_in 1071 rfl rfl
set_option maxRecDepth 100000 in
theorem m_1072 : Cond.selects RX11 yX11_certify yX11_certify ∈ tb := tb_in 1072 rfl rfl
set_option maxRecDepth 100000 in
theorem m_1073 : Cond.code yX11_certify cX11_certify 6 (some .int) ∈ tb := tb_in 1073 rfl rfl
set_option maxRecDepth 100000 in
theorem m_1091 : Cond.methodLink RL 156 yX11_bill ∈ tb := tb_in 1091 rfl rfl
set_option maxRecDepth 100000 in
theorem m_1092 : Cond.instanceMethod yX11_bill ∈ tb := tb_in 1092 rfl rfl
set_option maxRecDepth 100000 in
theorem m_1093 : Cond.selects RX11 yX11_bill yX11_bill ∈ tb := tb_in 1093 rfl rfl
set_option maxRecDepth 100000 in
theorem m_1094 : Cond.code yX11_bill cX11_bill 3 (some .int) ∈ tb := tb_in 1094 rfl rfl
set_option maxRecDepth 100000 in
theorem m_1100 : Cond.methodLink RL 160 yX11_cut ∈ tb := tb_in 1100 rfl rfl
set_option maxRecDepth 100000 in
theorem m_1101 : Cond.instanceMethod yX11_cut ∈ tb := tb_in 1101 rfl rfl
set_option maxRecDepth 100000 in
theorem m_1102 : Cond.selects RX11 yX11_cut yX11_cut ∈ tb := tb_in 1102 rfl rfl
set_option maxRecDepth 100000 in
theorem m_1103 : Cond.code yX11_cut cX11_cut 5 (some .int) ∈ tb := tb_in 1103 rfl rfl
set_option maxRecDepth 100000 in
theorem m_1660 : Cond.methodLink RL 147 yX12_shared ∈ tb := tb_in 1660 rfl rfl
set_option maxRecDepth 100000 in
theorem m_1661 : Cond.instanceMethod yX12_shared ∈ tb := tb_in 1661 rfl rfl
set_option maxRecDepth 100000 in
theorem m_1662 : Cond.selects RX12 yX12_shared yX12_shared ∈ tb := tb_in 1662 rfl rfl
set_option maxRecDepth 100000 in
theorem m_1663 : Cond.code yX12_shared cX12_shared 5 (some .int) ∈ tb := tb_in 1663 rfl rfl
set_option maxRecDepth 100000 in
theorem m_1664 : Cond.methodLink RL 151 yX12_houses ∈ tb := tb_in 1664 rfl rfl
set_option maxRecDepth 100000 in
theorem m_1665 : Cond.instanceMethod yX12_houses ∈ tb := tb_in 1665 rfl rfl
set_option maxRecDepth 100000 in
theorem m_1666 : Cond.selects RX12 yX12_houses yX12_houses ∈ tb := tb_in 1666 rfl rfl
set_option maxRecDepth 100000 in
theorem m_1667 : Cond.code yX12_houses cX12_houses 4 (some .int) ∈ tb := tb_in 1667 rfl rfl
set_option maxRecDepth 100000 in
theorem m_1672 : Cond.methodLink RL 155 yX12_certify ∈ tb := tb_in 1672 rfl rfl
set_option maxRecDepth 100000 in
theorem m_1673 : Cond.instanceMethod yX12_certify ∈ tb := tb_in 1673 rfl rfl
set_option maxRecDepth 100000 in
theorem m_1674 : Cond.selects RX12 yX12_certify yX12_certify ∈ tb := tb_in 1674 rfl rfl
set_option maxRecDepth 100000 in
theorem m_1675 : Cond.code yX12_certify cX12_certify 4 (some .int) ∈ tb := tb_in 1675 rfl rfl
set_option maxRecDepth 100000 in
theorem m_1680 : Cond.methodLink RL 159 yX12_bill ∈ tb := tb_in 1680 rfl rfl
set_option maxRecDepth 100000 in
theorem m_1681 : Cond.instanceMethod yX12_bill ∈ tb := tb_in 1681 rfl rfl
set_option maxRecDepth 100000 in
theorem m_1682 : Cond.selects RX12 yX12_bill yX12_bill ∈ tb := tb_in 1682 rfl rfl
set_option maxRecDepth 100000 in
theorem m_1683 : Cond.code yX12_bill cX12_bill 3 (some .int) ∈ tb := tb_in 1683 rfl rfl
set_option maxRecDepth 100000 in
theorem m_1692 : Cond.methodLink RL 163 yX12_cut ∈ tb := tb_in 1692 rfl rfl
set_option maxRecDepth 100000 in
theorem m_1693 : Cond.instanceMethod yX12_cut ∈ tb := tb_in 1693 rfl rfl
set_option maxRecDepth 100000 in
theorem m_1694 : Cond.selects RX12 yX12_cut yX12_cut ∈ tb := tb_in 1694 rfl rfl
set_option maxRecDepth 100000 in
theorem m_1695 : Cond.code yX12_cut cX12_cut 6 (some .int) ∈ tb := tb_in 1695 rfl rfl
theorem hd_X11_bill_v : yX11_bill.cls = RX11 ∧ yX11_bill.cls ≠ "java/lang/invoke/MethodHandle" ∧ yX11_bill.cls ≠ "java/lang/invoke/VarHandle" ∧ (parseMethodDescriptor yX11_bill.desc).map (fun d => d.parameters.length) = some 2 := by decide +kernel
theorem hd_X11_certify_v : yX11_certify.cls = RX11 ∧ yX11_certify.cls ≠ "java/lang/invoke/MethodHandle" ∧ yX11_certify.cls ≠ "java/lang/invoke/VarHandle" ∧ (parseMethodDescriptor yX11_certify.desc).map (fun d => d.parameters.length) = some 1 := by decide +kernel
theorem hd_X11_cut_v : yX11_cut.cls = RX11 ∧ yX11_cut.cls ≠ "java/lang/invoke/MethodHandle" ∧ yX11_cut.cls ≠ "java/lang/invoke/VarHandle" ∧ (parseMethodDescriptor yX11_cut.desc).map (fun d => d.parameters.length) = some 3 := by decide +kernel
theorem hd_X11_houses_v : yX11_houses.cls = RX11 ∧ yX11_houses.cls ≠ "java/lang/invoke/MethodHandle" ∧ yX11_houses.cls ≠ "java/lang/invoke/VarHandle" ∧ (parseMethodDescriptor yX11_houses.desc).map (fun d => d.parameters.length) = some 1 := by decide +kernel
theorem hd_X11_shared_v : yX11_shared.cls = RX11 ∧ yX11_shared.cls ≠ "java/lang/invoke/MethodHandle" ∧ yX11_shared.cls ≠ "java/lang/invoke/VarHandle" ∧ (parseMethodDescriptor yX11_shared.desc).map (fun d => d.parameters.length) = some 4 := by decide +kernel
theorem hd_X12_bill_v : yX12_bill.cls = RX12 ∧ yX12_bill.cls ≠ "java/lang/invoke/MethodHandle" ∧ yX12_bill.cls ≠ "java/lang/invoke/VarHandle" ∧ (parseMethodDescriptor yX12_bill.desc).map (fun d => d.parameters.length) = some 2 := by decide +kernel
theorem hd_X12_certify_v : yX12_certify.cls = RX12 ∧ yX12_certify.cls ≠ "java/lang/invoke/MethodHandle" ∧ yX12_certify.cls ≠ "java/lang/invoke/VarHandle" ∧ (parseMethodDescriptor yX12_certify.desc).map (fun d => d.parameters.length) = some 1 := by decide +kernel
theorem hd_X12_cut_v : yX12_cut.cls = RX12 ∧ yX12_cut.cls ≠ "java/lang/invoke/MethodHandle" ∧ yX12_cut.cls ≠ "java/lang/invoke/VarHandle" ∧ (parseMethodDescriptor yX12_cut.desc).map (fun d => d.parameters.length) = some 3 := by decide +kernel
theorem hd_X12_houses_v : yX12_houses.cls = RX12 ∧ yX12_houses.cls ≠ "java/lang/invoke/MethodHandle" ∧ yX12_houses.cls ≠ "java/lang/invoke/VarHandle" ∧ (parseMethodDescriptor yX12_houses.desc).map (fun d => d.parameters.length) = some 1 := by decide +kernel
theorem hd_X12_shared_v : yX12_shared.cls = RX12 ∧ yX12_shared.cls ≠ "java/lang/invoke/MethodHandle" ∧ yX12_shared.cls ≠ "java/lang/invoke/VarHandle" ∧ (parseMethodDescriptor yX12_shared.desc).map (fun d => d.parameters.length) = some 4 := by decide +kernel
theorem dL_law_1244 : decode cL_law 1244 = .ok (.aload_n 1, 1) := by decide +kernel
theorem dL_law_1245 : decode cL_law 1245 = .ok (.aload_n 0, 1) := by decide +kernel
theorem dL_law_1246 : decode cL_law 1246 = .ok (.iload_n 3, 1) := by decide +kernel
theorem dL_law_1247 : decode cL_law 1247 = .ok (.iconst 1, 1) := by decide +kernel
theorem dL_law_1248 : decode cL_law 1248 = .ok (.iadd, 1) := by decide +kernel
theorem dL_law_1249 : decode cL_law 1249 = .ok (.iaload, 1) := by decide +kernel
theorem dL_law_1250 : decode cL_law 1250 = .ok (.aload_n 0, 1) := by decide +kernel
theorem dL_law_1251 : decode cL_law 1251 = .ok (.iload_n 3, 1) := by decide +kernel
theorem dL_law_1252 : decode cL_law 1252 = .ok (.iconst 2, 1) := by decide +kernel
theorem dL_law_1253 : decode cL_law 1253 = .ok (.iadd, 1) := by decide +kernel
theorem dL_law_1254 : decode cL_law 1254 = .ok (.iaload, 1) := by decide +kernel
theorem dL_law_1255 : decode cL_law 1255 = .ok (.aload_n 0, 1) := by decide +kernel
theorem dL_law_1256 : decode cL_law 1256 = .ok (.iload_n 3, 1) := by decide +kernel
theorem dL_law_1257 : decode cL_law 1257 = .ok (.iconst 3, 1) := by decide +kernel
theorem dL_law_1258 : decode cL_law 1258 = .ok (.iadd, 1) := by decide +kernel
theorem dL_law_1259 : decode cL_law 1259 = .ok (.iaload, 1) := by decide +kernel
theorem dL_law_1260 : decode cL_law 1260 = .ok (.aload_n 0, 1) := by decide +kernel
theorem dL_law_1261 : decode cL_law 1261 = .ok (.iload_n 3, 1) := by decide +kernel
theorem dL_law_1262 : decode cL_law 1262 = .ok (.iconst 4, 1) := by decide +kernel
theorem dL_law_1263 : decode cL_law 1263 = .ok (.iadd, 1) := by decide +kernel
theorem dL_law_1264 : decode cL_law 1264 = .ok (.iaload, 1) := by decide +kernel
theorem dL_law_1265 : decode cL_law 1265 = .ok (.invokevirtual 144, 3) := by decide +kernel
theorem dL_law_1268 : decode cL_law 1268 = .ok (.pop, 1) := by decide +kernel
theorem dL_law_1269 : decode cL_law 1269 = .ok (.aload_n 2, 1) := by decide +kernel
theorem dL_law_1270 : decode cL_law 1270 = .ok (.aload_n 0, 1) := by decide +kernel
theorem dL_law_1271 : decode cL_law 1271 = .ok (.iload_n 3, 1) := by decide +kernel
theorem dL_law_1272 : decode cL_law 1272 = .ok (.iconst 1, 1) := by decide +kernel
theorem dL_law_1273 : decode cL_law 1273 = .ok (.iadd, 1) := by decide +kernel
theorem dL_law_1274 : decode cL_law 1274 = .ok (.iaload, 1) := by decide +kernel
theorem dL_law_1275 : decode cL_law 1275 = .ok (.aload_n 0, 1) := by decide +kernel
theorem dL_law_1276 : decode cL_law 1276 = .ok (.iload_n 3, 1) := by decide +kernel
theorem dL_law_1277 : decode cL_law 1277 = .ok (.iconst 2, 1) := by decide +kernel
theorem dL_law_1278 : decode cL_law 1278 = .ok (.iadd, 1) := by decide +kernel
theorem dL_law_1279 : decode cL_law 1279 = .ok (.iaload, 1) := by decide +kernel
theorem dL_law_1280 : decode cL_law 1280 = .ok (.aload_n 0, 1) := by decide +kernel
theorem dL_law_1281 : decode cL_law 1281 = .ok (.iload_n 3, 1) := by decide +kernel
theorem dL_law_1282 : decode cL_law 1282 = .ok (.iconst 3, 1) := by decide +kernel
theorem dL_law_1283 : decode cL_law 1283 = .ok (.iadd, 1) := by decide +kernel
theorem dL_law_1284 : decode cL_law 1284 = .ok (.iaload, 1) := by decide +kernel
theorem dL_law_1285 : decode cL_law 1285 = .ok (.aload_n 0, 1) := by decide +kernel
theorem dL_law_1286 : decode cL_law 1286 = .ok (.iload_n 3, 1) := by decide +kernel
theorem dL_law_1287 : decode cL_law 1287 = .ok (.iconst 4, 1) := by decide +kernel
theorem dL_law_1288 : decode cL_law 1288 = .ok (.iadd, 1) := by decide +kernel
theorem dL_law_1289 : decode cL_law 1289 = .ok (.iaload, 1) := by decide +kernel
theorem dL_law_1290 : decode cL_law 1290 = .ok (.invokevirtual 147, 3) := by decide +kernel
theorem dL_law_1293 : decode cL_law 1293 = .ok (.pop, 1) := by decide +kernel
theorem dL_law_1294 : decode cL_law 1294 = .ok (.goto 214, 3) := by decide +kernel
theorem dL_law_1297 : decode cL_law 1297 = .ok (.aload_n 1, 1) := by decide +kernel
theorem dL_law_1298 : decode cL_law 1298 = .ok (.aload_n 0, 1) := by decide +kernel
theorem dL_law_1299 : decode cL_law 1299 = .ok (.iload_n 3, 1) := by decide +kernel
theorem dL_law_1300 : decode cL_law 1300 = .ok (.iconst 1, 1) := by decide +kernel
theorem dL_law_1301 : decode cL_law 1301 = .ok (.iadd, 1) := by decide +kernel
theorem dL_law_1302 : decode cL_law 1302 = .ok (.iaload, 1) := by decide +kernel
theorem dL_law_1303 : decode cL_law 1303 = .ok (.invokevirtual 148, 3) := by decide +kernel
theorem dL_law_1306 : decode cL_law 1306 = .ok (.aload_n 2, 1) := by decide +kernel
theorem dL_law_1307 : decode cL_law 1307 = .ok (.aload_n 0, 1) := by decide +kernel
theorem dL_law_1308 : decode cL_law 1308 = .ok (.iload_n 3, 1) := by decide +kernel
theorem dL_law_1309 : decode cL_law 1309 = .ok (.iconst 1, 1) := by decide +kernel
theorem dL_law_1310 : decode cL_law 1310 = .ok (.iadd, 1) := by decide +kernel
theorem dL_law_1311 : decode cL_law 1311 = .ok (.iaload, 1) := by decide +kernel
theorem dL_law_1312 : decode cL_law 1312 = .ok (.invokevirtual 151, 3) := by decide +kernel
theorem dL_law_1315 : decode cL_law 1315 = .ok (.if_icmp .eq 193, 3) := by decide +kernel
theorem dL_law_1320 : decode cL_law 1320 = .ok (.aload_n 1, 1) := by decide +kernel
theorem dL_law_1321 : decode cL_law 1321 = .ok (.aload_n 0, 1) := by decide +kernel
theorem dL_law_1322 : decode cL_law 1322 = .ok (.iload_n 3, 1) := by decide +kernel
theorem dL_law_1323 : decode cL_law 1323 = .ok (.iconst 1, 1) := by decide +kernel
theorem dL_law_1324 : decode cL_law 1324 = .ok (.iadd, 1) := by decide +kernel
theorem dL_law_1325 : decode cL_law 1325 = .ok (.iaload, 1) := by decide +kernel
theorem dL_law_1326 : decode cL_law 1326 = .ok (.invokevirtual 152, 3) := by decide +kernel
theorem dL_law_1329 : decode cL_law 1329 = .ok (.pop, 1) := by decide +kernel
theorem dL_law_1330 : decode cL_law 1330 = .ok (.aload_n 2, 1) := by decide +kernel
theorem dL_law_1331 : decode cL_law 1331 = .ok (.aload_n 0, 1) := by decide +kernel
theorem dL_law_1332 : decode cL_law 1332 = .ok (.iload_n 3, 1) := by decide +kernel
theorem dL_law_1333 : decode cL_law 1333 = .ok (.iconst 1, 1) := by decide +kernel
theorem dL_law_1334 : decode cL_law 1334 = .ok (.iadd, 1) := by decide +kernel
theorem dL_law_1335 : decode cL_law 1335 = .ok (.iaload, 1) := by decide +kernel
theorem dL_law_1336 : decode cL_law 1336 = .ok (.invokevirtual 155, 3) := by decide +kernel
theorem dL_law_1339 : decode cL_law 1339 = .ok (.pop, 1) := by decide +kernel
theorem dL_law_1340 : decode cL_law 1340 = .ok (.goto 168, 3) := by decide +kernel
theorem dL_law_1343 : decode cL_law 1343 = .ok (.aload_n 1, 1) := by decide +kernel
theorem dL_law_1344 : decode cL_law 1344 = .ok (.aload_n 0, 1) := by decide +kernel
theorem dL_law_1345 : decode cL_law 1345 = .ok (.iload_n 3, 1) := by decide +kernel
theorem dL_law_1346 : decode cL_law 1346 = .ok (.iconst 1, 1) := by decide +kernel
theorem dL_law_1347 : decode cL_law 1347 = .ok (.iadd, 1) := by decide +kernel
theorem dL_law_1348 : decode cL_law 1348 = .ok (.iaload, 1) := by decide +kernel
theorem dL_law_1349 : decode cL_law 1349 = .ok (.aload_n 0, 1) := by decide +kernel
theorem dL_law_1350 : decode cL_law 1350 = .ok (.iload_n 3, 1) := by decide +kernel
theorem dL_law_1351 : decode cL_law 1351 = .ok (.iconst 2, 1) := by decide +kernel
theorem dL_law_1352 : decode cL_law 1352 = .ok (.iadd, 1) := by decide +kernel
theorem dL_law_1353 : decode cL_law 1353 = .ok (.iaload, 1) := by decide +kernel
theorem dL_law_1354 : decode cL_law 1354 = .ok (.invokevirtual 156, 3) := by decide +kernel
theorem dL_law_1357 : decode cL_law 1357 = .ok (.pop, 1) := by decide +kernel
theorem dL_law_1358 : decode cL_law 1358 = .ok (.aload_n 2, 1) := by decide +kernel
theorem dL_law_1359 : decode cL_law 1359 = .ok (.aload_n 0, 1) := by decide +kernel
theorem dL_law_1360 : decode cL_law 1360 = .ok (.iload_n 3, 1) := by decide +kernel
theorem dL_law_1361 : decode cL_law 1361 = .ok (.iconst 1, 1) := by decide +kernel
theorem dL_law_1362 : decode cL_law 1362 = .ok (.iadd, 1) := by decide +kernel
theorem dL_law_1363 : decode cL_law 1363 = .ok (.iaload, 1) := by decide +kernel
theorem dL_law_1364 : decode cL_law 1364 = .ok (.aload_n 0, 1) := by decide +kernel
theorem dL_law_1365 : decode cL_law 1365 = .ok (.iload_n 3, 1) := by decide +kernel
theorem dL_law_1366 : decode cL_law 1366 = .ok (.iconst 2, 1) := by decide +kernel
theorem dL_law_1367 : decode cL_law 1367 = .ok (.iadd, 1) := by decide +kernel
theorem dL_law_1368 : decode cL_law 1368 = .ok (.iaload, 1) := by decide +kernel
theorem dL_law_1369 : decode cL_law 1369 = .ok (.invokevirtual 159, 3) := by decide +kernel
theorem dL_law_1372 : decode cL_law 1372 = .ok (.pop, 1) := by decide +kernel
theorem dL_law_1373 : decode cL_law 1373 = .ok (.goto 135, 3) := by decide +kernel
theorem dL_law_1376 : decode cL_law 1376 = .ok (.aload_n 1, 1) := by decide +kernel
theorem dL_law_1377 : decode cL_law 1377 = .ok (.aload_n 0, 1) := by decide +kernel
theorem dL_law_1378 : decode cL_law 1378 = .ok (.iload_n 3, 1) := by decide +kernel
theorem dL_law_1379 : decode cL_law 1379 = .ok (.iconst 1, 1) := by decide +kernel
theorem dL_law_1380 : decode cL_law 1380 = .ok (.iadd, 1) := by decide +kernel
theorem dL_law_1381 : decode cL_law 1381 = .ok (.iaload, 1) := by decide +kernel
theorem dL_law_1382 : decode cL_law 1382 = .ok (.aload_n 0, 1) := by decide +kernel
theorem dL_law_1383 : decode cL_law 1383 = .ok (.iload_n 3, 1) := by decide +kernel
theorem dL_law_1384 : decode cL_law 1384 = .ok (.iconst 2, 1) := by decide +kernel
theorem dL_law_1385 : decode cL_law 1385 = .ok (.iadd, 1) := by decide +kernel
theorem dL_law_1386 : decode cL_law 1386 = .ok (.iaload, 1) := by decide +kernel
theorem dL_law_1387 : decode cL_law 1387 = .ok (.aload_n 0, 1) := by decide +kernel
theorem dL_law_1388 : decode cL_law 1388 = .ok (.iload_n 3, 1) := by decide +kernel
theorem dL_law_1389 : decode cL_law 1389 = .ok (.iconst 3, 1) := by decide +kernel
theorem dL_law_1390 : decode cL_law 1390 = .ok (.iadd, 1) := by decide +kernel
theorem dL_law_1391 : decode cL_law 1391 = .ok (.iaload, 1) := by decide +kernel
theorem dL_law_1392 : decode cL_law 1392 = .ok (.invokevirtual 160, 3) := by decide +kernel
theorem dL_law_1395 : decode cL_law 1395 = .ok (.pop, 1) := by decide +kernel
theorem dL_law_1396 : decode cL_law 1396 = .ok (.aload_n 2, 1) := by decide +kernel
theorem dL_law_1397 : decode cL_law 1397 = .ok (.aload_n 0, 1) := by decide +kernel
theorem dL_law_1398 : decode cL_law 1398 = .ok (.iload_n 3, 1) := by decide +kernel
theorem dL_law_1399 : decode cL_law 1399 = .ok (.iconst 1, 1) := by decide +kernel
theorem dL_law_1400 : decode cL_law 1400 = .ok (.iadd, 1) := by decide +kernel
theorem dL_law_1401 : decode cL_law 1401 = .ok (.iaload, 1) := by decide +kernel
theorem dL_law_1402 : decode cL_law 1402 = .ok (.aload_n 0, 1) := by decide +kernel
theorem dL_law_1403 : decode cL_law 1403 = .ok (.iload_n 3, 1) := by decide +kernel
theorem dL_law_1404 : decode cL_law 1404 = .ok (.iconst 2, 1) := by decide +kernel
theorem dL_law_1405 : decode cL_law 1405 = .ok (.iadd, 1) := by decide +kernel
theorem dL_law_1406 : decode cL_law 1406 = .ok (.iaload, 1) := by decide +kernel
theorem dL_law_1407 : decode cL_law 1407 = .ok (.aload_n 0, 1) := by decide +kernel
theorem dL_law_1408 : decode cL_law 1408 = .ok (.iload_n 3, 1) := by decide +kernel
theorem dL_law_1409 : decode cL_law 1409 = .ok (.iconst 3, 1) := by decide +kernel
theorem dL_law_1410 : decode cL_law 1410 = .ok (.iadd, 1) := by decide +kernel
theorem dL_law_1411 : decode cL_law 1411 = .ok (.iaload, 1) := by decide +kernel
theorem dL_law_1412 : decode cL_law 1412 = .ok (.invokevirtual 163, 3) := by decide +kernel
theorem dL_law_1415 : decode cL_law 1415 = .ok (.pop, 1) := by decide +kernel
theorem dL_law_1416 : decode cL_law 1416 = .ok (.goto 92, 3) := by decide +kernel
set_option maxHeartbeats 4000000 in
set_option maxRecDepth 100000 in
theorem law_30 {p : Program} {e : Env} {s : State} {m : MethodId} {below : List Frame} {meth : Method} {c : Code} (l : Launch) {b L : Nat} {xs : Nat → Int32} (hL : L ≤ 4096) (C0 : lw_At p s m meth c b L xs) {dC : Nat → ClassId} {dI : Nat → Nat → Nat} {A : Nat → Prop} (hA : ∀ q : Nat, s.heap.size ≤ q → A q) (hbA : ¬ A b) (hAs : ∀ q : Nat, A q → s.heap.size ≤ q) {x y : Nat} {gx gy : Nat → Nat → Nat} {cax cay : Nat → Nat → ClassId} {ak av : Nat → Nat} (hKx : va_K (dC, dI) classes (TX cax) s) (hKy : va_K (dC, dI) classes (TM cay) s) (hXY : ∀ a ∈ AdX x gx, ∀ b ∈ AdM y gy, a ≠ b) (hZ : zC ak av A s s.heap) {H : Heap} {locs : List Loc} {ivx : Nat → Nat → Int32} {lvx : Nat → Nat → Int64} {fax : Nat → Nat → Nat → Int32} {lax : Nat → Nat → Nat → Int64} {ivy : Nat → Nat → Int32} {lvy : Nat → Nat → Int64} {fay : Nat → Nat → Nat → Int32} {lay : Nat → Nat → Nat → Int64} (hIx : IX ivx fax) (hIy : IX ivy fay) (hJC : JCf (ivy 12 23).toInt (fay 12 25) (fay 12 26) (fay 12 27) (fay 12 28)) (hJR : JRf (ivy 12 3).toInt (fay 12 7)) (hJN : JNf (ivy 12 3).toInt (fay 12 4) (fay 12 5)) (hJO : ((ivy 12 20).toInt = -1 ∧ (ivy 12 21).toInt = -1 ∧ (ivy 12 22).toInt = -1)) (hq_shared : ivx 4 2 = ivy 12 62) (hho : (∀ j : Nat, fax 4 0 j = fay 12 63 j ∧ fax 4 1 j = fay 12 64 j)) (hsp : Sp (fay 12 63) (fay 12 64) ((ivy 12 62).toInt).toNat) (hPx : va_P (dC, dI) classes (WX x gx cax ivx lvx fax lax) H) (hDx : va_D A (WX x gx cax ivx lvx fax lax)) (hPy : va_P (dC, dI) classes (WM y gy cay ivy lvy fay lay) H) (hDy : va_D A (WM y gy cay ivy lvy fay lay)) (hS : va_S A s.heap H locs) {i : Int32} {ls : Array Slot} (hl : lv_has ls 4 [(3, .int i), (2, .ref y), (1, .ref x), (0, .ref b)]) (hi : 0 ≤ i.toInt ∧ i.toInt ≤ 4088) (hi8 : i.toInt + 8 ≤ (L : Int)) (kk : ∀ (H : Heap) (locs : List Loc) (ivx : Nat → Nat → Int32) (lvx : Nat → Nat → Int64) (fax : Nat → Nat → Nat → Int32) (lax : Nat → Nat → Nat → Int64) (ivy : Nat → Nat → Int32) (lvy : Nat → Nat → Int64) (fay : Nat → Nat → Nat → Int32) (lay : Nat → Nat → Nat → Int64), IX ivx fax → IX ivy fay → JCf (ivy 12 23).toInt (fay 12 25) (fay 12 26) (fay 12 27) (fay 12 28) → JRf (ivy 12 3).toInt (fay 12 7) → JNf (ivy 12 3).toInt (fay 12 4) (fay 12 5) → ((ivy 12 20).toInt = -1 ∧ (ivy 12 21).toInt = -1 ∧ (ivy 12 22).toInt = -1) → ivx 4 2 = ivy 12 62 → (∀ j : Nat, fax 4 0 j = fay 12 63 j ∧ fax 4 1 j = fay 12 64 j) → Sp (fay 12 63) (fay 12 64) ((ivy 12 62).toInt).toNat → va_P (dC, dI) classes (WX x gx cax ivx lvx fax lax) H → va_D A (WX x gx cax ivx lvx fax lax) → va_P (dC, dI) classes (WM y gy cay ivy lvy fay lay) H → va_D A (WM y gy cay ivy lvy fay lay) → va_S A s.heap H locs → W p l e room_1 s m #[Value.ref b] below meth c H locs 98 5431 (lw_Z below #[Value.ref b] s) (F0 m 1508 ls [])) : W p l e room_1 s m #[Value.ref b] below meth c H locs 98 5431 (lw_Z below #[Value.ref b] s) (F0 m 1244 ls []) := by
  obtain ⟨hx, hb, hr, hml, hown, hts, hX, hbl, hlocks, hgv⟩ := id C0
  have ht := tb_of hts
  have hJS := hsp
  have hJP : Sp (fax 4 0) (fax 4 1) ((ivx 4 2).toInt).toNat := by rw [hq_shared]; exact fun k hk => by rw [(hho k).1, (hho k).2]; exact hsp k hk
  refine lv_aload_n hx hb dL_law_1244 rfl (lv_at hl 2 rfl) ?_
  refine lv_aload_n hx hb dL_law_1245 rfl (lv_at hl 3 rfl) ?_
  refine lv_iload_n hx hb dL_law_1246 rfl (lv_at hl 0 rfl) ?_
  refine lv_iconst (v := 1) hx hb dL_law_1247 (by decide) ?_
  refine lv_iadd hx hb dL_law_1248 ?_
  refine lv_topi (fun v1 ev1 => ?_)
  have tv1 := z_add ev1 (rfl : (i).toInt = _) (by decide : (1 : Int32).toInt = 1) (by omega) (by omega)
  refine va_sld hx hb hX hbl hbA hS (vp_in_iff.mpr ⟨by omega, by omega⟩ : vp_in v1 L) dL_law_1249 ?_
  refine lv_topi (fun v2 ev2 => ?_)
  refine lv_aload_n hx hb dL_law_1250 rfl (lv_at hl 3 rfl) ?_
  refine lv_iload_n hx hb dL_law_1251 rfl (lv_at hl 0 rfl) ?_
  refine lv_iconst (v := 2) hx hb dL_law_1252 (by decide) ?_
  refine lv_iadd hx hb dL_law_1253 ?_
  refine lv_topi (fun v3 ev3 => ?_)
  have tv3 := z_add ev3 (rfl : (i).toInt = _) (by decide : (2 : Int32).toInt = 2) (by omega) (by omega)
  refine va_sld hx hb hX hbl hbA hS (vp_in_iff.mpr ⟨by omega, by omega⟩ : vp_in v3 L) dL_law_1254 ?_
  refine lv_topi (fun v4 ev4 => ?_)
  refine lv_aload_n hx hb dL_law_1255 rfl (lv_at hl 3 rfl) ?_
  refine lv_iload_n hx hb dL_law_1256 rfl (lv_at hl 0 rfl) ?_
  refine lv_iconst (v := 3) hx hb dL_law_1257 (by decide) ?_
  refine lv_iadd hx hb dL_law_1258 ?_
  refine lv_topi (fun v5 ev5 => ?_)
  have tv5 := z_add ev5 (rfl : (i).toInt = _) (by decide : (3 : Int32).toInt = 3) (by omega) (by omega)
  refine va_sld hx hb hX hbl hbA hS (vp_in_iff.mpr ⟨by omega, by omega⟩ : vp_in v5 L) dL_law_1259 ?_
  refine lv_topi (fun v6 ev6 => ?_)
  refine lv_aload_n hx hb dL_law_1260 rfl (lv_at hl 3 rfl) ?_
  refine lv_iload_n hx hb dL_law_1261 rfl (lv_at hl 0 rfl) ?_
  refine lv_iconst (v := 4) hx hb dL_law_1262 (by decide) ?_
  refine lv_iadd hx hb dL_law_1263 ?_
  refine lv_topi (fun v7 ev7 => ?_)
  have tv7 := z_add ev7 (rfl : (i).toInt = _) (by decide : (4 : Int32).toInt = 4) (by omega) (by omega)
  refine va_sld hx hb hX hbl hbA hS (vp_in_iff.mpr ⟨by omega, by omega⟩ : vp_in v7 L) dL_law_1264 ?_
  refine lv_topi (fun v8 ev8 => ?_)
  have hFc := free_all hDx hS hA
  refine va_calli (va_runV (As := [.int v2, .int v4, .int v6, .int v8]) (rest := []) ⟨hx, hb, hml, hown, ht⟩ (c_X11_shared_h l dC dI H.size x gx cax ivx lvx fax lax hIx v2 v4 v6 v8) (kV 4 ht m_1034 m_1035 m_1036 m_77 m_1037 rfl rfl hd_X11_shared_v ⟨Nat.le_of_ble_eq_true rfl, Nat.le_of_ble_eq_true rfl⟩) (vW hPx hKx hDx (rX_11 hKx hPx)) rfl rfl hl.1 rfl (lv_room (Nat.le_of_ble_eq_true rfl)) dL_law_1265 ⟨Nat.le_of_ble_eq_true rfl, Nat.le_of_ble_eq_true rfl⟩) hS (fun q _ h => hFc q h) hFc (fun r9 u t H1 locs ht9 hvm hr9 hB hz1 hk1 hS => ?_)
  obtain ⟨n10, n11, n12, hn12, xr9_0, xr9_1, hr9, rfl⟩ := hr9
  obtain ⟨hPx, hDx⟩ := hB
  rw [ht9] at hPx
  have hPy := P_kept hPy (la := AdM y gy) (lb := AdX x gx) wmM wmX (fun a ha b hb => (hXY b hb a ha).symm) hk1
  generalize H1 = H at hPx hPy hS ⊢
  have hPx : va_P (dC, dI) classes (WX x gx cax (u2 ivx 4 2 n12) lvx (u2 (u2 fax 4 0 n10) 4 1 n11) lax) H := hPx
  have hDx : va_D A (WX x gx cax (u2 ivx 4 2 n12) lvx (u2 (u2 fax 4 0 n10) 4 1 n11) lax) := (show va_D _ (WX x gx cax (u2 ivx 4 2 n12) lvx (u2 (u2 fax 4 0 n10) 4 1 n11) lax) from hDx).weaken (fun _ _ _ h => hFc _ h)
  refine lv_pop hx hb dL_law_1268 rfl ?_
  refine lv_aload_n hx hb dL_law_1269 rfl (lv_at hl 1 rfl) ?_
  refine lv_aload_n hx hb dL_law_1270 rfl (lv_at hl 3 rfl) ?_
  refine lv_iload_n hx hb dL_law_1271 rfl (lv_at hl 0 rfl) ?_
  refine lv_iconst (v := 1) hx hb dL_law_1272 (by decide) ?_
  refine lv_iadd hx hb dL_law_1273 ?_
  refine lv_topi (fun v13 ev13 => ?_)
  have tv13 := z_add ev13 (rfl : (i).toInt = _) (by decide : (1 : Int32).toInt = 1) (by omega) (by omega)
  refine va_sld hx hb hX hbl hbA hS (vp_in_iff.mpr ⟨by omega, by omega⟩ : vp_in v13 L) dL_law_1274 ?_
  refine lv_topi (fun v14 ev14 => ?_)
  refine lv_aload_n hx hb dL_law_1275 rfl (lv_at hl 3 rfl) ?_
  refine lv_iload_n hx hb dL_law_1276 rfl (lv_at hl 0 rfl) ?_
  refine lv_iconst (v := 2) hx hb dL_law_1277 (by decide) ?_
  refine lv_iadd hx hb dL_law_1278 ?_
  refine lv_topi (fun v15 ev15 => ?_)
  have tv15 := z_add ev15 (rfl : (i).toInt = _) (by decide : (2 : Int32).toInt = 2) (by omega) (by omega)
  refine va_sld hx hb hX hbl hbA hS (vp_in_iff.mpr ⟨by omega, by omega⟩ : vp_in v15 L) dL_law_1279 ?_
  refine lv_topi (fun v16 ev16 => ?_)
  refine lv_aload_n hx hb dL_law_1280 rfl (lv_at hl 3 rfl) ?_
  refine lv_iload_n hx hb dL_law_1281 rfl (lv_at hl 0 rfl) ?_
  refine lv_iconst (v := 3) hx hb dL_law_1282 (by decide) ?_
  refine lv_iadd hx hb dL_law_1283 ?_
  refine lv_topi (fun v17 ev17 => ?_)
  have tv17 := z_add ev17 (rfl : (i).toInt = _) (by decide : (3 : Int32).toInt = 3) (by omega) (by omega)
  refine va_sld hx hb hX hbl hbA hS (vp_in_iff.mpr ⟨by omega, by omega⟩ : vp_in v17 L) dL_law_1284 ?_
  refine lv_topi (fun v18 ev18 => ?_)
  refine lv_aload_n hx hb dL_law_1285 rfl (lv_at hl 3 rfl) ?_
  refine lv_iload_n hx hb dL_law_1286 rfl (lv_at hl 0 rfl) ?_
  refine lv_iconst (v := 4) hx hb dL_law_1287 (by decide) ?_
  refine lv_iadd hx hb dL_law_1288 ?_
  refine lv_topi (fun v19 ev19 => ?_)
  have tv19 := z_add ev19 (rfl : (i).toInt = _) (by decide : (4 : Int32).toInt = 4) (by omega) (by omega)
  refine va_sld hx hb hX hbl hbA hS (vp_in_iff.mpr ⟨by omega, by omega⟩ : vp_in v19 L) dL_law_1289 ?_
  refine lv_topi (fun v20 ev20 => ?_)
  have hFc := free_all hDy hS hA
  refine va_calli (va_runV (As := [.int v14, .int v16, .int v18, .int v20]) (rest := []) ⟨hx, hb, hml, hown, ht⟩ (c_X12_shared_h l dC dI H.size y gy cay ivy lvy fay lay hIy v14 v16 v18 v20) (kV 4 ht m_1660 m_1661 m_1662 m_89 m_1663 rfl rfl hd_X12_shared_v ⟨Nat.le_of_ble_eq_true rfl, Nat.le_of_ble_eq_true rfl⟩) (vW hPy hKy hDy (rM_12 hKy hPy)) rfl rfl hl.1 rfl (lv_room (Nat.le_of_ble_eq_true rfl)) dL_law_1290 ⟨Nat.le_of_ble_eq_true rfl, Nat.le_of_ble_eq_true rfl⟩) hS (fun q _ h => hFc q h) hFc (fun r21 u t H1 locs ht9 hvm hr21 hB hz1 hk1 hS => ?_)
  obtain ⟨n22, n23, n24, hn24, xr21_0, xr21_1, hr21, rfl⟩ := hr21
  obtain ⟨hPy, hDy⟩ := hB
  rw [ht9] at hPy
  have hPx := P_kept hPx (la := AdX x gx) (lb := AdM y gy) wmX wmM hXY hk1
  generalize H1 = H at hPx hPy hS ⊢
  have hPy : va_P (dC, dI) classes (WM y gy cay (u2 ivy 12 62 n24) lvy (u2 (u2 fay 12 63 n22) 12 64 n23) lay) H := hPy
  have hDy : va_D A (WM y gy cay (u2 ivy 12 62 n24) lvy (u2 (u2 fay 12 63 n22) 12 64 n23) lay) := (show va_D _ (WM y gy cay (u2 ivy 12 62 n24) lvy (u2 (u2 fay 12 63 n22) 12 64 n23) lay) from hDy).weaken (fun _ _ _ h => hFc _ h)
  have q9x : ((r9.toInt = -100002 ∧ ¬ (1 ≤ (v2 : Int32).toInt ∧ (v2 : Int32).toInt ≤ (v4 : Int32).toInt ∧ (v4 : Int32).toInt ≤ 9999 ∧ 1 ≤ (v6 : Int32).toInt ∧ (v6 : Int32).toInt ≤ (v8 : Int32).toInt ∧ (v8 : Int32).toInt ≤ 9999) ∧ n12.toInt = (ivx 4 2).toInt) ∨ (r9.toInt = -100004 ∧ (1 ≤ (v2 : Int32).toInt ∧ (v2 : Int32).toInt ≤ (v4 : Int32).toInt ∧ (v4 : Int32).toInt ≤ 9999 ∧ 1 ≤ (v6 : Int32).toInt ∧ (v6 : Int32).toInt ≤ (v8 : Int32).toInt ∧ (v8 : Int32).toInt ≤ 9999) ∧ 8 ≤ (ivx 4 2).toInt ∧ n12.toInt = (ivx 4 2).toInt) ∨ ((1 ≤ (v2 : Int32).toInt ∧ (v2 : Int32).toInt ≤ (v4 : Int32).toInt ∧ (v4 : Int32).toInt ≤ 9999 ∧ 1 ≤ (v6 : Int32).toInt ∧ (v6 : Int32).toInt ≤ (v8 : Int32).toInt ∧ (v8 : Int32).toInt ≤ 9999) ∧ (ivx 4 2).toInt < 8 ∧ r9.toInt = (ivx 4 2).toInt + 1 ∧ n12.toInt = (ivx 4 2).toInt + 1)) := xr9_0
  have q9y : ((r21.toInt = -100002 ∧ ¬ (1 ≤ (v14 : Int32).toInt ∧ (v14 : Int32).toInt ≤ (v16 : Int32).toInt ∧ (v16 : Int32).toInt ≤ 9999 ∧ 1 ≤ (v18 : Int32).toInt ∧ (v18 : Int32).toInt ≤ (v20 : Int32).toInt ∧ (v20 : Int32).toInt ≤ 9999) ∧ n24.toInt = (ivy 12 62).toInt) ∨ (r21.toInt = -100004 ∧ (1 ≤ (v14 : Int32).toInt ∧ (v14 : Int32).toInt ≤ (v16 : Int32).toInt ∧ (v16 : Int32).toInt ≤ 9999 ∧ 1 ≤ (v18 : Int32).toInt ∧ (v18 : Int32).toInt ≤ (v20 : Int32).toInt ∧ (v20 : Int32).toInt ≤ 9999) ∧ 8 ≤ (ivy 12 62).toInt ∧ n24.toInt = (ivy 12 62).toInt) ∨ ((1 ≤ (v14 : Int32).toInt ∧ (v14 : Int32).toInt ≤ (v16 : Int32).toInt ∧ (v16 : Int32).toInt ≤ 9999 ∧ 1 ≤ (v18 : Int32).toInt ∧ (v18 : Int32).toInt ≤ (v20 : Int32).toInt ∧ (v20 : Int32).toInt ≤ 9999) ∧ (ivy 12 62).toInt < 8 ∧ r21.toInt = (ivy 12 62).toInt + 1 ∧ n24.toInt = (ivy 12 62).toInt + 1)) := xr21_0
  have hv9_0 : (v2 : Int32) = v14 := by rw [ev2, ev14, ev1, ev13]
  have hu9_0 := congrArg Int32.toInt hv9_0
  have hv9_1 : (v4 : Int32) = v16 := by rw [ev4, ev16, ev3, ev15]
  have hu9_1 := congrArg Int32.toInt hv9_1
  have hv9_2 : (v6 : Int32) = v18 := by rw [ev6, ev18, ev5, ev17]
  have hu9_2 := congrArg Int32.toInt hv9_2
  have hv9_3 : (v8 : Int32) = v20 := by rw [ev8, ev20, ev7, ev19]
  have hu9_3 := congrArg Int32.toInt hv9_3
  have hw9_shared := congrArg Int32.toInt hq_shared
  have hv9_0 : (v2 : Int32) = v14 := by rw [ev2, ev14, ev1, ev13]
  have hu9_0 := congrArg Int32.toInt hv9_0
  have hv9_1 : (v4 : Int32) = v16 := by rw [ev4, ev16, ev3, ev15]
  have hu9_1 := congrArg Int32.toInt hv9_1
  have hv9_2 : (v6 : Int32) = v18 := by rw [ev6, ev18, ev5, ev17]
  have hu9_2 := congrArg Int32.toInt hv9_2
  have hv9_3 : (v8 : Int32) = v20 := by rw [ev8, ev20, ev7, ev19]
  have hu9_3 := congrArg Int32.toInt hv9_3
  have hw9_shared := congrArg Int32.toInt hq_shared
  have y9x_0 : ((r9.toInt = -100002 ∧ ¬ (1 ≤ (v2 : Int32).toInt ∧ (v2 : Int32).toInt ≤ (v4 : Int32).toInt ∧ (v4 : Int32).toInt ≤ 9999 ∧ 1 ≤ (v6 : Int32).toInt ∧ (v6 : Int32).toInt ≤ (v8 : Int32).toInt ∧ (v8 : Int32).toInt ≤ 9999) ∧ n12.toInt = (ivx 4 2).toInt) ∨ (r9.toInt = -100004 ∧ (1 ≤ (v2 : Int32).toInt ∧ (v2 : Int32).toInt ≤ (v4 : Int32).toInt ∧ (v4 : Int32).toInt ≤ 9999 ∧ 1 ≤ (v6 : Int32).toInt ∧ (v6 : Int32).toInt ≤ (v8 : Int32).toInt ∧ (v8 : Int32).toInt ≤ 9999) ∧ 8 ≤ (ivx 4 2).toInt ∧ n12.toInt = (ivx 4 2).toInt) ∨ ((1 ≤ (v2 : Int32).toInt ∧ (v2 : Int32).toInt ≤ (v4 : Int32).toInt ∧ (v4 : Int32).toInt ≤ 9999 ∧ 1 ≤ (v6 : Int32).toInt ∧ (v6 : Int32).toInt ≤ (v8 : Int32).toInt ∧ (v8 : Int32).toInt ≤ 9999) ∧ (ivx 4 2).toInt < 8 ∧ r9.toInt = (ivx 4 2).toInt + 1 ∧ n12.toInt = (ivx 4 2).toInt + 1)) := xr9_0
  have y9x_1 : ((r9.toInt < 0 ∧ ∀ j : Nat, n10 j = (fax 4 0) j ∧ n11 j = (fax 4 1) j) ∨ (0 ≤ r9.toInt ∧ (∀ j : Nat, j ≠ ((ivx 4 2).toInt).toNat → n10 j = (fax 4 0) j ∧ n11 j = (fax 4 1) j) ∧ (n10 ((ivx 4 2).toInt).toNat).toInt = (v2 : Int32).toInt - (v8 : Int32).toInt ∧ (n11 ((ivx 4 2).toInt).toNat).toInt = (v4 : Int32).toInt - (v6 : Int32).toInt)) := xr9_1
  have y9y_0 : ((r21.toInt = -100002 ∧ ¬ (1 ≤ (v14 : Int32).toInt ∧ (v14 : Int32).toInt ≤ (v16 : Int32).toInt ∧ (v16 : Int32).toInt ≤ 9999 ∧ 1 ≤ (v18 : Int32).toInt ∧ (v18 : Int32).toInt ≤ (v20 : Int32).toInt ∧ (v20 : Int32).toInt ≤ 9999) ∧ n24.toInt = (ivy 12 62).toInt) ∨ (r21.toInt = -100004 ∧ (1 ≤ (v14 : Int32).toInt ∧ (v14 : Int32).toInt ≤ (v16 : Int32).toInt ∧ (v16 : Int32).toInt ≤ 9999 ∧ 1 ≤ (v18 : Int32).toInt ∧ (v18 : Int32).toInt ≤ (v20 : Int32).toInt ∧ (v20 : Int32).toInt ≤ 9999) ∧ 8 ≤ (ivy 12 62).toInt ∧ n24.toInt = (ivy 12 62).toInt) ∨ ((1 ≤ (v14 : Int32).toInt ∧ (v14 : Int32).toInt ≤ (v16 : Int32).toInt ∧ (v16 : Int32).toInt ≤ 9999 ∧ 1 ≤ (v18 : Int32).toInt ∧ (v18 : Int32).toInt ≤ (v20 : Int32).toInt ∧ (v20 : Int32).toInt ≤ 9999) ∧ (ivy 12 62).toInt < 8 ∧ r21.toInt = (ivy 12 62).toInt + 1 ∧ n24.toInt = (ivy 12 62).toInt + 1)) := xr21_0
  have y9y_1 : ((r21.toInt < 0 ∧ ∀ j : Nat, n22 j = (fay 12 63) j ∧ n23 j = (fay 12 64) j) ∨ (0 ≤ r21.toInt ∧ (∀ j : Nat, j ≠ ((ivy 12 62).toInt).toNat → n22 j = (fay 12 63) j ∧ n23 j = (fay 12 64) j) ∧ (n22 ((ivy 12 62).toInt).toNat).toInt = (v14 : Int32).toInt - (v20 : Int32).toInt ∧ (n23 ((ivy 12 62).toInt).toNat).toInt = (v16 : Int32).toInt - (v18 : Int32).toInt)) := xr21_1
  have hr8 : (r9 : Int32).toInt = (r21 : Int32).toInt := by omega
  have hhn : ∀ j : Nat, n10 j = n22 j ∧ n11 j = n23 j := by
    intro j
    have q := hho j
    rcases y9x_1 with ⟨q1, q2⟩ | ⟨q1, q2, q3, q4⟩
    · rcases y9y_1 with ⟨p1, p2⟩ | ⟨p1, -⟩
      · exact ⟨(q2 j).1.trans (q.1.trans (p2 j).1.symm), (q2 j).2.trans (q.2.trans (p2 j).2.symm)⟩
      · exfalso; omega
    · rcases y9y_1 with ⟨p1, -⟩ | ⟨p1, p2, p3, p4⟩
      · exfalso; omega
      · by_cases hj : j = ((ivx 4 2).toInt).toNat
        · have hk : j = ((ivy 12 62).toInt).toNat := by omega
          rw [← hj] at q3 q4
          rw [← hk] at p3 p4
          exact ⟨Int32.toInt_inj.mp (by omega), Int32.toInt_inj.mp (by omega)⟩
        · exact ⟨(q2 j hj).1.trans (q.1.trans (p2 j (by omega)).1.symm), (q2 j hj).2.trans (q.2.trans (p2 j (by omega)).2.symm)⟩
  have hsn : Sp n22 n23 ((n24 : Int32).toInt).toNat := by
    intro k hk
    rcases y9y_1 with ⟨p1, p2⟩ | ⟨p1, p2, p3, p4⟩
    · rw [(p2 k).1, (p2 k).2]; exact hsp k (by omega)
    · by_cases hj : k = ((ivy 12 62).toInt).toNat
      · rw [← hj] at p3 p4
        exact ⟨by omega, by omega, by omega, by omega, by omega⟩
      · rw [(p2 k hj).1, (p2 k hj).2]; exact hsp k (by omega)
  refine lv_pop hx hb dL_law_1293 rfl ?_
  refine lv_goto (tgt := 1508) hx hb dL_law_1294 (by decide) ?_
  exact kk _ _ (u2 ivx 4 2 n12) lvx (u2 (u2 fax 4 0 n10) 4 1 n11) lax (u2 ivy 12 62 n24) lvy (u2 (u2 fay 12 63 n22) 12 64 n23) lay (IX_a (c := 4) (k := 1) (IX_a (c := 4) (k := 0) (IX_i (c := 4) (k := 2) hIx hn12) (fun j => full_i _)) (fun j => full_i _)) (IX_a (c := 12) (k := 64) (IX_a (c := 12) (k := 63) (IX_i (c := 12) (k := 62) hIy hn24) (fun j => full_i _)) (fun j => full_i _)) hJC hJR hJN hJO (show (n12 : Int32) = n24 from Int32.toInt_inj.mp (by omega)) hhn hsn hPx hDx hPy hDy hS
set_option maxHeartbeats 4000000 in
set_option maxRecDepth 100000 in
theorem law_31 {p : Program} {e : Env} {s : State} {m : MethodId} {below : List Frame} {meth : Method} {c : Code} (l : Launch) {b L : Nat} {xs : Nat → Int32} (hL : L ≤ 4096) (C0 : lw_At p s m meth c b L xs) {dC : Nat → ClassId} {dI : Nat → Nat → Nat} {A : Nat → Prop} (hA : ∀ q : Nat, s.heap.size ≤ q → A q) (hbA : ¬ A b) (hAs : ∀ q : Nat, A q → s.heap.size ≤ q) {x y : Nat} {gx gy : Nat → Nat → Nat} {cax cay : Nat → Nat → ClassId} {ak av : Nat → Nat} (hKx : va_K (dC, dI) classes (TX cax) s) (hKy : va_K (dC, dI) classes (TM cay) s) (hXY : ∀ a ∈ AdX x gx, ∀ b ∈ AdM y gy, a ≠ b) (hZ : zC ak av A s s.heap) {H : Heap} {locs : List Loc} {ivx : Nat → Nat → Int32} {lvx : Nat → Nat → Int64} {fax : Nat → Nat → Nat → Int32} {lax : Nat → Nat → Nat → Int64} {ivy : Nat → Nat → Int32} {lvy : Nat → Nat → Int64} {fay : Nat → Nat → Nat → Int32} {lay : Nat → Nat → Nat → Int64} (hIx : IX ivx fax) (hIy : IX ivy fay) (hJC : JCf (ivy 12 23).toInt (fay 12 25) (fay 12 26) (fay 12 27) (fay 12 28)) (hJR : JRf (ivy 12 3).toInt (fay 12 7)) (hJN : JNf (ivy 12 3).toInt (fay 12 4) (fay 12 5)) (hJO : ((ivy 12 20).toInt = -1 ∧ (ivy 12 21).toInt = -1 ∧ (ivy 12 22).toInt = -1)) (hq_shared : ivx 4 2 = ivy 12 62) (hho : (∀ j : Nat, fax 4 0 j = fay 12 63 j ∧ fax 4 1 j = fay 12 64 j)) (hsp : Sp (fay 12 63) (fay 12 64) ((ivy 12 62).toInt).toNat) (hPx : va_P (dC, dI) classes (WX x gx cax ivx lvx fax lax) H) (hDx : va_D A (WX x gx cax ivx lvx fax lax)) (hPy : va_P (dC, dI) classes (WM y gy cay ivy lvy fay lay) H) (hDy : va_D A (WM y gy cay ivy lvy fay lay)) (hS : va_S A s.heap H locs) {i : Int32} {ls : Array Slot} (hl : lv_has ls 4 [(3, .int i), (2, .ref y), (1, .ref x), (0, .ref b)]) (hi : 0 ≤ i.toInt ∧ i.toInt ≤ 4088) (hi8 : i.toInt + 8 ≤ (L : Int)) (kk : ∀ (H : Heap) (locs : List Loc) (ivx : Nat → Nat → Int32) (lvx : Nat → Nat → Int64) (fax : Nat → Nat → Nat → Int32) (lax : Nat → Nat → Nat → Int64) (ivy : Nat → Nat → Int32) (lvy : Nat → Nat → Int64) (fay : Nat → Nat → Nat → Int32) (lay : Nat → Nat → Nat → Int64), IX ivx fax → IX ivy fay → JCf (ivy 12 23).toInt (fay 12 25) (fay 12 26) (fay 12 27) (fay 12 28) → JRf (ivy 12 3).toInt (fay 12 7) → JNf (ivy 12 3).toInt (fay 12 4) (fay 12 5) → ((ivy 12 20).toInt = -1 ∧ (ivy 12 21).toInt = -1 ∧ (ivy 12 22).toInt = -1) → ivx 4 2 = ivy 12 62 → (∀ j : Nat, fax 4 0 j = fay 12 63 j ∧ fax 4 1 j = fay 12 64 j) → Sp (fay 12 63) (fay 12 64) ((ivy 12 62).toInt).toNat → va_P (dC, dI) classes (WX x gx cax ivx lvx fax lax) H → va_D A (WX x gx cax ivx lvx fax lax) → va_P (dC, dI) classes (WM y gy cay ivy lvy fay lay) H → va_D A (WM y gy cay ivy lvy fay lay) → va_S A s.heap H locs → W p l e room_1 s m #[Value.ref b] below meth c H locs 98 5431 (lw_Z below #[Value.ref b] s) (F0 m 1508 ls [])) : W p l e room_1 s m #[Value.ref b] below meth c H locs 98 5431 (lw_Z below #[Value.ref b] s) (F0 m 1297 ls []) := by
  obtain ⟨hx, hb, hr, hml, hown, hts, hX, hbl, hlocks, hgv⟩ := id C0
  have ht := tb_of hts
  have hJS := hsp
  have hJP : Sp (fax 4 0) (fax 4 1) ((ivx 4 2).toInt).toNat := by rw [hq_shared]; exact fun k hk => by rw [(hho k).1, (hho k).2]; exact hsp k hk
  refine lv_aload_n hx hb dL_law_1297 rfl (lv_at hl 2 rfl) ?_
  refine lv_aload_n hx hb dL_law_1298 rfl (lv_at hl 3 rfl) ?_
  refine lv_iload_n hx hb dL_law_1299 rfl (lv_at hl 0 rfl) ?_
  refine lv_iconst (v := 1) hx hb dL_law_1300 (by decide) ?_
  refine lv_iadd hx hb dL_law_1301 ?_
  refine lv_topi (fun v1 ev1 => ?_)
  have tv1 := z_add ev1 (rfl : (i).toInt = _) (by decide : (1 : Int32).toInt = 1) (by omega) (by omega)
  refine va_sld hx hb hX hbl hbA hS (vp_in_iff.mpr ⟨by omega, by omega⟩ : vp_in v1 L) dL_law_1302 ?_
  refine lv_topi (fun v2 ev2 => ?_)
  refine vp_callSi (W.runV (As := [.int v2]) (rest := []) ⟨hx, hb, hml, hown, ht⟩ (c_X11_houses_h l dC dI x gx cax ivx lvx fax lax hIx v2 hJP) (kV 1 ht m_1042 m_1043 m_1044 m_77 m_1045 rfl rfl hd_X11_houses_v ⟨Nat.le_of_ble_eq_true rfl, Nat.le_of_ble_eq_true rfl⟩) (vR hPx hKx (rX_11 hKx hPx)) rfl rfl hl.1 rfl (lv_room (Nat.le_of_ble_eq_true rfl)) dL_law_1303 ⟨Nat.le_of_ble_eq_true rfl, Nat.le_of_ble_eq_true rfl⟩) (fun r3 hr3 => ?_)
  obtain ⟨hr3, xr3_0⟩ := hr3
  refine lv_aload_n hx hb dL_law_1306 rfl (lv_at hl 1 rfl) ?_
  refine lv_aload_n hx hb dL_law_1307 rfl (lv_at hl 3 rfl) ?_
  refine lv_iload_n hx hb dL_law_1308 rfl (lv_at hl 0 rfl) ?_
  refine lv_iconst (v := 1) hx hb dL_law_1309 (by decide) ?_
  refine lv_iadd hx hb dL_law_1310 ?_
  refine lv_topi (fun v4 ev4 => ?_)
  have tv4 := z_add ev4 (rfl : (i).toInt = _) (by decide : (1 : Int32).toInt = 1) (by omega) (by omega)
  refine va_sld hx hb hX hbl hbA hS (vp_in_iff.mpr ⟨by omega, by omega⟩ : vp_in v4 L) dL_law_1311 ?_
  refine lv_topi (fun v5 ev5 => ?_)
  have hFc := free_all hDy hS hA
  refine va_calli (va_runV (As := [.int v5]) (rest := [.int r3]) ⟨hx, hb, hml, hown, ht⟩ (c_X12_houses_h l dC dI H.size y gy cay ivy lvy fay lay hIy v5 hJS) (kV 1 ht m_1664 m_1665 m_1666 m_89 m_1667 rfl rfl hd_X12_houses_v ⟨Nat.le_of_ble_eq_true rfl, Nat.le_of_ble_eq_true rfl⟩) (vW hPy hKy hDy (rM_12 hKy hPy)) rfl rfl hl.1 rfl (lv_room (Nat.le_of_ble_eq_true rfl)) dL_law_1312 ⟨Nat.le_of_ble_eq_true rfl, Nat.le_of_ble_eq_true rfl⟩) hS (fun q _ h => hFc q h) hFc (fun r6 u t H1 locs ht9 hvm hr6 hB hz1 hk1 hS => ?_)
  obtain ⟨n7, n8, xr6_0, hr6, rfl⟩ := hr6
  obtain ⟨hPy, hDy⟩ := hB
  rw [ht9] at hPy
  have hPx := P_kept hPx (la := AdX x gx) (lb := AdM y gy) wmX wmM hXY hk1
  generalize H1 = H at hPx hPy hS ⊢
  have hPy : va_P (dC, dI) classes (WM y gy cay (u2 (u2 ivy 12 65 n7) 12 66 n8) lvy fay lay) H := hPy
  have hDy : va_D A (WM y gy cay (u2 (u2 ivy 12 65 n7) 12 66 n8) lvy fay lay) := (show va_D _ (WM y gy cay (u2 (u2 ivy 12 65 n7) 12 66 n8) lvy fay lay) from hDy).weaken (fun _ _ _ h => hFc _ h)
  have hv9_0 : (v2 : Int32) = v5 := by rw [ev2, ev5, ev1, ev4]
  have hu9_0 := congrArg Int32.toInt hv9_0
  have hw9_shared := congrArg Int32.toInt hq_shared
  have y9x_0 : ((r3.toInt = -100002 ∧ ¬ (0 ≤ (v2 : Int32).toInt ∧ (v2 : Int32).toInt ≤ 2)) ∨ (r3.toInt = -100003 ∧ (0 ≤ (v2 : Int32).toInt ∧ (v2 : Int32).toInt ≤ 2) ∧ (ivx 4 2).toInt = 0) ∨ ((0 ≤ (v2 : Int32).toInt ∧ (v2 : Int32).toInt ≤ 2) ∧ 0 < (ivx 4 2).toInt ∧ ∃ b : Int, Lo (fax 4 0) (fax 4 1) ((ivx 4 2).toInt).toNat b ∧ (((v2 : Int32).toInt = 2 ∧ r3.toInt = b) ∨ ((v2 : Int32).toInt = 0 ∧ Mx (fax 4 0) b ((ivx 4 2).toInt).toNat (-1000000) r3.toInt) ∨ ((v2 : Int32).toInt = 1 ∧ Mn (fax 4 1) b ((ivx 4 2).toInt).toNat 1000000 r3.toInt)))) := xr3_0
  have y9y_0 : ((r6.toInt = -100002 ∧ ¬ (0 ≤ (v5 : Int32).toInt ∧ (v5 : Int32).toInt ≤ 2)) ∨ (r6.toInt = -100003 ∧ (0 ≤ (v5 : Int32).toInt ∧ (v5 : Int32).toInt ≤ 2) ∧ (ivy 12 62).toInt = 0) ∨ ((0 ≤ (v5 : Int32).toInt ∧ (v5 : Int32).toInt ≤ 2) ∧ 0 < (ivy 12 62).toInt ∧ ∃ b : Int, Lo (fay 12 63) (fay 12 64) ((ivy 12 62).toInt).toNat b ∧ (((v5 : Int32).toInt = 2 ∧ r6.toInt = b) ∨ ((v5 : Int32).toInt = 0 ∧ Mx (fay 12 63) b ((ivy 12 62).toInt).toNat (-20000) r6.toInt) ∨ ((v5 : Int32).toInt = 1 ∧ Mn (fay 12 64) b ((ivy 12 62).toInt).toNat 20000 r6.toInt)))) := xr6_0
  have hb9 : 0 ≤ (ivy 12 62).toInt ∧ (ivy 12 62).toInt ≤ 8 := hIy.1 12 62
  have hr8 : (r3 : Int32).toInt = (r6 : Int32).toInt := by
    rcases y9x_0 with za | za | ⟨za1, za2, b, zl, za3⟩
    · rcases y9y_0 with zb | zb | ⟨zb1, zb2, -⟩
      · omega
      · exfalso; omega
      · exfalso; omega
    · rcases y9y_0 with zb | zb | ⟨zb1, zb2, -⟩
      · exfalso; omega
      · omega
      · exfalso; omega
    · rcases y9y_0 with zb | zb | ⟨zb1, zb2, c, zm, zb3⟩
      · exfalso; omega
      · exfalso; omega
      · rw [hq_shared] at zl za3
        have zl2 := Lo_cg (fun k hk => hho k) zl
        have zu := Lo_un zl2 zm
        subst zu
        obtain ⟨k, hk, hc⟩ := Lo_cl (by omega) (by omega) hsp zm
        have hz := hsp k hk
        have hz1 := congrArg Int32.toInt (hho k).1
        have hz2 := congrArg Int32.toInt (hho k).2
        rcases za3 with ⟨z1, z2⟩ | ⟨z1, z2⟩ | ⟨z1, z2⟩
        · rcases zb3 with ⟨y1, y2⟩ | ⟨y1, y2⟩ | ⟨y1, y2⟩
          · omega
          · exfalso; omega
          · exfalso; omega
        · rcases zb3 with ⟨y1, y2⟩ | ⟨y1, y2⟩ | ⟨y1, y2⟩
          · exfalso; omega
          · exact Mx_un (fun j _ => (hho j).1) hk hc (by omega) (by omega) z2 y2
          · exfalso; omega
        · rcases zb3 with ⟨y1, y2⟩ | ⟨y1, y2⟩ | ⟨y1, y2⟩
          · exfalso; omega
          · exfalso; omega
          · exact Mn_un (fun j _ => (hho j).2) hk hc (by omega) (by omega) z2 y2
  have hr9 : (r3 : Int32) = r6 := Int32.toInt_inj.mp (by omega)
  refine lv_icmp_eq (tgt := 1508) hx hb dL_law_1315 (by decide) (fun c9 => ?_) (fun c9 => ?_)
  · skip
    exact kk _ _ ivx lvx fax lax (u2 (u2 ivy 12 65 n7) 12 66 n8) lvy fay lay hIx (IX_i (c := 12) (k := 66) (IX_i (c := 12) (k := 65) hIy (full_i _)) (full_i _)) hJC hJR hJN hJO hq_shared hho hsp hPx hDx hPy hDy hS
  · exact absurd hr9 c9
set_option maxHeartbeats 4000000 in
set_option maxRecDepth 100000 in
theorem law_32 {p : Program} {e : Env} {s : State} {m : MethodId} {below : List Frame} {meth : Method} {c : Code} (l : Launch) {b L : Nat} {xs : Nat → Int32} (hL : L ≤ 4096) (C0 : lw_At p s m meth c b L xs) {dC : Nat → ClassId} {dI : Nat → Nat → Nat} {A : Nat → Prop} (hA : ∀ q : Nat, s.heap.size ≤ q → A q) (hbA : ¬ A b) (hAs : ∀ q : Nat, A q → s.heap.size ≤ q) {x y : Nat} {gx gy : Nat → Nat → Nat} {cax cay : Nat → Nat → ClassId} {ak av : Nat → Nat} (hKx : va_K (dC, dI) classes (TX cax) s) (hKy : va_K (dC, dI) classes (TM cay) s) (hXY : ∀ a ∈ AdX x gx, ∀ b ∈ AdM y gy, a ≠ b) (hZ : zC ak av A s s.heap) {H : Heap} {locs : List Loc} {ivx : Nat → Nat → Int32} {lvx : Nat → Nat → Int64} {fax : Nat → Nat → Nat → Int32} {lax : Nat → Nat → Nat → Int64} {ivy : Nat → Nat → Int32} {lvy : Nat → Nat → Int64} {fay : Nat → Nat → Nat → Int32} {lay : Nat → Nat → Nat → Int64} (hIx : IX ivx fax) (hIy : IX ivy fay) (hJC : JCf (ivy 12 23).toInt (fay 12 25) (fay 12 26) (fay 12 27) (fay 12 28)) (hJR : JRf (ivy 12 3).toInt (fay 12 7)) (hJN : JNf (ivy 12 3).toInt (fay 12 4) (fay 12 5)) (hJO : ((ivy 12 20).toInt = -1 ∧ (ivy 12 21).toInt = -1 ∧ (ivy 12 22).toInt = -1)) (hq_shared : ivx 4 2 = ivy 12 62) (hho : (∀ j : Nat, fax 4 0 j = fay 12 63 j ∧ fax 4 1 j = fay 12 64 j)) (hsp : Sp (fay 12 63) (fay 12 64) ((ivy 12 62).toInt).toNat) (hPx : va_P (dC, dI) classes (WX x gx cax ivx lvx fax lax) H) (hDx : va_D A (WX x gx cax ivx lvx fax lax)) (hPy : va_P (dC, dI) classes (WM y gy cay ivy lvy fay lay) H) (hDy : va_D A (WM y gy cay ivy lvy fay lay)) (hS : va_S A s.heap H locs) {i : Int32} {ls : Array Slot} (hl : lv_has ls 4 [(3, .int i), (2, .ref y), (1, .ref x), (0, .ref b)]) (hi : 0 ≤ i.toInt ∧ i.toInt ≤ 4088) (hi8 : i.toInt + 8 ≤ (L : Int)) (kk : ∀ (H : Heap) (locs : List Loc) (ivx : Nat → Nat → Int32) (lvx : Nat → Nat → Int64) (fax : Nat → Nat → Nat → Int32) (lax : Nat → Nat → Nat → Int64) (ivy : Nat → Nat → Int32) (lvy : Nat → Nat → Int64) (fay : Nat → Nat → Nat → Int32) (lay : Nat → Nat → Nat → Int64), IX ivx fax → IX ivy fay → JCf (ivy 12 23).toInt (fay 12 25) (fay 12 26) (fay 12 27) (fay 12 28) → JRf (ivy 12 3).toInt (fay 12 7) → JNf (ivy 12 3).toInt (fay 12 4) (fay 12 5) → ((ivy 12 20).toInt = -1 ∧ (ivy 12 21).toInt = -1 ∧ (ivy 12 22).toInt = -1) → ivx 4 2 = ivy 12 62 → (∀ j : Nat, fax 4 0 j = fay 12 63 j ∧ fax 4 1 j = fay 12 64 j) → Sp (fay 12 63) (fay 12 64) ((ivy 12 62).toInt).toNat → va_P (dC, dI) classes (WX x gx cax ivx lvx fax lax) H → va_D A (WX x gx cax ivx lvx fax lax) → va_P (dC, dI) classes (WM y gy cay ivy lvy fay lay) H → va_D A (WM y gy cay ivy lvy fay lay) → va_S A s.heap H locs → W p l e room_1 s m #[Value.ref b] below meth c H locs 98 5431 (lw_Z below #[Value.ref b] s) (F0 m 1508 ls [])) : W p l e room_1 s m #[Value.ref b] below meth c H locs 98 5431 (lw_Z below #[Value.ref b] s) (F0 m 1320 ls []) := by
  obtain ⟨hx, hb, hr, hml, hown, hts, hX, hbl, hlocks, hgv⟩ := id C0
  have ht := tb_of hts
  have hJS := hsp
  have hJP : Sp (fax 4 0) (fax 4 1) ((ivx 4 2).toInt).toNat := by rw [hq_shared]; exact fun k hk => by rw [(hho k).1, (hho k).2]; exact hsp k hk
  refine lv_aload_n hx hb dL_law_1320 rfl (lv_at hl 2 rfl) ?_
  refine lv_aload_n hx hb dL_law_1321 rfl (lv_at hl 3 rfl) ?_
  refine lv_iload_n hx hb dL_law_1322 rfl (lv_at hl 0 rfl) ?_
  refine lv_iconst (v := 1) hx hb dL_law_1323 (by decide) ?_
  refine lv_iadd hx hb dL_law_1324 ?_
  refine lv_topi (fun v1 ev1 => ?_)
  have tv1 := z_add ev1 (rfl : (i).toInt = _) (by decide : (1 : Int32).toInt = 1) (by omega) (by omega)
  refine va_sld hx hb hX hbl hbA hS (vp_in_iff.mpr ⟨by omega, by omega⟩ : vp_in v1 L) dL_law_1325 ?_
  refine lv_topi (fun v2 ev2 => ?_)
  have hFc := free_all hDx hS hA
  refine va_calli (va_runV (As := [.int v2]) (rest := []) ⟨hx, hb, hml, hown, ht⟩ (c_X11_certify l dC dI H.size ak av x gx cax ivx lvx fax lax hIx v2) (kV 1 ht m_1070 m_1071 m_1072 m_77 m_1073 rfl rfl hd_X11_certify_v ⟨Nat.le_of_ble_eq_true rfl, Nat.le_of_ble_eq_true rfl⟩) (vWZ hPx hKx hDx ((hZ.kept hS.2.1).narrow (free_all hDx hS hA)) (rX_11 hKx hPx)) rfl rfl hl.1 rfl (lv_room (Nat.le_of_ble_eq_true rfl)) dL_law_1326 ⟨Nat.le_of_ble_eq_true rfl, Nat.le_of_ble_eq_true rfl⟩) hS (fun q _ h => hFc q h) hFc (fun r3 u t H1 locs ht9 hvm hr3 hB hz1 hk1 hS => ?_)
  obtain ⟨n4, n5, n6, n7, n8, n9, n10, n11, n12, n13, n14, n15, n16, hn4, hn8, hn14, hn15, hn16, hr3, rfl⟩ := hr3
  obtain ⟨hPx, hDx⟩ := hB
  rw [ht9] at hPx
  have hPy := P_kept hPy (la := AdM y gy) (lb := AdX x gx) wmM wmX (fun a ha b hb => (hXY b hb a ha).symm) hk1
  generalize H1 = H at hPx hPy hS ⊢
  have hPx : va_P (dC, dI) classes (WX x gx cax (u2 (u2 (u2 ivx 3 3 n14) 3 4 n15) 6 7 n16) lvx (u2 (u2 (u2 (u2 (u2 (u2 (u2 (u2 fax 1 6 n4) 6 0 n5) 6 1 n6) 6 2 n7) 6 3 n8) 6 4 n9) 6 5 n10) 30 2 n11) (u2 (u2 lax 30 0 n12) 30 1 n13)) H := hPx
  have hDx : va_D A (WX x gx cax (u2 (u2 (u2 ivx 3 3 n14) 3 4 n15) 6 7 n16) lvx (u2 (u2 (u2 (u2 (u2 (u2 (u2 (u2 fax 1 6 n4) 6 0 n5) 6 1 n6) 6 2 n7) 6 3 n8) 6 4 n9) 6 5 n10) 30 2 n11) (u2 (u2 lax 30 0 n12) 30 1 n13)) := (show va_D _ (WX x gx cax (u2 (u2 (u2 ivx 3 3 n14) 3 4 n15) 6 7 n16) lvx (u2 (u2 (u2 (u2 (u2 (u2 (u2 (u2 fax 1 6 n4) 6 0 n5) 6 1 n6) 6 2 n7) 6 3 n8) 6 4 n9) 6 5 n10) 30 2 n11) (u2 (u2 lax 30 0 n12) 30 1 n13)) from hDx).weaken (fun _ _ _ h => hFc _ h)
  refine lv_pop hx hb dL_law_1329 rfl ?_
  refine lv_aload_n hx hb dL_law_1330 rfl (lv_at hl 1 rfl) ?_
  refine lv_aload_n hx hb dL_law_1331 rfl (lv_at hl 3 rfl) ?_
  refine lv_iload_n hx hb dL_law_1332 rfl (lv_at hl 0 rfl) ?_
  refine lv_iconst (v := 1) hx hb dL_law_1333 (by decide) ?_
  refine lv_iadd hx hb dL_law_1334 ?_
  refine lv_topi (fun v17 ev17 => ?_)
  have tv17 := z_add ev17 (rfl : (i).toInt = _) (by decide : (1 : Int32).toInt = 1) (by omega) (by omega)
  refine va_sld hx hb hX hbl hbA hS (vp_in_iff.mpr ⟨by omega, by omega⟩ : vp_in v17 L) dL_law_1335 ?_
  refine lv_topi (fun v18 ev18 => ?_)
  have hFc := free_all hDy hS hA
  refine va_calli (va_runV (As := [.int v18]) (rest := []) ⟨hx, hb, hml, hown, ht⟩ (c_X12_certify l dC dI H.size y gy cay ivy lvy fay lay hIy v18 hJC hJR) (kV 1 ht m_1672 m_1673 m_1674 m_89 m_1675 rfl rfl hd_X12_certify_v ⟨Nat.le_of_ble_eq_true rfl, Nat.le_of_ble_eq_true rfl⟩) (vW hPy hKy hDy (rM_12 hKy hPy)) rfl rfl hl.1 rfl (lv_room (Nat.le_of_ble_eq_true rfl)) dL_law_1336 ⟨Nat.le_of_ble_eq_true rfl, Nat.le_of_ble_eq_true rfl⟩) hS (fun q _ h => hFc q h) hFc (fun r19 u t H1 locs ht9 hvm hr19 hB hz1 hk1 hS => ?_)
  obtain ⟨n20, n21, n22, n23, n24, n25, n26, n27, n28, n29, n30, n31, n32, n33, n34, n35, n36, n37, n38, n39, hn20, hn21, hn24, hn32, hn33, hr19, rfl⟩ := hr19
  obtain ⟨hPy, hDy⟩ := hB
  rw [ht9] at hPy
  have hPx := P_kept hPx (la := AdX x gx) (lb := AdM y gy) wmX wmM hXY hk1
  generalize H1 = H at hPx hPy hS ⊢
  have hPy : va_P (dC, dI) classes (WM y gy cay (u2 (u2 (u2 ivy 12 19 n31) 12 41 n32) 12 67 n33) (u2 (u2 (u2 (u2 (u2 (u2 lvy 12 17 n34) 12 18 n35) 12 44 n36) 12 45 n37) 12 46 n38) 12 47 n39) (u2 (u2 (u2 (u2 (u2 (u2 (u2 (u2 fay 12 39 n20) 12 40 n21) 12 68 n22) 12 69 n23) 12 71 n24) 12 72 n25) 12 73 n26) 12 74 n27) (u2 (u2 (u2 lay 12 42 n28) 12 43 n29) 12 70 n30)) H := hPy
  have hDy : va_D A (WM y gy cay (u2 (u2 (u2 ivy 12 19 n31) 12 41 n32) 12 67 n33) (u2 (u2 (u2 (u2 (u2 (u2 lvy 12 17 n34) 12 18 n35) 12 44 n36) 12 45 n37) 12 46 n38) 12 47 n39) (u2 (u2 (u2 (u2 (u2 (u2 (u2 (u2 fay 12 39 n20) 12 40 n21) 12 68 n22) 12 69 n23) 12 71 n24) 12 72 n25) 12 73 n26) 12 74 n27) (u2 (u2 (u2 lay 12 42 n28) 12 43 n29) 12 70 n30)) := (show va_D _ (WM y gy cay (u2 (u2 (u2 ivy 12 19 n31) 12 41 n32) 12 67 n33) (u2 (u2 (u2 (u2 (u2 (u2 lvy 12 17 n34) 12 18 n35) 12 44 n36) 12 45 n37) 12 46 n38) 12 47 n39) (u2 (u2 (u2 (u2 (u2 (u2 (u2 (u2 fay 12 39 n20) 12 40 n21) 12 68 n22) 12 69 n23) 12 71 n24) 12 72 n25) 12 73 n26) 12 74 n27) (u2 (u2 (u2 lay 12 42 n28) 12 43 n29) 12 70 n30)) from hDy).weaken (fun _ _ _ h => hFc _ h)
  refine lv_pop hx hb dL_law_1339 rfl ?_
  refine lv_goto (tgt := 1508) hx hb dL_law_1340 (by decide) ?_
  exact kk _ _ (u2 (u2 (u2 ivx 3 3 n14) 3 4 n15) 6 7 n16) lvx (u2 (u2 (u2 (u2 (u2 (u2 (u2 (u2 fax 1 6 n4) 6 0 n5) 6 1 n6) 6 2 n7) 6 3 n8) 6 4 n9) 6 5 n10) 30 2 n11) (u2 (u2 lax 30 0 n12) 30 1 n13) (u2 (u2 (u2 ivy 12 19 n31) 12 41 n32) 12 67 n33) (u2 (u2 (u2 (u2 (u2 (u2 lvy 12 17 n34) 12 18 n35) 12 44 n36) 12 45 n37) 12 46 n38) 12 47 n39) (u2 (u2 (u2 (u2 (u2 (u2 (u2 (u2 fay 12 39 n20) 12 40 n21) 12 68 n22) 12 69 n23) 12 71 n24) 12 72 n25) 12 73 n26) 12 74 n27) (u2 (u2 (u2 lay 12 42 n28) 12 43 n29) 12 70 n30) (IX_a (c := 30) (k := 2) (IX_a (c := 6) (k := 5) (IX_a (c := 6) (k := 4) (IX_a (c := 6) (k := 3) (IX_a (c := 6) (k := 2) (IX_a (c := 6) (k := 1) (IX_a (c := 6) (k := 0) (IX_a (c := 1) (k := 6) (IX_i (c := 6) (k := 7) (IX_i (c := 3) (k := 4) (IX_i (c := 3) (k := 3) hIx hn14) hn15) hn16) hn4) (fun j => full_i _)) (fun j => full_i _)) (fun j => full_i _)) hn8) (fun j => full_i _)) (fun j => full_i _)) (fun j => full_i _)) (IX_a (c := 12) (k := 74) (IX_a (c := 12) (k := 73) (IX_a (c := 12) (k := 72) (IX_a (c := 12) (k := 71) (IX_a (c := 12) (k := 69) (IX_a (c := 12) (k := 68) (IX_a (c := 12) (k := 40) (IX_a (c := 12) (k := 39) (IX_i (c := 12) (k := 67) (IX_i (c := 12) (k := 41) (IX_i (c := 12) (k := 19) hIy (full_i _)) hn32) hn33) hn20) hn21) (fun j => full_i _)) (fun j => full_i _)) hn24) (fun j => full_i _)) (fun j => full_i _)) (fun j => full_i _)) hJC hJR hJN hJO hq_shared hho hsp hPx hDx hPy hDy hS
set_option maxHeartbeats 4000000 in
set_option maxRecDepth 100000 in
theorem law_33 {p : Program} {e : Env} {s : State} {m : MethodId} {below : List Frame} {meth : Method} {c : Code} (l : Launch) {b L : Nat} {xs : Nat → Int32} (hL : L ≤ 4096) (C0 : lw_At p s m meth c b L xs) {dC : Nat → ClassId} {dI : Nat → Nat → Nat} {A : Nat → Prop} (hA : ∀ q : Nat, s.heap.size ≤ q → A q) (hbA : ¬ A b) (hAs : ∀ q : Nat, A q → s.heap.size ≤ q) {x y : Nat} {gx gy : Nat → Nat → Nat} {cax cay : Nat → Nat → ClassId} {ak av : Nat → Nat} (hKx : va_K (dC, dI) classes (TX cax) s) (hKy : va_K (dC, dI) classes (TM cay) s) (hXY : ∀ a ∈ AdX x gx, ∀ b ∈ AdM y gy, a ≠ b) (hZ : zC ak av A s s.heap) {H : Heap} {locs : List Loc} {ivx : Nat → Nat → Int32} {lvx : Nat → Nat → Int64} {fax : Nat → Nat → Nat → Int32} {lax : Nat → Nat → Nat → Int64} {ivy : Nat → Nat → Int32} {lvy : Nat → Nat → Int64} {fay : Nat → Nat → Nat → Int32} {lay : Nat → Nat → Nat → Int64} (hIx : IX ivx fax) (hIy : IX ivy fay) (hJC : JCf (ivy 12 23).toInt (fay 12 25) (fay 12 26) (fay 12 27) (fay 12 28)) (hJR : JRf (ivy 12 3).toInt (fay 12 7)) (hJN : JNf (ivy 12 3).toInt (fay 12 4) (fay 12 5)) (hJO : ((ivy 12 20).toInt = -1 ∧ (ivy 12 21).toInt = -1 ∧ (ivy 12 22).toInt = -1)) (hq_shared : ivx 4 2 = ivy 12 62) (hho : (∀ j : Nat, fax 4 0 j = fay 12 63 j ∧ fax 4 1 j = fay 12 64 j)) (hsp : Sp (fay 12 63) (fay 12 64) ((ivy 12 62).toInt).toNat) (hPx : va_P (dC, dI) classes (WX x gx cax ivx lvx fax lax) H) (hDx : va_D A (WX x gx cax ivx lvx fax lax)) (hPy : va_P (dC, dI) classes (WM y gy cay ivy lvy fay lay) H) (hDy : va_D A (WM y gy cay ivy lvy fay lay)) (hS : va_S A s.heap H locs) {i : Int32} {ls : Array Slot} (hl : lv_has ls 4 [(3, .int i), (2, .ref y), (1, .ref x), (0, .ref b)]) (hi : 0 ≤ i.toInt ∧ i.toInt ≤ 4088) (hi8 : i.toInt + 8 ≤ (L : Int)) (kk : ∀ (H : Heap) (locs : List Loc) (ivx : Nat → Nat → Int32) (lvx : Nat → Nat → Int64) (fax : Nat → Nat → Nat → Int32) (lax : Nat → Nat → Nat → Int64) (ivy : Nat → Nat → Int32) (lvy : Nat → Nat → Int64) (fay : Nat → Nat → Nat → Int32) (lay : Nat → Nat → Nat → Int64), IX ivx fax → IX ivy fay → JCf (ivy 12 23).toInt (fay 12 25) (fay 12 26) (fay 12 27) (fay 12 28) → JRf (ivy 12 3).toInt (fay 12 7) → JNf (ivy 12 3).toInt (fay 12 4) (fay 12 5) → ((ivy 12 20).toInt = -1 ∧ (ivy 12 21).toInt = -1 ∧ (ivy 12 22).toInt = -1) → ivx 4 2 = ivy 12 62 → (∀ j : Nat, fax 4 0 j = fay 12 63 j ∧ fax 4 1 j = fay 12 64 j) → Sp (fay 12 63) (fay 12 64) ((ivy 12 62).toInt).toNat → va_P (dC, dI) classes (WX x gx cax ivx lvx fax lax) H → va_D A (WX x gx cax ivx lvx fax lax) → va_P (dC, dI) classes (WM y gy cay ivy lvy fay lay) H → va_D A (WM y gy cay ivy lvy fay lay) → va_S A s.heap H locs → W p l e room_1 s m #[Value.ref b] below meth c H locs 98 5431 (lw_Z below #[Value.ref b] s) (F0 m 1508 ls [])) : W p l e room_1 s m #[Value.ref b] below meth c H locs 98 5431 (lw_Z below #[Value.ref b] s) (F0 m 1343 ls []) := by
  obtain ⟨hx, hb, hr, hml, hown, hts, hX, hbl, hlocks, hgv⟩ := id C0
  have ht := tb_of hts
  have hJS := hsp
  have hJP : Sp (fax 4 0) (fax 4 1) ((ivx 4 2).toInt).toNat := by rw [hq_shared]; exact fun k hk => by rw [(hho k).1, (hho k).2]; exact hsp k hk
  refine lv_aload_n hx hb dL_law_1343 rfl (lv_at hl 2 rfl) ?_
  refine lv_aload_n hx hb dL_law_1344 rfl (lv_at hl 3 rfl) ?_
  refine lv_iload_n hx hb dL_law_1345 rfl (lv_at hl 0 rfl) ?_
  refine lv_iconst (v := 1) hx hb dL_law_1346 (by decide) ?_
  refine lv_iadd hx hb dL_law_1347 ?_
  refine lv_topi (fun v1 ev1 => ?_)
  have tv1 := z_add ev1 (rfl : (i).toInt = _) (by decide : (1 : Int32).toInt = 1) (by omega) (by omega)
  refine va_sld hx hb hX hbl hbA hS (vp_in_iff.mpr ⟨by omega, by omega⟩ : vp_in v1 L) dL_law_1348 ?_
  refine lv_topi (fun v2 ev2 => ?_)
  refine lv_aload_n hx hb dL_law_1349 rfl (lv_at hl 3 rfl) ?_
  refine lv_iload_n hx hb dL_law_1350 rfl (lv_at hl 0 rfl) ?_
  refine lv_iconst (v := 2) hx hb dL_law_1351 (by decide) ?_
  refine lv_iadd hx hb dL_law_1352 ?_
  refine lv_topi (fun v3 ev3 => ?_)
  have tv3 := z_add ev3 (rfl : (i).toInt = _) (by decide : (2 : Int32).toInt = 2) (by omega) (by omega)
  refine va_sld hx hb hX hbl hbA hS (vp_in_iff.mpr ⟨by omega, by omega⟩ : vp_in v3 L) dL_law_1353 ?_
  refine lv_topi (fun v4 ev4 => ?_)
  have hFc := free_all hDx hS hA
  refine va_calli (va_runV (As := [.int v2, .int v4]) (rest := []) ⟨hx, hb, hml, hown, ht⟩ (c_X11_bill l dC dI H.size x gx cax ivx lvx fax lax hIx v2 v4) (kV 2 ht m_1091 m_1092 m_1093 m_77 m_1094 rfl rfl hd_X11_bill_v ⟨Nat.le_of_ble_eq_true rfl, Nat.le_of_ble_eq_true rfl⟩) (vW hPx hKx hDx (rX_11 hKx hPx)) rfl rfl hl.1 rfl (lv_room (Nat.le_of_ble_eq_true rfl)) dL_law_1354 ⟨Nat.le_of_ble_eq_true rfl, Nat.le_of_ble_eq_true rfl⟩) hS (fun q _ h => hFc q h) hFc (fun r5 u t H1 locs ht9 hvm hr5 hB hz1 hk1 hS => ?_)
  obtain ⟨n6, n7, n8, n9, n10, n11, n12, hn9, hn12, hr5, rfl⟩ := hr5
  obtain ⟨hPx, hDx⟩ := hB
  rw [ht9] at hPx
  have hPy := P_kept hPy (la := AdM y gy) (lb := AdX x gx) wmM wmX (fun a ha b hb => (hXY b hb a ha).symm) hk1
  generalize H1 = H at hPx hPy hS ⊢
  have hPx : va_P (dC, dI) classes (WX x gx cax (u2 ivx 6 7 n12) lvx (u2 (u2 (u2 (u2 (u2 (u2 fax 6 0 n6) 6 1 n7) 6 2 n8) 6 3 n9) 6 4 n10) 6 5 n11) lax) H := hPx
  have hDx : va_D A (WX x gx cax (u2 ivx 6 7 n12) lvx (u2 (u2 (u2 (u2 (u2 (u2 fax 6 0 n6) 6 1 n7) 6 2 n8) 6 3 n9) 6 4 n10) 6 5 n11) lax) := (show va_D _ (WX x gx cax (u2 ivx 6 7 n12) lvx (u2 (u2 (u2 (u2 (u2 (u2 fax 6 0 n6) 6 1 n7) 6 2 n8) 6 3 n9) 6 4 n10) 6 5 n11) lax) from hDx).weaken (fun _ _ _ h => hFc _ h)
  refine lv_pop hx hb dL_law_1357 rfl ?_
  refine lv_aload_n hx hb dL_law_1358 rfl (lv_at hl 1 rfl) ?_
  refine lv_aload_n hx hb dL_law_1359 rfl (lv_at hl 3 rfl) ?_
  refine lv_iload_n hx hb dL_law_1360 rfl (lv_at hl 0 rfl) ?_
  refine lv_iconst (v := 1) hx hb dL_law_1361 (by decide) ?_
  refine lv_iadd hx hb dL_law_1362 ?_
  refine lv_topi (fun v13 ev13 => ?_)
  have tv13 := z_add ev13 (rfl : (i).toInt = _) (by decide : (1 : Int32).toInt = 1) (by omega) (by omega)
  refine va_sld hx hb hX hbl hbA hS (vp_in_iff.mpr ⟨by omega, by omega⟩ : vp_in v13 L) dL_law_1363 ?_
  refine lv_topi (fun v14 ev14 => ?_)
  refine lv_aload_n hx hb dL_law_1364 rfl (lv_at hl 3 rfl) ?_
  refine lv_iload_n hx hb dL_law_1365 rfl (lv_at hl 0 rfl) ?_
  refine lv_iconst (v := 2) hx hb dL_law_1366 (by decide) ?_
  refine lv_iadd hx hb dL_law_1367 ?_
  refine lv_topi (fun v15 ev15 => ?_)
  have tv15 := z_add ev15 (rfl : (i).toInt = _) (by decide : (2 : Int32).toInt = 2) (by omega) (by omega)
  refine va_sld hx hb hX hbl hbA hS (vp_in_iff.mpr ⟨by omega, by omega⟩ : vp_in v15 L) dL_law_1368 ?_
  refine lv_topi (fun v16 ev16 => ?_)
  have hFc := free_all hDy hS hA
  refine va_calli (va_runV (As := [.int v14, .int v16]) (rest := []) ⟨hx, hb, hml, hown, ht⟩ (c_X12_bill l dC dI H.size y gy cay ivy lvy fay lay hIy v14 v16) (kV 2 ht m_1680 m_1681 m_1682 m_89 m_1683 rfl rfl hd_X12_bill_v ⟨Nat.le_of_ble_eq_true rfl, Nat.le_of_ble_eq_true rfl⟩) (vW hPy hKy hDy (rM_12 hKy hPy)) rfl rfl hl.1 rfl (lv_room (Nat.le_of_ble_eq_true rfl)) dL_law_1369 ⟨Nat.le_of_ble_eq_true rfl, Nat.le_of_ble_eq_true rfl⟩) hS (fun q _ h => hFc q h) hFc (fun r17 u t H1 locs ht9 hvm hr17 hB hz1 hk1 hS => ?_)
  obtain ⟨n18, n19, n20, n21, n22, n23, n24, n25, hn20, hn25, hr17, rfl⟩ := hr17
  obtain ⟨hPy, hDy⟩ := hB
  rw [ht9] at hPy
  have hPx := P_kept hPx (la := AdX x gx) (lb := AdM y gy) wmX wmM hXY hk1
  generalize H1 = H at hPx hPy hS ⊢
  have hPy : va_P (dC, dI) classes (WM y gy cay (u2 ivy 12 67 n25) lvy (u2 (u2 (u2 (u2 (u2 (u2 fay 12 68 n18) 12 69 n19) 12 71 n20) 12 72 n21) 12 73 n22) 12 74 n23) (u2 lay 12 70 n24)) H := hPy
  have hDy : va_D A (WM y gy cay (u2 ivy 12 67 n25) lvy (u2 (u2 (u2 (u2 (u2 (u2 fay 12 68 n18) 12 69 n19) 12 71 n20) 12 72 n21) 12 73 n22) 12 74 n23) (u2 lay 12 70 n24)) := (show va_D _ (WM y gy cay (u2 ivy 12 67 n25) lvy (u2 (u2 (u2 (u2 (u2 (u2 fay 12 68 n18) 12 69 n19) 12 71 n20) 12 72 n21) 12 73 n22) 12 74 n23) (u2 lay 12 70 n24)) from hDy).weaken (fun _ _ _ h => hFc _ h)
  refine lv_pop hx hb dL_law_1372 rfl ?_
  refine lv_goto (tgt := 1508) hx hb dL_law_1373 (by decide) ?_
  exact kk _ _ (u2 ivx 6 7 n12) lvx (u2 (u2 (u2 (u2 (u2 (u2 fax 6 0 n6) 6 1 n7) 6 2 n8) 6 3 n9) 6 4 n10) 6 5 n11) lax (u2 ivy 12 67 n25) lvy (u2 (u2 (u2 (u2 (u2 (u2 fay 12 68 n18) 12 69 n19) 12 71 n20) 12 72 n21) 12 73 n22) 12 74 n23) (u2 lay 12 70 n24) (IX_a (c := 6) (k := 5) (IX_a (c := 6) (k := 4) (IX_a (c := 6) (k := 3) (IX_a (c := 6) (k := 2) (IX_a (c := 6) (k := 1) (IX_a (c := 6) (k := 0) (IX_i (c := 6) (k := 7) hIx hn12) (fun j => full_i _)) (fun j => full_i _)) (fun j => full_i _)) hn9) (fun j => full_i _)) (fun j => full_i _)) (IX_a (c := 12) (k := 74) (IX_a (c := 12) (k := 73) (IX_a (c := 12) (k := 72) (IX_a (c := 12) (k := 71) (IX_a (c := 12) (k := 69) (IX_a (c := 12) (k := 68) (IX_i (c := 12) (k := 67) hIy hn25) (fun j => full_i _)) (fun j => full_i _)) hn20) (fun j => full_i _)) (fun j => full_i _)) (fun j => full_i _)) hJC hJR hJN hJO hq_shared hho hsp hPx hDx hPy hDy hS
set_option maxHeartbeats 4000000 in
set_option maxRecDepth 100000 in
theorem law_34 {p : Program} {e : Env} {s : State} {m : MethodId} {below : List Frame} {meth : Method} {c : Code} (l : Launch) {b L : Nat} {xs : Nat → Int32} (hL : L ≤ 4096) (C0 : lw_At p s m meth c b L xs) {dC : Nat → ClassId} {dI : Nat → Nat → Nat} {A : Nat → Prop} (hA : ∀ q : Nat, s.heap.size ≤ q → A q) (hbA : ¬ A b) (hAs : ∀ q : Nat, A q → s.heap.size ≤ q) {x y : Nat} {gx gy : Nat → Nat → Nat} {cax cay : Nat → Nat → ClassId} {ak av : Nat → Nat} (hKx : va_K (dC, dI) classes (TX cax) s) (hKy : va_K (dC, dI) classes (TM cay) s) (hXY : ∀ a ∈ AdX x gx, ∀ b ∈ AdM y gy, a ≠ b) (hZ : zC ak av A s s.heap) {H : Heap} {locs : List Loc} {ivx : Nat → Nat → Int32} {lvx : Nat → Nat → Int64} {fax : Nat → Nat → Nat → Int32} {lax : Nat → Nat → Nat → Int64} {ivy : Nat → Nat → Int32} {lvy : Nat → Nat → Int64} {fay : Nat → Nat → Nat → Int32} {lay : Nat → Nat → Nat → Int64} (hIx : IX ivx fax) (hIy : IX ivy fay) (hJC : JCf (ivy 12 23).toInt (fay 12 25) (fay 12 26) (fay 12 27) (fay 12 28)) (hJR : JRf (ivy 12 3).toInt (fay 12 7)) (hJN : JNf (ivy 12 3).toInt (fay 12 4) (fay 12 5)) (hJO : ((ivy 12 20).toInt = -1 ∧ (ivy 12 21).toInt = -1 ∧ (ivy 12 22).toInt = -1)) (hq_shared : ivx 4 2 = ivy 12 62) (hho : (∀ j : Nat, fax 4 0 j = fay 12 63 j ∧ fax 4 1 j = fay 12 64 j)) (hsp : Sp (fay 12 63) (fay 12 64) ((ivy 12 62).toInt).toNat) (hPx : va_P (dC, dI) classes (WX x gx cax ivx lvx fax lax) H) (hDx : va_D A (WX x gx cax ivx lvx fax lax)) (hPy : va_P (dC, dI) classes (WM y gy cay ivy lvy fay lay) H) (hDy : va_D A (WM y gy cay ivy lvy fay lay)) (hS : va_S A s.heap H locs) {i : Int32} {ls : Array Slot} (hl : lv_has ls 4 [(3, .int i), (2, .ref y), (1, .ref x), (0, .ref b)]) (hi : 0 ≤ i.toInt ∧ i.toInt ≤ 4088) (hi8 : i.toInt + 8 ≤ (L : Int)) (kk : ∀ (H : Heap) (locs : List Loc) (ivx : Nat → Nat → Int32) (lvx : Nat → Nat → Int64) (fax : Nat → Nat → Nat → Int32) (lax : Nat → Nat → Nat → Int64) (ivy : Nat → Nat → Int32) (lvy : Nat → Nat → Int64) (fay : Nat → Nat → Nat → Int32) (lay : Nat → Nat → Nat → Int64), IX ivx fax → IX ivy fay → JCf (ivy 12 23).toInt (fay 12 25) (fay 12 26) (fay 12 27) (fay 12 28) → JRf (ivy 12 3).toInt (fay 12 7) → JNf (ivy 12 3).toInt (fay 12 4) (fay 12 5) → ((ivy 12 20).toInt = -1 ∧ (ivy 12 21).toInt = -1 ∧ (ivy 12 22).toInt = -1) → ivx 4 2 = ivy 12 62 → (∀ j : Nat, fax 4 0 j = fay 12 63 j ∧ fax 4 1 j = fay 12 64 j) → Sp (fay 12 63) (fay 12 64) ((ivy 12 62).toInt).toNat → va_P (dC, dI) classes (WX x gx cax ivx lvx fax lax) H → va_D A (WX x gx cax ivx lvx fax lax) → va_P (dC, dI) classes (WM y gy cay ivy lvy fay lay) H → va_D A (WM y gy cay ivy lvy fay lay) → va_S A s.heap H locs → W p l e room_1 s m #[Value.ref b] below meth c H locs 98 5431 (lw_Z below #[Value.ref b] s) (F0 m 1508 ls [])) : W p l e room_1 s m #[Value.ref b] below meth c H locs 98 5431 (lw_Z below #[Value.ref b] s) (F0 m 1376 ls []) := by
  obtain ⟨hx, hb, hr, hml, hown, hts, hX, hbl, hlocks, hgv⟩ := id C0
  have ht := tb_of hts
  have hJS := hsp
  have hJP : Sp (fax 4 0) (fax 4 1) ((ivx 4 2).toInt).toNat := by rw [hq_shared]; exact fun k hk => by rw [(hho k).1, (hho k).2]; exact hsp k hk
  refine lv_aload_n hx hb dL_law_1376 rfl (lv_at hl 2 rfl) ?_
  refine lv_aload_n hx hb dL_law_1377 rfl (lv_at hl 3 rfl) ?_
  refine lv_iload_n hx hb dL_law_1378 rfl (lv_at hl 0 rfl) ?_
  refine lv_iconst (v := 1) hx hb dL_law_1379 (by decide) ?_
  refine lv_iadd hx hb dL_law_1380 ?_
  refine lv_topi (fun v1 ev1 => ?_)
  have tv1 := z_add ev1 (rfl : (i).toInt = _) (by decide : (1 : Int32).toInt = 1) (by omega) (by omega)
  refine va_sld hx hb hX hbl hbA hS (vp_in_iff.mpr ⟨by omega, by omega⟩ : vp_in v1 L) dL_law_1381 ?_
  refine lv_topi (fun v2 ev2 => ?_)
  refine lv_aload_n hx hb dL_law_1382 rfl (lv_at hl 3 rfl) ?_
  refine lv_iload_n hx hb dL_law_1383 rfl (lv_at hl 0 rfl) ?_
  refine lv_iconst (v := 2) hx hb dL_law_1384 (by decide) ?_
  refine lv_iadd hx hb dL_law_1385 ?_
  refine lv_topi (fun v3 ev3 => ?_)
  have tv3 := z_add ev3 (rfl : (i).toInt = _) (by decide : (2 : Int32).toInt = 2) (by omega) (by omega)
  refine va_sld hx hb hX hbl hbA hS (vp_in_iff.mpr ⟨by omega, by omega⟩ : vp_in v3 L) dL_law_1386 ?_
  refine lv_topi (fun v4 ev4 => ?_)
  refine lv_aload_n hx hb dL_law_1387 rfl (lv_at hl 3 rfl) ?_
  refine lv_iload_n hx hb dL_law_1388 rfl (lv_at hl 0 rfl) ?_
  refine lv_iconst (v := 3) hx hb dL_law_1389 (by decide) ?_
  refine lv_iadd hx hb dL_law_1390 ?_
  refine lv_topi (fun v5 ev5 => ?_)
  have tv5 := z_add ev5 (rfl : (i).toInt = _) (by decide : (3 : Int32).toInt = 3) (by omega) (by omega)
  refine va_sld hx hb hX hbl hbA hS (vp_in_iff.mpr ⟨by omega, by omega⟩ : vp_in v5 L) dL_law_1391 ?_
  refine lv_topi (fun v6 ev6 => ?_)
  have hFc := free_all hDx hS hA
  refine va_calli (va_runV (As := [.int v2, .int v4, .int v6]) (rest := []) ⟨hx, hb, hml, hown, ht⟩ (c_X11_cut l dC dI H.size x gx cax ivx lvx fax lax hIx v2 v4 v6) (kV 3 ht m_1100 m_1101 m_1102 m_77 m_1103 rfl rfl hd_X11_cut_v ⟨Nat.le_of_ble_eq_true rfl, Nat.le_of_ble_eq_true rfl⟩) (vW hPx hKx hDx (rX_11 hKx hPx)) rfl rfl hl.1 rfl (lv_room (Nat.le_of_ble_eq_true rfl)) dL_law_1392 ⟨Nat.le_of_ble_eq_true rfl, Nat.le_of_ble_eq_true rfl⟩) hS (fun q _ h => hFc q h) hFc (fun r7 u t H1 locs ht9 hvm hr7 hB hz1 hk1 hS => ?_)
  obtain ⟨n8, n9, n10, n11, n12, n13, n14, hn11, hn14, hr7, rfl⟩ := hr7
  obtain ⟨hPx, hDx⟩ := hB
  rw [ht9] at hPx
  have hPy := P_kept hPy (la := AdM y gy) (lb := AdX x gx) wmM wmX (fun a ha b hb => (hXY b hb a ha).symm) hk1
  generalize H1 = H at hPx hPy hS ⊢
  have hPx : va_P (dC, dI) classes (WX x gx cax (u2 ivx 6 7 n14) lvx (u2 (u2 (u2 (u2 (u2 (u2 fax 6 0 n8) 6 1 n9) 6 2 n10) 6 3 n11) 6 4 n12) 6 5 n13) lax) H := hPx
  have hDx : va_D A (WX x gx cax (u2 ivx 6 7 n14) lvx (u2 (u2 (u2 (u2 (u2 (u2 fax 6 0 n8) 6 1 n9) 6 2 n10) 6 3 n11) 6 4 n12) 6 5 n13) lax) := (show va_D _ (WX x gx cax (u2 ivx 6 7 n14) lvx (u2 (u2 (u2 (u2 (u2 (u2 fax 6 0 n8) 6 1 n9) 6 2 n10) 6 3 n11) 6 4 n12) 6 5 n13) lax) from hDx).weaken (fun _ _ _ h => hFc _ h)
  refine lv_pop hx hb dL_law_1395 rfl ?_
  refine lv_aload_n hx hb dL_law_1396 rfl (lv_at hl 1 rfl) ?_
  refine lv_aload_n hx hb dL_law_1397 rfl (lv_at hl 3 rfl) ?_
  refine lv_iload_n hx hb dL_law_1398 rfl (lv_at hl 0 rfl) ?_
  refine lv_iconst (v := 1) hx hb dL_law_1399 (by decide) ?_
  refine lv_iadd hx hb dL_law_1400 ?_
  refine lv_topi (fun v15 ev15 => ?_)
  have tv15 := z_add ev15 (rfl : (i).toInt = _) (by decide : (1 : Int32).toInt = 1) (by omega) (by omega)
  refine va_sld hx hb hX hbl hbA hS (vp_in_iff.mpr ⟨by omega, by omega⟩ : vp_in v15 L) dL_law_1401 ?_
  refine lv_topi (fun v16 ev16 => ?_)
  refine lv_aload_n hx hb dL_law_1402 rfl (lv_at hl 3 rfl) ?_
  refine lv_iload_n hx hb dL_law_1403 rfl (lv_at hl 0 rfl) ?_
  refine lv_iconst (v := 2) hx hb dL_law_1404 (by decide) ?_
  refine lv_iadd hx hb dL_law_1405 ?_
  refine lv_topi (fun v17 ev17 => ?_)
  have tv17 := z_add ev17 (rfl : (i).toInt = _) (by decide : (2 : Int32).toInt = 2) (by omega) (by omega)
  refine va_sld hx hb hX hbl hbA hS (vp_in_iff.mpr ⟨by omega, by omega⟩ : vp_in v17 L) dL_law_1406 ?_
  refine lv_topi (fun v18 ev18 => ?_)
  refine lv_aload_n hx hb dL_law_1407 rfl (lv_at hl 3 rfl) ?_
  refine lv_iload_n hx hb dL_law_1408 rfl (lv_at hl 0 rfl) ?_
  refine lv_iconst (v := 3) hx hb dL_law_1409 (by decide) ?_
  refine lv_iadd hx hb dL_law_1410 ?_
  refine lv_topi (fun v19 ev19 => ?_)
  have tv19 := z_add ev19 (rfl : (i).toInt = _) (by decide : (3 : Int32).toInt = 3) (by omega) (by omega)
  refine va_sld hx hb hX hbl hbA hS (vp_in_iff.mpr ⟨by omega, by omega⟩ : vp_in v19 L) dL_law_1411 ?_
  refine lv_topi (fun v20 ev20 => ?_)
  have hFc := free_all hDy hS hA
  refine va_calli (va_runV (As := [.int v16, .int v18, .int v20]) (rest := []) ⟨hx, hb, hml, hown, ht⟩ (c_X12_cut l dC dI H.size y gy cay ivy lvy fay lay hIy v16 v18 v20) (kV 3 ht m_1692 m_1693 m_1694 m_89 m_1695 rfl rfl hd_X12_cut_v ⟨Nat.le_of_ble_eq_true rfl, Nat.le_of_ble_eq_true rfl⟩) (vW hPy hKy hDy (rM_12 hKy hPy)) rfl rfl hl.1 rfl (lv_room (Nat.le_of_ble_eq_true rfl)) dL_law_1412 ⟨Nat.le_of_ble_eq_true rfl, Nat.le_of_ble_eq_true rfl⟩) hS (fun q _ h => hFc q h) hFc (fun r21 u t H1 locs ht9 hvm hr21 hB hz1 hk1 hS => ?_)
  obtain ⟨n22, n23, n24, n25, n26, n27, n28, n29, hn24, hn29, hr21, rfl⟩ := hr21
  obtain ⟨hPy, hDy⟩ := hB
  rw [ht9] at hPy
  have hPx := P_kept hPx (la := AdX x gx) (lb := AdM y gy) wmX wmM hXY hk1
  generalize H1 = H at hPx hPy hS ⊢
  have hPy : va_P (dC, dI) classes (WM y gy cay (u2 ivy 12 67 n29) lvy (u2 (u2 (u2 (u2 (u2 (u2 fay 12 68 n22) 12 69 n23) 12 71 n24) 12 72 n25) 12 73 n26) 12 74 n27) (u2 lay 12 70 n28)) H := hPy
  have hDy : va_D A (WM y gy cay (u2 ivy 12 67 n29) lvy (u2 (u2 (u2 (u2 (u2 (u2 fay 12 68 n22) 12 69 n23) 12 71 n24) 12 72 n25) 12 73 n26) 12 74 n27) (u2 lay 12 70 n28)) := (show va_D _ (WM y gy cay (u2 ivy 12 67 n29) lvy (u2 (u2 (u2 (u2 (u2 (u2 fay 12 68 n22) 12 69 n23) 12 71 n24) 12 72 n25) 12 73 n26) 12 74 n27) (u2 lay 12 70 n28)) from hDy).weaken (fun _ _ _ h => hFc _ h)
  refine lv_pop hx hb dL_law_1415 rfl ?_
  refine lv_goto (tgt := 1508) hx hb dL_law_1416 (by decide) ?_
  exact kk _ _ (u2 ivx 6 7 n14) lvx (u2 (u2 (u2 (u2 (u2 (u2 fax 6 0 n8) 6 1 n9) 6 2 n10) 6 3 n11) 6 4 n12) 6 5 n13) lax (u2 ivy 12 67 n29) lvy (u2 (u2 (u2 (u2 (u2 (u2 fay 12 68 n22) 12 69 n23) 12 71 n24) 12 72 n25) 12 73 n26) 12 74 n27) (u2 lay 12 70 n28) (IX_a (c := 6) (k := 5) (IX_a (c := 6) (k := 4) (IX_a (c := 6) (k := 3) (IX_a (c := 6) (k := 2) (IX_a (c := 6) (k := 1) (IX_a (c := 6) (k := 0) (IX_i (c := 6) (k := 7) hIx hn14) (fun j => full_i _)) (fun j => full_i _)) (fun j => full_i _)) hn11) (fun j => full_i _)) (fun j => full_i _)) (IX_a (c := 12) (k := 74) (IX_a (c := 12) (k := 73) (IX_a (c := 12) (k := 72) (IX_a (c := 12) (k := 71) (IX_a (c := 12) (k := 69) (IX_a (c := 12) (k := 68) (IX_i (c := 12) (k := 67) hIy hn29) (fun j => full_i _)) (fun j => full_i _)) hn24) (fun j => full_i _)) (fun j => full_i _)) (fun j => full_i _)) hJC hJR hJN hJO hq_shared hho hsp hPx hDx hPy hDy hS
