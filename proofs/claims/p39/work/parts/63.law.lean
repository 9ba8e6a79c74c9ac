/-! ===== law ===== -/
theorem m_1034 : Cond.methodLink RL 144 yX11_shared ∈ tb := mb_4_9 _ (List.mem_of_getElem? (i := 6) rfl)
theorem m_1035 : Cond.instanceMethod yX11_shared ∈ tb := mb_4_9 _ (List.mem_of_getElem? (i := 7) rfl)
theorem m_1036 : Cond.selects RX11 yX11_shared yX11_shared ∈ tb := mb_5_0 _ (List.mem_of_getElem? (i := 0) rfl)
theorem m_1037 : Cond.code yX11_shared cX11_shared 5 (some .int) ∈ tb := mb_5_0 _ (List.mem_of_getElem? (i := 1) rfl)
theorem m_1042 : Cond.methodLink RL 148 yX11_houses ∈ tb := mb_5_0 _ (List.mem_of_getElem? (i := 6) rfl)
theorem m_1043 : Cond.instanceMethod yX11_houses ∈ tb := mb_5_0 _ (List.mem_of_getElem? (i := 7) rfl)
theorem m_1044 : Cond.selects RX11 yX11_houses yX11_houses ∈ tb := mb_5_0 _ (List.mem_of_getElem? (i := 8) rfl)
theorem m_1045 : Cond.code yX11_houses cX11_houses 3 (some .int) ∈ tb := mb_5_0 _ (List.mem_of_getElem? (i := 9) rfl)
theorem m_1070 : Cond.methodLink RL 152 yX11_certify ∈ tb := mb_5_1 _ (List.mem_of_getElem? (i := 7) rfl)
theorem m_1071 : Cond.instanceMethod yX11_certify ∈ tb := mb_5_1 _ (List.mem_of_getElem? (i := 8) rfl)
theorem m_1072 : Cond.selects RX11 yX11_certify yX11_certify ∈ tb := mb_5_1 _ (List.mem_of_getElem? (i := 9) rfl)
theorem m_1073 : Cond.code yX11_certify cX11_certify 6 (some .int) ∈ tb := mb_5_1 _ (List.mem_of_getElem? (i := 10) rfl)
theorem m_1091 : Cond.methodLink RL 156 yX11_bill ∈ tb := mb_5_2 _ (List.mem_of_getElem? (i := 4) rfl)
theorem m_1092 : Cond.instanceMethod yX11_bill ∈ tb := mb_5_2 _ (List.mem_of_getElem? (i := 5) rfl)
theorem m_1093 : Cond.selects RX11 yX11_bill yX11_bill ∈ tb := mb_5_2 _ (List.mem_of_getElem? (i := 6) rfl)
theorem m_1094 : Cond.code yX11_bill cX11_bill 3 (some .int) ∈ tb := mb_5_2 _ (List.mem_of_getElem? (i := 7) rfl)
theorem m_1100 : Cond.methodLink RL 160 yX11_cut ∈ tb := mb_5_2 _ (List.mem_of_getElem? (i := 13) rfl)
theorem m_1101 : Cond.instanceMethod yX11_cut ∈ tb := mb_5_2 _ (List.mem_of_getElem? (i := 14) rfl)
theorem m_1102 : Cond.selects RX11 yX11_cut yX11_cut ∈ tb := mb_5_2 _ (List.mem_of_getElem? (i := 15) rfl)
theorem m_1103 : Cond.code yX11_cut cX11_cut 5 (some .int) ∈ tb := mb_5_2 _ (List.mem_of_getElem? (i := 16) rfl)
theorem m_1660 : Cond.methodLink RL 147 yX12_shared ∈ tb := mb_7_5 _ (List.mem_of_getElem? (i := 10) rfl)
theorem m_1661 : Cond.instanceMethod yX12_shared ∈ tb := mb_7_5 _ (List.mem_of_getElem? (i := 11) rfl)
theorem m_1662 : Cond.selects RX12 yX12_shared yX12_shared ∈ tb := mb_7_5 _ (List.mem_of_getElem? (i := 12) rfl)
theorem m_1663 : Cond.code yX12_shared cX12_shared 5 (some .int) ∈ tb := mb_7_5 _ (List.mem_of_getElem? (i := 13) rfl)
theorem m_1664 : Cond.methodLink RL 151 yX12_houses ∈ tb := mb_7_5 _ (List.mem_of_getElem? (i := 14) rfl)
theorem m_1665 : Cond.instanceMethod yX12_houses ∈ tb := mb_7_5 _ (List.mem_of_getElem? (i := 15) rfl)
theorem m_1666 : Cond.selects RX12 yX12_houses yX12_houses ∈ tb := mb_7_5 _ (List.mem_of_getElem? (i := 16) rfl)
theorem m_1667 : Cond.code yX12_houses cX12_houses 4 (some .int) ∈ tb := mb_7_5 _ (List.mem_of_getElem? (i := 17) rfl)
theorem m_1672 : Cond.methodLink RL 155 yX12_certify ∈ tb := mb_7_5 _ (List.mem_of_getElem? (i := 21) rfl)
theorem m_1673 : Cond.instanceMethod yX12_certify ∈ tb := mb_7_5 _ (List.mem_of_getElem? (i := 22) rfl)
theorem m_1674 : Cond.selects RX12 yX12_certify yX12_certify ∈ tb := mb_7_5 _ (List.mem_of_getElem? (i := 23) rfl)
theorem m_1675 : Cond.code yX12_certify cX12_certify 4 (some .int) ∈ tb := mb_7_6 _ (List.mem_of_getElem? (i := 0) rfl)
theorem m_1680 : Cond.methodLink RL 159 yX12_bill ∈ tb := mb_7_6 _ (List.mem_of_getElem? (i := 4) rfl)
theorem m_1681 : Cond.instanceMethod yX12_bill ∈ tb := mb_7_6 _ (List.mem_of_getElem? (i := 5) rfl)
theorem m_1682 : Cond.selects RX12 yX12_bill yX12_bill ∈ tb := mb_7_6 _ (List.mem_of_getElem? (i := 6) rfl)
theorem m_1683 : Cond.code yX12_bill cX12_bill 3 (some .int) ∈ tb := mb_7_6 _ (List.mem_of_getElem? (i := 7) rfl)
theorem m_1692 : Cond.methodLink RL 163 yX12_cut ∈ tb := mb_7_6 _ (List.mem_of_getElem? (i := 14) rfl)
theorem m_1693 : Cond.instanceMethod yX12_cut ∈ tb := mb_7_6 _ (List.mem_of_getElem? (i := 15) rfl)
theorem m_1694 : Cond.selects RX12 yX12_cut yX12_cut ∈ tb := mb_7_6 _ (List.mem_of_getElem? (i := 16) rfl)
theorem m_1695 : Cond.code yX12_cut cX12_cut 6 (some .int) ∈ tb := mb_7_6 _ (List.mem_of_getElem? (i := 17) rfl)
theorem hd_X11_bill_v : yX11_bill.cls = RX11 ∧ yX11_bill.cls ≠ "java/lang/invoke/MethodHandle" ∧ yX11_bill.cls ≠ "java/lang/invoke/VarHandle" ∧ (parseMethodDescriptor yX11_bill.desc).map (fun d => d.parameters.length) = some 2 := by decide +kernel
theorem hd_X11_certify_v : yX11_certify.cls = RX11 ∧ yX11_certify.cls ≠ "java/lang/invoke/MethodHandle" ∧ yX11_certify.cls ≠ "java/lang/invoke/VarHandle" ∧ (parseMethodDescriptor yX11_certify.desc).map (fun d => d.parameters.length) = some 1 := by decide +kernel
theorem hd_X11_cut_v : yX11_cut.cls = RX11 ∧ yX11_cut.cls ≠ "java/lang/invoke/MethodHandle" ∧ yX11_cut.cls ≠ "java/lang/invoke/VarHandle" ∧ (parseMethodDescriptor yX11_cut.desc).map (fun d => d.parameters.length) = some 3 := by decide +kernel
theorem hd_X11_houses_v : yX11_houses.cls = RX11 ∧ yX11_houses.cls ≠ "java/lang/invoke/MethodHandle" ∧ yX11_houses.cls ≠ "java/lang/invoke/VarHandle" ∧ (parseMethodDescriptor yX11_houses.desc).map (fun d => d.parameters.length) = some 1 := by decide +kernel
theorem hd_X11_shared_v : yX11_shared.cls = RX11 ∧ yX11_shared.cls ≠ "java/lang/invoke/MethodHandle" ∧ yX11_shared.cls ≠ "java/lang/invoke/VarHandle" ∧ (parseMethodDescriptor yX11_shared.desc).map (fun d => d.parameters.length) = some 4 := by decide +kernel
theorem hd_X12_bill_v : yX12_bill.cls = RX12 ∧ yX12_bill.cls ≠ "java/lang/invoke/MethodHandle" ∧ yX12_bill.cls ≠ "java/lang/invoke/VarHandle" ∧ (parseMethodDescriptor yX12_bill.desc).map (fun d => d.parameters.length) = some 2 := by decide +kernel
theorem hd_X12_certify_v : yX12_certify.cls = RX12 ∧ yX12_certify.cls ≠ "java/lang/invoke/MethodHandle" ∧ yX12_certify.cls ≠ "java/lang/invoke/VarHandle" ∧ (parseMethodDescriptor yX12_certify.desc).map (fun d => d.parameters.length) = some 1 := by decide +kernel
theorem hd_X12_cut_v : yX12_cut.cls = RX12 ∧ yX12_cut.cls ≠ "java/lang/invoke/MethodHandle" ∧ yX12_cut.cls ≠ "java/lang/invoke/VarHandle" ∧ (parseMethodDescriptor yX12_cut.desc).map (fun d => d.parameters.length) = some 3 := by decide +kernel
theorem hd_X12_houses_v : yX12_houses.cls = RX12 ∧ yX12_houses.cls ≠ "java/lang/invoke/MethodHandle" ∧ yX12_houses.cls ≠ "java/lang/invoke/VarHandle" ∧ (parseMethodDescriptor yX12_houses.desc).map (fun d => d.parameters.length) = some 1 := by decide +kernel
theorem hd_X12_shared_v : yX12_shared.cls = RX12 ∧ yX12_shared.cls ≠ "java/lang/invoke/MethodHandle" ∧ yX12_shared.cls ≠ "java/lang/invoke/VarHandle" ∧ (parseMethodDescriptor yX12_shared.desc).map (fun d => d.parameters.length) = some 4 := by decide +kernel
theorem dL_law_1244 : decode cL_law 1244 = .ok (.aload_n 1, 1) := dk_43 (w_at wL_51 20 (p := 1244) rfl rfl rfl)
theorem dL_law_1245 : decode cL_law 1245 = .ok (.aload_n 0, 1) := dk_42 (w_at wL_51 21 (p := 1245) rfl rfl rfl)
theorem dL_law_1246 : decode cL_law 1246 = .ok (.iload_n 3, 1) := dk_29 (w_at wL_51 22 (p := 1246) rfl rfl rfl)
theorem dL_law_1247 : decode cL_law 1247 = .ok (.iconst 1, 1) := dk_4 (w_at wL_51 23 (p := 1247) rfl rfl rfl)
set_option maxRecDepth 100000 in
theorem wL_52 : Win cL_law 1248 [96, 46, 42, 29, 5, 96, 46, 42, 29, 6, 96, 46, 42, 29, 7, 96, 46, 182, 0, 144, 87, 44, 42, 29, 4, 96, 46, 42] := Win_sub (o := 1200) (o2 := 48) (n := 28) WL_5 (by decide +kernel)
theorem dL_law_1248 : decode cL_law 1248 = .ok (.iadd, 1) := dk_96 (w_at wL_52 0 (p := 1248) rfl rfl rfl)
theorem dL_law_1249 : decode cL_law 1249 = .ok (.iaload, 1) := dk_46 (w_at wL_52 1 (p := 1249) rfl rfl rfl)
theorem dL_law_1250 : decode cL_law 1250 = .ok (.aload_n 0, 1) := dk_42 (w_at wL_52 2 (p := 1250) rfl rfl rfl)
theorem dL_law_1251 : decode cL_law 1251 = .ok (.iload_n 3, 1) := dk_29 (w_at wL_52 3 (p := 1251) rfl rfl rfl)
theorem dL_law_1252 : decode cL_law 1252 = .ok (.iconst 2, 1) := dk_5 (w_at wL_52 4 (p := 1252) rfl rfl rfl)
theorem dL_law_1253 : decode cL_law 1253 = .ok (.iadd, 1) := dk_96 (w_at wL_52 5 (p := 1253) rfl rfl rfl)
theorem dL_law_1254 : decode cL_law 1254 = .ok (.iaload, 1) := dk_46 (w_at wL_52 6 (p := 1254) rfl rfl rfl)
theorem dL_law_1255 : decode cL_law 1255 = .ok (.aload_n 0, 1) := dk_42 (w_at wL_52 7 (p := 1255) rfl rfl rfl)
theorem dL_law_1256 : decode cL_law 1256 = .ok (.iload_n 3, 1) := dk_29 (w_at wL_52 8 (p := 1256) rfl rfl rfl)
theorem dL_law_1257 : decode cL_law 1257 = .ok (.iconst 3, 1) := dk_6 (w_at wL_52 9 (p := 1257) rfl rfl rfl)
theorem dL_law_1258 : decode cL_law 1258 = .ok (.iadd, 1) := dk_96 (w_at wL_52 10 (p := 1258) rfl rfl rfl)
theorem dL_law_1259 : decode cL_law 1259 = .ok (.iaload, 1) := dk_46 (w_at wL_52 11 (p := 1259) rfl rfl rfl)
theorem dL_law_1260 : decode cL_law 1260 = .ok (.aload_n 0, 1) := dk_42 (w_at wL_52 12 (p := 1260) rfl rfl rfl)
theorem dL_law_1261 : decode cL_law 1261 = .ok (.iload_n 3, 1) := dk_29 (w_at wL_52 13 (p := 1261) rfl rfl rfl)
theorem dL_law_1262 : decode cL_law 1262 = .ok (.iconst 4, 1) := dk_7 (w_at wL_52 14 (p := 1262) rfl rfl rfl)
theorem dL_law_1263 : decode cL_law 1263 = .ok (.iadd, 1) := dk_96 (w_at wL_52 15 (p := 1263) rfl rfl rfl)
theorem dL_law_1264 : decode cL_law 1264 = .ok (.iaload, 1) := dk_46 (w_at wL_52 16 (p := 1264) rfl rfl rfl)
theorem dL_law_1265 : decode cL_law 1265 = .ok (.invokevirtual 144, 3) := dk_iv (w_at wL_52 17 (p := 1265) rfl rfl rfl) (w_at wL_52 18 (p := 1266) rfl rfl rfl) (w_at wL_52 19 (p := 1267) rfl rfl rfl) rfl
theorem dL_law_1268 : decode cL_law 1268 = .ok (.pop, 1) := dk_87 (w_at wL_52 20 (p := 1268) rfl rfl rfl)
theorem dL_law_1269 : decode cL_law 1269 = .ok (.aload_n 2, 1) := dk_44 (w_at wL_52 21 (p := 1269) rfl rfl rfl)
theorem dL_law_1270 : decode cL_law 1270 = .ok (.aload_n 0, 1) := dk_42 (w_at wL_52 22 (p := 1270) rfl rfl rfl)
theorem dL_law_1271 : decode cL_law 1271 = .ok (.iload_n 3, 1) := dk_29 (w_at wL_52 23 (p := 1271) rfl rfl rfl)
set_option maxRecDepth 100000 in
theorem wL_53 : Win cL_law 1272 [4, 96, 46, 42, 29, 5, 96, 46, 42, 29, 6, 96, 46, 42, 29, 7, 96, 46, 182, 0, 147, 87, 167, 0, 215, 43, 42, 29] := Win_sub (o := 1200) (o2 := 72) (n := 28) WL_5 (by decide +kernel)
theorem dL_law_1272 : decode cL_law 1272 = .ok (.iconst 1, 1) := dk_4 (w_at wL_53 0 (p := 1272) rfl rfl rfl)
theorem dL_law_1273 : decode cL_law 1273 = .ok (.iadd, 1) := dk_96 (w_at wL_53 1 (p := 1273) rfl rfl rfl)
theorem dL_law_1274 : decode cL_law 1274 = .ok (.iaload, 1) := dk_46 (w_at wL_53 2 (p := 1274) rfl rfl rfl)
theorem dL_law_1275 : decode cL_law 1275 = .ok (.aload_n 0, 1) := dk_42 (w_at wL_53 3 (p := 1275) rfl rfl rfl)
theorem dL_law_1276 : decode cL_law 1276 = .ok (.iload_n 3, 1) := dk_29 (w_at wL_53 4 (p := 1276) rfl rfl rfl)
theorem dL_law_1277 : decode cL_law 1277 = .ok (.iconst 2, 1) := dk_5 (w_at wL_53 5 (p := 1277) rfl rfl rfl)
theorem dL_law_1278 : decode cL_law 1278 = .ok (.iadd, 1) := dk_96 (w_at wL_53 6 (p := 1278) rfl rfl rfl)
theorem dL_law_1279 : decode cL_law 1279 = .ok (.iaload, 1) := dk_46 (w_at wL_53 7 (p := 1279) rfl rfl rfl)
theorem dL_law_1280 : decode cL_law 1280 = .ok (.aload_n 0, 1) := dk_42 (w_at wL_53 8 (p := 1280) rfl rfl rfl)
theorem dL_law_1281 : decode cL_law 1281 = .ok (.iload_n 3, 1) := dk_29 (w_at wL_53 9 (p := 1281) rfl rfl rfl)
theorem dL_law_1282 : decode cL_law 1282 = .ok (.iconst 3, 1) := dk_6 (w_at wL_53 10 (p := 1282) rfl rfl rfl)
theorem dL_law_1283 : decode cL_law 1283 = .ok (.iadd, 1) := dk_96 (w_at wL_53 11 (p := 1283) rfl rfl rfl)
theorem dL_law_1284 : decode cL_law 1284 = .ok (.iaload, 1) := dk_46 (w_at wL_53 12 (p := 1284) rfl rfl rfl)
theorem dL_law_1285 : decode cL_law 1285 = .ok (.aload_n 0, 1) := dk_42 (w_at wL_53 13 (p := 1285) rfl rfl rfl)
theorem dL_law_1286 : decode cL_law 1286 = .ok (.iload_n 3, 1) := dk_29 (w_at wL_53 14 (p := 1286) rfl rfl rfl)
theorem dL_law_1287 : decode cL_law 1287 = .ok (.iconst 4, 1) := dk_7 (w_at wL_53 15 (p := 1287) rfl rfl rfl)
theorem dL_law_1288 : decode cL_law 1288 = .ok (.iadd, 1) := dk_96 (w_at wL_53 16 (p := 1288) rfl rfl rfl)
theorem dL_law_1289 : decode cL_law 1289 = .ok (.iaload, 1) := dk_46 (w_at wL_53 17 (p := 1289) rfl rfl rfl)
theorem dL_law_1290 : decode cL_law 1290 = .ok (.invokevirtual 147, 3) := dk_iv (w_at wL_53 18 (p := 1290) rfl rfl rfl) (w_at wL_53 19 (p := 1291) rfl rfl rfl) (w_at wL_53 20 (p := 1292) rfl rfl rfl) rfl
theorem dL_law_1293 : decode cL_law 1293 = .ok (.pop, 1) := dk_87 (w_at wL_53 21 (p := 1293) rfl rfl rfl)
set_option maxRecDepth 100000 in
theorem wL_54 : Win cL_law 1296 [215, 43, 42, 29, 4, 96, 46, 182, 0, 148, 87, 44, 42, 29, 4, 96, 46, 182, 0, 151, 87, 167, 0, 192, 43, 42, 29, 4] := Win_sub (o := 1200) (o2 := 96) (n := 28) WL_5 (by decide +kernel)
theorem dL_law_1297 : decode cL_law 1297 = .ok (.aload_n 1, 1) := dk_43 (w_at wL_54 1 (p := 1297) rfl rfl rfl)
theorem dL_law_1298 : decode cL_law 1298 = .ok (.aload_n 0, 1) := dk_42 (w_at wL_54 2 (p := 1298) rfl rfl rfl)
theorem dL_law_1299 : decode cL_law 1299 = .ok (.iload_n 3, 1) := dk_29 (w_at wL_54 3 (p := 1299) rfl rfl rfl)
theorem dL_law_1300 : decode cL_law 1300 = .ok (.iconst 1, 1) := dk_4 (w_at wL_54 4 (p := 1300) rfl rfl rfl)
theorem dL_law_1301 : decode cL_law 1301 = .ok (.iadd, 1) := dk_96 (w_at wL_54 5 (p := 1301) rfl rfl rfl)
theorem dL_law_1302 : decode cL_law 1302 = .ok (.iaload, 1) := dk_46 (w_at wL_54 6 (p := 1302) rfl rfl rfl)
theorem dL_law_1303 : decode cL_law 1303 = .ok (.invokevirtual 148, 3) := dk_iv (w_at wL_54 7 (p := 1303) rfl rfl rfl) (w_at wL_54 8 (p := 1304) rfl rfl rfl) (w_at wL_54 9 (p := 1305) rfl rfl rfl) rfl
theorem dL_law_1306 : decode cL_law 1306 = .ok (.pop, 1) := dk_87 (w_at wL_54 10 (p := 1306) rfl rfl rfl)
theorem dL_law_1307 : decode cL_law 1307 = .ok (.aload_n 2, 1) := dk_44 (w_at wL_54 11 (p := 1307) rfl rfl rfl)
theorem dL_law_1308 : decode cL_law 1308 = .ok (.aload_n 0, 1) := dk_42 (w_at wL_54 12 (p := 1308) rfl rfl rfl)
theorem dL_law_1309 : decode cL_law 1309 = .ok (.iload_n 3, 1) := dk_29 (w_at wL_54 13 (p := 1309) rfl rfl rfl)
theorem dL_law_1310 : decode cL_law 1310 = .ok (.iconst 1, 1) := dk_4 (w_at wL_54 14 (p := 1310) rfl rfl rfl)
theorem dL_law_1311 : decode cL_law 1311 = .ok (.iadd, 1) := dk_96 (w_at wL_54 15 (p := 1311) rfl rfl rfl)
theorem dL_law_1312 : decode cL_law 1312 = .ok (.iaload, 1) := dk_46 (w_at wL_54 16 (p := 1312) rfl rfl rfl)
theorem dL_law_1313 : decode cL_law 1313 = .ok (.invokevirtual 151, 3) := dk_iv (w_at wL_54 17 (p := 1313) rfl rfl rfl) (w_at wL_54 18 (p := 1314) rfl rfl rfl) (w_at wL_54 19 (p := 1315) rfl rfl rfl) rfl
theorem dL_law_1316 : decode cL_law 1316 = .ok (.pop, 1) := dk_87 (w_at wL_54 20 (p := 1316) rfl rfl rfl)
set_option maxRecDepth 100000 in
theorem wL_55 : Win cL_law 1320 [43, 42, 29, 4, 96, 46, 182, 0, 152, 87, 44, 42, 29, 4, 96, 46, 182, 0, 155, 87, 167, 0, 169, 43, 42, 29, 4, 96] := Win_sub (o := 1200) (o2 := 120) (n := 28) WL_5 (by decide +kernel)
theorem dL_law_1320 : decode cL_law 1320 = .ok (.aload_n 1, 1) := dk_43 (w_at wL_55 0 (p := 1320) rfl rfl rfl)
theorem dL_law_1321 : decode cL_law 1321 = .ok (.aload_n 0, 1) := dk_42 (w_at wL_55 1 (p := 1321) rfl rfl rfl)
theorem dL_law_1322 : decode cL_law 1322 = .ok (.iload_n 3, 1) := dk_29 (w_at wL_55 2 (p := 1322) rfl rfl rfl)
theorem dL_law_1323 : decode cL_law 1323 = .ok (.iconst 1, 1) := dk_4 (w_at wL_55 3 (p := 1323) rfl rfl rfl)
theorem dL_law_1324 : decode cL_law 1324 = .ok (.iadd, 1) := dk_96 (w_at wL_55 4 (p := 1324) rfl rfl rfl)
theorem dL_law_1325 : decode cL_law 1325 = .ok (.iaload, 1) := dk_46 (w_at wL_55 5 (p := 1325) rfl rfl rfl)
theorem dL_law_1326 : decode cL_law 1326 = .ok (.invokevirtual 152, 3) := dk_iv (w_at wL_55 6 (p := 1326) rfl rfl rfl) (w_at wL_55 7 (p := 1327) rfl rfl rfl) (w_at wL_55 8 (p := 1328) rfl rfl rfl) rfl
theorem dL_law_1329 : decode cL_law 1329 = .ok (.pop, 1) := dk_87 (w_at wL_55 9 (p := 1329) rfl rfl rfl)
theorem dL_law_1330 : decode cL_law 1330 = .ok (.aload_n 2, 1) := dk_44 (w_at wL_55 10 (p := 1330) rfl rfl rfl)
theorem dL_law_1331 : decode cL_law 1331 = .ok (.aload_n 0, 1) := dk_42 (w_at wL_55 11 (p := 1331) rfl rfl rfl)
theorem dL_law_1332 : decode cL_law 1332 = .ok (.iload_n 3, 1) := dk_29 (w_at wL_55 12 (p := 1332) rfl rfl rfl)
theorem dL_law_1333 : decode cL_law 1333 = .ok (.iconst 1, 1) := dk_4 (w_at wL_55 13 (p := 1333) rfl rfl rfl)
theorem dL_law_1334 : decode cL_law 1334 = .ok (.iadd, 1) := dk_96 (w_at wL_55 14 (p := 1334) rfl rfl rfl)
theorem dL_law_1335 : decode cL_law 1335 = .ok (.iaload, 1) := dk_46 (w_at wL_55 15 (p := 1335) rfl rfl rfl)
theorem dL_law_1336 : decode cL_law 1336 = .ok (.invokevirtual 155, 3) := dk_iv (w_at wL_55 16 (p := 1336) rfl rfl rfl) (w_at wL_55 17 (p := 1337) rfl rfl rfl) (w_at wL_55 18 (p := 1338) rfl rfl rfl) rfl
theorem dL_law_1339 : decode cL_law 1339 = .ok (.pop, 1) := dk_87 (w_at wL_55 19 (p := 1339) rfl rfl rfl)
theorem dL_law_1343 : decode cL_law 1343 = .ok (.aload_n 1, 1) := dk_43 (w_at wL_55 23 (p := 1343) rfl rfl rfl)
set_option maxRecDepth 100000 in
theorem wL_56 : Win cL_law 1344 [42, 29, 4, 96, 46, 42, 29, 5, 96, 46, 182, 0, 156, 87, 44, 42, 29, 4, 96, 46, 42, 29, 5, 96, 46, 182, 0, 159] := Win_sub (o := 1200) (o2 := 144) (n := 28) WL_5 (by decide +kernel)
theorem dL_law_1344 : decode cL_law 1344 = .ok (.aload_n 0, 1) := dk_42 (w_at wL_56 0 (p := 1344) rfl rfl rfl)
theorem dL_law_1345 : decode cL_law 1345 = .ok (.iload_n 3, 1) := dk_29 (w_at wL_56 1 (p := 1345) rfl rfl rfl)
theorem dL_law_1346 : decode cL_law 1346 = .ok (.iconst 1, 1) := dk_4 (w_at wL_56 2 (p := 1346) rfl rfl rfl)
theorem dL_law_1347 : decode cL_law 1347 = .ok (.iadd, 1) := dk_96 (w_at wL_56 3 (p := 1347) rfl rfl rfl)
theorem dL_law_1348 : decode cL_law 1348 = .ok (.iaload, 1) := dk_46 (w_at wL_56 4 (p := 1348) rfl rfl rfl)
theorem dL_law_1349 : decode cL_law 1349 = .ok (.aload_n 0, 1) := dk_42 (w_at wL_56 5 (p := 1349) rfl rfl rfl)
theorem dL_law_1350 : decode cL_law 1350 = .ok (.iload_n 3, 1) := dk_29 (w_at wL_56 6 (p := 1350) rfl rfl rfl)
theorem dL_law_1351 : decode cL_law 1351 = .ok (.iconst 2, 1) := dk_5 (w_at wL_56 7 (p := 1351) rfl rfl rfl)
theorem dL_law_1352 : decode cL_law 1352 = .ok (.iadd, 1) := dk_96 (w_at wL_56 8 (p := 1352) rfl rfl rfl)
theorem dL_law_1353 : decode cL_law 1353 = .ok (.iaload, 1) := dk_46 (w_at wL_56 9 (p := 1353) rfl rfl rfl)
theorem dL_law_1354 : decode cL_law 1354 = .ok (.invokevirtual 156, 3) := dk_iv (w_at wL_56 10 (p := 1354) rfl rfl rfl) (w_at wL_56 11 (p := 1355) rfl rfl rfl) (w_at wL_56 12 (p := 1356) rfl rfl rfl) rfl
theorem dL_law_1357 : decode cL_law 1357 = .ok (.pop, 1) := dk_87 (w_at wL_56 13 (p := 1357) rfl rfl rfl)
theorem dL_law_1358 : decode cL_law 1358 = .ok (.aload_n 2, 1) := dk_44 (w_at wL_56 14 (p := 1358) rfl rfl rfl)
theorem dL_law_1359 : decode cL_law 1359 = .ok (.aload_n 0, 1) := dk_42 (w_at wL_56 15 (p := 1359) rfl rfl rfl)
theorem dL_law_1360 : decode cL_law 1360 = .ok (.iload_n 3, 1) := dk_29 (w_at wL_56 16 (p := 1360) rfl rfl rfl)
theorem dL_law_1361 : decode cL_law 1361 = .ok (.iconst 1, 1) := dk_4 (w_at wL_56 17 (p := 1361) rfl rfl rfl)
theorem dL_law_1362 : decode cL_law 1362 = .ok (.iadd, 1) := dk_96 (w_at wL_56 18 (p := 1362) rfl rfl rfl)
theorem dL_law_1363 : decode cL_law 1363 = .ok (.iaload, 1) := dk_46 (w_at wL_56 19 (p := 1363) rfl rfl rfl)
theorem dL_law_1364 : decode cL_law 1364 = .ok (.aload_n 0, 1) := dk_42 (w_at wL_56 20 (p := 1364) rfl rfl rfl)
theorem dL_law_1365 : decode cL_law 1365 = .ok (.iload_n 3, 1) := dk_29 (w_at wL_56 21 (p := 1365) rfl rfl rfl)
theorem dL_law_1366 : decode cL_law 1366 = .ok (.iconst 2, 1) := dk_5 (w_at wL_56 22 (p := 1366) rfl rfl rfl)
theorem dL_law_1367 : decode cL_law 1367 = .ok (.iadd, 1) := dk_96 (w_at wL_56 23 (p := 1367) rfl rfl rfl)
set_option maxRecDepth 100000 in
theorem wL_57 : Win cL_law 1368 [46, 182, 0, 159, 87, 167, 0, 136, 43, 42, 29, 4, 96, 46, 42, 29, 5, 96, 46, 42, 29, 6, 96, 46, 182, 0, 160, 87] := Win_sub (o := 1200) (o2 := 168) (n := 28) WL_5 (by decide +kernel)
theorem dL_law_1368 : decode cL_law 1368 = .ok (.iaload, 1) := dk_46 (w_at wL_57 0 (p := 1368) rfl rfl rfl)
theorem dL_law_1369 : decode cL_law 1369 = .ok (.invokevirtual 159, 3) := dk_iv (w_at wL_57 1 (p := 1369) rfl rfl rfl) (w_at wL_57 2 (p := 1370) rfl rfl rfl) (w_at wL_57 3 (p := 1371) rfl rfl rfl) rfl
theorem dL_law_1372 : decode cL_law 1372 = .ok (.pop, 1) := dk_87 (w_at wL_57 4 (p := 1372) rfl rfl rfl)
theorem dL_law_1376 : decode cL_law 1376 = .ok (.aload_n 1, 1) := dk_43 (w_at wL_57 8 (p := 1376) rfl rfl rfl)
theorem dL_law_1377 : decode cL_law 1377 = .ok (.aload_n 0, 1) := dk_42 (w_at wL_57 9 (p := 1377) rfl rfl rfl)
theorem dL_law_1378 : decode cL_law 1378 = .ok (.iload_n 3, 1) := dk_29 (w_at wL_57 10 (p := 1378) rfl rfl rfl)
theorem dL_law_1379 : decode cL_law 1379 = .ok (.iconst 1, 1) := dk_4 (w_at wL_57 11 (p := 1379) rfl rfl rfl)
theorem dL_law_1380 : decode cL_law 1380 = .ok (.iadd, 1) := dk_96 (w_at wL_57 12 (p := 1380) rfl rfl rfl)
theorem dL_law_1381 : decode cL_law 1381 = .ok (.iaload, 1) := dk_46 (w_at wL_57 13 (p := 1381) rfl rfl rfl)
theorem dL_law_1382 : decode cL_law 1382 = .ok (.aload_n 0, 1) := dk_42 (w_at wL_57 14 (p := 1382) rfl rfl rfl)
theorem dL_law_1383 : decode cL_law 1383 = .ok (.iload_n 3, 1) := dk_29 (w_at wL_57 15 (p := 1383) rfl rfl rfl)
theorem dL_law_1384 : decode cL_law 1384 = .ok (.iconst 2, 1) := dk_5 (w_at wL_57 16 (p := 1384) rfl rfl rfl)
theorem dL_law_1385 : decode cL_law 1385 = .ok (.iadd, 1) := dk_96 (w_at wL_57 17 (p := 1385) rfl rfl rfl)
theorem dL_law_1386 : decode cL_law 1386 = .ok (.iaload, 1) := dk_46 (w_at wL_57 18 (p := 1386) rfl rfl rfl)
theorem dL_law_1387 : decode cL_law 1387 = .ok (.aload_n 0, 1) := dk_42 (w_at wL_57 19 (p := 1387) rfl rfl rfl)
theorem dL_law_1388 : decode cL_law 1388 = .ok (.iload_n 3, 1) := dk_29 (w_at wL_57 20 (p := 1388) rfl rfl rfl)
theorem dL_law_1389 : decode cL_law 1389 = .ok (.iconst 3, 1) := dk_6 (w_at wL_57 21 (p := 1389) rfl rfl rfl)
theorem dL_law_1390 : decode cL_law 1390 = .ok (.iadd, 1) := dk_96 (w_at wL_57 22 (p := 1390) rfl rfl rfl)
theorem dL_law_1391 : decode cL_law 1391 = .ok (.iaload, 1) := dk_46 (w_at wL_57 23 (p := 1391) rfl rfl rfl)
set_option maxRecDepth 100000 in
theorem wL_58 : Win cL_law 1392 [182, 0, 160, 87, 44, 42, 29, 4, 96, 46, 42, 29, 5, 96, 46, 42, 29, 6, 96, 46, 182, 0, 163, 87, 167, 0, 93, 43] := Win_sub (o := 1200) (o2 := 192) (n := 28) WL_5 (by decide +kernel)
theorem dL_law_1392 : decode cL_law 1392 = .ok (.invokevirtual 160, 3) := dk_iv (w_at wL_58 0 (p := 1392) rfl rfl rfl) (w_at wL_58 1 (p := 1393) rfl rfl rfl) (w_at wL_58 2 (p := 1394) rfl rfl rfl) rfl
theorem dL_law_1395 : decode cL_law 1395 = .ok (.pop, 1) := dk_87 (w_at wL_58 3 (p := 1395) rfl rfl rfl)
theorem dL_law_1396 : decode cL_law 1396 = .ok (.aload_n 2, 1) := dk_44 (w_at wL_58 4 (p := 1396) rfl rfl rfl)
theorem dL_law_1397 : decode cL_law 1397 = .ok (.aload_n 0, 1) := dk_42 (w_at wL_58 5 (p := 1397) rfl rfl rfl)
theorem dL_law_1398 : decode cL_law 1398 = .ok (.iload_n 3, 1) := dk_29 (w_at wL_58 6 (p := 1398) rfl rfl rfl)
theorem dL_law_1399 : decode cL_law 1399 = .ok (.iconst 1, 1) := dk_4 (w_at wL_58 7 (p := 1399) rfl rfl rfl)
theorem dL_law_1400 : decode cL_law 1400 = .ok (.iadd, 1) := dk_96 (w_at wL_58 8 (p := 1400) rfl rfl rfl)
theorem dL_law_1401 : decode cL_law 1401 = .ok (.iaload, 1) := dk_46 (w_at wL_58 9 (p := 1401) rfl rfl rfl)
theorem dL_law_1402 : decode cL_law 1402 = .ok (.aload_n 0, 1) := dk_42 (w_at wL_58 10 (p := 1402) rfl rfl rfl)
theorem dL_law_1403 : decode cL_law 1403 = .ok (.iload_n 3, 1) := dk_29 (w_at wL_58 11 (p := 1403) rfl rfl rfl)
theorem dL_law_1404 : decode cL_law 1404 = .ok (.iconst 2, 1) := dk_5 (w_at wL_58 12 (p := 1404) rfl rfl rfl)
theorem dL_law_1405 : decode cL_law 1405 = .ok (.iadd, 1) := dk_96 (w_at wL_58 13 (p := 1405) rfl rfl rfl)
theorem dL_law_1406 : decode cL_law 1406 = .ok (.iaload, 1) := dk_46 (w_at wL_58 14 (p := 1406) rfl rfl rfl)
theorem dL_law_1407 : decode cL_law 1407 = .ok (.aload_n 0, 1) := dk_42 (w_at wL_58 15 (p := 1407) rfl rfl rfl)
theorem dL_law_1408 : decode cL_law 1408 = .ok (.iload_n 3, 1) := dk_29 (w_at wL_58 16 (p := 1408) rfl rfl rfl)
theorem dL_law_1409 : decode cL_law 1409 = .ok (.iconst 3, 1) := dk_6 (w_at wL_58 17 (p := 1409) rfl rfl rfl)
theorem dL_law_1410 : decode cL_law 1410 = .ok (.iadd, 1) := dk_96 (w_at wL_58 18 (p := 1410) rfl rfl rfl)
theorem dL_law_1411 : decode cL_law 1411 = .ok (.iaload, 1) := dk_46 (w_at wL_58 19 (p := 1411) rfl rfl rfl)
theorem dL_law_1412 : decode cL_law 1412 = .ok (.invokevirtual 163, 3) := dk_iv (w_at wL_58 20 (p := 1412) rfl rfl rfl) (w_at wL_58 21 (p := 1413) rfl rfl rfl) (w_at wL_58 22 (p := 1414) rfl rfl rfl) rfl
theorem dL_law_1415 : decode cL_law 1415 = .ok (.pop, 1) := dk_87 (w_at wL_58 23 (p := 1415) rfl rfl rfl)
set_option maxRecDepth 100000 in
theorem dvL_law_1294 : ([(1294, .goto 215, 3), (1317, .goto 192, 3), (1340, .goto 169, 3), (1373, .goto 136, 3), (1416, .goto 93, 3)] : List (Nat × Instr × Nat)).all (fun q => decide (decode cL_law q.1 = .ok (q.2.1, q.2.2))) = true := by decide +kernel
theorem dL_law_1294 : decode cL_law 1294 = .ok (.goto 215, 3) := all_at dvL_law_1294 0 rfl
theorem dL_law_1317 : decode cL_law 1317 = .ok (.goto 192, 3) := all_at dvL_law_1294 1 rfl
theorem dL_law_1340 : decode cL_law 1340 = .ok (.goto 169, 3) := all_at dvL_law_1294 2 rfl
theorem dL_law_1373 : decode cL_law 1373 = .ok (.goto 136, 3) := all_at dvL_law_1294 3 rfl
theorem dL_law_1416 : decode cL_law 1416 = .ok (.goto 93, 3) := all_at dvL_law_1294 4 rfl
set_option maxHeartbeats 4000000 in
set_option maxRecDepth 100000 in
theorem law_30 {p : Program} {e : Env} {s : State} {m : MethodId} {below : List Frame} {meth : Method} {c : Code} (l : Launch) {b L : Nat} {xs : Nat → Int32} (hL : L ≤ 4096) (C0 : lw_At p s m meth c b L xs) {dC : Nat → ClassId} {dI : Nat → Nat → Nat} {A : Nat → Prop} (hA : ∀ q : Nat, s.heap.size ≤ q → A q) (hbA : ¬ A b) (hAs : ∀ q : Nat, A q → s.heap.size ≤ q) {x y : Nat} {gx gy : Nat → Nat → Nat} {cax cay : Nat → Nat → ClassId} {ak av : Nat → Nat} (hKx : va_K (dC, dI) classes (TX cax) s) (hKy : va_K (dC, dI) classes (TM cay) s) (hXY : ∀ a ∈ AdX x gx, ∀ b ∈ AdM y gy, a ≠ b) (hZ : zC ak av A s s.heap) {H : Heap} {locs : List Loc} {ivx : Nat → Nat → Int32} {lvx : Nat → Nat → Int64} {fax : Nat → Nat → Nat → Int32} {lax : Nat → Nat → Nat → Int64} {ivy : Nat → Nat → Int32} {lvy : Nat → Nat → Int64} {fay : Nat → Nat → Nat → Int32} {lay : Nat → Nat → Nat → Int64} (hIx : IX ivx fax) (hIy : IX ivy fay) (hJC : JCf (ivy 12 23).toInt (fay 12 25) (fay 12 26) (fay 12 27) (fay 12 28)) (hJR : JRf (ivy 12 3).toInt (fay 12 7)) (hJN : JNf (ivy 12 3).toInt (fay 12 4) (fay 12 5)) (hJO : ((ivy 12 20).toInt = -1 ∧ (ivy 12 21).toInt = -1 ∧ (ivy 12 22).toInt = -1)) (hq_now : ivx 11 10 = ivy 12 0) (hq_bales : ivx 0 7 = ivy 12 1) (hq_skeins : ivx 10 1 = ivy 12 3) (hq_rules : ivx 1 7 = ivy 12 23) (hq_text : ivx 8 2 = ivy 12 33) (hq_place : ivx 8 3 = ivy 12 36) (hq_papers : ivx 6 7 = ivy 12 67) (hrs : (∀ s : Nat, (s : Int) < (ivy 12 3).toInt → fax 10 0 (9 * s + 0) = fay 12 4 s ∧ fax 10 0 (9 * s + 1) = fay 12 5 s ∧ fax 10 0 (9 * s + 2) = fay 12 6 s ∧ fax 10 0 (9 * s + 3) = fay 12 7 s ∧ fax 10 0 (9 * s + 4) = fay 12 8 s ∧ fax 10 0 (9 * s + 5) = fay 12 9 s ∧ fax 10 0 (9 * s + 6) = fay 12 10 s ∧ fax 10 0 (9 * s + 7) = fay 12 11 s ∧ fax 10 0 (9 * s + 8) = fay 12 12 s)) (hls : (∀ j : Nat, -1 ≤ (fay 12 12 j).toInt)) (hwd : (∀ s : Nat, (s : Int) < (ivy 12 3).toInt → (100 ≤ (fay 12 7 s).toInt ∧ (fay 12 7 s).toInt ≤ 9999) ∧ (50 ≤ (fay 12 8 s).toInt ∧ (fay 12 8 s).toInt ≤ 9999))) (htx : (∀ j : Nat, (fax 8 1 j).toInt = sg (fay 12 32 j).toInt ∧ 0 ≤ (fay 12 32 j).toInt)) (hbk : BkE (ivy 12 23).toInt (fax 1 0) (fax 1 1) (fax 1 2) (fax 1 3) (fax 1 4) (fax 1 5) (fay 12 24) (fay 12 25) (fay 12 26) (fay 12 27) (fay 12 28) (fay 12 29) (fay 12 30) (fay 12 31)) (hgr : (∀ j : Nat, fax 0 0 j = fay 12 2 j)) (hgb : (∀ j : Nat, (j : Int) < (ivx 0 7).toInt → 1 ≤ (fax 0 0 j).toInt ∧ (fax 0 0 j).toInt ≤ 99999)) (hpa : PaE (ivy 12 67).toInt (fax 6 0) (fax 6 1) (fax 6 2) (fax 6 3) (fax 6 4) (fax 6 5) (fay 12 68) (fay 12 69) (lay 12 70) (fay 12 71) (fay 12 72) (fay 12 73)) (hdr : (∀ s : Nat, (s : Int) < (ivy 12 3).toInt → (fay 12 8 s).toInt ≤ (fay 12 7 s).toInt)) (hPx : va_P (dC, dI) classes (WX x gx cax ivx lvx fax lax) H) (hDx : va_D A (WX x gx cax ivx lvx fax lax)) (hPy : va_P (dC, dI) classes (WM y gy cay ivy lvy fay lay) H) (hDy : va_D A (WM y gy cay ivy lvy fay lay)) (hS : va_S A s.heap H locs) {i : Int32} {ls : Array Slot} (hl : lv_has ls 4 [(3, .int i), (2, .ref y), (1, .ref x), (0, .ref b)]) (hi : 0 ≤ i.toInt ∧ i.toInt ≤ 4088) (hi8 : i.toInt + 8 ≤ (L : Int)) (kk : ∀ (H : Heap) (locs : List Loc) (ivx : Nat → Nat → Int32) (lvx : Nat → Nat → Int64) (fax : Nat → Nat → Nat → Int32) (lax : Nat → Nat → Nat → Int64) (ivy : Nat → Nat → Int32) (lvy : Nat → Nat → Int64) (fay : Nat → Nat → Nat → Int32) (lay : Nat → Nat → Nat → Int64), IX ivx fax → IX ivy fay → JCf (ivy 12 23).toInt (fay 12 25) (fay 12 26) (fay 12 27) (fay 12 28) → JRf (ivy 12 3).toInt (fay 12 7) → JNf (ivy 12 3).toInt (fay 12 4) (fay 12 5) → ((ivy 12 20).toInt = -1 ∧ (ivy 12 21).toInt = -1 ∧ (ivy 12 22).toInt = -1) → ivx 11 10 = ivy 12 0 → ivx 0 7 = ivy 12 1 → ivx 10 1 = ivy 12 3 → ivx 1 7 = ivy 12 23 → ivx 8 2 = ivy 12 33 → ivx 8 3 = ivy 12 36 → ivx 6 7 = ivy 12 67 → (∀ s : Nat, (s : Int) < (ivy 12 3).toInt → fax 10 0 (9 * s + 0) = fay 12 4 s ∧ fax 10 0 (9 * s + 1) = fay 12 5 s ∧ fax 10 0 (9 * s + 2) = fay 12 6 s ∧ fax 10 0 (9 * s + 3) = fay 12 7 s ∧ fax 10 0 (9 * s + 4) = fay 12 8 s ∧ fax 10 0 (9 * s + 5) = fay 12 9 s ∧ fax 10 0 (9 * s + 6) = fay 12 10 s ∧ fax 10 0 (9 * s + 7) = fay 12 11 s ∧ fax 10 0 (9 * s + 8) = fay 12 12 s) → (∀ j : Nat, -1 ≤ (fay 12 12 j).toInt) → (∀ s : Nat, (s : Int) < (ivy 12 3).toInt → (100 ≤ (fay 12 7 s).toInt ∧ (fay 12 7 s).toInt ≤ 9999) ∧ (50 ≤ (fay 12 8 s).toInt ∧ (fay 12 8 s).toInt ≤ 9999)) → (∀ j : Nat, (fax 8 1 j).toInt = sg (fay 12 32 j).toInt ∧ 0 ≤ (fay 12 32 j).toInt) → BkE (ivy 12 23).toInt (fax 1 0) (fax 1 1) (fax 1 2) (fax 1 3) (fax 1 4) (fax 1 5) (fay 12 24) (fay 12 25) (fay 12 26) (fay 12 27) (fay 12 28) (fay 12 29) (fay 12 30) (fay 12 31) → (∀ j : Nat, fax 0 0 j = fay 12 2 j) → (∀ j : Nat, (j : Int) < (ivx 0 7).toInt → 1 ≤ (fax 0 0 j).toInt ∧ (fax 0 0 j).toInt ≤ 99999) → PaE (ivy 12 67).toInt (fax 6 0) (fax 6 1) (fax 6 2) (fax 6 3) (fax 6 4) (fax 6 5) (fay 12 68) (fay 12 69) (lay 12 70) (fay 12 71) (fay 12 72) (fay 12 73) → (∀ s : Nat, (s : Int) < (ivy 12 3).toInt → (fay 12 8 s).toInt ≤ (fay 12 7 s).toInt) → va_P (dC, dI) classes (WX x gx cax ivx lvx fax lax) H → va_D A (WX x gx cax ivx lvx fax lax) → va_P (dC, dI) classes (WM y gy cay ivy lvy fay lay) H → va_D A (WM y gy cay ivy lvy fay lay) → va_S A s.heap H locs → W p l e room_1 s m #[Value.ref b] below meth c H locs 98 5431 (lw_Z below #[Value.ref b] s) (F0 m 1509 ls [])) : W p l e room_1 s m #[Value.ref b] below meth c H locs 98 5431 (lw_Z below #[Value.ref b] s) (F0 m 1244 ls []) := by
  obtain ⟨hx, hb, hr, hml, hown, hts, hX, hbl, hlocks, hgv⟩ := id C0
  have ht := tb_of hts
  have hJD := hwd
  have hw8 := congrArg Int32.toInt hq_skeins
  have hJW : ∀ s : Nat, (s : Int) < (ivx 10 1).toInt → (100 ≤ (fax 10 0 (9 * s + 3)).toInt ∧ (fax 10 0 (9 * s + 3)).toInt ≤ 9999) ∧ (50 ≤ (fax 10 0 (9 * s + 4)).toInt ∧ (fax 10 0 (9 * s + 4)).toInt ≤ 9999) := fun s hs => by rw [(hrs s (by omega)).2.2.2.1, (hrs s (by omega)).2.2.2.2.1]; exact hwd s (by omega)
  have hw8r := congrArg Int32.toInt hq_rules
  have hJB : ∀ j : Nat, (j : Int) < (ivx 1 7).toInt → 0 ≤ (fax 1 0 j).toInt := fun j hj => (hbk j (by omega)).2.2.1
  have hJK : ∀ k j : Nat, (k : Int) < (ivy 12 23).toInt → 12 * k ≤ j → (j : Int) < 12 * (k : Int) + (fay 12 25 k).toInt → (fay 12 26 j).toInt = 3 → 0 ≤ (fay 12 28 j).toInt ∧ (fay 12 28 j).toInt < (k : Int) := bk_K hbk
  have hw8b := congrArg Int32.toInt hq_bales
  have hJF : ∀ a d v : Int, 0 ≤ a → a ≤ 5 → FoX (ivx 1 7).toInt (fax 1 0) (fax 1 1) (fax 1 2) (fax 1 3) a d v → fLo a ≤ v ∧ v ≤ fHi a := fun a d v h1 h2 x => by rw [hq_rules] at x; exact FoX_b hbk ⟨h1, h2⟩ x
  have hJH : ∀ a d v : Int, 0 ≤ a → a ≤ 5 → FoY (ivy 12 23).toInt (fay 12 24) (fay 12 25) (fay 12 26) (fay 12 27) (fay 12 28) a d v → fLo a ≤ v ∧ v ≤ fHi a := fun a d v h1 h2 x => FoY_b hbk ⟨h1, h2⟩ x
  have hJG := hgb
  have hJI : ∀ j : Nat, (j : Int) < (ivy 12 1).toInt → 1 ≤ (fay 12 2 j).toInt ∧ (fay 12 2 j).toInt ≤ 99999 := fun j hj => by rw [← hgr j]; exact hgb j (by omega)
  have hJL : ∀ b l : Int32, cn0 (fun s => fax 10 0 (9 * s + 0)) (fun s => fax 10 0 (9 * s + 1)) b l (ivx 10 1).toInt.toNat ≤ 12 := fun b l => by rw [hq_skeins, cn0_congr (ob := fay 12 4) (ol := fay 12 5) _ (fun j hj => ⟨(hrs j (by omega)).1, (hrs j (by omega)).2.1⟩)]; exact hJN b l
  have hw8p := congrArg Int32.toInt hq_papers
  have hJQ : ∀ p : Nat, (p : Int) < (ivy 12 67).toInt → 0 ≤ (lay 12 70 p).toInt ∧ ((fay 12 68 p).toInt = 0 → (lay 12 70 p).toInt ≤ 129998) ∧ (lay 12 70 p).toInt ≤ 129868002 ∧ -1 ≤ (fay 12 71 p).toInt ∧ (fay 12 71 p).toInt < (p : Int) := fun p hp => ⟨(hpa p hp).2.2.1, (hpa p hp).2.2.2.1, (hpa p hp).2.2.2.2.1, (hpa p hp).2.2.2.2.2.1, (hpa p hp).2.2.2.2.2.2.1⟩
  have hJP : ∀ p : Nat, (p : Int) < (ivx 6 7).toInt → 0 ≤ (fax 6 2 p).toInt ∧ ((fax 6 0 p).toInt = 0 → (fax 6 2 p).toInt ≤ 129998) ∧ (fax 6 2 p).toInt ≤ 129868002 ∧ -1 ≤ (fax 6 3 p).toInt ∧ (fax 6 3 p).toInt < (p : Int) := fun p hp => by rw [(hpa p (by omega)).1.1, (hpa p (by omega)).1.2.2.1, (hpa p (by omega)).1.2.2.2.1]; exact hJQ p (by omega)
  have hJS : ∀ s : Nat, (s : Int) < (ivx 10 1).toInt → (fax 10 0 (9 * s + 4)).toInt ≤ (fax 10 0 (9 * s + 3)).toInt := fun s hs => by rw [(hrs s (by omega)).2.2.2.1, (hrs s (by omega)).2.2.2.2.1]; exact hdr s (by omega)
  have hJT : ∀ j : Nat, 0 ≤ (fay 12 32 j).toInt := fun j => (htx j).2
  refine lv_aload_n hx hb dL_law_1244 rfl (lv_at hl 2 rfl) ?_
  refine aw_iconst (v := 1) hx hb hX hbl hbA hS hl hi hi8 (by decide) ⟨by decide, by decide⟩ dL_law_1245 dL_law_1246 dL_law_1247 dL_law_1248 dL_law_1249 (fun v1 ev1 v2 ev2 => ?_)
  refine aw_iconst (v := 2) hx hb hX hbl hbA hS hl hi hi8 (by decide) ⟨by decide, by decide⟩ dL_law_1250 dL_law_1251 dL_law_1252 dL_law_1253 dL_law_1254 (fun v3 ev3 v4 ev4 => ?_)
  refine aw_iconst (v := 3) hx hb hX hbl hbA hS hl hi hi8 (by decide) ⟨by decide, by decide⟩ dL_law_1255 dL_law_1256 dL_law_1257 dL_law_1258 dL_law_1259 (fun v5 ev5 v6 ev6 => ?_)
  refine aw_iconst (v := 4) hx hb hX hbl hbA hS hl hi hi8 (by decide) ⟨by decide, by decide⟩ dL_law_1260 dL_law_1261 dL_law_1262 dL_law_1263 dL_law_1264 (fun v7 ev7 v8 ev8 => ?_)
  have hFc := free_all hDx hS hA
  refine va_calli (va_runV (As := [.int v2, .int v4, .int v6, .int v8]) (rest := []) ⟨hx, hb, hml, hown, ht⟩ (c_X11_shared l dC dI H.size x gx cax ivx lvx fax lax hIx v2 v4 v6 v8) (kV 4 ht m_1034 m_1035 m_1036 m_77 m_1037 rfl rfl hd_X11_shared_v ⟨Nat.le_of_ble_eq_true rfl, Nat.le_of_ble_eq_true rfl⟩) (vW hPx hKx hDx (rX_11 hKx hPx)) rfl rfl hl.1 rfl (lv_room (Nat.le_of_ble_eq_true rfl)) dL_law_1265 ⟨Nat.le_of_ble_eq_true rfl, Nat.le_of_ble_eq_true rfl⟩) hS (fun q _ h => hFc q h) hFc (fun r9 u t H1 locs ht9 hvm hr9 hB hz1 hk1 hS => ?_)
  obtain ⟨n10, n11, n12, hn12, hr9, rfl⟩ := hr9
  obtain ⟨hPx, hDx⟩ := hB
  rw [ht9] at hPx
  have hPy := P_kept hPy (la := AdM y gy) (lb := AdX x gx) wmM wmX (fun a ha b hb => (hXY b hb a ha).symm) hk1
  generalize H1 = H at hPx hPy hS ⊢
  have hPx : va_P (dC, dI) classes (WX x gx cax (u2 ivx 4 2 n12) lvx (u2 (u2 fax 4 0 n10) 4 1 n11) lax) H := hPx
  have hDx : va_D A (WX x gx cax (u2 ivx 4 2 n12) lvx (u2 (u2 fax 4 0 n10) 4 1 n11) lax) := (show va_D _ (WX x gx cax (u2 ivx 4 2 n12) lvx (u2 (u2 fax 4 0 n10) 4 1 n11) lax) from hDx).weaken (fun _ _ _ h => hFc _ h)
  refine lv_pop hx hb dL_law_1268 rfl ?_
  refine lv_aload_n hx hb dL_law_1269 rfl (lv_at hl 1 rfl) ?_
  refine aw_iconst (v := 1) hx hb hX hbl hbA hS hl hi hi8 (by decide) ⟨by decide, by decide⟩ dL_law_1270 dL_law_1271 dL_law_1272 dL_law_1273 dL_law_1274 (fun v13 ev13 v14 ev14 => ?_)
  refine aw_iconst (v := 2) hx hb hX hbl hbA hS hl hi hi8 (by decide) ⟨by decide, by decide⟩ dL_law_1275 dL_law_1276 dL_law_1277 dL_law_1278 dL_law_1279 (fun v15 ev15 v16 ev16 => ?_)
  refine aw_iconst (v := 3) hx hb hX hbl hbA hS hl hi hi8 (by decide) ⟨by decide, by decide⟩ dL_law_1280 dL_law_1281 dL_law_1282 dL_law_1283 dL_law_1284 (fun v17 ev17 v18 ev18 => ?_)
  refine aw_iconst (v := 4) hx hb hX hbl hbA hS hl hi hi8 (by decide) ⟨by decide, by decide⟩ dL_law_1285 dL_law_1286 dL_law_1287 dL_law_1288 dL_law_1289 (fun v19 ev19 v20 ev20 => ?_)
  have hFc := free_all hDy hS hA
  refine va_calli (va_runV (As := [.int v14, .int v16, .int v18, .int v20]) (rest := []) ⟨hx, hb, hml, hown, ht⟩ (c_X12_shared l dC dI H.size y gy cay ivy lvy fay lay hIy v14 v16 v18 v20) (kV 4 ht m_1660 m_1661 m_1662 m_89 m_1663 rfl rfl hd_X12_shared_v ⟨Nat.le_of_ble_eq_true rfl, Nat.le_of_ble_eq_true rfl⟩) (vW hPy hKy hDy (rM_12 hKy hPy)) rfl rfl hl.1 rfl (lv_room (Nat.le_of_ble_eq_true rfl)) dL_law_1290 ⟨Nat.le_of_ble_eq_true rfl, Nat.le_of_ble_eq_true rfl⟩) hS (fun q _ h => hFc q h) hFc (fun r21 u t H1 locs ht9 hvm hr21 hB hz1 hk1 hS => ?_)
  obtain ⟨n22, n23, n24, hn24, hr21, rfl⟩ := hr21
  obtain ⟨hPy, hDy⟩ := hB
  rw [ht9] at hPy
  have hPx := P_kept hPx (la := AdX x gx) (lb := AdM y gy) wmX wmM hXY hk1
  generalize H1 = H at hPx hPy hS ⊢
  have hPy : va_P (dC, dI) classes (WM y gy cay (u2 ivy 12 62 n24) lvy (u2 (u2 fay 12 63 n22) 12 64 n23) lay) H := hPy
  have hDy : va_D A (WM y gy cay (u2 ivy 12 62 n24) lvy (u2 (u2 fay 12 63 n22) 12 64 n23) lay) := (show va_D _ (WM y gy cay (u2 ivy 12 62 n24) lvy (u2 (u2 fay 12 63 n22) 12 64 n23) lay) from hDy).weaken (fun _ _ _ h => hFc _ h)
  refine lv_pop hx hb dL_law_1293 rfl ?_
  refine lv_goto (tgt := 1509) hx hb dL_law_1294 (by decide) ?_
  exact kk _ _ (u2 ivx 4 2 n12) lvx (u2 (u2 fax 4 0 n10) 4 1 n11) lax (u2 ivy 12 62 n24) lvy (u2 (u2 fay 12 63 n22) 12 64 n23) lay (IX_a (c := 4) (k := 1) (IX_a (c := 4) (k := 0) (IX_i (c := 4) (k := 2) hIx hn12) (fun j => full_i _)) (fun j => full_i _)) (IX_a (c := 12) (k := 64) (IX_a (c := 12) (k := 63) (IX_i (c := 12) (k := 62) hIy hn24) (fun j => full_i _)) (fun j => full_i _)) hJC hJR hJN hJO hq_now hq_bales hq_skeins hq_rules hq_text hq_place hq_papers hrs hls hwd htx hbk hgr hgb hpa hdr hPx hDx hPy hDy hS
set_option maxHeartbeats 4000000 in
set_option maxRecDepth 100000 in
theorem law_31 {p : Program} {e : Env} {s : State} {m : MethodId} {below : List Frame} {meth : Method} {c : Code} (l : Launch) {b L : Nat} {xs : Nat → Int32} (hL : L ≤ 4096) (C0 : lw_At p s m meth c b L xs) {dC : Nat → ClassId} {dI : Nat → Nat → Nat} {A : Nat → Prop} (hA : ∀ q : Nat, s.heap.size ≤ q → A q) (hbA : ¬ A b) (hAs : ∀ q : Nat, A q → s.heap.size ≤ q) {x y : Nat} {gx gy : Nat → Nat → Nat} {cax cay : Nat → Nat → ClassId} {ak av : Nat → Nat} (hKx : va_K (dC, dI) classes (TX cax) s) (hKy : va_K (dC, dI) classes (TM cay) s) (hXY : ∀ a ∈ AdX x gx, ∀ b ∈ AdM y gy, a ≠ b) (hZ : zC ak av A s s.heap) {H : Heap} {locs : List Loc} {ivx : Nat → Nat → Int32} {lvx : Nat → Nat → Int64} {fax : Nat → Nat → Nat → Int32} {lax : Nat → Nat → Nat → Int64} {ivy : Nat → Nat → Int32} {lvy : Nat → Nat → Int64} {fay : Nat → Nat → Nat → Int32} {lay : Nat → Nat → Nat → Int64} (hIx : IX ivx fax) (hIy : IX ivy fay) (hJC : JCf (ivy 12 23).toInt (fay 12 25) (fay 12 26) (fay 12 27) (fay 12 28)) (hJR : JRf (ivy 12 3).toInt (fay 12 7)) (hJN : JNf (ivy 12 3).toInt (fay 12 4) (fay 12 5)) (hJO : ((ivy 12 20).toInt = -1 ∧ (ivy 12 21).toInt = -1 ∧ (ivy 12 22).toInt = -1)) (hq_now : ivx 11 10 = ivy 12 0) (hq_bales : ivx 0 7 = ivy 12 1) (hq_skeins : ivx 10 1 = ivy 12 3) (hq_rules : ivx 1 7 = ivy 12 23) (hq_text : ivx 8 2 = ivy 12 33) (hq_place : ivx 8 3 = ivy 12 36) (hq_papers : ivx 6 7 = ivy 12 67) (hrs : (∀ s : Nat, (s : Int) < (ivy 12 3).toInt → fax 10 0 (9 * s + 0) = fay 12 4 s ∧ fax 10 0 (9 * s + 1) = fay 12 5 s ∧ fax 10 0 (9 * s + 2) = fay 12 6 s ∧ fax 10 0 (9 * s + 3) = fay 12 7 s ∧ fax 10 0 (9 * s + 4) = fay 12 8 s ∧ fax 10 0 (9 * s + 5) = fay 12 9 s ∧ fax 10 0 (9 * s + 6) = fay 12 10 s ∧ fax 10 0 (9 * s + 7) = fay 12 11 s ∧ fax 10 0 (9 * s + 8) = fay 12 12 s)) (hls : (∀ j : Nat, -1 ≤ (fay 12 12 j).toInt)) (hwd : (∀ s : Nat, (s : Int) < (ivy 12 3).toInt → (100 ≤ (fay 12 7 s).toInt ∧ (fay 12 7 s).toInt ≤ 9999) ∧ (50 ≤ (fay 12 8 s).toInt ∧ (fay 12 8 s).toInt ≤ 9999))) (htx : (∀ j : Nat, (fax 8 1 j).toInt = sg (fay 12 32 j).toInt ∧ 0 ≤ (fay 12 32 j).toInt)) (hbk : BkE (ivy 12 23).toInt (fax 1 0) (fax 1 1) (fax 1 2) (fax 1 3) (fax 1 4) (fax 1 5) (fay 12 24) (fay 12 25) (fay 12 26) (fay 12 27) (fay 12 28) (fay 12 29) (fay 12 30) (fay 12 31)) (hgr : (∀ j : Nat, fax 0 0 j = fay 12 2 j)) (hgb : (∀ j : Nat, (j : Int) < (ivx 0 7).toInt → 1 ≤ (fax 0 0 j).toInt ∧ (fax 0 0 j).toInt ≤ 99999)) (hpa : PaE (ivy 12 67).toInt (fax 6 0) (fax 6 1) (fax 6 2) (fax 6 3) (fax 6 4) (fax 6 5) (fay 12 68) (fay 12 69) (lay 12 70) (fay 12 71) (fay 12 72) (fay 12 73)) (hdr : (∀ s : Nat, (s : Int) < (ivy 12 3).toInt → (fay 12 8 s).toInt ≤ (fay 12 7 s).toInt)) (hPx : va_P (dC, dI) classes (WX x gx cax ivx lvx fax lax) H) (hDx : va_D A (WX x gx cax ivx lvx fax lax)) (hPy : va_P (dC, dI) classes (WM y gy cay ivy lvy fay lay) H) (hDy : va_D A (WM y gy cay ivy lvy fay lay)) (hS : va_S A s.heap H locs) {i : Int32} {ls : Array Slot} (hl : lv_has ls 4 [(3, .int i), (2, .ref y), (1, .ref x), (0, .ref b)]) (hi : 0 ≤ i.toInt ∧ i.toInt ≤ 4088) (hi8 : i.toInt + 8 ≤ (L : Int)) (kk : ∀ (H : Heap) (locs : List Loc) (ivx : Nat → Nat → Int32) (lvx : Nat → Nat → Int64) (fax : Nat → Nat → Nat → Int32) (lax : Nat → Nat → Nat → Int64) (ivy : Nat → Nat → Int32) (lvy : Nat → Nat → Int64) (fay : Nat → Nat → Nat → Int32) (lay : Nat → Nat → Nat → Int64), IX ivx fax → IX ivy fay → JCf (ivy 12 23).toInt (fay 12 25) (fay 12 26) (fay 12 27) (fay 12 28) → JRf (ivy 12 3).toInt (fay 12 7) → JNf (ivy 12 3).toInt (fay 12 4) (fay 12 5) → ((ivy 12 20).toInt = -1 ∧ (ivy 12 21).toInt = -1 ∧ (ivy 12 22).toInt = -1) → ivx 11 10 = ivy 12 0 → ivx 0 7 = ivy 12 1 → ivx 10 1 = ivy 12 3 → ivx 1 7 = ivy 12 23 → ivx 8 2 = ivy 12 33 → ivx 8 3 = ivy 12 36 → ivx 6 7 = ivy 12 67 → (∀ s : Nat, (s : Int) < (ivy 12 3).toInt → fax 10 0 (9 * s + 0) = fay 12 4 s ∧ fax 10 0 (9 * s + 1) = fay 12 5 s ∧ fax 10 0 (9 * s + 2) = fay 12 6 s ∧ fax 10 0 (9 * s + 3) = fay 12 7 s ∧ fax 10 0 (9 * s + 4) = fay 12 8 s ∧ fax 10 0 (9 * s + 5) = fay 12 9 s ∧ fax 10 0 (9 * s + 6) = fay 12 10 s ∧ fax 10 0 (9 * s + 7) = fay 12 11 s ∧ fax 10 0 (9 * s + 8) = fay 12 12 s) → (∀ j : Nat, -1 ≤ (fay 12 12 j).toInt) → (∀ s : Nat, (s : Int) < (ivy 12 3).toInt → (100 ≤ (fay 12 7 s).toInt ∧ (fay 12 7 s).toInt ≤ 9999) ∧ (50 ≤ (fay 12 8 s).toInt ∧ (fay 12 8 s).toInt ≤ 9999)) → (∀ j : Nat, (fax 8 1 j).toInt = sg (fay 12 32 j).toInt ∧ 0 ≤ (fay 12 32 j).toInt) → BkE (ivy 12 23).toInt (fax 1 0) (fax 1 1) (fax 1 2) (fax 1 3) (fax 1 4) (fax 1 5) (fay 12 24) (fay 12 25) (fay 12 26) (fay 12 27) (fay 12 28) (fay 12 29) (fay 12 30) (fay 12 31) → (∀ j : Nat, fax 0 0 j = fay 12 2 j) → (∀ j : Nat, (j : Int) < (ivx 0 7).toInt → 1 ≤ (fax 0 0 j).toInt ∧ (fax 0 0 j).toInt ≤ 99999) → PaE (ivy 12 67).toInt (fax 6 0) (fax 6 1) (fax 6 2) (fax 6 3) (fax 6 4) (fax 6 5) (fay 12 68) (fay 12 69) (lay 12 70) (fay 12 71) (fay 12 72) (fay 12 73) → (∀ s : Nat, (s : Int) < (ivy 12 3).toInt → (fay 12 8 s).toInt ≤ (fay 12 7 s).toInt) → va_P (dC, dI) classes (WX x gx cax ivx lvx fax lax) H → va_D A (WX x gx cax ivx lvx fax lax) → va_P (dC, dI) classes (WM y gy cay ivy lvy fay lay) H → va_D A (WM y gy cay ivy lvy fay lay) → va_S A s.heap H locs → W p l e room_1 s m #[Value.ref b] below meth c H locs 98 5431 (lw_Z below #[Value.ref b] s) (F0 m 1509 ls [])) : W p l e room_1 s m #[Value.ref b] below meth c H locs 98 5431 (lw_Z below #[Value.ref b] s) (F0 m 1297 ls []) := by
  obtain ⟨hx, hb, hr, hml, hown, hts, hX, hbl, hlocks, hgv⟩ := id C0
  have ht := tb_of hts
  have hJD := hwd
  have hw8 := congrArg Int32.toInt hq_skeins
  have hJW : ∀ s : Nat, (s : Int) < (ivx 10 1).toInt → (100 ≤ (fax 10 0 (9 * s + 3)).toInt ∧ (fax 10 0 (9 * s + 3)).toInt ≤ 9999) ∧ (50 ≤ (fax 10 0 (9 * s + 4)).toInt ∧ (fax 10 0 (9 * s + 4)).toInt ≤ 9999) := fun s hs => by rw [(hrs s (by omega)).2.2.2.1, (hrs s (by omega)).2.2.2.2.1]; exact hwd s (by omega)
  have hw8r := congrArg Int32.toInt hq_rules
  have hJB : ∀ j : Nat, (j : Int) < (ivx 1 7).toInt → 0 ≤ (fax 1 0 j).toInt := fun j hj => (hbk j (by omega)).2.2.1
  have hJK : ∀ k j : Nat, (k : Int) < (ivy 12 23).toInt → 12 * k ≤ j → (j : Int) < 12 * (k : Int) + (fay 12 25 k).toInt → (fay 12 26 j).toInt = 3 → 0 ≤ (fay 12 28 j).toInt ∧ (fay 12 28 j).toInt < (k : Int) := bk_K hbk
  have hw8b := congrArg Int32.toInt hq_bales
  have hJF : ∀ a d v : Int, 0 ≤ a → a ≤ 5 → FoX (ivx 1 7).toInt (fax 1 0) (fax 1 1) (fax 1 2) (fax 1 3) a d v → fLo a ≤ v ∧ v ≤ fHi a := fun a d v h1 h2 x => by rw [hq_rules] at x; exact FoX_b hbk ⟨h1, h2⟩ x
  have hJH : ∀ a d v : Int, 0 ≤ a → a ≤ 5 → FoY (ivy 12 23).toInt (fay 12 24) (fay 12 25) (fay 12 26) (fay 12 27) (fay 12 28) a d v → fLo a ≤ v ∧ v ≤ fHi a := fun a d v h1 h2 x => FoY_b hbk ⟨h1, h2⟩ x
  have hJG := hgb
  have hJI : ∀ j : Nat, (j : Int) < (ivy 12 1).toInt → 1 ≤ (fay 12 2 j).toInt ∧ (fay 12 2 j).toInt ≤ 99999 := fun j hj => by rw [← hgr j]; exact hgb j (by omega)
  have hJL : ∀ b l : Int32, cn0 (fun s => fax 10 0 (9 * s + 0)) (fun s => fax 10 0 (9 * s + 1)) b l (ivx 10 1).toInt.toNat ≤ 12 := fun b l => by rw [hq_skeins, cn0_congr (ob := fay 12 4) (ol := fay 12 5) _ (fun j hj => ⟨(hrs j (by omega)).1, (hrs j (by omega)).2.1⟩)]; exact hJN b l
  have hw8p := congrArg Int32.toInt hq_papers
  have hJQ : ∀ p : Nat, (p : Int) < (ivy 12 67).toInt → 0 ≤ (lay 12 70 p).toInt ∧ ((fay 12 68 p).toInt = 0 → (lay 12 70 p).toInt ≤ 129998) ∧ (lay 12 70 p).toInt ≤ 129868002 ∧ -1 ≤ (fay 12 71 p).toInt ∧ (fay 12 71 p).toInt < (p : Int) := fun p hp => ⟨(hpa p hp).2.2.1, (hpa p hp).2.2.2.1, (hpa p hp).2.2.2.2.1, (hpa p hp).2.2.2.2.2.1, (hpa p hp).2.2.2.2.2.2.1⟩
  have hJP : ∀ p : Nat, (p : Int) < (ivx 6 7).toInt → 0 ≤ (fax 6 2 p).toInt ∧ ((fax 6 0 p).toInt = 0 → (fax 6 2 p).toInt ≤ 129998) ∧ (fax 6 2 p).toInt ≤ 129868002 ∧ -1 ≤ (fax 6 3 p).toInt ∧ (fax 6 3 p).toInt < (p : Int) := fun p hp => by rw [(hpa p (by omega)).1.1, (hpa p (by omega)).1.2.2.1, (hpa p (by omega)).1.2.2.2.1]; exact hJQ p (by omega)
  have hJS : ∀ s : Nat, (s : Int) < (ivx 10 1).toInt → (fax 10 0 (9 * s + 4)).toInt ≤ (fax 10 0 (9 * s + 3)).toInt := fun s hs => by rw [(hrs s (by omega)).2.2.2.1, (hrs s (by omega)).2.2.2.2.1]; exact hdr s (by omega)
  have hJT : ∀ j : Nat, 0 ≤ (fay 12 32 j).toInt := fun j => (htx j).2
  refine lv_aload_n hx hb dL_law_1297 rfl (lv_at hl 2 rfl) ?_
  refine aw_iconst (v := 1) hx hb hX hbl hbA hS hl hi hi8 (by decide) ⟨by decide, by decide⟩ dL_law_1298 dL_law_1299 dL_law_1300 dL_law_1301 dL_law_1302 (fun v1 ev1 v2 ev2 => ?_)
  refine vp_callSi (W.runV (As := [.int v2]) (rest := []) ⟨hx, hb, hml, hown, ht⟩ (c_X11_houses l dC dI x gx cax ivx lvx fax lax hIx v2) (kV 1 ht m_1042 m_1043 m_1044 m_77 m_1045 rfl rfl hd_X11_houses_v ⟨Nat.le_of_ble_eq_true rfl, Nat.le_of_ble_eq_true rfl⟩) (vR hPx hKx (rX_11 hKx hPx)) rfl rfl hl.1 rfl (lv_room (Nat.le_of_ble_eq_true rfl)) dL_law_1303 ⟨Nat.le_of_ble_eq_true rfl, Nat.le_of_ble_eq_true rfl⟩) (fun r3 hr3 => ?_)
  refine lv_pop hx hb dL_law_1306 rfl ?_
  refine lv_aload_n hx hb dL_law_1307 rfl (lv_at hl 1 rfl) ?_
  refine aw_iconst (v := 1) hx hb hX hbl hbA hS hl hi hi8 (by decide) ⟨by decide, by decide⟩ dL_law_1308 dL_law_1309 dL_law_1310 dL_law_1311 dL_law_1312 (fun v4 ev4 v5 ev5 => ?_)
  have hFc := free_all hDy hS hA
  refine va_calli (va_runV (As := [.int v5]) (rest := []) ⟨hx, hb, hml, hown, ht⟩ (c_X12_houses l dC dI H.size y gy cay ivy lvy fay lay hIy v5) (kV 1 ht m_1664 m_1665 m_1666 m_89 m_1667 rfl rfl hd_X12_houses_v ⟨Nat.le_of_ble_eq_true rfl, Nat.le_of_ble_eq_true rfl⟩) (vW hPy hKy hDy (rM_12 hKy hPy)) rfl rfl hl.1 rfl (lv_room (Nat.le_of_ble_eq_true rfl)) dL_law_1313 ⟨Nat.le_of_ble_eq_true rfl, Nat.le_of_ble_eq_true rfl⟩) hS (fun q _ h => hFc q h) hFc (fun r6 u t H1 locs ht9 hvm hr6 hB hz1 hk1 hS => ?_)
  obtain ⟨n7, n8, hr6, rfl⟩ := hr6
  obtain ⟨hPy, hDy⟩ := hB
  rw [ht9] at hPy
  have hPx := P_kept hPx (la := AdX x gx) (lb := AdM y gy) wmX wmM hXY hk1
  generalize H1 = H at hPx hPy hS ⊢
  have hPy : va_P (dC, dI) classes (WM y gy cay (u2 (u2 ivy 12 65 n7) 12 66 n8) lvy fay lay) H := hPy
  have hDy : va_D A (WM y gy cay (u2 (u2 ivy 12 65 n7) 12 66 n8) lvy fay lay) := (show va_D _ (WM y gy cay (u2 (u2 ivy 12 65 n7) 12 66 n8) lvy fay lay) from hDy).weaken (fun _ _ _ h => hFc _ h)
  refine lv_pop hx hb dL_law_1316 rfl ?_
  refine lv_goto (tgt := 1509) hx hb dL_law_1317 (by decide) ?_
  exact kk _ _ ivx lvx fax lax (u2 (u2 ivy 12 65 n7) 12 66 n8) lvy fay lay hIx (IX_i (c := 12) (k := 66) (IX_i (c := 12) (k := 65) hIy (full_i _)) (full_i _)) hJC hJR hJN hJO hq_now hq_bales hq_skeins hq_rules hq_text hq_place hq_papers hrs hls hwd htx hbk hgr hgb hpa hdr hPx hDx hPy hDy hS
set_option maxHeartbeats 4000000 in
set_option maxRecDepth 100000 in
theorem law_32 {p : Program} {e : Env} {s : State} {m : MethodId} {below : List Frame} {meth : Method} {c : Code} (l : Launch) {b L : Nat} {xs : Nat → Int32} (hL : L ≤ 4096) (C0 : lw_At p s m meth c b L xs) {dC : Nat → ClassId} {dI : Nat → Nat → Nat} {A : Nat → Prop} (hA : ∀ q : Nat, s.heap.size ≤ q → A q) (hbA : ¬ A b) (hAs : ∀ q : Nat, A q → s.heap.size ≤ q) {x y : Nat} {gx gy : Nat → Nat → Nat} {cax cay : Nat → Nat → ClassId} {ak av : Nat → Nat} (hKx : va_K (dC, dI) classes (TX cax) s) (hKy : va_K (dC, dI) classes (TM cay) s) (hXY : ∀ a ∈ AdX x gx, ∀ b ∈ AdM y gy, a ≠ b) (hZ : zC ak av A s s.heap) {H : Heap} {locs : List Loc} {ivx : Nat → Nat → Int32} {lvx : Nat → Nat → Int64} {fax : Nat → Nat → Nat → Int32} {lax : Nat → Nat → Nat → Int64} {ivy : Nat → Nat → Int32} {lvy : Nat → Nat → Int64} {fay : Nat → Nat → Nat → Int32} {lay : Nat → Nat → Nat → Int64} (hIx : IX ivx fax) (hIy : IX ivy fay) (hJC : JCf (ivy 12 23).toInt (fay 12 25) (fay 12 26) (fay 12 27) (fay 12 28)) (hJR : JRf (ivy 12 3).toInt (fay 12 7)) (hJN : JNf (ivy 12 3).toInt (fay 12 4) (fay 12 5)) (hJO : ((ivy 12 20).toInt = -1 ∧ (ivy 12 21).toInt = -1 ∧ (ivy 12 22).toInt = -1)) (hq_now : ivx 11 10 = ivy 12 0) (hq_bales : ivx 0 7 = ivy 12 1) (hq_skeins : ivx 10 1 = ivy 12 3) (hq_rules : ivx 1 7 = ivy 12 23) (hq_text : ivx 8 2 = ivy 12 33) (hq_place : ivx 8 3 = ivy 12 36) (hq_papers : ivx 6 7 = ivy 12 67) (hrs : (∀ s : Nat, (s : Int) < (ivy 12 3).toInt → fax 10 0 (9 * s + 0) = fay 12 4 s ∧ fax 10 0 (9 * s + 1) = fay 12 5 s ∧ fax 10 0 (9 * s + 2) = fay 12 6 s ∧ fax 10 0 (9 * s + 3) = fay 12 7 s ∧ fax 10 0 (9 * s + 4) = fay 12 8 s ∧ fax 10 0 (9 * s + 5) = fay 12 9 s ∧ fax 10 0 (9 * s + 6) = fay 12 10 s ∧ fax 10 0 (9 * s + 7) = fay 12 11 s ∧ fax 10 0 (9 * s + 8) = fay 12 12 s)) (hls : (∀ j : Nat, -1 ≤ (fay 12 12 j).toInt)) (hwd : (∀ s : Nat, (s : Int) < (ivy 12 3).toInt → (100 ≤ (fay 12 7 s).toInt ∧ (fay 12 7 s).toInt ≤ 9999) ∧ (50 ≤ (fay 12 8 s).toInt ∧ (fay 12 8 s).toInt ≤ 9999))) (htx : (∀ j : Nat, (fax 8 1 j).toInt = sg (fay 12 32 j).toInt ∧ 0 ≤ (fay 12 32 j).toInt)) (hbk : BkE (ivy 12 23).toInt (fax 1 0) (fax 1 1) (fax 1 2) (fax 1 3) (fax 1 4) (fax 1 5) (fay 12 24) (fay 12 25) (fay 12 26) (fay 12 27) (fay 12 28) (fay 12 29) (fay 12 30) (fay 12 31)) (hgr : (∀ j : Nat, fax 0 0 j = fay 12 2 j)) (hgb : (∀ j : Nat, (j : Int) < (ivx 0 7).toInt → 1 ≤ (fax 0 0 j).toInt ∧ (fax 0 0 j).toInt ≤ 99999)) (hpa : PaE (ivy 12 67).toInt (fax 6 0) (fax 6 1) (fax 6 2) (fax 6 3) (fax 6 4) (fax 6 5) (fay 12 68) (fay 12 69) (lay 12 70) (fay 12 71) (fay 12 72) (fay 12 73)) (hdr : (∀ s : Nat, (s : Int) < (ivy 12 3).toInt → (fay 12 8 s).toInt ≤ (fay 12 7 s).toInt)) (hPx : va_P (dC, dI) classes (WX x gx cax ivx lvx fax lax) H) (hDx : va_D A (WX x gx cax ivx lvx fax lax)) (hPy : va_P (dC, dI) classes (WM y gy cay ivy lvy fay lay) H) (hDy : va_D A (WM y gy cay ivy lvy fay lay)) (hS : va_S A s.heap H locs) {i : Int32} {ls : Array Slot} (hl : lv_has ls 4 [(3, .int i), (2, .ref y), (1, .ref x), (0, .ref b)]) (hi : 0 ≤ i.toInt ∧ i.toInt ≤ 4088) (hi8 : i.toInt + 8 ≤ (L : Int)) (kk : ∀ (H : Heap) (locs : List Loc) (ivx : Nat → Nat → Int32) (lvx : Nat → Nat → Int64) (fax : Nat → Nat → Nat → Int32) (lax : Nat → Nat → Nat → Int64) (ivy : Nat → Nat → Int32) (lvy : Nat → Nat → Int64) (fay : Nat → Nat → Nat → Int32) (lay : Nat → Nat → Nat → Int64), IX ivx fax → IX ivy fay → JCf (ivy 12 23).toInt (fay 12 25) (fay 12 26) (fay 12 27) (fay 12 28) → JRf (ivy 12 3).toInt (fay 12 7) → JNf (ivy 12 3).toInt (fay 12 4) (fay 12 5) → ((ivy 12 20).toInt = -1 ∧ (ivy 12 21).toInt = -1 ∧ (ivy 12 22).toInt = -1) → ivx 11 10 = ivy 12 0 → ivx 0 7 = ivy 12 1 → ivx 10 1 = ivy 12 3 → ivx 1 7 = ivy 12 23 → ivx 8 2 = ivy 12 33 → ivx 8 3 = ivy 12 36 → ivx 6 7 = ivy 12 67 → (∀ s : Nat, (s : Int) < (ivy 12 3).toInt → fax 10 0 (9 * s + 0) = fay 12 4 s ∧ fax 10 0 (9 * s + 1) = fay 12 5 s ∧ fax 10 0 (9 * s + 2) = fay 12 6 s ∧ fax 10 0 (9 * s + 3) = fay 12 7 s ∧ fax 10 0 (9 * s + 4) = fay 12 8 s ∧ fax 10 0 (9 * s + 5) = fay 12 9 s ∧ fax 10 0 (9 * s + 6) = fay 12 10 s ∧ fax 10 0 (9 * s + 7) = fay 12 11 s ∧ fax 10 0 (9 * s + 8) = fay 12 12 s) → (∀ j : Nat, -1 ≤ (fay 12 12 j).toInt) → (∀ s : Nat, (s : Int) < (ivy 12 3).toInt → (100 ≤ (fay 12 7 s).toInt ∧ (fay 12 7 s).toInt ≤ 9999) ∧ (50 ≤ (fay 12 8 s).toInt ∧ (fay 12 8 s).toInt ≤ 9999)) → (∀ j : Nat, (fax 8 1 j).toInt = sg (fay 12 32 j).toInt ∧ 0 ≤ (fay 12 32 j).toInt) → BkE (ivy 12 23).toInt (fax 1 0) (fax 1 1) (fax 1 2) (fax 1 3) (fax 1 4) (fax 1 5) (fay 12 24) (fay 12 25) (fay 12 26) (fay 12 27) (fay 12 28) (fay 12 29) (fay 12 30) (fay 12 31) → (∀ j : Nat, fax 0 0 j = fay 12 2 j) → (∀ j : Nat, (j : Int) < (ivx 0 7).toInt → 1 ≤ (fax 0 0 j).toInt ∧ (fax 0 0 j).toInt ≤ 99999) → PaE (ivy 12 67).toInt (fax 6 0) (fax 6 1) (fax 6 2) (fax 6 3) (fax 6 4) (fax 6 5) (fay 12 68) (fay 12 69) (lay 12 70) (fay 12 71) (fay 12 72) (fay 12 73) → (∀ s : Nat, (s : Int) < (ivy 12 3).toInt → (fay 12 8 s).toInt ≤ (fay 12 7 s).toInt) → va_P (dC, dI) classes (WX x gx cax ivx lvx fax lax) H → va_D A (WX x gx cax ivx lvx fax lax) → va_P (dC, dI) classes (WM y gy cay ivy lvy fay lay) H → va_D A (WM y gy cay ivy lvy fay lay) → va_S A s.heap H locs → W p l e room_1 s m #[Value.ref b] below meth c H locs 98 5431 (lw_Z below #[Value.ref b] s) (F0 m 1509 ls [])) : W p l e room_1 s m #[Value.ref b] below meth c H locs 98 5431 (lw_Z below #[Value.ref b] s) (F0 m 1320 ls []) := by
  obtain ⟨hx, hb, hr, hml, hown, hts, hX, hbl, hlocks, hgv⟩ := id C0
  have ht := tb_of hts
  have hJD := hwd
  have hw8 := congrArg Int32.toInt hq_skeins
  have hJW : ∀ s : Nat, (s : Int) < (ivx 10 1).toInt → (100 ≤ (fax 10 0 (9 * s + 3)).toInt ∧ (fax 10 0 (9 * s + 3)).toInt ≤ 9999) ∧ (50 ≤ (fax 10 0 (9 * s + 4)).toInt ∧ (fax 10 0 (9 * s + 4)).toInt ≤ 9999) := fun s hs => by rw [(hrs s (by omega)).2.2.2.1, (hrs s (by omega)).2.2.2.2.1]; exact hwd s (by omega)
  have hw8r := congrArg Int32.toInt hq_rules
  have hJB : ∀ j : Nat, (j : Int) < (ivx 1 7).toInt → 0 ≤ (fax 1 0 j).toInt := fun j hj => (hbk j (by omega)).2.2.1
  have hJK : ∀ k j : Nat, (k : Int) < (ivy 12 23).toInt → 12 * k ≤ j → (j : Int) < 12 * (k : Int) + (fay 12 25 k).toInt → (fay 12 26 j).toInt = 3 → 0 ≤ (fay 12 28 j).toInt ∧ (fay 12 28 j).toInt < (k : Int) := bk_K hbk
  have hw8b := congrArg Int32.toInt hq_bales
  have hJF : ∀ a d v : Int, 0 ≤ a → a ≤ 5 → FoX (ivx 1 7).toInt (fax 1 0) (fax 1 1) (fax 1 2) (fax 1 3) a d v → fLo a ≤ v ∧ v ≤ fHi a := fun a d v h1 h2 x => by rw [hq_rules] at x; exact FoX_b hbk ⟨h1, h2⟩ x
  have hJH : ∀ a d v : Int, 0 ≤ a → a ≤ 5 → FoY (ivy 12 23).toInt (fay 12 24) (fay 12 25) (fay 12 26) (fay 12 27) (fay 12 28) a d v → fLo a ≤ v ∧ v ≤ fHi a := fun a d v h1 h2 x => FoY_b hbk ⟨h1, h2⟩ x
  have hJG := hgb
  have hJI : ∀ j : Nat, (j : Int) < (ivy 12 1).toInt → 1 ≤ (fay 12 2 j).toInt ∧ (fay 12 2 j).toInt ≤ 99999 := fun j hj => by rw [← hgr j]; exact hgb j (by omega)
  have hJL : ∀ b l : Int32, cn0 (fun s => fax 10 0 (9 * s + 0)) (fun s => fax 10 0 (9 * s + 1)) b l (ivx 10 1).toInt.toNat ≤ 12 := fun b l => by rw [hq_skeins, cn0_congr (ob := fay 12 4) (ol := fay 12 5) _ (fun j hj => ⟨(hrs j (by omega)).1, (hrs j (by omega)).2.1⟩)]; exact hJN b l
  have hw8p := congrArg Int32.toInt hq_papers
  have hJQ : ∀ p : Nat, (p : Int) < (ivy 12 67).toInt → 0 ≤ (lay 12 70 p).toInt ∧ ((fay 12 68 p).toInt = 0 → (lay 12 70 p).toInt ≤ 129998) ∧ (lay 12 70 p).toInt ≤ 129868002 ∧ -1 ≤ (fay 12 71 p).toInt ∧ (fay 12 71 p).toInt < (p : Int) := fun p hp => ⟨(hpa p hp).2.2.1, (hpa p hp).2.2.2.1, (hpa p hp).2.2.2.2.1, (hpa p hp).2.2.2.2.2.1, (hpa p hp).2.2.2.2.2.2.1⟩
  have hJP : ∀ p : Nat, (p : Int) < (ivx 6 7).toInt → 0 ≤ (fax 6 2 p).toInt ∧ ((fax 6 0 p).toInt = 0 → (fax 6 2 p).toInt ≤ 129998) ∧ (fax 6 2 p).toInt ≤ 129868002 ∧ -1 ≤ (fax 6 3 p).toInt ∧ (fax 6 3 p).toInt < (p : Int) := fun p hp => by rw [(hpa p (by omega)).1.1, (hpa p (by omega)).1.2.2.1, (hpa p (by omega)).1.2.2.2.1]; exact hJQ p (by omega)
  have hJS : ∀ s : Nat, (s : Int) < (ivx 10 1).toInt → (fax 10 0 (9 * s + 4)).toInt ≤ (fax 10 0 (9 * s + 3)).toInt := fun s hs => by rw [(hrs s (by omega)).2.2.2.1, (hrs s (by omega)).2.2.2.2.1]; exact hdr s (by omega)
  have hJT : ∀ j : Nat, 0 ≤ (fay 12 32 j).toInt := fun j => (htx j).2
  refine lv_aload_n hx hb dL_law_1320 rfl (lv_at hl 2 rfl) ?_
  refine aw_iconst (v := 1) hx hb hX hbl hbA hS hl hi hi8 (by decide) ⟨by decide, by decide⟩ dL_law_1321 dL_law_1322 dL_law_1323 dL_law_1324 dL_law_1325 (fun v1 ev1 v2 ev2 => ?_)
  have hFc := free_all hDx hS hA
  refine va_calli (va_runV (As := [.int v2]) (rest := []) ⟨hx, hb, hml, hown, ht⟩ (c_X11_certify_w l dC dI H.size ak av x gx cax ivx lvx fax lax hIx v2 hJB hJW hJF hJG hJL hJS) (kV 1 ht m_1070 m_1071 m_1072 m_77 m_1073 rfl rfl hd_X11_certify_v ⟨Nat.le_of_ble_eq_true rfl, Nat.le_of_ble_eq_true rfl⟩) (vWZ hPx hKx hDx ((hZ.kept hS.2.1).narrow (free_all hDx hS hA)) (rX_11 hKx hPx)) rfl rfl hl.1 rfl (lv_room (Nat.le_of_ble_eq_true rfl)) dL_law_1326 ⟨Nat.le_of_ble_eq_true rfl, Nat.le_of_ble_eq_true rfl⟩) hS (fun q _ h => hFc q h) hFc (fun r3 u t H1 locs ht9 hvm hr3 hB hz1 hk1 hS => ?_)
  obtain ⟨n4, n5, n6, n7, n8, n9, n10, n11, n12, n13, n14, n15, n16, hn4, hn8, hn14, hn15, hn16, xr3_0, hr3, rfl⟩ := hr3
  obtain ⟨hPx, hDx⟩ := hB
  rw [ht9] at hPx
  have hPy := P_kept hPy (la := AdM y gy) (lb := AdX x gx) wmM wmX (fun a ha b hb => (hXY b hb a ha).symm) hk1
  generalize H1 = H at hPx hPy hS ⊢
  have hPx : va_P (dC, dI) classes (WX x gx cax (u2 (u2 (u2 ivx 3 3 n14) 3 4 n15) 6 7 n16) lvx (u2 (u2 (u2 (u2 (u2 (u2 (u2 (u2 fax 1 6 n4) 6 0 n5) 6 1 n6) 6 2 n7) 6 3 n8) 6 4 n9) 6 5 n10) 30 2 n11) (u2 (u2 lax 30 0 n12) 30 1 n13)) H := hPx
  have hDx : va_D A (WX x gx cax (u2 (u2 (u2 ivx 3 3 n14) 3 4 n15) 6 7 n16) lvx (u2 (u2 (u2 (u2 (u2 (u2 (u2 (u2 fax 1 6 n4) 6 0 n5) 6 1 n6) 6 2 n7) 6 3 n8) 6 4 n9) 6 5 n10) 30 2 n11) (u2 (u2 lax 30 0 n12) 30 1 n13)) := (show va_D _ (WX x gx cax (u2 (u2 (u2 ivx 3 3 n14) 3 4 n15) 6 7 n16) lvx (u2 (u2 (u2 (u2 (u2 (u2 (u2 (u2 fax 1 6 n4) 6 0 n5) 6 1 n6) 6 2 n7) 6 3 n8) 6 4 n9) 6 5 n10) 30 2 n11) (u2 (u2 lax 30 0 n12) 30 1 n13)) from hDx).weaken (fun _ _ _ h => hFc _ h)
  refine lv_pop hx hb dL_law_1329 rfl ?_
  refine lv_aload_n hx hb dL_law_1330 rfl (lv_at hl 1 rfl) ?_
  refine aw_iconst (v := 1) hx hb hX hbl hbA hS hl hi hi8 (by decide) ⟨by decide, by decide⟩ dL_law_1331 dL_law_1332 dL_law_1333 dL_law_1334 dL_law_1335 (fun v17 ev17 v18 ev18 => ?_)
  have hFc := free_all hDy hS hA
  refine va_calli (va_runV (As := [.int v18]) (rest := []) ⟨hx, hb, hml, hown, ht⟩ (c_X12_certify_w l dC dI H.size y gy cay ivy lvy fay lay hIy v18 hJC hJR hJO hJK hJD hJN hJH hJI) (kV 1 ht m_1672 m_1673 m_1674 m_89 m_1675 rfl rfl hd_X12_certify_v ⟨Nat.le_of_ble_eq_true rfl, Nat.le_of_ble_eq_true rfl⟩) (vW hPy hKy hDy (rM_12 hKy hPy)) rfl rfl hl.1 rfl (lv_room (Nat.le_of_ble_eq_true rfl)) dL_law_1336 ⟨Nat.le_of_ble_eq_true rfl, Nat.le_of_ble_eq_true rfl⟩) hS (fun q _ h => hFc q h) hFc (fun r19 u t H1 locs ht9 hvm hr19 hB hz1 hk1 hS => ?_)
  obtain ⟨n20, n21, n22, n23, n24, n25, n26, n27, n28, n29, n30, n31, n32, n33, n34, n35, n36, n37, n38, n39, hn20, hn21, hn24, hn32, hn33, xr19_0, hr19, rfl⟩ := hr19
  obtain ⟨hPy, hDy⟩ := hB
  rw [ht9] at hPy
  have hPx := P_kept hPx (la := AdX x gx) (lb := AdM y gy) wmX wmM hXY hk1
  generalize H1 = H at hPx hPy hS ⊢
  have hPy : va_P (dC, dI) classes (WM y gy cay (u2 (u2 (u2 ivy 12 19 n31) 12 41 n32) 12 67 n33) (u2 (u2 (u2 (u2 (u2 (u2 lvy 12 17 n34) 12 18 n35) 12 44 n36) 12 45 n37) 12 46 n38) 12 47 n39) (u2 (u2 (u2 (u2 (u2 (u2 (u2 (u2 fay 12 39 n20) 12 40 n21) 12 68 n22) 12 69 n23) 12 71 n24) 12 72 n25) 12 73 n26) 12 74 n27) (u2 (u2 (u2 lay 12 42 n28) 12 43 n29) 12 70 n30)) H := hPy
  have hDy : va_D A (WM y gy cay (u2 (u2 (u2 ivy 12 19 n31) 12 41 n32) 12 67 n33) (u2 (u2 (u2 (u2 (u2 (u2 lvy 12 17 n34) 12 18 n35) 12 44 n36) 12 45 n37) 12 46 n38) 12 47 n39) (u2 (u2 (u2 (u2 (u2 (u2 (u2 (u2 fay 12 39 n20) 12 40 n21) 12 68 n22) 12 69 n23) 12 71 n24) 12 72 n25) 12 73 n26) 12 74 n27) (u2 (u2 (u2 lay 12 42 n28) 12 43 n29) 12 70 n30)) := (show va_D _ (WM y gy cay (u2 (u2 (u2 ivy 12 19 n31) 12 41 n32) 12 67 n33) (u2 (u2 (u2 (u2 (u2 (u2 lvy 12 17 n34) 12 18 n35) 12 44 n36) 12 45 n37) 12 46 n38) 12 47 n39) (u2 (u2 (u2 (u2 (u2 (u2 (u2 (u2 fay 12 39 n20) 12 40 n21) 12 68 n22) 12 69 n23) 12 71 n24) 12 72 n25) 12 73 n26) 12 74 n27) (u2 (u2 (u2 lay 12 42 n28) 12 43 n29) 12 70 n30)) from hDy).weaken (fun _ _ _ h => hFc _ h)
  have hv9_0 : (v2 : Int32) = v18 := by rw [ev2, ev18, ev1, ev17]
  have hu9_0 := congrArg Int32.toInt hv9_0
  have hw9_now := congrArg Int32.toInt hq_now
  have hw9_bales := congrArg Int32.toInt hq_bales
  have hw9_skeins := congrArg Int32.toInt hq_skeins
  have hw9_rules := congrArg Int32.toInt hq_rules
  have hw9_text := congrArg Int32.toInt hq_text
  have hw9_place := congrArg Int32.toInt hq_place
  have hw9_papers := congrArg Int32.toInt hq_papers
  have y9x_0 : ((r3.toInt = -100001 ∧ ¬ (0 ≤ (v2 : Int32).toInt ∧ (v2 : Int32).toInt < (ivx 0 7).toInt) ∧ SmX (fax 6 0) (fax 6 1) (fax 6 2) (fax 6 3) (fax 6 4) (fax 6 5) n5 n6 n7 n8 n9 n10 ∧ n16.toInt = (ivx 6 7).toInt) ∨ (r3.toInt = -100003 ∧ (0 ≤ (v2 : Int32).toInt ∧ (v2 : Int32).toInt < (ivx 0 7).toInt) ∧ (CeX (ivx 6 7).toInt (fax 6 0) (fax 6 1) (fax 6 5) (v2 : Int32).toInt ∨ ∃ (D R : Nat → Int64) (C : Nat → Int32) (i j ro : Int), LwS (fun q v => FoX (ivx 1 7).toInt (fax 1 0) (fax 1 1) (fax 1 2) (fax 1 3) q (ivx 11 10).toInt v) (fax 10 0) (v2 : Int32).toInt (ivx 11 10).toInt ((ivx 10 1).toInt).toNat D R C i j ro ∧ ro ≠ 1) ∧ SmX (fax 6 0) (fax 6 1) (fax 6 2) (fax 6 3) (fax 6 4) (fax 6 5) n5 n6 n7 n8 n9 n10 ∧ n16.toInt = (ivx 6 7).toInt) ∨ (r3.toInt = -100004 ∧ (0 ≤ (v2 : Int32).toInt ∧ (v2 : Int32).toInt < (ivx 0 7).toInt) ∧ ¬ CeX (ivx 6 7).toInt (fax 6 0) (fax 6 1) (fax 6 5) (v2 : Int32).toInt ∧ (∃ (D R : Nat → Int64) (C : Nat → Int32) (i j ro : Int), LwS (fun q v => FoX (ivx 1 7).toInt (fax 1 0) (fax 1 1) (fax 1 2) (fax 1 3) q (ivx 11 10).toInt v) (fax 10 0) (v2 : Int32).toInt (ivx 11 10).toInt ((ivx 10 1).toInt).toNat D R C i j ro ∧ ro = 1) ∧ 40 ≤ (ivx 6 7).toInt ∧ SmX (fax 6 0) (fax 6 1) (fax 6 2) (fax 6 3) (fax 6 4) (fax 6 5) n5 n6 n7 n8 n9 n10 ∧ n16.toInt = (ivx 6 7).toInt) ∨ ((0 ≤ (v2 : Int32).toInt ∧ (v2 : Int32).toInt < (ivx 0 7).toInt) ∧ ¬ CeX (ivx 6 7).toInt (fax 6 0) (fax 6 1) (fax 6 5) (v2 : Int32).toInt ∧ (ivx 6 7).toInt < 40 ∧ r3.toInt = (ivx 6 7).toInt ∧ n16.toInt = (ivx 6 7).toInt + 1 ∧ ∃ (D R : Nat → Int64) (C : Nat → Int32) (i j ro : Int), LwS (fun q v => FoX (ivx 1 7).toInt (fax 1 0) (fax 1 1) (fax 1 2) (fax 1 3) q (ivx 11 10).toInt v) (fax 10 0) (v2 : Int32).toInt (ivx 11 10).toInt ((ivx 10 1).toInt).toNat D R C i j ro ∧ ro = 1 ∧ ∃ wt : Int, FoX (ivx 1 7).toInt (fax 1 0) (fax 1 1) (fax 1 2) (fax 1 3) 0 (ivx 11 10).toInt wt ∧ 0 ≤ wt ∧ 0 ≤ upI D R i j * (((fax 0 0) ((v2 : Int32).toInt).toNat).toInt * (1000 + wt)) / (loI R i j * 1000) ∧ upI D R i j * (((fax 0 0) ((v2 : Int32).toInt).toNat).toInt * (1000 + wt)) / (loI R i j * 1000) ≤ 129998 ∧ ApX ((ivx 6 7).toInt).toNat (fax 6 0) (fax 6 1) (fax 6 2) (fax 6 3) (fax 6 4) (fax 6 5) n5 n6 n7 n8 n9 n10 0 (v2 : Int32).toInt (upI D R i j * (((fax 0 0) ((v2 : Int32).toInt).toNat).toInt * (1000 + wt)) / (loI R i j * 1000)) (-1) (ivx 11 10).toInt)) := xr3_0
  have y9y_0 : ((r19.toInt = -100001 ∧ ¬ (0 ≤ (v18 : Int32).toInt ∧ (v18 : Int32).toInt < (ivy 12 1).toInt) ∧ SmY (fay 12 68) (fay 12 69) (lay 12 70) (fay 12 71) (fay 12 72) (fay 12 73) n22 n23 n30 n24 n25 n26 ∧ n33.toInt = (ivy 12 67).toInt) ∨ (r19.toInt = -100003 ∧ (0 ≤ (v18 : Int32).toInt ∧ (v18 : Int32).toInt < (ivy 12 1).toInt) ∧ (CeY (ivy 12 67).toInt (fay 12 68) (fay 12 69) (fay 12 73) (v18 : Int32).toInt ∨ ∃ (D R : Nat → Int64) (up dn ro : Int), LwT (fun q v => FoY (ivy 12 23).toInt (fay 12 24) (fay 12 25) (fay 12 26) (fay 12 27) (fay 12 28) q (ivy 12 0).toInt v) (fay 12 4) (fay 12 5) (fay 12 11) (fay 12 12) (fay 12 7) (fay 12 8) (v18 : Int32).toInt (ivy 12 0).toInt ((ivy 12 3).toInt).toNat D R up dn ro ∧ ro ≠ 1) ∧ SmY (fay 12 68) (fay 12 69) (lay 12 70) (fay 12 71) (fay 12 72) (fay 12 73) n22 n23 n30 n24 n25 n26 ∧ n33.toInt = (ivy 12 67).toInt) ∨ (r19.toInt = -100004 ∧ (0 ≤ (v18 : Int32).toInt ∧ (v18 : Int32).toInt < (ivy 12 1).toInt) ∧ ¬ CeY (ivy 12 67).toInt (fay 12 68) (fay 12 69) (fay 12 73) (v18 : Int32).toInt ∧ (∃ (D R : Nat → Int64) (up dn ro : Int), LwT (fun q v => FoY (ivy 12 23).toInt (fay 12 24) (fay 12 25) (fay 12 26) (fay 12 27) (fay 12 28) q (ivy 12 0).toInt v) (fay 12 4) (fay 12 5) (fay 12 11) (fay 12 12) (fay 12 7) (fay 12 8) (v18 : Int32).toInt (ivy 12 0).toInt ((ivy 12 3).toInt).toNat D R up dn ro ∧ ro = 1) ∧ 40 ≤ (ivy 12 67).toInt ∧ SmY (fay 12 68) (fay 12 69) (lay 12 70) (fay 12 71) (fay 12 72) (fay 12 73) n22 n23 n30 n24 n25 n26 ∧ n33.toInt = (ivy 12 67).toInt) ∨ ((0 ≤ (v18 : Int32).toInt ∧ (v18 : Int32).toInt < (ivy 12 1).toInt) ∧ ¬ CeY (ivy 12 67).toInt (fay 12 68) (fay 12 69) (fay 12 73) (v18 : Int32).toInt ∧ (ivy 12 67).toInt < 40 ∧ r19.toInt = (ivy 12 67).toInt ∧ n33.toInt = (ivy 12 67).toInt + 1 ∧ ∃ (D R : Nat → Int64) (up dn ro : Int), LwT (fun q v => FoY (ivy 12 23).toInt (fay 12 24) (fay 12 25) (fay 12 26) (fay 12 27) (fay 12 28) q (ivy 12 0).toInt v) (fay 12 4) (fay 12 5) (fay 12 11) (fay 12 12) (fay 12 7) (fay 12 8) (v18 : Int32).toInt (ivy 12 0).toInt ((ivy 12 3).toInt).toNat D R up dn ro ∧ ro = 1 ∧ ∃ wt LU LD : Int, FoY (ivy 12 23).toInt (fay 12 24) (fay 12 25) (fay 12 26) (fay 12 27) (fay 12 28) 0 (ivy 12 0).toInt wt ∧ 0 ≤ wt ∧ LwY up dn (((fay 12 2) ((v18 : Int32).toInt).toNat).toInt * (1000 + wt)) LU LD ∧ ApY ((ivy 12 67).toInt).toNat (fay 12 68) (fay 12 69) (lay 12 70) (fay 12 71) (fay 12 72) (fay 12 73) n22 n23 n30 n24 n25 n26 0 (v18 : Int32).toInt (LU / LD) (-1) (ivy 12 0).toInt)) := xr19_0
  have hb67 : 0 ≤ (ivy 12 67).toInt ∧ (ivy 12 67).toInt ≤ 40 := hIy.1 12 67
  have hb0 : 0 ≤ (ivy 12 0).toInt ∧ (ivy 12 0).toInt ≤ 3000 := hIy.1 12 0
  have hcx9 : ∀ j : Nat, (fax 1 1 j).toInt ≤ 12 := fun j => (show 0 ≤ (fax 1 1 j).toInt ∧ (fax 1 1 j).toInt ≤ 12 from hIx.2 1 1 j).2
  have hR9 : RoE (ivy 12 3).toInt (fax 10 0) (fay 12 4) (fay 12 5) (fay 12 6) (fay 12 7) (fay 12 8) (fay 12 9) (fay 12 10) (fay 12 11) (fay 12 12) := hrs
  have hn9 : (ivy 12 3).toInt.toNat ≤ 60 := by have q9 : 0 ≤ (ivy 12 3).toInt ∧ (ivy 12 3).toInt ≤ 60 := hIy.1 12 3; omega
  have hw9 : ∀ s : Nat, s < (ivy 12 3).toInt.toNat → (100 ≤ (fax 10 0 (9 * s + 3)).toInt ∧ (fax 10 0 (9 * s + 3)).toInt ≤ 9999) ∧ (50 ≤ (fax 10 0 (9 * s + 4)).toInt ∧ (fax 10 0 (9 * s + 4)).toInt ≤ 9999) := fun s hs => hJW s (by omega)
  have hc9 : ∀ l : Int32, cn0 (fun s => fax 10 0 (9 * s + 0)) (fun s => fax 10 0 (9 * s + 1)) (v18 : Int32) l (ivy 12 3).toInt.toNat ≤ 12 := fun l => by rw [← hq_skeins]; exact hJL _ l
  rw [hv9_0, hq_papers, hq_now, hq_bales, hq_skeins, hq_rules] at y9x_0
  have hz9 : (r3 : Int32).toInt = (r19 : Int32).toInt ∧ (n16 : Int32).toInt = (n33 : Int32).toInt ∧ PaE (n33 : Int32).toInt n5 n6 n7 n8 n9 n10 n22 n23 n30 n24 n25 n26 := by
    have hce := Ce_xy (x := (v18 : Int32).toInt) hpa
    rcases y9x_0 with ⟨a1, a2, a3, a4⟩ | ⟨a1, a2, a3, a4, a5⟩ | ⟨a1, a2, a3, ⟨D1, R1, C1, i1, j1, r1, zL, zr⟩, a5, a6, a7⟩ | ⟨a1, a2, a3, a4, a5, D1, R1, C1, i1, j1, r1, zL, zr, wt, f1, f2, f3, f4, f5⟩
    · rcases y9y_0 with ⟨b1, b2, b3, b4⟩ | ⟨b1, b2, b3, b4, b5⟩ | ⟨b1, b2, b3, ⟨D2, R2, up, dn, s2, zT, zs⟩, b5, b6, b7⟩ | ⟨b1, b2, b3, b4, b5, D2, R2, up, dn, s2, zT, zs, wt2, LU, LD, k1, k2, k3, k4⟩
      · refine ⟨by omega, by omega, ?_⟩; rw [show (n33 : Int32).toInt = (ivy 12 67).toInt from by omega]; exact PaE_same hpa a3 b3
      · exfalso; omega
      · exfalso; omega
      · exfalso; omega
    · rcases y9y_0 with ⟨b1, b2, b3, b4⟩ | ⟨b1, b2, b3, b4, b5⟩ | ⟨b1, b2, b3, ⟨D2, R2, up, dn, s2, zT, zs⟩, b5, b6, b7⟩ | ⟨b1, b2, b3, b4, b5, D2, R2, up, dn, s2, zT, zs, wt2, LU, LD, k1, k2, k3, k4⟩
      · exfalso; omega
      · refine ⟨by omega, by omega, ?_⟩; rw [show (n33 : Int32).toInt = (ivy 12 67).toInt from by omega]; exact PaE_same hpa a4 b4
      · rcases a3 with q | ⟨D1, R1, C1, i1, j1, r1, zL, zr⟩
        · exact absurd (hce.mp q) b3
        · have zu := (Lw_un (fun q v w h1 h2 x y => Bk_force hbk hcx9 ⟨h1, h2⟩ x y) (fun q v h1 h2 x => FoX_b hbk ⟨h1, h2⟩ x) hn9 hw9 hc9 (fun l _ => RoE_s hR9 hls _ _ _) zL zT).1
          exfalso; omega
      · rcases a3 with q | ⟨D1, R1, C1, i1, j1, r1, zL, zr⟩
        · exact absurd (hce.mp q) b2
        · have zu := (Lw_un (fun q v w h1 h2 x y => Bk_force hbk hcx9 ⟨h1, h2⟩ x y) (fun q v h1 h2 x => FoX_b hbk ⟨h1, h2⟩ x) hn9 hw9 hc9 (fun l _ => RoE_s hR9 hls _ _ _) zL zT).1
          exfalso; omega
    · rcases y9y_0 with ⟨b1, b2, b3, b4⟩ | ⟨b1, b2, b3, b4, b5⟩ | ⟨b1, b2, b3, ⟨D2, R2, up, dn, s2, zT, zs⟩, b5, b6, b7⟩ | ⟨b1, b2, b3, b4, b5, D2, R2, up, dn, s2, zT, zs, wt2, LU, LD, k1, k2, k3, k4⟩
      · exfalso; omega
      · rcases b3 with q | ⟨D2, R2, up, dn, s2, zT, zs⟩
        · exact absurd (hce.mpr q) a3
        · have zu := (Lw_un (fun q v w h1 h2 x y => Bk_force hbk hcx9 ⟨h1, h2⟩ x y) (fun q v h1 h2 x => FoX_b hbk ⟨h1, h2⟩ x) hn9 hw9 hc9 (fun l _ => RoE_s hR9 hls _ _ _) zL zT).1
          exfalso; omega
      · refine ⟨by omega, by omega, ?_⟩; rw [show (n33 : Int32).toInt = (ivy 12 67).toInt from by omega]; exact PaE_same hpa a6 b6
      · exfalso; omega
    · rcases y9y_0 with ⟨b1, b2, b3, b4⟩ | ⟨b1, b2, b3, b4, b5⟩ | ⟨b1, b2, b3, ⟨D2, R2, up, dn, s2, zT, zs⟩, b5, b6, b7⟩ | ⟨b1, b2, b3, b4, b5, D2, R2, up, dn, s2, zT, zs, wt2, LU, LD, k1, k2, k3, k4⟩
      · exfalso; omega
      · rcases b3 with q | ⟨D2, R2, up, dn, s2, zT, zs⟩
        · exact absurd (hce.mpr q) a2
        · have zu := (Lw_un (fun q v w h1 h2 x y => Bk_force hbk hcx9 ⟨h1, h2⟩ x y) (fun q v h1 h2 x => FoX_b hbk ⟨h1, h2⟩ x) hn9 hw9 hc9 (fun l _ => RoE_s hR9 hls _ _ _) zL zT).1
          exfalso; omega
      · exfalso; omega
      · have zu := Lw_un (fun q v w h1 h2 x y => Bk_force hbk hcx9 ⟨h1, h2⟩ x y) (fun q v h1 h2 x => FoX_b hbk ⟨h1, h2⟩ x) hn9 hw9 hc9 (fun l _ => RoE_s hR9 hls _ _ _) zL zT
        have ew : wt = wt2 := Bk_force hbk hcx9 ⟨by decide, by decide⟩ f1 k1
        subst ew
        rw [hgr] at f3 f4 f5
        have hg9 := hJI ((v18 : Int32).toInt).toNat (by omega)
        have hy9 : 0 < (fay 12 2 ((v18 : Int32).toInt).toNat).toInt * (1000 + wt) := Int.mul_pos (by omega) (by omega)
        have hf9 := lt_fl hy9 (zu.2 zr) k3
        rw [hf9] at f3 f4 f5
        refine ⟨by omega, by omega, ?_⟩
        rw [show (n33 : Int32).toInt = (ivy 12 67).toInt + 1 from by omega]
        exact PaE_add (N := ((ivy 12 67).toInt).toNat) (by omega) hpa f5 k4 ⟨Or.inl rfl, f3, fun _ => f4, by omega, by decide, by omega, by decide⟩
  have hr8 := hz9.1
  have hp8 := hz9.2.1
  have hpn := hz9.2.2
  refine lv_pop hx hb dL_law_1339 rfl ?_
  refine lv_goto (tgt := 1509) hx hb dL_law_1340 (by decide) ?_
  exact kk _ _ (u2 (u2 (u2 ivx 3 3 n14) 3 4 n15) 6 7 n16) lvx (u2 (u2 (u2 (u2 (u2 (u2 (u2 (u2 fax 1 6 n4) 6 0 n5) 6 1 n6) 6 2 n7) 6 3 n8) 6 4 n9) 6 5 n10) 30 2 n11) (u2 (u2 lax 30 0 n12) 30 1 n13) (u2 (u2 (u2 ivy 12 19 n31) 12 41 n32) 12 67 n33) (u2 (u2 (u2 (u2 (u2 (u2 lvy 12 17 n34) 12 18 n35) 12 44 n36) 12 45 n37) 12 46 n38) 12 47 n39) (u2 (u2 (u2 (u2 (u2 (u2 (u2 (u2 fay 12 39 n20) 12 40 n21) 12 68 n22) 12 69 n23) 12 71 n24) 12 72 n25) 12 73 n26) 12 74 n27) (u2 (u2 (u2 lay 12 42 n28) 12 43 n29) 12 70 n30) (IX_a (c := 30) (k := 2) (IX_a (c := 6) (k := 5) (IX_a (c := 6) (k := 4) (IX_a (c := 6) (k := 3) (IX_a (c := 6) (k := 2) (IX_a (c := 6) (k := 1) (IX_a (c := 6) (k := 0) (IX_a (c := 1) (k := 6) (IX_i (c := 6) (k := 7) (IX_i (c := 3) (k := 4) (IX_i (c := 3) (k := 3) hIx hn14) hn15) hn16) hn4) (fun j => full_i _)) (fun j => full_i _)) (fun j => full_i _)) hn8) (fun j => full_i _)) (fun j => full_i _)) (fun j => full_i _)) (IX_a (c := 12) (k := 74) (IX_a (c := 12) (k := 73) (IX_a (c := 12) (k := 72) (IX_a (c := 12) (k := 71) (IX_a (c := 12) (k := 69) (IX_a (c := 12) (k := 68) (IX_a (c := 12) (k := 40) (IX_a (c := 12) (k := 39) (IX_i (c := 12) (k := 67) (IX_i (c := 12) (k := 41) (IX_i (c := 12) (k := 19) hIy (full_i _)) hn32) hn33) hn20) hn21) (fun j => full_i _)) (fun j => full_i _)) hn24) (fun j => full_i _)) (fun j => full_i _)) (fun j => full_i _)) hJC hJR hJN hJO hq_now hq_bales hq_skeins hq_rules hq_text hq_place (show (n16 : Int32) = n33 from Int32.toInt_inj.mp (by omega)) hrs hls hwd htx hbk hgr hgb hpn hdr hPx hDx hPy hDy hS
set_option maxHeartbeats 4000000 in
set_option maxRecDepth 100000 in
theorem law_33 {p : Program} {e : Env} {s : State} {m : MethodId} {below : List Frame} {meth : Method} {c : Code} (l : Launch) {b L : Nat} {xs : Nat → Int32} (hL : L ≤ 4096) (C0 : lw_At p s m meth c b L xs) {dC : Nat → ClassId} {dI : Nat → Nat → Nat} {A : Nat → Prop} (hA : ∀ q : Nat, s.heap.size ≤ q → A q) (hbA : ¬ A b) (hAs : ∀ q : Nat, A q → s.heap.size ≤ q) {x y : Nat} {gx gy : Nat → Nat → Nat} {cax cay : Nat → Nat → ClassId} {ak av : Nat → Nat} (hKx : va_K (dC, dI) classes (TX cax) s) (hKy : va_K (dC, dI) classes (TM cay) s) (hXY : ∀ a ∈ AdX x gx, ∀ b ∈ AdM y gy, a ≠ b) (hZ : zC ak av A s s.heap) {H : Heap} {locs : List Loc} {ivx : Nat → Nat → Int32} {lvx : Nat → Nat → Int64} {fax : Nat → Nat → Nat → Int32} {lax : Nat → Nat → Nat → Int64} {ivy : Nat → Nat → Int32} {lvy : Nat → Nat → Int64} {fay : Nat → Nat → Nat → Int32} {lay : Nat → Nat → Nat → Int64} (hIx : IX ivx fax) (hIy : IX ivy fay) (hJC : JCf (ivy 12 23).toInt (fay 12 25) (fay 12 26) (fay 12 27) (fay 12 28)) (hJR : JRf (ivy 12 3).toInt (fay 12 7)) (hJN : JNf (ivy 12 3).toInt (fay 12 4) (fay 12 5)) (hJO : ((ivy 12 20).toInt = -1 ∧ (ivy 12 21).toInt = -1 ∧ (ivy 12 22).toInt = -1)) (hq_now : ivx 11 10 = ivy 12 0) (hq_bales : ivx 0 7 = ivy 12 1) (hq_skeins : ivx 10 1 = ivy 12 3) (hq_rules : ivx 1 7 = ivy 12 23) (hq_text : ivx 8 2 = ivy 12 33) (hq_place : ivx 8 3 = ivy 12 36) (hq_papers : ivx 6 7 = ivy 12 67) (hrs : (∀ s : Nat, (s : Int) < (ivy 12 3).toInt → fax 10 0 (9 * s + 0) = fay 12 4 s ∧ fax 10 0 (9 * s + 1) = fay 12 5 s ∧ fax 10 0 (9 * s + 2) = fay 12 6 s ∧ fax 10 0 (9 * s + 3) = fay 12 7 s ∧ fax 10 0 (9 * s + 4) = fay 12 8 s ∧ fax 10 0 (9 * s + 5) = fay 12 9 s ∧ fax 10 0 (9 * s + 6) = fay 12 10 s ∧ fax 10 0 (9 * s + 7) = fay 12 11 s ∧ fax 10 0 (9 * s + 8) = fay 12 12 s)) (hls : (∀ j : Nat, -1 ≤ (fay 12 12 j).toInt)) (hwd : (∀ s : Nat, (s : Int) < (ivy 12 3).toInt → (100 ≤ (fay 12 7 s).toInt ∧ (fay 12 7 s).toInt ≤ 9999) ∧ (50 ≤ (fay 12 8 s).toInt ∧ (fay 12 8 s).toInt ≤ 9999))) (htx : (∀ j : Nat, (fax 8 1 j).toInt = sg (fay 12 32 j).toInt ∧ 0 ≤ (fay 12 32 j).toInt)) (hbk : BkE (ivy 12 23).toInt (fax 1 0) (fax 1 1) (fax 1 2) (fax 1 3) (fax 1 4) (fax 1 5) (fay 12 24) (fay 12 25) (fay 12 26) (fay 12 27) (fay 12 28) (fay 12 29) (fay 12 30) (fay 12 31)) (hgr : (∀ j : Nat, fax 0 0 j = fay 12 2 j)) (hgb : (∀ j : Nat, (j : Int) < (ivx 0 7).toInt → 1 ≤ (fax 0 0 j).toInt ∧ (fax 0 0 j).toInt ≤ 99999)) (hpa : PaE (ivy 12 67).toInt (fax 6 0) (fax 6 1) (fax 6 2) (fax 6 3) (fax 6 4) (fax 6 5) (fay 12 68) (fay 12 69) (lay 12 70) (fay 12 71) (fay 12 72) (fay 12 73)) (hdr : (∀ s : Nat, (s : Int) < (ivy 12 3).toInt → (fay 12 8 s).toInt ≤ (fay 12 7 s).toInt)) (hPx : va_P (dC, dI) classes (WX x gx cax ivx lvx fax lax) H) (hDx : va_D A (WX x gx cax ivx lvx fax lax)) (hPy : va_P (dC, dI) classes (WM y gy cay ivy lvy fay lay) H) (hDy : va_D A (WM y gy cay ivy lvy fay lay)) (hS : va_S A s.heap H locs) {i : Int32} {ls : Array Slot} (hl : lv_has ls 4 [(3, .int i), (2, .ref y), (1, .ref x), (0, .ref b)]) (hi : 0 ≤ i.toInt ∧ i.toInt ≤ 4088) (hi8 : i.toInt + 8 ≤ (L : Int)) (kk : ∀ (H : Heap) (locs : List Loc) (ivx : Nat → Nat → Int32) (lvx : Nat → Nat → Int64) (fax : Nat → Nat → Nat → Int32) (lax : Nat → Nat → Nat → Int64) (ivy : Nat → Nat → Int32) (lvy : Nat → Nat → Int64) (fay : Nat → Nat → Nat → Int32) (lay : Nat → Nat → Nat → Int64), IX ivx fax → IX ivy fay → JCf (ivy 12 23).toInt (fay 12 25) (fay 12 26) (fay 12 27) (fay 12 28) → JRf (ivy 12 3).toInt (fay 12 7) → JNf (ivy 12 3).toInt (fay 12 4) (fay 12 5) → ((ivy 12 20).toInt = -1 ∧ (ivy 12 21).toInt = -1 ∧ (ivy 12 22).toInt = -1) → ivx 11 10 = ivy 12 0 → ivx 0 7 = ivy 12 1 → ivx 10 1 = ivy 12 3 → ivx 1 7 = ivy 12 23 → ivx 8 2 = ivy 12 33 → ivx 8 3 = ivy 12 36 → ivx 6 7 = ivy 12 67 → (∀ s : Nat, (s : Int) < (ivy 12 3).toInt → fax 10 0 (9 * s + 0) = fay 12 4 s ∧ fax 10 0 (9 * s + 1) = fay 12 5 s ∧ fax 10 0 (9 * s + 2) = fay 12 6 s ∧ fax 10 0 (9 * s + 3) = fay 12 7 s ∧ fax 10 0 (9 * s + 4) = fay 12 8 s ∧ fax 10 0 (9 * s + 5) = fay 12 9 s ∧ fax 10 0 (9 * s + 6) = fay 12 10 s ∧ fax 10 0 (9 * s + 7) = fay 12 11 s ∧ fax 10 0 (9 * s + 8) = fay 12 12 s) → (∀ j : Nat, -1 ≤ (fay 12 12 j).toInt) → (∀ s : Nat, (s : Int) < (ivy 12 3).toInt → (100 ≤ (fay 12 7 s).toInt ∧ (fay 12 7 s).toInt ≤ 9999) ∧ (50 ≤ (fay 12 8 s).toInt ∧ (fay 12 8 s).toInt ≤ 9999)) → (∀ j : Nat, (fax 8 1 j).toInt = sg (fay 12 32 j).toInt ∧ 0 ≤ (fay 12 32 j).toInt) → BkE (ivy 12 23).toInt (fax 1 0) (fax 1 1) (fax 1 2) (fax 1 3) (fax 1 4) (fax 1 5) (fay 12 24) (fay 12 25) (fay 12 26) (fay 12 27) (fay 12 28) (fay 12 29) (fay 12 30) (fay 12 31) → (∀ j : Nat, fax 0 0 j = fay 12 2 j) → (∀ j : Nat, (j : Int) < (ivx 0 7).toInt → 1 ≤ (fax 0 0 j).toInt ∧ (fax 0 0 j).toInt ≤ 99999) → PaE (ivy 12 67).toInt (fax 6 0) (fax 6 1) (fax 6 2) (fax 6 3) (fax 6 4) (fax 6 5) (fay 12 68) (fay 12 69) (lay 12 70) (fay 12 71) (fay 12 72) (fay 12 73) → (∀ s : Nat, (s : Int) < (ivy 12 3).toInt → (fay 12 8 s).toInt ≤ (fay 12 7 s).toInt) → va_P (dC, dI) classes (WX x gx cax ivx lvx fax lax) H → va_D A (WX x gx cax ivx lvx fax lax) → va_P (dC, dI) classes (WM y gy cay ivy lvy fay lay) H → va_D A (WM y gy cay ivy lvy fay lay) → va_S A s.heap H locs → W p l e room_1 s m #[Value.ref b] below meth c H locs 98 5431 (lw_Z below #[Value.ref b] s) (F0 m 1509 ls [])) : W p l e room_1 s m #[Value.ref b] below meth c H locs 98 5431 (lw_Z below #[Value.ref b] s) (F0 m 1343 ls []) := by
  obtain ⟨hx, hb, hr, hml, hown, hts, hX, hbl, hlocks, hgv⟩ := id C0
  have ht := tb_of hts
  have hJD := hwd
  have hw8 := congrArg Int32.toInt hq_skeins
  have hJW : ∀ s : Nat, (s : Int) < (ivx 10 1).toInt → (100 ≤ (fax 10 0 (9 * s + 3)).toInt ∧ (fax 10 0 (9 * s + 3)).toInt ≤ 9999) ∧ (50 ≤ (fax 10 0 (9 * s + 4)).toInt ∧ (fax 10 0 (9 * s + 4)).toInt ≤ 9999) := fun s hs => by rw [(hrs s (by omega)).2.2.2.1, (hrs s (by omega)).2.2.2.2.1]; exact hwd s (by omega)
  have hw8r := congrArg Int32.toInt hq_rules
  have hJB : ∀ j : Nat, (j : Int) < (ivx 1 7).toInt → 0 ≤ (fax 1 0 j).toInt := fun j hj => (hbk j (by omega)).2.2.1
  have hJK : ∀ k j : Nat, (k : Int) < (ivy 12 23).toInt → 12 * k ≤ j → (j : Int) < 12 * (k : Int) + (fay 12 25 k).toInt → (fay 12 26 j).toInt = 3 → 0 ≤ (fay 12 28 j).toInt ∧ (fay 12 28 j).toInt < (k : Int) := bk_K hbk
  have hw8b := congrArg Int32.toInt hq_bales
  have hJF : ∀ a d v : Int, 0 ≤ a → a ≤ 5 → FoX (ivx 1 7).toInt (fax 1 0) (fax 1 1) (fax 1 2) (fax 1 3) a d v → fLo a ≤ v ∧ v ≤ fHi a := fun a d v h1 h2 x => by rw [hq_rules] at x; exact FoX_b hbk ⟨h1, h2⟩ x
  have hJH : ∀ a d v : Int, 0 ≤ a → a ≤ 5 → FoY (ivy 12 23).toInt (fay 12 24) (fay 12 25) (fay 12 26) (fay 12 27) (fay 12 28) a d v → fLo a ≤ v ∧ v ≤ fHi a := fun a d v h1 h2 x => FoY_b hbk ⟨h1, h2⟩ x
  have hJG := hgb
  have hJI : ∀ j : Nat, (j : Int) < (ivy 12 1).toInt → 1 ≤ (fay 12 2 j).toInt ∧ (fay 12 2 j).toInt ≤ 99999 := fun j hj => by rw [← hgr j]; exact hgb j (by omega)
  have hJL : ∀ b l : Int32, cn0 (fun s => fax 10 0 (9 * s + 0)) (fun s => fax 10 0 (9 * s + 1)) b l (ivx 10 1).toInt.toNat ≤ 12 := fun b l => by rw [hq_skeins, cn0_congr (ob := fay 12 4) (ol := fay 12 5) _ (fun j hj => ⟨(hrs j (by omega)).1, (hrs j (by omega)).2.1⟩)]; exact hJN b l
  have hw8p := congrArg Int32.toInt hq_papers
  have hJQ : ∀ p : Nat, (p : Int) < (ivy 12 67).toInt → 0 ≤ (lay 12 70 p).toInt ∧ ((fay 12 68 p).toInt = 0 → (lay 12 70 p).toInt ≤ 129998) ∧ (lay 12 70 p).toInt ≤ 129868002 ∧ -1 ≤ (fay 12 71 p).toInt ∧ (fay 12 71 p).toInt < (p : Int) := fun p hp => ⟨(hpa p hp).2.2.1, (hpa p hp).2.2.2.1, (hpa p hp).2.2.2.2.1, (hpa p hp).2.2.2.2.2.1, (hpa p hp).2.2.2.2.2.2.1⟩
  have hJP : ∀ p : Nat, (p : Int) < (ivx 6 7).toInt → 0 ≤ (fax 6 2 p).toInt ∧ ((fax 6 0 p).toInt = 0 → (fax 6 2 p).toInt ≤ 129998) ∧ (fax 6 2 p).toInt ≤ 129868002 ∧ -1 ≤ (fax 6 3 p).toInt ∧ (fax 6 3 p).toInt < (p : Int) := fun p hp => by rw [(hpa p (by omega)).1.1, (hpa p (by omega)).1.2.2.1, (hpa p (by omega)).1.2.2.2.1]; exact hJQ p (by omega)
  have hJS : ∀ s : Nat, (s : Int) < (ivx 10 1).toInt → (fax 10 0 (9 * s + 4)).toInt ≤ (fax 10 0 (9 * s + 3)).toInt := fun s hs => by rw [(hrs s (by omega)).2.2.2.1, (hrs s (by omega)).2.2.2.2.1]; exact hdr s (by omega)
  have hJT : ∀ j : Nat, 0 ≤ (fay 12 32 j).toInt := fun j => (htx j).2
  refine lv_aload_n hx hb dL_law_1343 rfl (lv_at hl 2 rfl) ?_
  refine aw_iconst (v := 1) hx hb hX hbl hbA hS hl hi hi8 (by decide) ⟨by decide, by decide⟩ dL_law_1344 dL_law_1345 dL_law_1346 dL_law_1347 dL_law_1348 (fun v1 ev1 v2 ev2 => ?_)
  refine aw_iconst (v := 2) hx hb hX hbl hbA hS hl hi hi8 (by decide) ⟨by decide, by decide⟩ dL_law_1349 dL_law_1350 dL_law_1351 dL_law_1352 dL_law_1353 (fun v3 ev3 v4 ev4 => ?_)
  have hFc := free_all hDx hS hA
  refine va_calli (va_runV (As := [.int v2, .int v4]) (rest := []) ⟨hx, hb, hml, hown, ht⟩ (c_X11_bill_w l dC dI H.size x gx cax ivx lvx fax lax hIx v2 v4 hJP) (kV 2 ht m_1091 m_1092 m_1093 m_77 m_1094 rfl rfl hd_X11_bill_v ⟨Nat.le_of_ble_eq_true rfl, Nat.le_of_ble_eq_true rfl⟩) (vW hPx hKx hDx (rX_11 hKx hPx)) rfl rfl hl.1 rfl (lv_room (Nat.le_of_ble_eq_true rfl)) dL_law_1354 ⟨Nat.le_of_ble_eq_true rfl, Nat.le_of_ble_eq_true rfl⟩) hS (fun q _ h => hFc q h) hFc (fun r5 u t H1 locs ht9 hvm hr5 hB hz1 hk1 hS => ?_)
  obtain ⟨n6, n7, n8, n9, n10, n11, n12, hn9, hn12, xr5_0, hr5, rfl⟩ := hr5
  obtain ⟨hPx, hDx⟩ := hB
  rw [ht9] at hPx
  have hPy := P_kept hPy (la := AdM y gy) (lb := AdX x gx) wmM wmX (fun a ha b hb => (hXY b hb a ha).symm) hk1
  generalize H1 = H at hPx hPy hS ⊢
  have hPx : va_P (dC, dI) classes (WX x gx cax (u2 ivx 6 7 n12) lvx (u2 (u2 (u2 (u2 (u2 (u2 fax 6 0 n6) 6 1 n7) 6 2 n8) 6 3 n9) 6 4 n10) 6 5 n11) lax) H := hPx
  have hDx : va_D A (WX x gx cax (u2 ivx 6 7 n12) lvx (u2 (u2 (u2 (u2 (u2 (u2 fax 6 0 n6) 6 1 n7) 6 2 n8) 6 3 n9) 6 4 n10) 6 5 n11) lax) := (show va_D _ (WX x gx cax (u2 ivx 6 7 n12) lvx (u2 (u2 (u2 (u2 (u2 (u2 fax 6 0 n6) 6 1 n7) 6 2 n8) 6 3 n9) 6 4 n10) 6 5 n11) lax) from hDx).weaken (fun _ _ _ h => hFc _ h)
  refine lv_pop hx hb dL_law_1357 rfl ?_
  refine lv_aload_n hx hb dL_law_1358 rfl (lv_at hl 1 rfl) ?_
  refine aw_iconst (v := 1) hx hb hX hbl hbA hS hl hi hi8 (by decide) ⟨by decide, by decide⟩ dL_law_1359 dL_law_1360 dL_law_1361 dL_law_1362 dL_law_1363 (fun v13 ev13 v14 ev14 => ?_)
  refine aw_iconst (v := 2) hx hb hX hbl hbA hS hl hi hi8 (by decide) ⟨by decide, by decide⟩ dL_law_1364 dL_law_1365 dL_law_1366 dL_law_1367 dL_law_1368 (fun v15 ev15 v16 ev16 => ?_)
  have hFc := free_all hDy hS hA
  refine va_calli (va_runV (As := [.int v14, .int v16]) (rest := []) ⟨hx, hb, hml, hown, ht⟩ (c_X12_bill_w l dC dI H.size y gy cay ivy lvy fay lay hIy v14 v16 hJQ) (kV 2 ht m_1680 m_1681 m_1682 m_89 m_1683 rfl rfl hd_X12_bill_v ⟨Nat.le_of_ble_eq_true rfl, Nat.le_of_ble_eq_true rfl⟩) (vW hPy hKy hDy (rM_12 hKy hPy)) rfl rfl hl.1 rfl (lv_room (Nat.le_of_ble_eq_true rfl)) dL_law_1369 ⟨Nat.le_of_ble_eq_true rfl, Nat.le_of_ble_eq_true rfl⟩) hS (fun q _ h => hFc q h) hFc (fun r17 u t H1 locs ht9 hvm hr17 hB hz1 hk1 hS => ?_)
  obtain ⟨n18, n19, n20, n21, n22, n23, n24, n25, hn20, hn25, xr17_0, hr17, rfl⟩ := hr17
  obtain ⟨hPy, hDy⟩ := hB
  rw [ht9] at hPy
  have hPx := P_kept hPx (la := AdX x gx) (lb := AdM y gy) wmX wmM hXY hk1
  generalize H1 = H at hPx hPy hS ⊢
  have hPy : va_P (dC, dI) classes (WM y gy cay (u2 ivy 12 67 n25) lvy (u2 (u2 (u2 (u2 (u2 (u2 fay 12 68 n18) 12 69 n19) 12 71 n20) 12 72 n21) 12 73 n22) 12 74 n23) (u2 lay 12 70 n24)) H := hPy
  have hDy : va_D A (WM y gy cay (u2 ivy 12 67 n25) lvy (u2 (u2 (u2 (u2 (u2 (u2 fay 12 68 n18) 12 69 n19) 12 71 n20) 12 72 n21) 12 73 n22) 12 74 n23) (u2 lay 12 70 n24)) := (show va_D _ (WM y gy cay (u2 ivy 12 67 n25) lvy (u2 (u2 (u2 (u2 (u2 (u2 fay 12 68 n18) 12 69 n19) 12 71 n20) 12 72 n21) 12 73 n22) 12 74 n23) (u2 lay 12 70 n24)) from hDy).weaken (fun _ _ _ h => hFc _ h)
  have hv9_0 : (v2 : Int32) = v14 := by rw [ev2, ev14, ev1, ev13]
  have hu9_0 := congrArg Int32.toInt hv9_0
  have hv9_1 : (v4 : Int32) = v16 := by rw [ev4, ev16, ev3, ev15]
  have hu9_1 := congrArg Int32.toInt hv9_1
  have hw9_now := congrArg Int32.toInt hq_now
  have hw9_bales := congrArg Int32.toInt hq_bales
  have hw9_skeins := congrArg Int32.toInt hq_skeins
  have hw9_rules := congrArg Int32.toInt hq_rules
  have hw9_text := congrArg Int32.toInt hq_text
  have hw9_place := congrArg Int32.toInt hq_place
  have hw9_papers := congrArg Int32.toInt hq_papers
  have y9x_0 : ((r5.toInt = -100001 ∧ ¬ (0 ≤ (v2 : Int32).toInt ∧ (v2 : Int32).toInt < (ivx 6 7).toInt) ∧ SmX (fax 6 0) (fax 6 1) (fax 6 2) (fax 6 3) (fax 6 4) (fax 6 5) n6 n7 n8 n9 n10 n11 ∧ n12.toInt = (ivx 6 7).toInt) ∨ (r5.toInt = -100002 ∧ (0 ≤ (v2 : Int32).toInt ∧ (v2 : Int32).toInt < (ivx 6 7).toInt) ∧ ¬ (0 ≤ (v4 : Int32).toInt ∧ (v4 : Int32).toInt ≤ 999) ∧ SmX (fax 6 0) (fax 6 1) (fax 6 2) (fax 6 3) (fax 6 4) (fax 6 5) n6 n7 n8 n9 n10 n11 ∧ n12.toInt = (ivx 6 7).toInt) ∨ (r5.toInt = -100003 ∧ (0 ≤ (v2 : Int32).toInt ∧ (v2 : Int32).toInt < (ivx 6 7).toInt) ∧ (0 ≤ (v4 : Int32).toInt ∧ (v4 : Int32).toInt ≤ 999) ∧ ¬ StX (fax 6 0) (fax 6 5) ((v2 : Int32).toInt).toNat ∧ SmX (fax 6 0) (fax 6 1) (fax 6 2) (fax 6 3) (fax 6 4) (fax 6 5) n6 n7 n8 n9 n10 n11 ∧ n12.toInt = (ivx 6 7).toInt) ∨ (r5.toInt = -100004 ∧ (0 ≤ (v2 : Int32).toInt ∧ (v2 : Int32).toInt < (ivx 6 7).toInt) ∧ (0 ≤ (v4 : Int32).toInt ∧ (v4 : Int32).toInt ≤ 999) ∧ StX (fax 6 0) (fax 6 5) ((v2 : Int32).toInt).toNat ∧ 40 ≤ (ivx 6 7).toInt ∧ SmX (fax 6 0) (fax 6 1) (fax 6 2) (fax 6 3) (fax 6 4) (fax 6 5) n6 n7 n8 n9 n10 n11 ∧ n12.toInt = (ivx 6 7).toInt) ∨ ((0 ≤ (v2 : Int32).toInt ∧ (v2 : Int32).toInt < (ivx 6 7).toInt) ∧ (0 ≤ (v4 : Int32).toInt ∧ (v4 : Int32).toInt ≤ 999) ∧ StX (fax 6 0) (fax 6 5) ((v2 : Int32).toInt).toNat ∧ (ivx 6 7).toInt < 40 ∧ r5.toInt = (ivx 6 7).toInt ∧ n12.toInt = (ivx 6 7).toInt + 1 ∧ ApX ((ivx 6 7).toInt).toNat (fax 6 0) (fax 6 1) (fax 6 2) (fax 6 3) (fax 6 4) (fax 6 5) n6 n7 n8 n9 n10 n11 1 ((fax 6 1) ((v2 : Int32).toInt).toNat).toInt (((fax 6 2) ((v2 : Int32).toInt).toNat).toInt * (v4 : Int32).toInt) (v2 : Int32).toInt (ivx 11 10).toInt)) := xr5_0
  have y9y_0 : ((r17.toInt = -100001 ∧ ¬ (0 ≤ (v14 : Int32).toInt ∧ (v14 : Int32).toInt < (ivy 12 67).toInt) ∧ SmY (fay 12 68) (fay 12 69) (lay 12 70) (fay 12 71) (fay 12 72) (fay 12 73) n18 n19 n24 n20 n21 n22 ∧ n25.toInt = (ivy 12 67).toInt) ∨ (r17.toInt = -100002 ∧ (0 ≤ (v14 : Int32).toInt ∧ (v14 : Int32).toInt < (ivy 12 67).toInt) ∧ ¬ (0 ≤ (v16 : Int32).toInt ∧ (v16 : Int32).toInt ≤ 999) ∧ SmY (fay 12 68) (fay 12 69) (lay 12 70) (fay 12 71) (fay 12 72) (fay 12 73) n18 n19 n24 n20 n21 n22 ∧ n25.toInt = (ivy 12 67).toInt) ∨ (r17.toInt = -100003 ∧ (0 ≤ (v14 : Int32).toInt ∧ (v14 : Int32).toInt < (ivy 12 67).toInt) ∧ (0 ≤ (v16 : Int32).toInt ∧ (v16 : Int32).toInt ≤ 999) ∧ ¬ StY (fay 12 68) (fay 12 73) ((v14 : Int32).toInt).toNat ∧ SmY (fay 12 68) (fay 12 69) (lay 12 70) (fay 12 71) (fay 12 72) (fay 12 73) n18 n19 n24 n20 n21 n22 ∧ n25.toInt = (ivy 12 67).toInt) ∨ (r17.toInt = -100004 ∧ (0 ≤ (v14 : Int32).toInt ∧ (v14 : Int32).toInt < (ivy 12 67).toInt) ∧ (0 ≤ (v16 : Int32).toInt ∧ (v16 : Int32).toInt ≤ 999) ∧ StY (fay 12 68) (fay 12 73) ((v14 : Int32).toInt).toNat ∧ 40 ≤ (ivy 12 67).toInt ∧ SmY (fay 12 68) (fay 12 69) (lay 12 70) (fay 12 71) (fay 12 72) (fay 12 73) n18 n19 n24 n20 n21 n22 ∧ n25.toInt = (ivy 12 67).toInt) ∨ ((0 ≤ (v14 : Int32).toInt ∧ (v14 : Int32).toInt < (ivy 12 67).toInt) ∧ (0 ≤ (v16 : Int32).toInt ∧ (v16 : Int32).toInt ≤ 999) ∧ StY (fay 12 68) (fay 12 73) ((v14 : Int32).toInt).toNat ∧ (ivy 12 67).toInt < 40 ∧ r17.toInt = (ivy 12 67).toInt ∧ n25.toInt = (ivy 12 67).toInt + 1 ∧ ApY ((ivy 12 67).toInt).toNat (fay 12 68) (fay 12 69) (lay 12 70) (fay 12 71) (fay 12 72) (fay 12 73) n18 n19 n24 n20 n21 n22 1 ((fay 12 69) ((v14 : Int32).toInt).toNat).toInt (((lay 12 70) ((v14 : Int32).toInt).toNat).toInt * (v16 : Int32).toInt) (v14 : Int32).toInt (ivy 12 0).toInt)) := xr17_0
  have hb67 : 0 ≤ (ivy 12 67).toInt ∧ (ivy 12 67).toInt ≤ 40 := hIy.1 12 67
  have hb0 : 0 ≤ (ivy 12 0).toInt ∧ (ivy 12 0).toInt ≤ 3000 := hIy.1 12 0
  rw [hv9_0, hv9_1, hq_papers, hq_now] at y9x_0
  have hz9 : (r5 : Int32).toInt = (r17 : Int32).toInt ∧ (n12 : Int32).toInt = (n25 : Int32).toInt ∧ PaE (n25 : Int32).toInt n6 n7 n8 n9 n10 n11 n18 n19 n24 n20 n21 n22 := by
    rcases y9x_0 with ⟨a1, a2, a3, a4⟩ | ⟨a1, a2, a3, a4, a5⟩ | ⟨a1, a2, a3, a4, a5, a6⟩ | ⟨a1, a2, a3, a4, a5, a6, a7⟩ | ⟨a1, a2, a3, a4, a5, a6, a7⟩
    · rcases y9y_0 with ⟨b1, b2, b3, b4⟩ | ⟨b1, b2, b3, b4, b5⟩ | ⟨b1, b2, b3, b4, b5, b6⟩ | ⟨b1, b2, b3, b4, b5, b6, b7⟩ | ⟨b1, b2, b3, b4, b5, b6, b7⟩
      · refine ⟨by omega, by omega, ?_⟩; rw [show (n25 : Int32).toInt = (ivy 12 67).toInt from by omega]; exact PaE_same hpa a3 b3
      · exfalso; omega
      · exfalso; omega
      · exfalso; omega
      · exfalso; omega
    · rcases y9y_0 with ⟨b1, b2, b3, b4⟩ | ⟨b1, b2, b3, b4, b5⟩ | ⟨b1, b2, b3, b4, b5, b6⟩ | ⟨b1, b2, b3, b4, b5, b6, b7⟩ | ⟨b1, b2, b3, b4, b5, b6, b7⟩
      · exfalso; omega
      · refine ⟨by omega, by omega, ?_⟩; rw [show (n25 : Int32).toInt = (ivy 12 67).toInt from by omega]; exact PaE_same hpa a4 b4
      · exfalso; omega
      · exfalso; omega
      · exfalso; omega
    · rcases y9y_0 with ⟨b1, b2, b3, b4⟩ | ⟨b1, b2, b3, b4, b5⟩ | ⟨b1, b2, b3, b4, b5, b6⟩ | ⟨b1, b2, b3, b4, b5, b6, b7⟩ | ⟨b1, b2, b3, b4, b5, b6, b7⟩
      · exfalso; omega
      · exfalso; omega
      · refine ⟨by omega, by omega, ?_⟩; rw [show (n25 : Int32).toInt = (ivy 12 67).toInt from by omega]; exact PaE_same hpa a5 b5
      · exact absurd (by have hst := St_xy hpa (p := ((v14 : Int32).toInt).toNat) (by omega); exact hst.mpr b4) a4
      · exact absurd (by have hst := St_xy hpa (p := ((v14 : Int32).toInt).toNat) (by omega); exact hst.mpr b3) a4
    · rcases y9y_0 with ⟨b1, b2, b3, b4⟩ | ⟨b1, b2, b3, b4, b5⟩ | ⟨b1, b2, b3, b4, b5, b6⟩ | ⟨b1, b2, b3, b4, b5, b6, b7⟩ | ⟨b1, b2, b3, b4, b5, b6, b7⟩
      · exfalso; omega
      · exfalso; omega
      · exact absurd (by have hst := St_xy hpa (p := ((v14 : Int32).toInt).toNat) (by omega); exact hst.mp a4) b4
      · refine ⟨by omega, by omega, ?_⟩; rw [show (n25 : Int32).toInt = (ivy 12 67).toInt from by omega]; exact PaE_same hpa a6 b6
      · exfalso; omega
    · rcases y9y_0 with ⟨b1, b2, b3, b4⟩ | ⟨b1, b2, b3, b4, b5⟩ | ⟨b1, b2, b3, b4, b5, b6⟩ | ⟨b1, b2, b3, b4, b5, b6, b7⟩ | ⟨b1, b2, b3, b4, b5, b6, b7⟩
      · exfalso; omega
      · exfalso; omega
      · exact absurd (by have hst := St_xy hpa (p := ((v14 : Int32).toInt).toNat) (by omega); exact hst.mp a3) b4
      · exfalso; omega
      · obtain ⟨hE, g1, g2, g3, g4, g5, g6, g7⟩ := hpa ((v14 : Int32).toInt).toNat (by omega)
        have hk9 : (fay 12 68 ((v14 : Int32).toInt).toNat).toInt = 0 := b3.1
        have hm9 := mul_b (x := (lay 12 70 ((v14 : Int32).toInt).toNat).toInt) (y := (v16 : Int32).toInt) (a1 := 0) (a2 := 0) (b1 := 129998) (b2 := 999) (by omega) (by omega) (by omega) (by omega) (by decide) (by decide)
        rw [hE.2.1, hE.2.2.1] at a7
        refine ⟨by omega, by omega, ?_⟩
        rw [show (n25 : Int32).toInt = (ivy 12 67).toInt + 1 from by omega]
        exact PaE_add (N := ((ivy 12 67).toInt).toNat) (by omega) hpa a7 b7 ⟨Or.inr rfl, by omega, fun z => absurd z (by decide), by omega, by omega, by omega, by decide⟩
  have hr8 := hz9.1
  have hp8 := hz9.2.1
  have hpn := hz9.2.2
  refine lv_pop hx hb dL_law_1372 rfl ?_
  refine lv_goto (tgt := 1509) hx hb dL_law_1373 (by decide) ?_
  exact kk _ _ (u2 ivx 6 7 n12) lvx (u2 (u2 (u2 (u2 (u2 (u2 fax 6 0 n6) 6 1 n7) 6 2 n8) 6 3 n9) 6 4 n10) 6 5 n11) lax (u2 ivy 12 67 n25) lvy (u2 (u2 (u2 (u2 (u2 (u2 fay 12 68 n18) 12 69 n19) 12 71 n20) 12 72 n21) 12 73 n22) 12 74 n23) (u2 lay 12 70 n24) (IX_a (c := 6) (k := 5) (IX_a (c := 6) (k := 4) (IX_a (c := 6) (k := 3) (IX_a (c := 6) (k := 2) (IX_a (c := 6) (k := 1) (IX_a (c := 6) (k := 0) (IX_i (c := 6) (k := 7) hIx hn12) (fun j => full_i _)) (fun j => full_i _)) (fun j => full_i _)) hn9) (fun j => full_i _)) (fun j => full_i _)) (IX_a (c := 12) (k := 74) (IX_a (c := 12) (k := 73) (IX_a (c := 12) (k := 72) (IX_a (c := 12) (k := 71) (IX_a (c := 12) (k := 69) (IX_a (c := 12) (k := 68) (IX_i (c := 12) (k := 67) hIy hn25) (fun j => full_i _)) (fun j => full_i _)) hn20) (fun j => full_i _)) (fun j => full_i _)) (fun j => full_i _)) hJC hJR hJN hJO hq_now hq_bales hq_skeins hq_rules hq_text hq_place (show (n12 : Int32) = n25 from Int32.toInt_inj.mp (by omega)) hrs hls hwd htx hbk hgr hgb hpn hdr hPx hDx hPy hDy hS
set_option maxHeartbeats 4000000 in
set_option maxRecDepth 100000 in
theorem law_34 {p : Program} {e : Env} {s : State} {m : MethodId} {below : List Frame} {meth : Method} {c : Code} (l : Launch) {b L : Nat} {xs : Nat → Int32} (hL : L ≤ 4096) (C0 : lw_At p s m meth c b L xs) {dC : Nat → ClassId} {dI : Nat → Nat → Nat} {A : Nat → Prop} (hA : ∀ q : Nat, s.heap.size ≤ q → A q) (hbA : ¬ A b) (hAs : ∀ q : Nat, A q → s.heap.size ≤ q) {x y : Nat} {gx gy : Nat → Nat → Nat} {cax cay : Nat → Nat → ClassId} {ak av : Nat → Nat} (hKx : va_K (dC, dI) classes (TX cax) s) (hKy : va_K (dC, dI) classes (TM cay) s) (hXY : ∀ a ∈ AdX x gx, ∀ b ∈ AdM y gy, a ≠ b) (hZ : zC ak av A s s.heap) {H : Heap} {locs : List Loc} {ivx : Nat → Nat → Int32} {lvx : Nat → Nat → Int64} {fax : Nat → Nat → Nat → Int32} {lax : Nat → Nat → Nat → Int64} {ivy : Nat → Nat → Int32} {lvy : Nat → Nat → Int64} {fay : Nat → Nat → Nat → Int32} {lay : Nat → Nat → Nat → Int64} (hIx : IX ivx fax) (hIy : IX ivy fay) (hJC : JCf (ivy 12 23).toInt (fay 12 25) (fay 12 26) (fay 12 27) (fay 12 28)) (hJR : JRf (ivy 12 3).toInt (fay 12 7)) (hJN : JNf (ivy 12 3).toInt (fay 12 4) (fay 12 5)) (hJO : ((ivy 12 20).toInt = -1 ∧ (ivy 12 21).toInt = -1 ∧ (ivy 12 22).toInt = -1)) (hq_now : ivx 11 10 = ivy 12 0) (hq_bales : ivx 0 7 = ivy 12 1) (hq_skeins : ivx 10 1 = ivy 12 3) (hq_rules : ivx 1 7 = ivy 12 23) (hq_text : ivx 8 2 = ivy 12 33) (hq_place : ivx 8 3 = ivy 12 36) (hq_papers : ivx 6 7 = ivy 12 67) (hrs : (∀ s : Nat, (s : Int) < (ivy 12 3).toInt → fax 10 0 (9 * s + 0) = fay 12 4 s ∧ fax 10 0 (9 * s + 1) = fay 12 5 s ∧ fax 10 0 (9 * s + 2) = fay 12 6 s ∧ fax 10 0 (9 * s + 3) = fay 12 7 s ∧ fax 10 0 (9 * s + 4) = fay 12 8 s ∧ fax 10 0 (9 * s + 5) = fay 12 9 s ∧ fax 10 0 (9 * s + 6) = fay 12 10 s ∧ fax 10 0 (9 * s + 7) = fay 12 11 s ∧ fax 10 0 (9 * s + 8) = fay 12 12 s)) (hls : (∀ j : Nat, -1 ≤ (fay 12 12 j).toInt)) (hwd : (∀ s : Nat, (s : Int) < (ivy 12 3).toInt → (100 ≤ (fay 12 7 s).toInt ∧ (fay 12 7 s).toInt ≤ 9999) ∧ (50 ≤ (fay 12 8 s).toInt ∧ (fay 12 8 s).toInt ≤ 9999))) (htx : (∀ j : Nat, (fax 8 1 j).toInt = sg (fay 12 32 j).toInt ∧ 0 ≤ (fay 12 32 j).toInt)) (hbk : BkE (ivy 12 23).toInt (fax 1 0) (fax 1 1) (fax 1 2) (fax 1 3) (fax 1 4) (fax 1 5) (fay 12 24) (fay 12 25) (fay 12 26) (fay 12 27) (fay 12 28) (fay 12 29) (fay 12 30) (fay 12 31)) (hgr : (∀ j : Nat, fax 0 0 j = fay 12 2 j)) (hgb : (∀ j : Nat, (j : Int) < (ivx 0 7).toInt → 1 ≤ (fax 0 0 j).toInt ∧ (fax 0 0 j).toInt ≤ 99999)) (hpa : PaE (ivy 12 67).toInt (fax 6 0) (fax 6 1) (fax 6 2) (fax 6 3) (fax 6 4) (fax 6 5) (fay 12 68) (fay 12 69) (lay 12 70) (fay 12 71) (fay 12 72) (fay 12 73)) (hdr : (∀ s : Nat, (s : Int) < (ivy 12 3).toInt → (fay 12 8 s).toInt ≤ (fay 12 7 s).toInt)) (hPx : va_P (dC, dI) classes (WX x gx cax ivx lvx fax lax) H) (hDx : va_D A (WX x gx cax ivx lvx fax lax)) (hPy : va_P (dC, dI) classes (WM y gy cay ivy lvy fay lay) H) (hDy : va_D A (WM y gy cay ivy lvy fay lay)) (hS : va_S A s.heap H locs) {i : Int32} {ls : Array Slot} (hl : lv_has ls 4 [(3, .int i), (2, .ref y), (1, .ref x), (0, .ref b)]) (hi : 0 ≤ i.toInt ∧ i.toInt ≤ 4088) (hi8 : i.toInt + 8 ≤ (L : Int)) (kk : ∀ (H : Heap) (locs : List Loc) (ivx : Nat → Nat → Int32) (lvx : Nat → Nat → Int64) (fax : Nat → Nat → Nat → Int32) (lax : Nat → Nat → Nat → Int64) (ivy : Nat → Nat → Int32) (lvy : Nat → Nat → Int64) (fay : Nat → Nat → Nat → Int32) (lay : Nat → Nat → Nat → Int64), IX ivx fax → IX ivy fay → JCf (ivy 12 23).toInt (fay 12 25) (fay 12 26) (fay 12 27) (fay 12 28) → JRf (ivy 12 3).toInt (fay 12 7) → JNf (ivy 12 3).toInt (fay 12 4) (fay 12 5) → ((ivy 12 20).toInt = -1 ∧ (ivy 12 21).toInt = -1 ∧ (ivy 12 22).toInt = -1) → ivx 11 10 = ivy 12 0 → ivx 0 7 = ivy 12 1 → ivx 10 1 = ivy 12 3 → ivx 1 7 = ivy 12 23 → ivx 8 2 = ivy 12 33 → ivx 8 3 = ivy 12 36 → ivx 6 7 = ivy 12 67 → (∀ s : Nat, (s : Int) < (ivy 12 3).toInt → fax 10 0 (9 * s + 0) = fay 12 4 s ∧ fax 10 0 (9 * s + 1) = fay 12 5 s ∧ fax 10 0 (9 * s + 2) = fay 12 6 s ∧ fax 10 0 (9 * s + 3) = fay 12 7 s ∧ fax 10 0 (9 * s + 4) = fay 12 8 s ∧ fax 10 0 (9 * s + 5) = fay 12 9 s ∧ fax 10 0 (9 * s + 6) = fay 12 10 s ∧ fax 10 0 (9 * s + 7) = fay 12 11 s ∧ fax 10 0 (9 * s + 8) = fay 12 12 s) → (∀ j : Nat, -1 ≤ (fay 12 12 j).toInt) → (∀ s : Nat, (s : Int) < (ivy 12 3).toInt → (100 ≤ (fay 12 7 s).toInt ∧ (fay 12 7 s).toInt ≤ 9999) ∧ (50 ≤ (fay 12 8 s).toInt ∧ (fay 12 8 s).toInt ≤ 9999)) → (∀ j : Nat, (fax 8 1 j).toInt = sg (fay 12 32 j).toInt ∧ 0 ≤ (fay 12 32 j).toInt) → BkE (ivy 12 23).toInt (fax 1 0) (fax 1 1) (fax 1 2) (fax 1 3) (fax 1 4) (fax 1 5) (fay 12 24) (fay 12 25) (fay 12 26) (fay 12 27) (fay 12 28) (fay 12 29) (fay 12 30) (fay 12 31) → (∀ j : Nat, fax 0 0 j = fay 12 2 j) → (∀ j : Nat, (j : Int) < (ivx 0 7).toInt → 1 ≤ (fax 0 0 j).toInt ∧ (fax 0 0 j).toInt ≤ 99999) → PaE (ivy 12 67).toInt (fax 6 0) (fax 6 1) (fax 6 2) (fax 6 3) (fax 6 4) (fax 6 5) (fay 12 68) (fay 12 69) (lay 12 70) (fay 12 71) (fay 12 72) (fay 12 73) → (∀ s : Nat, (s : Int) < (ivy 12 3).toInt → (fay 12 8 s).toInt ≤ (fay 12 7 s).toInt) → va_P (dC, dI) classes (WX x gx cax ivx lvx fax lax) H → va_D A (WX x gx cax ivx lvx fax lax) → va_P (dC, dI) classes (WM y gy cay ivy lvy fay lay) H → va_D A (WM y gy cay ivy lvy fay lay) → va_S A s.heap H locs → W p l e room_1 s m #[Value.ref b] below meth c H locs 98 5431 (lw_Z below #[Value.ref b] s) (F0 m 1509 ls [])) : W p l e room_1 s m #[Value.ref b] below meth c H locs 98 5431 (lw_Z below #[Value.ref b] s) (F0 m 1376 ls []) := by
  obtain ⟨hx, hb, hr, hml, hown, hts, hX, hbl, hlocks, hgv⟩ := id C0
  have ht := tb_of hts
  have hJD := hwd
  have hw8 := congrArg Int32.toInt hq_skeins
  have hJW : ∀ s : Nat, (s : Int) < (ivx 10 1).toInt → (100 ≤ (fax 10 0 (9 * s + 3)).toInt ∧ (fax 10 0 (9 * s + 3)).toInt ≤ 9999) ∧ (50 ≤ (fax 10 0 (9 * s + 4)).toInt ∧ (fax 10 0 (9 * s + 4)).toInt ≤ 9999) := fun s hs => by rw [(hrs s (by omega)).2.2.2.1, (hrs s (by omega)).2.2.2.2.1]; exact hwd s (by omega)
  have hw8r := congrArg Int32.toInt hq_rules
  have hJB : ∀ j : Nat, (j : Int) < (ivx 1 7).toInt → 0 ≤ (fax 1 0 j).toInt := fun j hj => (hbk j (by omega)).2.2.1
  have hJK : ∀ k j : Nat, (k : Int) < (ivy 12 23).toInt → 12 * k ≤ j → (j : Int) < 12 * (k : Int) + (fay 12 25 k).toInt → (fay 12 26 j).toInt = 3 → 0 ≤ (fay 12 28 j).toInt ∧ (fay 12 28 j).toInt < (k : Int) := bk_K hbk
  have hw8b := congrArg Int32.toInt hq_bales
  have hJF : ∀ a d v : Int, 0 ≤ a → a ≤ 5 → FoX (ivx 1 7).toInt (fax 1 0) (fax 1 1) (fax 1 2) (fax 1 3) a d v → fLo a ≤ v ∧ v ≤ fHi a := fun a d v h1 h2 x => by rw [hq_rules] at x; exact FoX_b hbk ⟨h1, h2⟩ x
  have hJH : ∀ a d v : Int, 0 ≤ a → a ≤ 5 → FoY (ivy 12 23).toInt (fay 12 24) (fay 12 25) (fay 12 26) (fay 12 27) (fay 12 28) a d v → fLo a ≤ v ∧ v ≤ fHi a := fun a d v h1 h2 x => FoY_b hbk ⟨h1, h2⟩ x
  have hJG := hgb
  have hJI : ∀ j : Nat, (j : Int) < (ivy 12 1).toInt → 1 ≤ (fay 12 2 j).toInt ∧ (fay 12 2 j).toInt ≤ 99999 := fun j hj => by rw [← hgr j]; exact hgb j (by omega)
  have hJL : ∀ b l : Int32, cn0 (fun s => fax 10 0 (9 * s + 0)) (fun s => fax 10 0 (9 * s + 1)) b l (ivx 10 1).toInt.toNat ≤ 12 := fun b l => by rw [hq_skeins, cn0_congr (ob := fay 12 4) (ol := fay 12 5) _ (fun j hj => ⟨(hrs j (by omega)).1, (hrs j (by omega)).2.1⟩)]; exact hJN b l
  have hw8p := congrArg Int32.toInt hq_papers
  have hJQ : ∀ p : Nat, (p : Int) < (ivy 12 67).toInt → 0 ≤ (lay 12 70 p).toInt ∧ ((fay 12 68 p).toInt = 0 → (lay 12 70 p).toInt ≤ 129998) ∧ (lay 12 70 p).toInt ≤ 129868002 ∧ -1 ≤ (fay 12 71 p).toInt ∧ (fay 12 71 p).toInt < (p : Int) := fun p hp => ⟨(hpa p hp).2.2.1, (hpa p hp).2.2.2.1, (hpa p hp).2.2.2.2.1, (hpa p hp).2.2.2.2.2.1, (hpa p hp).2.2.2.2.2.2.1⟩
  have hJP : ∀ p : Nat, (p : Int) < (ivx 6 7).toInt → 0 ≤ (fax 6 2 p).toInt ∧ ((fax 6 0 p).toInt = 0 → (fax 6 2 p).toInt ≤ 129998) ∧ (fax 6 2 p).toInt ≤ 129868002 ∧ -1 ≤ (fax 6 3 p).toInt ∧ (fax 6 3 p).toInt < (p : Int) := fun p hp => by rw [(hpa p (by omega)).1.1, (hpa p (by omega)).1.2.2.1, (hpa p (by omega)).1.2.2.2.1]; exact hJQ p (by omega)
  have hJS : ∀ s : Nat, (s : Int) < (ivx 10 1).toInt → (fax 10 0 (9 * s + 4)).toInt ≤ (fax 10 0 (9 * s + 3)).toInt := fun s hs => by rw [(hrs s (by omega)).2.2.2.1, (hrs s (by omega)).2.2.2.2.1]; exact hdr s (by omega)
  have hJT : ∀ j : Nat, 0 ≤ (fay 12 32 j).toInt := fun j => (htx j).2
  refine lv_aload_n hx hb dL_law_1376 rfl (lv_at hl 2 rfl) ?_
  refine aw_iconst (v := 1) hx hb hX hbl hbA hS hl hi hi8 (by decide) ⟨by decide, by decide⟩ dL_law_1377 dL_law_1378 dL_law_1379 dL_law_1380 dL_law_1381 (fun v1 ev1 v2 ev2 => ?_)
  refine aw_iconst (v := 2) hx hb hX hbl hbA hS hl hi hi8 (by decide) ⟨by decide, by decide⟩ dL_law_1382 dL_law_1383 dL_law_1384 dL_law_1385 dL_law_1386 (fun v3 ev3 v4 ev4 => ?_)
  refine aw_iconst (v := 3) hx hb hX hbl hbA hS hl hi hi8 (by decide) ⟨by decide, by decide⟩ dL_law_1387 dL_law_1388 dL_law_1389 dL_law_1390 dL_law_1391 (fun v5 ev5 v6 ev6 => ?_)
  have hFc := free_all hDx hS hA
  refine va_calli (va_runV (As := [.int v2, .int v4, .int v6]) (rest := []) ⟨hx, hb, hml, hown, ht⟩ (c_X11_cut_w l dC dI H.size x gx cax ivx lvx fax lax hIx v2 v4 v6) (kV 3 ht m_1100 m_1101 m_1102 m_77 m_1103 rfl rfl hd_X11_cut_v ⟨Nat.le_of_ble_eq_true rfl, Nat.le_of_ble_eq_true rfl⟩) (vW hPx hKx hDx (rX_11 hKx hPx)) rfl rfl hl.1 rfl (lv_room (Nat.le_of_ble_eq_true rfl)) dL_law_1392 ⟨Nat.le_of_ble_eq_true rfl, Nat.le_of_ble_eq_true rfl⟩) hS (fun q _ h => hFc q h) hFc (fun r7 u t H1 locs ht9 hvm hr7 hB hz1 hk1 hS => ?_)
  obtain ⟨n8, n9, n10, n11, n12, n13, n14, hn11, hn14, xr7_0, hr7, rfl⟩ := hr7
  obtain ⟨hPx, hDx⟩ := hB
  rw [ht9] at hPx
  have hPy := P_kept hPy (la := AdM y gy) (lb := AdX x gx) wmM wmX (fun a ha b hb => (hXY b hb a ha).symm) hk1
  generalize H1 = H at hPx hPy hS ⊢
  have hPx : va_P (dC, dI) classes (WX x gx cax (u2 ivx 6 7 n14) lvx (u2 (u2 (u2 (u2 (u2 (u2 fax 6 0 n8) 6 1 n9) 6 2 n10) 6 3 n11) 6 4 n12) 6 5 n13) lax) H := hPx
  have hDx : va_D A (WX x gx cax (u2 ivx 6 7 n14) lvx (u2 (u2 (u2 (u2 (u2 (u2 fax 6 0 n8) 6 1 n9) 6 2 n10) 6 3 n11) 6 4 n12) 6 5 n13) lax) := (show va_D _ (WX x gx cax (u2 ivx 6 7 n14) lvx (u2 (u2 (u2 (u2 (u2 (u2 fax 6 0 n8) 6 1 n9) 6 2 n10) 6 3 n11) 6 4 n12) 6 5 n13) lax) from hDx).weaken (fun _ _ _ h => hFc _ h)
  refine lv_pop hx hb dL_law_1395 rfl ?_
  refine lv_aload_n hx hb dL_law_1396 rfl (lv_at hl 1 rfl) ?_
  refine aw_iconst (v := 1) hx hb hX hbl hbA hS hl hi hi8 (by decide) ⟨by decide, by decide⟩ dL_law_1397 dL_law_1398 dL_law_1399 dL_law_1400 dL_law_1401 (fun v15 ev15 v16 ev16 => ?_)
  refine aw_iconst (v := 2) hx hb hX hbl hbA hS hl hi hi8 (by decide) ⟨by decide, by decide⟩ dL_law_1402 dL_law_1403 dL_law_1404 dL_law_1405 dL_law_1406 (fun v17 ev17 v18 ev18 => ?_)
  refine aw_iconst (v := 3) hx hb hX hbl hbA hS hl hi hi8 (by decide) ⟨by decide, by decide⟩ dL_law_1407 dL_law_1408 dL_law_1409 dL_law_1410 dL_law_1411 (fun v19 ev19 v20 ev20 => ?_)
  have hFc := free_all hDy hS hA
  refine va_calli (va_runV (As := [.int v16, .int v18, .int v20]) (rest := []) ⟨hx, hb, hml, hown, ht⟩ (c_X12_cut_w l dC dI H.size y gy cay ivy lvy fay lay hIy v16 v18 v20) (kV 3 ht m_1692 m_1693 m_1694 m_89 m_1695 rfl rfl hd_X12_cut_v ⟨Nat.le_of_ble_eq_true rfl, Nat.le_of_ble_eq_true rfl⟩) (vW hPy hKy hDy (rM_12 hKy hPy)) rfl rfl hl.1 rfl (lv_room (Nat.le_of_ble_eq_true rfl)) dL_law_1412 ⟨Nat.le_of_ble_eq_true rfl, Nat.le_of_ble_eq_true rfl⟩) hS (fun q _ h => hFc q h) hFc (fun r21 u t H1 locs ht9 hvm hr21 hB hz1 hk1 hS => ?_)
  obtain ⟨n22, n23, n24, n25, n26, n27, n28, n29, hn24, hn29, xr21_0, hr21, rfl⟩ := hr21
  obtain ⟨hPy, hDy⟩ := hB
  rw [ht9] at hPy
  have hPx := P_kept hPx (la := AdX x gx) (lb := AdM y gy) wmX wmM hXY hk1
  generalize H1 = H at hPx hPy hS ⊢
  have hPy : va_P (dC, dI) classes (WM y gy cay (u2 ivy 12 67 n29) lvy (u2 (u2 (u2 (u2 (u2 (u2 fay 12 68 n22) 12 69 n23) 12 71 n24) 12 72 n25) 12 73 n26) 12 74 n27) (u2 lay 12 70 n28)) H := hPy
  have hDy : va_D A (WM y gy cay (u2 ivy 12 67 n29) lvy (u2 (u2 (u2 (u2 (u2 (u2 fay 12 68 n22) 12 69 n23) 12 71 n24) 12 72 n25) 12 73 n26) 12 74 n27) (u2 lay 12 70 n28)) := (show va_D _ (WM y gy cay (u2 ivy 12 67 n29) lvy (u2 (u2 (u2 (u2 (u2 (u2 fay 12 68 n22) 12 69 n23) 12 71 n24) 12 72 n25) 12 73 n26) 12 74 n27) (u2 lay 12 70 n28)) from hDy).weaken (fun _ _ _ h => hFc _ h)
  have hv9_0 : (v2 : Int32) = v16 := by rw [ev2, ev16, ev1, ev15]
  have hu9_0 := congrArg Int32.toInt hv9_0
  have hv9_1 : (v4 : Int32) = v18 := by rw [ev4, ev18, ev3, ev17]
  have hu9_1 := congrArg Int32.toInt hv9_1
  have hv9_2 : (v6 : Int32) = v20 := by rw [ev6, ev20, ev5, ev19]
  have hu9_2 := congrArg Int32.toInt hv9_2
  have hw9_now := congrArg Int32.toInt hq_now
  have hw9_bales := congrArg Int32.toInt hq_bales
  have hw9_skeins := congrArg Int32.toInt hq_skeins
  have hw9_rules := congrArg Int32.toInt hq_rules
  have hw9_text := congrArg Int32.toInt hq_text
  have hw9_place := congrArg Int32.toInt hq_place
  have hw9_papers := congrArg Int32.toInt hq_papers
  have y9x_0 : ((r7.toInt = -100001 ∧ ¬ (0 ≤ (v2 : Int32).toInt ∧ (v2 : Int32).toInt < (ivx 6 7).toInt) ∧ SmX (fax 6 0) (fax 6 1) (fax 6 2) (fax 6 3) (fax 6 4) (fax 6 5) n8 n9 n10 n11 n12 n13 ∧ n14.toInt = (ivx 6 7).toInt) ∨ (r7.toInt = -100002 ∧ (0 ≤ (v2 : Int32).toInt ∧ (v2 : Int32).toInt < (ivx 6 7).toInt) ∧ ¬ (1 ≤ (v4 : Int32).toInt ∧ 1 ≤ (v6 : Int32).toInt ∧ (v4 : Int32).toInt + (v6 : Int32).toInt = ((fax 6 2) ((v2 : Int32).toInt).toNat).toInt) ∧ SmX (fax 6 0) (fax 6 1) (fax 6 2) (fax 6 3) (fax 6 4) (fax 6 5) n8 n9 n10 n11 n12 n13 ∧ n14.toInt = (ivx 6 7).toInt) ∨ (r7.toInt = -100003 ∧ (0 ≤ (v2 : Int32).toInt ∧ (v2 : Int32).toInt < (ivx 6 7).toInt) ∧ (1 ≤ (v4 : Int32).toInt ∧ 1 ≤ (v6 : Int32).toInt ∧ (v4 : Int32).toInt + (v6 : Int32).toInt = ((fax 6 2) ((v2 : Int32).toInt).toNat).toInt) ∧ ¬ (StX (fax 6 0) (fax 6 5) ((v2 : Int32).toInt).toNat ∧ ¬ BiX (ivx 6 7).toInt (fax 6 0) (fax 6 3) (fax 6 5) (v2 : Int32).toInt) ∧ SmX (fax 6 0) (fax 6 1) (fax 6 2) (fax 6 3) (fax 6 4) (fax 6 5) n8 n9 n10 n11 n12 n13 ∧ n14.toInt = (ivx 6 7).toInt) ∨ (r7.toInt = -100004 ∧ (0 ≤ (v2 : Int32).toInt ∧ (v2 : Int32).toInt < (ivx 6 7).toInt) ∧ (1 ≤ (v4 : Int32).toInt ∧ 1 ≤ (v6 : Int32).toInt ∧ (v4 : Int32).toInt + (v6 : Int32).toInt = ((fax 6 2) ((v2 : Int32).toInt).toNat).toInt) ∧ (StX (fax 6 0) (fax 6 5) ((v2 : Int32).toInt).toNat ∧ ¬ BiX (ivx 6 7).toInt (fax 6 0) (fax 6 3) (fax 6 5) (v2 : Int32).toInt) ∧ 39 ≤ (ivx 6 7).toInt ∧ SmX (fax 6 0) (fax 6 1) (fax 6 2) (fax 6 3) (fax 6 4) (fax 6 5) n8 n9 n10 n11 n12 n13 ∧ n14.toInt = (ivx 6 7).toInt) ∨ ((0 ≤ (v2 : Int32).toInt ∧ (v2 : Int32).toInt < (ivx 6 7).toInt) ∧ (1 ≤ (v4 : Int32).toInt ∧ 1 ≤ (v6 : Int32).toInt ∧ (v4 : Int32).toInt + (v6 : Int32).toInt = ((fax 6 2) ((v2 : Int32).toInt).toNat).toInt) ∧ (StX (fax 6 0) (fax 6 5) ((v2 : Int32).toInt).toNat ∧ ¬ BiX (ivx 6 7).toInt (fax 6 0) (fax 6 3) (fax 6 5) (v2 : Int32).toInt) ∧ (ivx 6 7).toInt < 39 ∧ r7.toInt = (ivx 6 7).toInt ∧ n14.toInt = (ivx 6 7).toInt + 2 ∧ ∃ v k1 b1 a1 o1 d1 u1 : Nat → Int32, (∀ j : Nat, j ≠ ((v2 : Int32).toInt).toNat → v j = (fax 6 5) j) ∧ (v ((v2 : Int32).toInt).toNat).toInt = (ivx 11 10).toInt ∧ ApX ((ivx 6 7).toInt).toNat (fax 6 0) (fax 6 1) (fax 6 2) (fax 6 3) (fax 6 4) v k1 b1 a1 o1 d1 u1 0 ((fax 6 1) ((v2 : Int32).toInt).toNat).toInt (v4 : Int32).toInt (v2 : Int32).toInt (ivx 11 10).toInt ∧ ApX (((ivx 6 7).toInt).toNat + 1) k1 b1 a1 o1 d1 u1 n8 n9 n10 n11 n12 n13 0 ((fax 6 1) ((v2 : Int32).toInt).toNat).toInt (v6 : Int32).toInt (v2 : Int32).toInt (ivx 11 10).toInt)) := xr7_0
  have y9y_0 : ((r21.toInt = -100001 ∧ ¬ (0 ≤ (v16 : Int32).toInt ∧ (v16 : Int32).toInt < (ivy 12 67).toInt) ∧ SmY (fay 12 68) (fay 12 69) (lay 12 70) (fay 12 71) (fay 12 72) (fay 12 73) n22 n23 n28 n24 n25 n26 ∧ n29.toInt = (ivy 12 67).toInt) ∨ (r21.toInt = -100002 ∧ (0 ≤ (v16 : Int32).toInt ∧ (v16 : Int32).toInt < (ivy 12 67).toInt) ∧ ¬ (1 ≤ (v18 : Int32).toInt ∧ 1 ≤ (v20 : Int32).toInt ∧ (v18 : Int32).toInt + (v20 : Int32).toInt = ((lay 12 70) ((v16 : Int32).toInt).toNat).toInt) ∧ SmY (fay 12 68) (fay 12 69) (lay 12 70) (fay 12 71) (fay 12 72) (fay 12 73) n22 n23 n28 n24 n25 n26 ∧ n29.toInt = (ivy 12 67).toInt) ∨ (r21.toInt = -100003 ∧ (0 ≤ (v16 : Int32).toInt ∧ (v16 : Int32).toInt < (ivy 12 67).toInt) ∧ (1 ≤ (v18 : Int32).toInt ∧ 1 ≤ (v20 : Int32).toInt ∧ (v18 : Int32).toInt + (v20 : Int32).toInt = ((lay 12 70) ((v16 : Int32).toInt).toNat).toInt) ∧ ¬ (StY (fay 12 68) (fay 12 73) ((v16 : Int32).toInt).toNat ∧ ¬ BiY (ivy 12 67).toInt (fay 12 68) (fay 12 71) (fay 12 73) (v16 : Int32).toInt) ∧ SmY (fay 12 68) (fay 12 69) (lay 12 70) (fay 12 71) (fay 12 72) (fay 12 73) n22 n23 n28 n24 n25 n26 ∧ n29.toInt = (ivy 12 67).toInt) ∨ (r21.toInt = -100004 ∧ (0 ≤ (v16 : Int32).toInt ∧ (v16 : Int32).toInt < (ivy 12 67).toInt) ∧ (1 ≤ (v18 : Int32).toInt ∧ 1 ≤ (v20 : Int32).toInt ∧ (v18 : Int32).toInt + (v20 : Int32).toInt = ((lay 12 70) ((v16 : Int32).toInt).toNat).toInt) ∧ (StY (fay 12 68) (fay 12 73) ((v16 : Int32).toInt).toNat ∧ ¬ BiY (ivy 12 67).toInt (fay 12 68) (fay 12 71) (fay 12 73) (v16 : Int32).toInt) ∧ 39 ≤ (ivy 12 67).toInt ∧ SmY (fay 12 68) (fay 12 69) (lay 12 70) (fay 12 71) (fay 12 72) (fay 12 73) n22 n23 n28 n24 n25 n26 ∧ n29.toInt = (ivy 12 67).toInt) ∨ ((0 ≤ (v16 : Int32).toInt ∧ (v16 : Int32).toInt < (ivy 12 67).toInt) ∧ (1 ≤ (v18 : Int32).toInt ∧ 1 ≤ (v20 : Int32).toInt ∧ (v18 : Int32).toInt + (v20 : Int32).toInt = ((lay 12 70) ((v16 : Int32).toInt).toNat).toInt) ∧ (StY (fay 12 68) (fay 12 73) ((v16 : Int32).toInt).toNat ∧ ¬ BiY (ivy 12 67).toInt (fay 12 68) (fay 12 71) (fay 12 73) (v16 : Int32).toInt) ∧ (ivy 12 67).toInt < 39 ∧ r21.toInt = (ivy 12 67).toInt ∧ n29.toInt = (ivy 12 67).toInt + 2 ∧ ∃ (v k1 b1 : Nat → Int32) (w1 : Nat → Int64) (o1 d1 u1 : Nat → Int32), (∀ j : Nat, j ≠ ((v16 : Int32).toInt).toNat → v j = (fay 12 73) j) ∧ (v ((v16 : Int32).toInt).toNat).toInt = (ivy 12 0).toInt ∧ ApY ((ivy 12 67).toInt).toNat (fay 12 68) (fay 12 69) (lay 12 70) (fay 12 71) (fay 12 72) v k1 b1 w1 o1 d1 u1 0 ((fay 12 69) ((v16 : Int32).toInt).toNat).toInt (v18 : Int32).toInt (v16 : Int32).toInt (ivy 12 0).toInt ∧ ApY (((ivy 12 67).toInt).toNat + 1) k1 b1 w1 o1 d1 u1 n22 n23 n28 n24 n25 n26 0 ((fay 12 69) ((v16 : Int32).toInt).toNat).toInt (v20 : Int32).toInt (v16 : Int32).toInt (ivy 12 0).toInt)) := xr21_0
  have hb67 : 0 ≤ (ivy 12 67).toInt ∧ (ivy 12 67).toInt ≤ 40 := hIy.1 12 67
  have hb0 : 0 ≤ (ivy 12 0).toInt ∧ (ivy 12 0).toInt ≤ 3000 := hIy.1 12 0
  rw [hv9_0, hv9_1, hv9_2, hq_papers, hq_now] at y9x_0
  have hz9 : (r7 : Int32).toInt = (r21 : Int32).toInt ∧ (n14 : Int32).toInt = (n29 : Int32).toInt ∧ PaE (n29 : Int32).toInt n8 n9 n10 n11 n12 n13 n22 n23 n28 n24 n25 n26 := by
    rcases y9x_0 with ⟨a1, a2, a3, a4⟩ | ⟨a1, a2, a3, a4, a5⟩ | ⟨a1, a2, a3, a4, a5, a6⟩ | ⟨a1, a2, a3, a4, a5, a6, a7⟩ | ⟨a1, a2, a3, a4, a5, a6, v, k1, e1, c1, o1, d1, u1, v1, v2, a7, a8⟩
    · rcases y9y_0 with ⟨b1, b2, b3, b4⟩ | ⟨b1, b2, b3, b4, b5⟩ | ⟨b1, b2, b3, b4, b5, b6⟩ | ⟨b1, b2, b3, b4, b5, b6, b7⟩ | ⟨b1, b2, b3, b4, b5, b6, w, k2, e2, c2, o2, d2, u2, w1, w2, b7, b8⟩
      · refine ⟨by omega, by omega, ?_⟩; rw [show (n29 : Int32).toInt = (ivy 12 67).toInt from by omega]; exact PaE_same hpa a3 b3
      · exfalso; omega
      · exfalso; omega
      · exfalso; omega
      · exfalso; omega
    · rcases y9y_0 with ⟨b1, b2, b3, b4⟩ | ⟨b1, b2, b3, b4, b5⟩ | ⟨b1, b2, b3, b4, b5, b6⟩ | ⟨b1, b2, b3, b4, b5, b6, b7⟩ | ⟨b1, b2, b3, b4, b5, b6, w, k2, e2, c2, o2, d2, u2, w1, w2, b7, b8⟩
      · exfalso; omega
      · refine ⟨by omega, by omega, ?_⟩; rw [show (n29 : Int32).toInt = (ivy 12 67).toInt from by omega]; exact PaE_same hpa a4 b4
      · have hE9 := (hpa ((v16 : Int32).toInt).toNat (by omega)).1.2.2.1; exfalso; omega
      · have hE9 := (hpa ((v16 : Int32).toInt).toNat (by omega)).1.2.2.1; exfalso; omega
      · have hE9 := (hpa ((v16 : Int32).toInt).toNat (by omega)).1.2.2.1; exfalso; omega
    · rcases y9y_0 with ⟨b1, b2, b3, b4⟩ | ⟨b1, b2, b3, b4, b5⟩ | ⟨b1, b2, b3, b4, b5, b6⟩ | ⟨b1, b2, b3, b4, b5, b6, b7⟩ | ⟨b1, b2, b3, b4, b5, b6, w, k2, e2, c2, o2, d2, u2, w1, w2, b7, b8⟩
      · exfalso; omega
      · have hE9 := (hpa ((v16 : Int32).toInt).toNat (by omega)).1.2.2.1; exfalso; omega
      · refine ⟨by omega, by omega, ?_⟩; rw [show (n29 : Int32).toInt = (ivy 12 67).toInt from by omega]; exact PaE_same hpa a5 b5
      · exact absurd (by have hst := St_xy hpa (p := ((v16 : Int32).toInt).toNat) (by omega); have hbi := Bi_xy (x := (v16 : Int32).toInt) hpa; exact ⟨hst.mpr b4.1, fun z => b4.2 (hbi.mp z)⟩) a4
      · exact absurd (by have hst := St_xy hpa (p := ((v16 : Int32).toInt).toNat) (by omega); have hbi := Bi_xy (x := (v16 : Int32).toInt) hpa; exact ⟨hst.mpr b3.1, fun z => b3.2 (hbi.mp z)⟩) a4
    · rcases y9y_0 with ⟨b1, b2, b3, b4⟩ | ⟨b1, b2, b3, b4, b5⟩ | ⟨b1, b2, b3, b4, b5, b6⟩ | ⟨b1, b2, b3, b4, b5, b6, b7⟩ | ⟨b1, b2, b3, b4, b5, b6, w, k2, e2, c2, o2, d2, u2, w1, w2, b7, b8⟩
      · exfalso; omega
      · have hE9 := (hpa ((v16 : Int32).toInt).toNat (by omega)).1.2.2.1; exfalso; omega
      · exact absurd (by have hst := St_xy hpa (p := ((v16 : Int32).toInt).toNat) (by omega); have hbi := Bi_xy (x := (v16 : Int32).toInt) hpa; exact ⟨hst.mp a4.1, fun z => a4.2 (hbi.mpr z)⟩) b4
      · refine ⟨by omega, by omega, ?_⟩; rw [show (n29 : Int32).toInt = (ivy 12 67).toInt from by omega]; exact PaE_same hpa a6 b6
      · have hE9 := (hpa ((v16 : Int32).toInt).toNat (by omega)).1.2.2.1; exfalso; omega
    · rcases y9y_0 with ⟨b1, b2, b3, b4⟩ | ⟨b1, b2, b3, b4, b5⟩ | ⟨b1, b2, b3, b4, b5, b6⟩ | ⟨b1, b2, b3, b4, b5, b6, b7⟩ | ⟨b1, b2, b3, b4, b5, b6, w, k2, e2, c2, o2, d2, u2, w1, w2, b7, b8⟩
      · exfalso; omega
      · have hE9 := (hpa ((v16 : Int32).toInt).toNat (by omega)).1.2.2.1; exfalso; omega
      · exact absurd (by have hst := St_xy hpa (p := ((v16 : Int32).toInt).toNat) (by omega); have hbi := Bi_xy (x := (v16 : Int32).toInt) hpa; exact ⟨hst.mp a3.1, fun z => a3.2 (hbi.mpr z)⟩) b4
      · have hE9 := (hpa ((v16 : Int32).toInt).toNat (by omega)).1.2.2.1; exfalso; omega
      · obtain ⟨hE, g1, g2, g3, g4, g5, g6, g7⟩ := hpa ((v16 : Int32).toInt).toNat (by omega)
        have hk9 : (fay 12 68 ((v16 : Int32).toInt).toNat).toInt = 0 := b3.1.1
        rw [hE.2.1] at a7 a8
        have hp1 := PaE_u hpa (by omega) v1 v2 w1 w2
        have hp2 := PaE_add (N := ((ivy 12 67).toInt).toNat) (by omega) hp1 a7 b7 ⟨Or.inl rfl, by omega, fun _ => by omega, by omega, by omega, by omega, by decide⟩
        have hp3 := PaE_add (N := ((ivy 12 67).toInt).toNat + 1) (by omega) hp2 a8 b8 ⟨Or.inl rfl, by omega, fun _ => by omega, by omega, by omega, by omega, by decide⟩
        refine ⟨by omega, by omega, ?_⟩
        rw [show (n29 : Int32).toInt = (ivy 12 67).toInt + 1 + 1 from by omega]
        exact hp3
  have hr8 := hz9.1
  have hp8 := hz9.2.1
  have hpn := hz9.2.2
  refine lv_pop hx hb dL_law_1415 rfl ?_
  refine lv_goto (tgt := 1509) hx hb dL_law_1416 (by decide) ?_
  exact kk _ _ (u2 ivx 6 7 n14) lvx (u2 (u2 (u2 (u2 (u2 (u2 fax 6 0 n8) 6 1 n9) 6 2 n10) 6 3 n11) 6 4 n12) 6 5 n13) lax (u2 ivy 12 67 n29) lvy (u2 (u2 (u2 (u2 (u2 (u2 fay 12 68 n22) 12 69 n23) 12 71 n24) 12 72 n25) 12 73 n26) 12 74 n27) (u2 lay 12 70 n28) (IX_a (c := 6) (k := 5) (IX_a (c := 6) (k := 4) (IX_a (c := 6) (k := 3) (IX_a (c := 6) (k := 2) (IX_a (c := 6) (k := 1) (IX_a (c := 6) (k := 0) (IX_i (c := 6) (k := 7) hIx hn14) (fun j => full_i _)) (fun j => full_i _)) (fun j => full_i _)) hn11) (fun j => full_i _)) (fun j => full_i _)) (IX_a (c := 12) (k := 74) (IX_a (c := 12) (k := 73) (IX_a (c := 12) (k := 72) (IX_a (c := 12) (k := 71) (IX_a (c := 12) (k := 69) (IX_a (c := 12) (k := 68) (IX_i (c := 12) (k := 67) hIy hn29) (fun j => full_i _)) (fun j => full_i _)) hn24) (fun j => full_i _)) (fun j => full_i _)) (fun j => full_i _)) hJC hJR hJN hJO hq_now hq_bales hq_skeins hq_rules hq_text hq_place (show (n14 : Int32) = n29 from Int32.toInt_inj.mp (by omega)) hrs hls hwd htx hbk hgr hgb hpn hdr hPx hDx hPy hDy hS
