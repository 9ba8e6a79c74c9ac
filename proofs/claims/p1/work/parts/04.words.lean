/-! ===== words, decode rows ===== -/
theorem in_list {ws : List Cond} (ps : List Nat) (h : ps.map (fun i => lw_tbl[i]?) = ws.map some) (hg : ws.all goodWord = true) : ∀ w ∈ ws, w ∈ tb := by
  intro w hw
  have h1 : some w ∈ ps.map (fun i => lw_tbl[i]?) := by rw [h]; exact List.mem_map.mpr ⟨w, hw, rfl⟩
  obtain ⟨i, -, hi⟩ := List.mem_map.mp h1
  exact tb_in i hi (List.all_eq_true.mp hg w hw)
set_option maxRecDepth 100000 in
theorem inX0 : ∀ w ∈ u_ws RX0 TX0 8, w ∈ tb := in_list [166, 168, 170, 172, 174, 176, 178, 180] rfl rfl
set_option maxRecDepth 100000 in
theorem new_X0 : ∀ j, j < 8 → defaultValue (tyX0 j) = vp_V [.null, .null, .null, .null, .null, .null, .null, .int 0] j := by
  intro j hj
  have h : ∀ i : Fin 8, defaultValue (tyX0 i.val) = vp_V [.null, .null, .null, .null, .null, .null, .null, .int 0] i.val := by decide
  exact h ⟨j, hj⟩
set_option maxRecDepth 100000 in
theorem inX1 : ∀ w ∈ u_ws RX1 TX1 9, w ∈ tb := in_list [201, 203, 205, 207, 209, 211, 213, 215, 217] rfl rfl
set_option maxRecDepth 100000 in
theorem new_X1 : ∀ j, j < 9 → defaultValue (tyX1 j) = vp_V [.null, .null, .null, .null, .null, .null, .null, .int 0, .int 0] j := by
  intro j hj
  have h : ∀ i : Fin 9, defaultValue (tyX1 i.val) = vp_V [.null, .null, .null, .null, .null, .null, .null, .int 0, .int 0] i.val := by decide
  exact h ⟨j, hj⟩
set_option maxRecDepth 100000 in
theorem inX2 : ∀ w ∈ u_ws RX2 TX2 8, w ∈ tb := in_list [312, 314, 316, 318, 320, 322, 324, 326] rfl rfl
set_option maxRecDepth 100000 in
theorem new_X2 : ∀ j, j < 8 → defaultValue (tyX2 j) = vp_V [.null, .null, .null, .int 0, .int 0, .int 0, .int 0, .int 0] j := by
  intro j hj
  have h : ∀ i : Fin 8, defaultValue (tyX2 i.val) = vp_V [.null, .null, .null, .int 0, .int 0, .int 0, .int 0, .int 0] i.val := by decide
  exact h ⟨j, hj⟩
set_option maxRecDepth 100000 in
theorem inX3 : ∀ w ∈ u_ws RX3 TX3 5, w ∈ tb := in_list [285, 287, 289, 291, 293] rfl rfl
set_option maxRecDepth 100000 in
theorem new_X3 : ∀ j, j < 5 → defaultValue (tyX3 j) = vp_V [.null, .null, .null, .int 0, .int 0] j := by
  intro j hj
  have h : ∀ i : Fin 5, defaultValue (tyX3 i.val) = vp_V [.null, .null, .null, .int 0, .int 0] i.val := by decide
  exact h ⟨j, hj⟩
set_option maxRecDepth 100000 in
theorem inX4 : ∀ w ∈ u_ws RX4 TX4 3, w ∈ tb := in_list [370, 372, 374] rfl rfl
set_option maxRecDepth 100000 in
theorem new_X4 : ∀ j, j < 3 → defaultValue (tyX4 j) = vp_V [.null, .null, .int 0] j := by
  intro j hj
  have h : ∀ i : Fin 3, defaultValue (tyX4 i.val) = vp_V [.null, .null, .int 0] i.val := by decide
  exact h ⟨j, hj⟩
set_option maxRecDepth 100000 in
theorem inX5 : ∀ w ∈ u_ws RX5 TX5 7, w ∈ tb := in_list [345, 347, 349, 351, 353, 355, 357] rfl rfl
set_option maxRecDepth 100000 in
theorem new_X5 : ∀ j, j < 7 → defaultValue (tyX5 j) = vp_V [.null, .null, .null, .null, .int 0, .int 0, .int 0] j := by
  intro j hj
  have h : ∀ i : Fin 7, defaultValue (tyX5 i.val) = vp_V [.null, .null, .null, .null, .int 0, .int 0, .int 0] i.val := by decide
  exact h ⟨j, hj⟩
set_option maxRecDepth 100000 in
theorem inX6 : ∀ w ∈ u_ws RX6 TX6 8, w ∈ tb := in_list [398, 400, 402, 404, 406, 408, 410, 412] rfl rfl
set_option maxRecDepth 100000 in
theorem new_X6 : ∀ j, j < 8 → defaultValue (tyX6 j) = vp_V [.null, .null, .null, .null, .null, .null, .null, .int 0] j := by
  intro j hj
  have h : ∀ i : Fin 8, defaultValue (tyX6 i.val) = vp_V [.null, .null, .null, .null, .null, .null, .null, .int 0] i.val := by decide
  exact h ⟨j, hj⟩
set_option maxRecDepth 100000 in
theorem inX7 : ∀ w ∈ u_ws RX7 TX7 3, w ∈ tb := in_list [271, 273, 275] rfl rfl
set_option maxRecDepth 100000 in
theorem new_X7 : ∀ j, j < 3 → defaultValue (tyX7 j) = vp_V [.null, .null, .null] j := by
  intro j hj
  have h : ∀ i : Fin 3, defaultValue (tyX7 i.val) = vp_V [.null, .null, .null] i.val := by decide
  exact h ⟨j, hj⟩
set_option maxRecDepth 100000 in
theorem inX8 : ∀ w ∈ u_ws RX8 TX8 6, w ∈ tb := in_list [236, 238, 240, 242, 244, 246] rfl rfl
set_option maxRecDepth 100000 in
theorem new_X8 : ∀ j, j < 6 → defaultValue (tyX8 j) = vp_V [.null, .null, .int 0, .int 0, .int 0, .int 0] j := by
  intro j hj
  have h : ∀ i : Fin 6, defaultValue (tyX8 i.val) = vp_V [.null, .null, .int 0, .int 0, .int 0, .int 0] i.val := by decide
  exact h ⟨j, hj⟩
set_option maxRecDepth 100000 in
theorem inX9 : ∀ w ∈ u_ws RX9 TX9 4, w ∈ tb := in_list [137, 139, 141, 143] rfl rfl
set_option maxRecDepth 100000 in
theorem new_X9 : ∀ j, j < 4 → defaultValue (tyX9 j) = vp_V [.null, .null, .null, .int 0] j := by
  intro j hj
  have h : ∀ i : Fin 4, defaultValue (tyX9 i.val) = vp_V [.null, .null, .null, .int 0] i.val := by decide
  exact h ⟨j, hj⟩
set_option maxRecDepth 100000 in
theorem inX10 : ∀ w ∈ u_ws RX10 TX10 3, w ∈ tb := in_list [118, 120, 122] rfl rfl
set_option maxRecDepth 100000 in
theorem new_X10 : ∀ j, j < 3 → defaultValue (tyX10 j) = vp_V [.null, .int 0, .int 0] j := by
  intro j hj
  have h : ∀ i : Fin 3, defaultValue (tyX10 i.val) = vp_V [.null, .int 0, .int 0] i.val := by decide
  exact h ⟨j, hj⟩
set_option maxRecDepth 100000 in
theorem inX11 : ∀ w ∈ u_ws RX11 TX11 11, w ∈ tb := in_list [426, 428, 430, 432, 434, 436, 438, 440, 442, 444, 446] rfl rfl
set_option maxRecDepth 100000 in
theorem new_X11 : ∀ j, j < 11 → defaultValue (tyX11 j) = vp_V [.null, .null, .null, .null, .null, .null, .null, .null, .null, .null, .int 0] j := by
  intro j hj
  have h : ∀ i : Fin 11, defaultValue (tyX11 i.val) = vp_V [.null, .null, .null, .null, .null, .null, .null, .null, .null, .null, .int 0] i.val := by decide
  exact h ⟨j, hj⟩
set_option maxRecDepth 100000 in
theorem inX12 : ∀ w ∈ u_ws RX12 TX12 75, w ∈ tb := in_list [1214, 1216, 1218, 1220, 1222, 1224, 1226, 1228, 1230, 1232, 1234, 1236, 1238, 1240, 1242, 1244, 1246, 1248, 1250, 1252, 1254, 1256, 1258, 1260, 1262, 1264, 1266, 1268, 1270, 1272, 1274, 1276, 1278, 1280, 1282, 1284, 1286, 1288, 1290, 1292, 1294, 1296, 1298, 1300, 1302, 1304, 1306, 1308, 1310, 1312, 1314, 1316, 1318, 1320, 1322, 1324, 1326, 1328, 1330, 1332, 1334, 1336, 1338, 1340, 1342, 1344, 1346, 1348, 1350, 1352, 1354, 1356, 1358, 1360, 1362] rfl rfl
set_option maxRecDepth 100000 in
theorem new_X12 : ∀ j, j < 75 → defaultValue (tyX12 j) = vp_V [.int 0, .int 0, .null, .int 0, .null, .null, .null, .null, .null, .null, .null, .null, .null, .int 0, .null, .null, .null, .long 0, .long 0, .int 0, .int 0, .int 0, .int 0, .int 0, .null, .null, .null, .null, .null, .null, .null, .null, .null, .int 0, .int 0, .int 0, .int 0, .int 0, .int 0, .null, .null, .int 0, .null, .null, .long 0, .long 0, .long 0, .long 0, .int 0, .null, .null, .null, .null, .null, .null, .null, .null, .int 0, .null, .null, .int 0, .int 0, .int 0, .null, .null, .int 0, .int 0, .int 0, .null, .null, .null, .null, .null, .null, .null] j := by
  intro j hj
  have h : ∀ i : Fin 75, defaultValue (tyX12 i.val) = vp_V [.int 0, .int 0, .null, .int 0, .null, .null, .null, .null, .null, .null, .null, .null, .null, .int 0, .null, .null, .null, .long 0, .long 0, .int 0, .int 0, .int 0, .int 0, .int 0, .null, .null, .null, .null, .null, .null, .null, .null, .null, .int 0, .int 0, .int 0, .int 0, .int 0, .int 0, .null, .null, .int 0, .null, .null, .long 0, .long 0, .long 0, .long 0, .int 0, .null, .null, .null, .null, .null, .null, .null, .null, .int 0, .null, .null, .int 0, .int 0, .int 0, .null, .null, .int 0, .int 0, .int 0, .null, .null, .null, .null, .null, .null, .null] i.val := by decide
  exact h ⟨j, hj⟩
set_option maxRecDepth 100000 in
theorem m_1 : Cond.selects RX9 yX9_lastBy yX9_lastBy ∈ tb := tb_in 1 rfl rfl
set_option maxRecDepth 100000 in
theorem m_2 : Cond.selects RX9 yX9_firstAfter yX9_firstAfter ∈ tb := tb_in 2 rfl rfl
set_option maxRecDepth 100000 in
theorem m_3 : Cond.selects RX9 yX9_driftOf yX9_driftOf ∈ tb := tb_in 3 rfl rfl
set_option maxRecDepth 100000 in
theorem m_4 : Cond.selects RX11 yX11_balesIn yX11_balesIn ∈ tb := tb_in 4 rfl rfl
set_option maxRecDepth 100000 in
theorem m_5 : Cond.selects RX1 yX1_findCounting yX1_findCounting ∈ tb := tb_in 5 rfl rfl
set_option maxRecDepth 100000 in
theorem m_15 : Cond.selects RX11 yX11_fees yX11_fees ∈ tb := tb_in 15 rfl rfl
set_option maxRecDepth 100000 in
theorem m_16 : Cond.selects RX8 yX8_skipBlanks yX8_skipBlanks ∈ tb := tb_in 16 rfl rfl
set_option maxRecDepth 100000 in
theorem m_41 : Cond.selects RX5 yX5_place yX5_place ∈ tb := tb_in 41 rfl rfl
set_option maxRecDepth 100000 in
theorem m_42 : Cond.selects RX12 yX12_noBale yX12_noBale ∈ tb := tb_in 42 rfl rfl
set_option maxRecDepth 100000 in
theorem m_43 : Cond.selects RX12 yX12_noSkein yX12_noSkein ∈ tb := tb_in 43 rfl rfl
set_option maxRecDepth 100000 in
theorem m_44 : Cond.selects RX12 yX12_errorOf yX12_errorOf ∈ tb := tb_in 44 rfl rfl
set_option maxRecDepth 100000 in
theorem m_47 : Cond.selects RX12 yX12_here yX12_here ∈ tb := tb_in 47 rfl rfl
set_option maxRecDepth 100000 in
theorem m_55 : Cond.selects RX12 yX12_forceOf yX12_forceOf ∈ tb := tb_in 55 rfl rfl
set_option maxRecDepth 100000 in
theorem m_56 : Cond.selects RX12 yX12_findRules yX12_findRules ∈ tb := tb_in 56 rfl rfl
set_option maxRecDepth 100000 in
theorem m_57 : Cond.selects RX12 yX12_isPast yX12_isPast ∈ tb := tb_in 57 rfl rfl
set_option maxRecDepth 100000 in
theorem m_69 : Cond.selects RX12 yX12_findOrder yX12_findOrder ∈ tb := tb_in 69 rfl rfl
set_option maxRecDepth 100000 in
theorem m_73 : Cond.selects RX12 yX12_noPaper yX12_noPaper ∈ tb := tb_in 73 rfl rfl
set_option maxRecDepth 100000 in
theorem m_75 : Cond.selects RX12 yX12_balesIn yX12_balesIn ∈ tb := tb_in 75 rfl rfl
set_option maxRecDepth 100000 in
theorem m_77 : Cond.initialized RX11 ∈ tb := tb_in 77 rfl rfl
set_option maxRecDepth 100000 in
theorem m_78 : Cond.initialized RX10 ∈ tb := tb_in 78 rfl rfl
set_option maxRecDepth 100000 in
theorem m_79 : Cond.initialized RX9 ∈ tb := tb_in 79 rfl rfl
set_option maxRecDepth 100000 in
theorem m_80 : Cond.initialized RX0 ∈ tb := tb_in 80 rfl rfl
set_option maxRecDepth 100000 in
theorem m_81 : Cond.initialized RX1 ∈ tb := tb_in 81 rfl rfl
set_option maxRecDepth 100000 in
theorem m_82 : Cond.initialized RX8 ∈ tb := tb_in 82 rfl rfl
set_option maxRecDepth 100000 in
theorem m_83 : Cond.initialized RX3 ∈ tb := tb_in 83 rfl rfl
set_option maxRecDepth 100000 in
theorem m_84 : Cond.initialized RX7 ∈ tb := tb_in 84 rfl rfl
set_option maxRecDepth 100000 in
theorem m_85 : Cond.initialized RX2 ∈ tb := tb_in 85 rfl rfl
set_option maxRecDepth 100000 in
theorem m_86 : Cond.initialized RX5 ∈ tb := tb_in 86 rfl rfl
set_option maxRecDepth 100000 in
theorem m_87 : Cond.initialized RX4 ∈ tb := tb_in 87 rfl rfl
set_option maxRecDepth 100000 in
theorem m_88 : Cond.initialized RX6 ∈ tb := tb_in 88 rfl rfl
set_option maxRecDepth 100000 in
theorem m_89 : Cond.initialized RX12 ∈ tb := tb_in 89 rfl rfl
set_option maxRecDepth 100000 in
theorem m_90 : Cond.initialized "java/lang/Math" ∈ tb := tb_in 90 rfl rfl
set_option maxRecDepth 100000 in
theorem m_95 : Cond.initialized "java/lang/System" ∈ tb := tb_in 95 rfl rfl
set_option maxRecDepth 100000 in
theorem m_97 : Cond.classLink RL 7 RX11 ∈ tb := tb_in 97 rfl rfl
set_option maxRecDepth 100000 in
theorem m_98 : Cond.instantiable RX11 11 ∈ tb := tb_in 98 rfl rfl
set_option maxRecDepth 100000 in
theorem m_99 : Cond.methodLink RL 9 yX11_init ∈ tb := tb_in 99 rfl rfl
set_option maxRecDepth 100000 in
theorem m_100 : Cond.instanceMethod yX11_init ∈ tb := tb_in 100 rfl rfl
set_option maxRecDepth 100000 in
theorem m_101 : Cond.code yX11_init cX11_init 1 none ∈ tb := tb_in 101 rfl rfl
set_option maxRecDepth 100000 in
theorem m_102 : Cond.methodLink RX11 1 objectInit ∈ tb := tb_in 102 rfl rfl
set_option maxRecDepth 100000 in
theorem m_103 : Cond.instanceMethod objectInit ∈ tb := tb_in 103 rfl rfl
set_option maxRecDepth 100000 in
theorem m_104 : Cond.code objectInit ⟨#[0xb1]⟩ 1 none ∈ tb := tb_in 104 rfl rfl
set_option maxRecDepth 100000 in
theorem m_105 : Cond.classLink RX11 7 RX10 ∈ tb := tb_in 105 rfl rfl
set_option maxRecDepth 100000 in
theorem m_106 : Cond.instantiable RX10 3 ∈ tb := tb_in 106 rfl rfl
set_option maxRecDepth 100000 in
theorem m_108 : Cond.instanceMethod yX10_init ∈ tb := tb_in 108 rfl rfl
set_option maxRecDepth 100000 in
theorem m_109 : Cond.code yX10_init cX10_init 1 none ∈ tb := tb_in 109 rfl rfl
set_option maxRecDepth 100000 in
theorem m_110 : Cond.methodLink RX10 3 objectInit ∈ tb := tb_in 110 rfl rfl
set_option maxRecDepth 100000 in
theorem m_111 : Cond.fieldLink RX10 11 "SilkHouse$Skeins" "rows" "[I" ∈ tb := tb_in 111 rfl rfl
set_option maxRecDepth 100000 in
theorem m_112 : Cond.fieldLink RX10 15 "SilkHouse$Skeins" "number" "I" ∈ tb := tb_in 112 rfl rfl
set_option maxRecDepth 100000 in
theorem m_114 : Cond.fieldLink RX11 109 "SilkHouse$Skeins" "number" "I" ∈ tb := tb_in 114 rfl rfl
set_option maxRecDepth 100000 in
theorem m_116 : Cond.fieldLink RX10 19 "SilkHouse$Skeins" "lost" "I" ∈ tb := tb_in 116 rfl rfl
set_option maxRecDepth 100000 in
theorem m_117 : Cond.fieldLink RX11 167 "SilkHouse$Skeins" "lost" "I" ∈ tb := tb_in 117 rfl rfl
set_option maxRecDepth 100000 in
theorem m_125 : Cond.arrayClass .int ∈ tb := tb_in 125 rfl rfl
set_option maxRecDepth 100000 in
theorem m_126 : Cond.classLink RX11 16 RX9 ∈ tb := tb_in 126 rfl rfl
set_option maxRecDepth 100000 in
theorem m_127 : Cond.instantiable RX9 4 ∈ tb := tb_in 127 rfl rfl
set_option maxRecDepth 100000 in
theorem m_129 : Cond.instanceMethod yX9_init ∈ tb := tb_in 129 rfl rfl
set_option maxRecDepth 100000 in
theorem m_130 : Cond.code yX9_init cX9_init 1 none ∈ tb := tb_in 130 rfl rfl
set_option maxRecDepth 100000 in
theorem m_131 : Cond.methodLink RX9 3 objectInit ∈ tb := tb_in 131 rfl rfl
set_option maxRecDepth 100000 in
theorem m_132 : Cond.fieldLink RX9 11 "SilkHouse$Scales" "scale" "[I" ∈ tb := tb_in 132 rfl rfl
set_option maxRecDepth 100000 in
theorem m_133 : Cond.fieldLink RX9 15 "SilkHouse$Scales" "day" "[I" ∈ tb := tb_in 133 rfl rfl
set_option maxRecDepth 100000 in
theorem m_134 : Cond.fieldLink RX9 18 "SilkHouse$Scales" "drift" "[I" ∈ tb := tb_in 134 rfl rfl
set_option maxRecDepth 100000 in
theorem m_135 : Cond.fieldLink RX9 21 "SilkHouse$Scales" "number" "I" ∈ tb := tb_in 135 rfl rfl
set_option maxRecDepth 100000 in
theorem m_136 : Cond.fieldLink RX11 134 "SilkHouse$Scales" "number" "I" ∈ tb := tb_in 136 rfl rfl
set_option maxRecDepth 100000 in
theorem m_146 : Cond.classLink RX11 23 RX0 ∈ tb := tb_in 146 rfl rfl
set_option maxRecDepth 100000 in
theorem m_147 : Cond.instantiable RX0 8 ∈ tb := tb_in 147 rfl rfl
set_option maxRecDepth 100000 in
theorem m_149 : Cond.instanceMethod yX0_init ∈ tb := tb_in 149 rfl rfl
set_option maxRecDepth 100000 in
theorem m_150 : Cond.code yX0_init cX0_init 1 none ∈ tb := tb_in 150 rfl rfl
set_option maxRecDepth 100000 in
theorem m_151 : Cond.methodLink RX0 3 objectInit ∈ tb := tb_in 151 rfl rfl
set_option maxRecDepth 100000 in
theorem m_152 : Cond.fieldLink RX0 11 "SilkHouse$Bales" "gross" "[I" ∈ tb := tb_in 152 rfl rfl
set_option maxRecDepth 100000 in
theorem m_154 : Cond.fieldLink RX0 15 "SilkHouse$Bales" "threads" "[I" ∈ tb := tb_in 154 rfl rfl
set_option maxRecDepth 100000 in
theorem m_156 : Cond.fieldLink RX0 18 "SilkHouse$Bales" "twists" "[I" ∈ tb := tb_in 156 rfl rfl
set_option maxRecDepth 100000 in
theorem m_158 : Cond.fieldLink RX0 21 "SilkHouse$Bales" "gum" "[I" ∈ tb := tb_in 158 rfl rfl
set_option maxRecDepth 100000 in
theorem m_160 : Cond.fieldLink RX0 24 "SilkHouse$Bales" "ash" "[I" ∈ tb := tb_in 160 rfl rfl
set_option maxRecDepth 100000 in
theorem m_162 : Cond.fieldLink RX0 27 "SilkHouse$Bales" "sizes" "[I" ∈ tb := tb_in 162 rfl rfl
set_option maxRecDepth 100000 in
theorem m_163 : Cond.fieldLink RX0 30 "SilkHouse$Bales" "turnRows" "[I" ∈ tb := tb_in 163 rfl rfl
set_option maxRecDepth 100000 in
theorem m_164 : Cond.fieldLink RX0 33 "SilkHouse$Bales" "number" "I" ∈ tb := tb_in 164 rfl rfl
set_option maxRecDepth 100000 in
theorem m_165 : Cond.fieldLink RX11 96 "SilkHouse$Bales" "number" "I" ∈ tb := tb_in 165 rfl rfl
set_option maxRecDepth 100000 in
theorem m_183 : Cond.classLink RX11 30 RX1 ∈ tb := tb_in 183 rfl rfl
set_option maxRecDepth 100000 in
theorem m_184 : Cond.instantiable RX1 9 ∈ tb := tb_in 184 rfl rfl
set_option maxRecDepth 100000 in
theorem m_186 : Cond.instanceMethod yX1_init ∈ tb := tb_in 186 rfl rfl
set_option maxRecDepth 100000 in
theorem m_187 : Cond.code yX1_init cX1_init 1 none ∈ tb := tb_in 187 rfl rfl
set_option maxRecDepth 100000 in
theorem m_188 : Cond.methodLink RX1 3 objectInit ∈ tb := tb_in 188 rfl rfl
set_option maxRecDepth 100000 in
theorem m_189 : Cond.fieldLink RX1 11 "SilkHouse$Book" "day" "[I" ∈ tb := tb_in 189 rfl rfl
set_option maxRecDepth 100000 in
theorem m_190 : Cond.fieldLink RX1 15 "SilkHouse$Book" "clauses" "[I" ∈ tb := tb_in 190 rfl rfl
set_option maxRecDepth 100000 in
theorem m_191 : Cond.fieldLink RX1 18 "SilkHouse$Book" "kind" "[I" ∈ tb := tb_in 191 rfl rfl
set_option maxRecDepth 100000 in
theorem m_192 : Cond.fieldLink RX1 21 "SilkHouse$Book" "first" "[I" ∈ tb := tb_in 192 rfl rfl
set_option maxRecDepth 100000 in
theorem m_193 : Cond.fieldLink RX1 24 "SilkHouse$Book" "second" "[I" ∈ tb := tb_in 193 rfl rfl
set_option maxRecDepth 100000 in
theorem m_194 : Cond.fieldLink RX1 27 "SilkHouse$Book" "letters" "[B" ∈ tb := tb_in 194 rfl rfl
set_option maxRecDepth 100000 in
theorem m_195 : Cond.fieldLink RX1 31 "SilkHouse$Book" "counting" "[Z" ∈ tb := tb_in 195 rfl rfl
set_option maxRecDepth 100000 in
theorem m_196 : Cond.fieldLink RX1 35 "SilkHouse$Book" "number" "I" ∈ tb := tb_in 196 rfl rfl
set_option maxRecDepth 100000 in
theorem m_198 : Cond.fieldLink RX11 170 "SilkHouse$Book" "number" "I" ∈ tb := tb_in 198 rfl rfl
set_option maxRecDepth 100000 in
theorem m_199 : Cond.fieldLink RX1 39 "SilkHouse$Book" "drafted" "I" ∈ tb := tb_in 199 rfl rfl
set_option maxRecDepth 100000 in
theorem m_220 : Cond.arrayClass .byte ∈ tb := tb_in 220 rfl rfl
set_option maxRecDepth 100000 in
theorem m_221 : Cond.arrayClass .boolean ∈ tb := tb_in 221 rfl rfl
set_option maxRecDepth 100000 in
theorem m_222 : Cond.classLink RX11 37 RX8 ∈ tb := tb_in 222 rfl rfl
set_option maxRecDepth 100000 in
theorem m_223 : Cond.instantiable RX8 6 ∈ tb := tb_in 223 rfl rfl
set_option maxRecDepth 100000 in
theorem m_224 : Cond.methodLink RX11 39 yX8_init ∈ tb := tb_in 224 rfl rfl
set_option maxRecDepth 100000 in
theorem m_225 : Cond.instanceMethod yX8_init ∈ tb := tb_in 225 rfl rfl
set_option maxRecDepth 100000 in
theorem m_226 : Cond.code yX8_init cX8_init 2 none ∈ tb := tb_in 226 rfl rfl
set_option maxRecDepth 100000 in
theorem m_227 : Cond.methodLink RX8 3 objectInit ∈ tb := tb_in 227 rfl rfl
set_option maxRecDepth 100000 in
theorem m_228 : Cond.fieldLink RX8 28 "SilkHouse$Reader" "book" "LSilkHouse$Book;" ∈ tb := tb_in 228 rfl rfl
set_option maxRecDepth 100000 in
theorem m_229 : Cond.fieldLink RX8 11 "SilkHouse$Reader" "text" "[B" ∈ tb := tb_in 229 rfl rfl
set_option maxRecDepth 100000 in
theorem m_230 : Cond.fieldLink RX8 15 "SilkHouse$Reader" "length" "I" ∈ tb := tb_in 230 rfl rfl
set_option maxRecDepth 100000 in
theorem m_231 : Cond.fieldLink RX11 175 "SilkHouse$Reader" "length" "I" ∈ tb := tb_in 231 rfl rfl
set_option maxRecDepth 100000 in
theorem m_232 : Cond.fieldLink RX8 19 "SilkHouse$Reader" "faultByte" "I" ∈ tb := tb_in 232 rfl rfl
set_option maxRecDepth 100000 in
theorem m_233 : Cond.fieldLink RX11 207 "SilkHouse$Reader" "faultByte" "I" ∈ tb := tb_in 233 rfl rfl
set_option maxRecDepth 100000 in
theorem m_234 : Cond.fieldLink RX8 22 "SilkHouse$Reader" "faultKind" "I" ∈ tb := tb_in 234 rfl rfl
set_option maxRecDepth 100000 in
theorem m_235 : Cond.fieldLink RX8 25 "SilkHouse$Reader" "at" "I" ∈ tb := tb_in 235 rfl rfl
set_option maxRecDepth 100000 in
theorem m_249 : Cond.classLink RX11 46 RX3 ∈ tb := tb_in 249 rfl rfl
set_option maxRecDepth 100000 in
theorem m_250 : Cond.instantiable RX3 5 ∈ tb := tb_in 250 rfl rfl
set_option maxRecDepth 100000 in
theorem m_251 : Cond.methodLink RX11 48 yX3_init ∈ tb := tb_in 251 rfl rfl
set_option maxRecDepth 100000 in
theorem m_252 : Cond.instanceMethod yX3_init ∈ tb := tb_in 252 rfl rfl
set_option maxRecDepth 100000 in
theorem m_253 : Cond.code yX3_init cX3_init 3 none ∈ tb := tb_in 253 rfl rfl
set_option maxRecDepth 100000 in
theorem m_254 : Cond.methodLink RX3 1 objectInit ∈ tb := tb_in 254 rfl rfl
set_option maxRecDepth 100000 in
theorem m_255 : Cond.classLink RX3 7 RX7 ∈ tb := tb_in 255 rfl rfl
set_option maxRecDepth 100000 in
theorem m_256 : Cond.instantiable RX7 3 ∈ tb := tb_in 256 rfl rfl
set_option maxRecDepth 100000 in
theorem m_258 : Cond.instanceMethod yX7_init ∈ tb := tb_in 258 rfl rfl
set_option maxRecDepth 100000 in
theorem m_259 : Cond.code yX7_init cX7_init 1 none ∈ tb := tb_in 259 rfl rfl
set_option maxRecDepth 100000 in
theorem m_260 : Cond.methodLink RX7 1 objectInit ∈ tb := tb_in 260 rfl rfl
set_option maxRecDepth 100000 in
theorem m_261 : Cond.fieldLink RX7 7 "SilkHouse$Piles" "raw" "[J" ∈ tb := tb_in 261 rfl rfl
set_option maxRecDepth 100000 in
theorem m_264 : Cond.fieldLink RX7 13 "SilkHouse$Piles" "dry" "[J" ∈ tb := tb_in 264 rfl rfl
set_option maxRecDepth 100000 in
theorem m_267 : Cond.fieldLink RX7 16 "SilkHouse$Piles" "skeins" "[I" ∈ tb := tb_in 267 rfl rfl
set_option maxRecDepth 100000 in
theorem m_278 : Cond.arrayClass .long ∈ tb := tb_in 278 rfl rfl
set_option maxRecDepth 100000 in
theorem m_279 : Cond.fieldLink RX3 23 "SilkHouse$Judge" "skeins" "LSilkHouse$Skeins;" ∈ tb := tb_in 279 rfl rfl
set_option maxRecDepth 100000 in
theorem m_280 : Cond.fieldLink RX3 27 "SilkHouse$Judge" "book" "LSilkHouse$Book;" ∈ tb := tb_in 280 rfl rfl
set_option maxRecDepth 100000 in
theorem m_281 : Cond.fieldLink RX3 10 "SilkHouse$Judge" "piles" "LSilkHouse$Piles;" ∈ tb := tb_in 281 rfl rfl
set_option maxRecDepth 100000 in
theorem m_283 : Cond.fieldLink RX3 16 "SilkHouse$Judge" "one" "I" ∈ tb := tb_in 283 rfl rfl
set_option maxRecDepth 100000 in
theorem m_284 : Cond.fieldLink RX3 20 "SilkHouse$Judge" "other" "I" ∈ tb := tb_in 284 rfl rfl
set_option maxRecDepth 100000 in
theorem m_296 : Cond.classLink RX11 55 RX2 ∈ tb := tb_in 296 rfl rfl
set_option maxRecDepth 100000 in
theorem m_297 : Cond.instantiable RX2 8 ∈ tb := tb_in 297 rfl rfl
set_option maxRecDepth 100000 in
theorem m_298 : Cond.methodLink RX11 57 yX2_init ∈ tb := tb_in 298 rfl rfl
set_option maxRecDepth 100000 in
theorem m_299 : Cond.instanceMethod yX2_init ∈ tb := tb_in 299 rfl rfl
set_option maxRecDepth 100000 in
theorem m_300 : Cond.code yX2_init cX2_init 2 none ∈ tb := tb_in 300 rfl rfl
set_option maxRecDepth 100000 in
theorem m_301 : Cond.methodLink RX2 3 objectInit ∈ tb := tb_in 301 rfl rfl
set_option maxRecDepth 100000 in
theorem m_302 : Cond.classLink RX2 9 RX7 ∈ tb := tb_in 302 rfl rfl
set_option maxRecDepth 100000 in
theorem m_304 : Cond.fieldLink RX2 40 "SilkHouse$Doubts" "skeins" "LSilkHouse$Skeins;" ∈ tb := tb_in 304 rfl rfl
set_option maxRecDepth 100000 in
theorem m_305 : Cond.fieldLink RX2 12 "SilkHouse$Doubts" "piles" "LSilkHouse$Piles;" ∈ tb := tb_in 305 rfl rfl
set_option maxRecDepth 100000 in
theorem m_306 : Cond.fieldLink RX2 20 "SilkHouse$Doubts" "first" "[I" ∈ tb := tb_in 306 rfl rfl
set_option maxRecDepth 100000 in
theorem m_307 : Cond.fieldLink RX2 24 "SilkHouse$Doubts" "bale" "I" ∈ tb := tb_in 307 rfl rfl
set_option maxRecDepth 100000 in
theorem m_308 : Cond.fieldLink RX2 28 "SilkHouse$Doubts" "day" "I" ∈ tb := tb_in 308 rfl rfl
set_option maxRecDepth 100000 in
theorem m_309 : Cond.fieldLink RX2 31 "SilkHouse$Doubts" "part" "I" ∈ tb := tb_in 309 rfl rfl
set_option maxRecDepth 100000 in
theorem m_310 : Cond.fieldLink RX2 34 "SilkHouse$Doubts" "ways" "I" ∈ tb := tb_in 310 rfl rfl
set_option maxRecDepth 100000 in
theorem m_311 : Cond.fieldLink RX2 37 "SilkHouse$Doubts" "far" "I" ∈ tb := tb_in 311 rfl rfl
set_option maxRecDepth 100000 in
theorem m_329 : Cond.classLink RX11 64 RX5 ∈ tb := tb_in 329 rfl rfl
set_option maxRecDepth 100000 in
theorem m_330 : Cond.instantiable RX5 7 ∈ tb := tb_in 330 rfl rfl
set_option maxRecDepth 100000 in
theorem m_332 : Cond.instanceMethod yX5_init ∈ tb := tb_in 332 rfl rfl
set_option maxRecDepth 100000 in
theorem m_333 : Cond.code yX5_init cX5_init 1 none ∈ tb := tb_in 333 rfl rfl
set_option maxRecDepth 100000 in
theorem m_334 : Cond.methodLink RX5 1 objectInit ∈ tb := tb_in 334 rfl rfl
set_option maxRecDepth 100000 in
theorem m_335 : Cond.fieldLink RX5 9 "SilkHouse$Ovens" "minutes" "[I" ∈ tb := tb_in 335 rfl rfl
set_option maxRecDepth 100000 in
theorem m_336 : Cond.fieldLink RX5 13 "SilkHouse$Ovens" "tried" "[I" ∈ tb := tb_in 336 rfl rfl
set_option maxRecDepth 100000 in
theorem m_337 : Cond.fieldLink RX5 16 "SilkHouse$Ovens" "ends" "[I" ∈ tb := tb_in 337 rfl rfl
set_option maxRecDepth 100000 in
theorem m_338 : Cond.fieldLink RX5 19 "SilkHouse$Ovens" "best" "[I" ∈ tb := tb_in 338 rfl rfl
set_option maxRecDepth 100000 in
theorem m_340 : Cond.fieldLink RX5 22 "SilkHouse$Ovens" "number" "I" ∈ tb := tb_in 340 rfl rfl
set_option maxRecDepth 100000 in
theorem m_341 : Cond.fieldLink RX11 305 "SilkHouse$Ovens" "number" "I" ∈ tb := tb_in 341 rfl rfl
set_option maxRecDepth 100000 in
theorem m_342 : Cond.fieldLink RX5 26 "SilkHouse$Ovens" "bestEnd" "I" ∈ tb := tb_in 342 rfl rfl
set_option maxRecDepth 100000 in
theorem m_343 : Cond.fieldLink RX11 311 "SilkHouse$Ovens" "bestEnd" "I" ∈ tb := tb_in 343 rfl rfl
set_option maxRecDepth 100000 in
theorem m_344 : Cond.fieldLink RX5 29 "SilkHouse$Ovens" "arrangedFor" "I" ∈ tb := tb_in 344 rfl rfl
set_option maxRecDepth 100000 in
theorem m_360 : Cond.classLink RX11 71 RX4 ∈ tb := tb_in 360 rfl rfl
set_option maxRecDepth 100000 in
theorem m_361 : Cond.instantiable RX4 3 ∈ tb := tb_in 361 rfl rfl
set_option maxRecDepth 100000 in
theorem m_363 : Cond.instanceMethod yX4_init ∈ tb := tb_in 363 rfl rfl
set_option maxRecDepth 100000 in
theorem m_364 : Cond.code yX4_init cX4_init 1 none ∈ tb := tb_in 364 rfl rfl
set_option maxRecDepth 100000 in
theorem m_365 : Cond.methodLink RX4 1 objectInit ∈ tb := tb_in 365 rfl rfl
set_option maxRecDepth 100000 in
theorem m_366 : Cond.fieldLink RX4 9 "SilkHouse$Neighbours" "low" "[I" ∈ tb := tb_in 366 rfl rfl
set_option maxRecDepth 100000 in
theorem m_367 : Cond.fieldLink RX4 13 "SilkHouse$Neighbours" "high" "[I" ∈ tb := tb_in 367 rfl rfl
set_option maxRecDepth 100000 in
theorem m_368 : Cond.fieldLink RX4 16 "SilkHouse$Neighbours" "number" "I" ∈ tb := tb_in 368 rfl rfl
set_option maxRecDepth 100000 in
theorem m_369 : Cond.fieldLink RX11 320 "SilkHouse$Neighbours" "number" "I" ∈ tb := tb_in 369 rfl rfl
set_option maxRecDepth 100000 in
theorem m_377 : Cond.classLink RX11 78 RX6 ∈ tb := tb_in 377 rfl rfl
set_option maxRecDepth 100000 in
theorem m_378 : Cond.instantiable RX6 8 ∈ tb := tb_in 378 rfl rfl
set_option maxRecDepth 100000 in
theorem m_380 : Cond.instanceMethod yX6_init ∈ tb := tb_in 380 rfl rfl
set_option maxRecDepth 100000 in
theorem m_381 : Cond.code yX6_init cX6_init 1 none ∈ tb := tb_in 381 rfl rfl
set_option maxRecDepth 100000 in
theorem m_382 : Cond.methodLink RX6 3 objectInit ∈ tb := tb_in 382 rfl rfl
set_option maxRecDepth 100000 in
theorem m_383 : Cond.fieldLink RX6 11 "SilkHouse$Papers" "kind" "[I" ∈ tb := tb_in 383 rfl rfl
set_option maxRecDepth 100000 in
theorem m_385 : Cond.fieldLink RX6 15 "SilkHouse$Papers" "bale" "[I" ∈ tb := tb_in 385 rfl rfl
set_option maxRecDepth 100000 in
theorem m_387 : Cond.fieldLink RX6 18 "SilkHouse$Papers" "amount" "[I" ∈ tb := tb_in 387 rfl rfl
set_option maxRecDepth 100000 in
theorem m_389 : Cond.fieldLink RX6 21 "SilkHouse$Papers" "on" "[I" ∈ tb := tb_in 389 rfl rfl
set_option maxRecDepth 100000 in
theorem m_391 : Cond.fieldLink RX6 24 "SilkHouse$Papers" "day" "[I" ∈ tb := tb_in 391 rfl rfl
set_option maxRecDepth 100000 in
theorem m_393 : Cond.fieldLink RX6 27 "SilkHouse$Papers" "undone" "[I" ∈ tb := tb_in 393 rfl rfl
set_option maxRecDepth 100000 in
theorem m_395 : Cond.fieldLink RX6 30 "SilkHouse$Papers" "falls" "[Z" ∈ tb := tb_in 395 rfl rfl
set_option maxRecDepth 100000 in
theorem m_396 : Cond.fieldLink RX6 34 "SilkHouse$Papers" "number" "I" ∈ tb := tb_in 396 rfl rfl
set_option maxRecDepth 100000 in
theorem m_397 : Cond.fieldLink RX11 171 "SilkHouse$Papers" "number" "I" ∈ tb := tb_in 397 rfl rfl
set_option maxRecDepth 100000 in
theorem m_415 : Cond.fieldLink RX11 10 "SilkHouse" "skeins" "LSilkHouse$Skeins;" ∈ tb := tb_in 415 rfl rfl
set_option maxRecDepth 100000 in
theorem m_416 : Cond.fieldLink RX11 19 "SilkHouse" "scales" "LSilkHouse$Scales;" ∈ tb := tb_in 416 rfl rfl
set_option maxRecDepth 100000 in
theorem m_417 : Cond.fieldLink RX11 26 "SilkHouse" "bales" "LSilkHouse$Bales;" ∈ tb := tb_in 417 rfl rfl
set_option maxRecDepth 100000 in
theorem m_418 : Cond.fieldLink RX11 33 "SilkHouse" "book" "LSilkHouse$Book;" ∈ tb := tb_in 418 rfl rfl
set_option maxRecDepth 100000 in
theorem m_419 : Cond.fieldLink RX11 42 "SilkHouse" "reader" "LSilkHouse$Reader;" ∈ tb := tb_in 419 rfl rfl
set_option maxRecDepth 100000 in
theorem m_420 : Cond.fieldLink RX11 51 "SilkHouse" "judge" "LSilkHouse$Judge;" ∈ tb := tb_in 420 rfl rfl
set_option maxRecDepth 100000 in
theorem m_421 : Cond.fieldLink RX11 60 "SilkHouse" "doubts" "LSilkHouse$Doubts;" ∈ tb := tb_in 421 rfl rfl
set_option maxRecDepth 100000 in
theorem m_422 : Cond.fieldLink RX11 67 "SilkHouse" "ovens" "LSilkHouse$Ovens;" ∈ tb := tb_in 422 rfl rfl
set_option maxRecDepth 100000 in
theorem m_423 : Cond.fieldLink RX11 74 "SilkHouse" "neighbours" "LSilkHouse$Neighbours;" ∈ tb := tb_in 423 rfl rfl
set_option maxRecDepth 100000 in
theorem m_424 : Cond.fieldLink RX11 81 "SilkHouse" "papers" "LSilkHouse$Papers;" ∈ tb := tb_in 424 rfl rfl
set_option maxRecDepth 100000 in
theorem m_425 : Cond.fieldLink RX11 85 "SilkHouse" "now" "I" ∈ tb := tb_in 425 rfl rfl
set_option maxRecDepth 100000 in
theorem m_449 : Cond.methodLink RL 13 yX11_go ∈ tb := tb_in 449 rfl rfl
set_option maxRecDepth 100000 in
theorem m_450 : Cond.instanceMethod yX11_go ∈ tb := tb_in 450 rfl rfl
set_option maxRecDepth 100000 in
theorem m_451 : Cond.selects RX11 yX11_go yX11_go ∈ tb := tb_in 451 rfl rfl
set_option maxRecDepth 100000 in
theorem m_452 : Cond.code yX11_go cX11_go 2 (some .int) ∈ tb := tb_in 452 rfl rfl
set_option maxRecDepth 100000 in
theorem m_453 : Cond.methodLink RX11 89 yX11_within ∈ tb := tb_in 453 rfl rfl
set_option maxRecDepth 100000 in
theorem m_454 : Cond.static yX11_within ∈ tb := tb_in 454 rfl rfl
set_option maxRecDepth 100000 in
theorem m_455 : Cond.code yX11_within cX11_within 3 (some .boolean) ∈ tb := tb_in 455 rfl rfl
set_option maxRecDepth 100000 in
theorem m_456 : Cond.constant RX11 93 (-100002) ∈ tb := tb_in 456 rfl rfl
set_option maxRecDepth 100000 in
theorem m_457 : Cond.constant RX11 94 (-100003) ∈ tb := tb_in 457 rfl rfl
set_option maxRecDepth 100000 in
theorem m_458 : Cond.methodLink RL 18 yX11_bale ∈ tb := tb_in 458 rfl rfl
set_option maxRecDepth 100000 in
theorem m_459 : Cond.instanceMethod yX11_bale ∈ tb := tb_in 459 rfl rfl
set_option maxRecDepth 100000 in
theorem m_460 : Cond.selects RX11 yX11_bale yX11_bale ∈ tb := tb_in 460 rfl rfl
set_option maxRecDepth 100000 in
theorem m_461 : Cond.code yX11_bale cX11_bale 2 (some .int) ∈ tb := tb_in 461 rfl rfl
set_option maxRecDepth 100000 in
theorem m_462 : Cond.constant RX11 95 (99999) ∈ tb := tb_in 462 rfl rfl
set_option maxRecDepth 100000 in
theorem m_464 : Cond.methodLink RX11 100 yX0_bring ∈ tb := tb_in 464 rfl rfl
set_option maxRecDepth 100000 in
theorem m_465 : Cond.instanceMethod yX0_bring ∈ tb := tb_in 465 rfl rfl
set_option maxRecDepth 100000 in
theorem m_466 : Cond.selects RX0 yX0_bring yX0_bring ∈ tb := tb_in 466 rfl rfl
set_option maxRecDepth 100000 in
theorem m_467 : Cond.code yX0_bring cX0_bring 2 (some .int) ∈ tb := tb_in 467 rfl rfl
set_option maxRecDepth 100000 in
theorem m_468 : Cond.methodLink RL 22 yX11_skein ∈ tb := tb_in 468 rfl rfl
set_option maxRecDepth 100000 in
theorem m_469 : Cond.instanceMethod yX11_skein ∈ tb := tb_in 469 rfl rfl
set_option maxRecDepth 100000 in
theorem m_470 : Cond.selects RX11 yX11_skein yX11_skein ∈ tb := tb_in 470 rfl rfl
set_option maxRecDepth 100000 in
theorem m_471 : Cond.code yX11_skein cX11_skein 9 (some .int) ∈ tb := tb_in 471 rfl rfl
set_option maxRecDepth 100000 in
theorem m_472 : Cond.methodLink RX11 104 yX0_has ∈ tb := tb_in 472 rfl rfl
set_option maxRecDepth 100000 in
theorem m_473 : Cond.instanceMethod yX0_has ∈ tb := tb_in 473 rfl rfl
set_option maxRecDepth 100000 in
theorem m_474 : Cond.selects RX0 yX0_has yX0_has ∈ tb := tb_in 474 rfl rfl
set_option maxRecDepth 100000 in
theorem m_475 : Cond.code yX0_has cX0_has 2 (some .boolean) ∈ tb := tb_in 475 rfl rfl
set_option maxRecDepth 100000 in
theorem m_476 : Cond.constant RX11 108 (-100001) ∈ tb := tb_in 476 rfl rfl
set_option maxRecDepth 100000 in
theorem m_505 : Cond.methodLink RL 27 yX11_lose ∈ tb := tb_in 505 rfl rfl
set_option maxRecDepth 100000 in
theorem m_506 : Cond.instanceMethod yX11_lose ∈ tb := tb_in 506 rfl rfl
set_option maxRecDepth 100000 in
theorem m_507 : Cond.selects RX11 yX11_lose yX11_lose ∈ tb := tb_in 507 rfl rfl
set_option maxRecDepth 100000 in
theorem m_508 : Cond.code yX11_lose cX11_lose 2 (some .int) ∈ tb := tb_in 508 rfl rfl
set_option maxRecDepth 100000 in
theorem m_509 : Cond.methodLink RX11 126 yX10_has ∈ tb := tb_in 509 rfl rfl
set_option maxRecDepth 100000 in
theorem m_510 : Cond.instanceMethod yX10_has ∈ tb := tb_in 510 rfl rfl
set_option maxRecDepth 100000 in
theorem m_511 : Cond.selects RX10 yX10_has yX10_has ∈ tb := tb_in 511 rfl rfl
set_option maxRecDepth 100000 in
theorem m_512 : Cond.code yX10_has cX10_has 2 (some .boolean) ∈ tb := tb_in 512 rfl rfl
set_option maxRecDepth 100000 in
theorem m_518 : Cond.methodLink RL 31 yX11_told ∈ tb := tb_in 518 rfl rfl
set_option maxRecDepth 100000 in
theorem m_519 : Cond.instanceMethod yX11_told ∈ tb := tb_in 519 rfl rfl
set_option maxRecDepth 100000 in
theorem m_520 : Cond.selects RX11 yX11_told yX11_told ∈ tb := tb_in 520 rfl rfl
set_option maxRecDepth 100000 in
theorem m_521 : Cond.code yX11_told cX11_told 3 (some .int) ∈ tb := tb_in 521 rfl rfl
set_option maxRecDepth 100000 in
theorem m_522 : Cond.methodLink RL 36 yX11_test ∈ tb := tb_in 522 rfl rfl
set_option maxRecDepth 100000 in
theorem m_523 : Cond.instanceMethod yX11_test ∈ tb := tb_in 523 rfl rfl
set_option maxRecDepth 100000 in
theorem m_524 : Cond.selects RX11 yX11_test yX11_test ∈ tb := tb_in 524 rfl rfl
set_option maxRecDepth 100000 in
theorem m_525 : Cond.code yX11_test cX11_test 4 (some .int) ∈ tb := tb_in 525 rfl rfl
set_option maxRecDepth 100000 in
theorem m_526 : Cond.methodLink RX11 135 yX9_note ∈ tb := tb_in 526 rfl rfl
set_option maxRecDepth 100000 in
theorem m_527 : Cond.instanceMethod yX9_note ∈ tb := tb_in 527 rfl rfl
set_option maxRecDepth 100000 in
theorem m_528 : Cond.selects RX9 yX9_note yX9_note ∈ tb := tb_in 528 rfl rfl
set_option maxRecDepth 100000 in
theorem m_529 : Cond.code yX9_note cX9_note 4 (some .int) ∈ tb := tb_in 529 rfl rfl
set_option maxRecDepth 100000 in
theorem m_530 : Cond.methodLink RL 41 yX11_error ∈ tb := tb_in 530 rfl rfl
set_option maxRecDepth 100000 in
theorem m_531 : Cond.instanceMethod yX11_error ∈ tb := tb_in 531 rfl rfl
set_option maxRecDepth 100000 in
theorem m_532 : Cond.selects RX11 yX11_error yX11_error ∈ tb := tb_in 532 rfl rfl
set_option maxRecDepth 100000 in
theorem m_533 : Cond.code yX11_error cX11_error 4 (some .int) ∈ tb := tb_in 533 rfl rfl
set_option maxRecDepth 100000 in
theorem m_534 : Cond.methodLink RX11 138 yX9_least ∈ tb := tb_in 534 rfl rfl
set_option maxRecDepth 100000 in
theorem m_535 : Cond.instanceMethod yX9_least ∈ tb := tb_in 535 rfl rfl
set_option maxRecDepth 100000 in
theorem m_536 : Cond.selects RX9 yX9_least yX9_least ∈ tb := tb_in 536 rfl rfl
set_option maxRecDepth 100000 in
theorem m_537 : Cond.code yX9_least cX9_least 5 (some .int) ∈ tb := tb_in 537 rfl rfl
set_option maxRecDepth 100000 in
theorem m_538 : Cond.methodLink RX9 25 yX9_lastBy ∈ tb := tb_in 538 rfl rfl
set_option maxRecDepth 100000 in
theorem m_540 : Cond.instanceMethod yX9_lastBy ∈ tb := tb_in 540 rfl rfl
set_option maxRecDepth 100000 in
theorem m_541 : Cond.code yX9_lastBy cX9_lastBy 5 (some .int) ∈ tb := tb_in 541 rfl rfl
set_option maxRecDepth 100000 in
theorem m_542 : Cond.methodLink RX9 29 yX9_firstAfter ∈ tb := tb_in 542 rfl rfl
set_option maxRecDepth 100000 in
theorem m_544 : Cond.instanceMethod yX9_firstAfter ∈ tb := tb_in 544 rfl rfl
set_option maxRecDepth 100000 in
theorem m_545 : Cond.code yX9_firstAfter cX9_firstAfter 4 (some .int) ∈ tb := tb_in 545 rfl rfl
set_option maxRecDepth 100000 in
theorem m_546 : Cond.methodLink RX9 32 yX9_driftOf ∈ tb := tb_in 546 rfl rfl
set_option maxRecDepth 100000 in
theorem m_548 : Cond.instanceMethod yX9_driftOf ∈ tb := tb_in 548 rfl rfl
set_option maxRecDepth 100000 in
theorem m_549 : Cond.code yX9_driftOf cX9_driftOf 3 (some .int) ∈ tb := tb_in 549 rfl rfl
set_option maxRecDepth 100000 in
theorem m_550 : Cond.methodLink RX9 35 Lib.Math.min.name ∈ tb := tb_in 550 rfl rfl
set_option maxRecDepth 100000 in
theorem m_551 : Cond.static Lib.Math.min.name ∈ tb := tb_in 551 rfl rfl
set_option maxRecDepth 100000 in
theorem m_552 : Cond.code Lib.Math.min.name Lib.Math.min.code 2 (some .int) ∈ tb := tb_in 552 rfl rfl
set_option maxRecDepth 100000 in
theorem m_553 : Cond.methodLink RX11 141 yX9_greatest ∈ tb := tb_in 553 rfl rfl
set_option maxRecDepth 100000 in
theorem m_554 : Cond.instanceMethod yX9_greatest ∈ tb := tb_in 554 rfl rfl
set_option maxRecDepth 100000 in
theorem m_555 : Cond.selects RX9 yX9_greatest yX9_greatest ∈ tb := tb_in 555 rfl rfl
set_option maxRecDepth 100000 in
theorem m_556 : Cond.code yX9_greatest cX9_greatest 5 (some .int) ∈ tb := tb_in 556 rfl rfl
set_option maxRecDepth 100000 in
theorem m_557 : Cond.methodLink RX9 40 Lib.Math.max.name ∈ tb := tb_in 557 rfl rfl
set_option maxRecDepth 100000 in
theorem m_558 : Cond.static Lib.Math.max.name ∈ tb := tb_in 558 rfl rfl
set_option maxRecDepth 100000 in
theorem m_559 : Cond.code Lib.Math.max.name Lib.Math.max.code 2 (some .int) ∈ tb := tb_in 559 rfl rfl
set_option maxRecDepth 100000 in
theorem m_560 : Cond.methodLink RL 45 yX11_ratio ∈ tb := tb_in 560 rfl rfl
set_option maxRecDepth 100000 in
theorem m_561 : Cond.instanceMethod yX11_ratio ∈ tb := tb_in 561 rfl rfl
set_option maxRecDepth 100000 in
theorem m_562 : Cond.selects RX11 yX11_ratio yX11_ratio ∈ tb := tb_in 562 rfl rfl
set_option maxRecDepth 100000 in
theorem m_563 : Cond.code yX11_ratio cX11_ratio 4 (some .int) ∈ tb := tb_in 563 rfl rfl
set_option maxRecDepth 100000 in
theorem m_587 : Cond.methodLink RL 49 yX11_count ∈ tb := tb_in 587 rfl rfl
set_option maxRecDepth 100000 in
theorem m_588 : Cond.instanceMethod yX11_count ∈ tb := tb_in 588 rfl rfl
set_option maxRecDepth 100000 in
theorem m_589 : Cond.selects RX11 yX11_count yX11_count ∈ tb := tb_in 589 rfl rfl
set_option maxRecDepth 100000 in
theorem m_590 : Cond.code yX11_count cX11_count 2 (some .int) ∈ tb := tb_in 590 rfl rfl
set_option maxRecDepth 100000 in
theorem m_591 : Cond.methodLink RX11 172 yX11_balesIn ∈ tb := tb_in 591 rfl rfl
set_option maxRecDepth 100000 in
theorem m_593 : Cond.instanceMethod yX11_balesIn ∈ tb := tb_in 593 rfl rfl
set_option maxRecDepth 100000 in
theorem m_594 : Cond.code yX11_balesIn cX11_balesIn 4 (some .int) ∈ tb := tb_in 594 rfl rfl
set_option maxRecDepth 100000 in
theorem m_601 : Cond.instanceMethod yX1_holding ∈ tb := tb_in 601 rfl rfl
set_option maxRecDepth 100000 in
theorem m_602 : Cond.selects RX1 yX1_holding yX1_holding ∈ tb := tb_in 602 rfl rfl
set_option maxRecDepth 100000 in
theorem m_603 : Cond.code yX1_holding cX1_holding 7 (some .int) ∈ tb := tb_in 603 rfl rfl
set_option maxRecDepth 100000 in
theorem m_604 : Cond.methodLink RX1 42 yX1_findCounting ∈ tb := tb_in 604 rfl rfl
set_option maxRecDepth 100000 in
theorem m_606 : Cond.instanceMethod yX1_findCounting ∈ tb := tb_in 606 rfl rfl
set_option maxRecDepth 100000 in
theorem m_607 : Cond.code yX1_findCounting cX1_findCounting 3 none ∈ tb := tb_in 607 rfl rfl
set_option maxRecDepth 100000 in
theorem m_616 : Cond.fieldLink RX1 46 "SilkHouse$Book" "AT_FIRST" "[I" ∈ tb := tb_in 616 rfl rfl
set_option maxRecDepth 100000 in
theorem m_659 : Cond.methodLink RX11 178 yX11_fees ∈ tb := tb_in 659 rfl rfl
set_option maxRecDepth 100000 in
theorem m_661 : Cond.instanceMethod yX11_fees ∈ tb := tb_in 661 rfl rfl
set_option maxRecDepth 100000 in
theorem m_662 : Cond.code yX11_fees cX11_fees 3 (some .int) ∈ tb := tb_in 662 rfl rfl
set_option maxRecDepth 100000 in
theorem m_667 : Cond.methodLink RX11 194 yX1_holding ∈ tb := tb_in 667 rfl rfl
set_option maxRecDepth 100000 in
theorem m_668 : Cond.methodLink RL 55 yX11_feed ∈ tb := tb_in 668 rfl rfl
set_option maxRecDepth 100000 in
theorem m_669 : Cond.instanceMethod yX11_feed ∈ tb := tb_in 669 rfl rfl
set_option maxRecDepth 100000 in
theorem m_670 : Cond.selects RX11 yX11_feed yX11_feed ∈ tb := tb_in 670 rfl rfl
set_option maxRecDepth 100000 in
theorem m_671 : Cond.code yX11_feed cX11_feed 4 (some .int) ∈ tb := tb_in 671 rfl rfl
set_option maxRecDepth 100000 in
theorem m_672 : Cond.methodLink RX11 197 yX8_take ∈ tb := tb_in 672 rfl rfl
set_option maxRecDepth 100000 in
theorem m_673 : Cond.instanceMethod yX8_take ∈ tb := tb_in 673 rfl rfl
set_option maxRecDepth 100000 in
theorem m_674 : Cond.selects RX8 yX8_take yX8_take ∈ tb := tb_in 674 rfl rfl
set_option maxRecDepth 100000 in
theorem m_675 : Cond.code yX8_take cX8_take 5 (some .int) ∈ tb := tb_in 675 rfl rfl
set_option maxRecDepth 100000 in
theorem m_676 : Cond.methodLink RL 60 yX11_rule ∈ tb := tb_in 676 rfl rfl
set_option maxRecDepth 100000 in
theorem m_677 : Cond.instanceMethod yX11_rule ∈ tb := tb_in 677 rfl rfl
set_option maxRecDepth 100000 in
theorem m_678 : Cond.selects RX11 yX11_rule yX11_rule ∈ tb := tb_in 678 rfl rfl
set_option maxRecDepth 100000 in
theorem m_679 : Cond.code yX11_rule cX11_rule 3 (some .int) ∈ tb := tb_in 679 rfl rfl
set_option maxRecDepth 100000 in
theorem m_680 : Cond.methodLink RX11 201 yX8_read ∈ tb := tb_in 680 rfl rfl
set_option maxRecDepth 100000 in
theorem m_681 : Cond.instanceMethod yX8_read ∈ tb := tb_in 681 rfl rfl
set_option maxRecDepth 100000 in
theorem m_682 : Cond.selects RX8 yX8_read yX8_read ∈ tb := tb_in 682 rfl rfl
set_option maxRecDepth 100000 in
theorem m_683 : Cond.code yX8_read cX8_read 3 (some .int) ∈ tb := tb_in 683 rfl rfl
set_option maxRecDepth 100000 in
theorem m_684 : Cond.methodLink RX8 32 yX1_startDraft ∈ tb := tb_in 684 rfl rfl
set_option maxRecDepth 100000 in
theorem m_685 : Cond.instanceMethod yX1_startDraft ∈ tb := tb_in 685 rfl rfl
set_option maxRecDepth 100000 in
theorem m_686 : Cond.selects RX1 yX1_startDraft yX1_startDraft ∈ tb := tb_in 686 rfl rfl
set_option maxRecDepth 100000 in
theorem m_687 : Cond.code yX1_startDraft cX1_startDraft 1 none ∈ tb := tb_in 687 rfl rfl
set_option maxRecDepth 100000 in
theorem m_688 : Cond.methodLink RX8 37 yX8_skipBlanks ∈ tb := tb_in 688 rfl rfl
set_option maxRecDepth 100000 in
theorem m_690 : Cond.instanceMethod yX8_skipBlanks ∈ tb := tb_in 690 rfl rfl
set_option maxRecDepth 100000 in
theorem m_691 : Cond.code yX8_skipBlanks cX8_skipBlanks 1 (some .boolean) ∈ tb := tb_in 691 rfl rfl
set_option maxRecDepth 100000 in
theorem m_805 : Cond.methodLink RX11 204 yX1_enact ∈ tb := tb_in 805 rfl rfl
set_option maxRecDepth 100000 in
theorem m_806 : Cond.instanceMethod yX1_enact ∈ tb := tb_in 806 rfl rfl
set_option maxRecDepth 100000 in
theorem m_807 : Cond.selects RX1 yX1_enact yX1_enact ∈ tb := tb_in 807 rfl rfl
set_option maxRecDepth 100000 in
theorem m_808 : Cond.code yX1_enact cX1_enact 2 (some .int) ∈ tb := tb_in 808 rfl rfl
set_option maxRecDepth 100000 in
theorem m_809 : Cond.methodLink RL 64 yX11_fault ∈ tb := tb_in 809 rfl rfl
set_option maxRecDepth 100000 in
theorem m_810 : Cond.instanceMethod yX11_fault ∈ tb := tb_in 810 rfl rfl
set_option maxRecDepth 100000 in
theorem m_811 : Cond.selects RX11 yX11_fault yX11_fault ∈ tb := tb_in 811 rfl rfl
set_option maxRecDepth 100000 in
theorem m_812 : Cond.code yX11_fault cX11_fault 1 (some .int) ∈ tb := tb_in 812 rfl rfl
set_option maxRecDepth 100000 in
theorem m_813 : Cond.methodLink RL 69 yX11_force ∈ tb := tb_in 813 rfl rfl
set_option maxRecDepth 100000 in
theorem m_814 : Cond.instanceMethod yX11_force ∈ tb := tb_in 814 rfl rfl
set_option maxRecDepth 100000 in
theorem m_815 : Cond.selects RX11 yX11_force yX11_force ∈ tb := tb_in 815 rfl rfl
set_option maxRecDepth 100000 in
theorem m_816 : Cond.code yX11_force cX11_force 3 (some .int) ∈ tb := tb_in 816 rfl rfl
set_option maxRecDepth 100000 in
theorem m_817 : Cond.methodLink RL 73 yX11_letter ∈ tb := tb_in 817 rfl rfl
set_option maxRecDepth 100000 in
theorem m_818 : Cond.instanceMethod yX11_letter ∈ tb := tb_in 818 rfl rfl
set_option maxRecDepth 100000 in
theorem m_819 : Cond.selects RX11 yX11_letter yX11_letter ∈ tb := tb_in 819 rfl rfl
set_option maxRecDepth 100000 in
theorem m_820 : Cond.code yX11_letter cX11_letter 3 (some .int) ∈ tb := tb_in 820 rfl rfl
set_option maxRecDepth 100000 in
theorem m_821 : Cond.methodLink RX11 210 yX1_has ∈ tb := tb_in 821 rfl rfl
set_option maxRecDepth 100000 in
theorem m_822 : Cond.instanceMethod yX1_has ∈ tb := tb_in 822 rfl rfl
set_option maxRecDepth 100000 in
theorem m_823 : Cond.selects RX1 yX1_has yX1_has ∈ tb := tb_in 823 rfl rfl
set_option maxRecDepth 100000 in
theorem m_824 : Cond.code yX1_has cX1_has 2 (some .boolean) ∈ tb := tb_in 824 rfl rfl
set_option maxRecDepth 100000 in
theorem m_829 : Cond.methodLink RL 77 yX11_state ∈ tb := tb_in 829 rfl rfl
set_option maxRecDepth 100000 in
theorem m_830 : Cond.instanceMethod yX11_state ∈ tb := tb_in 830 rfl rfl
set_option maxRecDepth 100000 in
theorem m_831 : Cond.selects RX11 yX11_state yX11_state ∈ tb := tb_in 831 rfl rfl
set_option maxRecDepth 100000 in
theorem m_832 : Cond.code yX11_state cX11_state 3 (some .int) ∈ tb := tb_in 832 rfl rfl
set_option maxRecDepth 100000 in
theorem m_833 : Cond.methodLink RL 81 yX11_lawful ∈ tb := tb_in 833 rfl rfl
set_option maxRecDepth 100000 in
theorem m_834 : Cond.instanceMethod yX11_lawful ∈ tb := tb_in 834 rfl rfl
set_option maxRecDepth 100000 in
theorem m_835 : Cond.selects RX11 yX11_lawful yX11_lawful ∈ tb := tb_in 835 rfl rfl
set_option maxRecDepth 100000 in
theorem m_836 : Cond.code yX11_lawful cX11_lawful 4 (some .long) ∈ tb := tb_in 836 rfl rfl
set_option maxRecDepth 100000 in
theorem m_837 : Cond.constantLong RX11 214 (-100001) ∈ tb := tb_in 837 rfl rfl
set_option maxRecDepth 100000 in
theorem m_838 : Cond.constantLong RX11 216 (-100002) ∈ tb := tb_in 838 rfl rfl
set_option maxRecDepth 100000 in
theorem m_854 : Cond.methodLink RL 86 yX11_span ∈ tb := tb_in 854 rfl rfl
set_option maxRecDepth 100000 in
theorem m_855 : Cond.instanceMethod yX11_span ∈ tb := tb_in 855 rfl rfl
set_option maxRecDepth 100000 in
theorem m_856 : Cond.selects RX11 yX11_span yX11_span ∈ tb := tb_in 856 rfl rfl
set_option maxRecDepth 100000 in
theorem m_857 : Cond.code yX11_span cX11_span 7 (some .long) ∈ tb := tb_in 857 rfl rfl
set_option maxRecDepth 100000 in
theorem m_866 : Cond.methodLink RL 91 yX11_cause ∈ tb := tb_in 866 rfl rfl
set_option maxRecDepth 100000 in
theorem m_867 : Cond.instanceMethod yX11_cause ∈ tb := tb_in 867 rfl rfl
set_option maxRecDepth 100000 in
theorem m_868 : Cond.selects RX11 yX11_cause yX11_cause ∈ tb := tb_in 868 rfl rfl
set_option maxRecDepth 100000 in
theorem m_869 : Cond.code yX11_cause cX11_cause 3 (some .int) ∈ tb := tb_in 869 rfl rfl
set_option maxRecDepth 100000 in
theorem m_913 : Cond.methodLink RL 95 yX11_odd ∈ tb := tb_in 913 rfl rfl
set_option maxRecDepth 100000 in
theorem m_914 : Cond.instanceMethod yX11_odd ∈ tb := tb_in 914 rfl rfl
set_option maxRecDepth 100000 in
theorem m_915 : Cond.selects RX11 yX11_odd yX11_odd ∈ tb := tb_in 915 rfl rfl
set_option maxRecDepth 100000 in
theorem m_916 : Cond.code yX11_odd cX11_odd 3 (some .int) ∈ tb := tb_in 916 rfl rfl
set_option maxRecDepth 100000 in
theorem m_925 : Cond.methodLink RL 99 yX11_needed ∈ tb := tb_in 925 rfl rfl
set_option maxRecDepth 100000 in
theorem m_926 : Cond.instanceMethod yX11_needed ∈ tb := tb_in 926 rfl rfl
set_option maxRecDepth 100000 in
theorem m_927 : Cond.selects RX11 yX11_needed yX11_needed ∈ tb := tb_in 927 rfl rfl
set_option maxRecDepth 100000 in
theorem m_928 : Cond.code yX11_needed cX11_needed 3 (some .int) ∈ tb := tb_in 928 rfl rfl
set_option maxRecDepth 100000 in
theorem m_941 : Cond.methodLink RL 103 yX11_thread ∈ tb := tb_in 941 rfl rfl
set_option maxRecDepth 100000 in
theorem m_942 : Cond.instanceMethod yX11_thread ∈ tb := tb_in 942 rfl rfl
set_option maxRecDepth 100000 in
theorem m_943 : Cond.selects RX11 yX11_thread yX11_thread ∈ tb := tb_in 943 rfl rfl
set_option maxRecDepth 100000 in
theorem m_944 : Cond.code yX11_thread cX11_thread 3 (some .int) ∈ tb := tb_in 944 rfl rfl
set_option maxRecDepth 100000 in
theorem m_949 : Cond.methodLink RL 107 yX11_size ∈ tb := tb_in 949 rfl rfl
set_option maxRecDepth 100000 in
theorem m_950 : Cond.instanceMethod yX11_size ∈ tb := tb_in 950 rfl rfl
set_option maxRecDepth 100000 in
theorem m_951 : Cond.selects RX11 yX11_size yX11_size ∈ tb := tb_in 951 rfl rfl
set_option maxRecDepth 100000 in
theorem m_952 : Cond.code yX11_size cX11_size 7 (some .int) ∈ tb := tb_in 952 rfl rfl
set_option maxRecDepth 100000 in
theorem m_961 : Cond.methodLink RL 111 yX11_named ∈ tb := tb_in 961 rfl rfl
set_option maxRecDepth 100000 in
theorem m_962 : Cond.instanceMethod yX11_named ∈ tb := tb_in 962 rfl rfl
set_option maxRecDepth 100000 in
theorem m_963 : Cond.selects RX11 yX11_named yX11_named ∈ tb := tb_in 963 rfl rfl
set_option maxRecDepth 100000 in
theorem m_964 : Cond.code yX11_named cX11_named 3 (some .int) ∈ tb := tb_in 964 rfl rfl
set_option maxRecDepth 100000 in
theorem m_973 : Cond.methodLink RL 115 yX11_turns ∈ tb := tb_in 973 rfl rfl
set_option maxRecDepth 100000 in
theorem m_974 : Cond.instanceMethod yX11_turns ∈ tb := tb_in 974 rfl rfl
set_option maxRecDepth 100000 in
theorem m_975 : Cond.selects RX11 yX11_turns yX11_turns ∈ tb := tb_in 975 rfl rfl
set_option maxRecDepth 100000 in
theorem m_976 : Cond.code yX11_turns cX11_turns 3 (some .int) ∈ tb := tb_in 976 rfl rfl
set_option maxRecDepth 100000 in
theorem m_981 : Cond.methodLink RL 119 yX11_twist ∈ tb := tb_in 981 rfl rfl
set_option maxRecDepth 100000 in
theorem m_982 : Cond.instanceMethod yX11_twist ∈ tb := tb_in 982 rfl rfl
set_option maxRecDepth 100000 in
theorem m_983 : Cond.selects RX11 yX11_twist yX11_twist ∈ tb := tb_in 983 rfl rfl
set_option maxRecDepth 100000 in
theorem m_984 : Cond.code yX11_twist cX11_twist 2 (some .int) ∈ tb := tb_in 984 rfl rfl
set_option maxRecDepth 100000 in
theorem m_989 : Cond.methodLink RL 123 yX11_burnt ∈ tb := tb_in 989 rfl rfl
set_option maxRecDepth 100000 in
theorem m_990 : Cond.instanceMethod yX11_burnt ∈ tb := tb_in 990 rfl rfl
set_option maxRecDepth 100000 in
theorem m_991 : Cond.selects RX11 yX11_burnt yX11_burnt ∈ tb := tb_in 991 rfl rfl
set_option maxRecDepth 100000 in
theorem m_992 : Cond.code yX11_burnt cX11_burnt 5 (some .int) ∈ tb := tb_in 992 rfl rfl
set_option maxRecDepth 100000 in
theorem m_993 : Cond.methodLink RL 128 yX11_cheat ∈ tb := tb_in 993 rfl rfl
set_option maxRecDepth 100000 in
theorem m_994 : Cond.instanceMethod yX11_cheat ∈ tb := tb_in 994 rfl rfl
set_option maxRecDepth 100000 in
theorem m_995 : Cond.selects RX11 yX11_cheat yX11_cheat ∈ tb := tb_in 995 rfl rfl
set_option maxRecDepth 100000 in
theorem m_996 : Cond.code yX11_cheat cX11_cheat 6 (some .int) ∈ tb := tb_in 996 rfl rfl
set_option maxRecDepth 100000 in
theorem m_1001 : Cond.methodLink RL 132 yX11_load ∈ tb := tb_in 1001 rfl rfl
set_option maxRecDepth 100000 in
theorem m_1002 : Cond.instanceMethod yX11_load ∈ tb := tb_in 1002 rfl rfl
set_option maxRecDepth 100000 in
theorem m_1003 : Cond.selects RX11 yX11_load yX11_load ∈ tb := tb_in 1003 rfl rfl
set_option maxRecDepth 100000 in
theorem m_1004 : Cond.code yX11_load cX11_load 2 (some .int) ∈ tb := tb_in 1004 rfl rfl
set_option maxRecDepth 100000 in
theorem m_1005 : Cond.methodLink RX11 306 yX5_bring ∈ tb := tb_in 1005 rfl rfl
set_option maxRecDepth 100000 in
theorem m_1006 : Cond.instanceMethod yX5_bring ∈ tb := tb_in 1006 rfl rfl
set_option maxRecDepth 100000 in
theorem m_1007 : Cond.selects RX5 yX5_bring yX5_bring ∈ tb := tb_in 1007 rfl rfl
set_option maxRecDepth 100000 in
theorem m_1008 : Cond.code yX5_bring cX5_bring 2 (some .int) ∈ tb := tb_in 1008 rfl rfl
set_option maxRecDepth 100000 in
theorem m_1009 : Cond.methodLink RL 136 yX11_order ∈ tb := tb_in 1009 rfl rfl
set_option maxRecDepth 100000 in
theorem m_1010 : Cond.instanceMethod yX11_order ∈ tb := tb_in 1010 rfl rfl
set_option maxRecDepth 100000 in
theorem m_1011 : Cond.selects RX11 yX11_order yX11_order ∈ tb := tb_in 1011 rfl rfl
set_option maxRecDepth 100000 in
theorem m_1012 : Cond.code yX11_order cX11_order 3 (some .int) ∈ tb := tb_in 1012 rfl rfl
set_option maxRecDepth 100000 in
theorem m_1013 : Cond.methodLink RX11 307 yX5_arrange ∈ tb := tb_in 1013 rfl rfl
set_option maxRecDepth 100000 in
theorem m_1014 : Cond.instanceMethod yX5_arrange ∈ tb := tb_in 1014 rfl rfl
set_option maxRecDepth 100000 in
theorem m_1015 : Cond.selects RX5 yX5_arrange yX5_arrange ∈ tb := tb_in 1015 rfl rfl
set_option maxRecDepth 100000 in
theorem m_1016 : Cond.code yX5_arrange cX5_arrange 2 none ∈ tb := tb_in 1016 rfl rfl
set_option maxRecDepth 100000 in
theorem m_1017 : Cond.constant RX5 32 (1000000) ∈ tb := tb_in 1017 rfl rfl
set_option maxRecDepth 100000 in
theorem m_1018 : Cond.methodLink RX5 33 yX5_place ∈ tb := tb_in 1018 rfl rfl
set_option maxRecDepth 100000 in
theorem m_1020 : Cond.instanceMethod yX5_place ∈ tb := tb_in 1020 rfl rfl
set_option maxRecDepth 100000 in
theorem m_1021 : Cond.code yX5_place cX5_place 5 none ∈ tb := tb_in 1021 rfl rfl
set_option maxRecDepth 100000 in
theorem m_1022 : Cond.methodLink RX5 37 arraycopyName ∈ tb := tb_in 1022 rfl rfl
set_option maxRecDepth 100000 in
theorem m_1023 : Cond.static arraycopyName ∈ tb := tb_in 1023 rfl rfl
set_option maxRecDepth 100000 in
theorem m_1024 : Cond.native arraycopyName ∈ tb := tb_in 1024 rfl rfl
set_option maxRecDepth 100000 in
theorem m_1026 : Cond.methodLink RL 140 yX11_empty ∈ tb := tb_in 1026 rfl rfl
set_option maxRecDepth 100000 in
theorem m_1027 : Cond.instanceMethod yX11_empty ∈ tb := tb_in 1027 rfl rfl
set_option maxRecDepth 100000 in
theorem m_1028 : Cond.selects RX11 yX11_empty yX11_empty ∈ tb := tb_in 1028 rfl rfl
set_option maxRecDepth 100000 in
theorem m_1029 : Cond.code yX11_empty cX11_empty 1 (some .int) ∈ tb := tb_in 1029 rfl rfl
set_option maxRecDepth 100000 in
theorem m_1030 : Cond.methodLink RX11 317 yX5_clear ∈ tb := tb_in 1030 rfl rfl
set_option maxRecDepth 100000 in
theorem m_1031 : Cond.instanceMethod yX5_clear ∈ tb := tb_in 1031 rfl rfl
set_option maxRecDepth 100000 in
theorem m_1032 : Cond.selects RX5 yX5_clear yX5_clear ∈ tb := tb_in 1032 rfl rfl
set_option maxRecDepth 100000 in
theorem m_1033 : Cond.code yX5_clear cX5_clear 2 (some .int) ∈ tb := tb_in 1033 rfl rfl
set_option maxRecDepth 100000 in
theorem m_1034 : Cond.methodLink RL 144 yX11_shared ∈ tb := tb_in 1034 rfl rfl
set_option maxRecDepth 100000 in
theorem m_1035 : Cond.instanceMethod yX11_shared ∈ tb := tb_in 1035 rfl rfl
set_option maxRecDepth 100000 in
theorem m_1036 : Cond.selects RX11 yX11_shared yX11_shared ∈ tb := tb_in 1036 rfl rfl
set_option maxRecDepth 100000 in
theorem m_1037 : Cond.code yX11_shared cX11_shared 5 (some .int) ∈ tb := tb_in 1037 rfl rfl
set_option maxRecDepth 100000 in
theorem m_1038 : Cond.methodLink RX11 321 yX4_compare ∈ tb := tb_in 1038 rfl rfl
set_option maxRecDepth 100000 in
theorem m_1039 : Cond.instanceMethod yX4_compare ∈ tb := tb_in 1039 rfl rfl
set_option maxRecDepth 100000 in
theorem m_1040 : Cond.selects RX4 yX4_compare yX4_compare ∈ tb := tb_in 1040 rfl rfl
set_option maxRecDepth 100000 in
theorem m_1041 : Cond.code yX4_compare cX4_compare 3 (some .int) ∈ tb := tb_in 1041 rfl rfl
set_option maxRecDepth 100000 in
theorem m_1042 : Cond.methodLink RL 148 yX11_houses ∈ tb := tb_in 1042 rfl rfl
set_option maxRecDepth 100000 in
theorem m_1043 : Cond.instanceMethod yX11_houses ∈ tb := tb_in 1043 rfl rfl
set_option maxRecDepth 100000 in
theorem m_1044 : Cond.selects RX11 yX11_houses yX11_houses ∈ tb := tb_in 1044 rfl rfl
set_option maxRecDepth 100000 in
theorem m_1045 : Cond.code yX11_houses cX11_houses 3 (some .int) ∈ tb := tb_in 1045 rfl rfl
set_option maxRecDepth 100000 in
theorem m_1070 : Cond.methodLink RL 152 yX11_certify ∈ tb := tb_in 1070 rfl rfl
set_option maxRecDepth 100000 in
theorem m_1071 : Cond.instanceMethod yX11_certify ∈ tb := tb_in 1071 rfl rfl
set_option maxRecDepth 100000 in
theorem m_1072 : Cond.selects RX11 yX11_certify yX11_certify ∈ tb := tb_in 1072 rfl rfl
set_option maxRecDepth 100000 in
theorem m_1073 : Cond.code yX11_certify cX11_certify 6 (some .int) ∈ tb := tb_in 1073 rfl rfl
set_option maxRecDepth 100000 in
theorem m_1091 : Cond.methodLink RL 156 yX11_bill ∈ tb := tb_in 1091 rfl rfl
set_option maxRecDepth 100000 in
theorem m_1092 : Cond.instanceMethod yX11_bill ∈ tb := tb_in 1092 rfl rfl
set_option maxRecDepth 100000 in
theorem m_1093 : Cond.selects RX11 yX11_bill yX11_bill ∈ tb := tb_in 1093 rfl rfl
set_option maxRecDepth 100000 in
theorem m_1094 : Cond.code yX11_bill cX11_bill 3 (some .int) ∈ tb := tb_in 1094 rfl rfl
set_option maxRecDepth 100000 in
theorem m_1095 : Cond.methodLink RX11 343 yX6_has ∈ tb := tb_in 1095 rfl rfl
set_option maxRecDepth 100000 in
theorem m_1096 : Cond.instanceMethod yX6_has ∈ tb := tb_in 1096 rfl rfl
set_option maxRecDepth 100000 in
theorem m_1097 : Cond.selects RX6 yX6_has yX6_has ∈ tb := tb_in 1097 rfl rfl
set_option maxRecDepth 100000 in
theorem m_1098 : Cond.code yX6_has cX6_has 2 (some .boolean) ∈ tb := tb_in 1098 rfl rfl
set_option maxRecDepth 100000 in
theorem m_1100 : Cond.methodLink RL 160 yX11_cut ∈ tb := tb_in 1100 rfl rfl
set_option maxRecDepth 100000 in
theorem m_1101 : Cond.instanceMethod yX11_cut ∈ tb := tb_in 1101 rfl rfl
set_option maxRecDepth 100000 in
theorem m_1102 : Cond.selects RX11 yX11_cut yX11_cut ∈ tb := tb_in 1102 rfl rfl
set_option maxRecDepth 100000 in
theorem m_1103 : Cond.code yX11_cut cX11_cut 5 (some .int) ∈ tb := tb_in 1103 rfl rfl
set_option maxRecDepth 100000 in
theorem m_1108 : Cond.methodLink RL 164 yX11_undo ∈ tb := tb_in 1108 rfl rfl
set_option maxRecDepth 100000 in
theorem m_1109 : Cond.instanceMethod yX11_undo ∈ tb := tb_in 1109 rfl rfl
set_option maxRecDepth 100000 in
theorem m_1110 : Cond.selects RX11 yX11_undo yX11_undo ∈ tb := tb_in 1110 rfl rfl
set_option maxRecDepth 100000 in
theorem m_1111 : Cond.code yX11_undo cX11_undo 2 (some .int) ∈ tb := tb_in 1111 rfl rfl
set_option maxRecDepth 100000 in
theorem m_1117 : Cond.methodLink RL 168 yX11_paper ∈ tb := tb_in 1117 rfl rfl
set_option maxRecDepth 100000 in
theorem m_1118 : Cond.instanceMethod yX11_paper ∈ tb := tb_in 1118 rfl rfl
set_option maxRecDepth 100000 in
theorem m_1119 : Cond.selects RX11 yX11_paper yX11_paper ∈ tb := tb_in 1119 rfl rfl
set_option maxRecDepth 100000 in
theorem m_1120 : Cond.code yX11_paper cX11_paper 3 (some .int) ∈ tb := tb_in 1120 rfl rfl
set_option maxRecDepth 100000 in
theorem m_1125 : Cond.methodLink RL 172 yX11_stood ∈ tb := tb_in 1125 rfl rfl
set_option maxRecDepth 100000 in
theorem m_1126 : Cond.instanceMethod yX11_stood ∈ tb := tb_in 1126 rfl rfl
set_option maxRecDepth 100000 in
theorem m_1127 : Cond.selects RX11 yX11_stood yX11_stood ∈ tb := tb_in 1127 rfl rfl
set_option maxRecDepth 100000 in
theorem m_1128 : Cond.code yX11_stood cX11_stood 3 (some .long) ∈ tb := tb_in 1128 rfl rfl
set_option maxRecDepth 100000 in
theorem m_1129 : Cond.methodLink RX11 368 yX6_standing ∈ tb := tb_in 1129 rfl rfl
set_option maxRecDepth 100000 in
theorem m_1130 : Cond.instanceMethod yX6_standing ∈ tb := tb_in 1130 rfl rfl
set_option maxRecDepth 100000 in
theorem m_1131 : Cond.selects RX6 yX6_standing yX6_standing ∈ tb := tb_in 1131 rfl rfl
set_option maxRecDepth 100000 in
theorem m_1132 : Cond.code yX6_standing cX6_standing 7 (some .long) ∈ tb := tb_in 1132 rfl rfl
set_option maxRecDepth 100000 in
theorem m_1133 : Cond.classLink RL 10 RX12 ∈ tb := tb_in 1133 rfl rfl
set_option maxRecDepth 100000 in
theorem m_1134 : Cond.instantiable RX12 75 ∈ tb := tb_in 1134 rfl rfl
set_option maxRecDepth 100000 in
theorem m_1135 : Cond.methodLink RL 12 yX12_init ∈ tb := tb_in 1135 rfl rfl
set_option maxRecDepth 100000 in
theorem m_1136 : Cond.instanceMethod yX12_init ∈ tb := tb_in 1136 rfl rfl
set_option maxRecDepth 100000 in
theorem m_1137 : Cond.code yX12_init cX12_init 1 none ∈ tb := tb_in 1137 rfl rfl
set_option maxRecDepth 100000 in
theorem m_1138 : Cond.methodLink RX12 1 objectInit ∈ tb := tb_in 1138 rfl rfl
set_option maxRecDepth 100000 in
theorem m_1139 : Cond.fieldLink RX12 171 "SilkHouseModel" "now" "I" ∈ tb := tb_in 1139 rfl rfl
set_option maxRecDepth 100000 in
theorem m_1140 : Cond.fieldLink RX12 164 "SilkHouseModel" "bales" "I" ∈ tb := tb_in 1140 rfl rfl
set_option maxRecDepth 100000 in
theorem m_1141 : Cond.fieldLink RX12 7 "SilkHouseModel" "gross" "[I" ∈ tb := tb_in 1141 rfl rfl
set_option maxRecDepth 100000 in
theorem m_1142 : Cond.fieldLink RX12 200 "SilkHouseModel" "skeins" "I" ∈ tb := tb_in 1142 rfl rfl
set_option maxRecDepth 100000 in
theorem m_1143 : Cond.fieldLink RX12 13 "SilkHouseModel" "ofBale" "[I" ∈ tb := tb_in 1143 rfl rfl
set_option maxRecDepth 100000 in
theorem m_1144 : Cond.fieldLink RX12 16 "SilkHouseModel" "ofLook" "[I" ∈ tb := tb_in 1144 rfl rfl
set_option maxRecDepth 100000 in
theorem m_1145 : Cond.fieldLink RX12 19 "SilkHouseModel" "scaleOf" "[I" ∈ tb := tb_in 1145 rfl rfl
set_option maxRecDepth 100000 in
theorem m_1146 : Cond.fieldLink RX12 22 "SilkHouseModel" "raw" "[I" ∈ tb := tb_in 1146 rfl rfl
set_option maxRecDepth 100000 in
theorem m_1147 : Cond.fieldLink RX12 25 "SilkHouseModel" "dry" "[I" ∈ tb := tb_in 1147 rfl rfl
set_option maxRecDepth 100000 in
theorem m_1148 : Cond.fieldLink RX12 28 "SilkHouseModel" "oven" "[I" ∈ tb := tb_in 1148 rfl rfl
set_option maxRecDepth 100000 in
theorem m_1149 : Cond.fieldLink RX12 31 "SilkHouseModel" "hand" "[I" ∈ tb := tb_in 1149 rfl rfl
set_option maxRecDepth 100000 in
theorem m_1150 : Cond.fieldLink RX12 34 "SilkHouseModel" "dayOf" "[I" ∈ tb := tb_in 1150 rfl rfl
set_option maxRecDepth 100000 in
theorem m_1151 : Cond.fieldLink RX12 37 "SilkHouseModel" "lostOn" "[I" ∈ tb := tb_in 1151 rfl rfl
set_option maxRecDepth 100000 in
theorem m_1152 : Cond.fieldLink RX12 213 "SilkHouseModel" "tests" "I" ∈ tb := tb_in 1152 rfl rfl
set_option maxRecDepth 100000 in
theorem m_1153 : Cond.fieldLink RX12 40 "SilkHouseModel" "testScale" "[I" ∈ tb := tb_in 1153 rfl rfl
set_option maxRecDepth 100000 in
theorem m_1154 : Cond.fieldLink RX12 43 "SilkHouseModel" "testError" "[I" ∈ tb := tb_in 1154 rfl rfl
set_option maxRecDepth 100000 in
theorem m_1155 : Cond.fieldLink RX12 46 "SilkHouseModel" "testDay" "[I" ∈ tb := tb_in 1155 rfl rfl
set_option maxRecDepth 100000 in
theorem m_1159 : Cond.fieldLink RX12 49 "SilkHouseModel" "outOven" "I" ∈ tb := tb_in 1159 rfl rfl
set_option maxRecDepth 100000 in
theorem m_1160 : Cond.fieldLink RX12 53 "SilkHouseModel" "outHand" "I" ∈ tb := tb_in 1160 rfl rfl
set_option maxRecDepth 100000 in
theorem m_1161 : Cond.fieldLink RX12 56 "SilkHouseModel" "outSkein" "I" ∈ tb := tb_in 1161 rfl rfl
set_option maxRecDepth 100000 in
theorem m_1162 : Cond.fieldLink RX12 303 "SilkHouseModel" "rules" "I" ∈ tb := tb_in 1162 rfl rfl
set_option maxRecDepth 100000 in
theorem m_1163 : Cond.fieldLink RX12 59 "SilkHouseModel" "inForce" "[I" ∈ tb := tb_in 1163 rfl rfl
set_option maxRecDepth 100000 in
theorem m_1164 : Cond.fieldLink RX12 62 "SilkHouseModel" "clauses" "[I" ∈ tb := tb_in 1164 rfl rfl
set_option maxRecDepth 100000 in
theorem m_1165 : Cond.fieldLink RX12 65 "SilkHouseModel" "kindOf" "[I" ∈ tb := tb_in 1165 rfl rfl
set_option maxRecDepth 100000 in
theorem m_1166 : Cond.fieldLink RX12 68 "SilkHouseModel" "nameOf" "[I" ∈ tb := tb_in 1166 rfl rfl
set_option maxRecDepth 100000 in
theorem m_1167 : Cond.fieldLink RX12 71 "SilkHouseModel" "first" "[I" ∈ tb := tb_in 1167 rfl rfl
set_option maxRecDepth 100000 in
theorem m_1168 : Cond.fieldLink RX12 74 "SilkHouseModel" "second" "[I" ∈ tb := tb_in 1168 rfl rfl
set_option maxRecDepth 100000 in
theorem m_1169 : Cond.fieldLink RX12 77 "SilkHouseModel" "wordSize" "[I" ∈ tb := tb_in 1169 rfl rfl
set_option maxRecDepth 100000 in
theorem m_1170 : Cond.fieldLink RX12 80 "SilkHouseModel" "word" "[I" ∈ tb := tb_in 1170 rfl rfl
set_option maxRecDepth 100000 in
theorem m_1171 : Cond.fieldLink RX12 83 "SilkHouseModel" "text" "[I" ∈ tb := tb_in 1171 rfl rfl
set_option maxRecDepth 100000 in
theorem m_1172 : Cond.fieldLink RX12 249 "SilkHouseModel" "textSize" "I" ∈ tb := tb_in 1172 rfl rfl
set_option maxRecDepth 100000 in
theorem m_1173 : Cond.fieldLink RX12 254 "SilkHouseModel" "at" "I" ∈ tb := tb_in 1173 rfl rfl
set_option maxRecDepth 100000 in
theorem m_1174 : Cond.fieldLink RX12 257 "SilkHouseModel" "faultOf" "I" ∈ tb := tb_in 1174 rfl rfl
set_option maxRecDepth 100000 in
theorem m_1175 : Cond.fieldLink RX12 86 "SilkHouseModel" "place" "I" ∈ tb := tb_in 1175 rfl rfl
set_option maxRecDepth 100000 in
theorem m_1178 : Cond.fieldLink RX12 89 "SilkHouseModel" "isOn" "[Z" ∈ tb := tb_in 1178 rfl rfl
set_option maxRecDepth 100000 in
theorem m_1179 : Cond.fieldLink RX12 93 "SilkHouseModel" "order" "[I" ∈ tb := tb_in 1179 rfl rfl
set_option maxRecDepth 100000 in
theorem m_1180 : Cond.fieldLink RX12 314 "SilkHouseModel" "ons" "I" ∈ tb := tb_in 1180 rfl rfl
set_option maxRecDepth 100000 in
theorem m_1181 : Cond.fieldLink RX12 96 "SilkHouseModel" "dryOf" "[J" ∈ tb := tb_in 1181 rfl rfl
set_option maxRecDepth 100000 in
theorem m_1182 : Cond.fieldLink RX12 100 "SilkHouseModel" "rawOf" "[J" ∈ tb := tb_in 1182 rfl rfl
set_option maxRecDepth 100000 in
theorem m_1188 : Cond.fieldLink RX12 103 "SilkHouseModel" "causeOf" "[I" ∈ tb := tb_in 1188 rfl rfl
set_option maxRecDepth 100000 in
theorem m_1189 : Cond.fieldLink RX12 106 "SilkHouseModel" "own" "[I" ∈ tb := tb_in 1189 rfl rfl
set_option maxRecDepth 100000 in
theorem m_1190 : Cond.fieldLink RX12 109 "SilkHouseModel" "threads" "[I" ∈ tb := tb_in 1190 rfl rfl
set_option maxRecDepth 100000 in
theorem m_1191 : Cond.fieldLink RX12 112 "SilkHouseModel" "thread" "[I" ∈ tb := tb_in 1191 rfl rfl
set_option maxRecDepth 100000 in
theorem m_1192 : Cond.fieldLink RX12 115 "SilkHouseModel" "countMany" "[I" ∈ tb := tb_in 1192 rfl rfl
set_option maxRecDepth 100000 in
theorem m_1193 : Cond.fieldLink RX12 118 "SilkHouseModel" "turn" "[I" ∈ tb := tb_in 1193 rfl rfl
set_option maxRecDepth 100000 in
theorem m_1194 : Cond.fieldLink RX12 121 "SilkHouseModel" "gumLow" "[I" ∈ tb := tb_in 1194 rfl rfl
set_option maxRecDepth 100000 in
theorem m_1195 : Cond.fieldLink RX12 124 "SilkHouseModel" "ashLow" "[I" ∈ tb := tb_in 1195 rfl rfl
set_option maxRecDepth 100000 in
theorem m_1196 : Cond.fieldLink RX12 399 "SilkHouseModel" "loads" "I" ∈ tb := tb_in 1196 rfl rfl
set_option maxRecDepth 100000 in
theorem m_1197 : Cond.fieldLink RX12 127 "SilkHouseModel" "minutes" "[I" ∈ tb := tb_in 1197 rfl rfl
set_option maxRecDepth 100000 in
theorem m_1198 : Cond.fieldLink RX12 130 "SilkHouseModel" "ends" "[I" ∈ tb := tb_in 1198 rfl rfl
set_option maxRecDepth 100000 in
theorem m_1199 : Cond.fieldLink RX12 405 "SilkHouseModel" "bestWay" "I" ∈ tb := tb_in 1199 rfl rfl
set_option maxRecDepth 100000 in
theorem m_1200 : Cond.fieldLink RX12 408 "SilkHouseModel" "bestEnd" "I" ∈ tb := tb_in 1200 rfl rfl
set_option maxRecDepth 100000 in
theorem m_1201 : Cond.fieldLink RX12 417 "SilkHouseModel" "shared" "I" ∈ tb := tb_in 1201 rfl rfl
set_option maxRecDepth 100000 in
theorem m_1202 : Cond.fieldLink RX12 133 "SilkHouseModel" "apartLow" "[I" ∈ tb := tb_in 1202 rfl rfl
set_option maxRecDepth 100000 in
theorem m_1203 : Cond.fieldLink RX12 136 "SilkHouseModel" "apartHigh" "[I" ∈ tb := tb_in 1203 rfl rfl
set_option maxRecDepth 100000 in
theorem m_1206 : Cond.fieldLink RX12 429 "SilkHouseModel" "papers" "I" ∈ tb := tb_in 1206 rfl rfl
set_option maxRecDepth 100000 in
theorem m_1207 : Cond.fieldLink RX12 139 "SilkHouseModel" "paperKind" "[I" ∈ tb := tb_in 1207 rfl rfl
set_option maxRecDepth 100000 in
theorem m_1208 : Cond.fieldLink RX12 142 "SilkHouseModel" "paperBale" "[I" ∈ tb := tb_in 1208 rfl rfl
set_option maxRecDepth 100000 in
theorem m_1209 : Cond.fieldLink RX12 145 "SilkHouseModel" "paperWorth" "[J" ∈ tb := tb_in 1209 rfl rfl
set_option maxRecDepth 100000 in
theorem m_1210 : Cond.fieldLink RX12 148 "SilkHouseModel" "hangsOn" "[I" ∈ tb := tb_in 1210 rfl rfl
set_option maxRecDepth 100000 in
theorem m_1211 : Cond.fieldLink RX12 151 "SilkHouseModel" "paperDay" "[I" ∈ tb := tb_in 1211 rfl rfl
set_option maxRecDepth 100000 in
theorem m_1212 : Cond.fieldLink RX12 154 "SilkHouseModel" "undoneOn" "[I" ∈ tb := tb_in 1212 rfl rfl
set_option maxRecDepth 100000 in
theorem m_1213 : Cond.fieldLink RX12 157 "SilkHouseModel" "feeOf" "[I" ∈ tb := tb_in 1213 rfl rfl
set_option maxRecDepth 100000 in
theorem m_1365 : Cond.methodLink RL 17 yX12_go ∈ tb := tb_in 1365 rfl rfl
set_option maxRecDepth 100000 in
theorem m_1366 : Cond.instanceMethod yX12_go ∈ tb := tb_in 1366 rfl rfl
set_option maxRecDepth 100000 in
theorem m_1367 : Cond.selects RX12 yX12_go yX12_go ∈ tb := tb_in 1367 rfl rfl
set_option maxRecDepth 100000 in
theorem m_1368 : Cond.code yX12_go cX12_go 2 (some .int) ∈ tb := tb_in 1368 rfl rfl
set_option maxRecDepth 100000 in
theorem m_1369 : Cond.constantLong RX12 176 (999) ∈ tb := tb_in 1369 rfl rfl
set_option maxRecDepth 100000 in
theorem m_1370 : Cond.methodLink RX12 167 yX12_in ∈ tb := tb_in 1370 rfl rfl
set_option maxRecDepth 100000 in
theorem m_1371 : Cond.static yX12_in ∈ tb := tb_in 1371 rfl rfl
set_option maxRecDepth 100000 in
theorem m_1372 : Cond.code yX12_in cX12_in 6 (some .boolean) ∈ tb := tb_in 1372 rfl rfl
set_option maxRecDepth 100000 in
theorem m_1373 : Cond.constant RX12 178 (-100002) ∈ tb := tb_in 1373 rfl rfl
set_option maxRecDepth 100000 in
theorem m_1374 : Cond.constant RX12 179 (-100003) ∈ tb := tb_in 1374 rfl rfl
set_option maxRecDepth 100000 in
theorem m_1375 : Cond.methodLink RL 21 yX12_bale ∈ tb := tb_in 1375 rfl rfl
set_option maxRecDepth 100000 in
theorem m_1376 : Cond.instanceMethod yX12_bale ∈ tb := tb_in 1376 rfl rfl
set_option maxRecDepth 100000 in
theorem m_1377 : Cond.selects RX12 yX12_bale yX12_bale ∈ tb := tb_in 1377 rfl rfl
set_option maxRecDepth 100000 in
theorem m_1378 : Cond.code yX12_bale cX12_bale 2 (some .int) ∈ tb := tb_in 1378 rfl rfl
set_option maxRecDepth 100000 in
theorem m_1379 : Cond.constantLong RX12 180 (99999) ∈ tb := tb_in 1379 rfl rfl
set_option maxRecDepth 100000 in
theorem m_1381 : Cond.methodLink RL 26 yX12_skein ∈ tb := tb_in 1381 rfl rfl
set_option maxRecDepth 100000 in
theorem m_1382 : Cond.instanceMethod yX12_skein ∈ tb := tb_in 1382 rfl rfl
set_option maxRecDepth 100000 in
theorem m_1383 : Cond.selects RX12 yX12_skein yX12_skein ∈ tb := tb_in 1383 rfl rfl
set_option maxRecDepth 100000 in
theorem m_1384 : Cond.code yX12_skein cX12_skein 10 (some .int) ∈ tb := tb_in 1384 rfl rfl
set_option maxRecDepth 100000 in
theorem m_1385 : Cond.methodLink RX12 183 yX12_noBale ∈ tb := tb_in 1385 rfl rfl
set_option maxRecDepth 100000 in
theorem m_1387 : Cond.instanceMethod yX12_noBale ∈ tb := tb_in 1387 rfl rfl
set_option maxRecDepth 100000 in
theorem m_1388 : Cond.code yX12_noBale cX12_noBale 2 (some .boolean) ∈ tb := tb_in 1388 rfl rfl
set_option maxRecDepth 100000 in
theorem m_1389 : Cond.constant RX12 187 (-100001) ∈ tb := tb_in 1389 rfl rfl
set_option maxRecDepth 100000 in
theorem m_1390 : Cond.constantLong RX12 188 (2) ∈ tb := tb_in 1390 rfl rfl
set_option maxRecDepth 100000 in
theorem m_1391 : Cond.constantLong RX12 190 (3) ∈ tb := tb_in 1391 rfl rfl
set_option maxRecDepth 100000 in
theorem m_1393 : Cond.constantLong RX12 194 (9999) ∈ tb := tb_in 1393 rfl rfl
set_option maxRecDepth 100000 in
theorem m_1399 : Cond.methodLink RL 30 yX12_lose ∈ tb := tb_in 1399 rfl rfl
set_option maxRecDepth 100000 in
theorem m_1400 : Cond.instanceMethod yX12_lose ∈ tb := tb_in 1400 rfl rfl
set_option maxRecDepth 100000 in
theorem m_1401 : Cond.selects RX12 yX12_lose yX12_lose ∈ tb := tb_in 1401 rfl rfl
set_option maxRecDepth 100000 in
theorem m_1402 : Cond.code yX12_lose cX12_lose 2 (some .int) ∈ tb := tb_in 1402 rfl rfl
set_option maxRecDepth 100000 in
theorem m_1403 : Cond.methodLink RX12 207 yX12_noSkein ∈ tb := tb_in 1403 rfl rfl
set_option maxRecDepth 100000 in
theorem m_1405 : Cond.instanceMethod yX12_noSkein ∈ tb := tb_in 1405 rfl rfl
set_option maxRecDepth 100000 in
theorem m_1406 : Cond.code yX12_noSkein cX12_noSkein 2 (some .boolean) ∈ tb := tb_in 1406 rfl rfl
set_option maxRecDepth 100000 in
theorem m_1407 : Cond.methodLink RL 35 yX12_told ∈ tb := tb_in 1407 rfl rfl
set_option maxRecDepth 100000 in
theorem m_1408 : Cond.instanceMethod yX12_told ∈ tb := tb_in 1408 rfl rfl
set_option maxRecDepth 100000 in
theorem m_1409 : Cond.selects RX12 yX12_told yX12_told ∈ tb := tb_in 1409 rfl rfl
set_option maxRecDepth 100000 in
theorem m_1410 : Cond.code yX12_told cX12_told 3 (some .int) ∈ tb := tb_in 1410 rfl rfl
set_option maxRecDepth 100000 in
theorem m_1411 : Cond.methodLink RL 40 yX12_test ∈ tb := tb_in 1411 rfl rfl
set_option maxRecDepth 100000 in
theorem m_1412 : Cond.instanceMethod yX12_test ∈ tb := tb_in 1412 rfl rfl
set_option maxRecDepth 100000 in
theorem m_1413 : Cond.selects RX12 yX12_test yX12_test ∈ tb := tb_in 1413 rfl rfl
set_option maxRecDepth 100000 in
theorem m_1414 : Cond.code yX12_test cX12_test 4 (some .int) ∈ tb := tb_in 1414 rfl rfl
set_option maxRecDepth 100000 in
theorem m_1415 : Cond.methodLink RX12 210 yX12_isWeight ∈ tb := tb_in 1415 rfl rfl
set_option maxRecDepth 100000 in
theorem m_1416 : Cond.static yX12_isWeight ∈ tb := tb_in 1416 rfl rfl
set_option maxRecDepth 100000 in
theorem m_1417 : Cond.code yX12_isWeight cX12_isWeight 1 (some .boolean) ∈ tb := tb_in 1417 rfl rfl
set_option maxRecDepth 100000 in
theorem m_1418 : Cond.methodLink RL 44 yX12_error ∈ tb := tb_in 1418 rfl rfl
set_option maxRecDepth 100000 in
theorem m_1419 : Cond.instanceMethod yX12_error ∈ tb := tb_in 1419 rfl rfl
set_option maxRecDepth 100000 in
theorem m_1420 : Cond.selects RX12 yX12_error yX12_error ∈ tb := tb_in 1420 rfl rfl
set_option maxRecDepth 100000 in
theorem m_1421 : Cond.code yX12_error cX12_error 4 (some .int) ∈ tb := tb_in 1421 rfl rfl
set_option maxRecDepth 100000 in
theorem m_1422 : Cond.methodLink RX12 216 yX12_isDay ∈ tb := tb_in 1422 rfl rfl
set_option maxRecDepth 100000 in
theorem m_1423 : Cond.static yX12_isDay ∈ tb := tb_in 1423 rfl rfl
set_option maxRecDepth 100000 in
theorem m_1424 : Cond.code yX12_isDay cX12_isDay 1 (some .boolean) ∈ tb := tb_in 1424 rfl rfl
set_option maxRecDepth 100000 in
theorem m_1425 : Cond.constantLong RX12 174 (3000) ∈ tb := tb_in 1425 rfl rfl
set_option maxRecDepth 100000 in
theorem m_1426 : Cond.methodLink RX12 219 yX12_errorOf ∈ tb := tb_in 1426 rfl rfl
set_option maxRecDepth 100000 in
theorem m_1428 : Cond.instanceMethod yX12_errorOf ∈ tb := tb_in 1428 rfl rfl
set_option maxRecDepth 100000 in
theorem m_1429 : Cond.code yX12_errorOf cX12_errorOf 8 (some .int) ∈ tb := tb_in 1429 rfl rfl
set_option maxRecDepth 100000 in
theorem m_1430 : Cond.methodLink RL 48 yX12_ratio ∈ tb := tb_in 1430 rfl rfl
set_option maxRecDepth 100000 in
theorem m_1431 : Cond.instanceMethod yX12_ratio ∈ tb := tb_in 1431 rfl rfl
set_option maxRecDepth 100000 in
theorem m_1432 : Cond.selects RX12 yX12_ratio yX12_ratio ∈ tb := tb_in 1432 rfl rfl
set_option maxRecDepth 100000 in
theorem m_1433 : Cond.code yX12_ratio cX12_ratio 7 (some .int) ∈ tb := tb_in 1433 rfl rfl
set_option maxRecDepth 100000 in
theorem m_1448 : Cond.methodLink RL 59 yX12_feed ∈ tb := tb_in 1448 rfl rfl
set_option maxRecDepth 100000 in
theorem m_1449 : Cond.instanceMethod yX12_feed ∈ tb := tb_in 1449 rfl rfl
set_option maxRecDepth 100000 in
theorem m_1450 : Cond.selects RX12 yX12_feed yX12_feed ∈ tb := tb_in 1450 rfl rfl
set_option maxRecDepth 100000 in
theorem m_1451 : Cond.code yX12_feed cX12_feed 5 (some .int) ∈ tb := tb_in 1451 rfl rfl
set_option maxRecDepth 100000 in
theorem m_1452 : Cond.constantLong RX12 247 (8) ∈ tb := tb_in 1452 rfl rfl
set_option maxRecDepth 100000 in
theorem m_1453 : Cond.constantLong RX12 252 (255) ∈ tb := tb_in 1453 rfl rfl
set_option maxRecDepth 100000 in
theorem m_1454 : Cond.methodLink RL 63 yX12_rule ∈ tb := tb_in 1454 rfl rfl
set_option maxRecDepth 100000 in
theorem m_1455 : Cond.instanceMethod yX12_rule ∈ tb := tb_in 1455 rfl rfl
set_option maxRecDepth 100000 in
theorem m_1456 : Cond.selects RX12 yX12_rule yX12_rule ∈ tb := tb_in 1456 rfl rfl
set_option maxRecDepth 100000 in
theorem m_1457 : Cond.code yX12_rule cX12_rule 4 (some .int) ∈ tb := tb_in 1457 rfl rfl
set_option maxRecDepth 100000 in
theorem m_1458 : Cond.methodLink RX12 260 yX12_here ∈ tb := tb_in 1458 rfl rfl
set_option maxRecDepth 100000 in
theorem m_1460 : Cond.instanceMethod yX12_here ∈ tb := tb_in 1460 rfl rfl
set_option maxRecDepth 100000 in
theorem m_1461 : Cond.code yX12_here cX12_here 1 (some .int) ∈ tb := tb_in 1461 rfl rfl
set_option maxRecDepth 100000 in
theorem m_1500 : Cond.methodLink RL 68 yX12_fault ∈ tb := tb_in 1500 rfl rfl
set_option maxRecDepth 100000 in
theorem m_1501 : Cond.instanceMethod yX12_fault ∈ tb := tb_in 1501 rfl rfl
set_option maxRecDepth 100000 in
theorem m_1502 : Cond.selects RX12 yX12_fault yX12_fault ∈ tb := tb_in 1502 rfl rfl
set_option maxRecDepth 100000 in
theorem m_1503 : Cond.code yX12_fault cX12_fault 1 (some .int) ∈ tb := tb_in 1503 rfl rfl
set_option maxRecDepth 100000 in
theorem m_1504 : Cond.methodLink RL 72 yX12_force ∈ tb := tb_in 1504 rfl rfl
set_option maxRecDepth 100000 in
theorem m_1505 : Cond.instanceMethod yX12_force ∈ tb := tb_in 1505 rfl rfl
set_option maxRecDepth 100000 in
theorem m_1506 : Cond.selects RX12 yX12_force yX12_force ∈ tb := tb_in 1506 rfl rfl
set_option maxRecDepth 100000 in
theorem m_1507 : Cond.code yX12_force cX12_force 3 (some .int) ∈ tb := tb_in 1507 rfl rfl
set_option maxRecDepth 100000 in
theorem m_1508 : Cond.constantLong RX12 323 (5) ∈ tb := tb_in 1508 rfl rfl
set_option maxRecDepth 100000 in
theorem m_1509 : Cond.methodLink RX12 325 yX12_forceOf ∈ tb := tb_in 1509 rfl rfl
set_option maxRecDepth 100000 in
theorem m_1511 : Cond.instanceMethod yX12_forceOf ∈ tb := tb_in 1511 rfl rfl
set_option maxRecDepth 100000 in
theorem m_1512 : Cond.code yX12_forceOf cX12_forceOf 7 (some .int) ∈ tb := tb_in 1512 rfl rfl
set_option maxRecDepth 100000 in
theorem m_1513 : Cond.methodLink RX12 317 yX12_findRules ∈ tb := tb_in 1513 rfl rfl
set_option maxRecDepth 100000 in
theorem m_1515 : Cond.instanceMethod yX12_findRules ∈ tb := tb_in 1515 rfl rfl
set_option maxRecDepth 100000 in
theorem m_1516 : Cond.code yX12_findRules cX12_findRules 4 none ∈ tb := tb_in 1516 rfl rfl
set_option maxRecDepth 100000 in
theorem m_1517 : Cond.methodLink RX12 320 yX12_atFirst ∈ tb := tb_in 1517 rfl rfl
set_option maxRecDepth 100000 in
theorem m_1518 : Cond.static yX12_atFirst ∈ tb := tb_in 1518 rfl rfl
set_option maxRecDepth 100000 in
theorem m_1519 : Cond.code yX12_atFirst cX12_atFirst 1 (some .int) ∈ tb := tb_in 1519 rfl rfl
set_option maxRecDepth 100000 in
theorem m_1520 : Cond.methodLink RL 76 yX12_letter ∈ tb := tb_in 1520 rfl rfl
set_option maxRecDepth 100000 in
theorem m_1521 : Cond.instanceMethod yX12_letter ∈ tb := tb_in 1521 rfl rfl
set_option maxRecDepth 100000 in
theorem m_1522 : Cond.selects RX12 yX12_letter yX12_letter ∈ tb := tb_in 1522 rfl rfl
set_option maxRecDepth 100000 in
theorem m_1523 : Cond.code yX12_letter cX12_letter 4 (some .int) ∈ tb := tb_in 1523 rfl rfl
set_option maxRecDepth 100000 in
theorem m_1524 : Cond.methodLink RL 80 yX12_state ∈ tb := tb_in 1524 rfl rfl
set_option maxRecDepth 100000 in
theorem m_1525 : Cond.instanceMethod yX12_state ∈ tb := tb_in 1525 rfl rfl
set_option maxRecDepth 100000 in
theorem m_1526 : Cond.selects RX12 yX12_state yX12_state ∈ tb := tb_in 1526 rfl rfl
set_option maxRecDepth 100000 in
theorem m_1527 : Cond.code yX12_state cX12_state 3 (some .int) ∈ tb := tb_in 1527 rfl rfl
set_option maxRecDepth 100000 in
theorem m_1528 : Cond.methodLink RX12 350 yX12_isPast ∈ tb := tb_in 1528 rfl rfl
set_option maxRecDepth 100000 in
theorem m_1530 : Cond.instanceMethod yX12_isPast ∈ tb := tb_in 1530 rfl rfl
set_option maxRecDepth 100000 in
theorem m_1531 : Cond.code yX12_isPast cX12_isPast 2 (some .boolean) ∈ tb := tb_in 1531 rfl rfl
set_option maxRecDepth 100000 in
theorem m_1556 : Cond.methodLink RL 85 yX12_lawful ∈ tb := tb_in 1556 rfl rfl
set_option maxRecDepth 100000 in
theorem m_1557 : Cond.instanceMethod yX12_lawful ∈ tb := tb_in 1557 rfl rfl
set_option maxRecDepth 100000 in
theorem m_1558 : Cond.selects RX12 yX12_lawful yX12_lawful ∈ tb := tb_in 1558 rfl rfl
set_option maxRecDepth 100000 in
theorem m_1559 : Cond.code yX12_lawful cX12_lawful 4 (some .long) ∈ tb := tb_in 1559 rfl rfl
set_option maxRecDepth 100000 in
theorem m_1560 : Cond.constantLong RX12 362 (-100001) ∈ tb := tb_in 1560 rfl rfl
set_option maxRecDepth 100000 in
theorem m_1561 : Cond.constantLong RX12 364 (-100002) ∈ tb := tb_in 1561 rfl rfl
set_option maxRecDepth 100000 in
theorem m_1567 : Cond.methodLink RL 90 yX12_span ∈ tb := tb_in 1567 rfl rfl
set_option maxRecDepth 100000 in
theorem m_1568 : Cond.instanceMethod yX12_span ∈ tb := tb_in 1568 rfl rfl
set_option maxRecDepth 100000 in
theorem m_1569 : Cond.selects RX12 yX12_span yX12_span ∈ tb := tb_in 1569 rfl rfl
set_option maxRecDepth 100000 in
theorem m_1570 : Cond.code yX12_span cX12_span 6 (some .long) ∈ tb := tb_in 1570 rfl rfl
set_option maxRecDepth 100000 in
theorem m_1574 : Cond.methodLink RL 94 yX12_cause ∈ tb := tb_in 1574 rfl rfl
set_option maxRecDepth 100000 in
theorem m_1575 : Cond.instanceMethod yX12_cause ∈ tb := tb_in 1575 rfl rfl
set_option maxRecDepth 100000 in
theorem m_1576 : Cond.selects RX12 yX12_cause yX12_cause ∈ tb := tb_in 1576 rfl rfl
set_option maxRecDepth 100000 in
theorem m_1577 : Cond.code yX12_cause cX12_cause 5 (some .int) ∈ tb := tb_in 1577 rfl rfl
set_option maxRecDepth 100000 in
theorem m_1594 : Cond.methodLink RL 98 yX12_odd ∈ tb := tb_in 1594 rfl rfl
set_option maxRecDepth 100000 in
theorem m_1595 : Cond.instanceMethod yX12_odd ∈ tb := tb_in 1595 rfl rfl
set_option maxRecDepth 100000 in
theorem m_1596 : Cond.selects RX12 yX12_odd yX12_odd ∈ tb := tb_in 1596 rfl rfl
set_option maxRecDepth 100000 in
theorem m_1597 : Cond.code yX12_odd cX12_odd 8 (some .int) ∈ tb := tb_in 1597 rfl rfl
set_option maxRecDepth 100000 in
theorem m_1598 : Cond.methodLink RL 102 yX12_needed ∈ tb := tb_in 1598 rfl rfl
set_option maxRecDepth 100000 in
theorem m_1599 : Cond.instanceMethod yX12_needed ∈ tb := tb_in 1599 rfl rfl
set_option maxRecDepth 100000 in
theorem m_1600 : Cond.selects RX12 yX12_needed yX12_needed ∈ tb := tb_in 1600 rfl rfl
set_option maxRecDepth 100000 in
theorem m_1601 : Cond.code yX12_needed cX12_needed 7 (some .int) ∈ tb := tb_in 1601 rfl rfl
set_option maxRecDepth 100000 in
theorem m_1609 : Cond.methodLink RL 106 yX12_thread ∈ tb := tb_in 1609 rfl rfl
set_option maxRecDepth 100000 in
theorem m_1610 : Cond.instanceMethod yX12_thread ∈ tb := tb_in 1610 rfl rfl
set_option maxRecDepth 100000 in
theorem m_1611 : Cond.selects RX12 yX12_thread yX12_thread ∈ tb := tb_in 1611 rfl rfl
set_option maxRecDepth 100000 in
theorem m_1612 : Cond.code yX12_thread cX12_thread 3 (some .int) ∈ tb := tb_in 1612 rfl rfl
set_option maxRecDepth 100000 in
theorem m_1613 : Cond.methodLink RL 110 yX12_size ∈ tb := tb_in 1613 rfl rfl
set_option maxRecDepth 100000 in
theorem m_1614 : Cond.instanceMethod yX12_size ∈ tb := tb_in 1614 rfl rfl
set_option maxRecDepth 100000 in
theorem m_1615 : Cond.selects RX12 yX12_size yX12_size ∈ tb := tb_in 1615 rfl rfl
set_option maxRecDepth 100000 in
theorem m_1616 : Cond.code yX12_size cX12_size 14 (some .int) ∈ tb := tb_in 1616 rfl rfl
set_option maxRecDepth 100000 in
theorem m_1617 : Cond.methodLink RL 114 yX12_named ∈ tb := tb_in 1617 rfl rfl
set_option maxRecDepth 100000 in
theorem m_1618 : Cond.instanceMethod yX12_named ∈ tb := tb_in 1618 rfl rfl
set_option maxRecDepth 100000 in
theorem m_1619 : Cond.selects RX12 yX12_named yX12_named ∈ tb := tb_in 1619 rfl rfl
set_option maxRecDepth 100000 in
theorem m_1620 : Cond.code yX12_named cX12_named 10 (some .int) ∈ tb := tb_in 1620 rfl rfl
set_option maxRecDepth 100000 in
theorem m_1621 : Cond.methodLink RL 118 yX12_turns ∈ tb := tb_in 1621 rfl rfl
set_option maxRecDepth 100000 in
theorem m_1622 : Cond.instanceMethod yX12_turns ∈ tb := tb_in 1622 rfl rfl
set_option maxRecDepth 100000 in
theorem m_1623 : Cond.selects RX12 yX12_turns yX12_turns ∈ tb := tb_in 1623 rfl rfl
set_option maxRecDepth 100000 in
theorem m_1624 : Cond.code yX12_turns cX12_turns 3 (some .int) ∈ tb := tb_in 1624 rfl rfl
set_option maxRecDepth 100000 in
theorem m_1625 : Cond.methodLink RL 122 yX12_twist ∈ tb := tb_in 1625 rfl rfl
set_option maxRecDepth 100000 in
theorem m_1626 : Cond.instanceMethod yX12_twist ∈ tb := tb_in 1626 rfl rfl
set_option maxRecDepth 100000 in
theorem m_1627 : Cond.selects RX12 yX12_twist yX12_twist ∈ tb := tb_in 1627 rfl rfl
set_option maxRecDepth 100000 in
theorem m_1628 : Cond.code yX12_twist cX12_twist 8 (some .int) ∈ tb := tb_in 1628 rfl rfl
set_option maxRecDepth 100000 in
theorem m_1629 : Cond.methodLink RL 127 yX12_burnt ∈ tb := tb_in 1629 rfl rfl
set_option maxRecDepth 100000 in
theorem m_1630 : Cond.instanceMethod yX12_burnt ∈ tb := tb_in 1630 rfl rfl
set_option maxRecDepth 100000 in
theorem m_1631 : Cond.selects RX12 yX12_burnt yX12_burnt ∈ tb := tb_in 1631 rfl rfl
set_option maxRecDepth 100000 in
theorem m_1632 : Cond.code yX12_burnt cX12_burnt 5 (some .int) ∈ tb := tb_in 1632 rfl rfl
set_option maxRecDepth 100000 in
theorem m_1633 : Cond.methodLink RL 131 yX12_cheat ∈ tb := tb_in 1633 rfl rfl
set_option maxRecDepth 100000 in
theorem m_1634 : Cond.instanceMethod yX12_cheat ∈ tb := tb_in 1634 rfl rfl
set_option maxRecDepth 100000 in
theorem m_1635 : Cond.selects RX12 yX12_cheat yX12_cheat ∈ tb := tb_in 1635 rfl rfl
set_option maxRecDepth 100000 in
theorem m_1636 : Cond.code yX12_cheat cX12_cheat 7 (some .int) ∈ tb := tb_in 1636 rfl rfl
set_option maxRecDepth 100000 in
theorem m_1637 : Cond.methodLink RL 135 yX12_load ∈ tb := tb_in 1637 rfl rfl
set_option maxRecDepth 100000 in
theorem m_1638 : Cond.instanceMethod yX12_load ∈ tb := tb_in 1638 rfl rfl
set_option maxRecDepth 100000 in
theorem m_1639 : Cond.selects RX12 yX12_load yX12_load ∈ tb := tb_in 1639 rfl rfl
set_option maxRecDepth 100000 in
theorem m_1640 : Cond.code yX12_load cX12_load 2 (some .int) ∈ tb := tb_in 1640 rfl rfl
set_option maxRecDepth 100000 in
theorem m_1641 : Cond.methodLink RL 139 yX12_order ∈ tb := tb_in 1641 rfl rfl
set_option maxRecDepth 100000 in
theorem m_1642 : Cond.instanceMethod yX12_order ∈ tb := tb_in 1642 rfl rfl
set_option maxRecDepth 100000 in
theorem m_1643 : Cond.selects RX12 yX12_order yX12_order ∈ tb := tb_in 1643 rfl rfl
set_option maxRecDepth 100000 in
theorem m_1644 : Cond.code yX12_order cX12_order 3 (some .int) ∈ tb := tb_in 1644 rfl rfl
set_option maxRecDepth 100000 in
theorem m_1645 : Cond.methodLink RX12 414 yX12_findOrder ∈ tb := tb_in 1645 rfl rfl
set_option maxRecDepth 100000 in
theorem m_1647 : Cond.instanceMethod yX12_findOrder ∈ tb := tb_in 1647 rfl rfl
set_option maxRecDepth 100000 in
theorem m_1648 : Cond.code yX12_findOrder cX12_findOrder 7 none ∈ tb := tb_in 1648 rfl rfl
set_option maxRecDepth 100000 in
theorem m_1649 : Cond.methodLink RX12 402 yX12_power ∈ tb := tb_in 1649 rfl rfl
set_option maxRecDepth 100000 in
theorem m_1650 : Cond.static yX12_power ∈ tb := tb_in 1650 rfl rfl
set_option maxRecDepth 100000 in
theorem m_1651 : Cond.code yX12_power cX12_power 4 (some .int) ∈ tb := tb_in 1651 rfl rfl
set_option maxRecDepth 100000 in
theorem m_1656 : Cond.methodLink RL 143 yX12_empty ∈ tb := tb_in 1656 rfl rfl
set_option maxRecDepth 100000 in
theorem m_1657 : Cond.instanceMethod yX12_empty ∈ tb := tb_in 1657 rfl rfl
set_option maxRecDepth 100000 in
theorem m_1658 : Cond.selects RX12 yX12_empty yX12_empty ∈ tb := tb_in 1658 rfl rfl
set_option maxRecDepth 100000 in
theorem m_1659 : Cond.code yX12_empty cX12_empty 2 (some .int) ∈ tb := tb_in 1659 rfl rfl
set_option maxRecDepth 100000 in
theorem m_1660 : Cond.methodLink RL 147 yX12_shared ∈ tb := tb_in 1660 rfl rfl
set_option maxRecDepth 100000 in
theorem m_1661 : Cond.instanceMethod yX12_shared ∈ tb := tb_in 1661 rfl rfl
set_option maxRecDepth 100000 in
theorem m_1662 : Cond.selects RX12 yX12_shared yX12_shared ∈ tb := tb_in 1662 rfl rfl
set_option maxRecDepth 100000 in
theorem m_1663 : Cond.code yX12_shared cX12_shared 5 (some .int) ∈ tb := tb_in 1663 rfl rfl
set_option maxRecDepth 100000 in
theorem m_1664 : Cond.methodLink RL 151 yX12_houses ∈ tb := tb_in 1664 rfl rfl
set_option maxRecDepth 100000 in
theorem m_1665 : Cond.instanceMethod yX12_houses ∈ tb := tb_in 1665 rfl rfl
set_option maxRecDepth 100000 in
theorem m_1666 : Cond.selects RX12 yX12_houses yX12_houses ∈ tb := tb_in 1666 rfl rfl
set_option maxRecDepth 100000 in
theorem m_1667 : Cond.code yX12_houses cX12_houses 4 (some .int) ∈ tb := tb_in 1667 rfl rfl
set_option maxRecDepth 100000 in
theorem m_1672 : Cond.methodLink RL 155 yX12_certify ∈ tb := tb_in 1672 rfl rfl
set_option maxRecDepth 100000 in
theorem m_1673 : Cond.instanceMethod yX12_certify ∈ tb := tb_in 1673 rfl rfl
set_option maxRecDepth 100000 in
theorem m_1674 : Cond.selects RX12 yX12_certify yX12_certify ∈ tb := tb_in 1674 rfl rfl
set_option maxRecDepth 100000 in
theorem m_1675 : Cond.code yX12_certify cX12_certify 4 (some .int) ∈ tb := tb_in 1675 rfl rfl
set_option maxRecDepth 100000 in
theorem m_1680 : Cond.methodLink RL 159 yX12_bill ∈ tb := tb_in 1680 rfl rfl
set_option maxRecDepth 100000 in
theorem m_1681 : Cond.instanceMethod yX12_bill ∈ tb := tb_in 1681 rfl rfl
set_option maxRecDepth 100000 in
theorem m_1682 : Cond.selects RX12 yX12_bill yX12_bill ∈ tb := tb_in 1682 rfl rfl
set_option maxRecDepth 100000 in
theorem m_1683 : Cond.code yX12_bill cX12_bill 3 (some .int) ∈ tb := tb_in 1683 rfl rfl
set_option maxRecDepth 100000 in
theorem m_1684 : Cond.methodLink RX12 436 yX12_noPaper ∈ tb := tb_in 1684 rfl rfl
set_option maxRecDepth 100000 in
theorem m_1686 : Cond.instanceMethod yX12_noPaper ∈ tb := tb_in 1686 rfl rfl
set_option maxRecDepth 100000 in
theorem m_1687 : Cond.code yX12_noPaper cX12_noPaper 2 (some .boolean) ∈ tb := tb_in 1687 rfl rfl
set_option maxRecDepth 100000 in
theorem m_1692 : Cond.methodLink RL 163 yX12_cut ∈ tb := tb_in 1692 rfl rfl
set_option maxRecDepth 100000 in
theorem m_1693 : Cond.instanceMethod yX12_cut ∈ tb := tb_in 1693 rfl rfl
set_option maxRecDepth 100000 in
theorem m_1694 : Cond.selects RX12 yX12_cut yX12_cut ∈ tb := tb_in 1694 rfl rfl
set_option maxRecDepth 100000 in
theorem m_1695 : Cond.code yX12_cut cX12_cut 6 (some .int) ∈ tb := tb_in 1695 rfl rfl
set_option maxRecDepth 100000 in
theorem m_1696 : Cond.methodLink RL 167 yX12_undo ∈ tb := tb_in 1696 rfl rfl
set_option maxRecDepth 100000 in
theorem m_1697 : Cond.instanceMethod yX12_undo ∈ tb := tb_in 1697 rfl rfl
set_option maxRecDepth 100000 in
theorem m_1698 : Cond.selects RX12 yX12_undo yX12_undo ∈ tb := tb_in 1698 rfl rfl
set_option maxRecDepth 100000 in
theorem m_1699 : Cond.code yX12_undo cX12_undo 6 (some .int) ∈ tb := tb_in 1699 rfl rfl
set_option maxRecDepth 100000 in
theorem m_1700 : Cond.methodLink RL 171 yX12_paper ∈ tb := tb_in 1700 rfl rfl
set_option maxRecDepth 100000 in
theorem m_1701 : Cond.instanceMethod yX12_paper ∈ tb := tb_in 1701 rfl rfl
set_option maxRecDepth 100000 in
theorem m_1702 : Cond.selects RX12 yX12_paper yX12_paper ∈ tb := tb_in 1702 rfl rfl
set_option maxRecDepth 100000 in
theorem m_1703 : Cond.code yX12_paper cX12_paper 5 (some .int) ∈ tb := tb_in 1703 rfl rfl
set_option maxRecDepth 100000 in
theorem m_1704 : Cond.methodLink RL 175 yX12_stood ∈ tb := tb_in 1704 rfl rfl
set_option maxRecDepth 100000 in
theorem m_1705 : Cond.instanceMethod yX12_stood ∈ tb := tb_in 1705 rfl rfl
set_option maxRecDepth 100000 in
theorem m_1706 : Cond.selects RX12 yX12_stood yX12_stood ∈ tb := tb_in 1706 rfl rfl
set_option maxRecDepth 100000 in
theorem m_1707 : Cond.code yX12_stood cX12_stood 7 (some .long) ∈ tb := tb_in 1707 rfl rfl
set_option maxRecDepth 100000 in
theorem m_1708 : Cond.methodLink RL 52 yX12_count ∈ tb := tb_in 1708 rfl rfl
set_option maxRecDepth 100000 in
theorem m_1709 : Cond.instanceMethod yX12_count ∈ tb := tb_in 1709 rfl rfl
set_option maxRecDepth 100000 in
theorem m_1710 : Cond.selects RX12 yX12_count yX12_count ∈ tb := tb_in 1710 rfl rfl
set_option maxRecDepth 100000 in
theorem m_1711 : Cond.code yX12_count cX12_count 5 (some .int) ∈ tb := tb_in 1711 rfl rfl
set_option maxRecDepth 100000 in
theorem m_1712 : Cond.methodLink RX12 442 yX12_balesIn ∈ tb := tb_in 1712 rfl rfl
set_option maxRecDepth 100000 in
theorem m_1714 : Cond.instanceMethod yX12_balesIn ∈ tb := tb_in 1714 rfl rfl
set_option maxRecDepth 100000 in
theorem m_1715 : Cond.code yX12_balesIn cX12_balesIn 4 (some .int) ∈ tb := tb_in 1715 rfl rfl
set_option maxRecDepth 100000 in
theorem m_1716 : Cond.constantLong RL 53 (4294967295) ∈ tb := tb_in 1716 rfl rfl
theorem hd_X0_bring_v : yX0_bring.cls = RX0 ∧ yX0_bring.cls ≠ "java/lang/invoke/MethodHandle" ∧ yX0_bring.cls ≠ "java/lang/invoke/VarHandle" ∧ (parseMethodDescriptor yX0_bring.desc).map (fun d => d.parameters.length) = some 1 := by decide +kernel
theorem hd_X0_has_v : yX0_has.cls = RX0 ∧ yX0_has.cls ≠ "java/lang/invoke/MethodHandle" ∧ yX0_has.cls ≠ "java/lang/invoke/VarHandle" ∧ (parseMethodDescriptor yX0_has.desc).map (fun d => d.parameters.length) = some 1 := by decide +kernel
theorem hd_X0_init_i : yX0_init.cls ≠ "java/lang/invoke/MethodHandle" ∧ yX0_init.cls ≠ "java/lang/invoke/VarHandle" ∧ (parseMethodDescriptor yX0_init.desc).map (fun d => d.parameters.length) = some 0 := by decide +kernel
theorem hd_X10_has_v : yX10_has.cls = RX10 ∧ yX10_has.cls ≠ "java/lang/invoke/MethodHandle" ∧ yX10_has.cls ≠ "java/lang/invoke/VarHandle" ∧ (parseMethodDescriptor yX10_has.desc).map (fun d => d.parameters.length) = some 1 := by decide +kernel
theorem hd_X10_init_i : yX10_init.cls ≠ "java/lang/invoke/MethodHandle" ∧ yX10_init.cls ≠ "java/lang/invoke/VarHandle" ∧ (parseMethodDescriptor yX10_init.desc).map (fun d => d.parameters.length) = some 0 := by decide +kernel
theorem hd_X11_bale_v : yX11_bale.cls = RX11 ∧ yX11_bale.cls ≠ "java/lang/invoke/MethodHandle" ∧ yX11_bale.cls ≠ "java/lang/invoke/VarHandle" ∧ (parseMethodDescriptor yX11_bale.desc).map (fun d => d.parameters.length) = some 1 := by decide +kernel
theorem hd_X11_balesIn_v : yX11_balesIn.cls = RX11 ∧ yX11_balesIn.cls ≠ "java/lang/invoke/MethodHandle" ∧ yX11_balesIn.cls ≠ "java/lang/invoke/VarHandle" ∧ (parseMethodDescriptor yX11_balesIn.desc).map (fun d => d.parameters.length) = some 1 := by decide +kernel
theorem hd_X11_bill_v : yX11_bill.cls = RX11 ∧ yX11_bill.cls ≠ "java/lang/invoke/MethodHandle" ∧ yX11_bill.cls ≠ "java/lang/invoke/VarHandle" ∧ (parseMethodDescriptor yX11_bill.desc).map (fun d => d.parameters.length) = some 2 := by decide +kernel
theorem hd_X11_burnt_v : yX11_burnt.cls = RX11 ∧ yX11_burnt.cls ≠ "java/lang/invoke/MethodHandle" ∧ yX11_burnt.cls ≠ "java/lang/invoke/VarHandle" ∧ (parseMethodDescriptor yX11_burnt.desc).map (fun d => d.parameters.length) = some 4 := by decide +kernel
theorem hd_X11_cause_v : yX11_cause.cls = RX11 ∧ yX11_cause.cls ≠ "java/lang/invoke/MethodHandle" ∧ yX11_cause.cls ≠ "java/lang/invoke/VarHandle" ∧ (parseMethodDescriptor yX11_cause.desc).map (fun d => d.parameters.length) = some 2 := by decide +kernel
theorem hd_X11_certify_v : yX11_certify.cls = RX11 ∧ yX11_certify.cls ≠ "java/lang/invoke/MethodHandle" ∧ yX11_certify.cls ≠ "java/lang/invoke/VarHandle" ∧ (parseMethodDescriptor yX11_certify.desc).map (fun d => d.parameters.length) = some 1 := by decide +kernel
theorem hd_X11_cheat_v : yX11_cheat.cls = RX11 ∧ yX11_cheat.cls ≠ "java/lang/invoke/MethodHandle" ∧ yX11_cheat.cls ≠ "java/lang/invoke/VarHandle" ∧ (parseMethodDescriptor yX11_cheat.desc).map (fun d => d.parameters.length) = some 4 := by decide +kernel
theorem hd_X11_count_v : yX11_count.cls = RX11 ∧ yX11_count.cls ≠ "java/lang/invoke/MethodHandle" ∧ yX11_count.cls ≠ "java/lang/invoke/VarHandle" ∧ (parseMethodDescriptor yX11_count.desc).map (fun d => d.parameters.length) = some 1 := by decide +kernel
theorem hd_X11_cut_v : yX11_cut.cls = RX11 ∧ yX11_cut.cls ≠ "java/lang/invoke/MethodHandle" ∧ yX11_cut.cls ≠ "java/lang/invoke/VarHandle" ∧ (parseMethodDescriptor yX11_cut.desc).map (fun d => d.parameters.length) = some 3 := by decide +kernel
theorem hd_X11_empty_v : yX11_empty.cls = RX11 ∧ yX11_empty.cls ≠ "java/lang/invoke/MethodHandle" ∧ yX11_empty.cls ≠ "java/lang/invoke/VarHandle" ∧ (parseMethodDescriptor yX11_empty.desc).map (fun d => d.parameters.length) = some 0 := by decide +kernel
theorem hd_X11_error_v : yX11_error.cls = RX11 ∧ yX11_error.cls ≠ "java/lang/invoke/MethodHandle" ∧ yX11_error.cls ≠ "java/lang/invoke/VarHandle" ∧ (parseMethodDescriptor yX11_error.desc).map (fun d => d.parameters.length) = some 3 := by decide +kernel
theorem hd_X11_fault_v : yX11_fault.cls = RX11 ∧ yX11_fault.cls ≠ "java/lang/invoke/MethodHandle" ∧ yX11_fault.cls ≠ "java/lang/invoke/VarHandle" ∧ (parseMethodDescriptor yX11_fault.desc).map (fun d => d.parameters.length) = some 0 := by decide +kernel
theorem hd_X11_feed_v : yX11_feed.cls = RX11 ∧ yX11_feed.cls ≠ "java/lang/invoke/MethodHandle" ∧ yX11_feed.cls ≠ "java/lang/invoke/VarHandle" ∧ (parseMethodDescriptor yX11_feed.desc).map (fun d => d.parameters.length) = some 2 := by decide +kernel
theorem hd_X11_fees_v : yX11_fees.cls = RX11 ∧ yX11_fees.cls ≠ "java/lang/invoke/MethodHandle" ∧ yX11_fees.cls ≠ "java/lang/invoke/VarHandle" ∧ (parseMethodDescriptor yX11_fees.desc).map (fun d => d.parameters.length) = some 0 := by decide +kernel
theorem hd_X11_force_v : yX11_force.cls = RX11 ∧ yX11_force.cls ≠ "java/lang/invoke/MethodHandle" ∧ yX11_force.cls ≠ "java/lang/invoke/VarHandle" ∧ (parseMethodDescriptor yX11_force.desc).map (fun d => d.parameters.length) = some 2 := by decide +kernel
theorem hd_X11_go_v : yX11_go.cls = RX11 ∧ yX11_go.cls ≠ "java/lang/invoke/MethodHandle" ∧ yX11_go.cls ≠ "java/lang/invoke/VarHandle" ∧ (parseMethodDescriptor yX11_go.desc).map (fun d => d.parameters.length) = some 1 := by decide +kernel
theorem hd_X11_houses_v : yX11_houses.cls = RX11 ∧ yX11_houses.cls ≠ "java/lang/invoke/MethodHandle" ∧ yX11_houses.cls ≠ "java/lang/invoke/VarHandle" ∧ (parseMethodDescriptor yX11_houses.desc).map (fun d => d.parameters.length) = some 1 := by decide +kernel
theorem hd_X11_init_i : yX11_init.cls ≠ "java/lang/invoke/MethodHandle" ∧ yX11_init.cls ≠ "java/lang/invoke/VarHandle" ∧ (parseMethodDescriptor yX11_init.desc).map (fun d => d.parameters.length) = some 0 := by decide +kernel
theorem hd_X11_lawful_v : yX11_lawful.cls = RX11 ∧ yX11_lawful.cls ≠ "java/lang/invoke/MethodHandle" ∧ yX11_lawful.cls ≠ "java/lang/invoke/VarHandle" ∧ (parseMethodDescriptor yX11_lawful.desc).map (fun d => d.parameters.length) = some 3 := by decide +kernel
theorem hd_X11_letter_v : yX11_letter.cls = RX11 ∧ yX11_letter.cls ≠ "java/lang/invoke/MethodHandle" ∧ yX11_letter.cls ≠ "java/lang/invoke/VarHandle" ∧ (parseMethodDescriptor yX11_letter.desc).map (fun d => d.parameters.length) = some 2 := by decide +kernel
theorem hd_X11_load_v : yX11_load.cls = RX11 ∧ yX11_load.cls ≠ "java/lang/invoke/MethodHandle" ∧ yX11_load.cls ≠ "java/lang/invoke/VarHandle" ∧ (parseMethodDescriptor yX11_load.desc).map (fun d => d.parameters.length) = some 1 := by decide +kernel
theorem hd_X11_lose_v : yX11_lose.cls = RX11 ∧ yX11_lose.cls ≠ "java/lang/invoke/MethodHandle" ∧ yX11_lose.cls ≠ "java/lang/invoke/VarHandle" ∧ (parseMethodDescriptor yX11_lose.desc).map (fun d => d.parameters.length) = some 1 := by decide +kernel
theorem hd_X11_named_v : yX11_named.cls = RX11 ∧ yX11_named.cls ≠ "java/lang/invoke/MethodHandle" ∧ yX11_named.cls ≠ "java/lang/invoke/VarHandle" ∧ (parseMethodDescriptor yX11_named.desc).map (fun d => d.parameters.length) = some 2 := by decide +kernel
theorem hd_X11_needed_v : yX11_needed.cls = RX11 ∧ yX11_needed.cls ≠ "java/lang/invoke/MethodHandle" ∧ yX11_needed.cls ≠ "java/lang/invoke/VarHandle" ∧ (parseMethodDescriptor yX11_needed.desc).map (fun d => d.parameters.length) = some 2 := by decide +kernel
theorem hd_X11_odd_v : yX11_odd.cls = RX11 ∧ yX11_odd.cls ≠ "java/lang/invoke/MethodHandle" ∧ yX11_odd.cls ≠ "java/lang/invoke/VarHandle" ∧ (parseMethodDescriptor yX11_odd.desc).map (fun d => d.parameters.length) = some 2 := by decide +kernel
theorem hd_X11_order_v : yX11_order.cls = RX11 ∧ yX11_order.cls ≠ "java/lang/invoke/MethodHandle" ∧ yX11_order.cls ≠ "java/lang/invoke/VarHandle" ∧ (parseMethodDescriptor yX11_order.desc).map (fun d => d.parameters.length) = some 2 := by decide +kernel
theorem hd_X11_paper_v : yX11_paper.cls = RX11 ∧ yX11_paper.cls ≠ "java/lang/invoke/MethodHandle" ∧ yX11_paper.cls ≠ "java/lang/invoke/VarHandle" ∧ (parseMethodDescriptor yX11_paper.desc).map (fun d => d.parameters.length) = some 2 := by decide +kernel
theorem hd_X11_ratio_v : yX11_ratio.cls = RX11 ∧ yX11_ratio.cls ≠ "java/lang/invoke/MethodHandle" ∧ yX11_ratio.cls ≠ "java/lang/invoke/VarHandle" ∧ (parseMethodDescriptor yX11_ratio.desc).map (fun d => d.parameters.length) = some 3 := by decide +kernel
theorem hd_X11_rule_v : yX11_rule.cls = RX11 ∧ yX11_rule.cls ≠ "java/lang/invoke/MethodHandle" ∧ yX11_rule.cls ≠ "java/lang/invoke/VarHandle" ∧ (parseMethodDescriptor yX11_rule.desc).map (fun d => d.parameters.length) = some 1 := by decide +kernel
theorem hd_X11_shared_v : yX11_shared.cls = RX11 ∧ yX11_shared.cls ≠ "java/lang/invoke/MethodHandle" ∧ yX11_shared.cls ≠ "java/lang/invoke/VarHandle" ∧ (parseMethodDescriptor yX11_shared.desc).map (fun d => d.parameters.length) = some 4 := by decide +kernel
theorem hd_X11_size_v : yX11_size.cls = RX11 ∧ yX11_size.cls ≠ "java/lang/invoke/MethodHandle" ∧ yX11_size.cls ≠ "java/lang/invoke/VarHandle" ∧ (parseMethodDescriptor yX11_size.desc).map (fun d => d.parameters.length) = some 2 := by decide +kernel
theorem hd_X11_skein_v : yX11_skein.cls = RX11 ∧ yX11_skein.cls ≠ "java/lang/invoke/MethodHandle" ∧ yX11_skein.cls ≠ "java/lang/invoke/VarHandle" ∧ (parseMethodDescriptor yX11_skein.desc).map (fun d => d.parameters.length) = some 7 := by decide +kernel
theorem hd_X11_span_v : yX11_span.cls = RX11 ∧ yX11_span.cls ≠ "java/lang/invoke/MethodHandle" ∧ yX11_span.cls ≠ "java/lang/invoke/VarHandle" ∧ (parseMethodDescriptor yX11_span.desc).map (fun d => d.parameters.length) = some 2 := by decide +kernel
theorem hd_X11_state_v : yX11_state.cls = RX11 ∧ yX11_state.cls ≠ "java/lang/invoke/MethodHandle" ∧ yX11_state.cls ≠ "java/lang/invoke/VarHandle" ∧ (parseMethodDescriptor yX11_state.desc).map (fun d => d.parameters.length) = some 2 := by decide +kernel
theorem hd_X11_stood_v : yX11_stood.cls = RX11 ∧ yX11_stood.cls ≠ "java/lang/invoke/MethodHandle" ∧ yX11_stood.cls ≠ "java/lang/invoke/VarHandle" ∧ (parseMethodDescriptor yX11_stood.desc).map (fun d => d.parameters.length) = some 2 := by decide +kernel
theorem hd_X11_test_v : yX11_test.cls = RX11 ∧ yX11_test.cls ≠ "java/lang/invoke/MethodHandle" ∧ yX11_test.cls ≠ "java/lang/invoke/VarHandle" ∧ (parseMethodDescriptor yX11_test.desc).map (fun d => d.parameters.length) = some 3 := by decide +kernel
theorem hd_X11_thread_v : yX11_thread.cls = RX11 ∧ yX11_thread.cls ≠ "java/lang/invoke/MethodHandle" ∧ yX11_thread.cls ≠ "java/lang/invoke/VarHandle" ∧ (parseMethodDescriptor yX11_thread.desc).map (fun d => d.parameters.length) = some 2 := by decide +kernel
theorem hd_X11_told_v : yX11_told.cls = RX11 ∧ yX11_told.cls ≠ "java/lang/invoke/MethodHandle" ∧ yX11_told.cls ≠ "java/lang/invoke/VarHandle" ∧ (parseMethodDescriptor yX11_told.desc).map (fun d => d.parameters.length) = some 2 := by decide +kernel
theorem hd_X11_turns_v : yX11_turns.cls = RX11 ∧ yX11_turns.cls ≠ "java/lang/invoke/MethodHandle" ∧ yX11_turns.cls ≠ "java/lang/invoke/VarHandle" ∧ (parseMethodDescriptor yX11_turns.desc).map (fun d => d.parameters.length) = some 2 := by decide +kernel
theorem hd_X11_twist_v : yX11_twist.cls = RX11 ∧ yX11_twist.cls ≠ "java/lang/invoke/MethodHandle" ∧ yX11_twist.cls ≠ "java/lang/invoke/VarHandle" ∧ (parseMethodDescriptor yX11_twist.desc).map (fun d => d.parameters.length) = some 1 := by decide +kernel
theorem hd_X11_undo_v : yX11_undo.cls = RX11 ∧ yX11_undo.cls ≠ "java/lang/invoke/MethodHandle" ∧ yX11_undo.cls ≠ "java/lang/invoke/VarHandle" ∧ (parseMethodDescriptor yX11_undo.desc).map (fun d => d.parameters.length) = some 1 := by decide +kernel
theorem hd_X11_within_v : yX11_within.cls = RX11 ∧ yX11_within.cls ≠ "java/lang/invoke/MethodHandle" ∧ yX11_within.cls ≠ "java/lang/invoke/VarHandle" ∧ (parseMethodDescriptor yX11_within.desc).map (fun d => d.parameters.length) = some 3 := by decide +kernel
theorem hd_X12_atFirst_v : yX12_atFirst.cls = RX12 ∧ yX12_atFirst.cls ≠ "java/lang/invoke/MethodHandle" ∧ yX12_atFirst.cls ≠ "java/lang/invoke/VarHandle" ∧ (parseMethodDescriptor yX12_atFirst.desc).map (fun d => d.parameters.length) = some 1 := by decide +kernel
theorem hd_X12_bale_v : yX12_bale.cls = RX12 ∧ yX12_bale.cls ≠ "java/lang/invoke/MethodHandle" ∧ yX12_bale.cls ≠ "java/lang/invoke/VarHandle" ∧ (parseMethodDescriptor yX12_bale.desc).map (fun d => d.parameters.length) = some 1 := by decide +kernel
theorem hd_X12_balesIn_v : yX12_balesIn.cls = RX12 ∧ yX12_balesIn.cls ≠ "java/lang/invoke/MethodHandle" ∧ yX12_balesIn.cls ≠ "java/lang/invoke/VarHandle" ∧ (parseMethodDescriptor yX12_balesIn.desc).map (fun d => d.parameters.length) = some 1 := by decide +kernel
theorem hd_X12_bill_v : yX12_bill.cls = RX12 ∧ yX12_bill.cls ≠ "java/lang/invoke/MethodHandle" ∧ yX12_bill.cls ≠ "java/lang/invoke/VarHandle" ∧ (parseMethodDescriptor yX12_bill.desc).map (fun d => d.parameters.length) = some 2 := by decide +kernel
theorem hd_X12_burnt_v : yX12_burnt.cls = RX12 ∧ yX12_burnt.cls ≠ "java/lang/invoke/MethodHandle" ∧ yX12_burnt.cls ≠ "java/lang/invoke/VarHandle" ∧ (parseMethodDescriptor yX12_burnt.desc).map (fun d => d.parameters.length) = some 4 := by decide +kernel
theorem hd_X12_cause_v : yX12_cause.cls = RX12 ∧ yX12_cause.cls ≠ "java/lang/invoke/MethodHandle" ∧ yX12_cause.cls ≠ "java/lang/invoke/VarHandle" ∧ (parseMethodDescriptor yX12_cause.desc).map (fun d => d.parameters.length) = some 2 := by decide +kernel
theorem hd_X12_certify_v : yX12_certify.cls = RX12 ∧ yX12_certify.cls ≠ "java/lang/invoke/MethodHandle" ∧ yX12_certify.cls ≠ "java/lang/invoke/VarHandle" ∧ (parseMethodDescriptor yX12_certify.desc).map (fun d => d.parameters.length) = some 1 := by decide +kernel
theorem hd_X12_cheat_v : yX12_cheat.cls = RX12 ∧ yX12_cheat.cls ≠ "java/lang/invoke/MethodHandle" ∧ yX12_cheat.cls ≠ "java/lang/invoke/VarHandle" ∧ (parseMethodDescriptor yX12_cheat.desc).map (fun d => d.parameters.length) = some 4 := by decide +kernel
theorem hd_X12_count_v : yX12_count.cls = RX12 ∧ yX12_count.cls ≠ "java/lang/invoke/MethodHandle" ∧ yX12_count.cls ≠ "java/lang/invoke/VarHandle" ∧ (parseMethodDescriptor yX12_count.desc).map (fun d => d.parameters.length) = some 1 := by decide +kernel
theorem hd_X12_cut_v : yX12_cut.cls = RX12 ∧ yX12_cut.cls ≠ "java/lang/invoke/MethodHandle" ∧ yX12_cut.cls ≠ "java/lang/invoke/VarHandle" ∧ (parseMethodDescriptor yX12_cut.desc).map (fun d => d.parameters.length) = some 3 := by decide +kernel
theorem hd_X12_empty_v : yX12_empty.cls = RX12 ∧ yX12_empty.cls ≠ "java/lang/invoke/MethodHandle" ∧ yX12_empty.cls ≠ "java/lang/invoke/VarHandle" ∧ (parseMethodDescriptor yX12_empty.desc).map (fun d => d.parameters.length) = some 0 := by decide +kernel
theorem hd_X12_errorOf_v : yX12_errorOf.cls = RX12 ∧ yX12_errorOf.cls ≠ "java/lang/invoke/MethodHandle" ∧ yX12_errorOf.cls ≠ "java/lang/invoke/VarHandle" ∧ (parseMethodDescriptor yX12_errorOf.desc).map (fun d => d.parameters.length) = some 3 := by decide +kernel
theorem hd_X12_error_v : yX12_error.cls = RX12 ∧ yX12_error.cls ≠ "java/lang/invoke/MethodHandle" ∧ yX12_error.cls ≠ "java/lang/invoke/VarHandle" ∧ (parseMethodDescriptor yX12_error.desc).map (fun d => d.parameters.length) = some 3 := by decide +kernel
theorem hd_X12_fault_v : yX12_fault.cls = RX12 ∧ yX12_fault.cls ≠ "java/lang/invoke/MethodHandle" ∧ yX12_fault.cls ≠ "java/lang/invoke/VarHandle" ∧ (parseMethodDescriptor yX12_fault.desc).map (fun d => d.parameters.length) = some 0 := by decide +kernel
theorem hd_X12_feed_v : yX12_feed.cls = RX12 ∧ yX12_feed.cls ≠ "java/lang/invoke/MethodHandle" ∧ yX12_feed.cls ≠ "java/lang/invoke/VarHandle" ∧ (parseMethodDescriptor yX12_feed.desc).map (fun d => d.parameters.length) = some 2 := by decide +kernel
theorem hd_X12_findOrder_v : yX12_findOrder.cls = RX12 ∧ yX12_findOrder.cls ≠ "java/lang/invoke/MethodHandle" ∧ yX12_findOrder.cls ≠ "java/lang/invoke/VarHandle" ∧ (parseMethodDescriptor yX12_findOrder.desc).map (fun d => d.parameters.length) = some 1 := by decide +kernel
theorem hd_X12_findRules_v : yX12_findRules.cls = RX12 ∧ yX12_findRules.cls ≠ "java/lang/invoke/MethodHandle" ∧ yX12_findRules.cls ≠ "java/lang/invoke/VarHandle" ∧ (parseMethodDescriptor yX12_findRules.desc).map (fun d => d.parameters.length) = some 1 := by decide +kernel
theorem hd_X12_forceOf_v : yX12_forceOf.cls = RX12 ∧ yX12_forceOf.cls ≠ "java/lang/invoke/MethodHandle" ∧ yX12_forceOf.cls ≠ "java/lang/invoke/VarHandle" ∧ (parseMethodDescriptor yX12_forceOf.desc).map (fun d => d.parameters.length) = some 2 := by decide +kernel
theorem hd_X12_force_v : yX12_force.cls = RX12 ∧ yX12_force.cls ≠ "java/lang/invoke/MethodHandle" ∧ yX12_force.cls ≠ "java/lang/invoke/VarHandle" ∧ (parseMethodDescriptor yX12_force.desc).map (fun d => d.parameters.length) = some 2 := by decide +kernel
theorem hd_X12_go_v : yX12_go.cls = RX12 ∧ yX12_go.cls ≠ "java/lang/invoke/MethodHandle" ∧ yX12_go.cls ≠ "java/lang/invoke/VarHandle" ∧ (parseMethodDescriptor yX12_go.desc).map (fun d => d.parameters.length) = some 1 := by decide +kernel
theorem hd_X12_here_v : yX12_here.cls = RX12 ∧ yX12_here.cls ≠ "java/lang/invoke/MethodHandle" ∧ yX12_here.cls ≠ "java/lang/invoke/VarHandle" ∧ (parseMethodDescriptor yX12_here.desc).map (fun d => d.parameters.length) = some 0 := by decide +kernel
theorem hd_X12_houses_v : yX12_houses.cls = RX12 ∧ yX12_houses.cls ≠ "java/lang/invoke/MethodHandle" ∧ yX12_houses.cls ≠ "java/lang/invoke/VarHandle" ∧ (parseMethodDescriptor yX12_houses.desc).map (fun d => d.parameters.length) = some 1 := by decide +kernel
theorem hd_X12_in_v : yX12_in.cls = RX12 ∧ yX12_in.cls ≠ "java/lang/invoke/MethodHandle" ∧ yX12_in.cls ≠ "java/lang/invoke/VarHandle" ∧ (parseMethodDescriptor yX12_in.desc).map (fun d => d.parameters.length) = some 3 := by decide +kernel
theorem hd_X12_init_i : yX12_init.cls ≠ "java/lang/invoke/MethodHandle" ∧ yX12_init.cls ≠ "java/lang/invoke/VarHandle" ∧ (parseMethodDescriptor yX12_init.desc).map (fun d => d.parameters.length) = some 0 := by decide +kernel
theorem hd_X12_isDay_v : yX12_isDay.cls = RX12 ∧ yX12_isDay.cls ≠ "java/lang/invoke/MethodHandle" ∧ yX12_isDay.cls ≠ "java/lang/invoke/VarHandle" ∧ (parseMethodDescriptor yX12_isDay.desc).map (fun d => d.parameters.length) = some 1 := by decide +kernel
theorem hd_X12_isPast_v : yX12_isPast.cls = RX12 ∧ yX12_isPast.cls ≠ "java/lang/invoke/MethodHandle" ∧ yX12_isPast.cls ≠ "java/lang/invoke/VarHandle" ∧ (parseMethodDescriptor yX12_isPast.desc).map (fun d => d.parameters.length) = some 1 := by decide +kernel
theorem hd_X12_isWeight_v : yX12_isWeight.cls = RX12 ∧ yX12_isWeight.cls ≠ "java/lang/invoke/MethodHandle" ∧ yX12_isWeight.cls ≠ "java/lang/invoke/VarHandle" ∧ (parseMethodDescriptor yX12_isWeight.desc).map (fun d => d.parameters.length) = some 1 := by decide +kernel
theorem hd_X12_lawful_v : yX12_lawful.cls = RX12 ∧ yX12_lawful.cls ≠ "java/lang/invoke/MethodHandle" ∧ yX12_lawful.cls ≠ "java/lang/invoke/VarHandle" ∧ (parseMethodDescriptor yX12_lawful.desc).map (fun d => d.parameters.length) = some 3 := by decide +kernel
theorem hd_X12_letter_v : yX12_letter.cls = RX12 ∧ yX12_letter.cls ≠ "java/lang/invoke/MethodHandle" ∧ yX12_letter.cls ≠ "java/lang/invoke/VarHandle" ∧ (parseMethodDescriptor yX12_letter.desc).map (fun d => d.parameters.length) = some 2 := by decide +kernel
theorem hd_X12_load_v : yX12_load.cls = RX12 ∧ yX12_load.cls ≠ "java/lang/invoke/MethodHandle" ∧ yX12_load.cls ≠ "java/lang/invoke/VarHandle" ∧ (parseMethodDescriptor yX12_load.desc).map (fun d => d.parameters.length) = some 1 := by decide +kernel
theorem hd_X12_lose_v : yX12_lose.cls = RX12 ∧ yX12_lose.cls ≠ "java/lang/invoke/MethodHandle" ∧ yX12_lose.cls ≠ "java/lang/invoke/VarHandle" ∧ (parseMethodDescriptor yX12_lose.desc).map (fun d => d.parameters.length) = some 1 := by decide +kernel
theorem hd_X12_named_v : yX12_named.cls = RX12 ∧ yX12_named.cls ≠ "java/lang/invoke/MethodHandle" ∧ yX12_named.cls ≠ "java/lang/invoke/VarHandle" ∧ (parseMethodDescriptor yX12_named.desc).map (fun d => d.parameters.length) = some 2 := by decide +kernel
theorem hd_X12_needed_v : yX12_needed.cls = RX12 ∧ yX12_needed.cls ≠ "java/lang/invoke/MethodHandle" ∧ yX12_needed.cls ≠ "java/lang/invoke/VarHandle" ∧ (parseMethodDescriptor yX12_needed.desc).map (fun d => d.parameters.length) = some 2 := by decide +kernel
theorem hd_X12_noBale_v : yX12_noBale.cls = RX12 ∧ yX12_noBale.cls ≠ "java/lang/invoke/MethodHandle" ∧ yX12_noBale.cls ≠ "java/lang/invoke/VarHandle" ∧ (parseMethodDescriptor yX12_noBale.desc).map (fun d => d.parameters.length) = some 1 := by decide +kernel
theorem hd_X12_noPaper_v : yX12_noPaper.cls = RX12 ∧ yX12_noPaper.cls ≠ "java/lang/invoke/MethodHandle" ∧ yX12_noPaper.cls ≠ "java/lang/invoke/VarHandle" ∧ (parseMethodDescriptor yX12_noPaper.desc).map (fun d => d.parameters.length) = some 1 := by decide +kernel
theorem hd_X12_noSkein_v : yX12_noSkein.cls = RX12 ∧ yX12_noSkein.cls ≠ "java/lang/invoke/MethodHandle" ∧ yX12_noSkein.cls ≠ "java/lang/invoke/VarHandle" ∧ (parseMethodDescriptor yX12_noSkein.desc).map (fun d => d.parameters.length) = some 1 := by decide +kernel
theorem hd_X12_odd_v : yX12_odd.cls = RX12 ∧ yX12_odd.cls ≠ "java/lang/invoke/MethodHandle" ∧ yX12_odd.cls ≠ "java/lang/invoke/VarHandle" ∧ (parseMethodDescriptor yX12_odd.desc).map (fun d => d.parameters.length) = some 2 := by decide +kernel
theorem hd_X12_order_v : yX12_order.cls = RX12 ∧ yX12_order.cls ≠ "java/lang/invoke/MethodHandle" ∧ yX12_order.cls ≠ "java/lang/invoke/VarHandle" ∧ (parseMethodDescriptor yX12_order.desc).map (fun d => d.parameters.length) = some 2 := by decide +kernel
theorem hd_X12_paper_v : yX12_paper.cls = RX12 ∧ yX12_paper.cls ≠ "java/lang/invoke/MethodHandle" ∧ yX12_paper.cls ≠ "java/lang/invoke/VarHandle" ∧ (parseMethodDescriptor yX12_paper.desc).map (fun d => d.parameters.length) = some 2 := by decide +kernel
theorem hd_X12_power_v : yX12_power.cls = RX12 ∧ yX12_power.cls ≠ "java/lang/invoke/MethodHandle" ∧ yX12_power.cls ≠ "java/lang/invoke/VarHandle" ∧ (parseMethodDescriptor yX12_power.desc).map (fun d => d.parameters.length) = some 2 := by decide +kernel
theorem hd_X12_ratio_v : yX12_ratio.cls = RX12 ∧ yX12_ratio.cls ≠ "java/lang/invoke/MethodHandle" ∧ yX12_ratio.cls ≠ "java/lang/invoke/VarHandle" ∧ (parseMethodDescriptor yX12_ratio.desc).map (fun d => d.parameters.length) = some 3 := by decide +kernel
theorem hd_X12_rule_v : yX12_rule.cls = RX12 ∧ yX12_rule.cls ≠ "java/lang/invoke/MethodHandle" ∧ yX12_rule.cls ≠ "java/lang/invoke/VarHandle" ∧ (parseMethodDescriptor yX12_rule.desc).map (fun d => d.parameters.length) = some 1 := by decide +kernel
theorem hd_X12_shared_v : yX12_shared.cls = RX12 ∧ yX12_shared.cls ≠ "java/lang/invoke/MethodHandle" ∧ yX12_shared.cls ≠ "java/lang/invoke/VarHandle" ∧ (parseMethodDescriptor yX12_shared.desc).map (fun d => d.parameters.length) = some 4 := by decide +kernel
theorem hd_X12_size_v : yX12_size.cls = RX12 ∧ yX12_size.cls ≠ "java/lang/invoke/MethodHandle" ∧ yX12_size.cls ≠ "java/lang/invoke/VarHandle" ∧ (parseMethodDescriptor yX12_size.desc).map (fun d => d.parameters.length) = some 2 := by decide +kernel
theorem hd_X12_skein_v : yX12_skein.cls = RX12 ∧ yX12_skein.cls ≠ "java/lang/invoke/MethodHandle" ∧ yX12_skein.cls ≠ "java/lang/invoke/VarHandle" ∧ (parseMethodDescriptor yX12_skein.desc).map (fun d => d.parameters.length) = some 7 := by decide +kernel
theorem hd_X12_span_v : yX12_span.cls = RX12 ∧ yX12_span.cls ≠ "java/lang/invoke/MethodHandle" ∧ yX12_span.cls ≠ "java/lang/invoke/VarHandle" ∧ (parseMethodDescriptor yX12_span.desc).map (fun d => d.parameters.length) = some 2 := by decide +kernel
theorem hd_X12_state_v : yX12_state.cls = RX12 ∧ yX12_state.cls ≠ "java/lang/invoke/MethodHandle" ∧ yX12_state.cls ≠ "java/lang/invoke/VarHandle" ∧ (parseMethodDescriptor yX12_state.desc).map (fun d => d.parameters.length) = some 2 := by decide +kernel
theorem hd_X12_stood_v : yX12_stood.cls = RX12 ∧ yX12_stood.cls ≠ "java/lang/invoke/MethodHandle" ∧ yX12_stood.cls ≠ "java/lang/invoke/VarHandle" ∧ (parseMethodDescriptor yX12_stood.desc).map (fun d => d.parameters.length) = some 2 := by decide +kernel
theorem hd_X12_test_v : yX12_test.cls = RX12 ∧ yX12_test.cls ≠ "java/lang/invoke/MethodHandle" ∧ yX12_test.cls ≠ "java/lang/invoke/VarHandle" ∧ (parseMethodDescriptor yX12_test.desc).map (fun d => d.parameters.length) = some 3 := by decide +kernel
theorem hd_X12_thread_v : yX12_thread.cls = RX12 ∧ yX12_thread.cls ≠ "java/lang/invoke/MethodHandle" ∧ yX12_thread.cls ≠ "java/lang/invoke/VarHandle" ∧ (parseMethodDescriptor yX12_thread.desc).map (fun d => d.parameters.length) = some 2 := by decide +kernel
theorem hd_X12_told_v : yX12_told.cls = RX12 ∧ yX12_told.cls ≠ "java/lang/invoke/MethodHandle" ∧ yX12_told.cls ≠ "java/lang/invoke/VarHandle" ∧ (parseMethodDescriptor yX12_told.desc).map (fun d => d.parameters.length) = some 2 := by decide +kernel
theorem hd_X12_turns_v : yX12_turns.cls = RX12 ∧ yX12_turns.cls ≠ "java/lang/invoke/MethodHandle" ∧ yX12_turns.cls ≠ "java/lang/invoke/VarHandle" ∧ (parseMethodDescriptor yX12_turns.desc).map (fun d => d.parameters.length) = some 2 := by decide +kernel
theorem hd_X12_twist_v : yX12_twist.cls = RX12 ∧ yX12_twist.cls ≠ "java/lang/invoke/MethodHandle" ∧ yX12_twist.cls ≠ "java/lang/invoke/VarHandle" ∧ (parseMethodDescriptor yX12_twist.desc).map (fun d => d.parameters.length) = some 1 := by decide +kernel
theorem hd_X12_undo_v : yX12_undo.cls = RX12 ∧ yX12_undo.cls ≠ "java/lang/invoke/MethodHandle" ∧ yX12_undo.cls ≠ "java/lang/invoke/VarHandle" ∧ (parseMethodDescriptor yX12_undo.desc).map (fun d => d.parameters.length) = some 1 := by decide +kernel
theorem hd_X1_enact_v : yX1_enact.cls = RX1 ∧ yX1_enact.cls ≠ "java/lang/invoke/MethodHandle" ∧ yX1_enact.cls ≠ "java/lang/invoke/VarHandle" ∧ (parseMethodDescriptor yX1_enact.desc).map (fun d => d.parameters.length) = some 1 := by decide +kernel
theorem hd_X1_findCounting_v : yX1_findCounting.cls = RX1 ∧ yX1_findCounting.cls ≠ "java/lang/invoke/MethodHandle" ∧ yX1_findCounting.cls ≠ "java/lang/invoke/VarHandle" ∧ (parseMethodDescriptor yX1_findCounting.desc).map (fun d => d.parameters.length) = some 1 := by decide +kernel
theorem hd_X1_has_v : yX1_has.cls = RX1 ∧ yX1_has.cls ≠ "java/lang/invoke/MethodHandle" ∧ yX1_has.cls ≠ "java/lang/invoke/VarHandle" ∧ (parseMethodDescriptor yX1_has.desc).map (fun d => d.parameters.length) = some 1 := by decide +kernel
theorem hd_X1_holding_v : yX1_holding.cls = RX1 ∧ yX1_holding.cls ≠ "java/lang/invoke/MethodHandle" ∧ yX1_holding.cls ≠ "java/lang/invoke/VarHandle" ∧ (parseMethodDescriptor yX1_holding.desc).map (fun d => d.parameters.length) = some 2 := by decide +kernel
theorem hd_X1_init_i : yX1_init.cls ≠ "java/lang/invoke/MethodHandle" ∧ yX1_init.cls ≠ "java/lang/invoke/VarHandle" ∧ (parseMethodDescriptor yX1_init.desc).map (fun d => d.parameters.length) = some 0 := by decide +kernel
theorem hd_X1_startDraft_v : yX1_startDraft.cls = RX1 ∧ yX1_startDraft.cls ≠ "java/lang/invoke/MethodHandle" ∧ yX1_startDraft.cls ≠ "java/lang/invoke/VarHandle" ∧ (parseMethodDescriptor yX1_startDraft.desc).map (fun d => d.parameters.length) = some 0 := by decide +kernel
theorem hd_X2_init_i : yX2_init.cls ≠ "java/lang/invoke/MethodHandle" ∧ yX2_init.cls ≠ "java/lang/invoke/VarHandle" ∧ (parseMethodDescriptor yX2_init.desc).map (fun d => d.parameters.length) = some 1 := by decide +kernel
theorem hd_X3_init_i : yX3_init.cls ≠ "java/lang/invoke/MethodHandle" ∧ yX3_init.cls ≠ "java/lang/invoke/VarHandle" ∧ (parseMethodDescriptor yX3_init.desc).map (fun d => d.parameters.length) = some 2 := by decide +kernel
theorem hd_X4_compare_v : yX4_compare.cls = RX4 ∧ yX4_compare.cls ≠ "java/lang/invoke/MethodHandle" ∧ yX4_compare.cls ≠ "java/lang/invoke/VarHandle" ∧ (parseMethodDescriptor yX4_compare.desc).map (fun d => d.parameters.length) = some 2 := by decide +kernel
theorem hd_X4_init_i : yX4_init.cls ≠ "java/lang/invoke/MethodHandle" ∧ yX4_init.cls ≠ "java/lang/invoke/VarHandle" ∧ (parseMethodDescriptor yX4_init.desc).map (fun d => d.parameters.length) = some 0 := by decide +kernel
theorem hd_X5_arrange_v : yX5_arrange.cls = RX5 ∧ yX5_arrange.cls ≠ "java/lang/invoke/MethodHandle" ∧ yX5_arrange.cls ≠ "java/lang/invoke/VarHandle" ∧ (parseMethodDescriptor yX5_arrange.desc).map (fun d => d.parameters.length) = some 1 := by decide +kernel
theorem hd_X5_bring_v : yX5_bring.cls = RX5 ∧ yX5_bring.cls ≠ "java/lang/invoke/MethodHandle" ∧ yX5_bring.cls ≠ "java/lang/invoke/VarHandle" ∧ (parseMethodDescriptor yX5_bring.desc).map (fun d => d.parameters.length) = some 1 := by decide +kernel
theorem hd_X5_clear_v : yX5_clear.cls = RX5 ∧ yX5_clear.cls ≠ "java/lang/invoke/MethodHandle" ∧ yX5_clear.cls ≠ "java/lang/invoke/VarHandle" ∧ (parseMethodDescriptor yX5_clear.desc).map (fun d => d.parameters.length) = some 0 := by decide +kernel
theorem hd_X5_init_i : yX5_init.cls ≠ "java/lang/invoke/MethodHandle" ∧ yX5_init.cls ≠ "java/lang/invoke/VarHandle" ∧ (parseMethodDescriptor yX5_init.desc).map (fun d => d.parameters.length) = some 0 := by decide +kernel
theorem hd_X5_place_v : yX5_place.cls = RX5 ∧ yX5_place.cls ≠ "java/lang/invoke/MethodHandle" ∧ yX5_place.cls ≠ "java/lang/invoke/VarHandle" ∧ (parseMethodDescriptor yX5_place.desc).map (fun d => d.parameters.length) = some 3 := by decide +kernel
theorem hd_X6_has_v : yX6_has.cls = RX6 ∧ yX6_has.cls ≠ "java/lang/invoke/MethodHandle" ∧ yX6_has.cls ≠ "java/lang/invoke/VarHandle" ∧ (parseMethodDescriptor yX6_has.desc).map (fun d => d.parameters.length) = some 1 := by decide +kernel
theorem hd_X6_init_i : yX6_init.cls ≠ "java/lang/invoke/MethodHandle" ∧ yX6_init.cls ≠ "java/lang/invoke/VarHandle" ∧ (parseMethodDescriptor yX6_init.desc).map (fun d => d.parameters.length) = some 0 := by decide +kernel
theorem hd_X6_standing_v : yX6_standing.cls = RX6 ∧ yX6_standing.cls ≠ "java/lang/invoke/MethodHandle" ∧ yX6_standing.cls ≠ "java/lang/invoke/VarHandle" ∧ (parseMethodDescriptor yX6_standing.desc).map (fun d => d.parameters.length) = some 2 := by decide +kernel
theorem hd_X7_init_i : yX7_init.cls ≠ "java/lang/invoke/MethodHandle" ∧ yX7_init.cls ≠ "java/lang/invoke/VarHandle" ∧ (parseMethodDescriptor yX7_init.desc).map (fun d => d.parameters.length) = some 0 := by decide +kernel
theorem hd_X8_init_i : yX8_init.cls ≠ "java/lang/invoke/MethodHandle" ∧ yX8_init.cls ≠ "java/lang/invoke/VarHandle" ∧ (parseMethodDescriptor yX8_init.desc).map (fun d => d.parameters.length) = some 1 := by decide +kernel
theorem hd_X8_read_v : yX8_read.cls = RX8 ∧ yX8_read.cls ≠ "java/lang/invoke/MethodHandle" ∧ yX8_read.cls ≠ "java/lang/invoke/VarHandle" ∧ (parseMethodDescriptor yX8_read.desc).map (fun d => d.parameters.length) = some 0 := by decide +kernel
theorem hd_X8_skipBlanks_v : yX8_skipBlanks.cls = RX8 ∧ yX8_skipBlanks.cls ≠ "java/lang/invoke/MethodHandle" ∧ yX8_skipBlanks.cls ≠ "java/lang/invoke/VarHandle" ∧ (parseMethodDescriptor yX8_skipBlanks.desc).map (fun d => d.parameters.length) = some 0 := by decide +kernel
theorem hd_X8_take_v : yX8_take.cls = RX8 ∧ yX8_take.cls ≠ "java/lang/invoke/MethodHandle" ∧ yX8_take.cls ≠ "java/lang/invoke/VarHandle" ∧ (parseMethodDescriptor yX8_take.desc).map (fun d => d.parameters.length) = some 2 := by decide +kernel
theorem hd_X9_driftOf_v : yX9_driftOf.cls = RX9 ∧ yX9_driftOf.cls ≠ "java/lang/invoke/MethodHandle" ∧ yX9_driftOf.cls ≠ "java/lang/invoke/VarHandle" ∧ (parseMethodDescriptor yX9_driftOf.desc).map (fun d => d.parameters.length) = some 2 := by decide +kernel
theorem hd_X9_firstAfter_v : yX9_firstAfter.cls = RX9 ∧ yX9_firstAfter.cls ≠ "java/lang/invoke/MethodHandle" ∧ yX9_firstAfter.cls ≠ "java/lang/invoke/VarHandle" ∧ (parseMethodDescriptor yX9_firstAfter.desc).map (fun d => d.parameters.length) = some 2 := by decide +kernel
theorem hd_X9_greatest_v : yX9_greatest.cls = RX9 ∧ yX9_greatest.cls ≠ "java/lang/invoke/MethodHandle" ∧ yX9_greatest.cls ≠ "java/lang/invoke/VarHandle" ∧ (parseMethodDescriptor yX9_greatest.desc).map (fun d => d.parameters.length) = some 2 := by decide +kernel
theorem hd_X9_init_i : yX9_init.cls ≠ "java/lang/invoke/MethodHandle" ∧ yX9_init.cls ≠ "java/lang/invoke/VarHandle" ∧ (parseMethodDescriptor yX9_init.desc).map (fun d => d.parameters.length) = some 0 := by decide +kernel
theorem hd_X9_lastBy_v : yX9_lastBy.cls = RX9 ∧ yX9_lastBy.cls ≠ "java/lang/invoke/MethodHandle" ∧ yX9_lastBy.cls ≠ "java/lang/invoke/VarHandle" ∧ (parseMethodDescriptor yX9_lastBy.desc).map (fun d => d.parameters.length) = some 2 := by decide +kernel
theorem hd_X9_least_v : yX9_least.cls = RX9 ∧ yX9_least.cls ≠ "java/lang/invoke/MethodHandle" ∧ yX9_least.cls ≠ "java/lang/invoke/VarHandle" ∧ (parseMethodDescriptor yX9_least.desc).map (fun d => d.parameters.length) = some 2 := by decide +kernel
theorem hd_X9_note_v : yX9_note.cls = RX9 ∧ yX9_note.cls ≠ "java/lang/invoke/MethodHandle" ∧ yX9_note.cls ≠ "java/lang/invoke/VarHandle" ∧ (parseMethodDescriptor yX9_note.desc).map (fun d => d.parameters.length) = some 3 := by decide +kernel
theorem sw_0_4 (x : Int32) : (x.toInt < 0 ∨ 4 < x.toInt) ∨ x = 0 ∨ x = 1 ∨ x = 2 ∨ x = 3 ∨ x = 4 := by
  by_cases h : x.toInt < 0 ∨ 4 < x.toInt
  · exact Or.inl h
  · right
    have h2 : x.toInt = 0 ∨ x.toInt = 1 ∨ x.toInt = 2 ∨ x.toInt = 3 ∨ x.toInt = 4 := by omega
    rcases h2 with h2 | h2 | h2 | h2 | h2
    · exact Or.inl (z_of (by decide) h2)
    · exact Or.inr (Or.inl (z_of (by decide) h2))
    · exact Or.inr (Or.inr (Or.inl (z_of (by decide) h2)))
    · exact Or.inr (Or.inr (Or.inr (Or.inl (z_of (by decide) h2))))
    · exact Or.inr (Or.inr (Or.inr (Or.inr (z_of (by decide) h2))))
theorem sw_0_5 (x : Int32) : (x.toInt < 0 ∨ 5 < x.toInt) ∨ x = 0 ∨ x = 1 ∨ x = 2 ∨ x = 3 ∨ x = 4 ∨ x = 5 := by
  by_cases h : x.toInt < 0 ∨ 5 < x.toInt
  · exact Or.inl h
  · right
    have h2 : x.toInt = 0 ∨ x.toInt = 1 ∨ x.toInt = 2 ∨ x.toInt = 3 ∨ x.toInt = 4 ∨ x.toInt = 5 := by omega
    rcases h2 with h2 | h2 | h2 | h2 | h2 | h2
    · exact Or.inl (z_of (by decide) h2)
    · exact Or.inr (Or.inl (z_of (by decide) h2))
    · exact Or.inr (Or.inr (Or.inl (z_of (by decide) h2)))
    · exact Or.inr (Or.inr (Or.inr (Or.inl (z_of (by decide) h2))))
    · exact Or.inr (Or.inr (Or.inr (Or.inr (Or.inl (z_of (by decide) h2)))))
    · exact Or.inr (Or.inr (Or.inr (Or.inr (Or.inr (z_of (by decide) h2)))))
theorem sw_0_10 (x : Int32) : (x.toInt < 0 ∨ 10 < x.toInt) ∨ x = 0 ∨ x = 1 ∨ x = 2 ∨ x = 3 ∨ x = 4 ∨ x = 5 ∨ x = 6 ∨ x = 7 ∨ x = 8 ∨ x = 9 ∨ x = 10 := by
  by_cases h : x.toInt < 0 ∨ 10 < x.toInt
  · exact Or.inl h
  · right
    have h2 : x.toInt = 0 ∨ x.toInt = 1 ∨ x.toInt = 2 ∨ x.toInt = 3 ∨ x.toInt = 4 ∨ x.toInt = 5 ∨ x.toInt = 6 ∨ x.toInt = 7 ∨ x.toInt = 8 ∨ x.toInt = 9 ∨ x.toInt = 10 := by omega
    rcases h2 with h2 | h2 | h2 | h2 | h2 | h2 | h2 | h2 | h2 | h2 | h2
    · exact Or.inl (z_of (by decide) h2)
    · exact Or.inr (Or.inl (z_of (by decide) h2))
    · exact Or.inr (Or.inr (Or.inl (z_of (by decide) h2)))
    · exact Or.inr (Or.inr (Or.inr (Or.inl (z_of (by decide) h2))))
    · exact Or.inr (Or.inr (Or.inr (Or.inr (Or.inl (z_of (by decide) h2)))))
    · exact Or.inr (Or.inr (Or.inr (Or.inr (Or.inr (Or.inl (z_of (by decide) h2))))))
    · exact Or.inr (Or.inr (Or.inr (Or.inr (Or.inr (Or.inr (Or.inl (z_of (by decide) h2)))))))
    · exact Or.inr (Or.inr (Or.inr (Or.inr (Or.inr (Or.inr (Or.inr (Or.inl (z_of (by decide) h2))))))))
    · exact Or.inr (Or.inr (Or.inr (Or.inr (Or.inr (Or.inr (Or.inr (Or.inr (Or.inl (z_of (by decide) h2)))))))))
    · exact Or.inr (Or.inr (Or.inr (Or.inr (Or.inr (Or.inr (Or.inr (Or.inr (Or.inr (Or.inl (z_of (by decide) h2))))))))))
    · exact Or.inr (Or.inr (Or.inr (Or.inr (Or.inr (Or.inr (Or.inr (Or.inr (Or.inr (Or.inr (z_of (by decide) h2))))))))))
theorem sw_0_37 (x : Int32) : (x.toInt < 0 ∨ 37 < x.toInt) ∨ x = 0 ∨ x = 1 ∨ x = 2 ∨ x = 3 ∨ x = 4 ∨ x = 5 ∨ x = 6 ∨ x = 7 ∨ x = 8 ∨ x = 9 ∨ x = 10 ∨ x = 11 ∨ x = 12 ∨ x = 13 ∨ x = 14 ∨ x = 15 ∨ x = 16 ∨ x = 17 ∨ x = 18 ∨ x = 19 ∨ x = 20 ∨ x = 21 ∨ x = 22 ∨ x = 23 ∨ x = 24 ∨ x = 25 ∨ x = 26 ∨ x = 27 ∨ x = 28 ∨ x = 29 ∨ x = 30 ∨ x = 31 ∨ x = 32 ∨ x = 33 ∨ x = 34 ∨ x = 35 ∨ x = 36 ∨ x = 37 := by
  by_cases h : x.toInt < 0 ∨ 37 < x.toInt
  · exact Or.inl h
  · right
    have h2 : x.toInt = 0 ∨ x.toInt = 1 ∨ x.toInt = 2 ∨ x.toInt = 3 ∨ x.toInt = 4 ∨ x.toInt = 5 ∨ x.toInt = 6 ∨ x.toInt = 7 ∨ x.toInt = 8 ∨ x.toInt = 9 ∨ x.toInt = 10 ∨ x.toInt = 11 ∨ x.toInt = 12 ∨ x.toInt = 13 ∨ x.toInt = 14 ∨ x.toInt = 15 ∨ x.toInt = 16 ∨ x.toInt = 17 ∨ x.toInt = 18 ∨ x.toInt = 19 ∨ x.toInt = 20 ∨ x.toInt = 21 ∨ x.toInt = 22 ∨ x.toInt = 23 ∨ x.toInt = 24 ∨ x.toInt = 25 ∨ x.toInt = 26 ∨ x.toInt = 27 ∨ x.toInt = 28 ∨ x.toInt = 29 ∨ x.toInt = 30 ∨ x.toInt = 31 ∨ x.toInt = 32 ∨ x.toInt = 33 ∨ x.toInt = 34 ∨ x.toInt = 35 ∨ x.toInt = 36 ∨ x.toInt = 37 := by omega
    rcases h2 with h2 | h2 | h2 | h2 | h2 | h2 | h2 | h2 | h2 | h2 | h2 | h2 | h2 | h2 | h2 | h2 | h2 | h2 | h2 | h2 | h2 | h2 | h2 | h2 | h2 | h2 | h2 | h2 | h2 | h2 | h2 | h2 | h2 | h2 | h2 | h2 | h2 | h2
    · exact Or.inl (z_of (by decide) h2)
    · exact Or.inr (Or.inl (z_of (by decide) h2))
    · exact Or.inr (Or.inr (Or.inl (z_of (by decide) h2)))
    · exact Or.inr (Or.inr (Or.inr (Or.inl (z_of (by decide) h2))))
    · exact Or.inr (Or.inr (Or.inr (Or.inr (Or.inl (z_of (by decide) h2)))))
    · exact Or.inr (Or.inr (Or.inr (Or.inr (Or.inr (Or.inl (z_of (by decide) h2))))))
    · exact Or.inr (Or.inr (Or.inr (Or.inr (Or.inr (Or.inr (Or.inl (z_of (by decide) h2)))))))
    · exact Or.inr (Or.inr (Or.inr (Or.inr (Or.inr (Or.inr (Or.inr (Or.inl (z_of (by decide) h2))))))))
    · exact Or.inr (Or.inr (Or.inr (Or.inr (Or.inr (Or.inr (Or.inr (Or.inr (Or.inl (z_of (by decide) h2)))))))))
    · exact Or.inr (Or.inr (Or.inr (Or.inr (Or.inr (Or.inr (Or.inr (Or.inr (Or.inr (Or.inl (z_of (by decide) h2))))))))))
    · exact Or.inr (Or.inr (Or.inr (Or.inr (Or.inr (Or.inr (Or.inr (Or.inr (Or.inr (Or.inr (Or.inl (z_of (by decide) h2)))))))))))
    · exact Or.inr (Or.inr (Or.inr (Or.inr (Or.inr (Or.inr (Or.inr (Or.inr (Or.inr (Or.inr (Or.inr (Or.inl (z_of (by decide) h2))))))))))))
    · exact Or.inr (Or.inr (Or.inr (Or.inr (Or.inr (Or.inr (Or.inr (Or.inr (Or.inr (Or.inr (Or.inr (Or.inr (Or.inl (z_of (by decide) h2)))))))))))))
    · exact Or.inr (Or.inr (Or.inr (Or.inr (Or.inr (Or.inr (Or.inr (Or.inr (Or.inr (Or.inr (Or.inr (Or.inr (Or.inr (Or.inl (z_of (by decide) h2))))))))))))))
    · exact Or.inr (Or.inr (Or.inr (Or.inr (Or.inr (Or.inr (Or.inr (Or.inr (Or.inr (Or.inr (Or.inr (Or.inr (Or.inr (Or.inr (Or.inl (z_of (by decide) h2)))))))))))))))
    · exact Or.inr (Or.inr (Or.inr (Or.inr (Or.inr (Or.inr (Or.inr (Or.inr (Or.inr (Or.inr (Or.inr (Or.inr (Or.inr (Or.inr (Or.inr (Or.inl (z_of (by decide) h2))))))))))))))))
    · exact Or.inr (Or.inr (Or.inr (Or.inr (Or.inr (Or.inr (Or.inr (Or.inr (Or.inr (Or.inr (Or.inr (Or.inr (Or.inr (Or.inr (Or.inr (Or.inr (Or.inl (z_of (by decide) h2)))))))))))))))))
    · exact Or.inr (Or.inr (Or.inr (Or.inr (Or.inr (Or.inr (Or.inr (Or.inr (Or.inr (Or.inr (Or.inr (Or.inr (Or.inr (Or.inr (Or.inr (Or.inr (Or.inr (Or.inl (z_of (by decide) h2))))))))))))))))))
    · exact Or.inr (Or.inr (Or.inr (Or.inr (Or.inr (Or.inr (Or.inr (Or.inr (Or.inr (Or.inr (Or.inr (Or.inr (Or.inr (Or.inr (Or.inr (Or.inr (Or.inr (Or.inr (Or.inl (z_of (by decide) h2)))))))))))))))))))
    · exact Or.inr (Or.inr (Or.inr (Or.inr (Or.inr (Or.inr (Or.inr (Or.inr (Or.inr (Or.inr (Or.inr (Or.inr (Or.inr (Or.inr (Or.inr (Or.inr (Or.inr (Or.inr (Or.inr (Or.inl (z_of (by decide) h2))))))))))))))))))))
    · exact Or.inr (Or.inr (Or.inr (Or.inr (Or.inr (Or.inr (Or.inr (Or.inr (Or.inr (Or.inr (Or.inr (Or.inr (Or.inr (Or.inr (Or.inr (Or.inr (Or.inr (Or.inr (Or.inr (Or.inr (Or.inl (z_of (by decide) h2)))))))))))))))))))))
    · exact Or.inr (Or.inr (Or.inr (Or.inr (Or.inr (Or.inr (Or.inr (Or.inr (Or.inr (Or.inr (Or.inr (Or.inr (Or.inr (Or.inr (Or.inr (Or.inr (Or.inr (Or.inr (Or.inr (Or.inr (Or.inr (Or.inl (z_of (by decide) h2))))))))))))))))))))))
    · exact Or.inr (Or.inr (Or.inr (Or.inr (Or.inr (Or.inr (Or.inr (Or.inr (Or.inr (Or.inr (Or.inr (Or.inr (Or.inr (Or.inr (Or.inr (Or.inr (Or.inr (Or.inr (Or.inr (Or.inr (Or.inr (Or.inr (Or.inl (z_of (by decide) h2)))))))))))))))))))))))
    · exact Or.inr (Or.inr (Or.inr (Or.inr (Or.inr (Or.inr (Or.inr (Or.inr (Or.inr (Or.inr (Or.inr (Or.inr (Or.inr (Or.inr (Or.inr (Or.inr (Or.inr (Or.inr (Or.inr (Or.inr (Or.inr (Or.inr (Or.inr (Or.inl (z_of (by decide) h2))))))))))))))))))))))))
    · exact Or.inr (Or.inr (Or.inr (Or.inr (Or.inr (Or.inr (Or.inr (Or.inr (Or.inr (Or.inr (Or.inr (Or.inr (Or.inr (Or.inr (Or.inr (Or.inr (Or.inr (Or.inr (Or.inr (Or.inr (Or.inr (Or.inr (Or.inr (Or.inr (Or.inl (z_of (by decide) h2)))))))))))))))))))))))))
    · exact Or.inr (Or.inr (Or.inr (Or.inr (Or.inr (Or.inr (Or.inr (Or.inr (Or.inr (Or.inr (Or.inr (Or.inr (Or.inr (Or.inr (Or.inr (Or.inr (Or.inr (Or.inr (Or.inr (Or.inr (Or.inr (Or.inr (Or.inr (Or.inr (Or.inr (Or.inl (z_of (by decide) h2))))))))))))))))))))))))))
    · exact Or.inr (Or.inr (Or.inr (Or.inr (Or.inr (Or.inr (Or.inr (Or.inr (Or.inr (Or.inr (Or.inr (Or.inr (Or.inr (Or.inr (Or.inr (Or.inr (Or.inr (Or.inr (Or.inr (Or.inr (Or.inr (Or.inr (Or.inr (Or.inr (Or.inr (Or.inr (Or.inl (z_of (by decide) h2)))))))))))))))))))))))))))
    · exact Or.inr (Or.inr (Or.inr (Or.inr (Or.inr (Or.inr (Or.inr (Or.inr (Or.inr (Or.inr (Or.inr (Or.inr (Or.inr (Or.inr (Or.inr (Or.inr (Or.inr (Or.inr (Or.inr (Or.inr (Or.inr (Or.inr (Or.inr (Or.inr (Or.inr (Or.inr (Or.inr (Or.inl (z_of (by decide) h2))))))))))))))))))))))))))))
    · exact Or.inr (Or.inr (Or.inr (Or.inr (Or.inr (Or.inr (Or.inr (Or.inr (Or.inr (Or.inr (Or.inr (Or.inr (Or.inr (Or.inr (Or.inr (Or.inr (Or.inr (Or.inr (Or.inr (Or.inr (Or.inr (Or.inr (Or.inr (Or.inr (Or.inr (Or.inr (Or.inr (Or.inr (Or.inl (z_of (by decide) h2)))))))))))))))))))))))))))))
    · exact Or.inr (Or.inr (Or.inr (Or.inr (Or.inr (Or.inr (Or.inr (Or.inr (Or.inr (Or.inr (Or.inr (Or.inr (Or.inr (Or.inr (Or.inr (Or.inr (Or.inr (Or.inr (Or.inr (Or.inr (Or.inr (Or.inr (Or.inr (Or.inr (Or.inr (Or.inr (Or.inr (Or.inr (Or.inr (Or.inl (z_of (by decide) h2))))))))))))))))))))))))))))))
    · exact Or.inr (Or.inr (Or.inr (Or.inr (Or.inr (Or.inr (Or.inr (Or.inr (Or.inr (Or.inr (Or.inr (Or.inr (Or.inr (Or.inr (Or.inr (Or.inr (Or.inr (Or.inr (Or.inr (Or.inr (Or.inr (Or.inr (Or.inr (Or.inr (Or.inr (Or.inr (Or.inr (Or.inr (Or.inr (Or.inr (Or.inl (z_of (by decide) h2)))))))))))))))))))))))))))))))
    · exact Or.inr (Or.inr (Or.inr (Or.inr (Or.inr (Or.inr (Or.inr (Or.inr (Or.inr (Or.inr (Or.inr (Or.inr (Or.inr (Or.inr (Or.inr (Or.inr (Or.inr (Or.inr (Or.inr (Or.inr (Or.inr (Or.inr (Or.inr (Or.inr (Or.inr (Or.inr (Or.inr (Or.inr (Or.inr (Or.inr (Or.inr (Or.inl (z_of (by decide) h2))))))))))))))))))))))))))))))))
    · exact Or.inr (Or.inr (Or.inr (Or.inr (Or.inr (Or.inr (Or.inr (Or.inr (Or.inr (Or.inr (Or.inr (Or.inr (Or.inr (Or.inr (Or.inr (Or.inr (Or.inr (Or.inr (Or.inr (Or.inr (Or.inr (Or.inr (Or.inr (Or.inr (Or.inr (Or.inr (Or.inr (Or.inr (Or.inr (Or.inr (Or.inr (Or.inr (Or.inl (z_of (by decide) h2)))))))))))))))))))))))))))))))))
    · exact Or.inr (Or.inr (Or.inr (Or.inr (Or.inr (Or.inr (Or.inr (Or.inr (Or.inr (Or.inr (Or.inr (Or.inr (Or.inr (Or.inr (Or.inr (Or.inr (Or.inr (Or.inr (Or.inr (Or.inr (Or.inr (Or.inr (Or.inr (Or.inr (Or.inr (Or.inr (Or.inr (Or.inr (Or.inr (Or.inr (Or.inr (Or.inr (Or.inr (Or.inl (z_of (by decide) h2))))))))))))))))))))))))))))))))))
    · exact Or.inr (Or.inr (Or.inr (Or.inr (Or.inr (Or.inr (Or.inr (Or.inr (Or.inr (Or.inr (Or.inr (Or.inr (Or.inr (Or.inr (Or.inr (Or.inr (Or.inr (Or.inr (Or.inr (Or.inr (Or.inr (Or.inr (Or.inr (Or.inr (Or.inr (Or.inr (Or.inr (Or.inr (Or.inr (Or.inr (Or.inr (Or.inr (Or.inr (Or.inr (Or.inl (z_of (by decide) h2)))))))))))))))))))))))))))))))))))
    · exact Or.inr (Or.inr (Or.inr (Or.inr (Or.inr (Or.inr (Or.inr (Or.inr (Or.inr (Or.inr (Or.inr (Or.inr (Or.inr (Or.inr (Or.inr (Or.inr (Or.inr (Or.inr (Or.inr (Or.inr (Or.inr (Or.inr (Or.inr (Or.inr (Or.inr (Or.inr (Or.inr (Or.inr (Or.inr (Or.inr (Or.inr (Or.inr (Or.inr (Or.inr (Or.inr (Or.inl (z_of (by decide) h2))))))))))))))))))))))))))))))))))))
    · exact Or.inr (Or.inr (Or.inr (Or.inr (Or.inr (Or.inr (Or.inr (Or.inr (Or.inr (Or.inr (Or.inr (Or.inr (Or.inr (Or.inr (Or.inr (Or.inr (Or.inr (Or.inr (Or.inr (Or.inr (Or.inr (Or.inr (Or.inr (Or.inr (Or.inr (Or.inr (Or.inr (Or.inr (Or.inr (Or.inr (Or.inr (Or.inr (Or.inr (Or.inr (Or.inr (Or.inr (Or.inl (z_of (by decide) h2)))))))))))))))))))))))))))))))))))))
    · exact Or.inr (Or.inr (Or.inr (Or.inr (Or.inr (Or.inr (Or.inr (Or.inr (Or.inr (Or.inr (Or.inr (Or.inr (Or.inr (Or.inr (Or.inr (Or.inr (Or.inr (Or.inr (Or.inr (Or.inr (Or.inr (Or.inr (Or.inr (Or.inr (Or.inr (Or.inr (Or.inr (Or.inr (Or.inr (Or.inr (Or.inr (Or.inr (Or.inr (Or.inr (Or.inr (Or.inr (Or.inr (z_of (by decide) h2)))))))))))))))))))))))))))))))))))))
abbrev o0 (h : Nat) (g : Nat → Nat → Nat) : List Value := [.ref (g 0 0), .ref (g 0 1), .ref (g 0 2), .ref (g 0 3), .ref (g 0 4), .ref (g 0 5), .ref (g 0 6), .int 0]
abbrev o1 (h : Nat) (g : Nat → Nat → Nat) : List Value := [.ref (g 1 0), .ref (g 1 1), .ref (g 1 2), .ref (g 1 3), .ref (g 1 4), .ref (g 1 5), .ref (g 1 6), .int 0, .int 0]
abbrev o4 (h : Nat) (g : Nat → Nat → Nat) : List Value := [.ref (g 4 0), .ref (g 4 1), .int 0]
abbrev o5 (h : Nat) (g : Nat → Nat → Nat) : List Value := [.ref (g 5 0), .ref (g 5 1), .ref (g 5 2), .ref (g 5 3), .int 0, .int 0, .int 0]
abbrev o6 (h : Nat) (g : Nat → Nat → Nat) : List Value := [.ref (g 6 0), .ref (g 6 1), .ref (g 6 2), .ref (g 6 3), .ref (g 6 4), .ref (g 6 5), .ref (g 6 6), .int 0]
abbrev o8 (h : Nat) (g : Nat → Nat → Nat) : List Value := [.ref (g 11 3), .ref (g 8 1), .int 0, .int (-1), .int 0, .int 0]
abbrev o9 (h : Nat) (g : Nat → Nat → Nat) : List Value := [.ref (g 9 0), .ref (g 9 1), .ref (g 9 2), .int 0]
abbrev o10 (h : Nat) (g : Nat → Nat → Nat) : List Value := [.ref (g 10 0), .int 0, .int 0]
abbrev o11 (h : Nat) (g : Nat → Nat → Nat) : List Value := [.ref (g 11 0), .ref (g 11 1), .ref (g 11 2), .ref (g 11 3), .ref (g 11 4), .ref (g 11 5), .ref (g 11 6), .ref (g 11 7), .ref (g 11 8), .ref (g 11 9), .int 0]
abbrev o12 (h : Nat) (g : Nat → Nat → Nat) : List Value := [.int 0, .int 0, .ref (g 12 2), .int 0, .ref (g 12 4), .ref (g 12 5), .ref (g 12 6), .ref (g 12 7), .ref (g 12 8), .ref (g 12 9), .ref (g 12 10), .ref (g 12 11), .ref (g 12 12), .int 0, .ref (g 12 14), .ref (g 12 15), .ref (g 12 16), .long 0, .long 0, .int 0, .int (-1), .int (-1), .int (-1), .int 0, .ref (g 12 24), .ref (g 12 25), .ref (g 12 26), .ref (g 12 27), .ref (g 12 28), .ref (g 12 29), .ref (g 12 30), .ref (g 12 31), .ref (g 12 32), .int 0, .int 0, .int 0, .int (-1), .int 0, .int 0, .ref (g 12 39), .ref (g 12 40), .int 0, .ref (g 12 42), .ref (g 12 43), .long 0, .long 0, .long 0, .long 0, .int 0, .ref (g 12 49), .ref (g 12 50), .ref (g 12 51), .ref (g 12 52), .ref (g 12 53), .ref (g 12 54), .ref (g 12 55), .ref (g 12 56), .int 0, .ref (g 12 58), .ref (g 12 59), .int 0, .int 0, .int 0, .ref (g 12 63), .ref (g 12 64), .int 0, .int 0, .int 0, .ref (g 12 68), .ref (g 12 69), .ref (g 12 70), .ref (g 12 71), .ref (g 12 72), .ref (g 12 73), .ref (g 12 74)]

/-! ===== what a first call on a fresh object answers ===== -/
def F_go (n : Int32) : Int32 := if 0 ≤ n.toInt ∧ n.toInt ≤ 999 then n else -100002
def F_bale (n : Int32) : Int32 := if 1 ≤ n.toInt ∧ n.toInt ≤ 99999 then 0 else -100002
def F_test (a b c : Int32) : Int32 := if (0 ≤ a.toInt ∧ a.toInt ≤ 3) ∧ (1 ≤ b.toInt ∧ b.toInt ≤ 9999) ∧ (1 ≤ c.toInt ∧ c.toInt ≤ 9999) then 1 else -100002
def F_error (a b c : Int32) : Int32 := if (0 ≤ a.toInt ∧ a.toInt ≤ 3) ∧ (0 ≤ b.toInt ∧ b.toInt ≤ 3000) ∧ (0 ≤ c.toInt ∧ c.toInt ≤ 1) then 0 else -100002
def F_count (n : Int32) : Int32 := if 0 ≤ n.toInt ∧ n.toInt ≤ 10 then 0 else -100002
def F_feed (n : Int32) : Int32 := if 1 ≤ n.toInt ∧ n.toInt ≤ 8 then n else -100002
def F_rule (n : Int32) : Int32 := if 0 ≤ n.toInt ∧ n.toInt ≤ 3000 then 0 else -100002
def F_atF (n : Int32) : Int32 := if n.toInt = 0 then 110 else if n.toInt = 1 then 3 else if n.toInt = 2 then 5 else if n.toInt = 3 then 2 else if n.toInt = 4 then 10 else 0
def F_AFT (j : Nat) : Int32 := ([110, 3, 5, 2, 10, 0] : List Int32).getD j 0
def F_force (n d : Int32) : Int32 := if (0 ≤ n.toInt ∧ n.toInt ≤ 5) ∧ (0 ≤ d.toInt ∧ d.toInt ≤ 3000) then F_atF n else -100002
def F_load (n : Int32) : Int32 := if 1 ≤ n.toInt ∧ n.toInt ≤ 999 then 1 else -100002
def F_order (n i : Int32) : Int32 := if 1 ≤ n.toInt ∧ n.toInt ≤ 3 then (if i.toInt = -1 then 0 else -1) else -100002
def F_shared (a b c d : Int32) : Int32 := if (1 ≤ a.toInt ∧ a.toInt ≤ b.toInt ∧ b.toInt ≤ 9999) ∧ (1 ≤ c.toInt ∧ c.toInt ≤ d.toInt ∧ d.toInt ≤ 9999) then 1 else -100002
def F_houses (n : Int32) : Int32 := if 0 ≤ n.toInt ∧ n.toInt ≤ 2 then -100003 else -100002
def F_stood (d n : Int32) : Int64 := if (0 ≤ d.toInt ∧ d.toInt ≤ 0) ∧ (0 ≤ n.toInt ∧ n.toInt ≤ 1) then 0 else -100002
theorem F_AFT_eq {n : Int32} (h : 0 ≤ n.toInt ∧ n.toInt ≤ 5) : F_AFT n.toNatClampNeg = F_atF n := by
  rcases sw_0_5 n with h1 | rfl | rfl | rfl | rfl | rfl | rfl
  · exfalso; omega
  all_goals decide
def zAF (U : State) : Prop := ∃ t : Nat, va_Z "SilkHouse$Book" "AT_FIRST" "[I" (.ref t) (fun _ => False) U U.heap ∧ va_T .int t 6 (fun j => .int (F_AFT j)) (fun _ => False) U U.heap
theorem zAF_moved {u U : State} (hvm : u.vm.Alike U.vm) (hh : U.heap = u.heap) (h : zAF u) : zAF U := by
  obtain ⟨t, h1, h2⟩ := h
  exact ⟨t, by rw [hh]; exact va_Z.moved hvm h1, by rw [hh]; exact va_T.moved hvm h2⟩
theorem vRZ {D : va_G} {cl : List vw_C} {ws : va_W} {tys : List (ClassId × FieldType)} {s : State} {H : Heap} {C : String} {b : Addr} {As : List Value} (hP : va_P D cl ws H) (hK : va_K D cl tys s) (hZ : ∃ t : Nat, va_Z "SilkHouse$Book" "AT_FIRST" "[I" (.ref t) (fun _ => False) s H ∧ va_T .int t 6 (fun j => .int (F_AFT j)) (fun _ => False) s H) (hr : ∃ cell : Cell, H[b]? = some cell ∧ cell.vm.isStatics = false ∧ s.vm.findClass C = some cell.cls) : PreV s H C b (va_Pc (.ref b :: As) (fun U => va_P D cl ws U.heap ∧ va_K D cl tys U ∧ zAF U)) As := by
  refine ⟨fun a U g mk q => ⟨q.1, q.2.1, va_K.moved (u := U) (U := U.calling g mk a) (Vm.Alike.refl U.vm) q.2.2.1, zAF_moved (u := U) (Vm.Alike.refl U.vm) rfl q.2.2.2⟩, hr, fun U hU hW => ⟨rfl, by rw [hU]; exact hP, va_K.moved hW.alike hK, ?_⟩⟩
  obtain ⟨t, h1, h2⟩ := hZ
  exact ⟨t, by rw [hU]; exact va_Z.moved hW.alike h1, by rw [hU]; exact va_T.moved hW.alike h2⟩
theorem nfw : nativeFrameWords "java/lang/System" "arraycopy" 5 = 7 := by decide +kernel
