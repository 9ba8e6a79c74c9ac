theorem in_list {ws : List Cond} (ps : List Nat) (h : ps.map (fun i => lw_tbl[i]?) = ws.map some) (hg : ws.all goodWord = true) : ∀ w ∈ ws, w ∈ tb := by
  intro w hw
  have h1 : some w ∈ ps.map (fun i => lw_tbl[i]?) := by rw [h]; exact List.mem_map.mpr ⟨w, hw, rfl⟩
  obtain ⟨i, -, hi⟩ := List.mem_map.mp h1
  exact tb_in i hi (List.all_eq_true.mp hg w hw)
set_option maxRecDepth 100000 in
theorem inX0 : ∀ w ∈ u_ws RX0 TX0 8, w ∈ tb := in_list [166, 168, 170, 172, 174, 176, 178, 180] rfl rfl
set_option maxRecDepth 100000 in
theorem inX1 : ∀ w ∈ u_ws RX1 TX1 9, w ∈ tb := in_list [201, 203, 205, 207, 209, 211, 213, 215, 217] rfl rfl
set_option maxRecDepth 100000 in
theorem inX2 : ∀ w ∈ u_ws RX2 TX2 8, w ∈ tb := in_list [312, 314, 316, 318, 320, 322, 324, 326] rfl rfl
set_option maxRecDepth 100000 in
theorem inX3 : ∀ w ∈ u_ws RX3 TX3 5, w ∈ tb := in_list [285, 287, 289, 291, 293] rfl rfl
set_option maxRecDepth 100000 in
theorem inX4 : ∀ w ∈ u_ws RX4 TX4 3, w ∈ tb := in_list [370, 372, 374] rfl rfl
set_option maxRecDepth 100000 in
theorem inX5 : ∀ w ∈ u_ws RX5 TX5 7, w ∈ tb := in_list [345, 347, 349, 351, 353, 355, 357] rfl rfl
set_option maxRecDepth 100000 in
theorem inX6 : ∀ w ∈ u_ws RX6 TX6 8, w ∈ tb := in_list [398, 400, 402, 404, 406, 408, 410, 412] rfl rfl
set_option maxRecDepth 100000 in
theorem inX7 : ∀ w ∈ u_ws RX7 TX7 3, w ∈ tb := in_list [271, 273, 275] rfl rfl
set_option maxRecDepth 100000 in
theorem inX8 : ∀ w ∈ u_ws RX8 TX8 6, w ∈ tb := in_list [236, 238, 240, 242, 244, 246] rfl rfl
set_option maxRecDepth 100000 in
theorem inX9 : ∀ w ∈ u_ws RX9 TX9 4, w ∈ tb := in_list [137, 139, 141, 143] rfl rfl
set_option maxRecDepth 100000 in
theorem inX10 : ∀ w ∈ u_ws RX10 TX10 3, w ∈ tb := in_list [118, 120, 122] rfl rfl
set_option maxRecDepth 100000 in
theorem inX11 : ∀ w ∈ u_ws RX11 TX11 11, w ∈ tb := in_list [426, 428, 430, 432, 434, 436, 438, 440, 442, 444, 446] rfl rfl
set_option maxRecDepth 100000 in
theorem inX12 : ∀ w ∈ u_ws RX12 TX12 75, w ∈ tb := in_list [1214, 1216, 1218, 1220, 1222, 1224, 1226, 1228, 1230, 1232, 1234, 1236, 1238, 1240, 1242, 1244, 1246, 1248, 1250, 1252, 1254, 1256, 1258, 1260, 1262, 1264, 1266, 1268, 1270, 1272, 1274, 1276, 1278, 1280, 1282, 1284, 1286, 1288, 1290, 1292, 1294, 1296, 1298, 1300, 1302, 1304, 1306, 1308, 1310, 1312, 1314, 1316, 1318, 1320, 1322, 1324, 1326, 1328, 1330, 1332, 1334, 1336, 1338, 1340, 1342, 1344, 1346, 1348, 1350, 1352, 1354, 1356, 1358, 1360, 1362] rfl rfl
theorem all_at {l : List (Nat × Instr × Nat)} {c : ByteArray} (h : l.all (fun q => decide (decode c q.1 = .ok (q.2.1, q.2.2))) = true) (i : Nat) {a n : Nat} {b : Instr} (hq : l[i]? = some (a, b, n)) : decode c a = .ok (b, n) := of_decide_eq_true (List.all_eq_true.mp h (a, b, n) (List.mem_of_getElem? hq))

theorem z_mul {a b c : Int32} {x y : Int} (h : c = a * b) (ha : a.toInt = x) (hb : b.toInt = y) (h1 : -2147483648 ≤ x * y) (h2 : x * y < 2147483648) : c.toInt = x * y := by
  rw [h, Int32.toInt_mul, ha, hb, Int.bmod_def]; omega
theorem z_divp {a b c : Int32} {x y : Int} (h : c = a / b) (ha : a.toInt = x) (hb : b.toInt = y) (h0 : 0 ≤ x) (h1 : 0 < y) : c.toInt = x / y := by
  have hx := Int32.toInt_lt a
  have q0 : 0 ≤ x / y := Int.ediv_nonneg h0 (Int.le_of_lt h1)
  have q1 : x / y ≤ x := Int.ediv_le_self y h0
  rw [h, Int32.toInt_div, ha, hb, Int.tdiv_eq_ediv_of_nonneg h0, Int.bmod_def]; omega
theorem z_remp {a b c : Int32} {x y : Int} (h : c = a - a / b * b) (ha : a.toInt = x) (hb : b.toInt = y) (h0 : 0 ≤ x) (h1 : 0 < y) : c.toInt = x % y := by
  have hx := Int32.toInt_lt a
  have q := z_divp (c := a / b) rfl ha hb h0 h1
  have e1 : x % y + y * (x / y) = x := Int.emod_add_mul_ediv x y
  have e2 : 0 ≤ x % y := Int.emod_nonneg x (by omega)
  have e3 : x / y * y = y * (x / y) := Int.mul_comm _ _
  have e4 : 0 ≤ y * (x / y) := Int.mul_nonneg (Int.le_of_lt h1) (Int.ediv_nonneg h0 (Int.le_of_lt h1))
  have mm := z_mul (c := a / b * b) rfl q hb (by omega) (by omega)
  have ss := z_sub h ha mm (by omega) (by omega)
  omega
theorem mm_or {x y c : Int32} {P : Prop} [Decidable P] (h : c = if P then y else x) : c.toInt = x.toInt ∨ c.toInt = y.toInt := by
  rw [h]; split
  · exact Or.inr rfl
  · exact Or.inl rfl
theorem mm_min {x y c : Int32} {a b : Int} (h : c = if y < x then y else x) (hx : x.toInt = a) (hy : y.toInt = b) : c.toInt ≤ a ∧ c.toInt ≤ b := by
  rw [h]; split
  · next q => have := Int32.lt_iff_toInt_lt.mp q; omega
  · next q => have q2 : ¬ y.toInt < x.toInt := fun z => q (Int32.lt_iff_toInt_lt.mpr z); omega
theorem mm_max {x y c : Int32} {a b : Int} (h : c = if x < y then y else x) (hx : x.toInt = a) (hy : y.toInt = b) : a ≤ c.toInt ∧ b ≤ c.toInt := by
  rw [h]; split
  · next q => have := Int32.lt_iff_toInt_lt.mp q; omega
  · next q => have q2 : ¬ x.toInt < y.toInt := fun z => q (Int32.lt_iff_toInt_lt.mpr z); omega
theorem zc_eq {x y : Int64} {k : Int32} {u v : Int} (h : k = lg_cmp x y) (hx : x.toInt = u) (hy : y.toInt = v) (c : k = 0) : u = v := by
  have h1 := zc_nlt h hx hy (by rw [c]; decide)
  have h2 := zc_ngt h hx hy (by rw [c]; decide)
  omega
theorem zc_ne {x y : Int64} {k : Int32} {u v : Int} (h : k = lg_cmp x y) (hx : x.toInt = u) (hy : y.toInt = v) (c : ¬ k = 0) : ¬ u = v := fun q => c (by rw [h, show x = y from Int64.toInt_inj.mp (by rw [hx, hy, q])]; simp [lg_cmp])
theorem shl1 {n c : Int32} (h : c = 1 <<< (n &&& 31)) (hn : 0 ≤ n.toInt ∧ n.toInt ≤ 8) : 1 ≤ c.toInt ∧ c.toInt ≤ 256 := by
  rcases (by omega : n.toInt = 0 ∨ n.toInt = 1 ∨ n.toInt = 2 ∨ n.toInt = 3 ∨ n.toInt = 4 ∨ n.toInt = 5 ∨ n.toInt = 6 ∨ n.toInt = 7 ∨ n.toInt = 8) with q | q | q | q | q | q | q | q | q
  · rw [h, show n = 0 from z_of (by decide) q]; decide
  · rw [h, show n = 1 from z_of (by decide) q]; decide
  · rw [h, show n = 2 from z_of (by decide) q]; decide
  · rw [h, show n = 3 from z_of (by decide) q]; decide
  · rw [h, show n = 4 from z_of (by decide) q]; decide
  · rw [h, show n = 5 from z_of (by decide) q]; decide
  · rw [h, show n = 6 from z_of (by decide) q]; decide
  · rw [h, show n = 7 from z_of (by decide) q]; decide
  · rw [h, show n = 8 from z_of (by decide) q]; decide
theorem nar_boolean {x : Int32} (h : 0 ≤ x.toInt ∧ x.toInt ≤ 1) : inb (0, 1) (vp_nar .boolean x) := by
  rcases (by omega : x.toInt = 0 ∨ x.toInt = 1) with h | h
  · rw [show x = 0 from z_of (by decide) h]; exact ⟨by decide, by decide⟩
  · rw [show x = 1 from z_of (by decide) h]; exact ⟨by decide, by decide⟩
