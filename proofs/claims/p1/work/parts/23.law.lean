set_option maxHeartbeats 4000000 in
set_option maxRecDepth 100000 in
/-- shared -/
theorem law_30 {p : Program} {e : Env} {s : State} {m : MethodId} {below : List Frame} {meth : Method} {c : Code} (l : Launch) {b L : Nat} {xs : Nat → Int32} (hL : L = 8) (C0 : lw_At p s m meth c b L xs) {dC : Nat → ClassId} {dI : Nat → Nat → Nat} {A : Nat → Prop} (hA : ∀ q : Nat, s.heap.size ≤ q → A q) (hbA : ¬ A b) (hAs : ∀ q : Nat, A q → s.heap.size ≤ q) {x y : Nat} {gx gy : Nat → Nat → Nat} {cax cay : Nat → Nat → ClassId} {H : Heap} {locs : List Loc} (hK : va_K (dC, dI) classes [((cax 4 0), .int), ((cax 4 1), .int), ((cay 12 63), .int), ((cay 12 64), .int)] s) (hP : va_P (dC, dI) classes [(x, .inr (11, (o11 x gx))), ((gx 11 8), .inr (4, (o4 x gx))), ((gx 4 0), .inl ((cax 4 0), 8, .inl (fun _ => 0))), ((gx 4 1), .inl ((cax 4 1), 8, .inl (fun _ => 0))), (y, .inr (12, (o12 y gy))), ((gy 12 63), .inl ((cay 12 63), 8, .inl (fun _ => 0))), ((gy 12 64), .inl ((cay 12 64), 8, .inl (fun _ => 0)))] H) (hD : va_D A [(x, .inr (11, (o11 x gx))), ((gx 11 8), .inr (4, (o4 x gx))), ((gx 4 0), .inl ((cax 4 0), 8, .inl (fun _ => 0))), ((gx 4 1), .inl ((cax 4 1), 8, .inl (fun _ => 0))), (y, .inr (12, (o12 y gy))), ((gy 12 63), .inl ((cay 12 63), 8, .inl (fun _ => 0))), ((gy 12 64), .inl ((cay 12 64), 8, .inl (fun _ => 0)))]) (hS : va_S A s.heap H locs) {ls : Array Slot} (hl : lv_has ls 4 [(3, .int 0), (2, .ref y), (1, .ref x), (0, .ref b)]) : W p l e room_1 s m #[Value.ref b] below meth c H locs 98 5431 (lw_Z below #[Value.ref b] s) (F0 m 1246 ls []) := by
  obtain ⟨hx, hb, hr, hml, hown, hts, hX, hbl, hlocks, hgv⟩ := id C0
  have ht := tb_of hts
  refine lv_aload_n hx hb dL_law_1246 rfl (lv_at hl 2 rfl) ?_
  refine lv_aload_n hx hb dL_law_1247 rfl (lv_at hl 3 rfl) ?_
  refine lv_iload_n hx hb dL_law_1248 rfl (lv_at hl 0 rfl) ?_
  refine lv_iconst (v := 1) hx hb dL_law_1249 (by decide) ?_
  refine lv_iadd hx hb dL_law_1250 ?_
  refine lv_topi (fun v1 ev1 => ?_)
  obtain rfl : 1 = v1 := (ev1.trans (by decide)).symm
  refine va_sld hx hb hX hbl hbA hS (vp_in_iff.mpr (by rw [hL]; decide) : vp_in 1 L) dL_law_1251 ?_
  refine lv_topi (fun v2 ev2 => ?_)
  obtain rfl : xs 1 = v2 := ev2.symm
  refine lv_aload_n hx hb dL_law_1252 rfl (lv_at hl 3 rfl) ?_
  refine lv_iload_n hx hb dL_law_1253 rfl (lv_at hl 0 rfl) ?_
  refine lv_iconst (v := 2) hx hb dL_law_1254 (by decide) ?_
  refine lv_iadd hx hb dL_law_1255 ?_
  refine lv_topi (fun v3 ev3 => ?_)
  obtain rfl : 2 = v3 := (ev3.trans (by decide)).symm
  refine va_sld hx hb hX hbl hbA hS (vp_in_iff.mpr (by rw [hL]; decide) : vp_in 2 L) dL_law_1256 ?_
  refine lv_topi (fun v4 ev4 => ?_)
  obtain rfl : xs 2 = v4 := ev4.symm
  refine lv_aload_n hx hb dL_law_1257 rfl (lv_at hl 3 rfl) ?_
  refine lv_iload_n hx hb dL_law_1258 rfl (lv_at hl 0 rfl) ?_
  refine lv_iconst (v := 3) hx hb dL_law_1259 (by decide) ?_
  refine lv_iadd hx hb dL_law_1260 ?_
  refine lv_topi (fun v5 ev5 => ?_)
  obtain rfl : 3 = v5 := (ev5.trans (by decide)).symm
  refine va_sld hx hb hX hbl hbA hS (vp_in_iff.mpr (by rw [hL]; decide) : vp_in 3 L) dL_law_1261 ?_
  refine lv_topi (fun v6 ev6 => ?_)
  obtain rfl : xs 3 = v6 := ev6.symm
  refine lv_aload_n hx hb dL_law_1262 rfl (lv_at hl 3 rfl) ?_
  refine lv_iload_n hx hb dL_law_1263 rfl (lv_at hl 0 rfl) ?_
  refine lv_iconst (v := 4) hx hb dL_law_1264 (by decide) ?_
  refine lv_iadd hx hb dL_law_1265 ?_
  refine lv_topi (fun v7 ev7 => ?_)
  obtain rfl : 4 = v7 := (ev7.trans (by decide)).symm
  refine va_sld hx hb hX hbl hbA hS (vp_in_iff.mpr (by rw [hL]; decide) : vp_in 4 L) dL_law_1266 ?_
  refine lv_topi (fun v8 ev8 => ?_)
  obtain rfl : xs 4 = v8 := ev8.symm
  have hPc := hP.sub (ws' := [(x, .inr (11, (o11 x gx))), ((gx 11 8), .inr (4, (o4 x gx))), ((gx 4 0), .inl ((cax 4 0), 8, .inl (fun _ => 0))), ((gx 4 1), .inl ((cax 4 1), 8, .inl (fun _ => 0)))]) [0, 1, 2, 3] rfl
  have hKc := hK.sub (tys' := [((cax 4 0), .int), ((cax 4 1), .int)]) [0, 1] rfl
  have hDc := hD.sub (ws' := [(x, .inr (11, (o11 x gx))), ((gx 11 8), .inr (4, (o4 x gx))), ((gx 4 0), .inl ((cax 4 0), 8, .inl (fun _ => 0))), ((gx 4 1), .inl ((cax 4 1), 8, .inl (fun _ => 0)))]) [0, 1, 2, 3] (by decide) rfl
  have hFc := va_free (wc := [(x, .inr (11, (o11 x gx))), ((gx 11 8), .inr (4, (o4 x gx))), ((gx 4 0), .inl ((cax 4 0), 8, .inl (fun _ => 0))), ((gx 4 1), .inl ((cax 4 1), 8, .inl (fun _ => 0)))]) hD hS hA [0, 1, 2, 3] rfl
  refine va_calli (va_runV (As := [.int (xs 1), .int (xs 2), .int (xs 3), .int (xs 4)]) (rest := []) ⟨hx, hb, hml, hown, ht⟩ (c_X11_shared l dC dI H.size x gx cax (xs 1) (xs 2) (xs 3) (xs 4)) (kV 4 ht m_1034 m_1035 m_1036 m_77 m_1037 rfl rfl hd_X11_shared_v ⟨Nat.le_of_ble_eq_true rfl, Nat.le_of_ble_eq_true rfl⟩) (vW hPc hKc hDc (va_recv hKc hPc (ci := 11) (q0 := 0) rfl rfl)) rfl rfl hl.1 rfl (lv_room (Nat.le_of_ble_eq_true rfl)) dL_law_1267 ⟨Nat.le_of_ble_eq_true rfl, Nat.le_of_ble_eq_true rfl⟩) hS (fun q _ h => hFc q h) hFc (fun r9 u t H1 locs ht9 hvm hr9 hB hz1 hk1 hS => ?_)
  have hP1 : va_P (dC, dI) classes [] H1 := noP
  have hD1 : va_D (va_A [(x, .inr (11, (o11 x gx))), ((gx 11 8), .inr (4, (o4 x gx))), ((gx 4 0), .inl ((cax 4 0), 8, .inl (fun _ => 0))), ((gx 4 1), .inl ((cax 4 1), 8, .inl (fun _ => 0)))] H.size) [] := noD
  obtain ⟨hP, hD⟩ := va_join (wr := [(y, .inr (12, (o12 y gy))), ((gy 12 63), .inl ((cay 12 63), 8, .inl (fun _ => 0))), ((gy 12 64), .inl ((cay 12 64), 8, .inl (fun _ => 0)))]) (w1 := []) hP hD [0, 1, 2, 3] [4, 5, 6] rfl rfl (by decide) (by decide) hk1 hFc hP1 hD1
  generalize H1 = H at hP hS ⊢
  have hP : va_P (dC, dI) classes [(y, .inr (12, (o12 y gy))), ((gy 12 63), .inl ((cay 12 63), 8, .inl (fun _ => 0))), ((gy 12 64), .inl ((cay 12 64), 8, .inl (fun _ => 0)))] H := hP
  have hD : va_D A [(y, .inr (12, (o12 y gy))), ((gy 12 63), .inl ((cay 12 63), 8, .inl (fun _ => 0))), ((gy 12 64), .inl ((cay 12 64), 8, .inl (fun _ => 0)))] := hD
  obtain rfl : (F_shared (xs 1) (xs 2) (xs 3) (xs 4)) = r9 := hr9.symm
  refine lv_aload_n hx hb dL_law_1270 rfl (lv_at hl 1 rfl) ?_
  refine lv_aload_n hx hb dL_law_1271 rfl (lv_at hl 3 rfl) ?_
  refine lv_iload_n hx hb dL_law_1272 rfl (lv_at hl 0 rfl) ?_
  refine lv_iconst (v := 1) hx hb dL_law_1273 (by decide) ?_
  refine lv_iadd hx hb dL_law_1274 ?_
  refine lv_topi (fun v10 ev10 => ?_)
  obtain rfl : 1 = v10 := (ev10.trans (by decide)).symm
  refine va_sld hx hb hX hbl hbA hS (vp_in_iff.mpr (by rw [hL]; decide) : vp_in 1 L) dL_law_1275 ?_
  refine lv_topi (fun v11 ev11 => ?_)
  obtain rfl : xs 1 = v11 := ev11.symm
  refine lv_aload_n hx hb dL_law_1276 rfl (lv_at hl 3 rfl) ?_
  refine lv_iload_n hx hb dL_law_1277 rfl (lv_at hl 0 rfl) ?_
  refine lv_iconst (v := 2) hx hb dL_law_1278 (by decide) ?_
  refine lv_iadd hx hb dL_law_1279 ?_
  refine lv_topi (fun v12 ev12 => ?_)
  obtain rfl : 2 = v12 := (ev12.trans (by decide)).symm
  refine va_sld hx hb hX hbl hbA hS (vp_in_iff.mpr (by rw [hL]; decide) : vp_in 2 L) dL_law_1280 ?_
  refine lv_topi (fun v13 ev13 => ?_)
  obtain rfl : xs 2 = v13 := ev13.symm
  refine lv_aload_n hx hb dL_law_1281 rfl (lv_at hl 3 rfl) ?_
  refine lv_iload_n hx hb dL_law_1282 rfl (lv_at hl 0 rfl) ?_
  refine lv_iconst (v := 3) hx hb dL_law_1283 (by decide) ?_
  refine lv_iadd hx hb dL_law_1284 ?_
  refine lv_topi (fun v14 ev14 => ?_)
  obtain rfl : 3 = v14 := (ev14.trans (by decide)).symm
  refine va_sld hx hb hX hbl hbA hS (vp_in_iff.mpr (by rw [hL]; decide) : vp_in 3 L) dL_law_1285 ?_
  refine lv_topi (fun v15 ev15 => ?_)
  obtain rfl : xs 3 = v15 := ev15.symm
  refine lv_aload_n hx hb dL_law_1286 rfl (lv_at hl 3 rfl) ?_
  refine lv_iload_n hx hb dL_law_1287 rfl (lv_at hl 0 rfl) ?_
  refine lv_iconst (v := 4) hx hb dL_law_1288 (by decide) ?_
  refine lv_iadd hx hb dL_law_1289 ?_
  refine lv_topi (fun v16 ev16 => ?_)
  obtain rfl : 4 = v16 := (ev16.trans (by decide)).symm
  refine va_sld hx hb hX hbl hbA hS (vp_in_iff.mpr (by rw [hL]; decide) : vp_in 4 L) dL_law_1290 ?_
  refine lv_topi (fun v17 ev17 => ?_)
  obtain rfl : xs 4 = v17 := ev17.symm
  have hPc := hP.sub (ws' := [(y, .inr (12, (o12 y gy))), ((gy 12 63), .inl ((cay 12 63), 8, .inl (fun _ => 0))), ((gy 12 64), .inl ((cay 12 64), 8, .inl (fun _ => 0)))]) [0, 1, 2] rfl
  have hKc := hK.sub (tys' := [((cay 12 63), .int), ((cay 12 64), .int)]) [2, 3] rfl
  have hDc := hD.sub (ws' := [(y, .inr (12, (o12 y gy))), ((gy 12 63), .inl ((cay 12 63), 8, .inl (fun _ => 0))), ((gy 12 64), .inl ((cay 12 64), 8, .inl (fun _ => 0)))]) [0, 1, 2] (by decide) rfl
  have hFc := va_free (wc := [(y, .inr (12, (o12 y gy))), ((gy 12 63), .inl ((cay 12 63), 8, .inl (fun _ => 0))), ((gy 12 64), .inl ((cay 12 64), 8, .inl (fun _ => 0)))]) hD hS hA [0, 1, 2] rfl
  refine va_calli (va_runV (As := [.int (xs 1), .int (xs 2), .int (xs 3), .int (xs 4)]) (rest := [.int (F_shared (xs 1) (xs 2) (xs 3) (xs 4))]) ⟨hx, hb, hml, hown, ht⟩ (c_X12_shared l dC dI H.size y gy cay (xs 1) (xs 2) (xs 3) (xs 4)) (kV 4 ht m_1660 m_1661 m_1662 m_89 m_1663 rfl rfl hd_X12_shared_v ⟨Nat.le_of_ble_eq_true rfl, Nat.le_of_ble_eq_true rfl⟩) (vW hPc hKc hDc (va_recv hKc hPc (ci := 12) (q0 := 0) rfl rfl)) rfl rfl hl.1 rfl (lv_room (Nat.le_of_ble_eq_true rfl)) dL_law_1291 ⟨Nat.le_of_ble_eq_true rfl, Nat.le_of_ble_eq_true rfl⟩) hS (fun q _ h => hFc q h) hFc (fun r18 u t H1 locs ht9 hvm hr18 hB hz1 hk1 hS => ?_)
  have hP1 : va_P (dC, dI) classes [] H1 := noP
  have hD1 : va_D (va_A [(y, .inr (12, (o12 y gy))), ((gy 12 63), .inl ((cay 12 63), 8, .inl (fun _ => 0))), ((gy 12 64), .inl ((cay 12 64), 8, .inl (fun _ => 0)))] H.size) [] := noD
  obtain ⟨hP, hD⟩ := va_join (wr := []) (w1 := []) hP hD [0, 1, 2] [] rfl rfl (by decide) (by decide) hk1 hFc hP1 hD1
  generalize H1 = H at hP hS ⊢
  have hP : va_P (dC, dI) classes [] H := hP
  have hD : va_D A [] := hD
  obtain rfl : (F_shared (xs 1) (xs 2) (xs 3) (xs 4)) = r18 := hr18.symm
  refine lv_icmp_eq (tgt := 1511) hx hb dL_law_1294 (by decide) (fun c19 => ?_) (fun c19 => ?_)
  · skip
    exact law_tail l hL C0 hA hbA hAs hS hl
  · exact absurd rfl c19
set_option maxHeartbeats 4000000 in
set_option maxRecDepth 100000 in
/-- houses -/
theorem law_31 {p : Program} {e : Env} {s : State} {m : MethodId} {below : List Frame} {meth : Method} {c : Code} (l : Launch) {b L : Nat} {xs : Nat → Int32} (hL : L = 8) (C0 : lw_At p s m meth c b L xs) {dC : Nat → ClassId} {dI : Nat → Nat → Nat} {A : Nat → Prop} (hA : ∀ q : Nat, s.heap.size ≤ q → A q) (hbA : ¬ A b) (hAs : ∀ q : Nat, A q → s.heap.size ≤ q) {x y : Nat} {gx gy : Nat → Nat → Nat} {cax cay : Nat → Nat → ClassId} {H : Heap} {locs : List Loc} (hK : va_K (dC, dI) classes [] s) (hP : va_P (dC, dI) classes [(x, .inr (11, (o11 x gx))), ((gx 11 8), .inr (4, (o4 x gx))), (y, .inr (12, (o12 y gy)))] H) (hD : va_D A [(x, .inr (11, (o11 x gx))), ((gx 11 8), .inr (4, (o4 x gx))), (y, .inr (12, (o12 y gy)))]) (hS : va_S A s.heap H locs) {ls : Array Slot} (hl : lv_has ls 4 [(3, .int 0), (2, .ref y), (1, .ref x), (0, .ref b)]) : W p l e room_1 s m #[Value.ref b] below meth c H locs 98 5431 (lw_Z below #[Value.ref b] s) (F0 m 1299 ls []) := by
  obtain ⟨hx, hb, hr, hml, hown, hts, hX, hbl, hlocks, hgv⟩ := id C0
  have ht := tb_of hts
  refine lv_aload_n hx hb dL_law_1299 rfl (lv_at hl 2 rfl) ?_
  refine lv_aload_n hx hb dL_law_1300 rfl (lv_at hl 3 rfl) ?_
  refine lv_iload_n hx hb dL_law_1301 rfl (lv_at hl 0 rfl) ?_
  refine lv_iconst (v := 1) hx hb dL_law_1302 (by decide) ?_
  refine lv_iadd hx hb dL_law_1303 ?_
  refine lv_topi (fun v1 ev1 => ?_)
  obtain rfl : 1 = v1 := (ev1.trans (by decide)).symm
  refine va_sld hx hb hX hbl hbA hS (vp_in_iff.mpr (by rw [hL]; decide) : vp_in 1 L) dL_law_1304 ?_
  refine lv_topi (fun v2 ev2 => ?_)
  obtain rfl : xs 1 = v2 := ev2.symm
  have hPc := hP.sub (ws' := [(x, .inr (11, (o11 x gx))), ((gx 11 8), .inr (4, (o4 x gx)))]) [0, 1] rfl
  have hKc := hK.sub (tys' := []) [] rfl
  refine vp_callSi (W.runV (As := [.int (xs 1)]) (rest := []) ⟨hx, hb, hml, hown, ht⟩ (c_X11_houses l dC dI x gx cax (xs 1)) (kV 1 ht m_1042 m_1043 m_1044 m_77 m_1045 rfl rfl hd_X11_houses_v ⟨Nat.le_of_ble_eq_true rfl, Nat.le_of_ble_eq_true rfl⟩) (vR hPc hKc (va_recv hKc hPc (ci := 11) (q0 := 0) rfl rfl)) rfl rfl hl.1 rfl (lv_room (Nat.le_of_ble_eq_true rfl)) dL_law_1305 ⟨Nat.le_of_ble_eq_true rfl, Nat.le_of_ble_eq_true rfl⟩) (fun r3 hr3 => ?_)
  obtain rfl : (F_houses (xs 1)) = r3 := hr3.symm
  refine lv_aload_n hx hb dL_law_1308 rfl (lv_at hl 1 rfl) ?_
  refine lv_aload_n hx hb dL_law_1309 rfl (lv_at hl 3 rfl) ?_
  refine lv_iload_n hx hb dL_law_1310 rfl (lv_at hl 0 rfl) ?_
  refine lv_iconst (v := 1) hx hb dL_law_1311 (by decide) ?_
  refine lv_iadd hx hb dL_law_1312 ?_
  refine lv_topi (fun v4 ev4 => ?_)
  obtain rfl : 1 = v4 := (ev4.trans (by decide)).symm
  refine va_sld hx hb hX hbl hbA hS (vp_in_iff.mpr (by rw [hL]; decide) : vp_in 1 L) dL_law_1313 ?_
  refine lv_topi (fun v5 ev5 => ?_)
  obtain rfl : xs 1 = v5 := ev5.symm
  have hPc := hP.sub (ws' := [(y, .inr (12, (o12 y gy)))]) [2] rfl
  have hKc := hK.sub (tys' := []) [] rfl
  refine vp_callSi (W.runV (As := [.int (xs 1)]) (rest := [.int (F_houses (xs 1))]) ⟨hx, hb, hml, hown, ht⟩ (c_X12_houses l dC dI y gy cay (xs 1)) (kV 1 ht m_1664 m_1665 m_1666 m_89 m_1667 rfl rfl hd_X12_houses_v ⟨Nat.le_of_ble_eq_true rfl, Nat.le_of_ble_eq_true rfl⟩) (vR hPc hKc (va_recv hKc hPc (ci := 12) (q0 := 0) rfl rfl)) rfl rfl hl.1 rfl (lv_room (Nat.le_of_ble_eq_true rfl)) dL_law_1314 ⟨Nat.le_of_ble_eq_true rfl, Nat.le_of_ble_eq_true rfl⟩) (fun r6 hr6 => ?_)
  obtain rfl : (F_houses (xs 1)) = r6 := hr6.symm
  refine lv_icmp_eq (tgt := 1511) hx hb dL_law_1317 (by decide) (fun c7 => ?_) (fun c7 => ?_)
  · skip
    exact law_tail l hL C0 hA hbA hAs hS hl
  · exact absurd rfl c7
set_option maxHeartbeats 4000000 in
set_option maxRecDepth 100000 in
/-- certify -/
theorem law_32 {p : Program} {e : Env} {s : State} {m : MethodId} {below : List Frame} {meth : Method} {c : Code} (l : Launch) {b L : Nat} {xs : Nat → Int32} (hL : L = 8) (C0 : lw_At p s m meth c b L xs) {dC : Nat → ClassId} {dI : Nat → Nat → Nat} {A : Nat → Prop} (hA : ∀ q : Nat, s.heap.size ≤ q → A q) (hbA : ¬ A b) (hAs : ∀ q : Nat, A q → s.heap.size ≤ q) {x y : Nat} {gx gy : Nat → Nat → Nat} {cax cay : Nat → Nat → ClassId} {H : Heap} {locs : List Loc} (hK : va_K (dC, dI) classes [] s) (hP : va_P (dC, dI) classes [(x, .inr (11, (o11 x gx))), ((gx 11 2), .inr (0, (o0 x gx))), (y, .inr (12, (o12 y gy)))] H) (hD : va_D A [(x, .inr (11, (o11 x gx))), ((gx 11 2), .inr (0, (o0 x gx))), (y, .inr (12, (o12 y gy)))]) (hS : va_S A s.heap H locs) {ls : Array Slot} (hl : lv_has ls 4 [(3, .int 0), (2, .ref y), (1, .ref x), (0, .ref b)]) : W p l e room_1 s m #[Value.ref b] below meth c H locs 98 5431 (lw_Z below #[Value.ref b] s) (F0 m 1322 ls []) := by
  obtain ⟨hx, hb, hr, hml, hown, hts, hX, hbl, hlocks, hgv⟩ := id C0
  have ht := tb_of hts
  refine lv_aload_n hx hb dL_law_1322 rfl (lv_at hl 2 rfl) ?_
  refine lv_aload_n hx hb dL_law_1323 rfl (lv_at hl 3 rfl) ?_
  refine lv_iload_n hx hb dL_law_1324 rfl (lv_at hl 0 rfl) ?_
  refine lv_iconst (v := 1) hx hb dL_law_1325 (by decide) ?_
  refine lv_iadd hx hb dL_law_1326 ?_
  refine lv_topi (fun v1 ev1 => ?_)
  obtain rfl : 1 = v1 := (ev1.trans (by decide)).symm
  refine va_sld hx hb hX hbl hbA hS (vp_in_iff.mpr (by rw [hL]; decide) : vp_in 1 L) dL_law_1327 ?_
  refine lv_topi (fun v2 ev2 => ?_)
  obtain rfl : xs 1 = v2 := ev2.symm
  have hPc := hP.sub (ws' := [(x, .inr (11, (o11 x gx))), ((gx 11 2), .inr (0, (o0 x gx)))]) [0, 1] rfl
  have hKc := hK.sub (tys' := []) [] rfl
  refine vp_callSi (W.runV (As := [.int (xs 1)]) (rest := []) ⟨hx, hb, hml, hown, ht⟩ (c_X11_certify l dC dI x gx cax (xs 1)) (kV 1 ht m_1070 m_1071 m_1072 m_77 m_1073 rfl rfl hd_X11_certify_v ⟨Nat.le_of_ble_eq_true rfl, Nat.le_of_ble_eq_true rfl⟩) (vR hPc hKc (va_recv hKc hPc (ci := 11) (q0 := 0) rfl rfl)) rfl rfl hl.1 rfl (lv_room (Nat.le_of_ble_eq_true rfl)) dL_law_1328 ⟨Nat.le_of_ble_eq_true rfl, Nat.le_of_ble_eq_true rfl⟩) (fun r3 hr3 => ?_)
  obtain rfl : (-100001) = r3 := hr3.symm
  refine lv_aload_n hx hb dL_law_1331 rfl (lv_at hl 1 rfl) ?_
  refine lv_aload_n hx hb dL_law_1332 rfl (lv_at hl 3 rfl) ?_
  refine lv_iload_n hx hb dL_law_1333 rfl (lv_at hl 0 rfl) ?_
  refine lv_iconst (v := 1) hx hb dL_law_1334 (by decide) ?_
  refine lv_iadd hx hb dL_law_1335 ?_
  refine lv_topi (fun v4 ev4 => ?_)
  obtain rfl : 1 = v4 := (ev4.trans (by decide)).symm
  refine va_sld hx hb hX hbl hbA hS (vp_in_iff.mpr (by rw [hL]; decide) : vp_in 1 L) dL_law_1336 ?_
  refine lv_topi (fun v5 ev5 => ?_)
  obtain rfl : xs 1 = v5 := ev5.symm
  have hPc := hP.sub (ws' := [(y, .inr (12, (o12 y gy)))]) [2] rfl
  have hKc := hK.sub (tys' := []) [] rfl
  refine vp_callSi (W.runV (As := [.int (xs 1)]) (rest := [.int (-100001)]) ⟨hx, hb, hml, hown, ht⟩ (c_X12_certify l dC dI y gy cay (xs 1)) (kV 1 ht m_1672 m_1673 m_1674 m_89 m_1675 rfl rfl hd_X12_certify_v ⟨Nat.le_of_ble_eq_true rfl, Nat.le_of_ble_eq_true rfl⟩) (vR hPc hKc (va_recv hKc hPc (ci := 12) (q0 := 0) rfl rfl)) rfl rfl hl.1 rfl (lv_room (Nat.le_of_ble_eq_true rfl)) dL_law_1337 ⟨Nat.le_of_ble_eq_true rfl, Nat.le_of_ble_eq_true rfl⟩) (fun r6 hr6 => ?_)
  obtain rfl : (-100001) = r6 := hr6.symm
  refine lv_icmp_eq (tgt := 1511) hx hb dL_law_1340 (by decide) (fun c7 => ?_) (fun c7 => ?_)
  · skip
    exact law_tail l hL C0 hA hbA hAs hS hl
  · exact absurd rfl c7
set_option maxHeartbeats 4000000 in
set_option maxRecDepth 100000 in
/-- bill -/
theorem law_33 {p : Program} {e : Env} {s : State} {m : MethodId} {below : List Frame} {meth : Method} {c : Code} (l : Launch) {b L : Nat} {xs : Nat → Int32} (hL : L = 8) (C0 : lw_At p s m meth c b L xs) {dC : Nat → ClassId} {dI : Nat → Nat → Nat} {A : Nat → Prop} (hA : ∀ q : Nat, s.heap.size ≤ q → A q) (hbA : ¬ A b) (hAs : ∀ q : Nat, A q → s.heap.size ≤ q) {x y : Nat} {gx gy : Nat → Nat → Nat} {cax cay : Nat → Nat → ClassId} {H : Heap} {locs : List Loc} (hK : va_K (dC, dI) classes [] s) (hP : va_P (dC, dI) classes [(x, .inr (11, (o11 x gx))), ((gx 11 9), .inr (6, (o6 x gx))), (y, .inr (12, (o12 y gy)))] H) (hD : va_D A [(x, .inr (11, (o11 x gx))), ((gx 11 9), .inr (6, (o6 x gx))), (y, .inr (12, (o12 y gy)))]) (hS : va_S A s.heap H locs) {ls : Array Slot} (hl : lv_has ls 4 [(3, .int 0), (2, .ref y), (1, .ref x), (0, .ref b)]) : W p l e room_1 s m #[Value.ref b] below meth c H locs 98 5431 (lw_Z below #[Value.ref b] s) (F0 m 1345 ls []) := by
  obtain ⟨hx, hb, hr, hml, hown, hts, hX, hbl, hlocks, hgv⟩ := id C0
  have ht := tb_of hts
  refine lv_aload_n hx hb dL_law_1345 rfl (lv_at hl 2 rfl) ?_
  refine lv_aload_n hx hb dL_law_1346 rfl (lv_at hl 3 rfl) ?_
  refine lv_iload_n hx hb dL_law_1347 rfl (lv_at hl 0 rfl) ?_
  refine lv_iconst (v := 1) hx hb dL_law_1348 (by decide) ?_
  refine lv_iadd hx hb dL_law_1349 ?_
  refine lv_topi (fun v1 ev1 => ?_)
  obtain rfl : 1 = v1 := (ev1.trans (by decide)).symm
  refine va_sld hx hb hX hbl hbA hS (vp_in_iff.mpr (by rw [hL]; decide) : vp_in 1 L) dL_law_1350 ?_
  refine lv_topi (fun v2 ev2 => ?_)
  obtain rfl : xs 1 = v2 := ev2.symm
  refine lv_aload_n hx hb dL_law_1351 rfl (lv_at hl 3 rfl) ?_
  refine lv_iload_n hx hb dL_law_1352 rfl (lv_at hl 0 rfl) ?_
  refine lv_iconst (v := 2) hx hb dL_law_1353 (by decide) ?_
  refine lv_iadd hx hb dL_law_1354 ?_
  refine lv_topi (fun v3 ev3 => ?_)
  obtain rfl : 2 = v3 := (ev3.trans (by decide)).symm
  refine va_sld hx hb hX hbl hbA hS (vp_in_iff.mpr (by rw [hL]; decide) : vp_in 2 L) dL_law_1355 ?_
  refine lv_topi (fun v4 ev4 => ?_)
  obtain rfl : xs 2 = v4 := ev4.symm
  have hPc := hP.sub (ws' := [(x, .inr (11, (o11 x gx))), ((gx 11 9), .inr (6, (o6 x gx)))]) [0, 1] rfl
  have hKc := hK.sub (tys' := []) [] rfl
  refine vp_callSi (W.runV (As := [.int (xs 1), .int (xs 2)]) (rest := []) ⟨hx, hb, hml, hown, ht⟩ (c_X11_bill l dC dI x gx cax (xs 1) (xs 2)) (kV 2 ht m_1091 m_1092 m_1093 m_77 m_1094 rfl rfl hd_X11_bill_v ⟨Nat.le_of_ble_eq_true rfl, Nat.le_of_ble_eq_true rfl⟩) (vR hPc hKc (va_recv hKc hPc (ci := 11) (q0 := 0) rfl rfl)) rfl rfl hl.1 rfl (lv_room (Nat.le_of_ble_eq_true rfl)) dL_law_1356 ⟨Nat.le_of_ble_eq_true rfl, Nat.le_of_ble_eq_true rfl⟩) (fun r5 hr5 => ?_)
  obtain rfl : (-100001) = r5 := hr5.symm
  refine lv_aload_n hx hb dL_law_1359 rfl (lv_at hl 1 rfl) ?_
  refine lv_aload_n hx hb dL_law_1360 rfl (lv_at hl 3 rfl) ?_
  refine lv_iload_n hx hb dL_law_1361 rfl (lv_at hl 0 rfl) ?_
  refine lv_iconst (v := 1) hx hb dL_law_1362 (by decide) ?_
  refine lv_iadd hx hb dL_law_1363 ?_
  refine lv_topi (fun v6 ev6 => ?_)
  obtain rfl : 1 = v6 := (ev6.trans (by decide)).symm
  refine va_sld hx hb hX hbl hbA hS (vp_in_iff.mpr (by rw [hL]; decide) : vp_in 1 L) dL_law_1364 ?_
  refine lv_topi (fun v7 ev7 => ?_)
  obtain rfl : xs 1 = v7 := ev7.symm
  refine lv_aload_n hx hb dL_law_1365 rfl (lv_at hl 3 rfl) ?_
  refine lv_iload_n hx hb dL_law_1366 rfl (lv_at hl 0 rfl) ?_
  refine lv_iconst (v := 2) hx hb dL_law_1367 (by decide) ?_
  refine lv_iadd hx hb dL_law_1368 ?_
  refine lv_topi (fun v8 ev8 => ?_)
  obtain rfl : 2 = v8 := (ev8.trans (by decide)).symm
  refine va_sld hx hb hX hbl hbA hS (vp_in_iff.mpr (by rw [hL]; decide) : vp_in 2 L) dL_law_1369 ?_
  refine lv_topi (fun v9 ev9 => ?_)
  obtain rfl : xs 2 = v9 := ev9.symm
  have hPc := hP.sub (ws' := [(y, .inr (12, (o12 y gy)))]) [2] rfl
  have hKc := hK.sub (tys' := []) [] rfl
  refine vp_callSi (W.runV (As := [.int (xs 1), .int (xs 2)]) (rest := [.int (-100001)]) ⟨hx, hb, hml, hown, ht⟩ (c_X12_bill l dC dI y gy cay (xs 1) (xs 2)) (kV 2 ht m_1680 m_1681 m_1682 m_89 m_1683 rfl rfl hd_X12_bill_v ⟨Nat.le_of_ble_eq_true rfl, Nat.le_of_ble_eq_true rfl⟩) (vR hPc hKc (va_recv hKc hPc (ci := 12) (q0 := 0) rfl rfl)) rfl rfl hl.1 rfl (lv_room (Nat.le_of_ble_eq_true rfl)) dL_law_1370 ⟨Nat.le_of_ble_eq_true rfl, Nat.le_of_ble_eq_true rfl⟩) (fun r10 hr10 => ?_)
  obtain rfl : (-100001) = r10 := hr10.symm
  refine lv_icmp_eq (tgt := 1511) hx hb dL_law_1373 (by decide) (fun c11 => ?_) (fun c11 => ?_)
  · skip
    exact law_tail l hL C0 hA hbA hAs hS hl
  · exact absurd rfl c11
set_option maxHeartbeats 4000000 in
set_option maxRecDepth 100000 in
/-- cut -/
theorem law_34 {p : Program} {e : Env} {s : State} {m : MethodId} {below : List Frame} {meth : Method} {c : Code} (l : Launch) {b L : Nat} {xs : Nat → Int32} (hL : L = 8) (C0 : lw_At p s m meth c b L xs) {dC : Nat → ClassId} {dI : Nat → Nat → Nat} {A : Nat → Prop} (hA : ∀ q : Nat, s.heap.size ≤ q → A q) (hbA : ¬ A b) (hAs : ∀ q : Nat, A q → s.heap.size ≤ q) {x y : Nat} {gx gy : Nat → Nat → Nat} {cax cay : Nat → Nat → ClassId} {H : Heap} {locs : List Loc} (hK : va_K (dC, dI) classes [] s) (hP : va_P (dC, dI) classes [(x, .inr (11, (o11 x gx))), ((gx 11 9), .inr (6, (o6 x gx))), (y, .inr (12, (o12 y gy)))] H) (hD : va_D A [(x, .inr (11, (o11 x gx))), ((gx 11 9), .inr (6, (o6 x gx))), (y, .inr (12, (o12 y gy)))]) (hS : va_S A s.heap H locs) {ls : Array Slot} (hl : lv_has ls 4 [(3, .int 0), (2, .ref y), (1, .ref x), (0, .ref b)]) : W p l e room_1 s m #[Value.ref b] below meth c H locs 98 5431 (lw_Z below #[Value.ref b] s) (F0 m 1378 ls []) := by
  obtain ⟨hx, hb, hr, hml, hown, hts, hX, hbl, hlocks, hgv⟩ := id C0
  have ht := tb_of hts
  refine lv_aload_n hx hb dL_law_1378 rfl (lv_at hl 2 rfl) ?_
  refine lv_aload_n hx hb dL_law_1379 rfl (lv_at hl 3 rfl) ?_
  refine lv_iload_n hx hb dL_law_1380 rfl (lv_at hl 0 rfl) ?_
  refine lv_iconst (v := 1) hx hb dL_law_1381 (by decide) ?_
  refine lv_iadd hx hb dL_law_1382 ?_
  refine lv_topi (fun v1 ev1 => ?_)
  obtain rfl : 1 = v1 := (ev1.trans (by decide)).symm
  refine va_sld hx hb hX hbl hbA hS (vp_in_iff.mpr (by rw [hL]; decide) : vp_in 1 L) dL_law_1383 ?_
  refine lv_topi (fun v2 ev2 => ?_)
  obtain rfl : xs 1 = v2 := ev2.symm
  refine lv_aload_n hx hb dL_law_1384 rfl (lv_at hl 3 rfl) ?_
  refine lv_iload_n hx hb dL_law_1385 rfl (lv_at hl 0 rfl) ?_
  refine lv_iconst (v := 2) hx hb dL_law_1386 (by decide) ?_
  refine lv_iadd hx hb dL_law_1387 ?_
  refine lv_topi (fun v3 ev3 => ?_)
  obtain rfl : 2 = v3 := (ev3.trans (by decide)).symm
  refine va_sld hx hb hX hbl hbA hS (vp_in_iff.mpr (by rw [hL]; decide) : vp_in 2 L) dL_law_1388 ?_
  refine lv_topi (fun v4 ev4 => ?_)
  obtain rfl : xs 2 = v4 := ev4.symm
  refine lv_aload_n hx hb dL_law_1389 rfl (lv_at hl 3 rfl) ?_
  refine lv_iload_n hx hb dL_law_1390 rfl (lv_at hl 0 rfl) ?_
  refine lv_iconst (v := 3) hx hb dL_law_1391 (by decide) ?_
  refine lv_iadd hx hb dL_law_1392 ?_
  refine lv_topi (fun v5 ev5 => ?_)
  obtain rfl : 3 = v5 := (ev5.trans (by decide)).symm
  refine va_sld hx hb hX hbl hbA hS (vp_in_iff.mpr (by rw [hL]; decide) : vp_in 3 L) dL_law_1393 ?_
  refine lv_topi (fun v6 ev6 => ?_)
  obtain rfl : xs 3 = v6 := ev6.symm
  have hPc := hP.sub (ws' := [(x, .inr (11, (o11 x gx))), ((gx 11 9), .inr (6, (o6 x gx)))]) [0, 1] rfl
  have hKc := hK.sub (tys' := []) [] rfl
  refine vp_callSi (W.runV (As := [.int (xs 1), .int (xs 2), .int (xs 3)]) (rest := []) ⟨hx, hb, hml, hown, ht⟩ (c_X11_cut l dC dI x gx cax (xs 1) (xs 2) (xs 3)) (kV 3 ht m_1100 m_1101 m_1102 m_77 m_1103 rfl rfl hd_X11_cut_v ⟨Nat.le_of_ble_eq_true rfl, Nat.le_of_ble_eq_true rfl⟩) (vR hPc hKc (va_recv hKc hPc (ci := 11) (q0 := 0) rfl rfl)) rfl rfl hl.1 rfl (lv_room (Nat.le_of_ble_eq_true rfl)) dL_law_1394 ⟨Nat.le_of_ble_eq_true rfl, Nat.le_of_ble_eq_true rfl⟩) (fun r7 hr7 => ?_)
  obtain rfl : (-100001) = r7 := hr7.symm
  refine lv_aload_n hx hb dL_law_1397 rfl (lv_at hl 1 rfl) ?_
  refine lv_aload_n hx hb dL_law_1398 rfl (lv_at hl 3 rfl) ?_
  refine lv_iload_n hx hb dL_law_1399 rfl (lv_at hl 0 rfl) ?_
  refine lv_iconst (v := 1) hx hb dL_law_1400 (by decide) ?_
  refine lv_iadd hx hb dL_law_1401 ?_
  refine lv_topi (fun v8 ev8 => ?_)
  obtain rfl : 1 = v8 := (ev8.trans (by decide)).symm
  refine va_sld hx hb hX hbl hbA hS (vp_in_iff.mpr (by rw [hL]; decide) : vp_in 1 L) dL_law_1402 ?_
  refine lv_topi (fun v9 ev9 => ?_)
  obtain rfl : xs 1 = v9 := ev9.symm
  refine lv_aload_n hx hb dL_law_1403 rfl (lv_at hl 3 rfl) ?_
  refine lv_iload_n hx hb dL_law_1404 rfl (lv_at hl 0 rfl) ?_
  refine lv_iconst (v := 2) hx hb dL_law_1405 (by decide) ?_
  refine lv_iadd hx hb dL_law_1406 ?_
  refine lv_topi (fun v10 ev10 => ?_)
  obtain rfl : 2 = v10 := (ev10.trans (by decide)).symm
  refine va_sld hx hb hX hbl hbA hS (vp_in_iff.mpr (by rw [hL]; decide) : vp_in 2 L) dL_law_1407 ?_
  refine lv_topi (fun v11 ev11 => ?_)
  obtain rfl : xs 2 = v11 := ev11.symm
  refine lv_aload_n hx hb dL_law_1408 rfl (lv_at hl 3 rfl) ?_
  refine lv_iload_n hx hb dL_law_1409 rfl (lv_at hl 0 rfl) ?_
  refine lv_iconst (v := 3) hx hb dL_law_1410 (by decide) ?_
  refine lv_iadd hx hb dL_law_1411 ?_
  refine lv_topi (fun v12 ev12 => ?_)
  obtain rfl : 3 = v12 := (ev12.trans (by decide)).symm
  refine va_sld hx hb hX hbl hbA hS (vp_in_iff.mpr (by rw [hL]; decide) : vp_in 3 L) dL_law_1412 ?_
  refine lv_topi (fun v13 ev13 => ?_)
  obtain rfl : xs 3 = v13 := ev13.symm
  have hPc := hP.sub (ws' := [(y, .inr (12, (o12 y gy)))]) [2] rfl
  have hKc := hK.sub (tys' := []) [] rfl
  refine vp_callSi (W.runV (As := [.int (xs 1), .int (xs 2), .int (xs 3)]) (rest := [.int (-100001)]) ⟨hx, hb, hml, hown, ht⟩ (c_X12_cut l dC dI y gy cay (xs 1) (xs 2) (xs 3)) (kV 3 ht m_1692 m_1693 m_1694 m_89 m_1695 rfl rfl hd_X12_cut_v ⟨Nat.le_of_ble_eq_true rfl, Nat.le_of_ble_eq_true rfl⟩) (vR hPc hKc (va_recv hKc hPc (ci := 12) (q0 := 0) rfl rfl)) rfl rfl hl.1 rfl (lv_room (Nat.le_of_ble_eq_true rfl)) dL_law_1413 ⟨Nat.le_of_ble_eq_true rfl, Nat.le_of_ble_eq_true rfl⟩) (fun r14 hr14 => ?_)
  obtain rfl : (-100001) = r14 := hr14.symm
  refine lv_icmp_eq (tgt := 1511) hx hb dL_law_1416 (by decide) (fun c15 => ?_) (fun c15 => ?_)
  · skip
    exact law_tail l hL C0 hA hbA hAs hS hl
  · exact absurd rfl c15
set_option maxHeartbeats 4000000 in
set_option maxRecDepth 100000 in
/-- undo -/
theorem law_35 {p : Program} {e : Env} {s : State} {m : MethodId} {below : List Frame} {meth : Method} {c : Code} (l : Launch) {b L : Nat} {xs : Nat → Int32} (hL : L = 8) (C0 : lw_At p s m meth c b L xs) {dC : Nat → ClassId} {dI : Nat → Nat → Nat} {A : Nat → Prop} (hA : ∀ q : Nat, s.heap.size ≤ q → A q) (hbA : ¬ A b) (hAs : ∀ q : Nat, A q → s.heap.size ≤ q) {x y : Nat} {gx gy : Nat → Nat → Nat} {cax cay : Nat → Nat → ClassId} {H : Heap} {locs : List Loc} (hK : va_K (dC, dI) classes [] s) (hP : va_P (dC, dI) classes [(x, .inr (11, (o11 x gx))), ((gx 11 9), .inr (6, (o6 x gx))), (y, .inr (12, (o12 y gy)))] H) (hD : va_D A [(x, .inr (11, (o11 x gx))), ((gx 11 9), .inr (6, (o6 x gx))), (y, .inr (12, (o12 y gy)))]) (hS : va_S A s.heap H locs) {ls : Array Slot} (hl : lv_has ls 4 [(3, .int 0), (2, .ref y), (1, .ref x), (0, .ref b)]) : W p l e room_1 s m #[Value.ref b] below meth c H locs 98 5431 (lw_Z below #[Value.ref b] s) (F0 m 1421 ls []) := by
  obtain ⟨hx, hb, hr, hml, hown, hts, hX, hbl, hlocks, hgv⟩ := id C0
  have ht := tb_of hts
  refine lv_aload_n hx hb dL_law_1421 rfl (lv_at hl 2 rfl) ?_
  refine lv_aload_n hx hb dL_law_1422 rfl (lv_at hl 3 rfl) ?_
  refine lv_iload_n hx hb dL_law_1423 rfl (lv_at hl 0 rfl) ?_
  refine lv_iconst (v := 1) hx hb dL_law_1424 (by decide) ?_
  refine lv_iadd hx hb dL_law_1425 ?_
  refine lv_topi (fun v1 ev1 => ?_)
  obtain rfl : 1 = v1 := (ev1.trans (by decide)).symm
  refine va_sld hx hb hX hbl hbA hS (vp_in_iff.mpr (by rw [hL]; decide) : vp_in 1 L) dL_law_1426 ?_
  refine lv_topi (fun v2 ev2 => ?_)
  obtain rfl : xs 1 = v2 := ev2.symm
  have hPc := hP.sub (ws' := [(x, .inr (11, (o11 x gx))), ((gx 11 9), .inr (6, (o6 x gx)))]) [0, 1] rfl
  have hKc := hK.sub (tys' := []) [] rfl
  refine vp_callSi (W.runV (As := [.int (xs 1)]) (rest := []) ⟨hx, hb, hml, hown, ht⟩ (c_X11_undo l dC dI x gx cax (xs 1)) (kV 1 ht m_1108 m_1109 m_1110 m_77 m_1111 rfl rfl hd_X11_undo_v ⟨Nat.le_of_ble_eq_true rfl, Nat.le_of_ble_eq_true rfl⟩) (vR hPc hKc (va_recv hKc hPc (ci := 11) (q0 := 0) rfl rfl)) rfl rfl hl.1 rfl (lv_room (Nat.le_of_ble_eq_true rfl)) dL_law_1427 ⟨Nat.le_of_ble_eq_true rfl, Nat.le_of_ble_eq_true rfl⟩) (fun r3 hr3 => ?_)
  obtain rfl : (-100001) = r3 := hr3.symm
  refine lv_aload_n hx hb dL_law_1430 rfl (lv_at hl 1 rfl) ?_
  refine lv_aload_n hx hb dL_law_1431 rfl (lv_at hl 3 rfl) ?_
  refine lv_iload_n hx hb dL_law_1432 rfl (lv_at hl 0 rfl) ?_
  refine lv_iconst (v := 1) hx hb dL_law_1433 (by decide) ?_
  refine lv_iadd hx hb dL_law_1434 ?_
  refine lv_topi (fun v4 ev4 => ?_)
  obtain rfl : 1 = v4 := (ev4.trans (by decide)).symm
  refine va_sld hx hb hX hbl hbA hS (vp_in_iff.mpr (by rw [hL]; decide) : vp_in 1 L) dL_law_1435 ?_
  refine lv_topi (fun v5 ev5 => ?_)
  obtain rfl : xs 1 = v5 := ev5.symm
  have hPc := hP.sub (ws' := [(y, .inr (12, (o12 y gy)))]) [2] rfl
  have hKc := hK.sub (tys' := []) [] rfl
  refine vp_callSi (W.runV (As := [.int (xs 1)]) (rest := [.int (-100001)]) ⟨hx, hb, hml, hown, ht⟩ (c_X12_undo l dC dI y gy cay (xs 1)) (kV 1 ht m_1696 m_1697 m_1698 m_89 m_1699 rfl rfl hd_X12_undo_v ⟨Nat.le_of_ble_eq_true rfl, Nat.le_of_ble_eq_true rfl⟩) (vR hPc hKc (va_recv hKc hPc (ci := 12) (q0 := 0) rfl rfl)) rfl rfl hl.1 rfl (lv_room (Nat.le_of_ble_eq_true rfl)) dL_law_1436 ⟨Nat.le_of_ble_eq_true rfl, Nat.le_of_ble_eq_true rfl⟩) (fun r6 hr6 => ?_)
  obtain rfl : (-100001) = r6 := hr6.symm
  refine lv_icmp_eq (tgt := 1511) hx hb dL_law_1439 (by decide) (fun c7 => ?_) (fun c7 => ?_)
  · skip
    exact law_tail l hL C0 hA hbA hAs hS hl
  · exact absurd rfl c7
set_option maxHeartbeats 4000000 in
set_option maxRecDepth 100000 in
/-- paper -/
theorem law_36 {p : Program} {e : Env} {s : State} {m : MethodId} {below : List Frame} {meth : Method} {c : Code} (l : Launch) {b L : Nat} {xs : Nat → Int32} (hL : L = 8) (C0 : lw_At p s m meth c b L xs) {dC : Nat → ClassId} {dI : Nat → Nat → Nat} {A : Nat → Prop} (hA : ∀ q : Nat, s.heap.size ≤ q → A q) (hbA : ¬ A b) (hAs : ∀ q : Nat, A q → s.heap.size ≤ q) {x y : Nat} {gx gy : Nat → Nat → Nat} {cax cay : Nat → Nat → ClassId} {H : Heap} {locs : List Loc} (hK : va_K (dC, dI) classes [] s) (hP : va_P (dC, dI) classes [(x, .inr (11, (o11 x gx))), ((gx 11 9), .inr (6, (o6 x gx))), (y, .inr (12, (o12 y gy)))] H) (hD : va_D A [(x, .inr (11, (o11 x gx))), ((gx 11 9), .inr (6, (o6 x gx))), (y, .inr (12, (o12 y gy)))]) (hS : va_S A s.heap H locs) {ls : Array Slot} (hl : lv_has ls 4 [(3, .int 0), (2, .ref y), (1, .ref x), (0, .ref b)]) : W p l e room_1 s m #[Value.ref b] below meth c H locs 98 5431 (lw_Z below #[Value.ref b] s) (F0 m 1444 ls []) := by
  obtain ⟨hx, hb, hr, hml, hown, hts, hX, hbl, hlocks, hgv⟩ := id C0
  have ht := tb_of hts
  refine lv_aload_n hx hb dL_law_1444 rfl (lv_at hl 2 rfl) ?_
  refine lv_aload_n hx hb dL_law_1445 rfl (lv_at hl 3 rfl) ?_
  refine lv_iload_n hx hb dL_law_1446 rfl (lv_at hl 0 rfl) ?_
  refine lv_iconst (v := 1) hx hb dL_law_1447 (by decide) ?_
  refine lv_iadd hx hb dL_law_1448 ?_
  refine lv_topi (fun v1 ev1 => ?_)
  obtain rfl : 1 = v1 := (ev1.trans (by decide)).symm
  refine va_sld hx hb hX hbl hbA hS (vp_in_iff.mpr (by rw [hL]; decide) : vp_in 1 L) dL_law_1449 ?_
  refine lv_topi (fun v2 ev2 => ?_)
  obtain rfl : xs 1 = v2 := ev2.symm
  refine lv_aload_n hx hb dL_law_1450 rfl (lv_at hl 3 rfl) ?_
  refine lv_iload_n hx hb dL_law_1451 rfl (lv_at hl 0 rfl) ?_
  refine lv_iconst (v := 2) hx hb dL_law_1452 (by decide) ?_
  refine lv_iadd hx hb dL_law_1453 ?_
  refine lv_topi (fun v3 ev3 => ?_)
  obtain rfl : 2 = v3 := (ev3.trans (by decide)).symm
  refine va_sld hx hb hX hbl hbA hS (vp_in_iff.mpr (by rw [hL]; decide) : vp_in 2 L) dL_law_1454 ?_
  refine lv_topi (fun v4 ev4 => ?_)
  obtain rfl : xs 2 = v4 := ev4.symm
  have hPc := hP.sub (ws' := [(x, .inr (11, (o11 x gx))), ((gx 11 9), .inr (6, (o6 x gx)))]) [0, 1] rfl
  have hKc := hK.sub (tys' := []) [] rfl
  refine vp_callSi (W.runV (As := [.int (xs 1), .int (xs 2)]) (rest := []) ⟨hx, hb, hml, hown, ht⟩ (c_X11_paper l dC dI x gx cax (xs 1) (xs 2)) (kV 2 ht m_1117 m_1118 m_1119 m_77 m_1120 rfl rfl hd_X11_paper_v ⟨Nat.le_of_ble_eq_true rfl, Nat.le_of_ble_eq_true rfl⟩) (vR hPc hKc (va_recv hKc hPc (ci := 11) (q0 := 0) rfl rfl)) rfl rfl hl.1 rfl (lv_room (Nat.le_of_ble_eq_true rfl)) dL_law_1455 ⟨Nat.le_of_ble_eq_true rfl, Nat.le_of_ble_eq_true rfl⟩) (fun r5 hr5 => ?_)
  obtain rfl : (-100001) = r5 := hr5.symm
  refine lv_aload_n hx hb dL_law_1458 rfl (lv_at hl 1 rfl) ?_
  refine lv_aload_n hx hb dL_law_1459 rfl (lv_at hl 3 rfl) ?_
  refine lv_iload_n hx hb dL_law_1460 rfl (lv_at hl 0 rfl) ?_
  refine lv_iconst (v := 1) hx hb dL_law_1461 (by decide) ?_
  refine lv_iadd hx hb dL_law_1462 ?_
  refine lv_topi (fun v6 ev6 => ?_)
  obtain rfl : 1 = v6 := (ev6.trans (by decide)).symm
  refine va_sld hx hb hX hbl hbA hS (vp_in_iff.mpr (by rw [hL]; decide) : vp_in 1 L) dL_law_1463 ?_
  refine lv_topi (fun v7 ev7 => ?_)
  obtain rfl : xs 1 = v7 := ev7.symm
  refine lv_aload_n hx hb dL_law_1464 rfl (lv_at hl 3 rfl) ?_
  refine lv_iload_n hx hb dL_law_1465 rfl (lv_at hl 0 rfl) ?_
  refine lv_iconst (v := 2) hx hb dL_law_1466 (by decide) ?_
  refine lv_iadd hx hb dL_law_1467 ?_
  refine lv_topi (fun v8 ev8 => ?_)
  obtain rfl : 2 = v8 := (ev8.trans (by decide)).symm
  refine va_sld hx hb hX hbl hbA hS (vp_in_iff.mpr (by rw [hL]; decide) : vp_in 2 L) dL_law_1468 ?_
  refine lv_topi (fun v9 ev9 => ?_)
  obtain rfl : xs 2 = v9 := ev9.symm
  have hPc := hP.sub (ws' := [(y, .inr (12, (o12 y gy)))]) [2] rfl
  have hKc := hK.sub (tys' := []) [] rfl
  refine vp_callSi (W.runV (As := [.int (xs 1), .int (xs 2)]) (rest := [.int (-100001)]) ⟨hx, hb, hml, hown, ht⟩ (c_X12_paper l dC dI y gy cay (xs 1) (xs 2)) (kV 2 ht m_1700 m_1701 m_1702 m_89 m_1703 rfl rfl hd_X12_paper_v ⟨Nat.le_of_ble_eq_true rfl, Nat.le_of_ble_eq_true rfl⟩) (vR hPc hKc (va_recv hKc hPc (ci := 12) (q0 := 0) rfl rfl)) rfl rfl hl.1 rfl (lv_room (Nat.le_of_ble_eq_true rfl)) dL_law_1469 ⟨Nat.le_of_ble_eq_true rfl, Nat.le_of_ble_eq_true rfl⟩) (fun r10 hr10 => ?_)
  obtain rfl : (-100001) = r10 := hr10.symm
  refine lv_icmp_eq (tgt := 1511) hx hb dL_law_1472 (by decide) (fun c11 => ?_) (fun c11 => ?_)
  · skip
    exact law_tail l hL C0 hA hbA hAs hS hl
  · exact absurd rfl c11
set_option maxHeartbeats 4000000 in
set_option maxRecDepth 100000 in
/-- stood -/
theorem law_37 {p : Program} {e : Env} {s : State} {m : MethodId} {below : List Frame} {meth : Method} {c : Code} (l : Launch) {b L : Nat} {xs : Nat → Int32} (hL : L = 8) (C0 : lw_At p s m meth c b L xs) {dC : Nat → ClassId} {dI : Nat → Nat → Nat} {A : Nat → Prop} (hA : ∀ q : Nat, s.heap.size ≤ q → A q) (hbA : ¬ A b) (hAs : ∀ q : Nat, A q → s.heap.size ≤ q) {x y : Nat} {gx gy : Nat → Nat → Nat} {cax cay : Nat → Nat → ClassId} {H : Heap} {locs : List Loc} (hK : va_K (dC, dI) classes [] s) (hP : va_P (dC, dI) classes [(x, .inr (11, (o11 x gx))), ((gx 11 9), .inr (6, (o6 x gx))), (y, .inr (12, (o12 y gy)))] H) (hD : va_D A [(x, .inr (11, (o11 x gx))), ((gx 11 9), .inr (6, (o6 x gx))), (y, .inr (12, (o12 y gy)))]) (hS : va_S A s.heap H locs) {ls : Array Slot} (hl : lv_has ls 4 [(3, .int 0), (2, .ref y), (1, .ref x), (0, .ref b)]) : W p l e room_1 s m #[Value.ref b] below meth c H locs 98 5431 (lw_Z below #[Value.ref b] s) (F0 m 1477 ls []) := by
  obtain ⟨hx, hb, hr, hml, hown, hts, hX, hbl, hlocks, hgv⟩ := id C0
  have ht := tb_of hts
  refine lv_aload_n hx hb dL_law_1477 rfl (lv_at hl 2 rfl) ?_
  refine lv_aload_n hx hb dL_law_1478 rfl (lv_at hl 3 rfl) ?_
  refine lv_iload_n hx hb dL_law_1479 rfl (lv_at hl 0 rfl) ?_
  refine lv_iconst (v := 1) hx hb dL_law_1480 (by decide) ?_
  refine lv_iadd hx hb dL_law_1481 ?_
  refine lv_topi (fun v1 ev1 => ?_)
  obtain rfl : 1 = v1 := (ev1.trans (by decide)).symm
  refine va_sld hx hb hX hbl hbA hS (vp_in_iff.mpr (by rw [hL]; decide) : vp_in 1 L) dL_law_1482 ?_
  refine lv_topi (fun v2 ev2 => ?_)
  obtain rfl : xs 1 = v2 := ev2.symm
  refine lv_aload_n hx hb dL_law_1483 rfl (lv_at hl 3 rfl) ?_
  refine lv_iload_n hx hb dL_law_1484 rfl (lv_at hl 0 rfl) ?_
  refine lv_iconst (v := 2) hx hb dL_law_1485 (by decide) ?_
  refine lv_iadd hx hb dL_law_1486 ?_
  refine lv_topi (fun v3 ev3 => ?_)
  obtain rfl : 2 = v3 := (ev3.trans (by decide)).symm
  refine va_sld hx hb hX hbl hbA hS (vp_in_iff.mpr (by rw [hL]; decide) : vp_in 2 L) dL_law_1487 ?_
  refine lv_topi (fun v4 ev4 => ?_)
  obtain rfl : xs 2 = v4 := ev4.symm
  have hPc := hP.sub (ws' := [(x, .inr (11, (o11 x gx))), ((gx 11 9), .inr (6, (o6 x gx)))]) [0, 1] rfl
  have hKc := hK.sub (tys' := []) [] rfl
  refine vp_callSl (W.runV (As := [.int (xs 1), .int (xs 2)]) (rest := []) ⟨hx, hb, hml, hown, ht⟩ (c_X11_stood l dC dI x gx cax (xs 1) (xs 2)) (kV 2 ht m_1125 m_1126 m_1127 m_77 m_1128 rfl rfl hd_X11_stood_v ⟨Nat.le_of_ble_eq_true rfl, Nat.le_of_ble_eq_true rfl⟩) (vR hPc hKc (va_recv hKc hPc (ci := 11) (q0 := 0) rfl rfl)) rfl rfl hl.1 rfl (lv_room (Nat.le_of_ble_eq_true rfl)) dL_law_1488 ⟨Nat.le_of_ble_eq_true rfl, Nat.le_of_ble_eq_true rfl⟩) (fun r5 hr5 => ?_)
  obtain rfl : (F_stood (xs 1) (xs 2)) = r5 := hr5.symm
  refine lv_aload_n hx hb dL_law_1491 rfl (lv_at hl 1 rfl) ?_
  refine lv_aload_n hx hb dL_law_1492 rfl (lv_at hl 3 rfl) ?_
  refine lv_iload_n hx hb dL_law_1493 rfl (lv_at hl 0 rfl) ?_
  refine lv_iconst (v := 1) hx hb dL_law_1494 (by decide) ?_
  refine lv_iadd hx hb dL_law_1495 ?_
  refine lv_topi (fun v6 ev6 => ?_)
  obtain rfl : 1 = v6 := (ev6.trans (by decide)).symm
  refine va_sld hx hb hX hbl hbA hS (vp_in_iff.mpr (by rw [hL]; decide) : vp_in 1 L) dL_law_1496 ?_
  refine lv_topi (fun v7 ev7 => ?_)
  obtain rfl : xs 1 = v7 := ev7.symm
  refine lv_aload_n hx hb dL_law_1497 rfl (lv_at hl 3 rfl) ?_
  refine lv_iload_n hx hb dL_law_1498 rfl (lv_at hl 0 rfl) ?_
  refine lv_iconst (v := 2) hx hb dL_law_1499 (by decide) ?_
  refine lv_iadd hx hb dL_law_1500 ?_
  refine lv_topi (fun v8 ev8 => ?_)
  obtain rfl : 2 = v8 := (ev8.trans (by decide)).symm
  refine va_sld hx hb hX hbl hbA hS (vp_in_iff.mpr (by rw [hL]; decide) : vp_in 2 L) dL_law_1501 ?_
  refine lv_topi (fun v9 ev9 => ?_)
  obtain rfl : xs 2 = v9 := ev9.symm
  have hPc := hP.sub (ws' := [(y, .inr (12, (o12 y gy)))]) [2] rfl
  have hKc := hK.sub (tys' := []) [] rfl
  refine vp_callSl (W.runV (As := [.int (xs 1), .int (xs 2)]) (rest := [.long (F_stood (xs 1) (xs 2))]) ⟨hx, hb, hml, hown, ht⟩ (c_X12_stood l dC dI y gy cay (xs 1) (xs 2)) (kV 2 ht m_1704 m_1705 m_1706 m_89 m_1707 rfl rfl hd_X12_stood_v ⟨Nat.le_of_ble_eq_true rfl, Nat.le_of_ble_eq_true rfl⟩) (vR hPc hKc (va_recv hKc hPc (ci := 12) (q0 := 0) rfl rfl)) rfl rfl hl.1 rfl (lv_room (Nat.le_of_ble_eq_true rfl)) dL_law_1502 ⟨Nat.le_of_ble_eq_true rfl, Nat.le_of_ble_eq_true rfl⟩) (fun r10 hr10 => ?_)
  obtain rfl : (F_stood (xs 1) (xs 2)) = r10 := hr10.symm
  refine W.lcmp hx hb dL_law_1505 ?_
  refine lv_topi (fun v11 ev11 => ?_)
  obtain rfl : v11 = 0 := ev11.trans (by simp [lg_cmp])
  refine lv_if_eq (tgt := 1511) hx hb dL_law_1506 (by decide) (fun c12 => ?_) (fun c12 => ?_)
  · skip
    exact law_tail l hL C0 hA hbA hAs hS hl
  · exact absurd rfl c12
