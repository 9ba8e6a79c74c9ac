set_option maxHeartbeats 4000000 in
set_option maxRecDepth 100000 in
/-- count -/
theorem law_8 {p : Program} {e : Env} {s : State} {m : MethodId} {below : List Frame} {meth : Method} {c : Code} (l : Launch) {b L : Nat} {xs : Nat → Int32} (hL : L = 8) (C0 : lw_At p s m meth c b L xs) {dC : Nat → ClassId} {dI : Nat → Nat → Nat} {A : Nat → Prop} (hA : ∀ q : Nat, s.heap.size ≤ q → A q) (hbA : ¬ A b) (hAs : ∀ q : Nat, A q → s.heap.size ≤ q) {x y : Nat} {gx gy : Nat → Nat → Nat} {cax cay : Nat → Nat → ClassId} {H : Heap} {locs : List Loc} (hK : va_K (dC, dI) classes [] s) (hP : va_P (dC, dI) classes [(x, .inr (11, (o11 x gx))), ((gx 11 2), .inr (0, (o0 x gx))), ((gx 11 0), .inr (10, (o10 x gx))), ((gx 11 1), .inr (9, (o9 x gx))), ((gx 11 3), .inr (1, (o1 x gx))), ((gx 11 9), .inr (6, (o6 x gx))), ((gx 11 4), .inr (8, (o8 x gx))), (y, .inr (12, (o12 y gy)))] H) (hD : va_D A [(x, .inr (11, (o11 x gx))), ((gx 11 2), .inr (0, (o0 x gx))), ((gx 11 0), .inr (10, (o10 x gx))), ((gx 11 1), .inr (9, (o9 x gx))), ((gx 11 3), .inr (1, (o1 x gx))), ((gx 11 9), .inr (6, (o6 x gx))), ((gx 11 4), .inr (8, (o8 x gx))), (y, .inr (12, (o12 y gy)))]) (hS : va_S A s.heap H locs) {ls : Array Slot} (hl : lv_has ls 4 [(3, .int 0), (2, .ref y), (1, .ref x), (0, .ref b)]) : W p l e room_1 s m #[Value.ref b] below meth c H locs 98 5431 (lw_Z below #[Value.ref b] s) (F0 m 518 ls []) := by
  obtain ⟨hx, hb, hr, hml, hown, hts, hX, hbl, hlocks, hgv⟩ := id C0
  have ht := tb_of hts
  refine lv_aload_n hx hb dL_law_518 rfl (lv_at hl 2 rfl) ?_
  refine lv_aload_n hx hb dL_law_519 rfl (lv_at hl 3 rfl) ?_
  refine lv_iload_n hx hb dL_law_520 rfl (lv_at hl 0 rfl) ?_
  refine lv_iconst (v := 1) hx hb dL_law_521 (by decide) ?_
  refine lv_iadd hx hb dL_law_522 ?_
  refine lv_topi (fun v1 ev1 => ?_)
  obtain rfl : 1 = v1 := (ev1.trans (by decide)).symm
  refine va_sld hx hb hX hbl hbA hS (vp_in_iff.mpr (by rw [hL]; decide) : vp_in 1 L) dL_law_523 ?_
  refine lv_topi (fun v2 ev2 => ?_)
  obtain rfl : xs 1 = v2 := ev2.symm
  have hPc := hP.sub (ws' := [(x, .inr (11, (o11 x gx))), ((gx 11 2), .inr (0, (o0 x gx))), ((gx 11 0), .inr (10, (o10 x gx))), ((gx 11 1), .inr (9, (o9 x gx))), ((gx 11 3), .inr (1, (o1 x gx))), ((gx 11 9), .inr (6, (o6 x gx))), ((gx 11 4), .inr (8, (o8 x gx)))]) [0, 1, 2, 3, 4, 5, 6] rfl
  have hKc := hK.sub (tys' := []) [] rfl
  refine vp_callSi (W.runV (As := [.int (xs 1)]) (rest := []) ⟨hx, hb, hml, hown, ht⟩ (c_X11_count l dC dI x gx cax (xs 1)) (kV 1 ht m_587 m_588 m_589 m_77 m_590 rfl rfl hd_X11_count_v ⟨Nat.le_of_ble_eq_true rfl, Nat.le_of_ble_eq_true rfl⟩) (vR hPc hKc (va_recv hKc hPc (ci := 11) (q0 := 0) rfl rfl)) rfl rfl hl.1 rfl (lv_room (Nat.le_of_ble_eq_true rfl)) dL_law_524 ⟨Nat.le_of_ble_eq_true rfl, Nat.le_of_ble_eq_true rfl⟩) (fun r3 hr3 => ?_)
  obtain rfl : (F_count (xs 1)) = r3 := hr3.symm
  refine lv_aload_n hx hb dL_law_527 rfl (lv_at hl 1 rfl) ?_
  refine lv_aload_n hx hb dL_law_528 rfl (lv_at hl 3 rfl) ?_
  refine lv_iload_n hx hb dL_law_529 rfl (lv_at hl 0 rfl) ?_
  refine lv_iconst (v := 1) hx hb dL_law_530 (by decide) ?_
  refine lv_iadd hx hb dL_law_531 ?_
  refine lv_topi (fun v4 ev4 => ?_)
  obtain rfl : 1 = v4 := (ev4.trans (by decide)).symm
  refine va_sld hx hb hX hbl hbA hS (vp_in_iff.mpr (by rw [hL]; decide) : vp_in 1 L) dL_law_532 ?_
  refine lv_topi (fun v5 ev5 => ?_)
  obtain rfl : xs 1 = v5 := ev5.symm
  have hPc := hP.sub (ws' := [(y, .inr (12, (o12 y gy)))]) [7] rfl
  have hKc := hK.sub (tys' := []) [] rfl
  refine vp_callSi (W.runV (As := [.int (xs 1)]) (rest := [.int (F_count (xs 1))]) ⟨hx, hb, hml, hown, ht⟩ (c_X12_count l dC dI y gy cay (xs 1)) (kV 1 ht m_1708 m_1709 m_1710 m_89 m_1711 rfl rfl hd_X12_count_v ⟨Nat.le_of_ble_eq_true rfl, Nat.le_of_ble_eq_true rfl⟩) (vR hPc hKc (va_recv hKc hPc (ci := 12) (q0 := 0) rfl rfl)) rfl rfl hl.1 rfl (lv_room (Nat.le_of_ble_eq_true rfl)) dL_law_533 ⟨Nat.le_of_ble_eq_true rfl, Nat.le_of_ble_eq_true rfl⟩) (fun r6 hr6 => ?_)
  obtain rfl : (F_count (xs 1)) = r6 := hr6.symm
  refine lv_icmp_eq (tgt := 1511) hx hb dL_law_536 (by decide) (fun c7 => ?_) (fun c7 => ?_)
  · skip
    exact law_tail l hL C0 hA hbA hAs hS hl
  · exact absurd rfl c7
set_option maxHeartbeats 4000000 in
set_option maxRecDepth 100000 in
/-- feed -/
theorem law_9 {p : Program} {e : Env} {s : State} {m : MethodId} {below : List Frame} {meth : Method} {c : Code} (l : Launch) {b L : Nat} {xs : Nat → Int32} (hL : L = 8) (C0 : lw_At p s m meth c b L xs) {dC : Nat → ClassId} {dI : Nat → Nat → Nat} {A : Nat → Prop} (hA : ∀ q : Nat, s.heap.size ≤ q → A q) (hbA : ¬ A b) (hAs : ∀ q : Nat, A q → s.heap.size ≤ q) {x y : Nat} {gx gy : Nat → Nat → Nat} {cax cay : Nat → Nat → ClassId} {H : Heap} {locs : List Loc} (hK : va_K (dC, dI) classes [((cax 8 1), .byte), ((cay 12 32), .int)] s) (hP : va_P (dC, dI) classes [(x, .inr (11, (o11 x gx))), ((gx 11 4), .inr (8, (o8 x gx))), ((gx 8 1), .inl ((cax 8 1), 200, .inl (fun _ => 0))), (y, .inr (12, (o12 y gy))), ((gy 12 32), .inl ((cay 12 32), 200, .inl (fun _ => 0)))] H) (hD : va_D A [(x, .inr (11, (o11 x gx))), ((gx 11 4), .inr (8, (o8 x gx))), ((gx 8 1), .inl ((cax 8 1), 200, .inl (fun _ => 0))), (y, .inr (12, (o12 y gy))), ((gy 12 32), .inl ((cay 12 32), 200, .inl (fun _ => 0)))]) (hS : va_S A s.heap H locs) {ls : Array Slot} (hl : lv_has ls 4 [(3, .int 0), (2, .ref y), (1, .ref x), (0, .ref b)]) : W p l e room_1 s m #[Value.ref b] below meth c H locs 98 5431 (lw_Z below #[Value.ref b] s) (F0 m 541 ls []) := by
  obtain ⟨hx, hb, hr, hml, hown, hts, hX, hbl, hlocks, hgv⟩ := id C0
  have ht := tb_of hts
  refine lv_aload_n hx hb dL_law_541 rfl (lv_at hl 2 rfl) ?_
  refine lv_aload_n hx hb dL_law_542 rfl (lv_at hl 3 rfl) ?_
  refine lv_iload_n hx hb dL_law_543 rfl (lv_at hl 0 rfl) ?_
  refine lv_iconst (v := 1) hx hb dL_law_544 (by decide) ?_
  refine lv_iadd hx hb dL_law_545 ?_
  refine lv_topi (fun v1 ev1 => ?_)
  obtain rfl : 1 = v1 := (ev1.trans (by decide)).symm
  refine va_sld hx hb hX hbl hbA hS (vp_in_iff.mpr (by rw [hL]; decide) : vp_in 1 L) dL_law_546 ?_
  refine lv_topi (fun v2 ev2 => ?_)
  obtain rfl : xs 1 = v2 := ev2.symm
  refine lv_aload_n hx hb dL_law_547 rfl (lv_at hl 3 rfl) ?_
  refine lv_iload_n hx hb dL_law_548 rfl (lv_at hl 0 rfl) ?_
  refine lv_iconst (v := 2) hx hb dL_law_549 (by decide) ?_
  refine lv_iadd hx hb dL_law_550 ?_
  refine lv_topi (fun v3 ev3 => ?_)
  obtain rfl : 2 = v3 := (ev3.trans (by decide)).symm
  refine va_sld hx hb hX hbl hbA hS (vp_in_iff.mpr (by rw [hL]; decide) : vp_in 2 L) dL_law_551 ?_
  refine lv_topi (fun v4 ev4 => ?_)
  obtain rfl : xs 2 = v4 := ev4.symm
  refine lv_i2l (v := ((xs 2).toInt64)) hx hb dL_law_552 rfl ?_
  refine lv_bipush (v := 32) hx hb dL_law_553 (by decide) ?_
  obtain ⟨w5, ew5⟩ : ∃ y : Int64, ((xs 2).toInt64) <<< ((32 : Int32).toInt64 &&& 63) = y := ⟨_, rfl⟩
  refine lv_lshl (v := w5) hx hb dL_law_555 ew5 ?_
  refine lv_aload_n hx hb dL_law_556 rfl (lv_at hl 3 rfl) ?_
  refine lv_iload_n hx hb dL_law_557 rfl (lv_at hl 0 rfl) ?_
  refine lv_iconst (v := 3) hx hb dL_law_558 (by decide) ?_
  refine lv_iadd hx hb dL_law_559 ?_
  refine lv_topi (fun v6 ev6 => ?_)
  obtain rfl : 3 = v6 := (ev6.trans (by decide)).symm
  refine va_sld hx hb hX hbl hbA hS (vp_in_iff.mpr (by rw [hL]; decide) : vp_in 3 L) dL_law_560 ?_
  refine lv_topi (fun v7 ev7 => ?_)
  obtain rfl : xs 3 = v7 := ev7.symm
  refine lv_i2l (v := ((xs 3).toInt64)) hx hb dL_law_561 rfl ?_
  refine lv_ldc2 hx hb hown (ht _ m_1716) dL_law_562 ?_
  refine lv_land hx hb dL_law_565 ?_
  refine lv_topl (fun w8 ew8 => ?_)
  refine lv_lor hx hb dL_law_566 ?_
  refine lv_topl (fun w9 ew9 => ?_)
  have hPc := hP.sub (ws' := [(x, .inr (11, (o11 x gx))), ((gx 11 4), .inr (8, (o8 x gx))), ((gx 8 1), .inl ((cax 8 1), 200, .inl (fun _ => 0)))]) [0, 1, 2] rfl
  have hKc := hK.sub (tys' := [((cax 8 1), .byte)]) [0] rfl
  have hDc := hD.sub (ws' := [(x, .inr (11, (o11 x gx))), ((gx 11 4), .inr (8, (o8 x gx))), ((gx 8 1), .inl ((cax 8 1), 200, .inl (fun _ => 0)))]) [0, 1, 2] (by decide) rfl
  have hFc := va_free (wc := [(x, .inr (11, (o11 x gx))), ((gx 11 4), .inr (8, (o8 x gx))), ((gx 8 1), .inl ((cax 8 1), 200, .inl (fun _ => 0)))]) hD hS hA [0, 1, 2] rfl
  refine va_calli (va_runV (As := [.int (xs 1), .long w9]) (rest := []) ⟨hx, hb, hml, hown, ht⟩ (c_X11_feed l dC dI H.size x gx cax (xs 1) w9) (kV 2 ht m_668 m_669 m_670 m_77 m_671 rfl rfl hd_X11_feed_v ⟨Nat.le_of_ble_eq_true rfl, Nat.le_of_ble_eq_true rfl⟩) (vW hPc hKc hDc (va_recv hKc hPc (ci := 11) (q0 := 0) rfl rfl)) rfl rfl hl.1 rfl (lv_room (Nat.le_of_ble_eq_true rfl)) dL_law_567 ⟨Nat.le_of_ble_eq_true rfl, Nat.le_of_ble_eq_true rfl⟩) hS (fun q _ h => hFc q h) hFc (fun r10 u t H1 locs ht9 hvm hr10 hB hz1 hk1 hS => ?_)
  have hP1 : va_P (dC, dI) classes [] H1 := noP
  have hD1 : va_D (va_A [(x, .inr (11, (o11 x gx))), ((gx 11 4), .inr (8, (o8 x gx))), ((gx 8 1), .inl ((cax 8 1), 200, .inl (fun _ => 0)))] H.size) [] := noD
  obtain ⟨hP, hD⟩ := va_join (wr := [(y, .inr (12, (o12 y gy))), ((gy 12 32), .inl ((cay 12 32), 200, .inl (fun _ => 0)))]) (w1 := []) hP hD [0, 1, 2] [3, 4] rfl rfl (by decide) (by decide) hk1 hFc hP1 hD1
  generalize H1 = H at hP hS ⊢
  have hP : va_P (dC, dI) classes [(y, .inr (12, (o12 y gy))), ((gy 12 32), .inl ((cay 12 32), 200, .inl (fun _ => 0)))] H := hP
  have hD : va_D A [(y, .inr (12, (o12 y gy))), ((gy 12 32), .inl ((cay 12 32), 200, .inl (fun _ => 0)))] := hD
  obtain rfl : (F_feed (xs 1)) = r10 := hr10.symm
  refine lv_aload_n hx hb dL_law_570 rfl (lv_at hl 1 rfl) ?_
  refine lv_aload_n hx hb dL_law_571 rfl (lv_at hl 3 rfl) ?_
  refine lv_iload_n hx hb dL_law_572 rfl (lv_at hl 0 rfl) ?_
  refine lv_iconst (v := 1) hx hb dL_law_573 (by decide) ?_
  refine lv_iadd hx hb dL_law_574 ?_
  refine lv_topi (fun v11 ev11 => ?_)
  obtain rfl : 1 = v11 := (ev11.trans (by decide)).symm
  refine va_sld hx hb hX hbl hbA hS (vp_in_iff.mpr (by rw [hL]; decide) : vp_in 1 L) dL_law_575 ?_
  refine lv_topi (fun v12 ev12 => ?_)
  obtain rfl : xs 1 = v12 := ev12.symm
  refine lv_aload_n hx hb dL_law_576 rfl (lv_at hl 3 rfl) ?_
  refine lv_iload_n hx hb dL_law_577 rfl (lv_at hl 0 rfl) ?_
  refine lv_iconst (v := 2) hx hb dL_law_578 (by decide) ?_
  refine lv_iadd hx hb dL_law_579 ?_
  refine lv_topi (fun v13 ev13 => ?_)
  obtain rfl : 2 = v13 := (ev13.trans (by decide)).symm
  refine va_sld hx hb hX hbl hbA hS (vp_in_iff.mpr (by rw [hL]; decide) : vp_in 2 L) dL_law_580 ?_
  refine lv_topi (fun v14 ev14 => ?_)
  obtain rfl : xs 2 = v14 := ev14.symm
  refine lv_i2l (v := ((xs 2).toInt64)) hx hb dL_law_581 rfl ?_
  refine lv_bipush (v := 32) hx hb dL_law_582 (by decide) ?_
  obtain ⟨w15, ew15⟩ : ∃ y : Int64, ((xs 2).toInt64) <<< ((32 : Int32).toInt64 &&& 63) = y := ⟨_, rfl⟩
  refine lv_lshl (v := w15) hx hb dL_law_584 ew15 ?_
  refine lv_aload_n hx hb dL_law_585 rfl (lv_at hl 3 rfl) ?_
  refine lv_iload_n hx hb dL_law_586 rfl (lv_at hl 0 rfl) ?_
  refine lv_iconst (v := 3) hx hb dL_law_587 (by decide) ?_
  refine lv_iadd hx hb dL_law_588 ?_
  refine lv_topi (fun v16 ev16 => ?_)
  obtain rfl : 3 = v16 := (ev16.trans (by decide)).symm
  refine va_sld hx hb hX hbl hbA hS (vp_in_iff.mpr (by rw [hL]; decide) : vp_in 3 L) dL_law_589 ?_
  refine lv_topi (fun v17 ev17 => ?_)
  obtain rfl : xs 3 = v17 := ev17.symm
  refine lv_i2l (v := ((xs 3).toInt64)) hx hb dL_law_590 rfl ?_
  refine lv_ldc2 hx hb hown (ht _ m_1716) dL_law_591 ?_
  refine lv_land hx hb dL_law_594 ?_
  refine lv_topl (fun w18 ew18 => ?_)
  refine lv_lor hx hb dL_law_595 ?_
  refine lv_topl (fun w19 ew19 => ?_)
  have hPc := hP.sub (ws' := [(y, .inr (12, (o12 y gy))), ((gy 12 32), .inl ((cay 12 32), 200, .inl (fun _ => 0)))]) [0, 1] rfl
  have hKc := hK.sub (tys' := [((cay 12 32), .int)]) [1] rfl
  have hDc := hD.sub (ws' := [(y, .inr (12, (o12 y gy))), ((gy 12 32), .inl ((cay 12 32), 200, .inl (fun _ => 0)))]) [0, 1] (by decide) rfl
  have hFc := va_free (wc := [(y, .inr (12, (o12 y gy))), ((gy 12 32), .inl ((cay 12 32), 200, .inl (fun _ => 0)))]) hD hS hA [0, 1] rfl
  refine va_calli (va_runV (As := [.int (xs 1), .long w19]) (rest := [.int (F_feed (xs 1))]) ⟨hx, hb, hml, hown, ht⟩ (c_X12_feed l dC dI H.size y gy cay (xs 1) w19) (kV 2 ht m_1448 m_1449 m_1450 m_89 m_1451 rfl rfl hd_X12_feed_v ⟨Nat.le_of_ble_eq_true rfl, Nat.le_of_ble_eq_true rfl⟩) (vW hPc hKc hDc (va_recv hKc hPc (ci := 12) (q0 := 0) rfl rfl)) rfl rfl hl.1 rfl (lv_room (Nat.le_of_ble_eq_true rfl)) dL_law_596 ⟨Nat.le_of_ble_eq_true rfl, Nat.le_of_ble_eq_true rfl⟩) hS (fun q _ h => hFc q h) hFc (fun r20 u t H1 locs ht9 hvm hr20 hB hz1 hk1 hS => ?_)
  have hP1 : va_P (dC, dI) classes [] H1 := noP
  have hD1 : va_D (va_A [(y, .inr (12, (o12 y gy))), ((gy 12 32), .inl ((cay 12 32), 200, .inl (fun _ => 0)))] H.size) [] := noD
  obtain ⟨hP, hD⟩ := va_join (wr := []) (w1 := []) hP hD [0, 1] [] rfl rfl (by decide) (by decide) hk1 hFc hP1 hD1
  generalize H1 = H at hP hS ⊢
  have hP : va_P (dC, dI) classes [] H := hP
  have hD : va_D A [] := hD
  obtain rfl : (F_feed (xs 1)) = r20 := hr20.symm
  refine lv_icmp_eq (tgt := 1511) hx hb dL_law_599 (by decide) (fun c21 => ?_) (fun c21 => ?_)
  · skip
    exact law_tail l hL C0 hA hbA hAs hS hl
  · exact absurd rfl c21
set_option maxHeartbeats 4000000 in
set_option maxRecDepth 100000 in
/-- rule -/
theorem law_10 {p : Program} {e : Env} {s : State} {m : MethodId} {below : List Frame} {meth : Method} {c : Code} (l : Launch) {b L : Nat} {xs : Nat → Int32} (hL : L = 8) (C0 : lw_At p s m meth c b L xs) {dC : Nat → ClassId} {dI : Nat → Nat → Nat} {A : Nat → Prop} (hA : ∀ q : Nat, s.heap.size ≤ q → A q) (hbA : ¬ A b) (hAs : ∀ q : Nat, A q → s.heap.size ≤ q) {x y : Nat} {gx gy : Nat → Nat → Nat} {cax cay : Nat → Nat → ClassId} {H : Heap} {locs : List Loc} (hK : va_K (dC, dI) classes [((cax 1 0), .int), ((cax 1 1), .int), ((cay 12 25), .int), ((cay 12 24), .int)] s) (hP : va_P (dC, dI) classes [(x, .inr (11, (o11 x gx))), ((gx 11 3), .inr (1, (o1 x gx))), ((gx 11 4), .inr (8, (o8 x gx))), ((gx 1 0), .inl ((cax 1 0), 8, .inl (fun _ => 0))), ((gx 1 1), .inl ((cax 1 1), 8, .inl (fun _ => 0))), (y, .inr (12, (o12 y gy))), ((gy 12 25), .inl ((cay 12 25), 8, .inl (fun _ => 0))), ((gy 12 24), .inl ((cay 12 24), 8, .inl (fun _ => 0)))] H) (hD : va_D A [(x, .inr (11, (o11 x gx))), ((gx 11 3), .inr (1, (o1 x gx))), ((gx 11 4), .inr (8, (o8 x gx))), ((gx 1 0), .inl ((cax 1 0), 8, .inl (fun _ => 0))), ((gx 1 1), .inl ((cax 1 1), 8, .inl (fun _ => 0))), (y, .inr (12, (o12 y gy))), ((gy 12 25), .inl ((cay 12 25), 8, .inl (fun _ => 0))), ((gy 12 24), .inl ((cay 12 24), 8, .inl (fun _ => 0)))]) (hS : va_S A s.heap H locs) {ls : Array Slot} (hl : lv_has ls 4 [(3, .int 0), (2, .ref y), (1, .ref x), (0, .ref b)]) : W p l e room_1 s m #[Value.ref b] below meth c H locs 98 5431 (lw_Z below #[Value.ref b] s) (F0 m 604 ls []) := by
  obtain ⟨hx, hb, hr, hml, hown, hts, hX, hbl, hlocks, hgv⟩ := id C0
  have ht := tb_of hts
  refine lv_aload_n hx hb dL_law_604 rfl (lv_at hl 2 rfl) ?_
  refine lv_aload_n hx hb dL_law_605 rfl (lv_at hl 3 rfl) ?_
  refine lv_iload_n hx hb dL_law_606 rfl (lv_at hl 0 rfl) ?_
  refine lv_iconst (v := 1) hx hb dL_law_607 (by decide) ?_
  refine lv_iadd hx hb dL_law_608 ?_
  refine lv_topi (fun v1 ev1 => ?_)
  obtain rfl : 1 = v1 := (ev1.trans (by decide)).symm
  refine va_sld hx hb hX hbl hbA hS (vp_in_iff.mpr (by rw [hL]; decide) : vp_in 1 L) dL_law_609 ?_
  refine lv_topi (fun v2 ev2 => ?_)
  obtain rfl : xs 1 = v2 := ev2.symm
  have hPc := hP.sub (ws' := [(x, .inr (11, (o11 x gx))), ((gx 11 3), .inr (1, (o1 x gx))), ((gx 11 4), .inr (8, (o8 x gx))), ((gx 1 0), .inl ((cax 1 0), 8, .inl (fun _ => 0))), ((gx 1 1), .inl ((cax 1 1), 8, .inl (fun _ => 0)))]) [0, 1, 2, 3, 4] rfl
  have hKc := hK.sub (tys' := [((cax 1 0), .int), ((cax 1 1), .int)]) [0, 1] rfl
  have hDc := hD.sub (ws' := [(x, .inr (11, (o11 x gx))), ((gx 11 3), .inr (1, (o1 x gx))), ((gx 11 4), .inr (8, (o8 x gx))), ((gx 1 0), .inl ((cax 1 0), 8, .inl (fun _ => 0))), ((gx 1 1), .inl ((cax 1 1), 8, .inl (fun _ => 0)))]) [0, 1, 2, 3, 4] (by decide) rfl
  have hFc := va_free (wc := [(x, .inr (11, (o11 x gx))), ((gx 11 3), .inr (1, (o1 x gx))), ((gx 11 4), .inr (8, (o8 x gx))), ((gx 1 0), .inl ((cax 1 0), 8, .inl (fun _ => 0))), ((gx 1 1), .inl ((cax 1 1), 8, .inl (fun _ => 0)))]) hD hS hA [0, 1, 2, 3, 4] rfl
  refine va_calli (va_runV (As := [.int (xs 1)]) (rest := []) ⟨hx, hb, hml, hown, ht⟩ (c_X11_rule l dC dI H.size x gx cax (xs 1)) (kV 1 ht m_676 m_677 m_678 m_77 m_679 rfl rfl hd_X11_rule_v ⟨Nat.le_of_ble_eq_true rfl, Nat.le_of_ble_eq_true rfl⟩) (vW hPc hKc hDc (va_recv hKc hPc (ci := 11) (q0 := 0) rfl rfl)) rfl rfl hl.1 rfl (lv_room (Nat.le_of_ble_eq_true rfl)) dL_law_610 ⟨Nat.le_of_ble_eq_true rfl, Nat.le_of_ble_eq_true rfl⟩) hS (fun q _ h => hFc q h) hFc (fun r3 u t H1 locs ht9 hvm hr3 hB hz1 hk1 hS => ?_)
  have hP1 : va_P (dC, dI) classes [] H1 := noP
  have hD1 : va_D (va_A [(x, .inr (11, (o11 x gx))), ((gx 11 3), .inr (1, (o1 x gx))), ((gx 11 4), .inr (8, (o8 x gx))), ((gx 1 0), .inl ((cax 1 0), 8, .inl (fun _ => 0))), ((gx 1 1), .inl ((cax 1 1), 8, .inl (fun _ => 0)))] H.size) [] := noD
  obtain ⟨hP, hD⟩ := va_join (wr := [(y, .inr (12, (o12 y gy))), ((gy 12 25), .inl ((cay 12 25), 8, .inl (fun _ => 0))), ((gy 12 24), .inl ((cay 12 24), 8, .inl (fun _ => 0)))]) (w1 := []) hP hD [0, 1, 2, 3, 4] [5, 6, 7] rfl rfl (by decide) (by decide) hk1 hFc hP1 hD1
  generalize H1 = H at hP hS ⊢
  have hP : va_P (dC, dI) classes [(y, .inr (12, (o12 y gy))), ((gy 12 25), .inl ((cay 12 25), 8, .inl (fun _ => 0))), ((gy 12 24), .inl ((cay 12 24), 8, .inl (fun _ => 0)))] H := hP
  have hD : va_D A [(y, .inr (12, (o12 y gy))), ((gy 12 25), .inl ((cay 12 25), 8, .inl (fun _ => 0))), ((gy 12 24), .inl ((cay 12 24), 8, .inl (fun _ => 0)))] := hD
  obtain rfl : (F_rule (xs 1)) = r3 := hr3.symm
  refine lv_aload_n hx hb dL_law_613 rfl (lv_at hl 1 rfl) ?_
  refine lv_aload_n hx hb dL_law_614 rfl (lv_at hl 3 rfl) ?_
  refine lv_iload_n hx hb dL_law_615 rfl (lv_at hl 0 rfl) ?_
  refine lv_iconst (v := 1) hx hb dL_law_616 (by decide) ?_
  refine lv_iadd hx hb dL_law_617 ?_
  refine lv_topi (fun v4 ev4 => ?_)
  obtain rfl : 1 = v4 := (ev4.trans (by decide)).symm
  refine va_sld hx hb hX hbl hbA hS (vp_in_iff.mpr (by rw [hL]; decide) : vp_in 1 L) dL_law_618 ?_
  refine lv_topi (fun v5 ev5 => ?_)
  obtain rfl : xs 1 = v5 := ev5.symm
  have hPc := hP.sub (ws' := [(y, .inr (12, (o12 y gy))), ((gy 12 25), .inl ((cay 12 25), 8, .inl (fun _ => 0))), ((gy 12 24), .inl ((cay 12 24), 8, .inl (fun _ => 0)))]) [0, 1, 2] rfl
  have hKc := hK.sub (tys' := [((cay 12 25), .int), ((cay 12 24), .int)]) [2, 3] rfl
  have hDc := hD.sub (ws' := [(y, .inr (12, (o12 y gy))), ((gy 12 25), .inl ((cay 12 25), 8, .inl (fun _ => 0))), ((gy 12 24), .inl ((cay 12 24), 8, .inl (fun _ => 0)))]) [0, 1, 2] (by decide) rfl
  have hFc := va_free (wc := [(y, .inr (12, (o12 y gy))), ((gy 12 25), .inl ((cay 12 25), 8, .inl (fun _ => 0))), ((gy 12 24), .inl ((cay 12 24), 8, .inl (fun _ => 0)))]) hD hS hA [0, 1, 2] rfl
  refine va_calli (va_runV (As := [.int (xs 1)]) (rest := [.int (F_rule (xs 1))]) ⟨hx, hb, hml, hown, ht⟩ (c_X12_rule l dC dI H.size y gy cay (xs 1)) (kV 1 ht m_1454 m_1455 m_1456 m_89 m_1457 rfl rfl hd_X12_rule_v ⟨Nat.le_of_ble_eq_true rfl, Nat.le_of_ble_eq_true rfl⟩) (vW hPc hKc hDc (va_recv hKc hPc (ci := 12) (q0 := 0) rfl rfl)) rfl rfl hl.1 rfl (lv_room (Nat.le_of_ble_eq_true rfl)) dL_law_619 ⟨Nat.le_of_ble_eq_true rfl, Nat.le_of_ble_eq_true rfl⟩) hS (fun q _ h => hFc q h) hFc (fun r6 u t H1 locs ht9 hvm hr6 hB hz1 hk1 hS => ?_)
  have hP1 : va_P (dC, dI) classes [] H1 := noP
  have hD1 : va_D (va_A [(y, .inr (12, (o12 y gy))), ((gy 12 25), .inl ((cay 12 25), 8, .inl (fun _ => 0))), ((gy 12 24), .inl ((cay 12 24), 8, .inl (fun _ => 0)))] H.size) [] := noD
  obtain ⟨hP, hD⟩ := va_join (wr := []) (w1 := []) hP hD [0, 1, 2] [] rfl rfl (by decide) (by decide) hk1 hFc hP1 hD1
  generalize H1 = H at hP hS ⊢
  have hP : va_P (dC, dI) classes [] H := hP
  have hD : va_D A [] := hD
  obtain rfl : (F_rule (xs 1)) = r6 := hr6.symm
  refine lv_icmp_eq (tgt := 1511) hx hb dL_law_622 (by decide) (fun c7 => ?_) (fun c7 => ?_)
  · skip
    exact law_tail l hL C0 hA hbA hAs hS hl
  · exact absurd rfl c7
set_option maxHeartbeats 4000000 in
set_option maxRecDepth 100000 in
/-- fault -/
theorem law_11 {p : Program} {e : Env} {s : State} {m : MethodId} {below : List Frame} {meth : Method} {c : Code} (l : Launch) {b L : Nat} {xs : Nat → Int32} (hL : L = 8) (C0 : lw_At p s m meth c b L xs) {dC : Nat → ClassId} {dI : Nat → Nat → Nat} {A : Nat → Prop} (hA : ∀ q : Nat, s.heap.size ≤ q → A q) (hbA : ¬ A b) (hAs : ∀ q : Nat, A q → s.heap.size ≤ q) {x y : Nat} {gx gy : Nat → Nat → Nat} {cax cay : Nat → Nat → ClassId} {H : Heap} {locs : List Loc} (hK : va_K (dC, dI) classes [] s) (hP : va_P (dC, dI) classes [(x, .inr (11, (o11 x gx))), ((gx 11 4), .inr (8, (o8 x gx))), (y, .inr (12, (o12 y gy)))] H) (hD : va_D A [(x, .inr (11, (o11 x gx))), ((gx 11 4), .inr (8, (o8 x gx))), (y, .inr (12, (o12 y gy)))]) (hS : va_S A s.heap H locs) {ls : Array Slot} (hl : lv_has ls 4 [(3, .int 0), (2, .ref y), (1, .ref x), (0, .ref b)]) : W p l e room_1 s m #[Value.ref b] below meth c H locs 98 5431 (lw_Z below #[Value.ref b] s) (F0 m 627 ls []) := by
  obtain ⟨hx, hb, hr, hml, hown, hts, hX, hbl, hlocks, hgv⟩ := id C0
  have ht := tb_of hts
  refine lv_aload_n hx hb dL_law_627 rfl (lv_at hl 2 rfl) ?_
  have hPc := hP.sub (ws' := [(x, .inr (11, (o11 x gx))), ((gx 11 4), .inr (8, (o8 x gx)))]) [0, 1] rfl
  have hKc := hK.sub (tys' := []) [] rfl
  refine vp_callSi (W.runV (As := []) (rest := []) ⟨hx, hb, hml, hown, ht⟩ (c_X11_fault l dC dI x gx cax) (kV 0 ht m_809 m_810 m_811 m_77 m_812 rfl rfl hd_X11_fault_v ⟨Nat.le_of_ble_eq_true rfl, Nat.le_of_ble_eq_true rfl⟩) (vR hPc hKc (va_recv hKc hPc (ci := 11) (q0 := 0) rfl rfl)) rfl rfl hl.1 rfl (lv_room (Nat.le_of_ble_eq_true rfl)) dL_law_628 ⟨Nat.le_of_ble_eq_true rfl, Nat.le_of_ble_eq_true rfl⟩) (fun r1 hr1 => ?_)
  obtain rfl : (-1) = r1 := hr1.symm
  refine lv_aload_n hx hb dL_law_631 rfl (lv_at hl 1 rfl) ?_
  have hPc := hP.sub (ws' := [(y, .inr (12, (o12 y gy)))]) [2] rfl
  have hKc := hK.sub (tys' := []) [] rfl
  refine vp_callSi (W.runV (As := []) (rest := [.int (-1)]) ⟨hx, hb, hml, hown, ht⟩ (c_X12_fault l dC dI y gy cay) (kV 0 ht m_1500 m_1501 m_1502 m_89 m_1503 rfl rfl hd_X12_fault_v ⟨Nat.le_of_ble_eq_true rfl, Nat.le_of_ble_eq_true rfl⟩) (vR hPc hKc (va_recv hKc hPc (ci := 12) (q0 := 0) rfl rfl)) rfl rfl hl.1 rfl (lv_room (Nat.le_of_ble_eq_true rfl)) dL_law_632 ⟨Nat.le_of_ble_eq_true rfl, Nat.le_of_ble_eq_true rfl⟩) (fun r2 hr2 => ?_)
  obtain rfl : (-1) = r2 := hr2.symm
  refine lv_icmp_eq (tgt := 1511) hx hb dL_law_635 (by decide) (fun c3 => ?_) (fun c3 => ?_)
  · skip
    exact law_tail l hL C0 hA hbA hAs hS hl
  · exact absurd rfl c3
set_option maxHeartbeats 4000000 in
set_option maxRecDepth 100000 in
/-- force -/
theorem law_12 {p : Program} {e : Env} {s : State} {m : MethodId} {below : List Frame} {meth : Method} {c : Code} (l : Launch) {b L : Nat} {xs : Nat → Int32} (hL : L = 8) (C0 : lw_At p s m meth c b L xs) {dC : Nat → ClassId} {dI : Nat → Nat → Nat} {A : Nat → Prop} (hA : ∀ q : Nat, s.heap.size ≤ q → A q) (hbA : ¬ A b) (hAs : ∀ q : Nat, A q → s.heap.size ≤ q) {x y : Nat} {gx gy : Nat → Nat → Nat} {cax cay : Nat → Nat → ClassId} {H : Heap} {locs : List Loc} (hZl : ∀ (H : Heap) (locs : List Loc), va_S A s.heap H locs → ∃ t : Nat, va_Z "SilkHouse$Book" "AT_FIRST" "[I" (.ref t) (fun _ => False) s H ∧ va_T .int t 6 (fun j => .int (F_AFT j)) (fun _ => False) s H) (hK : va_K (dC, dI) classes [] s) (hP : va_P (dC, dI) classes [(x, .inr (11, (o11 x gx))), ((gx 11 3), .inr (1, (o1 x gx))), (y, .inr (12, (o12 y gy)))] H) (hD : va_D A [(x, .inr (11, (o11 x gx))), ((gx 11 3), .inr (1, (o1 x gx))), (y, .inr (12, (o12 y gy)))]) (hS : va_S A s.heap H locs) {ls : Array Slot} (hl : lv_has ls 4 [(3, .int 0), (2, .ref y), (1, .ref x), (0, .ref b)]) : W p l e room_1 s m #[Value.ref b] below meth c H locs 98 5431 (lw_Z below #[Value.ref b] s) (F0 m 640 ls []) := by
  obtain ⟨hx, hb, hr, hml, hown, hts, hX, hbl, hlocks, hgv⟩ := id C0
  have ht := tb_of hts
  refine lv_aload_n hx hb dL_law_640 rfl (lv_at hl 2 rfl) ?_
  refine lv_aload_n hx hb dL_law_641 rfl (lv_at hl 3 rfl) ?_
  refine lv_iload_n hx hb dL_law_642 rfl (lv_at hl 0 rfl) ?_
  refine lv_iconst (v := 1) hx hb dL_law_643 (by decide) ?_
  refine lv_iadd hx hb dL_law_644 ?_
  refine lv_topi (fun v1 ev1 => ?_)
  obtain rfl : 1 = v1 := (ev1.trans (by decide)).symm
  refine va_sld hx hb hX hbl hbA hS (vp_in_iff.mpr (by rw [hL]; decide) : vp_in 1 L) dL_law_645 ?_
  refine lv_topi (fun v2 ev2 => ?_)
  obtain rfl : xs 1 = v2 := ev2.symm
  refine lv_aload_n hx hb dL_law_646 rfl (lv_at hl 3 rfl) ?_
  refine lv_iload_n hx hb dL_law_647 rfl (lv_at hl 0 rfl) ?_
  refine lv_iconst (v := 2) hx hb dL_law_648 (by decide) ?_
  refine lv_iadd hx hb dL_law_649 ?_
  refine lv_topi (fun v3 ev3 => ?_)
  obtain rfl : 2 = v3 := (ev3.trans (by decide)).symm
  refine va_sld hx hb hX hbl hbA hS (vp_in_iff.mpr (by rw [hL]; decide) : vp_in 2 L) dL_law_650 ?_
  refine lv_topi (fun v4 ev4 => ?_)
  obtain rfl : xs 2 = v4 := ev4.symm
  have hPc := hP.sub (ws' := [(x, .inr (11, (o11 x gx))), ((gx 11 3), .inr (1, (o1 x gx)))]) [0, 1] rfl
  have hKc := hK.sub (tys' := []) [] rfl
  refine vp_callSi (W.runV (As := [.int (xs 1), .int (xs 2)]) (rest := []) ⟨hx, hb, hml, hown, ht⟩ (c_X11_force l dC dI x gx cax (xs 1) (xs 2)) (kV 2 ht m_813 m_814 m_815 m_77 m_816 rfl rfl hd_X11_force_v ⟨Nat.le_of_ble_eq_true rfl, Nat.le_of_ble_eq_true rfl⟩) (vRZ hPc hKc (hZl H locs hS) (va_recv hKc hPc (ci := 11) (q0 := 0) rfl rfl)) rfl rfl hl.1 rfl (lv_room (Nat.le_of_ble_eq_true rfl)) dL_law_651 ⟨Nat.le_of_ble_eq_true rfl, Nat.le_of_ble_eq_true rfl⟩) (fun r5 hr5 => ?_)
  obtain rfl : (F_force (xs 1) (xs 2)) = r5 := hr5.symm
  refine lv_aload_n hx hb dL_law_654 rfl (lv_at hl 1 rfl) ?_
  refine lv_aload_n hx hb dL_law_655 rfl (lv_at hl 3 rfl) ?_
  refine lv_iload_n hx hb dL_law_656 rfl (lv_at hl 0 rfl) ?_
  refine lv_iconst (v := 1) hx hb dL_law_657 (by decide) ?_
  refine lv_iadd hx hb dL_law_658 ?_
  refine lv_topi (fun v6 ev6 => ?_)
  obtain rfl : 1 = v6 := (ev6.trans (by decide)).symm
  refine va_sld hx hb hX hbl hbA hS (vp_in_iff.mpr (by rw [hL]; decide) : vp_in 1 L) dL_law_659 ?_
  refine lv_topi (fun v7 ev7 => ?_)
  obtain rfl : xs 1 = v7 := ev7.symm
  refine lv_aload_n hx hb dL_law_660 rfl (lv_at hl 3 rfl) ?_
  refine lv_iload_n hx hb dL_law_661 rfl (lv_at hl 0 rfl) ?_
  refine lv_iconst (v := 2) hx hb dL_law_662 (by decide) ?_
  refine lv_iadd hx hb dL_law_663 ?_
  refine lv_topi (fun v8 ev8 => ?_)
  obtain rfl : 2 = v8 := (ev8.trans (by decide)).symm
  refine va_sld hx hb hX hbl hbA hS (vp_in_iff.mpr (by rw [hL]; decide) : vp_in 2 L) dL_law_664 ?_
  refine lv_topi (fun v9 ev9 => ?_)
  obtain rfl : xs 2 = v9 := ev9.symm
  have hPc := hP.sub (ws' := [(y, .inr (12, (o12 y gy)))]) [2] rfl
  have hKc := hK.sub (tys' := []) [] rfl
  have hDc := hD.sub (ws' := [(y, .inr (12, (o12 y gy)))]) [2] (by decide) rfl
  have hFc := va_free (wc := [(y, .inr (12, (o12 y gy)))]) hD hS hA [2] rfl
  refine va_calli (va_runV (As := [.int (xs 1), .int (xs 2)]) (rest := [.int (F_force (xs 1) (xs 2))]) ⟨hx, hb, hml, hown, ht⟩ (c_X12_force l dC dI H.size y gy cay (xs 1) (xs 2)) (kV 2 ht m_1504 m_1505 m_1506 m_89 m_1507 rfl rfl hd_X12_force_v ⟨Nat.le_of_ble_eq_true rfl, Nat.le_of_ble_eq_true rfl⟩) (vW hPc hKc hDc (va_recv hKc hPc (ci := 12) (q0 := 0) rfl rfl)) rfl rfl hl.1 rfl (lv_room (Nat.le_of_ble_eq_true rfl)) dL_law_665 ⟨Nat.le_of_ble_eq_true rfl, Nat.le_of_ble_eq_true rfl⟩) hS (fun q _ h => hFc q h) hFc (fun r10 u t H1 locs ht9 hvm hr10 hB hz1 hk1 hS => ?_)
  have hP1 : va_P (dC, dI) classes [] H1 := noP
  have hD1 : va_D (va_A [(y, .inr (12, (o12 y gy)))] H.size) [] := noD
  obtain ⟨hP, hD⟩ := va_join (wr := [(x, .inr (11, (o11 x gx))), ((gx 11 3), .inr (1, (o1 x gx)))]) (w1 := []) hP hD [2] [0, 1] rfl rfl (by decide) (by decide) hk1 hFc hP1 hD1
  generalize H1 = H at hP hS ⊢
  have hP : va_P (dC, dI) classes [(x, .inr (11, (o11 x gx))), ((gx 11 3), .inr (1, (o1 x gx)))] H := hP
  have hD : va_D A [(x, .inr (11, (o11 x gx))), ((gx 11 3), .inr (1, (o1 x gx)))] := hD
  obtain rfl : (F_force (xs 1) (xs 2)) = r10 := hr10.symm
  refine lv_icmp_eq (tgt := 1511) hx hb dL_law_668 (by decide) (fun c11 => ?_) (fun c11 => ?_)
  · skip
    exact law_tail l hL C0 hA hbA hAs hS hl
  · exact absurd rfl c11
set_option maxHeartbeats 4000000 in
set_option maxRecDepth 100000 in
/-- letter -/
theorem law_13 {p : Program} {e : Env} {s : State} {m : MethodId} {below : List Frame} {meth : Method} {c : Code} (l : Launch) {b L : Nat} {xs : Nat → Int32} (hL : L = 8) (C0 : lw_At p s m meth c b L xs) {dC : Nat → ClassId} {dI : Nat → Nat → Nat} {A : Nat → Prop} (hA : ∀ q : Nat, s.heap.size ≤ q → A q) (hbA : ¬ A b) (hAs : ∀ q : Nat, A q → s.heap.size ≤ q) {x y : Nat} {gx gy : Nat → Nat → Nat} {cax cay : Nat → Nat → ClassId} {H : Heap} {locs : List Loc} (hK : va_K (dC, dI) classes [] s) (hP : va_P (dC, dI) classes [(x, .inr (11, (o11 x gx))), ((gx 11 3), .inr (1, (o1 x gx))), (y, .inr (12, (o12 y gy)))] H) (hD : va_D A [(x, .inr (11, (o11 x gx))), ((gx 11 3), .inr (1, (o1 x gx))), (y, .inr (12, (o12 y gy)))]) (hS : va_S A s.heap H locs) {ls : Array Slot} (hl : lv_has ls 4 [(3, .int 0), (2, .ref y), (1, .ref x), (0, .ref b)]) : W p l e room_1 s m #[Value.ref b] below meth c H locs 98 5431 (lw_Z below #[Value.ref b] s) (F0 m 673 ls []) := by
  obtain ⟨hx, hb, hr, hml, hown, hts, hX, hbl, hlocks, hgv⟩ := id C0
  have ht := tb_of hts
  refine lv_aload_n hx hb dL_law_673 rfl (lv_at hl 2 rfl) ?_
  refine lv_aload_n hx hb dL_law_674 rfl (lv_at hl 3 rfl) ?_
  refine lv_iload_n hx hb dL_law_675 rfl (lv_at hl 0 rfl) ?_
  refine lv_iconst (v := 1) hx hb dL_law_676 (by decide) ?_
  refine lv_iadd hx hb dL_law_677 ?_
  refine lv_topi (fun v1 ev1 => ?_)
  obtain rfl : 1 = v1 := (ev1.trans (by decide)).symm
  refine va_sld hx hb hX hbl hbA hS (vp_in_iff.mpr (by rw [hL]; decide) : vp_in 1 L) dL_law_678 ?_
  refine lv_topi (fun v2 ev2 => ?_)
  obtain rfl : xs 1 = v2 := ev2.symm
  refine lv_aload_n hx hb dL_law_679 rfl (lv_at hl 3 rfl) ?_
  refine lv_iload_n hx hb dL_law_680 rfl (lv_at hl 0 rfl) ?_
  refine lv_iconst (v := 2) hx hb dL_law_681 (by decide) ?_
  refine lv_iadd hx hb dL_law_682 ?_
  refine lv_topi (fun v3 ev3 => ?_)
  obtain rfl : 2 = v3 := (ev3.trans (by decide)).symm
  refine va_sld hx hb hX hbl hbA hS (vp_in_iff.mpr (by rw [hL]; decide) : vp_in 2 L) dL_law_683 ?_
  refine lv_topi (fun v4 ev4 => ?_)
  obtain rfl : xs 2 = v4 := ev4.symm
  have hPc := hP.sub (ws' := [(x, .inr (11, (o11 x gx))), ((gx 11 3), .inr (1, (o1 x gx)))]) [0, 1] rfl
  have hKc := hK.sub (tys' := []) [] rfl
  refine vp_callSi (W.runV (As := [.int (xs 1), .int (xs 2)]) (rest := []) ⟨hx, hb, hml, hown, ht⟩ (c_X11_letter l dC dI x gx cax (xs 1) (xs 2)) (kV 2 ht m_817 m_818 m_819 m_77 m_820 rfl rfl hd_X11_letter_v ⟨Nat.le_of_ble_eq_true rfl, Nat.le_of_ble_eq_true rfl⟩) (vR hPc hKc (va_recv hKc hPc (ci := 11) (q0 := 0) rfl rfl)) rfl rfl hl.1 rfl (lv_room (Nat.le_of_ble_eq_true rfl)) dL_law_684 ⟨Nat.le_of_ble_eq_true rfl, Nat.le_of_ble_eq_true rfl⟩) (fun r5 hr5 => ?_)
  obtain rfl : (-100001) = r5 := hr5.symm
  refine lv_aload_n hx hb dL_law_687 rfl (lv_at hl 1 rfl) ?_
  refine lv_aload_n hx hb dL_law_688 rfl (lv_at hl 3 rfl) ?_
  refine lv_iload_n hx hb dL_law_689 rfl (lv_at hl 0 rfl) ?_
  refine lv_iconst (v := 1) hx hb dL_law_690 (by decide) ?_
  refine lv_iadd hx hb dL_law_691 ?_
  refine lv_topi (fun v6 ev6 => ?_)
  obtain rfl : 1 = v6 := (ev6.trans (by decide)).symm
  refine va_sld hx hb hX hbl hbA hS (vp_in_iff.mpr (by rw [hL]; decide) : vp_in 1 L) dL_law_692 ?_
  refine lv_topi (fun v7 ev7 => ?_)
  obtain rfl : xs 1 = v7 := ev7.symm
  refine lv_aload_n hx hb dL_law_693 rfl (lv_at hl 3 rfl) ?_
  refine lv_iload_n hx hb dL_law_694 rfl (lv_at hl 0 rfl) ?_
  refine lv_iconst (v := 2) hx hb dL_law_695 (by decide) ?_
  refine lv_iadd hx hb dL_law_696 ?_
  refine lv_topi (fun v8 ev8 => ?_)
  obtain rfl : 2 = v8 := (ev8.trans (by decide)).symm
  refine va_sld hx hb hX hbl hbA hS (vp_in_iff.mpr (by rw [hL]; decide) : vp_in 2 L) dL_law_697 ?_
  refine lv_topi (fun v9 ev9 => ?_)
  obtain rfl : xs 2 = v9 := ev9.symm
  have hPc := hP.sub (ws' := [(y, .inr (12, (o12 y gy)))]) [2] rfl
  have hKc := hK.sub (tys' := []) [] rfl
  refine vp_callSi (W.runV (As := [.int (xs 1), .int (xs 2)]) (rest := [.int (-100001)]) ⟨hx, hb, hml, hown, ht⟩ (c_X12_letter l dC dI y gy cay (xs 1) (xs 2)) (kV 2 ht m_1520 m_1521 m_1522 m_89 m_1523 rfl rfl hd_X12_letter_v ⟨Nat.le_of_ble_eq_true rfl, Nat.le_of_ble_eq_true rfl⟩) (vR hPc hKc (va_recv hKc hPc (ci := 12) (q0 := 0) rfl rfl)) rfl rfl hl.1 rfl (lv_room (Nat.le_of_ble_eq_true rfl)) dL_law_698 ⟨Nat.le_of_ble_eq_true rfl, Nat.le_of_ble_eq_true rfl⟩) (fun r10 hr10 => ?_)
  obtain rfl : (-100001) = r10 := hr10.symm
  refine lv_icmp_eq (tgt := 1511) hx hb dL_law_701 (by decide) (fun c11 => ?_) (fun c11 => ?_)
  · skip
    exact law_tail l hL C0 hA hbA hAs hS hl
  · exact absurd rfl c11
set_option maxHeartbeats 4000000 in
set_option maxRecDepth 100000 in
/-- state -/
theorem law_14 {p : Program} {e : Env} {s : State} {m : MethodId} {below : List Frame} {meth : Method} {c : Code} (l : Launch) {b L : Nat} {xs : Nat → Int32} (hL : L = 8) (C0 : lw_At p s m meth c b L xs) {dC : Nat → ClassId} {dI : Nat → Nat → Nat} {A : Nat → Prop} (hA : ∀ q : Nat, s.heap.size ≤ q → A q) (hbA : ¬ A b) (hAs : ∀ q : Nat, A q → s.heap.size ≤ q) {x y : Nat} {gx gy : Nat → Nat → Nat} {cax cay : Nat → Nat → ClassId} {H : Heap} {locs : List Loc} (hK : va_K (dC, dI) classes [] s) (hP : va_P (dC, dI) classes [(x, .inr (11, (o11 x gx))), ((gx 11 2), .inr (0, (o0 x gx))), (y, .inr (12, (o12 y gy)))] H) (hD : va_D A [(x, .inr (11, (o11 x gx))), ((gx 11 2), .inr (0, (o0 x gx))), (y, .inr (12, (o12 y gy)))]) (hS : va_S A s.heap H locs) {ls : Array Slot} (hl : lv_has ls 4 [(3, .int 0), (2, .ref y), (1, .ref x), (0, .ref b)]) : W p l e room_1 s m #[Value.ref b] below meth c H locs 98 5431 (lw_Z below #[Value.ref b] s) (F0 m 706 ls []) := by
  obtain ⟨hx, hb, hr, hml, hown, hts, hX, hbl, hlocks, hgv⟩ := id C0
  have ht := tb_of hts
  refine lv_aload_n hx hb dL_law_706 rfl (lv_at hl 2 rfl) ?_
  refine lv_aload_n hx hb dL_law_707 rfl (lv_at hl 3 rfl) ?_
  refine lv_iload_n hx hb dL_law_708 rfl (lv_at hl 0 rfl) ?_
  refine lv_iconst (v := 1) hx hb dL_law_709 (by decide) ?_
  refine lv_iadd hx hb dL_law_710 ?_
  refine lv_topi (fun v1 ev1 => ?_)
  obtain rfl : 1 = v1 := (ev1.trans (by decide)).symm
  refine va_sld hx hb hX hbl hbA hS (vp_in_iff.mpr (by rw [hL]; decide) : vp_in 1 L) dL_law_711 ?_
  refine lv_topi (fun v2 ev2 => ?_)
  obtain rfl : xs 1 = v2 := ev2.symm
  refine lv_aload_n hx hb dL_law_712 rfl (lv_at hl 3 rfl) ?_
  refine lv_iload_n hx hb dL_law_713 rfl (lv_at hl 0 rfl) ?_
  refine lv_iconst (v := 2) hx hb dL_law_714 (by decide) ?_
  refine lv_iadd hx hb dL_law_715 ?_
  refine lv_topi (fun v3 ev3 => ?_)
  obtain rfl : 2 = v3 := (ev3.trans (by decide)).symm
  refine va_sld hx hb hX hbl hbA hS (vp_in_iff.mpr (by rw [hL]; decide) : vp_in 2 L) dL_law_716 ?_
  refine lv_topi (fun v4 ev4 => ?_)
  obtain rfl : xs 2 = v4 := ev4.symm
  have hPc := hP.sub (ws' := [(x, .inr (11, (o11 x gx))), ((gx 11 2), .inr (0, (o0 x gx)))]) [0, 1] rfl
  have hKc := hK.sub (tys' := []) [] rfl
  refine vp_callSi (W.runV (As := [.int (xs 1), .int (xs 2)]) (rest := []) ⟨hx, hb, hml, hown, ht⟩ (c_X11_state l dC dI x gx cax (xs 1) (xs 2)) (kV 2 ht m_829 m_830 m_831 m_77 m_832 rfl rfl hd_X11_state_v ⟨Nat.le_of_ble_eq_true rfl, Nat.le_of_ble_eq_true rfl⟩) (vR hPc hKc (va_recv hKc hPc (ci := 11) (q0 := 0) rfl rfl)) rfl rfl hl.1 rfl (lv_room (Nat.le_of_ble_eq_true rfl)) dL_law_717 ⟨Nat.le_of_ble_eq_true rfl, Nat.le_of_ble_eq_true rfl⟩) (fun r5 hr5 => ?_)
  obtain rfl : (-100001) = r5 := hr5.symm
  refine lv_aload_n hx hb dL_law_720 rfl (lv_at hl 1 rfl) ?_
  refine lv_aload_n hx hb dL_law_721 rfl (lv_at hl 3 rfl) ?_
  refine lv_iload_n hx hb dL_law_722 rfl (lv_at hl 0 rfl) ?_
  refine lv_iconst (v := 1) hx hb dL_law_723 (by decide) ?_
  refine lv_iadd hx hb dL_law_724 ?_
  refine lv_topi (fun v6 ev6 => ?_)
  obtain rfl : 1 = v6 := (ev6.trans (by decide)).symm
  refine va_sld hx hb hX hbl hbA hS (vp_in_iff.mpr (by rw [hL]; decide) : vp_in 1 L) dL_law_725 ?_
  refine lv_topi (fun v7 ev7 => ?_)
  obtain rfl : xs 1 = v7 := ev7.symm
  refine lv_aload_n hx hb dL_law_726 rfl (lv_at hl 3 rfl) ?_
  refine lv_iload_n hx hb dL_law_727 rfl (lv_at hl 0 rfl) ?_
  refine lv_iconst (v := 2) hx hb dL_law_728 (by decide) ?_
  refine lv_iadd hx hb dL_law_729 ?_
  refine lv_topi (fun v8 ev8 => ?_)
  obtain rfl : 2 = v8 := (ev8.trans (by decide)).symm
  refine va_sld hx hb hX hbl hbA hS (vp_in_iff.mpr (by rw [hL]; decide) : vp_in 2 L) dL_law_730 ?_
  refine lv_topi (fun v9 ev9 => ?_)
  obtain rfl : xs 2 = v9 := ev9.symm
  have hPc := hP.sub (ws' := [(y, .inr (12, (o12 y gy)))]) [2] rfl
  have hKc := hK.sub (tys' := []) [] rfl
  refine vp_callSi (W.runV (As := [.int (xs 1), .int (xs 2)]) (rest := [.int (-100001)]) ⟨hx, hb, hml, hown, ht⟩ (c_X12_state l dC dI y gy cay (xs 1) (xs 2)) (kV 2 ht m_1524 m_1525 m_1526 m_89 m_1527 rfl rfl hd_X12_state_v ⟨Nat.le_of_ble_eq_true rfl, Nat.le_of_ble_eq_true rfl⟩) (vR hPc hKc (va_recv hKc hPc (ci := 12) (q0 := 0) rfl rfl)) rfl rfl hl.1 rfl (lv_room (Nat.le_of_ble_eq_true rfl)) dL_law_731 ⟨Nat.le_of_ble_eq_true rfl, Nat.le_of_ble_eq_true rfl⟩) (fun r10 hr10 => ?_)
  obtain rfl : (-100001) = r10 := hr10.symm
  refine lv_icmp_eq (tgt := 1511) hx hb dL_law_734 (by decide) (fun c11 => ?_) (fun c11 => ?_)
  · skip
    exact law_tail l hL C0 hA hbA hAs hS hl
  · exact absurd rfl c11
set_option maxHeartbeats 4000000 in
set_option maxRecDepth 100000 in
/-- lawful -/
theorem law_15 {p : Program} {e : Env} {s : State} {m : MethodId} {below : List Frame} {meth : Method} {c : Code} (l : Launch) {b L : Nat} {xs : Nat → Int32} (hL : L = 8) (C0 : lw_At p s m meth c b L xs) {dC : Nat → ClassId} {dI : Nat → Nat → Nat} {A : Nat → Prop} (hA : ∀ q : Nat, s.heap.size ≤ q → A q) (hbA : ¬ A b) (hAs : ∀ q : Nat, A q → s.heap.size ≤ q) {x y : Nat} {gx gy : Nat → Nat → Nat} {cax cay : Nat → Nat → ClassId} {H : Heap} {locs : List Loc} (hK : va_K (dC, dI) classes [] s) (hP : va_P (dC, dI) classes [(x, .inr (11, (o11 x gx))), ((gx 11 2), .inr (0, (o0 x gx))), (y, .inr (12, (o12 y gy)))] H) (hD : va_D A [(x, .inr (11, (o11 x gx))), ((gx 11 2), .inr (0, (o0 x gx))), (y, .inr (12, (o12 y gy)))]) (hS : va_S A s.heap H locs) {ls : Array Slot} (hl : lv_has ls 4 [(3, .int 0), (2, .ref y), (1, .ref x), (0, .ref b)]) : W p l e room_1 s m #[Value.ref b] below meth c H locs 98 5431 (lw_Z below #[Value.ref b] s) (F0 m 739 ls []) := by
  obtain ⟨hx, hb, hr, hml, hown, hts, hX, hbl, hlocks, hgv⟩ := id C0
  have ht := tb_of hts
  refine lv_aload_n hx hb dL_law_739 rfl (lv_at hl 2 rfl) ?_
  refine lv_aload_n hx hb dL_law_740 rfl (lv_at hl 3 rfl) ?_
  refine lv_iload_n hx hb dL_law_741 rfl (lv_at hl 0 rfl) ?_
  refine lv_iconst (v := 1) hx hb dL_law_742 (by decide) ?_
  refine lv_iadd hx hb dL_law_743 ?_
  refine lv_topi (fun v1 ev1 => ?_)
  obtain rfl : 1 = v1 := (ev1.trans (by decide)).symm
  refine va_sld hx hb hX hbl hbA hS (vp_in_iff.mpr (by rw [hL]; decide) : vp_in 1 L) dL_law_744 ?_
  refine lv_topi (fun v2 ev2 => ?_)
  obtain rfl : xs 1 = v2 := ev2.symm
  refine lv_aload_n hx hb dL_law_745 rfl (lv_at hl 3 rfl) ?_
  refine lv_iload_n hx hb dL_law_746 rfl (lv_at hl 0 rfl) ?_
  refine lv_iconst (v := 2) hx hb dL_law_747 (by decide) ?_
  refine lv_iadd hx hb dL_law_748 ?_
  refine lv_topi (fun v3 ev3 => ?_)
  obtain rfl : 2 = v3 := (ev3.trans (by decide)).symm
  refine va_sld hx hb hX hbl hbA hS (vp_in_iff.mpr (by rw [hL]; decide) : vp_in 2 L) dL_law_749 ?_
  refine lv_topi (fun v4 ev4 => ?_)
  obtain rfl : xs 2 = v4 := ev4.symm
  refine lv_aload_n hx hb dL_law_750 rfl (lv_at hl 3 rfl) ?_
  refine lv_iload_n hx hb dL_law_751 rfl (lv_at hl 0 rfl) ?_
  refine lv_iconst (v := 3) hx hb dL_law_752 (by decide) ?_
  refine lv_iadd hx hb dL_law_753 ?_
  refine lv_topi (fun v5 ev5 => ?_)
  obtain rfl : 3 = v5 := (ev5.trans (by decide)).symm
  refine va_sld hx hb hX hbl hbA hS (vp_in_iff.mpr (by rw [hL]; decide) : vp_in 3 L) dL_law_754 ?_
  refine lv_topi (fun v6 ev6 => ?_)
  obtain rfl : xs 3 = v6 := ev6.symm
  have hPc := hP.sub (ws' := [(x, .inr (11, (o11 x gx))), ((gx 11 2), .inr (0, (o0 x gx)))]) [0, 1] rfl
  have hKc := hK.sub (tys' := []) [] rfl
  refine vp_callSl (W.runV (As := [.int (xs 1), .int (xs 2), .int (xs 3)]) (rest := []) ⟨hx, hb, hml, hown, ht⟩ (c_X11_lawful l dC dI x gx cax (xs 1) (xs 2) (xs 3)) (kV 3 ht m_833 m_834 m_835 m_77 m_836 rfl rfl hd_X11_lawful_v ⟨Nat.le_of_ble_eq_true rfl, Nat.le_of_ble_eq_true rfl⟩) (vR hPc hKc (va_recv hKc hPc (ci := 11) (q0 := 0) rfl rfl)) rfl rfl hl.1 rfl (lv_room (Nat.le_of_ble_eq_true rfl)) dL_law_755 ⟨Nat.le_of_ble_eq_true rfl, Nat.le_of_ble_eq_true rfl⟩) (fun r7 hr7 => ?_)
  obtain rfl : (-100001) = r7 := hr7.symm
  refine lv_aload_n hx hb dL_law_758 rfl (lv_at hl 1 rfl) ?_
  refine lv_aload_n hx hb dL_law_759 rfl (lv_at hl 3 rfl) ?_
  refine lv_iload_n hx hb dL_law_760 rfl (lv_at hl 0 rfl) ?_
  refine lv_iconst (v := 1) hx hb dL_law_761 (by decide) ?_
  refine lv_iadd hx hb dL_law_762 ?_
  refine lv_topi (fun v8 ev8 => ?_)
  obtain rfl : 1 = v8 := (ev8.trans (by decide)).symm
  refine va_sld hx hb hX hbl hbA hS (vp_in_iff.mpr (by rw [hL]; decide) : vp_in 1 L) dL_law_763 ?_
  refine lv_topi (fun v9 ev9 => ?_)
  obtain rfl : xs 1 = v9 := ev9.symm
  refine lv_aload_n hx hb dL_law_764 rfl (lv_at hl 3 rfl) ?_
  refine lv_iload_n hx hb dL_law_765 rfl (lv_at hl 0 rfl) ?_
  refine lv_iconst (v := 2) hx hb dL_law_766 (by decide) ?_
  refine lv_iadd hx hb dL_law_767 ?_
  refine lv_topi (fun v10 ev10 => ?_)
  obtain rfl : 2 = v10 := (ev10.trans (by decide)).symm
  refine va_sld hx hb hX hbl hbA hS (vp_in_iff.mpr (by rw [hL]; decide) : vp_in 2 L) dL_law_768 ?_
  refine lv_topi (fun v11 ev11 => ?_)
  obtain rfl : xs 2 = v11 := ev11.symm
  refine lv_aload_n hx hb dL_law_769 rfl (lv_at hl 3 rfl) ?_
  refine lv_iload_n hx hb dL_law_770 rfl (lv_at hl 0 rfl) ?_
  refine lv_iconst (v := 3) hx hb dL_law_771 (by decide) ?_
  refine lv_iadd hx hb dL_law_772 ?_
  refine lv_topi (fun v12 ev12 => ?_)
  obtain rfl : 3 = v12 := (ev12.trans (by decide)).symm
  refine va_sld hx hb hX hbl hbA hS (vp_in_iff.mpr (by rw [hL]; decide) : vp_in 3 L) dL_law_773 ?_
  refine lv_topi (fun v13 ev13 => ?_)
  obtain rfl : xs 3 = v13 := ev13.symm
  have hPc := hP.sub (ws' := [(y, .inr (12, (o12 y gy)))]) [2] rfl
  have hKc := hK.sub (tys' := []) [] rfl
  refine vp_callSl (W.runV (As := [.int (xs 1), .int (xs 2), .int (xs 3)]) (rest := [.long (-100001)]) ⟨hx, hb, hml, hown, ht⟩ (c_X12_lawful l dC dI y gy cay (xs 1) (xs 2) (xs 3)) (kV 3 ht m_1556 m_1557 m_1558 m_89 m_1559 rfl rfl hd_X12_lawful_v ⟨Nat.le_of_ble_eq_true rfl, Nat.le_of_ble_eq_true rfl⟩) (vR hPc hKc (va_recv hKc hPc (ci := 12) (q0 := 0) rfl rfl)) rfl rfl hl.1 rfl (lv_room (Nat.le_of_ble_eq_true rfl)) dL_law_774 ⟨Nat.le_of_ble_eq_true rfl, Nat.le_of_ble_eq_true rfl⟩) (fun r14 hr14 => ?_)
  obtain rfl : (-100001) = r14 := hr14.symm
  refine W.lcmp hx hb dL_law_777 ?_
  refine lv_topi (fun v15 ev15 => ?_)
  obtain rfl : v15 = 0 := ev15.trans (by simp [lg_cmp])
  refine lv_if_eq (tgt := 1511) hx hb dL_law_778 (by decide) (fun c16 => ?_) (fun c16 => ?_)
  · skip
    exact law_tail l hL C0 hA hbA hAs hS hl
  · exact absurd rfl c16
set_option maxHeartbeats 4000000 in
set_option maxRecDepth 100000 in
/-- span -/
theorem law_16 {p : Program} {e : Env} {s : State} {m : MethodId} {below : List Frame} {meth : Method} {c : Code} (l : Launch) {b L : Nat} {xs : Nat → Int32} (hL : L = 8) (C0 : lw_At p s m meth c b L xs) {dC : Nat → ClassId} {dI : Nat → Nat → Nat} {A : Nat → Prop} (hA : ∀ q : Nat, s.heap.size ≤ q → A q) (hbA : ¬ A b) (hAs : ∀ q : Nat, A q → s.heap.size ≤ q) {x y : Nat} {gx gy : Nat → Nat → Nat} {cax cay : Nat → Nat → ClassId} {H : Heap} {locs : List Loc} (hK : va_K (dC, dI) classes [] s) (hP : va_P (dC, dI) classes [(x, .inr (11, (o11 x gx))), ((gx 11 2), .inr (0, (o0 x gx))), (y, .inr (12, (o12 y gy)))] H) (hD : va_D A [(x, .inr (11, (o11 x gx))), ((gx 11 2), .inr (0, (o0 x gx))), (y, .inr (12, (o12 y gy)))]) (hS : va_S A s.heap H locs) {ls : Array Slot} (hl : lv_has ls 4 [(3, .int 0), (2, .ref y), (1, .ref x), (0, .ref b)]) : W p l e room_1 s m #[Value.ref b] below meth c H locs 98 5431 (lw_Z below #[Value.ref b] s) (F0 m 783 ls []) := by
  obtain ⟨hx, hb, hr, hml, hown, hts, hX, hbl, hlocks, hgv⟩ := id C0
  have ht := tb_of hts
  refine lv_aload_n hx hb dL_law_783 rfl (lv_at hl 2 rfl) ?_
  refine lv_aload_n hx hb dL_law_784 rfl (lv_at hl 3 rfl) ?_
  refine lv_iload_n hx hb dL_law_785 rfl (lv_at hl 0 rfl) ?_
  refine lv_iconst (v := 1) hx hb dL_law_786 (by decide) ?_
  refine lv_iadd hx hb dL_law_787 ?_
  refine lv_topi (fun v1 ev1 => ?_)
  obtain rfl : 1 = v1 := (ev1.trans (by decide)).symm
  refine va_sld hx hb hX hbl hbA hS (vp_in_iff.mpr (by rw [hL]; decide) : vp_in 1 L) dL_law_788 ?_
  refine lv_topi (fun v2 ev2 => ?_)
  obtain rfl : xs 1 = v2 := ev2.symm
  refine lv_aload_n hx hb dL_law_789 rfl (lv_at hl 3 rfl) ?_
  refine lv_iload_n hx hb dL_law_790 rfl (lv_at hl 0 rfl) ?_
  refine lv_iconst (v := 2) hx hb dL_law_791 (by decide) ?_
  refine lv_iadd hx hb dL_law_792 ?_
  refine lv_topi (fun v3 ev3 => ?_)
  obtain rfl : 2 = v3 := (ev3.trans (by decide)).symm
  refine va_sld hx hb hX hbl hbA hS (vp_in_iff.mpr (by rw [hL]; decide) : vp_in 2 L) dL_law_793 ?_
  refine lv_topi (fun v4 ev4 => ?_)
  obtain rfl : xs 2 = v4 := ev4.symm
  have hPc := hP.sub (ws' := [(x, .inr (11, (o11 x gx))), ((gx 11 2), .inr (0, (o0 x gx)))]) [0, 1] rfl
  have hKc := hK.sub (tys' := []) [] rfl
  refine vp_callSl (W.runV (As := [.int (xs 1), .int (xs 2)]) (rest := []) ⟨hx, hb, hml, hown, ht⟩ (c_X11_span l dC dI x gx cax (xs 1) (xs 2)) (kV 2 ht m_854 m_855 m_856 m_77 m_857 rfl rfl hd_X11_span_v ⟨Nat.le_of_ble_eq_true rfl, Nat.le_of_ble_eq_true rfl⟩) (vR hPc hKc (va_recv hKc hPc (ci := 11) (q0 := 0) rfl rfl)) rfl rfl hl.1 rfl (lv_room (Nat.le_of_ble_eq_true rfl)) dL_law_794 ⟨Nat.le_of_ble_eq_true rfl, Nat.le_of_ble_eq_true rfl⟩) (fun r5 hr5 => ?_)
  obtain rfl : (-100001) = r5 := hr5.symm
  refine lv_aload_n hx hb dL_law_797 rfl (lv_at hl 1 rfl) ?_
  refine lv_aload_n hx hb dL_law_798 rfl (lv_at hl 3 rfl) ?_
  refine lv_iload_n hx hb dL_law_799 rfl (lv_at hl 0 rfl) ?_
  refine lv_iconst (v := 1) hx hb dL_law_800 (by decide) ?_
  refine lv_iadd hx hb dL_law_801 ?_
  refine lv_topi (fun v6 ev6 => ?_)
  obtain rfl : 1 = v6 := (ev6.trans (by decide)).symm
  refine va_sld hx hb hX hbl hbA hS (vp_in_iff.mpr (by rw [hL]; decide) : vp_in 1 L) dL_law_802 ?_
  refine lv_topi (fun v7 ev7 => ?_)
  obtain rfl : xs 1 = v7 := ev7.symm
  refine lv_aload_n hx hb dL_law_803 rfl (lv_at hl 3 rfl) ?_
  refine lv_iload_n hx hb dL_law_804 rfl (lv_at hl 0 rfl) ?_
  refine lv_iconst (v := 2) hx hb dL_law_805 (by decide) ?_
  refine lv_iadd hx hb dL_law_806 ?_
  refine lv_topi (fun v8 ev8 => ?_)
  obtain rfl : 2 = v8 := (ev8.trans (by decide)).symm
  refine va_sld hx hb hX hbl hbA hS (vp_in_iff.mpr (by rw [hL]; decide) : vp_in 2 L) dL_law_807 ?_
  refine lv_topi (fun v9 ev9 => ?_)
  obtain rfl : xs 2 = v9 := ev9.symm
  have hPc := hP.sub (ws' := [(y, .inr (12, (o12 y gy)))]) [2] rfl
  have hKc := hK.sub (tys' := []) [] rfl
  refine vp_callSl (W.runV (As := [.int (xs 1), .int (xs 2)]) (rest := [.long (-100001)]) ⟨hx, hb, hml, hown, ht⟩ (c_X12_span l dC dI y gy cay (xs 1) (xs 2)) (kV 2 ht m_1567 m_1568 m_1569 m_89 m_1570 rfl rfl hd_X12_span_v ⟨Nat.le_of_ble_eq_true rfl, Nat.le_of_ble_eq_true rfl⟩) (vR hPc hKc (va_recv hKc hPc (ci := 12) (q0 := 0) rfl rfl)) rfl rfl hl.1 rfl (lv_room (Nat.le_of_ble_eq_true rfl)) dL_law_808 ⟨Nat.le_of_ble_eq_true rfl, Nat.le_of_ble_eq_true rfl⟩) (fun r10 hr10 => ?_)
  obtain rfl : (-100001) = r10 := hr10.symm
  refine W.lcmp hx hb dL_law_811 ?_
  refine lv_topi (fun v11 ev11 => ?_)
  obtain rfl : v11 = 0 := ev11.trans (by simp [lg_cmp])
  refine lv_if_eq (tgt := 1511) hx hb dL_law_812 (by decide) (fun c12 => ?_) (fun c12 => ?_)
  · skip
    exact law_tail l hL C0 hA hbA hAs hS hl
  · exact absurd rfl c12
set_option maxHeartbeats 4000000 in
set_option maxRecDepth 100000 in
/-- cause -/
theorem law_17 {p : Program} {e : Env} {s : State} {m : MethodId} {below : List Frame} {meth : Method} {c : Code} (l : Launch) {b L : Nat} {xs : Nat → Int32} (hL : L = 8) (C0 : lw_At p s m meth c b L xs) {dC : Nat → ClassId} {dI : Nat → Nat → Nat} {A : Nat → Prop} (hA : ∀ q : Nat, s.heap.size ≤ q → A q) (hbA : ¬ A b) (hAs : ∀ q : Nat, A q → s.heap.size ≤ q) {x y : Nat} {gx gy : Nat → Nat → Nat} {cax cay : Nat → Nat → ClassId} {H : Heap} {locs : List Loc} (hK : va_K (dC, dI) classes [] s) (hP : va_P (dC, dI) classes [(x, .inr (11, (o11 x gx))), ((gx 11 2), .inr (0, (o0 x gx))), (y, .inr (12, (o12 y gy)))] H) (hD : va_D A [(x, .inr (11, (o11 x gx))), ((gx 11 2), .inr (0, (o0 x gx))), (y, .inr (12, (o12 y gy)))]) (hS : va_S A s.heap H locs) {ls : Array Slot} (hl : lv_has ls 4 [(3, .int 0), (2, .ref y), (1, .ref x), (0, .ref b)]) : W p l e room_1 s m #[Value.ref b] below meth c H locs 98 5431 (lw_Z below #[Value.ref b] s) (F0 m 817 ls []) := by
  obtain ⟨hx, hb, hr, hml, hown, hts, hX, hbl, hlocks, hgv⟩ := id C0
  have ht := tb_of hts
  refine lv_aload_n hx hb dL_law_817 rfl (lv_at hl 2 rfl) ?_
  refine lv_aload_n hx hb dL_law_818 rfl (lv_at hl 3 rfl) ?_
  refine lv_iload_n hx hb dL_law_819 rfl (lv_at hl 0 rfl) ?_
  refine lv_iconst (v := 1) hx hb dL_law_820 (by decide) ?_
  refine lv_iadd hx hb dL_law_821 ?_
  refine lv_topi (fun v1 ev1 => ?_)
  obtain rfl : 1 = v1 := (ev1.trans (by decide)).symm
  refine va_sld hx hb hX hbl hbA hS (vp_in_iff.mpr (by rw [hL]; decide) : vp_in 1 L) dL_law_822 ?_
  refine lv_topi (fun v2 ev2 => ?_)
  obtain rfl : xs 1 = v2 := ev2.symm
  refine lv_aload_n hx hb dL_law_823 rfl (lv_at hl 3 rfl) ?_
  refine lv_iload_n hx hb dL_law_824 rfl (lv_at hl 0 rfl) ?_
  refine lv_iconst (v := 2) hx hb dL_law_825 (by decide) ?_
  refine lv_iadd hx hb dL_law_826 ?_
  refine lv_topi (fun v3 ev3 => ?_)
  obtain rfl : 2 = v3 := (ev3.trans (by decide)).symm
  refine va_sld hx hb hX hbl hbA hS (vp_in_iff.mpr (by rw [hL]; decide) : vp_in 2 L) dL_law_827 ?_
  refine lv_topi (fun v4 ev4 => ?_)
  obtain rfl : xs 2 = v4 := ev4.symm
  have hPc := hP.sub (ws' := [(x, .inr (11, (o11 x gx))), ((gx 11 2), .inr (0, (o0 x gx)))]) [0, 1] rfl
  have hKc := hK.sub (tys' := []) [] rfl
  refine vp_callSi (W.runV (As := [.int (xs 1), .int (xs 2)]) (rest := []) ⟨hx, hb, hml, hown, ht⟩ (c_X11_cause l dC dI x gx cax (xs 1) (xs 2)) (kV 2 ht m_866 m_867 m_868 m_77 m_869 rfl rfl hd_X11_cause_v ⟨Nat.le_of_ble_eq_true rfl, Nat.le_of_ble_eq_true rfl⟩) (vR hPc hKc (va_recv hKc hPc (ci := 11) (q0 := 0) rfl rfl)) rfl rfl hl.1 rfl (lv_room (Nat.le_of_ble_eq_true rfl)) dL_law_828 ⟨Nat.le_of_ble_eq_true rfl, Nat.le_of_ble_eq_true rfl⟩) (fun r5 hr5 => ?_)
  obtain rfl : (-100001) = r5 := hr5.symm
  refine lv_aload_n hx hb dL_law_831 rfl (lv_at hl 1 rfl) ?_
  refine lv_aload_n hx hb dL_law_832 rfl (lv_at hl 3 rfl) ?_
  refine lv_iload_n hx hb dL_law_833 rfl (lv_at hl 0 rfl) ?_
  refine lv_iconst (v := 1) hx hb dL_law_834 (by decide) ?_
  refine lv_iadd hx hb dL_law_835 ?_
  refine lv_topi (fun v6 ev6 => ?_)
  obtain rfl : 1 = v6 := (ev6.trans (by decide)).symm
  refine va_sld hx hb hX hbl hbA hS (vp_in_iff.mpr (by rw [hL]; decide) : vp_in 1 L) dL_law_836 ?_
  refine lv_topi (fun v7 ev7 => ?_)
  obtain rfl : xs 1 = v7 := ev7.symm
  refine lv_aload_n hx hb dL_law_837 rfl (lv_at hl 3 rfl) ?_
  refine lv_iload_n hx hb dL_law_838 rfl (lv_at hl 0 rfl) ?_
  refine lv_iconst (v := 2) hx hb dL_law_839 (by decide) ?_
  refine lv_iadd hx hb dL_law_840 ?_
  refine lv_topi (fun v8 ev8 => ?_)
  obtain rfl : 2 = v8 := (ev8.trans (by decide)).symm
  refine va_sld hx hb hX hbl hbA hS (vp_in_iff.mpr (by rw [hL]; decide) : vp_in 2 L) dL_law_841 ?_
  refine lv_topi (fun v9 ev9 => ?_)
  obtain rfl : xs 2 = v9 := ev9.symm
  have hPc := hP.sub (ws' := [(y, .inr (12, (o12 y gy)))]) [2] rfl
  have hKc := hK.sub (tys' := []) [] rfl
  refine vp_callSi (W.runV (As := [.int (xs 1), .int (xs 2)]) (rest := [.int (-100001)]) ⟨hx, hb, hml, hown, ht⟩ (c_X12_cause l dC dI y gy cay (xs 1) (xs 2)) (kV 2 ht m_1574 m_1575 m_1576 m_89 m_1577 rfl rfl hd_X12_cause_v ⟨Nat.le_of_ble_eq_true rfl, Nat.le_of_ble_eq_true rfl⟩) (vR hPc hKc (va_recv hKc hPc (ci := 12) (q0 := 0) rfl rfl)) rfl rfl hl.1 rfl (lv_room (Nat.le_of_ble_eq_true rfl)) dL_law_842 ⟨Nat.le_of_ble_eq_true rfl, Nat.le_of_ble_eq_true rfl⟩) (fun r10 hr10 => ?_)
  obtain rfl : (-100001) = r10 := hr10.symm
  refine lv_icmp_eq (tgt := 1511) hx hb dL_law_845 (by decide) (fun c11 => ?_) (fun c11 => ?_)
  · skip
    exact law_tail l hL C0 hA hbA hAs hS hl
  · exact absurd rfl c11
set_option maxHeartbeats 4000000 in
set_option maxRecDepth 100000 in
/-- odd -/
theorem law_18 {p : Program} {e : Env} {s : State} {m : MethodId} {below : List Frame} {meth : Method} {c : Code} (l : Launch) {b L : Nat} {xs : Nat → Int32} (hL : L = 8) (C0 : lw_At p s m meth c b L xs) {dC : Nat → ClassId} {dI : Nat → Nat → Nat} {A : Nat → Prop} (hA : ∀ q : Nat, s.heap.size ≤ q → A q) (hbA : ¬ A b) (hAs : ∀ q : Nat, A q → s.heap.size ≤ q) {x y : Nat} {gx gy : Nat → Nat → Nat} {cax cay : Nat → Nat → ClassId} {H : Heap} {locs : List Loc} (hK : va_K (dC, dI) classes [] s) (hP : va_P (dC, dI) classes [(x, .inr (11, (o11 x gx))), ((gx 11 2), .inr (0, (o0 x gx))), (y, .inr (12, (o12 y gy)))] H) (hD : va_D A [(x, .inr (11, (o11 x gx))), ((gx 11 2), .inr (0, (o0 x gx))), (y, .inr (12, (o12 y gy)))]) (hS : va_S A s.heap H locs) {ls : Array Slot} (hl : lv_has ls 4 [(3, .int 0), (2, .ref y), (1, .ref x), (0, .ref b)]) : W p l e room_1 s m #[Value.ref b] below meth c H locs 98 5431 (lw_Z below #[Value.ref b] s) (F0 m 850 ls []) := by
  obtain ⟨hx, hb, hr, hml, hown, hts, hX, hbl, hlocks, hgv⟩ := id C0
  have ht := tb_of hts
  refine lv_aload_n hx hb dL_law_850 rfl (lv_at hl 2 rfl) ?_
  refine lv_aload_n hx hb dL_law_851 rfl (lv_at hl 3 rfl) ?_
  refine lv_iload_n hx hb dL_law_852 rfl (lv_at hl 0 rfl) ?_
  refine lv_iconst (v := 1) hx hb dL_law_853 (by decide) ?_
  refine lv_iadd hx hb dL_law_854 ?_
  refine lv_topi (fun v1 ev1 => ?_)
  obtain rfl : 1 = v1 := (ev1.trans (by decide)).symm
  refine va_sld hx hb hX hbl hbA hS (vp_in_iff.mpr (by rw [hL]; decide) : vp_in 1 L) dL_law_855 ?_
  refine lv_topi (fun v2 ev2 => ?_)
  obtain rfl : xs 1 = v2 := ev2.symm
  refine lv_aload_n hx hb dL_law_856 rfl (lv_at hl 3 rfl) ?_
  refine lv_iload_n hx hb dL_law_857 rfl (lv_at hl 0 rfl) ?_
  refine lv_iconst (v := 2) hx hb dL_law_858 (by decide) ?_
  refine lv_iadd hx hb dL_law_859 ?_
  refine lv_topi (fun v3 ev3 => ?_)
  obtain rfl : 2 = v3 := (ev3.trans (by decide)).symm
  refine va_sld hx hb hX hbl hbA hS (vp_in_iff.mpr (by rw [hL]; decide) : vp_in 2 L) dL_law_860 ?_
  refine lv_topi (fun v4 ev4 => ?_)
  obtain rfl : xs 2 = v4 := ev4.symm
  have hPc := hP.sub (ws' := [(x, .inr (11, (o11 x gx))), ((gx 11 2), .inr (0, (o0 x gx)))]) [0, 1] rfl
  have hKc := hK.sub (tys' := []) [] rfl
  refine vp_callSi (W.runV (As := [.int (xs 1), .int (xs 2)]) (rest := []) ⟨hx, hb, hml, hown, ht⟩ (c_X11_odd l dC dI x gx cax (xs 1) (xs 2)) (kV 2 ht m_913 m_914 m_915 m_77 m_916 rfl rfl hd_X11_odd_v ⟨Nat.le_of_ble_eq_true rfl, Nat.le_of_ble_eq_true rfl⟩) (vR hPc hKc (va_recv hKc hPc (ci := 11) (q0 := 0) rfl rfl)) rfl rfl hl.1 rfl (lv_room (Nat.le_of_ble_eq_true rfl)) dL_law_861 ⟨Nat.le_of_ble_eq_true rfl, Nat.le_of_ble_eq_true rfl⟩) (fun r5 hr5 => ?_)
  obtain rfl : (-100001) = r5 := hr5.symm
  refine lv_aload_n hx hb dL_law_864 rfl (lv_at hl 1 rfl) ?_
  refine lv_aload_n hx hb dL_law_865 rfl (lv_at hl 3 rfl) ?_
  refine lv_iload_n hx hb dL_law_866 rfl (lv_at hl 0 rfl) ?_
  refine lv_iconst (v := 1) hx hb dL_law_867 (by decide) ?_
  refine lv_iadd hx hb dL_law_868 ?_
  refine lv_topi (fun v6 ev6 => ?_)
  obtain rfl : 1 = v6 := (ev6.trans (by decide)).symm
  refine va_sld hx hb hX hbl hbA hS (vp_in_iff.mpr (by rw [hL]; decide) : vp_in 1 L) dL_law_869 ?_
  refine lv_topi (fun v7 ev7 => ?_)
  obtain rfl : xs 1 = v7 := ev7.symm
  refine lv_aload_n hx hb dL_law_870 rfl (lv_at hl 3 rfl) ?_
  refine lv_iload_n hx hb dL_law_871 rfl (lv_at hl 0 rfl) ?_
  refine lv_iconst (v := 2) hx hb dL_law_872 (by decide) ?_
  refine lv_iadd hx hb dL_law_873 ?_
  refine lv_topi (fun v8 ev8 => ?_)
  obtain rfl : 2 = v8 := (ev8.trans (by decide)).symm
  refine va_sld hx hb hX hbl hbA hS (vp_in_iff.mpr (by rw [hL]; decide) : vp_in 2 L) dL_law_874 ?_
  refine lv_topi (fun v9 ev9 => ?_)
  obtain rfl : xs 2 = v9 := ev9.symm
  have hPc := hP.sub (ws' := [(y, .inr (12, (o12 y gy)))]) [2] rfl
  have hKc := hK.sub (tys' := []) [] rfl
  refine vp_callSi (W.runV (As := [.int (xs 1), .int (xs 2)]) (rest := [.int (-100001)]) ⟨hx, hb, hml, hown, ht⟩ (c_X12_odd l dC dI y gy cay (xs 1) (xs 2)) (kV 2 ht m_1594 m_1595 m_1596 m_89 m_1597 rfl rfl hd_X12_odd_v ⟨Nat.le_of_ble_eq_true rfl, Nat.le_of_ble_eq_true rfl⟩) (vR hPc hKc (va_recv hKc hPc (ci := 12) (q0 := 0) rfl rfl)) rfl rfl hl.1 rfl (lv_room (Nat.le_of_ble_eq_true rfl)) dL_law_875 ⟨Nat.le_of_ble_eq_true rfl, Nat.le_of_ble_eq_true rfl⟩) (fun r10 hr10 => ?_)
  obtain rfl : (-100001) = r10 := hr10.symm
  refine lv_icmp_eq (tgt := 1511) hx hb dL_law_878 (by decide) (fun c11 => ?_) (fun c11 => ?_)
  · skip
    exact law_tail l hL C0 hA hbA hAs hS hl
  · exact absurd rfl c11
