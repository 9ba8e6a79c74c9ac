set_option maxHeartbeats 4000000 in
set_option maxRecDepth 100000 in
/-- needed -/
theorem law_19 {p : Program} {e : Env} {s : State} {m : MethodId} {below : List Frame} {meth : Method} {c : Code} (l : Launch) {b L : Nat} {xs : Nat → Int32} (hL : L = 8) (C0 : lw_At p s m meth c b L xs) {dC : Nat → ClassId} {dI : Nat → Nat → Nat} {A : Nat → Prop} (hA : ∀ q : Nat, s.heap.size ≤ q → A q) (hbA : ¬ A b) (hAs : ∀ q : Nat, A q → s.heap.size ≤ q) {x y : Nat} {gx gy : Nat → Nat → Nat} {cax cay : Nat → Nat → ClassId} {H : Heap} {locs : List Loc} (hK : va_K (dC, dI) classes [] s) (hP : va_P (dC, dI) classes [(x, .inr (11, (o11 x gx))), ((gx 11 2), .inr (0, (o0 x gx))), (y, .inr (12, (o12 y gy)))] H) (hD : va_D A [(x, .inr (11, (o11 x gx))), ((gx 11 2), .inr (0, (o0 x gx))), (y, .inr (12, (o12 y gy)))]) (hS : va_S A s.heap H locs) {ls : Array Slot} (hl : lv_has ls 4 [(3, .int 0), (2, .ref y), (1, .ref x), (0, .ref b)]) : W p l e room_1 s m #[Value.ref b] below meth c H locs 98 5431 (lw_Z below #[Value.ref b] s) (F0 m 883 ls []) := by
  obtain ⟨hx, hb, hr, hml, hown, hts, hX, hbl, hlocks, hgv⟩ := id C0
  have ht := tb_of hts
  refine lv_aload_n hx hb dL_law_883 rfl (lv_at hl 2 rfl) ?_
  refine lv_aload_n hx hb dL_law_884 rfl (lv_at hl 3 rfl) ?_
  refine lv_iload_n hx hb dL_law_885 rfl (lv_at hl 0 rfl) ?_
  refine lv_iconst (v := 1) hx hb dL_law_886 (by decide) ?_
  refine lv_iadd hx hb dL_law_887 ?_
  refine lv_topi (fun v1 ev1 => ?_)
  obtain rfl : 1 = v1 := (ev1.trans (by decide)).symm
  refine va_sld hx hb hX hbl hbA hS (vp_in_iff.mpr (by rw [hL]; decide) : vp_in 1 L) dL_law_888 ?_
  refine lv_topi (fun v2 ev2 => ?_)
  obtain rfl : xs 1 = v2 := ev2.symm
  refine lv_aload_n hx hb dL_law_889 rfl (lv_at hl 3 rfl) ?_
  refine lv_iload_n hx hb dL_law_890 rfl (lv_at hl 0 rfl) ?_
  refine lv_iconst (v := 2) hx hb dL_law_891 (by decide) ?_
  refine lv_iadd hx hb dL_law_892 ?_
  refine lv_topi (fun v3 ev3 => ?_)
  obtain rfl : 2 = v3 := (ev3.trans (by decide)).symm
  refine va_sld hx hb hX hbl hbA hS (vp_in_iff.mpr (by rw [hL]; decide) : vp_in 2 L) dL_law_893 ?_
  refine lv_topi (fun v4 ev4 => ?_)
  obtain rfl : xs 2 = v4 := ev4.symm
  have hPc := hP.sub (ws' := [(x, .inr (11, (o11 x gx))), ((gx 11 2), .inr (0, (o0 x gx)))]) [0, 1] rfl
  have hKc := hK.sub (tys' := []) [] rfl
  refine vp_callSi (W.runV (As := [.int (xs 1), .int (xs 2)]) (rest := []) ⟨hx, hb, hml, hown, ht⟩ (c_X11_needed l dC dI x gx cax (xs 1) (xs 2)) (kV 2 ht m_925 m_926 m_927 m_77 m_928 rfl rfl hd_X11_needed_v ⟨Nat.le_of_ble_eq_true rfl, Nat.le_of_ble_eq_true rfl⟩) (vR hPc hKc (va_recv hKc hPc (ci := 11) (q0 := 0) rfl rfl)) rfl rfl hl.1 rfl (lv_room (Nat.le_of_ble_eq_true rfl)) dL_law_894 ⟨Nat.le_of_ble_eq_true rfl, Nat.le_of_ble_eq_true rfl⟩) (fun r5 hr5 => ?_)
  obtain rfl : (-100001) = r5 := hr5.symm
  refine lv_aload_n hx hb dL_law_897 rfl (lv_at hl 1 rfl) ?_
  refine lv_aload_n hx hb dL_law_898 rfl (lv_at hl 3 rfl) ?_
  refine lv_iload_n hx hb dL_law_899 rfl (lv_at hl 0 rfl) ?_
  refine lv_iconst (v := 1) hx hb dL_law_900 (by decide) ?_
  refine lv_iadd hx hb dL_law_901 ?_
  refine lv_topi (fun v6 ev6 => ?_)
  obtain rfl : 1 = v6 := (ev6.trans (by decide)).symm
  refine va_sld hx hb hX hbl hbA hS (vp_in_iff.mpr (by rw [hL]; decide) : vp_in 1 L) dL_law_902 ?_
  refine lv_topi (fun v7 ev7 => ?_)
  obtain rfl : xs 1 = v7 := ev7.symm
  refine lv_aload_n hx hb dL_law_903 rfl (lv_at hl 3 rfl) ?_
  refine lv_iload_n hx hb dL_law_904 rfl (lv_at hl 0 rfl) ?_
  refine lv_iconst (v := 2) hx hb dL_law_905 (by decide) ?_
  refine lv_iadd hx hb dL_law_906 ?_
  refine lv_topi (fun v8 ev8 => ?_)
  obtain rfl : 2 = v8 := (ev8.trans (by decide)).symm
  refine va_sld hx hb hX hbl hbA hS (vp_in_iff.mpr (by rw [hL]; decide) : vp_in 2 L) dL_law_907 ?_
  refine lv_topi (fun v9 ev9 => ?_)
  obtain rfl : xs 2 = v9 := ev9.symm
  have hPc := hP.sub (ws' := [(y, .inr (12, (o12 y gy)))]) [2] rfl
  have hKc := hK.sub (tys' := []) [] rfl
  refine vp_callSi (W.runV (As := [.int (xs 1), .int (xs 2)]) (rest := [.int (-100001)]) ⟨hx, hb, hml, hown, ht⟩ (c_X12_needed l dC dI y gy cay (xs 1) (xs 2)) (kV 2 ht m_1598 m_1599 m_1600 m_89 m_1601 rfl rfl hd_X12_needed_v ⟨Nat.le_of_ble_eq_true rfl, Nat.le_of_ble_eq_true rfl⟩) (vR hPc hKc (va_recv hKc hPc (ci := 12) (q0 := 0) rfl rfl)) rfl rfl hl.1 rfl (lv_room (Nat.le_of_ble_eq_true rfl)) dL_law_908 ⟨Nat.le_of_ble_eq_true rfl, Nat.le_of_ble_eq_true rfl⟩) (fun r10 hr10 => ?_)
  obtain rfl : (-100001) = r10 := hr10.symm
  refine lv_icmp_eq (tgt := 1511) hx hb dL_law_911 (by decide) (fun c11 => ?_) (fun c11 => ?_)
  · skip
    exact law_tail l hL C0 hA hbA hAs hS hl
  · exact absurd rfl c11
set_option maxHeartbeats 4000000 in
set_option maxRecDepth 100000 in
/-- thread -/
theorem law_20 {p : Program} {e : Env} {s : State} {m : MethodId} {below : List Frame} {meth : Method} {c : Code} (l : Launch) {b L : Nat} {xs : Nat → Int32} (hL : L = 8) (C0 : lw_At p s m meth c b L xs) {dC : Nat → ClassId} {dI : Nat → Nat → Nat} {A : Nat → Prop} (hA : ∀ q : Nat, s.heap.size ≤ q → A q) (hbA : ¬ A b) (hAs : ∀ q : Nat, A q → s.heap.size ≤ q) {x y : Nat} {gx gy : Nat → Nat → Nat} {cax cay : Nat → Nat → ClassId} {H : Heap} {locs : List Loc} (hK : va_K (dC, dI) classes [] s) (hP : va_P (dC, dI) classes [(x, .inr (11, (o11 x gx))), ((gx 11 2), .inr (0, (o0 x gx))), (y, .inr (12, (o12 y gy)))] H) (hD : va_D A [(x, .inr (11, (o11 x gx))), ((gx 11 2), .inr (0, (o0 x gx))), (y, .inr (12, (o12 y gy)))]) (hS : va_S A s.heap H locs) {ls : Array Slot} (hl : lv_has ls 4 [(3, .int 0), (2, .ref y), (1, .ref x), (0, .ref b)]) : W p l e room_1 s m #[Value.ref b] below meth c H locs 98 5431 (lw_Z below #[Value.ref b] s) (F0 m 916 ls []) := by
  obtain ⟨hx, hb, hr, hml, hown, hts, hX, hbl, hlocks, hgv⟩ := id C0
  have ht := tb_of hts
  refine lv_aload_n hx hb dL_law_916 rfl (lv_at hl 2 rfl) ?_
  refine lv_aload_n hx hb dL_law_917 rfl (lv_at hl 3 rfl) ?_
  refine lv_iload_n hx hb dL_law_918 rfl (lv_at hl 0 rfl) ?_
  refine lv_iconst (v := 1) hx hb dL_law_919 (by decide) ?_
  refine lv_iadd hx hb dL_law_920 ?_
  refine lv_topi (fun v1 ev1 => ?_)
  obtain rfl : 1 = v1 := (ev1.trans (by decide)).symm
  refine va_sld hx hb hX hbl hbA hS (vp_in_iff.mpr (by rw [hL]; decide) : vp_in 1 L) dL_law_921 ?_
  refine lv_topi (fun v2 ev2 => ?_)
  obtain rfl : xs 1 = v2 := ev2.symm
  refine lv_aload_n hx hb dL_law_922 rfl (lv_at hl 3 rfl) ?_
  refine lv_iload_n hx hb dL_law_923 rfl (lv_at hl 0 rfl) ?_
  refine lv_iconst (v := 2) hx hb dL_law_924 (by decide) ?_
  refine lv_iadd hx hb dL_law_925 ?_
  refine lv_topi (fun v3 ev3 => ?_)
  obtain rfl : 2 = v3 := (ev3.trans (by decide)).symm
  refine va_sld hx hb hX hbl hbA hS (vp_in_iff.mpr (by rw [hL]; decide) : vp_in 2 L) dL_law_926 ?_
  refine lv_topi (fun v4 ev4 => ?_)
  obtain rfl : xs 2 = v4 := ev4.symm
  have hPc := hP.sub (ws' := [(x, .inr (11, (o11 x gx))), ((gx 11 2), .inr (0, (o0 x gx)))]) [0, 1] rfl
  have hKc := hK.sub (tys' := []) [] rfl
  refine vp_callSi (W.runV (As := [.int (xs 1), .int (xs 2)]) (rest := []) ⟨hx, hb, hml, hown, ht⟩ (c_X11_thread l dC dI x gx cax (xs 1) (xs 2)) (kV 2 ht m_941 m_942 m_943 m_77 m_944 rfl rfl hd_X11_thread_v ⟨Nat.le_of_ble_eq_true rfl, Nat.le_of_ble_eq_true rfl⟩) (vR hPc hKc (va_recv hKc hPc (ci := 11) (q0 := 0) rfl rfl)) rfl rfl hl.1 rfl (lv_room (Nat.le_of_ble_eq_true rfl)) dL_law_927 ⟨Nat.le_of_ble_eq_true rfl, Nat.le_of_ble_eq_true rfl⟩) (fun r5 hr5 => ?_)
  obtain rfl : (-100001) = r5 := hr5.symm
  refine lv_aload_n hx hb dL_law_930 rfl (lv_at hl 1 rfl) ?_
  refine lv_aload_n hx hb dL_law_931 rfl (lv_at hl 3 rfl) ?_
  refine lv_iload_n hx hb dL_law_932 rfl (lv_at hl 0 rfl) ?_
  refine lv_iconst (v := 1) hx hb dL_law_933 (by decide) ?_
  refine lv_iadd hx hb dL_law_934 ?_
  refine lv_topi (fun v6 ev6 => ?_)
  obtain rfl : 1 = v6 := (ev6.trans (by decide)).symm
  refine va_sld hx hb hX hbl hbA hS (vp_in_iff.mpr (by rw [hL]; decide) : vp_in 1 L) dL_law_935 ?_
  refine lv_topi (fun v7 ev7 => ?_)
  obtain rfl : xs 1 = v7 := ev7.symm
  refine lv_aload_n hx hb dL_law_936 rfl (lv_at hl 3 rfl) ?_
  refine lv_iload_n hx hb dL_law_937 rfl (lv_at hl 0 rfl) ?_
  refine lv_iconst (v := 2) hx hb dL_law_938 (by decide) ?_
  refine lv_iadd hx hb dL_law_939 ?_
  refine lv_topi (fun v8 ev8 => ?_)
  obtain rfl : 2 = v8 := (ev8.trans (by decide)).symm
  refine va_sld hx hb hX hbl hbA hS (vp_in_iff.mpr (by rw [hL]; decide) : vp_in 2 L) dL_law_940 ?_
  refine lv_topi (fun v9 ev9 => ?_)
  obtain rfl : xs 2 = v9 := ev9.symm
  have hPc := hP.sub (ws' := [(y, .inr (12, (o12 y gy)))]) [2] rfl
  have hKc := hK.sub (tys' := []) [] rfl
  refine vp_callSi (W.runV (As := [.int (xs 1), .int (xs 2)]) (rest := [.int (-100001)]) ⟨hx, hb, hml, hown, ht⟩ (c_X12_thread l dC dI y gy cay (xs 1) (xs 2)) (kV 2 ht m_1609 m_1610 m_1611 m_89 m_1612 rfl rfl hd_X12_thread_v ⟨Nat.le_of_ble_eq_true rfl, Nat.le_of_ble_eq_true rfl⟩) (vR hPc hKc (va_recv hKc hPc (ci := 12) (q0 := 0) rfl rfl)) rfl rfl hl.1 rfl (lv_room (Nat.le_of_ble_eq_true rfl)) dL_law_941 ⟨Nat.le_of_ble_eq_true rfl, Nat.le_of_ble_eq_true rfl⟩) (fun r10 hr10 => ?_)
  obtain rfl : (-100001) = r10 := hr10.symm
  refine lv_icmp_eq (tgt := 1511) hx hb dL_law_944 (by decide) (fun c11 => ?_) (fun c11 => ?_)
  · skip
    exact law_tail l hL C0 hA hbA hAs hS hl
  · exact absurd rfl c11
set_option maxHeartbeats 4000000 in
set_option maxRecDepth 100000 in
/-- size -/
theorem law_21 {p : Program} {e : Env} {s : State} {m : MethodId} {below : List Frame} {meth : Method} {c : Code} (l : Launch) {b L : Nat} {xs : Nat → Int32} (hL : L = 8) (C0 : lw_At p s m meth c b L xs) {dC : Nat → ClassId} {dI : Nat → Nat → Nat} {A : Nat → Prop} (hA : ∀ q : Nat, s.heap.size ≤ q → A q) (hbA : ¬ A b) (hAs : ∀ q : Nat, A q → s.heap.size ≤ q) {x y : Nat} {gx gy : Nat → Nat → Nat} {cax cay : Nat → Nat → ClassId} {H : Heap} {locs : List Loc} (hK : va_K (dC, dI) classes [] s) (hP : va_P (dC, dI) classes [(x, .inr (11, (o11 x gx))), ((gx 11 2), .inr (0, (o0 x gx))), (y, .inr (12, (o12 y gy)))] H) (hD : va_D A [(x, .inr (11, (o11 x gx))), ((gx 11 2), .inr (0, (o0 x gx))), (y, .inr (12, (o12 y gy)))]) (hS : va_S A s.heap H locs) {ls : Array Slot} (hl : lv_has ls 4 [(3, .int 0), (2, .ref y), (1, .ref x), (0, .ref b)]) : W p l e room_1 s m #[Value.ref b] below meth c H locs 98 5431 (lw_Z below #[Value.ref b] s) (F0 m 949 ls []) := by
  obtain ⟨hx, hb, hr, hml, hown, hts, hX, hbl, hlocks, hgv⟩ := id C0
  have ht := tb_of hts
  refine lv_aload_n hx hb dL_law_949 rfl (lv_at hl 2 rfl) ?_
  refine lv_aload_n hx hb dL_law_950 rfl (lv_at hl 3 rfl) ?_
  refine lv_iload_n hx hb dL_law_951 rfl (lv_at hl 0 rfl) ?_
  refine lv_iconst (v := 1) hx hb dL_law_952 (by decide) ?_
  refine lv_iadd hx hb dL_law_953 ?_
  refine lv_topi (fun v1 ev1 => ?_)
  obtain rfl : 1 = v1 := (ev1.trans (by decide)).symm
  refine va_sld hx hb hX hbl hbA hS (vp_in_iff.mpr (by rw [hL]; decide) : vp_in 1 L) dL_law_954 ?_
  refine lv_topi (fun v2 ev2 => ?_)
  obtain rfl : xs 1 = v2 := ev2.symm
  refine lv_aload_n hx hb dL_law_955 rfl (lv_at hl 3 rfl) ?_
  refine lv_iload_n hx hb dL_law_956 rfl (lv_at hl 0 rfl) ?_
  refine lv_iconst (v := 2) hx hb dL_law_957 (by decide) ?_
  refine lv_iadd hx hb dL_law_958 ?_
  refine lv_topi (fun v3 ev3 => ?_)
  obtain rfl : 2 = v3 := (ev3.trans (by decide)).symm
  refine va_sld hx hb hX hbl hbA hS (vp_in_iff.mpr (by rw [hL]; decide) : vp_in 2 L) dL_law_959 ?_
  refine lv_topi (fun v4 ev4 => ?_)
  obtain rfl : xs 2 = v4 := ev4.symm
  have hPc := hP.sub (ws' := [(x, .inr (11, (o11 x gx))), ((gx 11 2), .inr (0, (o0 x gx)))]) [0, 1] rfl
  have hKc := hK.sub (tys' := []) [] rfl
  refine vp_callSi (W.runV (As := [.int (xs 1), .int (xs 2)]) (rest := []) ⟨hx, hb, hml, hown, ht⟩ (c_X11_size l dC dI x gx cax (xs 1) (xs 2)) (kV 2 ht m_949 m_950 m_951 m_77 m_952 rfl rfl hd_X11_size_v ⟨Nat.le_of_ble_eq_true rfl, Nat.le_of_ble_eq_true rfl⟩) (vR hPc hKc (va_recv hKc hPc (ci := 11) (q0 := 0) rfl rfl)) rfl rfl hl.1 rfl (lv_room (Nat.le_of_ble_eq_true rfl)) dL_law_960 ⟨Nat.le_of_ble_eq_true rfl, Nat.le_of_ble_eq_true rfl⟩) (fun r5 hr5 => ?_)
  obtain rfl : (-100001) = r5 := hr5.symm
  refine lv_aload_n hx hb dL_law_963 rfl (lv_at hl 1 rfl) ?_
  refine lv_aload_n hx hb dL_law_964 rfl (lv_at hl 3 rfl) ?_
  refine lv_iload_n hx hb dL_law_965 rfl (lv_at hl 0 rfl) ?_
  refine lv_iconst (v := 1) hx hb dL_law_966 (by decide) ?_
  refine lv_iadd hx hb dL_law_967 ?_
  refine lv_topi (fun v6 ev6 => ?_)
  obtain rfl : 1 = v6 := (ev6.trans (by decide)).symm
  refine va_sld hx hb hX hbl hbA hS (vp_in_iff.mpr (by rw [hL]; decide) : vp_in 1 L) dL_law_968 ?_
  refine lv_topi (fun v7 ev7 => ?_)
  obtain rfl : xs 1 = v7 := ev7.symm
  refine lv_aload_n hx hb dL_law_969 rfl (lv_at hl 3 rfl) ?_
  refine lv_iload_n hx hb dL_law_970 rfl (lv_at hl 0 rfl) ?_
  refine lv_iconst (v := 2) hx hb dL_law_971 (by decide) ?_
  refine lv_iadd hx hb dL_law_972 ?_
  refine lv_topi (fun v8 ev8 => ?_)
  obtain rfl : 2 = v8 := (ev8.trans (by decide)).symm
  refine va_sld hx hb hX hbl hbA hS (vp_in_iff.mpr (by rw [hL]; decide) : vp_in 2 L) dL_law_973 ?_
  refine lv_topi (fun v9 ev9 => ?_)
  obtain rfl : xs 2 = v9 := ev9.symm
  have hPc := hP.sub (ws' := [(y, .inr (12, (o12 y gy)))]) [2] rfl
  have hKc := hK.sub (tys' := []) [] rfl
  refine vp_callSi (W.runV (As := [.int (xs 1), .int (xs 2)]) (rest := [.int (-100001)]) ⟨hx, hb, hml, hown, ht⟩ (c_X12_size l dC dI y gy cay (xs 1) (xs 2)) (kV 2 ht m_1613 m_1614 m_1615 m_89 m_1616 rfl rfl hd_X12_size_v ⟨Nat.le_of_ble_eq_true rfl, Nat.le_of_ble_eq_true rfl⟩) (vR hPc hKc (va_recv hKc hPc (ci := 12) (q0 := 0) rfl rfl)) rfl rfl hl.1 rfl (lv_room (Nat.le_of_ble_eq_true rfl)) dL_law_974 ⟨Nat.le_of_ble_eq_true rfl, Nat.le_of_ble_eq_true rfl⟩) (fun r10 hr10 => ?_)
  obtain rfl : (-100001) = r10 := hr10.symm
  refine lv_icmp_eq (tgt := 1511) hx hb dL_law_977 (by decide) (fun c11 => ?_) (fun c11 => ?_)
  · skip
    exact law_tail l hL C0 hA hbA hAs hS hl
  · exact absurd rfl c11
set_option maxHeartbeats 4000000 in
set_option maxRecDepth 100000 in
/-- named -/
theorem law_22 {p : Program} {e : Env} {s : State} {m : MethodId} {below : List Frame} {meth : Method} {c : Code} (l : Launch) {b L : Nat} {xs : Nat → Int32} (hL : L = 8) (C0 : lw_At p s m meth c b L xs) {dC : Nat → ClassId} {dI : Nat → Nat → Nat} {A : Nat → Prop} (hA : ∀ q : Nat, s.heap.size ≤ q → A q) (hbA : ¬ A b) (hAs : ∀ q : Nat, A q → s.heap.size ≤ q) {x y : Nat} {gx gy : Nat → Nat → Nat} {cax cay : Nat → Nat → ClassId} {H : Heap} {locs : List Loc} (hK : va_K (dC, dI) classes [] s) (hP : va_P (dC, dI) classes [(x, .inr (11, (o11 x gx))), ((gx 11 2), .inr (0, (o0 x gx))), (y, .inr (12, (o12 y gy)))] H) (hD : va_D A [(x, .inr (11, (o11 x gx))), ((gx 11 2), .inr (0, (o0 x gx))), (y, .inr (12, (o12 y gy)))]) (hS : va_S A s.heap H locs) {ls : Array Slot} (hl : lv_has ls 4 [(3, .int 0), (2, .ref y), (1, .ref x), (0, .ref b)]) : W p l e room_1 s m #[Value.ref b] below meth c H locs 98 5431 (lw_Z below #[Value.ref b] s) (F0 m 982 ls []) := by
  obtain ⟨hx, hb, hr, hml, hown, hts, hX, hbl, hlocks, hgv⟩ := id C0
  have ht := tb_of hts
  refine lv_aload_n hx hb dL_law_982 rfl (lv_at hl 2 rfl) ?_
  refine lv_aload_n hx hb dL_law_983 rfl (lv_at hl 3 rfl) ?_
  refine lv_iload_n hx hb dL_law_984 rfl (lv_at hl 0 rfl) ?_
  refine lv_iconst (v := 1) hx hb dL_law_985 (by decide) ?_
  refine lv_iadd hx hb dL_law_986 ?_
  refine lv_topi (fun v1 ev1 => ?_)
  obtain rfl : 1 = v1 := (ev1.trans (by decide)).symm
  refine va_sld hx hb hX hbl hbA hS (vp_in_iff.mpr (by rw [hL]; decide) : vp_in 1 L) dL_law_987 ?_
  refine lv_topi (fun v2 ev2 => ?_)
  obtain rfl : xs 1 = v2 := ev2.symm
  refine lv_aload_n hx hb dL_law_988 rfl (lv_at hl 3 rfl) ?_
  refine lv_iload_n hx hb dL_law_989 rfl (lv_at hl 0 rfl) ?_
  refine lv_iconst (v := 2) hx hb dL_law_990 (by decide) ?_
  refine lv_iadd hx hb dL_law_991 ?_
  refine lv_topi (fun v3 ev3 => ?_)
  obtain rfl : 2 = v3 := (ev3.trans (by decide)).symm
  refine va_sld hx hb hX hbl hbA hS (vp_in_iff.mpr (by rw [hL]; decide) : vp_in 2 L) dL_law_992 ?_
  refine lv_topi (fun v4 ev4 => ?_)
  obtain rfl : xs 2 = v4 := ev4.symm
  have hPc := hP.sub (ws' := [(x, .inr (11, (o11 x gx))), ((gx 11 2), .inr (0, (o0 x gx)))]) [0, 1] rfl
  have hKc := hK.sub (tys' := []) [] rfl
  refine vp_callSi (W.runV (As := [.int (xs 1), .int (xs 2)]) (rest := []) ⟨hx, hb, hml, hown, ht⟩ (c_X11_named l dC dI x gx cax (xs 1) (xs 2)) (kV 2 ht m_961 m_962 m_963 m_77 m_964 rfl rfl hd_X11_named_v ⟨Nat.le_of_ble_eq_true rfl, Nat.le_of_ble_eq_true rfl⟩) (vR hPc hKc (va_recv hKc hPc (ci := 11) (q0 := 0) rfl rfl)) rfl rfl hl.1 rfl (lv_room (Nat.le_of_ble_eq_true rfl)) dL_law_993 ⟨Nat.le_of_ble_eq_true rfl, Nat.le_of_ble_eq_true rfl⟩) (fun r5 hr5 => ?_)
  obtain rfl : (-100001) = r5 := hr5.symm
  refine lv_aload_n hx hb dL_law_996 rfl (lv_at hl 1 rfl) ?_
  refine lv_aload_n hx hb dL_law_997 rfl (lv_at hl 3 rfl) ?_
  refine lv_iload_n hx hb dL_law_998 rfl (lv_at hl 0 rfl) ?_
  refine lv_iconst (v := 1) hx hb dL_law_999 (by decide) ?_
  refine lv_iadd hx hb dL_law_1000 ?_
  refine lv_topi (fun v6 ev6 => ?_)
  obtain rfl : 1 = v6 := (ev6.trans (by decide)).symm
  refine va_sld hx hb hX hbl hbA hS (vp_in_iff.mpr (by rw [hL]; decide) : vp_in 1 L) dL_law_1001 ?_
  refine lv_topi (fun v7 ev7 => ?_)
  obtain rfl : xs 1 = v7 := ev7.symm
  refine lv_aload_n hx hb dL_law_1002 rfl (lv_at hl 3 rfl) ?_
  refine lv_iload_n hx hb dL_law_1003 rfl (lv_at hl 0 rfl) ?_
  refine lv_iconst (v := 2) hx hb dL_law_1004 (by decide) ?_
  refine lv_iadd hx hb dL_law_1005 ?_
  refine lv_topi (fun v8 ev8 => ?_)
  obtain rfl : 2 = v8 := (ev8.trans (by decide)).symm
  refine va_sld hx hb hX hbl hbA hS (vp_in_iff.mpr (by rw [hL]; decide) : vp_in 2 L) dL_law_1006 ?_
  refine lv_topi (fun v9 ev9 => ?_)
  obtain rfl : xs 2 = v9 := ev9.symm
  have hPc := hP.sub (ws' := [(y, .inr (12, (o12 y gy)))]) [2] rfl
  have hKc := hK.sub (tys' := []) [] rfl
  refine vp_callSi (W.runV (As := [.int (xs 1), .int (xs 2)]) (rest := [.int (-100001)]) ⟨hx, hb, hml, hown, ht⟩ (c_X12_named l dC dI y gy cay (xs 1) (xs 2)) (kV 2 ht m_1617 m_1618 m_1619 m_89 m_1620 rfl rfl hd_X12_named_v ⟨Nat.le_of_ble_eq_true rfl, Nat.le_of_ble_eq_true rfl⟩) (vR hPc hKc (va_recv hKc hPc (ci := 12) (q0 := 0) rfl rfl)) rfl rfl hl.1 rfl (lv_room (Nat.le_of_ble_eq_true rfl)) dL_law_1007 ⟨Nat.le_of_ble_eq_true rfl, Nat.le_of_ble_eq_true rfl⟩) (fun r10 hr10 => ?_)
  obtain rfl : (-100001) = r10 := hr10.symm
  refine lv_icmp_eq (tgt := 1511) hx hb dL_law_1010 (by decide) (fun c11 => ?_) (fun c11 => ?_)
  · skip
    exact law_tail l hL C0 hA hbA hAs hS hl
  · exact absurd rfl c11
set_option maxHeartbeats 4000000 in
set_option maxRecDepth 100000 in
/-- turns -/
theorem law_23 {p : Program} {e : Env} {s : State} {m : MethodId} {below : List Frame} {meth : Method} {c : Code} (l : Launch) {b L : Nat} {xs : Nat → Int32} (hL : L = 8) (C0 : lw_At p s m meth c b L xs) {dC : Nat → ClassId} {dI : Nat → Nat → Nat} {A : Nat → Prop} (hA : ∀ q : Nat, s.heap.size ≤ q → A q) (hbA : ¬ A b) (hAs : ∀ q : Nat, A q → s.heap.size ≤ q) {x y : Nat} {gx gy : Nat → Nat → Nat} {cax cay : Nat → Nat → ClassId} {H : Heap} {locs : List Loc} (hK : va_K (dC, dI) classes [] s) (hP : va_P (dC, dI) classes [(x, .inr (11, (o11 x gx))), ((gx 11 2), .inr (0, (o0 x gx))), (y, .inr (12, (o12 y gy)))] H) (hD : va_D A [(x, .inr (11, (o11 x gx))), ((gx 11 2), .inr (0, (o0 x gx))), (y, .inr (12, (o12 y gy)))]) (hS : va_S A s.heap H locs) {ls : Array Slot} (hl : lv_has ls 4 [(3, .int 0), (2, .ref y), (1, .ref x), (0, .ref b)]) : W p l e room_1 s m #[Value.ref b] below meth c H locs 98 5431 (lw_Z below #[Value.ref b] s) (F0 m 1015 ls []) := by
  obtain ⟨hx, hb, hr, hml, hown, hts, hX, hbl, hlocks, hgv⟩ := id C0
  have ht := tb_of hts
  refine lv_aload_n hx hb dL_law_1015 rfl (lv_at hl 2 rfl) ?_
  refine lv_aload_n hx hb dL_law_1016 rfl (lv_at hl 3 rfl) ?_
  refine lv_iload_n hx hb dL_law_1017 rfl (lv_at hl 0 rfl) ?_
  refine lv_iconst (v := 1) hx hb dL_law_1018 (by decide) ?_
  refine lv_iadd hx hb dL_law_1019 ?_
  refine lv_topi (fun v1 ev1 => ?_)
  obtain rfl : 1 = v1 := (ev1.trans (by decide)).symm
  refine va_sld hx hb hX hbl hbA hS (vp_in_iff.mpr (by rw [hL]; decide) : vp_in 1 L) dL_law_1020 ?_
  refine lv_topi (fun v2 ev2 => ?_)
  obtain rfl : xs 1 = v2 := ev2.symm
  refine lv_aload_n hx hb dL_law_1021 rfl (lv_at hl 3 rfl) ?_
  refine lv_iload_n hx hb dL_law_1022 rfl (lv_at hl 0 rfl) ?_
  refine lv_iconst (v := 2) hx hb dL_law_1023 (by decide) ?_
  refine lv_iadd hx hb dL_law_1024 ?_
  refine lv_topi (fun v3 ev3 => ?_)
  obtain rfl : 2 = v3 := (ev3.trans (by decide)).symm
  refine va_sld hx hb hX hbl hbA hS (vp_in_iff.mpr (by rw [hL]; decide) : vp_in 2 L) dL_law_1025 ?_
  refine lv_topi (fun v4 ev4 => ?_)
  obtain rfl : xs 2 = v4 := ev4.symm
  have hPc := hP.sub (ws' := [(x, .inr (11, (o11 x gx))), ((gx 11 2), .inr (0, (o0 x gx)))]) [0, 1] rfl
  have hKc := hK.sub (tys' := []) [] rfl
  refine vp_callSi (W.runV (As := [.int (xs 1), .int (xs 2)]) (rest := []) ⟨hx, hb, hml, hown, ht⟩ (c_X11_turns l dC dI x gx cax (xs 1) (xs 2)) (kV 2 ht m_973 m_974 m_975 m_77 m_976 rfl rfl hd_X11_turns_v ⟨Nat.le_of_ble_eq_true rfl, Nat.le_of_ble_eq_true rfl⟩) (vR hPc hKc (va_recv hKc hPc (ci := 11) (q0 := 0) rfl rfl)) rfl rfl hl.1 rfl (lv_room (Nat.le_of_ble_eq_true rfl)) dL_law_1026 ⟨Nat.le_of_ble_eq_true rfl, Nat.le_of_ble_eq_true rfl⟩) (fun r5 hr5 => ?_)
  obtain rfl : (-100001) = r5 := hr5.symm
  refine lv_aload_n hx hb dL_law_1029 rfl (lv_at hl 1 rfl) ?_
  refine lv_aload_n hx hb dL_law_1030 rfl (lv_at hl 3 rfl) ?_
  refine lv_iload_n hx hb dL_law_1031 rfl (lv_at hl 0 rfl) ?_
  refine lv_iconst (v := 1) hx hb dL_law_1032 (by decide) ?_
  refine lv_iadd hx hb dL_law_1033 ?_
  refine lv_topi (fun v6 ev6 => ?_)
  obtain rfl : 1 = v6 := (ev6.trans (by decide)).symm
  refine va_sld hx hb hX hbl hbA hS (vp_in_iff.mpr (by rw [hL]; decide) : vp_in 1 L) dL_law_1034 ?_
  refine lv_topi (fun v7 ev7 => ?_)
  obtain rfl : xs 1 = v7 := ev7.symm
  refine lv_aload_n hx hb dL_law_1035 rfl (lv_at hl 3 rfl) ?_
  refine lv_iload_n hx hb dL_law_1036 rfl (lv_at hl 0 rfl) ?_
  refine lv_iconst (v := 2) hx hb dL_law_1037 (by decide) ?_
  refine lv_iadd hx hb dL_law_1038 ?_
  refine lv_topi (fun v8 ev8 => ?_)
  obtain rfl : 2 = v8 := (ev8.trans (by decide)).symm
  refine va_sld hx hb hX hbl hbA hS (vp_in_iff.mpr (by rw [hL]; decide) : vp_in 2 L) dL_law_1039 ?_
  refine lv_topi (fun v9 ev9 => ?_)
  obtain rfl : xs 2 = v9 := ev9.symm
  have hPc := hP.sub (ws' := [(y, .inr (12, (o12 y gy)))]) [2] rfl
  have hKc := hK.sub (tys' := []) [] rfl
  refine vp_callSi (W.runV (As := [.int (xs 1), .int (xs 2)]) (rest := [.int (-100001)]) ⟨hx, hb, hml, hown, ht⟩ (c_X12_turns l dC dI y gy cay (xs 1) (xs 2)) (kV 2 ht m_1621 m_1622 m_1623 m_89 m_1624 rfl rfl hd_X12_turns_v ⟨Nat.le_of_ble_eq_true rfl, Nat.le_of_ble_eq_true rfl⟩) (vR hPc hKc (va_recv hKc hPc (ci := 12) (q0 := 0) rfl rfl)) rfl rfl hl.1 rfl (lv_room (Nat.le_of_ble_eq_true rfl)) dL_law_1040 ⟨Nat.le_of_ble_eq_true rfl, Nat.le_of_ble_eq_true rfl⟩) (fun r10 hr10 => ?_)
  obtain rfl : (-100001) = r10 := hr10.symm
  refine lv_icmp_eq (tgt := 1511) hx hb dL_law_1043 (by decide) (fun c11 => ?_) (fun c11 => ?_)
  · skip
    exact law_tail l hL C0 hA hbA hAs hS hl
  · exact absurd rfl c11
set_option maxHeartbeats 4000000 in
set_option maxRecDepth 100000 in
/-- twist -/
theorem law_24 {p : Program} {e : Env} {s : State} {m : MethodId} {below : List Frame} {meth : Method} {c : Code} (l : Launch) {b L : Nat} {xs : Nat → Int32} (hL : L = 8) (C0 : lw_At p s m meth c b L xs) {dC : Nat → ClassId} {dI : Nat → Nat → Nat} {A : Nat → Prop} (hA : ∀ q : Nat, s.heap.size ≤ q → A q) (hbA : ¬ A b) (hAs : ∀ q : Nat, A q → s.heap.size ≤ q) {x y : Nat} {gx gy : Nat → Nat → Nat} {cax cay : Nat → Nat → ClassId} {H : Heap} {locs : List Loc} (hK : va_K (dC, dI) classes [] s) (hP : va_P (dC, dI) classes [(x, .inr (11, (o11 x gx))), ((gx 11 2), .inr (0, (o0 x gx))), (y, .inr (12, (o12 y gy)))] H) (hD : va_D A [(x, .inr (11, (o11 x gx))), ((gx 11 2), .inr (0, (o0 x gx))), (y, .inr (12, (o12 y gy)))]) (hS : va_S A s.heap H locs) {ls : Array Slot} (hl : lv_has ls 4 [(3, .int 0), (2, .ref y), (1, .ref x), (0, .ref b)]) : W p l e room_1 s m #[Value.ref b] below meth c H locs 98 5431 (lw_Z below #[Value.ref b] s) (F0 m 1048 ls []) := by
  obtain ⟨hx, hb, hr, hml, hown, hts, hX, hbl, hlocks, hgv⟩ := id C0
  have ht := tb_of hts
  refine lv_aload_n hx hb dL_law_1048 rfl (lv_at hl 2 rfl) ?_
  refine lv_aload_n hx hb dL_law_1049 rfl (lv_at hl 3 rfl) ?_
  refine lv_iload_n hx hb dL_law_1050 rfl (lv_at hl 0 rfl) ?_
  refine lv_iconst (v := 1) hx hb dL_law_1051 (by decide) ?_
  refine lv_iadd hx hb dL_law_1052 ?_
  refine lv_topi (fun v1 ev1 => ?_)
  obtain rfl : 1 = v1 := (ev1.trans (by decide)).symm
  refine va_sld hx hb hX hbl hbA hS (vp_in_iff.mpr (by rw [hL]; decide) : vp_in 1 L) dL_law_1053 ?_
  refine lv_topi (fun v2 ev2 => ?_)
  obtain rfl : xs 1 = v2 := ev2.symm
  have hPc := hP.sub (ws' := [(x, .inr (11, (o11 x gx))), ((gx 11 2), .inr (0, (o0 x gx)))]) [0, 1] rfl
  have hKc := hK.sub (tys' := []) [] rfl
  refine vp_callSi (W.runV (As := [.int (xs 1)]) (rest := []) ⟨hx, hb, hml, hown, ht⟩ (c_X11_twist l dC dI x gx cax (xs 1)) (kV 1 ht m_981 m_982 m_983 m_77 m_984 rfl rfl hd_X11_twist_v ⟨Nat.le_of_ble_eq_true rfl, Nat.le_of_ble_eq_true rfl⟩) (vR hPc hKc (va_recv hKc hPc (ci := 11) (q0 := 0) rfl rfl)) rfl rfl hl.1 rfl (lv_room (Nat.le_of_ble_eq_true rfl)) dL_law_1054 ⟨Nat.le_of_ble_eq_true rfl, Nat.le_of_ble_eq_true rfl⟩) (fun r3 hr3 => ?_)
  obtain rfl : (-100001) = r3 := hr3.symm
  refine lv_aload_n hx hb dL_law_1057 rfl (lv_at hl 1 rfl) ?_
  refine lv_aload_n hx hb dL_law_1058 rfl (lv_at hl 3 rfl) ?_
  refine lv_iload_n hx hb dL_law_1059 rfl (lv_at hl 0 rfl) ?_
  refine lv_iconst (v := 1) hx hb dL_law_1060 (by decide) ?_
  refine lv_iadd hx hb dL_law_1061 ?_
  refine lv_topi (fun v4 ev4 => ?_)
  obtain rfl : 1 = v4 := (ev4.trans (by decide)).symm
  refine va_sld hx hb hX hbl hbA hS (vp_in_iff.mpr (by rw [hL]; decide) : vp_in 1 L) dL_law_1062 ?_
  refine lv_topi (fun v5 ev5 => ?_)
  obtain rfl : xs 1 = v5 := ev5.symm
  have hPc := hP.sub (ws' := [(y, .inr (12, (o12 y gy)))]) [2] rfl
  have hKc := hK.sub (tys' := []) [] rfl
  refine vp_callSi (W.runV (As := [.int (xs 1)]) (rest := [.int (-100001)]) ⟨hx, hb, hml, hown, ht⟩ (c_X12_twist l dC dI y gy cay (xs 1)) (kV 1 ht m_1625 m_1626 m_1627 m_89 m_1628 rfl rfl hd_X12_twist_v ⟨Nat.le_of_ble_eq_true rfl, Nat.le_of_ble_eq_true rfl⟩) (vR hPc hKc (va_recv hKc hPc (ci := 12) (q0 := 0) rfl rfl)) rfl rfl hl.1 rfl (lv_room (Nat.le_of_ble_eq_true rfl)) dL_law_1063 ⟨Nat.le_of_ble_eq_true rfl, Nat.le_of_ble_eq_true rfl⟩) (fun r6 hr6 => ?_)
  obtain rfl : (-100001) = r6 := hr6.symm
  refine lv_icmp_eq (tgt := 1511) hx hb dL_law_1066 (by decide) (fun c7 => ?_) (fun c7 => ?_)
  · skip
    exact law_tail l hL C0 hA hbA hAs hS hl
  · exact absurd rfl c7
set_option maxHeartbeats 4000000 in
set_option maxRecDepth 100000 in
/-- burnt -/
theorem law_25 {p : Program} {e : Env} {s : State} {m : MethodId} {below : List Frame} {meth : Method} {c : Code} (l : Launch) {b L : Nat} {xs : Nat → Int32} (hL : L = 8) (C0 : lw_At p s m meth c b L xs) {dC : Nat → ClassId} {dI : Nat → Nat → Nat} {A : Nat → Prop} (hA : ∀ q : Nat, s.heap.size ≤ q → A q) (hbA : ¬ A b) (hAs : ∀ q : Nat, A q → s.heap.size ≤ q) {x y : Nat} {gx gy : Nat → Nat → Nat} {cax cay : Nat → Nat → ClassId} {H : Heap} {locs : List Loc} (hK : va_K (dC, dI) classes [] s) (hP : va_P (dC, dI) classes [(x, .inr (11, (o11 x gx))), ((gx 11 2), .inr (0, (o0 x gx))), (y, .inr (12, (o12 y gy)))] H) (hD : va_D A [(x, .inr (11, (o11 x gx))), ((gx 11 2), .inr (0, (o0 x gx))), (y, .inr (12, (o12 y gy)))]) (hS : va_S A s.heap H locs) {ls : Array Slot} (hl : lv_has ls 4 [(3, .int 0), (2, .ref y), (1, .ref x), (0, .ref b)]) : W p l e room_1 s m #[Value.ref b] below meth c H locs 98 5431 (lw_Z below #[Value.ref b] s) (F0 m 1071 ls []) := by
  obtain ⟨hx, hb, hr, hml, hown, hts, hX, hbl, hlocks, hgv⟩ := id C0
  have ht := tb_of hts
  refine lv_aload_n hx hb dL_law_1071 rfl (lv_at hl 2 rfl) ?_
  refine lv_aload_n hx hb dL_law_1072 rfl (lv_at hl 3 rfl) ?_
  refine lv_iload_n hx hb dL_law_1073 rfl (lv_at hl 0 rfl) ?_
  refine lv_iconst (v := 1) hx hb dL_law_1074 (by decide) ?_
  refine lv_iadd hx hb dL_law_1075 ?_
  refine lv_topi (fun v1 ev1 => ?_)
  obtain rfl : 1 = v1 := (ev1.trans (by decide)).symm
  refine va_sld hx hb hX hbl hbA hS (vp_in_iff.mpr (by rw [hL]; decide) : vp_in 1 L) dL_law_1076 ?_
  refine lv_topi (fun v2 ev2 => ?_)
  obtain rfl : xs 1 = v2 := ev2.symm
  refine lv_aload_n hx hb dL_law_1077 rfl (lv_at hl 3 rfl) ?_
  refine lv_iload_n hx hb dL_law_1078 rfl (lv_at hl 0 rfl) ?_
  refine lv_iconst (v := 2) hx hb dL_law_1079 (by decide) ?_
  refine lv_iadd hx hb dL_law_1080 ?_
  refine lv_topi (fun v3 ev3 => ?_)
  obtain rfl : 2 = v3 := (ev3.trans (by decide)).symm
  refine va_sld hx hb hX hbl hbA hS (vp_in_iff.mpr (by rw [hL]; decide) : vp_in 2 L) dL_law_1081 ?_
  refine lv_topi (fun v4 ev4 => ?_)
  obtain rfl : xs 2 = v4 := ev4.symm
  refine lv_aload_n hx hb dL_law_1082 rfl (lv_at hl 3 rfl) ?_
  refine lv_iload_n hx hb dL_law_1083 rfl (lv_at hl 0 rfl) ?_
  refine lv_iconst (v := 3) hx hb dL_law_1084 (by decide) ?_
  refine lv_iadd hx hb dL_law_1085 ?_
  refine lv_topi (fun v5 ev5 => ?_)
  obtain rfl : 3 = v5 := (ev5.trans (by decide)).symm
  refine va_sld hx hb hX hbl hbA hS (vp_in_iff.mpr (by rw [hL]; decide) : vp_in 3 L) dL_law_1086 ?_
  refine lv_topi (fun v6 ev6 => ?_)
  obtain rfl : xs 3 = v6 := ev6.symm
  refine lv_aload_n hx hb dL_law_1087 rfl (lv_at hl 3 rfl) ?_
  refine lv_iload_n hx hb dL_law_1088 rfl (lv_at hl 0 rfl) ?_
  refine lv_iconst (v := 4) hx hb dL_law_1089 (by decide) ?_
  refine lv_iadd hx hb dL_law_1090 ?_
  refine lv_topi (fun v7 ev7 => ?_)
  obtain rfl : 4 = v7 := (ev7.trans (by decide)).symm
  refine va_sld hx hb hX hbl hbA hS (vp_in_iff.mpr (by rw [hL]; decide) : vp_in 4 L) dL_law_1091 ?_
  refine lv_topi (fun v8 ev8 => ?_)
  obtain rfl : xs 4 = v8 := ev8.symm
  have hPc := hP.sub (ws' := [(x, .inr (11, (o11 x gx))), ((gx 11 2), .inr (0, (o0 x gx)))]) [0, 1] rfl
  have hKc := hK.sub (tys' := []) [] rfl
  refine vp_callSi (W.runV (As := [.int (xs 1), .int (xs 2), .int (xs 3), .int (xs 4)]) (rest := []) ⟨hx, hb, hml, hown, ht⟩ (c_X11_burnt l dC dI x gx cax (xs 1) (xs 2) (xs 3) (xs 4)) (kV 4 ht m_989 m_990 m_991 m_77 m_992 rfl rfl hd_X11_burnt_v ⟨Nat.le_of_ble_eq_true rfl, Nat.le_of_ble_eq_true rfl⟩) (vR hPc hKc (va_recv hKc hPc (ci := 11) (q0 := 0) rfl rfl)) rfl rfl hl.1 rfl (lv_room (Nat.le_of_ble_eq_true rfl)) dL_law_1092 ⟨Nat.le_of_ble_eq_true rfl, Nat.le_of_ble_eq_true rfl⟩) (fun r9 hr9 => ?_)
  obtain rfl : (-100001) = r9 := hr9.symm
  refine lv_aload_n hx hb dL_law_1095 rfl (lv_at hl 1 rfl) ?_
  refine lv_aload_n hx hb dL_law_1096 rfl (lv_at hl 3 rfl) ?_
  refine lv_iload_n hx hb dL_law_1097 rfl (lv_at hl 0 rfl) ?_
  refine lv_iconst (v := 1) hx hb dL_law_1098 (by decide) ?_
  refine lv_iadd hx hb dL_law_1099 ?_
  refine lv_topi (fun v10 ev10 => ?_)
  obtain rfl : 1 = v10 := (ev10.trans (by decide)).symm
  refine va_sld hx hb hX hbl hbA hS (vp_in_iff.mpr (by rw [hL]; decide) : vp_in 1 L) dL_law_1100 ?_
  refine lv_topi (fun v11 ev11 => ?_)
  obtain rfl : xs 1 = v11 := ev11.symm
  refine lv_aload_n hx hb dL_law_1101 rfl (lv_at hl 3 rfl) ?_
  refine lv_iload_n hx hb dL_law_1102 rfl (lv_at hl 0 rfl) ?_
  refine lv_iconst (v := 2) hx hb dL_law_1103 (by decide) ?_
  refine lv_iadd hx hb dL_law_1104 ?_
  refine lv_topi (fun v12 ev12 => ?_)
  obtain rfl : 2 = v12 := (ev12.trans (by decide)).symm
  refine va_sld hx hb hX hbl hbA hS (vp_in_iff.mpr (by rw [hL]; decide) : vp_in 2 L) dL_law_1105 ?_
  refine lv_topi (fun v13 ev13 => ?_)
  obtain rfl : xs 2 = v13 := ev13.symm
  refine lv_aload_n hx hb dL_law_1106 rfl (lv_at hl 3 rfl) ?_
  refine lv_iload_n hx hb dL_law_1107 rfl (lv_at hl 0 rfl) ?_
  refine lv_iconst (v := 3) hx hb dL_law_1108 (by decide) ?_
  refine lv_iadd hx hb dL_law_1109 ?_
  refine lv_topi (fun v14 ev14 => ?_)
  obtain rfl : 3 = v14 := (ev14.trans (by decide)).symm
  refine va_sld hx hb hX hbl hbA hS (vp_in_iff.mpr (by rw [hL]; decide) : vp_in 3 L) dL_law_1110 ?_
  refine lv_topi (fun v15 ev15 => ?_)
  obtain rfl : xs 3 = v15 := ev15.symm
  refine lv_aload_n hx hb dL_law_1111 rfl (lv_at hl 3 rfl) ?_
  refine lv_iload_n hx hb dL_law_1112 rfl (lv_at hl 0 rfl) ?_
  refine lv_iconst (v := 4) hx hb dL_law_1113 (by decide) ?_
  refine lv_iadd hx hb dL_law_1114 ?_
  refine lv_topi (fun v16 ev16 => ?_)
  obtain rfl : 4 = v16 := (ev16.trans (by decide)).symm
  refine va_sld hx hb hX hbl hbA hS (vp_in_iff.mpr (by rw [hL]; decide) : vp_in 4 L) dL_law_1115 ?_
  refine lv_topi (fun v17 ev17 => ?_)
  obtain rfl : xs 4 = v17 := ev17.symm
  have hPc := hP.sub (ws' := [(y, .inr (12, (o12 y gy)))]) [2] rfl
  have hKc := hK.sub (tys' := []) [] rfl
  refine vp_callSi (W.runV (As := [.int (xs 1), .int (xs 2), .int (xs 3), .int (xs 4)]) (rest := [.int (-100001)]) ⟨hx, hb, hml, hown, ht⟩ (c_X12_burnt l dC dI y gy cay (xs 1) (xs 2) (xs 3) (xs 4)) (kV 4 ht m_1629 m_1630 m_1631 m_89 m_1632 rfl rfl hd_X12_burnt_v ⟨Nat.le_of_ble_eq_true rfl, Nat.le_of_ble_eq_true rfl⟩) (vR hPc hKc (va_recv hKc hPc (ci := 12) (q0 := 0) rfl rfl)) rfl rfl hl.1 rfl (lv_room (Nat.le_of_ble_eq_true rfl)) dL_law_1116 ⟨Nat.le_of_ble_eq_true rfl, Nat.le_of_ble_eq_true rfl⟩) (fun r18 hr18 => ?_)
  obtain rfl : (-100001) = r18 := hr18.symm
  refine lv_icmp_eq (tgt := 1511) hx hb dL_law_1119 (by decide) (fun c19 => ?_) (fun c19 => ?_)
  · skip
    exact law_tail l hL C0 hA hbA hAs hS hl
  · exact absurd rfl c19
set_option maxHeartbeats 4000000 in
set_option maxRecDepth 100000 in
/-- cheat -/
theorem law_26 {p : Program} {e : Env} {s : State} {m : MethodId} {below : List Frame} {meth : Method} {c : Code} (l : Launch) {b L : Nat} {xs : Nat → Int32} (hL : L = 8) (C0 : lw_At p s m meth c b L xs) {dC : Nat → ClassId} {dI : Nat → Nat → Nat} {A : Nat → Prop} (hA : ∀ q : Nat, s.heap.size ≤ q → A q) (hbA : ¬ A b) (hAs : ∀ q : Nat, A q → s.heap.size ≤ q) {x y : Nat} {gx gy : Nat → Nat → Nat} {cax cay : Nat → Nat → ClassId} {H : Heap} {locs : List Loc} (hK : va_K (dC, dI) classes [] s) (hP : va_P (dC, dI) classes [(x, .inr (11, (o11 x gx))), ((gx 11 2), .inr (0, (o0 x gx))), (y, .inr (12, (o12 y gy)))] H) (hD : va_D A [(x, .inr (11, (o11 x gx))), ((gx 11 2), .inr (0, (o0 x gx))), (y, .inr (12, (o12 y gy)))]) (hS : va_S A s.heap H locs) {ls : Array Slot} (hl : lv_has ls 4 [(3, .int 0), (2, .ref y), (1, .ref x), (0, .ref b)]) : W p l e room_1 s m #[Value.ref b] below meth c H locs 98 5431 (lw_Z below #[Value.ref b] s) (F0 m 1124 ls []) := by
  obtain ⟨hx, hb, hr, hml, hown, hts, hX, hbl, hlocks, hgv⟩ := id C0
  have ht := tb_of hts
  refine lv_aload_n hx hb dL_law_1124 rfl (lv_at hl 2 rfl) ?_
  refine lv_aload_n hx hb dL_law_1125 rfl (lv_at hl 3 rfl) ?_
  refine lv_iload_n hx hb dL_law_1126 rfl (lv_at hl 0 rfl) ?_
  refine lv_iconst (v := 1) hx hb dL_law_1127 (by decide) ?_
  refine lv_iadd hx hb dL_law_1128 ?_
  refine lv_topi (fun v1 ev1 => ?_)
  obtain rfl : 1 = v1 := (ev1.trans (by decide)).symm
  refine va_sld hx hb hX hbl hbA hS (vp_in_iff.mpr (by rw [hL]; decide) : vp_in 1 L) dL_law_1129 ?_
  refine lv_topi (fun v2 ev2 => ?_)
  obtain rfl : xs 1 = v2 := ev2.symm
  refine lv_aload_n hx hb dL_law_1130 rfl (lv_at hl 3 rfl) ?_
  refine lv_iload_n hx hb dL_law_1131 rfl (lv_at hl 0 rfl) ?_
  refine lv_iconst (v := 2) hx hb dL_law_1132 (by decide) ?_
  refine lv_iadd hx hb dL_law_1133 ?_
  refine lv_topi (fun v3 ev3 => ?_)
  obtain rfl : 2 = v3 := (ev3.trans (by decide)).symm
  refine va_sld hx hb hX hbl hbA hS (vp_in_iff.mpr (by rw [hL]; decide) : vp_in 2 L) dL_law_1134 ?_
  refine lv_topi (fun v4 ev4 => ?_)
  obtain rfl : xs 2 = v4 := ev4.symm
  refine lv_aload_n hx hb dL_law_1135 rfl (lv_at hl 3 rfl) ?_
  refine lv_iload_n hx hb dL_law_1136 rfl (lv_at hl 0 rfl) ?_
  refine lv_iconst (v := 3) hx hb dL_law_1137 (by decide) ?_
  refine lv_iadd hx hb dL_law_1138 ?_
  refine lv_topi (fun v5 ev5 => ?_)
  obtain rfl : 3 = v5 := (ev5.trans (by decide)).symm
  refine va_sld hx hb hX hbl hbA hS (vp_in_iff.mpr (by rw [hL]; decide) : vp_in 3 L) dL_law_1139 ?_
  refine lv_topi (fun v6 ev6 => ?_)
  obtain rfl : xs 3 = v6 := ev6.symm
  refine lv_aload_n hx hb dL_law_1140 rfl (lv_at hl 3 rfl) ?_
  refine lv_iload_n hx hb dL_law_1141 rfl (lv_at hl 0 rfl) ?_
  refine lv_iconst (v := 4) hx hb dL_law_1142 (by decide) ?_
  refine lv_iadd hx hb dL_law_1143 ?_
  refine lv_topi (fun v7 ev7 => ?_)
  obtain rfl : 4 = v7 := (ev7.trans (by decide)).symm
  refine va_sld hx hb hX hbl hbA hS (vp_in_iff.mpr (by rw [hL]; decide) : vp_in 4 L) dL_law_1144 ?_
  refine lv_topi (fun v8 ev8 => ?_)
  obtain rfl : xs 4 = v8 := ev8.symm
  have hPc := hP.sub (ws' := [(x, .inr (11, (o11 x gx))), ((gx 11 2), .inr (0, (o0 x gx)))]) [0, 1] rfl
  have hKc := hK.sub (tys' := []) [] rfl
  refine vp_callSi (W.runV (As := [.int (xs 1), .int (xs 2), .int (xs 3), .int (xs 4)]) (rest := []) ⟨hx, hb, hml, hown, ht⟩ (c_X11_cheat l dC dI x gx cax (xs 1) (xs 2) (xs 3) (xs 4)) (kV 4 ht m_993 m_994 m_995 m_77 m_996 rfl rfl hd_X11_cheat_v ⟨Nat.le_of_ble_eq_true rfl, Nat.le_of_ble_eq_true rfl⟩) (vR hPc hKc (va_recv hKc hPc (ci := 11) (q0 := 0) rfl rfl)) rfl rfl hl.1 rfl (lv_room (Nat.le_of_ble_eq_true rfl)) dL_law_1145 ⟨Nat.le_of_ble_eq_true rfl, Nat.le_of_ble_eq_true rfl⟩) (fun r9 hr9 => ?_)
  obtain rfl : (-100001) = r9 := hr9.symm
  refine lv_aload_n hx hb dL_law_1148 rfl (lv_at hl 1 rfl) ?_
  refine lv_aload_n hx hb dL_law_1149 rfl (lv_at hl 3 rfl) ?_
  refine lv_iload_n hx hb dL_law_1150 rfl (lv_at hl 0 rfl) ?_
  refine lv_iconst (v := 1) hx hb dL_law_1151 (by decide) ?_
  refine lv_iadd hx hb dL_law_1152 ?_
  refine lv_topi (fun v10 ev10 => ?_)
  obtain rfl : 1 = v10 := (ev10.trans (by decide)).symm
  refine va_sld hx hb hX hbl hbA hS (vp_in_iff.mpr (by rw [hL]; decide) : vp_in 1 L) dL_law_1153 ?_
  refine lv_topi (fun v11 ev11 => ?_)
  obtain rfl : xs 1 = v11 := ev11.symm
  refine lv_aload_n hx hb dL_law_1154 rfl (lv_at hl 3 rfl) ?_
  refine lv_iload_n hx hb dL_law_1155 rfl (lv_at hl 0 rfl) ?_
  refine lv_iconst (v := 2) hx hb dL_law_1156 (by decide) ?_
  refine lv_iadd hx hb dL_law_1157 ?_
  refine lv_topi (fun v12 ev12 => ?_)
  obtain rfl : 2 = v12 := (ev12.trans (by decide)).symm
  refine va_sld hx hb hX hbl hbA hS (vp_in_iff.mpr (by rw [hL]; decide) : vp_in 2 L) dL_law_1158 ?_
  refine lv_topi (fun v13 ev13 => ?_)
  obtain rfl : xs 2 = v13 := ev13.symm
  refine lv_aload_n hx hb dL_law_1159 rfl (lv_at hl 3 rfl) ?_
  refine lv_iload_n hx hb dL_law_1160 rfl (lv_at hl 0 rfl) ?_
  refine lv_iconst (v := 3) hx hb dL_law_1161 (by decide) ?_
  refine lv_iadd hx hb dL_law_1162 ?_
  refine lv_topi (fun v14 ev14 => ?_)
  obtain rfl : 3 = v14 := (ev14.trans (by decide)).symm
  refine va_sld hx hb hX hbl hbA hS (vp_in_iff.mpr (by rw [hL]; decide) : vp_in 3 L) dL_law_1163 ?_
  refine lv_topi (fun v15 ev15 => ?_)
  obtain rfl : xs 3 = v15 := ev15.symm
  refine lv_aload_n hx hb dL_law_1164 rfl (lv_at hl 3 rfl) ?_
  refine lv_iload_n hx hb dL_law_1165 rfl (lv_at hl 0 rfl) ?_
  refine lv_iconst (v := 4) hx hb dL_law_1166 (by decide) ?_
  refine lv_iadd hx hb dL_law_1167 ?_
  refine lv_topi (fun v16 ev16 => ?_)
  obtain rfl : 4 = v16 := (ev16.trans (by decide)).symm
  refine va_sld hx hb hX hbl hbA hS (vp_in_iff.mpr (by rw [hL]; decide) : vp_in 4 L) dL_law_1168 ?_
  refine lv_topi (fun v17 ev17 => ?_)
  obtain rfl : xs 4 = v17 := ev17.symm
  have hPc := hP.sub (ws' := [(y, .inr (12, (o12 y gy)))]) [2] rfl
  have hKc := hK.sub (tys' := []) [] rfl
  refine vp_callSi (W.runV (As := [.int (xs 1), .int (xs 2), .int (xs 3), .int (xs 4)]) (rest := [.int (-100001)]) ⟨hx, hb, hml, hown, ht⟩ (c_X12_cheat l dC dI y gy cay (xs 1) (xs 2) (xs 3) (xs 4)) (kV 4 ht m_1633 m_1634 m_1635 m_89 m_1636 rfl rfl hd_X12_cheat_v ⟨Nat.le_of_ble_eq_true rfl, Nat.le_of_ble_eq_true rfl⟩) (vR hPc hKc (va_recv hKc hPc (ci := 12) (q0 := 0) rfl rfl)) rfl rfl hl.1 rfl (lv_room (Nat.le_of_ble_eq_true rfl)) dL_law_1169 ⟨Nat.le_of_ble_eq_true rfl, Nat.le_of_ble_eq_true rfl⟩) (fun r18 hr18 => ?_)
  obtain rfl : (-100001) = r18 := hr18.symm
  refine lv_icmp_eq (tgt := 1511) hx hb dL_law_1172 (by decide) (fun c19 => ?_) (fun c19 => ?_)
  · skip
    exact law_tail l hL C0 hA hbA hAs hS hl
  · exact absurd rfl c19
set_option maxHeartbeats 4000000 in
set_option maxRecDepth 100000 in
/-- load -/
theorem law_27 {p : Program} {e : Env} {s : State} {m : MethodId} {below : List Frame} {meth : Method} {c : Code} (l : Launch) {b L : Nat} {xs : Nat → Int32} (hL : L = 8) (C0 : lw_At p s m meth c b L xs) {dC : Nat → ClassId} {dI : Nat → Nat → Nat} {A : Nat → Prop} (hA : ∀ q : Nat, s.heap.size ≤ q → A q) (hbA : ¬ A b) (hAs : ∀ q : Nat, A q → s.heap.size ≤ q) {x y : Nat} {gx gy : Nat → Nat → Nat} {cax cay : Nat → Nat → ClassId} {H : Heap} {locs : List Loc} (hK : va_K (dC, dI) classes [((cax 5 0), .int), ((cay 12 58), .int)] s) (hP : va_P (dC, dI) classes [(x, .inr (11, (o11 x gx))), ((gx 11 7), .inr (5, (o5 x gx))), ((gx 5 0), .inl ((cax 5 0), 8, .inl (fun _ => 0))), (y, .inr (12, (o12 y gy))), ((gy 12 58), .inl ((cay 12 58), 8, .inl (fun _ => 0)))] H) (hD : va_D A [(x, .inr (11, (o11 x gx))), ((gx 11 7), .inr (5, (o5 x gx))), ((gx 5 0), .inl ((cax 5 0), 8, .inl (fun _ => 0))), (y, .inr (12, (o12 y gy))), ((gy 12 58), .inl ((cay 12 58), 8, .inl (fun _ => 0)))]) (hS : va_S A s.heap H locs) {ls : Array Slot} (hl : lv_has ls 4 [(3, .int 0), (2, .ref y), (1, .ref x), (0, .ref b)]) : W p l e room_1 s m #[Value.ref b] below meth c H locs 98 5431 (lw_Z below #[Value.ref b] s) (F0 m 1177 ls []) := by
  obtain ⟨hx, hb, hr, hml, hown, hts, hX, hbl, hlocks, hgv⟩ := id C0
  have ht := tb_of hts
  refine lv_aload_n hx hb dL_law_1177 rfl (lv_at hl 2 rfl) ?_
  refine lv_aload_n hx hb dL_law_1178 rfl (lv_at hl 3 rfl) ?_
  refine lv_iload_n hx hb dL_law_1179 rfl (lv_at hl 0 rfl) ?_
  refine lv_iconst (v := 1) hx hb dL_law_1180 (by decide) ?_
  refine lv_iadd hx hb dL_law_1181 ?_
  refine lv_topi (fun v1 ev1 => ?_)
  obtain rfl : 1 = v1 := (ev1.trans (by decide)).symm
  refine va_sld hx hb hX hbl hbA hS (vp_in_iff.mpr (by rw [hL]; decide) : vp_in 1 L) dL_law_1182 ?_
  refine lv_topi (fun v2 ev2 => ?_)
  obtain rfl : xs 1 = v2 := ev2.symm
  have hPc := hP.sub (ws' := [(x, .inr (11, (o11 x gx))), ((gx 11 7), .inr (5, (o5 x gx))), ((gx 5 0), .inl ((cax 5 0), 8, .inl (fun _ => 0)))]) [0, 1, 2] rfl
  have hKc := hK.sub (tys' := [((cax 5 0), .int)]) [0] rfl
  have hDc := hD.sub (ws' := [(x, .inr (11, (o11 x gx))), ((gx 11 7), .inr (5, (o5 x gx))), ((gx 5 0), .inl ((cax 5 0), 8, .inl (fun _ => 0)))]) [0, 1, 2] (by decide) rfl
  have hFc := va_free (wc := [(x, .inr (11, (o11 x gx))), ((gx 11 7), .inr (5, (o5 x gx))), ((gx 5 0), .inl ((cax 5 0), 8, .inl (fun _ => 0)))]) hD hS hA [0, 1, 2] rfl
  refine va_calli (va_runV (As := [.int (xs 1)]) (rest := []) ⟨hx, hb, hml, hown, ht⟩ (c_X11_load l dC dI H.size x gx cax (xs 1)) (kV 1 ht m_1001 m_1002 m_1003 m_77 m_1004 rfl rfl hd_X11_load_v ⟨Nat.le_of_ble_eq_true rfl, Nat.le_of_ble_eq_true rfl⟩) (vW hPc hKc hDc (va_recv hKc hPc (ci := 11) (q0 := 0) rfl rfl)) rfl rfl hl.1 rfl (lv_room (Nat.le_of_ble_eq_true rfl)) dL_law_1183 ⟨Nat.le_of_ble_eq_true rfl, Nat.le_of_ble_eq_true rfl⟩) hS (fun q _ h => hFc q h) hFc (fun r3 u t H1 locs ht9 hvm hr3 hB hz1 hk1 hS => ?_)
  have hP1 : va_P (dC, dI) classes [] H1 := noP
  have hD1 : va_D (va_A [(x, .inr (11, (o11 x gx))), ((gx 11 7), .inr (5, (o5 x gx))), ((gx 5 0), .inl ((cax 5 0), 8, .inl (fun _ => 0)))] H.size) [] := noD
  obtain ⟨hP, hD⟩ := va_join (wr := [(y, .inr (12, (o12 y gy))), ((gy 12 58), .inl ((cay 12 58), 8, .inl (fun _ => 0)))]) (w1 := []) hP hD [0, 1, 2] [3, 4] rfl rfl (by decide) (by decide) hk1 hFc hP1 hD1
  generalize H1 = H at hP hS ⊢
  have hP : va_P (dC, dI) classes [(y, .inr (12, (o12 y gy))), ((gy 12 58), .inl ((cay 12 58), 8, .inl (fun _ => 0)))] H := hP
  have hD : va_D A [(y, .inr (12, (o12 y gy))), ((gy 12 58), .inl ((cay 12 58), 8, .inl (fun _ => 0)))] := hD
  obtain rfl : (F_load (xs 1)) = r3 := hr3.symm
  refine lv_aload_n hx hb dL_law_1186 rfl (lv_at hl 1 rfl) ?_
  refine lv_aload_n hx hb dL_law_1187 rfl (lv_at hl 3 rfl) ?_
  refine lv_iload_n hx hb dL_law_1188 rfl (lv_at hl 0 rfl) ?_
  refine lv_iconst (v := 1) hx hb dL_law_1189 (by decide) ?_
  refine lv_iadd hx hb dL_law_1190 ?_
  refine lv_topi (fun v4 ev4 => ?_)
  obtain rfl : 1 = v4 := (ev4.trans (by decide)).symm
  refine va_sld hx hb hX hbl hbA hS (vp_in_iff.mpr (by rw [hL]; decide) : vp_in 1 L) dL_law_1191 ?_
  refine lv_topi (fun v5 ev5 => ?_)
  obtain rfl : xs 1 = v5 := ev5.symm
  have hPc := hP.sub (ws' := [(y, .inr (12, (o12 y gy))), ((gy 12 58), .inl ((cay 12 58), 8, .inl (fun _ => 0)))]) [0, 1] rfl
  have hKc := hK.sub (tys' := [((cay 12 58), .int)]) [1] rfl
  have hDc := hD.sub (ws' := [(y, .inr (12, (o12 y gy))), ((gy 12 58), .inl ((cay 12 58), 8, .inl (fun _ => 0)))]) [0, 1] (by decide) rfl
  have hFc := va_free (wc := [(y, .inr (12, (o12 y gy))), ((gy 12 58), .inl ((cay 12 58), 8, .inl (fun _ => 0)))]) hD hS hA [0, 1] rfl
  refine va_calli (va_runV (As := [.int (xs 1)]) (rest := [.int (F_load (xs 1))]) ⟨hx, hb, hml, hown, ht⟩ (c_X12_load l dC dI H.size y gy cay (xs 1)) (kV 1 ht m_1637 m_1638 m_1639 m_89 m_1640 rfl rfl hd_X12_load_v ⟨Nat.le_of_ble_eq_true rfl, Nat.le_of_ble_eq_true rfl⟩) (vW hPc hKc hDc (va_recv hKc hPc (ci := 12) (q0 := 0) rfl rfl)) rfl rfl hl.1 rfl (lv_room (Nat.le_of_ble_eq_true rfl)) dL_law_1192 ⟨Nat.le_of_ble_eq_true rfl, Nat.le_of_ble_eq_true rfl⟩) hS (fun q _ h => hFc q h) hFc (fun r6 u t H1 locs ht9 hvm hr6 hB hz1 hk1 hS => ?_)
  have hP1 : va_P (dC, dI) classes [] H1 := noP
  have hD1 : va_D (va_A [(y, .inr (12, (o12 y gy))), ((gy 12 58), .inl ((cay 12 58), 8, .inl (fun _ => 0)))] H.size) [] := noD
  obtain ⟨hP, hD⟩ := va_join (wr := []) (w1 := []) hP hD [0, 1] [] rfl rfl (by decide) (by decide) hk1 hFc hP1 hD1
  generalize H1 = H at hP hS ⊢
  have hP : va_P (dC, dI) classes [] H := hP
  have hD : va_D A [] := hD
  obtain rfl : (F_load (xs 1)) = r6 := hr6.symm
  refine lv_icmp_eq (tgt := 1511) hx hb dL_law_1195 (by decide) (fun c7 => ?_) (fun c7 => ?_)
  · skip
    exact law_tail l hL C0 hA hbA hAs hS hl
  · exact absurd rfl c7
set_option maxHeartbeats 4000000 in
set_option maxRecDepth 100000 in
/-- order -/
theorem law_28 {p : Program} {e : Env} {s : State} {m : MethodId} {below : List Frame} {meth : Method} {c : Code} (l : Launch) {b L : Nat} {xs : Nat → Int32} (hL : L = 8) (C0 : lw_At p s m meth c b L xs) {dC : Nat → ClassId} {dI : Nat → Nat → Nat} {A : Nat → Prop} (hA : ∀ q : Nat, s.heap.size ≤ q → A q) (hbA : ¬ A b) (hAs : ∀ q : Nat, A q → s.heap.size ≤ q) {x y : Nat} {gx gy : Nat → Nat → Nat} {cax cay : Nat → Nat → ClassId} {H : Heap} {locs : List Loc} (hK : va_K (dC, dI) classes [((cax 5 1), .int), ((cax 5 3), .int), ((cay 12 59), .int)] s) (hP : va_P (dC, dI) classes [(x, .inr (11, (o11 x gx))), ((gx 11 7), .inr (5, (o5 x gx))), ((gx 5 1), .inl ((cax 5 1), 8, .inl (fun _ => 0))), ((gx 5 3), .inl ((cax 5 3), 8, .inl (fun _ => 0))), (y, .inr (12, (o12 y gy))), ((gy 12 59), .inl ((cay 12 59), 3, .inl (fun _ => 0)))] H) (hD : va_D A [(x, .inr (11, (o11 x gx))), ((gx 11 7), .inr (5, (o5 x gx))), ((gx 5 1), .inl ((cax 5 1), 8, .inl (fun _ => 0))), ((gx 5 3), .inl ((cax 5 3), 8, .inl (fun _ => 0))), (y, .inr (12, (o12 y gy))), ((gy 12 59), .inl ((cay 12 59), 3, .inl (fun _ => 0)))]) (hS : va_S A s.heap H locs) {ls : Array Slot} (hl : lv_has ls 4 [(3, .int 0), (2, .ref y), (1, .ref x), (0, .ref b)]) : W p l e room_1 s m #[Value.ref b] below meth c H locs 98 5431 (lw_Z below #[Value.ref b] s) (F0 m 1200 ls []) := by
  obtain ⟨hx, hb, hr, hml, hown, hts, hX, hbl, hlocks, hgv⟩ := id C0
  have ht := tb_of hts
  refine lv_aload_n hx hb dL_law_1200 rfl (lv_at hl 2 rfl) ?_
  refine lv_aload_n hx hb dL_law_1201 rfl (lv_at hl 3 rfl) ?_
  refine lv_iload_n hx hb dL_law_1202 rfl (lv_at hl 0 rfl) ?_
  refine lv_iconst (v := 1) hx hb dL_law_1203 (by decide) ?_
  refine lv_iadd hx hb dL_law_1204 ?_
  refine lv_topi (fun v1 ev1 => ?_)
  obtain rfl : 1 = v1 := (ev1.trans (by decide)).symm
  refine va_sld hx hb hX hbl hbA hS (vp_in_iff.mpr (by rw [hL]; decide) : vp_in 1 L) dL_law_1205 ?_
  refine lv_topi (fun v2 ev2 => ?_)
  obtain rfl : xs 1 = v2 := ev2.symm
  refine lv_aload_n hx hb dL_law_1206 rfl (lv_at hl 3 rfl) ?_
  refine lv_iload_n hx hb dL_law_1207 rfl (lv_at hl 0 rfl) ?_
  refine lv_iconst (v := 2) hx hb dL_law_1208 (by decide) ?_
  refine lv_iadd hx hb dL_law_1209 ?_
  refine lv_topi (fun v3 ev3 => ?_)
  obtain rfl : 2 = v3 := (ev3.trans (by decide)).symm
  refine va_sld hx hb hX hbl hbA hS (vp_in_iff.mpr (by rw [hL]; decide) : vp_in 2 L) dL_law_1210 ?_
  refine lv_topi (fun v4 ev4 => ?_)
  obtain rfl : xs 2 = v4 := ev4.symm
  have hPc := hP.sub (ws' := [(x, .inr (11, (o11 x gx))), ((gx 11 7), .inr (5, (o5 x gx))), ((gx 5 1), .inl ((cax 5 1), 8, .inl (fun _ => 0))), ((gx 5 3), .inl ((cax 5 3), 8, .inl (fun _ => 0)))]) [0, 1, 2, 3] rfl
  have hKc := hK.sub (tys' := [((cax 5 1), .int), ((cax 5 3), .int)]) [0, 1] rfl
  have hDc := hD.sub (ws' := [(x, .inr (11, (o11 x gx))), ((gx 11 7), .inr (5, (o5 x gx))), ((gx 5 1), .inl ((cax 5 1), 8, .inl (fun _ => 0))), ((gx 5 3), .inl ((cax 5 3), 8, .inl (fun _ => 0)))]) [0, 1, 2, 3] (by decide) rfl
  have hFc := va_free (wc := [(x, .inr (11, (o11 x gx))), ((gx 11 7), .inr (5, (o5 x gx))), ((gx 5 1), .inl ((cax 5 1), 8, .inl (fun _ => 0))), ((gx 5 3), .inl ((cax 5 3), 8, .inl (fun _ => 0)))]) hD hS hA [0, 1, 2, 3] rfl
  refine va_calli (va_runV (As := [.int (xs 1), .int (xs 2)]) (rest := []) ⟨hx, hb, hml, hown, ht⟩ (c_X11_order l dC dI H.size x gx cax (xs 1) (xs 2)) (kV 2 ht m_1009 m_1010 m_1011 m_77 m_1012 rfl rfl hd_X11_order_v ⟨Nat.le_of_ble_eq_true rfl, Nat.le_of_ble_eq_true rfl⟩) (vW hPc hKc hDc (va_recv hKc hPc (ci := 11) (q0 := 0) rfl rfl)) rfl rfl hl.1 rfl (lv_room (Nat.le_of_ble_eq_true rfl)) dL_law_1211 ⟨Nat.le_of_ble_eq_true rfl, Nat.le_of_ble_eq_true rfl⟩) hS (fun q _ h => hFc q h) hFc (fun r5 u t H1 locs ht9 hvm hr5 hB hz1 hk1 hS => ?_)
  have hP1 : va_P (dC, dI) classes [] H1 := noP
  have hD1 : va_D (va_A [(x, .inr (11, (o11 x gx))), ((gx 11 7), .inr (5, (o5 x gx))), ((gx 5 1), .inl ((cax 5 1), 8, .inl (fun _ => 0))), ((gx 5 3), .inl ((cax 5 3), 8, .inl (fun _ => 0)))] H.size) [] := noD
  obtain ⟨hP, hD⟩ := va_join (wr := [(y, .inr (12, (o12 y gy))), ((gy 12 59), .inl ((cay 12 59), 3, .inl (fun _ => 0)))]) (w1 := []) hP hD [0, 1, 2, 3] [4, 5] rfl rfl (by decide) (by decide) hk1 hFc hP1 hD1
  generalize H1 = H at hP hS ⊢
  have hP : va_P (dC, dI) classes [(y, .inr (12, (o12 y gy))), ((gy 12 59), .inl ((cay 12 59), 3, .inl (fun _ => 0)))] H := hP
  have hD : va_D A [(y, .inr (12, (o12 y gy))), ((gy 12 59), .inl ((cay 12 59), 3, .inl (fun _ => 0)))] := hD
  obtain rfl : (F_order (xs 1) (xs 2)) = r5 := hr5.symm
  refine lv_aload_n hx hb dL_law_1214 rfl (lv_at hl 1 rfl) ?_
  refine lv_aload_n hx hb dL_law_1215 rfl (lv_at hl 3 rfl) ?_
  refine lv_iload_n hx hb dL_law_1216 rfl (lv_at hl 0 rfl) ?_
  refine lv_iconst (v := 1) hx hb dL_law_1217 (by decide) ?_
  refine lv_iadd hx hb dL_law_1218 ?_
  refine lv_topi (fun v6 ev6 => ?_)
  obtain rfl : 1 = v6 := (ev6.trans (by decide)).symm
  refine va_sld hx hb hX hbl hbA hS (vp_in_iff.mpr (by rw [hL]; decide) : vp_in 1 L) dL_law_1219 ?_
  refine lv_topi (fun v7 ev7 => ?_)
  obtain rfl : xs 1 = v7 := ev7.symm
  refine lv_aload_n hx hb dL_law_1220 rfl (lv_at hl 3 rfl) ?_
  refine lv_iload_n hx hb dL_law_1221 rfl (lv_at hl 0 rfl) ?_
  refine lv_iconst (v := 2) hx hb dL_law_1222 (by decide) ?_
  refine lv_iadd hx hb dL_law_1223 ?_
  refine lv_topi (fun v8 ev8 => ?_)
  obtain rfl : 2 = v8 := (ev8.trans (by decide)).symm
  refine va_sld hx hb hX hbl hbA hS (vp_in_iff.mpr (by rw [hL]; decide) : vp_in 2 L) dL_law_1224 ?_
  refine lv_topi (fun v9 ev9 => ?_)
  obtain rfl : xs 2 = v9 := ev9.symm
  have hPc := hP.sub (ws' := [(y, .inr (12, (o12 y gy))), ((gy 12 59), .inl ((cay 12 59), 3, .inl (fun _ => 0)))]) [0, 1] rfl
  have hKc := hK.sub (tys' := [((cay 12 59), .int)]) [2] rfl
  have hDc := hD.sub (ws' := [(y, .inr (12, (o12 y gy))), ((gy 12 59), .inl ((cay 12 59), 3, .inl (fun _ => 0)))]) [0, 1] (by decide) rfl
  have hFc := va_free (wc := [(y, .inr (12, (o12 y gy))), ((gy 12 59), .inl ((cay 12 59), 3, .inl (fun _ => 0)))]) hD hS hA [0, 1] rfl
  refine va_calli (va_runV (As := [.int (xs 1), .int (xs 2)]) (rest := [.int (F_order (xs 1) (xs 2))]) ⟨hx, hb, hml, hown, ht⟩ (c_X12_order l dC dI H.size y gy cay (xs 1) (xs 2)) (kV 2 ht m_1641 m_1642 m_1643 m_89 m_1644 rfl rfl hd_X12_order_v ⟨Nat.le_of_ble_eq_true rfl, Nat.le_of_ble_eq_true rfl⟩) (vW hPc hKc hDc (va_recv hKc hPc (ci := 12) (q0 := 0) rfl rfl)) rfl rfl hl.1 rfl (lv_room (Nat.le_of_ble_eq_true rfl)) dL_law_1225 ⟨Nat.le_of_ble_eq_true rfl, Nat.le_of_ble_eq_true rfl⟩) hS (fun q _ h => hFc q h) hFc (fun r10 u t H1 locs ht9 hvm hr10 hB hz1 hk1 hS => ?_)
  have hP1 : va_P (dC, dI) classes [] H1 := noP
  have hD1 : va_D (va_A [(y, .inr (12, (o12 y gy))), ((gy 12 59), .inl ((cay 12 59), 3, .inl (fun _ => 0)))] H.size) [] := noD
  obtain ⟨hP, hD⟩ := va_join (wr := []) (w1 := []) hP hD [0, 1] [] rfl rfl (by decide) (by decide) hk1 hFc hP1 hD1
  generalize H1 = H at hP hS ⊢
  have hP : va_P (dC, dI) classes [] H := hP
  have hD : va_D A [] := hD
  obtain rfl : (F_order (xs 1) (xs 2)) = r10 := hr10.symm
  refine lv_icmp_eq (tgt := 1511) hx hb dL_law_1228 (by decide) (fun c11 => ?_) (fun c11 => ?_)
  · skip
    exact law_tail l hL C0 hA hbA hAs hS hl
  · exact absurd rfl c11
set_option maxHeartbeats 4000000 in
set_option maxRecDepth 100000 in
/-- empty -/
theorem law_29 {p : Program} {e : Env} {s : State} {m : MethodId} {below : List Frame} {meth : Method} {c : Code} (l : Launch) {b L : Nat} {xs : Nat → Int32} (hL : L = 8) (C0 : lw_At p s m meth c b L xs) {dC : Nat → ClassId} {dI : Nat → Nat → Nat} {A : Nat → Prop} (hA : ∀ q : Nat, s.heap.size ≤ q → A q) (hbA : ¬ A b) (hAs : ∀ q : Nat, A q → s.heap.size ≤ q) {x y : Nat} {gx gy : Nat → Nat → Nat} {cax cay : Nat → Nat → ClassId} {H : Heap} {locs : List Loc} (hK : va_K (dC, dI) classes [] s) (hP : va_P (dC, dI) classes [(x, .inr (11, (o11 x gx))), ((gx 11 7), .inr (5, (o5 x gx))), (y, .inr (12, (o12 y gy)))] H) (hD : va_D A [(x, .inr (11, (o11 x gx))), ((gx 11 7), .inr (5, (o5 x gx))), (y, .inr (12, (o12 y gy)))]) (hS : va_S A s.heap H locs) {ls : Array Slot} (hl : lv_has ls 4 [(3, .int 0), (2, .ref y), (1, .ref x), (0, .ref b)]) : W p l e room_1 s m #[Value.ref b] below meth c H locs 98 5431 (lw_Z below #[Value.ref b] s) (F0 m 1233 ls []) := by
  obtain ⟨hx, hb, hr, hml, hown, hts, hX, hbl, hlocks, hgv⟩ := id C0
  have ht := tb_of hts
  refine lv_aload_n hx hb dL_law_1233 rfl (lv_at hl 2 rfl) ?_
  have hPc := hP.sub (ws' := [(x, .inr (11, (o11 x gx))), ((gx 11 7), .inr (5, (o5 x gx)))]) [0, 1] rfl
  have hKc := hK.sub (tys' := []) [] rfl
  have hDc := hD.sub (ws' := [(x, .inr (11, (o11 x gx))), ((gx 11 7), .inr (5, (o5 x gx)))]) [0, 1] (by decide) rfl
  have hFc := va_free (wc := [(x, .inr (11, (o11 x gx))), ((gx 11 7), .inr (5, (o5 x gx)))]) hD hS hA [0, 1] rfl
  refine va_calli (va_runV (As := []) (rest := []) ⟨hx, hb, hml, hown, ht⟩ (c_X11_empty l dC dI H.size x gx cax) (kV 0 ht m_1026 m_1027 m_1028 m_77 m_1029 rfl rfl hd_X11_empty_v ⟨Nat.le_of_ble_eq_true rfl, Nat.le_of_ble_eq_true rfl⟩) (vW hPc hKc hDc (va_recv hKc hPc (ci := 11) (q0 := 0) rfl rfl)) rfl rfl hl.1 rfl (lv_room (Nat.le_of_ble_eq_true rfl)) dL_law_1234 ⟨Nat.le_of_ble_eq_true rfl, Nat.le_of_ble_eq_true rfl⟩) hS (fun q _ h => hFc q h) hFc (fun r1 u t H1 locs ht9 hvm hr1 hB hz1 hk1 hS => ?_)
  have hP1 : va_P (dC, dI) classes [] H1 := noP
  have hD1 : va_D (va_A [(x, .inr (11, (o11 x gx))), ((gx 11 7), .inr (5, (o5 x gx)))] H.size) [] := noD
  obtain ⟨hP, hD⟩ := va_join (wr := [(y, .inr (12, (o12 y gy)))]) (w1 := []) hP hD [0, 1] [2] rfl rfl (by decide) (by decide) hk1 hFc hP1 hD1
  generalize H1 = H at hP hS ⊢
  have hP : va_P (dC, dI) classes [(y, .inr (12, (o12 y gy)))] H := hP
  have hD : va_D A [(y, .inr (12, (o12 y gy)))] := hD
  obtain rfl : 0 = r1 := hr1.symm
  refine lv_aload_n hx hb dL_law_1237 rfl (lv_at hl 1 rfl) ?_
  have hPc := hP.sub (ws' := [(y, .inr (12, (o12 y gy)))]) [0] rfl
  have hKc := hK.sub (tys' := []) [] rfl
  have hDc := hD.sub (ws' := [(y, .inr (12, (o12 y gy)))]) [0] (by decide) rfl
  have hFc := va_free (wc := [(y, .inr (12, (o12 y gy)))]) hD hS hA [0] rfl
  refine va_calli (va_runV (As := []) (rest := [.int 0]) ⟨hx, hb, hml, hown, ht⟩ (c_X12_empty l dC dI H.size y gy cay) (kV 0 ht m_1656 m_1657 m_1658 m_89 m_1659 rfl rfl hd_X12_empty_v ⟨Nat.le_of_ble_eq_true rfl, Nat.le_of_ble_eq_true rfl⟩) (vW hPc hKc hDc (va_recv hKc hPc (ci := 12) (q0 := 0) rfl rfl)) rfl rfl hl.1 rfl (lv_room (Nat.le_of_ble_eq_true rfl)) dL_law_1238 ⟨Nat.le_of_ble_eq_true rfl, Nat.le_of_ble_eq_true rfl⟩) hS (fun q _ h => hFc q h) hFc (fun r2 u t H1 locs ht9 hvm hr2 hB hz1 hk1 hS => ?_)
  have hP1 : va_P (dC, dI) classes [] H1 := noP
  have hD1 : va_D (va_A [(y, .inr (12, (o12 y gy)))] H.size) [] := noD
  obtain ⟨hP, hD⟩ := va_join (wr := []) (w1 := []) hP hD [0] [] rfl rfl (by decide) (by decide) hk1 hFc hP1 hD1
  generalize H1 = H at hP hS ⊢
  have hP : va_P (dC, dI) classes [] H := hP
  have hD : va_D A [] := hD
  obtain rfl : 0 = r2 := hr2.symm
  refine lv_icmp_eq (tgt := 1511) hx hb dL_law_1241 (by decide) (fun c3 => ?_) (fun c3 => ?_)
  · skip
    exact law_tail l hL C0 hA hbA hAs hS hl
  · exact absurd rfl c3
