/-! ===== loop ===== -/
set_option maxRecDepth 100000 in
theorem wL_0 : Win cL_law 0 [187, 0, 7, 89, 183, 0, 9, 76, 187, 0, 10, 89, 183, 0, 12, 77, 3, 62, 29, 42, 190, 16, 8, 100, 163, 5, 211, 42] := Win_sub (o := 0) (o2 := 0) (n := 28) WL_0 (by decide +kernel)
theorem dL_law_18 : decode cL_law 18 = .ok (.iload_n 3, 1) := dk_29 (w_at wL_0 18 (p := 18) rfl rfl rfl)
theorem dL_law_19 : decode cL_law 19 = .ok (.aload_n 0, 1) := dk_42 (w_at wL_0 19 (p := 19) rfl rfl rfl)
set_option maxRecDepth 100000 in
theorem wL_1 : Win cL_law 24 [163, 5, 211, 42, 29, 46, 16, 63, 126, 170, 0, 0, 0, 0, 5, 196, 0, 0, 0, 0, 0, 0, 0, 37, 0, 0, 0, 167] := Win_sub (o := 0) (o2 := 24) (n := 28) WL_0 (by decide +kernel)
theorem dL_law_27 : decode cL_law 27 = .ok (.aload_n 0, 1) := dk_42 (w_at wL_1 3 (p := 27) rfl rfl rfl)
theorem dL_law_28 : decode cL_law 28 = .ok (.iload_n 3, 1) := dk_29 (w_at wL_1 4 (p := 28) rfl rfl rfl)
theorem dL_law_29 : decode cL_law 29 = .ok (.iaload, 1) := dk_46 (w_at wL_1 5 (p := 29) rfl rfl rfl)
set_option maxRecDepth 100000 in
theorem wL_63 : Win cL_law 1512 [167, 250, 42, 4, 172] := Win_sub (o := 1440) (o2 := 72) (n := 28) WL_6 (by decide +kernel)
theorem dL_law_1515 : decode cL_law 1515 = .ok (.iconst 1, 1) := dk_4 (w_at wL_63 3 (p := 1515) rfl rfl rfl)
set_option maxRecDepth 100000 in
theorem dvL_law_20 : ([(20, .arraylength, 1), (21, .bipush 8, 2), (23, .isub, 1), (24, .if_icmp .gt 1491, 3), (30, .bipush 63, 2), (32, .iand, 1), (33, .tableswitch 1476 0 37 #[167, 190, 213, 300, 323, 356, 399, 442, 485, 508, 571, 594, 607, 640, 673, 706, 749, 782, 815, 848, 881, 914, 947, 980, 1013, 1036, 1089, 1142, 1165, 1198, 1211, 1264, 1287, 1310, 1343, 1386, 1409, 1442], 167), (1509, .iinc 3 8, 3), (1512, .goto (-1494), 3), (1516, .ireturn, 1)] : List (Nat × Instr × Nat)).all (fun q => decide (decode cL_law q.1 = .ok (q.2.1, q.2.2))) = true := by decide +kernel
theorem dL_law_20 : decode cL_law 20 = .ok (.arraylength, 1) := all_at dvL_law_20 0 rfl
theorem dL_law_21 : decode cL_law 21 = .ok (.bipush 8, 2) := all_at dvL_law_20 1 rfl
theorem dL_law_23 : decode cL_law 23 = .ok (.isub, 1) := all_at dvL_law_20 2 rfl
theorem dL_law_24 : decode cL_law 24 = .ok (.if_icmp .gt 1491, 3) := all_at dvL_law_20 3 rfl
theorem dL_law_30 : decode cL_law 30 = .ok (.bipush 63, 2) := all_at dvL_law_20 4 rfl
theorem dL_law_32 : decode cL_law 32 = .ok (.iand, 1) := all_at dvL_law_20 5 rfl
theorem dL_law_33 : decode cL_law 33 = .ok (.tableswitch 1476 0 37 #[167, 190, 213, 300, 323, 356, 399, 442, 485, 508, 571, 594, 607, 640, 673, 706, 749, 782, 815, 848, 881, 914, 947, 980, 1013, 1036, 1089, 1142, 1165, 1198, 1211, 1264, 1287, 1310, 1343, 1386, 1409, 1442], 167) := all_at dvL_law_20 6 rfl
theorem dL_law_1509 : decode cL_law 1509 = .ok (.iinc 3 8, 3) := all_at dvL_law_20 7 rfl
theorem dL_law_1512 : decode cL_law 1512 = .ok (.goto (-1494), 3) := all_at dvL_law_20 8 rfl
theorem dL_law_1516 : decode cL_law 1516 = .ok (.ireturn, 1) := all_at dvL_law_20 9 rfl
theorem sw_0_37 (x : Int32) : (x.toInt < 0 ∨ 37 < x.toInt) ∨ x = 0 ∨ x = 1 ∨ x = 2 ∨ x = 3 ∨ x = 4 ∨ x = 5 ∨ x = 6 ∨ x = 7 ∨ x = 8 ∨ x = 9 ∨ x = 10 ∨ x = 11 ∨ x = 12 ∨ x = 13 ∨ x = 14 ∨ x = 15 ∨ x = 16 ∨ x = 17 ∨ x = 18 ∨ x = 19 ∨ x = 20 ∨ x = 21 ∨ x = 22 ∨ x = 23 ∨ x = 24 ∨ x = 25 ∨ x = 26 ∨ x = 27 ∨ x = 28 ∨ x = 29 ∨ x = 30 ∨ x = 31 ∨ x = 32 ∨ x = 33 ∨ x = 34 ∨ x = 35 ∨ x = 36 ∨ x = 37 := by
  by_cases h : x.toInt < 0 ∨ 37 < x.toInt
  · exact Or.inl h
  · right
    have h2 : x.toInt = 0 ∨ x.toInt = 1 ∨ x.toInt = 2 ∨ x.toInt = 3 ∨ x.toInt = 4 ∨ x.toInt = 5 ∨ x.toInt = 6 ∨ x.toInt = 7 ∨ x.toInt = 8 ∨ x.toInt = 9 ∨ x.toInt = 10 ∨ x.toInt = 11 ∨ x.toInt = 12 ∨ x.toInt = 13 ∨ x.toInt = 14 ∨ x.toInt = 15 ∨ x.toInt = 16 ∨ x.toInt = 17 ∨ x.toInt = 18 ∨ x.toInt = 19 ∨ x.toInt = 20 ∨ x.toInt = 21 ∨ x.toInt = 22 ∨ x.toInt = 23 ∨ x.toInt = 24 ∨ x.toInt = 25 ∨ x.toInt = 26 ∨ x.toInt = 27 ∨ x.toInt = 28 ∨ x.toInt = 29 ∨ x.toInt = 30 ∨ x.toInt = 31 ∨ x.toInt = 32 ∨ x.toInt = 33 ∨ x.toInt = 34 ∨ x.toInt = 35 ∨ x.toInt = 36 ∨ x.toInt = 37 := by omega
    rcases h2 with h2 | h2 | h2 | h2 | h2 | h2 | h2 | h2 | h2 | h2 | h2 | h2 | h2 | h2 | h2 | h2 | h2 | h2 | h2 | h2 | h2 | h2 | h2 | h2 | h2 | h2 | h2 | h2 | h2 | h2 | h2 | h2 | h2 | h2 | h2 | h2 | h2 | h2
    · exact Or.inl (z_of (by decide) h2)
    · exact Or.inr (Or.inl (z_of (by decide) h2))
    · exact Or.inr (Or.inr (Or.inl (z_of (by decide) h2)))
    · exact Or.inr (Or.inr (Or.inr (Or.inl (z_of (by decide) h2))))
    · exact Or.inr (Or.inr (Or.inr (Or.inr (Or.inl (z_of (by decide) h2)))))
    · exact Or.inr (Or.inr (Or.inr (Or.inr (Or.inr (Or.inl (z_of (by decide) h2))))))
    · exact Or.inr (Or.inr (Or.inr (Or.inr (Or.inr (Or.inr (Or.inl (z_of (by decide) h2)))))))
    · exact Or.inr (Or.inr (Or.inr (Or.inr (Or.inr (Or.inr (Or.inr (Or.inl (z_of (by decide) h2))))))))
    · exact Or.inr (Or.inr (Or.inr (Or.inr (Or.inr (Or.inr (Or.inr (Or.inr (Or.inl (z_of (by decide) h2)))))))))
    · exact Or.inr (Or.inr (Or.inr (Or.inr (Or.inr (Or.inr (Or.inr (Or.inr (Or.inr (Or.inl (z_of (by decide) h2))))))))))
    · exact Or.inr (Or.inr (Or.inr (Or.inr (Or.inr (Or.inr (Or.inr (Or.inr (Or.inr (Or.inr (Or.inl (z_of (by decide) h2)))))))))))
    · exact Or.inr (Or.inr (Or.inr (Or.inr (Or.inr (Or.inr (Or.inr (Or.inr (Or.inr (Or.inr (Or.inr (Or.inl (z_of (by decide) h2))))))))))))
    · exact Or.inr (Or.inr (Or.inr (Or.inr (Or.inr (Or.inr (Or.inr (Or.inr (Or.inr (Or.inr (Or.inr (Or.inr (Or.inl (z_of (by decide) h2)))))))))))))
    · exact Or.inr (Or.inr (Or.inr (Or.inr (Or.inr (Or.inr (Or.inr (Or.inr (Or.inr (Or.inr (Or.inr (Or.inr (Or.inr (Or.inl (z_of (by decide) h2))))))))))))))
    · exact Or.inr (Or.inr (Or.inr (Or.inr (Or.inr (Or.inr (Or.inr (Or.inr (Or.inr (Or.inr (Or.inr (Or.inr (Or.inr (Or.inr (Or.inl (z_of (by decide) h2)))))))))))))))
    · exact Or.inr (Or.inr (Or.inr (Or.inr (Or.inr (Or.inr (Or.inr (Or.inr (Or.inr (Or.inr (Or.inr (Or.inr (Or.inr (Or.inr (Or.inr (Or.inl (z_of (by decide) h2))))))))))))))))
    · exact Or.inr (Or.inr (Or.inr (Or.inr (Or.inr (Or.inr (Or.inr (Or.inr (Or.inr (Or.inr (Or.inr (Or.inr (Or.inr (Or.inr (Or.inr (Or.inr (Or.inl (z_of (by decide) h2)))))))))))))))))
    · exact Or.inr (Or.inr (Or.inr (Or.inr (Or.inr (Or.inr (Or.inr (Or.inr (Or.inr (Or.inr (Or.inr (Or.inr (Or.inr (Or.inr (Or.inr (Or.inr (Or.inr (Or.inl (z_of (by decide) h2))))))))))))))))))
    · exact Or.inr (Or.inr (Or.inr (Or.inr (Or.inr (Or.inr (Or.inr (Or.inr (Or.inr (Or.inr (Or.inr (Or.inr (Or.inr (Or.inr (Or.inr (Or.inr (Or.inr (Or.inr (Or.inl (z_of (by decide) h2)))))))))))))))))))
    · exact Or.inr (Or.inr (Or.inr (Or.inr (Or.inr (Or.inr (Or.inr (Or.inr (Or.inr (Or.inr (Or.inr (Or.inr (Or.inr (Or.inr (Or.inr (Or.inr (Or.inr (Or.inr (Or.inr (Or.inl (z_of (by decide) h2))))))))))))))))))))
    · exact Or.inr (Or.inr (Or.inr (Or.inr (Or.inr (Or.inr (Or.inr (Or.inr (Or.inr (Or.inr (Or.inr (Or.inr (Or.inr (Or.inr (Or.inr (Or.inr (Or.inr (Or.inr (Or.inr (Or.inr (Or.inl (z_of (by decide) h2)))))))))))))))))))))
    · exact Or.inr (Or.inr (Or.inr (Or.inr (Or.inr (Or.inr (Or.inr (Or.inr (Or.inr (Or.inr (Or.inr (Or.inr (Or.inr (Or.inr (Or.inr (Or.inr (Or.inr (Or.inr (Or.inr (Or.inr (Or.inr (Or.inl (z_of (by decide) h2))))))))))))))))))))))
    · exact Or.inr (Or.inr (Or.inr (Or.inr (Or.inr (Or.inr (Or.inr (Or.inr (Or.inr (Or.inr (Or.inr (Or.inr (Or.inr (Or.inr (Or.inr (Or.inr (Or.inr (Or.inr (Or.inr (Or.inr (Or.inr (Or.inr (Or.inl (z_of (by decide) h2)))))))))))))))))))))))
    · exact Or.inr (Or.inr (Or.inr (Or.inr (Or.inr (Or.inr (Or.inr (Or.inr (Or.inr (Or.inr (Or.inr (Or.inr (Or.inr (Or.inr (Or.inr (Or.inr (Or.inr (Or.inr (Or.inr (Or.inr (Or.inr (Or.inr (Or.inr (Or.inl (z_of (by decide) h2))))))))))))))))))))))))
    · exact Or.inr (Or.inr (Or.inr (Or.inr (Or.inr (Or.inr (Or.inr (Or.inr (Or.inr (Or.inr (Or.inr (Or.inr (Or.inr (Or.inr (Or.inr (Or.inr (Or.inr (Or.inr (Or.inr (Or.inr (Or.inr (Or.inr (Or.inr (Or.inr (Or.inl (z_of (by decide) h2)))))))))))))))))))))))))
    · exact Or.inr (Or.inr (Or.inr (Or.inr (Or.inr (Or.inr (Or.inr (Or.inr (Or.inr (Or.inr (Or.inr (Or.inr (Or.inr (Or.inr (Or.inr (Or.inr (Or.inr (Or.inr (Or.inr (Or.inr (Or.inr (Or.inr (Or.inr (Or.inr (Or.inr (Or.inl (z_of (by decide) h2))))))))))))))))))))))))))
    · exact Or.inr (Or.inr (Or.inr (Or.inr (Or.inr (Or.inr (Or.inr (Or.inr (Or.inr (Or.inr (Or.inr (Or.inr (Or.inr (Or.inr (Or.inr (Or.inr (Or.inr (Or.inr (Or.inr (Or.inr (Or.inr (Or.inr (Or.inr (Or.inr (Or.inr (Or.inr (Or.inl (z_of (by decide) h2)))))))))))))))))))))))))))
    · exact Or.inr (Or.inr (Or.inr (Or.inr (Or.inr (Or.inr (Or.inr (Or.inr (Or.inr (Or.inr (Or.inr (Or.inr (Or.inr (Or.inr (Or.inr (Or.inr (Or.inr (Or.inr (Or.inr (Or.inr (Or.inr (Or.inr (Or.inr (Or.inr (Or.inr (Or.inr (Or.inr (Or.inl (z_of (by decide) h2))))))))))))))))))))))))))))
    · exact Or.inr (Or.inr (Or.inr (Or.inr (Or.inr (Or.inr (Or.inr (Or.inr (Or.inr (Or.inr (Or.inr (Or.inr (Or.inr (Or.inr (Or.inr (Or.inr (Or.inr (Or.inr (Or.inr (Or.inr (Or.inr (Or.inr (Or.inr (Or.inr (Or.inr (Or.inr (Or.inr (Or.inr (Or.inl (z_of (by decide) h2)))))))))))))))))))))))))))))
    · exact Or.inr (Or.inr (Or.inr (Or.inr (Or.inr (Or.inr (Or.inr (Or.inr (Or.inr (Or.inr (Or.inr (Or.inr (Or.inr (Or.inr (Or.inr (Or.inr (Or.inr (Or.inr (Or.inr (Or.inr (Or.inr (Or.inr (Or.inr (Or.inr (Or.inr (Or.inr (Or.inr (Or.inr (Or.inr (Or.inl (z_of (by decide) h2))))))))))))))))))))))))))))))
    · exact Or.inr (Or.inr (Or.inr (Or.inr (Or.inr (Or.inr (Or.inr (Or.inr (Or.inr (Or.inr (Or.inr (Or.inr (Or.inr (Or.inr (Or.inr (Or.inr (Or.inr (Or.inr (Or.inr (Or.inr (Or.inr (Or.inr (Or.inr (Or.inr (Or.inr (Or.inr (Or.inr (Or.inr (Or.inr (Or.inr (Or.inl (z_of (by decide) h2)))))))))))))))))))))))))))))))
    · exact Or.inr (Or.inr (Or.inr (Or.inr (Or.inr (Or.inr (Or.inr (Or.inr (Or.inr (Or.inr (Or.inr (Or.inr (Or.inr (Or.inr (Or.inr (Or.inr (Or.inr (Or.inr (Or.inr (Or.inr (Or.inr (Or.inr (Or.inr (Or.inr (Or.inr (Or.inr (Or.inr (Or.inr (Or.inr (Or.inr (Or.inr (Or.inl (z_of (by decide) h2))))))))))))))))))))))))))))))))
    · exact Or.inr (Or.inr (Or.inr (Or.inr (Or.inr (Or.inr (Or.inr (Or.inr (Or.inr (Or.inr (Or.inr (Or.inr (Or.inr (Or.inr (Or.inr (Or.inr (Or.inr (Or.inr (Or.inr (Or.inr (Or.inr (Or.inr (Or.inr (Or.inr (Or.inr (Or.inr (Or.inr (Or.inr (Or.inr (Or.inr (Or.inr (Or.inr (Or.inl (z_of (by decide) h2)))))))))))))))))))))))))))))))))
    · exact Or.inr (Or.inr (Or.inr (Or.inr (Or.inr (Or.inr (Or.inr (Or.inr (Or.inr (Or.inr (Or.inr (Or.inr (Or.inr (Or.inr (Or.inr (Or.inr (Or.inr (Or.inr (Or.inr (Or.inr (Or.inr (Or.inr (Or.inr (Or.inr (Or.inr (Or.inr (Or.inr (Or.inr (Or.inr (Or.inr (Or.inr (Or.inr (Or.inr (Or.inl (z_of (by decide) h2))))))))))))))))))))))))))))))))))
    · exact Or.inr (Or.inr (Or.inr (Or.inr (Or.inr (Or.inr (Or.inr (Or.inr (Or.inr (Or.inr (Or.inr (Or.inr (Or.inr (Or.inr (Or.inr (Or.inr (Or.inr (Or.inr (Or.inr (Or.inr (Or.inr (Or.inr (Or.inr (Or.inr (Or.inr (Or.inr (Or.inr (Or.inr (Or.inr (Or.inr (Or.inr (Or.inr (Or.inr (Or.inr (Or.inl (z_of (by decide) h2)))))))))))))))))))))))))))))))))))
    · exact Or.inr (Or.inr (Or.inr (Or.inr (Or.inr (Or.inr (Or.inr (Or.inr (Or.inr (Or.inr (Or.inr (Or.inr (Or.inr (Or.inr (Or.inr (Or.inr (Or.inr (Or.inr (Or.inr (Or.inr (Or.inr (Or.inr (Or.inr (Or.inr (Or.inr (Or.inr (Or.inr (Or.inr (Or.inr (Or.inr (Or.inr (Or.inr (Or.inr (Or.inr (Or.inr (Or.inl (z_of (by decide) h2))))))))))))))))))))))))))))))))))))
    · exact Or.inr (Or.inr (Or.inr (Or.inr (Or.inr (Or.inr (Or.inr (Or.inr (Or.inr (Or.inr (Or.inr (Or.inr (Or.inr (Or.inr (Or.inr (Or.inr (Or.inr (Or.inr (Or.inr (Or.inr (Or.inr (Or.inr (Or.inr (Or.inr (Or.inr (Or.inr (Or.inr (Or.inr (Or.inr (Or.inr (Or.inr (Or.inr (Or.inr (Or.inr (Or.inr (Or.inr (Or.inl (z_of (by decide) h2)))))))))))))))))))))))))))))))))))))
    · exact Or.inr (Or.inr (Or.inr (Or.inr (Or.inr (Or.inr (Or.inr (Or.inr (Or.inr (Or.inr (Or.inr (Or.inr (Or.inr (Or.inr (Or.inr (Or.inr (Or.inr (Or.inr (Or.inr (Or.inr (Or.inr (Or.inr (Or.inr (Or.inr (Or.inr (Or.inr (Or.inr (Or.inr (Or.inr (Or.inr (Or.inr (Or.inr (Or.inr (Or.inr (Or.inr (Or.inr (Or.inr (z_of (by decide) h2)))))))))))))))))))))))))))))))))))))
set_option maxHeartbeats 4000000 in
set_option maxRecDepth 100000 in
theorem law_loop {p : Program} {e : Env} {s : State} {m : MethodId} {below : List Frame} {meth : Method} {c : Code} (l : Launch) {b L : Nat} {xs : Nat → Int32} (hL : L ≤ 4096) (C0 : lw_At p s m meth c b L xs) {dC : Nat → ClassId} {dI : Nat → Nat → Nat} {A : Nat → Prop} (hA : ∀ q : Nat, s.heap.size ≤ q → A q) (hbA : ¬ A b) (hAs : ∀ q : Nat, A q → s.heap.size ≤ q) {x y : Nat} {gx gy : Nat → Nat → Nat} {cax cay : Nat → Nat → ClassId} {ak av : Nat → Nat} (hKx : va_K (dC, dI) classes (TX cax) s) (hKy : va_K (dC, dI) classes (TM cay) s) (hXY : ∀ a ∈ AdX x gx, ∀ b ∈ AdM y gy, a ≠ b) (hZ : zC ak av A s s.heap) : ∀ (nn : Nat) (H : Heap) (locs : List Loc) (ivx : Nat → Nat → Int32) (lvx : Nat → Nat → Int64) (fax : Nat → Nat → Nat → Int32) (lax : Nat → Nat → Nat → Int64) (ivy : Nat → Nat → Int32) (lvy : Nat → Nat → Int64) (fay : Nat → Nat → Nat → Int32) (lay : Nat → Nat → Nat → Int64) (i : Int32) (ls : Array Slot), IX ivx fax → IX ivy fay → JCf (ivy 12 23).toInt (fay 12 25) (fay 12 26) (fay 12 27) (fay 12 28) → JRf (ivy 12 3).toInt (fay 12 7) → JNf (ivy 12 3).toInt (fay 12 4) (fay 12 5) → ((ivy 12 20).toInt = -1 ∧ (ivy 12 21).toInt = -1 ∧ (ivy 12 22).toInt = -1) → ivx 11 10 = ivy 12 0 → ivx 0 7 = ivy 12 1 → ivx 10 1 = ivy 12 3 → ivx 1 7 = ivy 12 23 → ivx 8 2 = ivy 12 33 → ivx 8 3 = ivy 12 36 → ivx 6 7 = ivy 12 67 → (∀ s : Nat, (s : Int) < (ivy 12 3).toInt → fax 10 0 (9 * s + 0) = fay 12 4 s ∧ fax 10 0 (9 * s + 1) = fay 12 5 s ∧ fax 10 0 (9 * s + 2) = fay 12 6 s ∧ fax 10 0 (9 * s + 3) = fay 12 7 s ∧ fax 10 0 (9 * s + 4) = fay 12 8 s ∧ fax 10 0 (9 * s + 5) = fay 12 9 s ∧ fax 10 0 (9 * s + 6) = fay 12 10 s ∧ fax 10 0 (9 * s + 7) = fay 12 11 s ∧ fax 10 0 (9 * s + 8) = fay 12 12 s) → (∀ j : Nat, -1 ≤ (fay 12 12 j).toInt) → (∀ s : Nat, (s : Int) < (ivy 12 3).toInt → (100 ≤ (fay 12 7 s).toInt ∧ (fay 12 7 s).toInt ≤ 9999) ∧ (50 ≤ (fay 12 8 s).toInt ∧ (fay 12 8 s).toInt ≤ 9999)) → (∀ j : Nat, (fax 8 1 j).toInt = sg (fay 12 32 j).toInt ∧ 0 ≤ (fay 12 32 j).toInt) → BkE (ivy 12 23).toInt (fax 1 0) (fax 1 1) (fax 1 2) (fax 1 3) (fax 1 4) (fax 1 5) (fay 12 24) (fay 12 25) (fay 12 26) (fay 12 27) (fay 12 28) (fay 12 29) (fay 12 30) (fay 12 31) → (∀ j : Nat, fax 0 0 j = fay 12 2 j) → (∀ j : Nat, (j : Int) < (ivx 0 7).toInt → 1 ≤ (fax 0 0 j).toInt ∧ (fax 0 0 j).toInt ≤ 99999) → PaE (ivy 12 67).toInt (fax 6 0) (fax 6 1) (fax 6 2) (fax 6 3) (fax 6 4) (fax 6 5) (fay 12 68) (fay 12 69) (lay 12 70) (fay 12 71) (fay 12 72) (fay 12 73) → (∀ s : Nat, (s : Int) < (ivy 12 3).toInt → (fay 12 8 s).toInt ≤ (fay 12 7 s).toInt) → va_P (dC, dI) classes (WX x gx cax ivx lvx fax lax) H → va_D A (WX x gx cax ivx lvx fax lax) → va_P (dC, dI) classes (WM y gy cay ivy lvy fay lay) H → va_D A (WM y gy cay ivy lvy fay lay) → va_S A s.heap H locs → lv_has ls 4 [(3, .int i), (2, .ref y), (1, .ref x), (0, .ref b)] → 0 ≤ i.toInt ∧ i.toInt ≤ 4096 → 4096 - i.toInt < (nn : Int) → W p l e room_1 s m #[Value.ref b] below meth c H locs 98 5431 (lw_Z below #[Value.ref b] s) (F0 m 18 ls []) := by
  obtain ⟨hx, hb, hr, hml, hown, hts, hX, hbl, hlocks, hgv⟩ := id C0
  have ht := tb_of hts
  intro nn
  induction nn with
  | zero => intro H locs ivx lvx fax lax ivy lvy fay lay i ls hIx hIy hJC hJR hJN hJO hq_now hq_bales hq_skeins hq_rules hq_text hq_place hq_papers hrs hls hwd htx hbk hgr hgb hpa hdr hPx hDx hPy hDy hS hl hi hm; exfalso; omega
  | succ nn ih =>
    intro H locs ivx lvx fax lax ivy lvy fay lay i ls hIx hIy hJC hJR hJN hJO hq_now hq_bales hq_skeins hq_rules hq_text hq_place hq_papers hrs hls hwd htx hbk hgr hgb hpa hdr hPx hDx hPy hDy hS hl hi hm
    refine lv_iload_n hx hb dL_law_18 rfl (lv_at hl 0 rfl) ?_
    refine lv_aload_n hx hb dL_law_19 rfl (lv_at hl 3 rfl) ?_
    refine va_slen hx hb hX hbl hbA hS dL_law_20 ?_
    refine lv_topi (fun v1 ev1 => ?_)
    have hv1 := ofNat_toInt ev1 hL
    refine lv_bipush (v := 8) hx hb dL_law_21 (by decide) ?_
    refine lv_isub hx hb dL_law_23 ?_
    refine lv_topi (fun v2 ev2 => ?_)
    have tv2 := z_sub ev2 (rfl : (v1).toInt = _) (by decide : (8 : Int32).toInt = 8) (by omega) (by omega)
    refine lv_icmp_gt (tgt := 1515) hx hb dL_law_24 (by decide) (fun c9 => ?_) (fun c9 => ?_)
    · refine lv_iconst (v := 1) hx hb dL_law_1515 (by decide) ?_
      refine va_forget (fun q hq => hAs _ (hS.2.2 q hq)) ?_
      refine W.widen (k := 600000) (n := 7302250) (by decide) (by decide) ?_
      exact lw_ret hx hb hr hlocks dL_law_1516
    · have f9 := z_nlt (rfl : (v2).toInt = _) (rfl : (i).toInt = _) c9
      have hi8 : i.toInt + 8 ≤ (L : Int) := by omega
      have hi2 : 0 ≤ i.toInt ∧ i.toInt ≤ 4088 := ⟨by omega, by omega⟩
      have kk : ∀ (H : Heap) (locs : List Loc) (ivx : Nat → Nat → Int32) (lvx : Nat → Nat → Int64) (fax : Nat → Nat → Nat → Int32) (lax : Nat → Nat → Nat → Int64) (ivy : Nat → Nat → Int32) (lvy : Nat → Nat → Int64) (fay : Nat → Nat → Nat → Int32) (lay : Nat → Nat → Nat → Int64), IX ivx fax → IX ivy fay → JCf (ivy 12 23).toInt (fay 12 25) (fay 12 26) (fay 12 27) (fay 12 28) → JRf (ivy 12 3).toInt (fay 12 7) → JNf (ivy 12 3).toInt (fay 12 4) (fay 12 5) → ((ivy 12 20).toInt = -1 ∧ (ivy 12 21).toInt = -1 ∧ (ivy 12 22).toInt = -1) → ivx 11 10 = ivy 12 0 → ivx 0 7 = ivy 12 1 → ivx 10 1 = ivy 12 3 → ivx 1 7 = ivy 12 23 → ivx 8 2 = ivy 12 33 → ivx 8 3 = ivy 12 36 → ivx 6 7 = ivy 12 67 → (∀ s : Nat, (s : Int) < (ivy 12 3).toInt → fax 10 0 (9 * s + 0) = fay 12 4 s ∧ fax 10 0 (9 * s + 1) = fay 12 5 s ∧ fax 10 0 (9 * s + 2) = fay 12 6 s ∧ fax 10 0 (9 * s + 3) = fay 12 7 s ∧ fax 10 0 (9 * s + 4) = fay 12 8 s ∧ fax 10 0 (9 * s + 5) = fay 12 9 s ∧ fax 10 0 (9 * s + 6) = fay 12 10 s ∧ fax 10 0 (9 * s + 7) = fay 12 11 s ∧ fax 10 0 (9 * s + 8) = fay 12 12 s) → (∀ j : Nat, -1 ≤ (fay 12 12 j).toInt) → (∀ s : Nat, (s : Int) < (ivy 12 3).toInt → (100 ≤ (fay 12 7 s).toInt ∧ (fay 12 7 s).toInt ≤ 9999) ∧ (50 ≤ (fay 12 8 s).toInt ∧ (fay 12 8 s).toInt ≤ 9999)) → (∀ j : Nat, (fax 8 1 j).toInt = sg (fay 12 32 j).toInt ∧ 0 ≤ (fay 12 32 j).toInt) → BkE (ivy 12 23).toInt (fax 1 0) (fax 1 1) (fax 1 2) (fax 1 3) (fax 1 4) (fax 1 5) (fay 12 24) (fay 12 25) (fay 12 26) (fay 12 27) (fay 12 28) (fay 12 29) (fay 12 30) (fay 12 31) → (∀ j : Nat, fax 0 0 j = fay 12 2 j) → (∀ j : Nat, (j : Int) < (ivx 0 7).toInt → 1 ≤ (fax 0 0 j).toInt ∧ (fax 0 0 j).toInt ≤ 99999) → PaE (ivy 12 67).toInt (fax 6 0) (fax 6 1) (fax 6 2) (fax 6 3) (fax 6 4) (fax 6 5) (fay 12 68) (fay 12 69) (lay 12 70) (fay 12 71) (fay 12 72) (fay 12 73) → (∀ s : Nat, (s : Int) < (ivy 12 3).toInt → (fay 12 8 s).toInt ≤ (fay 12 7 s).toInt) → va_P (dC, dI) classes (WX x gx cax ivx lvx fax lax) H → va_D A (WX x gx cax ivx lvx fax lax) → va_P (dC, dI) classes (WM y gy cay ivy lvy fay lay) H → va_D A (WM y gy cay ivy lvy fay lay) → va_S A s.heap H locs → W p l e room_1 s m #[Value.ref b] below meth c H locs 98 5431 (lw_Z below #[Value.ref b] s) (F0 m 1509 ls []) := by
        intro H locs ivx lvx fax lax ivy lvy fay lay hIx hIy hJC hJR hJN hJO hq_now hq_bales hq_skeins hq_rules hq_text hq_place hq_papers hrs hls hwd htx hbk hgr hgb hpa hdr hPx hDx hPy hDy hS
        obtain ⟨v5, ev5⟩ : ∃ y : Int32, y = i + 8 := ⟨_, rfl⟩
        have tv5 := z_add ev5 rfl (by decide : (8 : Int32).toInt = 8) (by omega) (by omega)
        refine lv_iinc (v := v5) (lv' := [(3, .int v5), (2, .ref y), (1, .ref x), (0, .ref b)]) hx hb dL_law_1509 hl (k := 0) rfl (by rw [ev5]; rfl) (by decide) rfl (fun ls hl => ?_)
        refine lv_goto (tgt := 18) hx hb dL_law_1512 (by decide) ?_
        exact ih H locs ivx lvx fax lax ivy lvy fay lay v5 ls hIx hIy hJC hJR hJN hJO hq_now hq_bales hq_skeins hq_rules hq_text hq_place hq_papers hrs hls hwd htx hbk hgr hgb hpa hdr hPx hDx hPy hDy hS hl ⟨by omega, by omega⟩ (by omega)
      refine lv_aload_n hx hb dL_law_27 rfl (lv_at hl 3 rfl) ?_
      refine lv_iload_n hx hb dL_law_28 rfl (lv_at hl 0 rfl) ?_
      refine va_sld hx hb hX hbl hbA hS (vp_in_iff.mpr ⟨by omega, by omega⟩ : vp_in i L) dL_law_29 ?_
      refine lv_bipush (v := 63) hx hb dL_law_30 (by decide) ?_
      refine lv_iand hx hb dL_law_32 ?_
      refine lv_topi (fun v3 ev3 => ?_)
      rcases sw_0_37 v3 with h9 | h9 | h9 | h9 | h9 | h9 | h9 | h9 | h9 | h9 | h9 | h9 | h9 | h9 | h9 | h9 | h9 | h9 | h9 | h9 | h9 | h9 | h9 | h9 | h9 | h9 | h9 | h9 | h9 | h9 | h9 | h9 | h9 | h9 | h9 | h9 | h9 | h9 | h9
      · refine lv_tableOut (tgt := 1509) hx hb dL_law_33 h9 (by decide) ?_
        exact kk H locs ivx lvx fax lax ivy lvy fay lay hIx hIy hJC hJR hJN hJO hq_now hq_bales hq_skeins hq_rules hq_text hq_place hq_papers hrs hls hwd htx hbk hgr hgb hpa hdr hPx hDx hPy hDy hS
      · rw [h9]; refine lv_tableIn (tgt := 200) (off := 167) hx hb dL_law_33 (by decide) (by decide) rfl (by decide) ?_
        exact law_0 l hL C0 hA hbA hAs hKx hKy hXY hZ hIx hIy hJC hJR hJN hJO hq_now hq_bales hq_skeins hq_rules hq_text hq_place hq_papers hrs hls hwd htx hbk hgr hgb hpa hdr hPx hDx hPy hDy hS hl hi2 hi8 kk
      · rw [h9]; refine lv_tableIn (tgt := 223) (off := 190) hx hb dL_law_33 (by decide) (by decide) rfl (by decide) ?_
        exact law_1 l hL C0 hA hbA hAs hKx hKy hXY hZ hIx hIy hJC hJR hJN hJO hq_now hq_bales hq_skeins hq_rules hq_text hq_place hq_papers hrs hls hwd htx hbk hgr hgb hpa hdr hPx hDx hPy hDy hS hl hi2 hi8 kk
      · rw [h9]; refine lv_tableIn (tgt := 246) (off := 213) hx hb dL_law_33 (by decide) (by decide) rfl (by decide) ?_
        exact law_2 l hL C0 hA hbA hAs hKx hKy hXY hZ hIx hIy hJC hJR hJN hJO hq_now hq_bales hq_skeins hq_rules hq_text hq_place hq_papers hrs hls hwd htx hbk hgr hgb hpa hdr hPx hDx hPy hDy hS hl hi2 hi8 kk
      · rw [h9]; refine lv_tableIn (tgt := 333) (off := 300) hx hb dL_law_33 (by decide) (by decide) rfl (by decide) ?_
        exact law_3 l hL C0 hA hbA hAs hKx hKy hXY hZ hIx hIy hJC hJR hJN hJO hq_now hq_bales hq_skeins hq_rules hq_text hq_place hq_papers hrs hls hwd htx hbk hgr hgb hpa hdr hPx hDx hPy hDy hS hl hi2 hi8 kk
      · rw [h9]; refine lv_tableIn (tgt := 356) (off := 323) hx hb dL_law_33 (by decide) (by decide) rfl (by decide) ?_
        exact law_4 l hL C0 hA hbA hAs hKx hKy hXY hZ hIx hIy hJC hJR hJN hJO hq_now hq_bales hq_skeins hq_rules hq_text hq_place hq_papers hrs hls hwd htx hbk hgr hgb hpa hdr hPx hDx hPy hDy hS hl hi2 hi8 kk
      · rw [h9]; refine lv_tableIn (tgt := 389) (off := 356) hx hb dL_law_33 (by decide) (by decide) rfl (by decide) ?_
        exact law_5 l hL C0 hA hbA hAs hKx hKy hXY hZ hIx hIy hJC hJR hJN hJO hq_now hq_bales hq_skeins hq_rules hq_text hq_place hq_papers hrs hls hwd htx hbk hgr hgb hpa hdr hPx hDx hPy hDy hS hl hi2 hi8 kk
      · rw [h9]; refine lv_tableIn (tgt := 432) (off := 399) hx hb dL_law_33 (by decide) (by decide) rfl (by decide) ?_
        exact law_6 l hL C0 hA hbA hAs hKx hKy hXY hZ hIx hIy hJC hJR hJN hJO hq_now hq_bales hq_skeins hq_rules hq_text hq_place hq_papers hrs hls hwd htx hbk hgr hgb hpa hdr hPx hDx hPy hDy hS hl hi2 hi8 kk
      · rw [h9]; refine lv_tableIn (tgt := 475) (off := 442) hx hb dL_law_33 (by decide) (by decide) rfl (by decide) ?_
        exact law_7 l hL C0 hA hbA hAs hKx hKy hXY hZ hIx hIy hJC hJR hJN hJO hq_now hq_bales hq_skeins hq_rules hq_text hq_place hq_papers hrs hls hwd htx hbk hgr hgb hpa hdr hPx hDx hPy hDy hS hl hi2 hi8 kk
      · rw [h9]; refine lv_tableIn (tgt := 518) (off := 485) hx hb dL_law_33 (by decide) (by decide) rfl (by decide) ?_
        exact law_8 l hL C0 hA hbA hAs hKx hKy hXY hZ hIx hIy hJC hJR hJN hJO hq_now hq_bales hq_skeins hq_rules hq_text hq_place hq_papers hrs hls hwd htx hbk hgr hgb hpa hdr hPx hDx hPy hDy hS hl hi2 hi8 kk
      · rw [h9]; refine lv_tableIn (tgt := 541) (off := 508) hx hb dL_law_33 (by decide) (by decide) rfl (by decide) ?_
        exact law_9 l hL C0 hA hbA hAs hKx hKy hXY hZ hIx hIy hJC hJR hJN hJO hq_now hq_bales hq_skeins hq_rules hq_text hq_place hq_papers hrs hls hwd htx hbk hgr hgb hpa hdr hPx hDx hPy hDy hS hl hi2 hi8 kk
      · rw [h9]; refine lv_tableIn (tgt := 604) (off := 571) hx hb dL_law_33 (by decide) (by decide) rfl (by decide) ?_
        exact law_10 l hL C0 hA hbA hAs hKx hKy hXY hZ hIx hIy hJC hJR hJN hJO hq_now hq_bales hq_skeins hq_rules hq_text hq_place hq_papers hrs hls hwd htx hbk hgr hgb hpa hdr hPx hDx hPy hDy hS hl hi2 hi8 kk
      · rw [h9]; refine lv_tableIn (tgt := 627) (off := 594) hx hb dL_law_33 (by decide) (by decide) rfl (by decide) ?_
        exact law_11 l hL C0 hA hbA hAs hKx hKy hXY hZ hIx hIy hJC hJR hJN hJO hq_now hq_bales hq_skeins hq_rules hq_text hq_place hq_papers hrs hls hwd htx hbk hgr hgb hpa hdr hPx hDx hPy hDy hS hl hi2 hi8 kk
      · rw [h9]; refine lv_tableIn (tgt := 640) (off := 607) hx hb dL_law_33 (by decide) (by decide) rfl (by decide) ?_
        exact law_12 l hL C0 hA hbA hAs hKx hKy hXY hZ hIx hIy hJC hJR hJN hJO hq_now hq_bales hq_skeins hq_rules hq_text hq_place hq_papers hrs hls hwd htx hbk hgr hgb hpa hdr hPx hDx hPy hDy hS hl hi2 hi8 kk
      · rw [h9]; refine lv_tableIn (tgt := 673) (off := 640) hx hb dL_law_33 (by decide) (by decide) rfl (by decide) ?_
        exact law_13 l hL C0 hA hbA hAs hKx hKy hXY hZ hIx hIy hJC hJR hJN hJO hq_now hq_bales hq_skeins hq_rules hq_text hq_place hq_papers hrs hls hwd htx hbk hgr hgb hpa hdr hPx hDx hPy hDy hS hl hi2 hi8 kk
      · rw [h9]; refine lv_tableIn (tgt := 706) (off := 673) hx hb dL_law_33 (by decide) (by decide) rfl (by decide) ?_
        exact law_14 l hL C0 hA hbA hAs hKx hKy hXY hZ hIx hIy hJC hJR hJN hJO hq_now hq_bales hq_skeins hq_rules hq_text hq_place hq_papers hrs hls hwd htx hbk hgr hgb hpa hdr hPx hDx hPy hDy hS hl hi2 hi8 kk
      · rw [h9]; refine lv_tableIn (tgt := 739) (off := 706) hx hb dL_law_33 (by decide) (by decide) rfl (by decide) ?_
        exact law_15 l hL C0 hA hbA hAs hKx hKy hXY hZ hIx hIy hJC hJR hJN hJO hq_now hq_bales hq_skeins hq_rules hq_text hq_place hq_papers hrs hls hwd htx hbk hgr hgb hpa hdr hPx hDx hPy hDy hS hl hi2 hi8 kk
      · rw [h9]; refine lv_tableIn (tgt := 782) (off := 749) hx hb dL_law_33 (by decide) (by decide) rfl (by decide) ?_
        exact law_16 l hL C0 hA hbA hAs hKx hKy hXY hZ hIx hIy hJC hJR hJN hJO hq_now hq_bales hq_skeins hq_rules hq_text hq_place hq_papers hrs hls hwd htx hbk hgr hgb hpa hdr hPx hDx hPy hDy hS hl hi2 hi8 kk
      · rw [h9]; refine lv_tableIn (tgt := 815) (off := 782) hx hb dL_law_33 (by decide) (by decide) rfl (by decide) ?_
        exact law_17 l hL C0 hA hbA hAs hKx hKy hXY hZ hIx hIy hJC hJR hJN hJO hq_now hq_bales hq_skeins hq_rules hq_text hq_place hq_papers hrs hls hwd htx hbk hgr hgb hpa hdr hPx hDx hPy hDy hS hl hi2 hi8 kk
      · rw [h9]; refine lv_tableIn (tgt := 848) (off := 815) hx hb dL_law_33 (by decide) (by decide) rfl (by decide) ?_
        exact law_18 l hL C0 hA hbA hAs hKx hKy hXY hZ hIx hIy hJC hJR hJN hJO hq_now hq_bales hq_skeins hq_rules hq_text hq_place hq_papers hrs hls hwd htx hbk hgr hgb hpa hdr hPx hDx hPy hDy hS hl hi2 hi8 kk
      · rw [h9]; refine lv_tableIn (tgt := 881) (off := 848) hx hb dL_law_33 (by decide) (by decide) rfl (by decide) ?_
        exact law_19 l hL C0 hA hbA hAs hKx hKy hXY hZ hIx hIy hJC hJR hJN hJO hq_now hq_bales hq_skeins hq_rules hq_text hq_place hq_papers hrs hls hwd htx hbk hgr hgb hpa hdr hPx hDx hPy hDy hS hl hi2 hi8 kk
      · rw [h9]; refine lv_tableIn (tgt := 914) (off := 881) hx hb dL_law_33 (by decide) (by decide) rfl (by decide) ?_
        exact law_20 l hL C0 hA hbA hAs hKx hKy hXY hZ hIx hIy hJC hJR hJN hJO hq_now hq_bales hq_skeins hq_rules hq_text hq_place hq_papers hrs hls hwd htx hbk hgr hgb hpa hdr hPx hDx hPy hDy hS hl hi2 hi8 kk
      · rw [h9]; refine lv_tableIn (tgt := 947) (off := 914) hx hb dL_law_33 (by decide) (by decide) rfl (by decide) ?_
        exact law_21 l hL C0 hA hbA hAs hKx hKy hXY hZ hIx hIy hJC hJR hJN hJO hq_now hq_bales hq_skeins hq_rules hq_text hq_place hq_papers hrs hls hwd htx hbk hgr hgb hpa hdr hPx hDx hPy hDy hS hl hi2 hi8 kk
      · rw [h9]; refine lv_tableIn (tgt := 980) (off := 947) hx hb dL_law_33 (by decide) (by decide) rfl (by decide) ?_
        exact law_22 l hL C0 hA hbA hAs hKx hKy hXY hZ hIx hIy hJC hJR hJN hJO hq_now hq_bales hq_skeins hq_rules hq_text hq_place hq_papers hrs hls hwd htx hbk hgr hgb hpa hdr hPx hDx hPy hDy hS hl hi2 hi8 kk
      · rw [h9]; refine lv_tableIn (tgt := 1013) (off := 980) hx hb dL_law_33 (by decide) (by decide) rfl (by decide) ?_
        exact law_23 l hL C0 hA hbA hAs hKx hKy hXY hZ hIx hIy hJC hJR hJN hJO hq_now hq_bales hq_skeins hq_rules hq_text hq_place hq_papers hrs hls hwd htx hbk hgr hgb hpa hdr hPx hDx hPy hDy hS hl hi2 hi8 kk
      · rw [h9]; refine lv_tableIn (tgt := 1046) (off := 1013) hx hb dL_law_33 (by decide) (by decide) rfl (by decide) ?_
        exact law_24 l hL C0 hA hbA hAs hKx hKy hXY hZ hIx hIy hJC hJR hJN hJO hq_now hq_bales hq_skeins hq_rules hq_text hq_place hq_papers hrs hls hwd htx hbk hgr hgb hpa hdr hPx hDx hPy hDy hS hl hi2 hi8 kk
      · rw [h9]; refine lv_tableIn (tgt := 1069) (off := 1036) hx hb dL_law_33 (by decide) (by decide) rfl (by decide) ?_
        exact law_25 l hL C0 hA hbA hAs hKx hKy hXY hZ hIx hIy hJC hJR hJN hJO hq_now hq_bales hq_skeins hq_rules hq_text hq_place hq_papers hrs hls hwd htx hbk hgr hgb hpa hdr hPx hDx hPy hDy hS hl hi2 hi8 kk
      · rw [h9]; refine lv_tableIn (tgt := 1122) (off := 1089) hx hb dL_law_33 (by decide) (by decide) rfl (by decide) ?_
        exact law_26 l hL C0 hA hbA hAs hKx hKy hXY hZ hIx hIy hJC hJR hJN hJO hq_now hq_bales hq_skeins hq_rules hq_text hq_place hq_papers hrs hls hwd htx hbk hgr hgb hpa hdr hPx hDx hPy hDy hS hl hi2 hi8 kk
      · rw [h9]; refine lv_tableIn (tgt := 1175) (off := 1142) hx hb dL_law_33 (by decide) (by decide) rfl (by decide) ?_
        exact law_27 l hL C0 hA hbA hAs hKx hKy hXY hZ hIx hIy hJC hJR hJN hJO hq_now hq_bales hq_skeins hq_rules hq_text hq_place hq_papers hrs hls hwd htx hbk hgr hgb hpa hdr hPx hDx hPy hDy hS hl hi2 hi8 kk
      · rw [h9]; refine lv_tableIn (tgt := 1198) (off := 1165) hx hb dL_law_33 (by decide) (by decide) rfl (by decide) ?_
        exact law_28 l hL C0 hA hbA hAs hKx hKy hXY hZ hIx hIy hJC hJR hJN hJO hq_now hq_bales hq_skeins hq_rules hq_text hq_place hq_papers hrs hls hwd htx hbk hgr hgb hpa hdr hPx hDx hPy hDy hS hl hi2 hi8 kk
      · rw [h9]; refine lv_tableIn (tgt := 1231) (off := 1198) hx hb dL_law_33 (by decide) (by decide) rfl (by decide) ?_
        exact law_29 l hL C0 hA hbA hAs hKx hKy hXY hZ hIx hIy hJC hJR hJN hJO hq_now hq_bales hq_skeins hq_rules hq_text hq_place hq_papers hrs hls hwd htx hbk hgr hgb hpa hdr hPx hDx hPy hDy hS hl hi2 hi8 kk
      · rw [h9]; refine lv_tableIn (tgt := 1244) (off := 1211) hx hb dL_law_33 (by decide) (by decide) rfl (by decide) ?_
        exact law_30 l hL C0 hA hbA hAs hKx hKy hXY hZ hIx hIy hJC hJR hJN hJO hq_now hq_bales hq_skeins hq_rules hq_text hq_place hq_papers hrs hls hwd htx hbk hgr hgb hpa hdr hPx hDx hPy hDy hS hl hi2 hi8 kk
      · rw [h9]; refine lv_tableIn (tgt := 1297) (off := 1264) hx hb dL_law_33 (by decide) (by decide) rfl (by decide) ?_
        exact law_31 l hL C0 hA hbA hAs hKx hKy hXY hZ hIx hIy hJC hJR hJN hJO hq_now hq_bales hq_skeins hq_rules hq_text hq_place hq_papers hrs hls hwd htx hbk hgr hgb hpa hdr hPx hDx hPy hDy hS hl hi2 hi8 kk
      · rw [h9]; refine lv_tableIn (tgt := 1320) (off := 1287) hx hb dL_law_33 (by decide) (by decide) rfl (by decide) ?_
        exact law_32 l hL C0 hA hbA hAs hKx hKy hXY hZ hIx hIy hJC hJR hJN hJO hq_now hq_bales hq_skeins hq_rules hq_text hq_place hq_papers hrs hls hwd htx hbk hgr hgb hpa hdr hPx hDx hPy hDy hS hl hi2 hi8 kk
      · rw [h9]; refine lv_tableIn (tgt := 1343) (off := 1310) hx hb dL_law_33 (by decide) (by decide) rfl (by decide) ?_
        exact law_33 l hL C0 hA hbA hAs hKx hKy hXY hZ hIx hIy hJC hJR hJN hJO hq_now hq_bales hq_skeins hq_rules hq_text hq_place hq_papers hrs hls hwd htx hbk hgr hgb hpa hdr hPx hDx hPy hDy hS hl hi2 hi8 kk
      · rw [h9]; refine lv_tableIn (tgt := 1376) (off := 1343) hx hb dL_law_33 (by decide) (by decide) rfl (by decide) ?_
        exact law_34 l hL C0 hA hbA hAs hKx hKy hXY hZ hIx hIy hJC hJR hJN hJO hq_now hq_bales hq_skeins hq_rules hq_text hq_place hq_papers hrs hls hwd htx hbk hgr hgb hpa hdr hPx hDx hPy hDy hS hl hi2 hi8 kk
      · rw [h9]; refine lv_tableIn (tgt := 1419) (off := 1386) hx hb dL_law_33 (by decide) (by decide) rfl (by decide) ?_
        exact law_35 l hL C0 hA hbA hAs hKx hKy hXY hZ hIx hIy hJC hJR hJN hJO hq_now hq_bales hq_skeins hq_rules hq_text hq_place hq_papers hrs hls hwd htx hbk hgr hgb hpa hdr hPx hDx hPy hDy hS hl hi2 hi8 kk
      · rw [h9]; refine lv_tableIn (tgt := 1442) (off := 1409) hx hb dL_law_33 (by decide) (by decide) rfl (by decide) ?_
        exact law_36 l hL C0 hA hbA hAs hKx hKy hXY hZ hIx hIy hJC hJR hJN hJO hq_now hq_bales hq_skeins hq_rules hq_text hq_place hq_papers hrs hls hwd htx hbk hgr hgb hpa hdr hPx hDx hPy hDy hS hl hi2 hi8 kk
      · rw [h9]; refine lv_tableIn (tgt := 1475) (off := 1442) hx hb dL_law_33 (by decide) (by decide) rfl (by decide) ?_
        exact law_37 l hL C0 hA hbA hAs hKx hKy hXY hZ hIx hIy hJC hJR hJN hJO hq_now hq_bales hq_skeins hq_rules hq_text hq_place hq_papers hrs hls hwd htx hbk hgr hgb hpa hdr hPx hDx hPy hDy hS hl hi2 hi8 kk
