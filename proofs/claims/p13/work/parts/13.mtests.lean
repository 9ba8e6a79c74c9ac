/-! ===== mtests ===== -/
theorem m_89 : Cond.initialized RX12 ∈ tb := mb_1_0 _ (List.mem_of_getElem? (i := 12) rfl)
theorem m_1139 : Cond.fieldLink RX12 171 "SilkHouseModel" "now" "I" ∈ tb := mb_5_4 _ (List.mem_of_getElem? (i := 4) rfl)
theorem m_1140 : Cond.fieldLink RX12 164 "SilkHouseModel" "bales" "I" ∈ tb := mb_5_4 _ (List.mem_of_getElem? (i := 5) rfl)
theorem m_1142 : Cond.fieldLink RX12 200 "SilkHouseModel" "skeins" "I" ∈ tb := mb_5_4 _ (List.mem_of_getElem? (i := 7) rfl)
theorem m_1206 : Cond.fieldLink RX12 429 "SilkHouseModel" "papers" "I" ∈ tb := mb_5_6 _ (List.mem_of_getElem? (i := 23) rfl)
theorem m_1370 : Cond.methodLink RX12 167 yX12_in ∈ tb := mb_6_0 _ (List.mem_of_getElem? (i := 5) rfl)
theorem m_1371 : Cond.static yX12_in ∈ tb := mb_6_0 _ (List.mem_of_getElem? (i := 6) rfl)
theorem m_1372 : Cond.code yX12_in cX12_in 6 (some .boolean) ∈ tb := mb_6_0 _ (List.mem_of_getElem? (i := 7) rfl)
theorem m_1393 : Cond.constantLong RX12 194 (9999) ∈ tb := mb_6_1 _ (List.mem_of_getElem? (i := 3) rfl)
theorem m_1425 : Cond.constantLong RX12 174 (3000) ∈ tb := mb_6_2 _ (List.mem_of_getElem? (i := 10) rfl)
theorem hd_X12_in_v : yX12_in.cls = RX12 ∧ yX12_in.cls ≠ "java/lang/invoke/MethodHandle" ∧ yX12_in.cls ≠ "java/lang/invoke/VarHandle" ∧ (parseMethodDescriptor yX12_in.desc).map (fun d => d.parameters.length) = some 3 := by decide +kernel
set_option maxRecDepth 100000 in
theorem dvX12_bit_0 : ([(0, .iload_n 0, 1), (1, .ifCond .eq 7, 3), (4, .iconst 1, 1), (5, .goto 4, 3), (8, .iconst 0, 1), (9, .ireturn, 1)] : List (Nat × Instr × Nat)).all (fun q => decide (decode cX12_bit q.1 = .ok (q.2.1, q.2.2))) = true := by decide +kernel
theorem dX12_bit_0 : decode cX12_bit 0 = .ok (.iload_n 0, 1) := all_at dvX12_bit_0 0 rfl
theorem dX12_bit_1 : decode cX12_bit 1 = .ok (.ifCond .eq 7, 3) := all_at dvX12_bit_0 1 rfl
theorem dX12_bit_4 : decode cX12_bit 4 = .ok (.iconst 1, 1) := all_at dvX12_bit_0 2 rfl
theorem dX12_bit_5 : decode cX12_bit 5 = .ok (.goto 4, 3) := all_at dvX12_bit_0 3 rfl
theorem dX12_bit_8 : decode cX12_bit 8 = .ok (.iconst 0, 1) := all_at dvX12_bit_0 4 rfl
theorem dX12_bit_9 : decode cX12_bit 9 = .ok (.ireturn, 1) := all_at dvX12_bit_0 5 rfl
set_option maxRecDepth 100000 in
theorem dvX12_in_0 : ([(0, .lload_n 0, 1), (1, .lload_n 2, 1), (2, .lcmp, 1), (3, .ifCond .lt 14, 3), (6, .lload_n 0, 1), (7, .lload 4, 2), (9, .lcmp, 1), (10, .ifCond .gt 7, 3), (13, .iconst 1, 1), (14, .goto 4, 3), (17, .iconst 0, 1), (18, .ireturn, 1)] : List (Nat × Instr × Nat)).all (fun q => decide (decode cX12_in q.1 = .ok (q.2.1, q.2.2))) = true := by decide +kernel
theorem dX12_in_0 : decode cX12_in 0 = .ok (.lload_n 0, 1) := all_at dvX12_in_0 0 rfl
theorem dX12_in_1 : decode cX12_in 1 = .ok (.lload_n 2, 1) := all_at dvX12_in_0 1 rfl
theorem dX12_in_2 : decode cX12_in 2 = .ok (.lcmp, 1) := all_at dvX12_in_0 2 rfl
theorem dX12_in_3 : decode cX12_in 3 = .ok (.ifCond .lt 14, 3) := all_at dvX12_in_0 3 rfl
theorem dX12_in_6 : decode cX12_in 6 = .ok (.lload_n 0, 1) := all_at dvX12_in_0 4 rfl
theorem dX12_in_7 : decode cX12_in 7 = .ok (.lload 4, 2) := all_at dvX12_in_0 5 rfl
theorem dX12_in_9 : decode cX12_in 9 = .ok (.lcmp, 1) := all_at dvX12_in_0 6 rfl
theorem dX12_in_10 : decode cX12_in 10 = .ok (.ifCond .gt 7, 3) := all_at dvX12_in_0 7 rfl
theorem dX12_in_13 : decode cX12_in 13 = .ok (.iconst 1, 1) := all_at dvX12_in_0 8 rfl
theorem dX12_in_14 : decode cX12_in 14 = .ok (.goto 4, 3) := all_at dvX12_in_0 9 rfl
theorem dX12_in_17 : decode cX12_in 17 = .ok (.iconst 0, 1) := all_at dvX12_in_0 10 rfl
theorem dX12_in_18 : decode cX12_in 18 = .ok (.ireturn, 1) := all_at dvX12_in_0 11 rfl
set_option maxRecDepth 100000 in
theorem dvX12_isDay_0 : ([(0, .iload_n 0, 1), (1, .i2l, 1), (2, .lconst 0, 1), (3, .ldc2_w 174, 3), (6, .invokestatic 167, 3), (9, .ireturn, 1)] : List (Nat × Instr × Nat)).all (fun q => decide (decode cX12_isDay q.1 = .ok (q.2.1, q.2.2))) = true := by decide +kernel
theorem dX12_isDay_0 : decode cX12_isDay 0 = .ok (.iload_n 0, 1) := all_at dvX12_isDay_0 0 rfl
theorem dX12_isDay_1 : decode cX12_isDay 1 = .ok (.i2l, 1) := all_at dvX12_isDay_0 1 rfl
theorem dX12_isDay_2 : decode cX12_isDay 2 = .ok (.lconst 0, 1) := all_at dvX12_isDay_0 2 rfl
theorem dX12_isDay_3 : decode cX12_isDay 3 = .ok (.ldc2_w 174, 3) := all_at dvX12_isDay_0 3 rfl
theorem dX12_isDay_6 : decode cX12_isDay 6 = .ok (.invokestatic 167, 3) := all_at dvX12_isDay_0 4 rfl
theorem dX12_isDay_9 : decode cX12_isDay 9 = .ok (.ireturn, 1) := all_at dvX12_isDay_0 5 rfl
set_option maxRecDepth 100000 in
theorem dvX12_isPast_0 : ([(0, .iload_n 1, 1), (1, .i2l, 1), (2, .lconst 0, 1), (3, .aload_n 0, 1), (4, .getfield 171, 3), (7, .i2l, 1), (8, .invokestatic 167, 3), (11, .ireturn, 1)] : List (Nat × Instr × Nat)).all (fun q => decide (decode cX12_isPast q.1 = .ok (q.2.1, q.2.2))) = true := by decide +kernel
theorem dX12_isPast_0 : decode cX12_isPast 0 = .ok (.iload_n 1, 1) := all_at dvX12_isPast_0 0 rfl
theorem dX12_isPast_1 : decode cX12_isPast 1 = .ok (.i2l, 1) := all_at dvX12_isPast_0 1 rfl
theorem dX12_isPast_2 : decode cX12_isPast 2 = .ok (.lconst 0, 1) := all_at dvX12_isPast_0 2 rfl
theorem dX12_isPast_3 : decode cX12_isPast 3 = .ok (.aload_n 0, 1) := all_at dvX12_isPast_0 3 rfl
theorem dX12_isPast_4 : decode cX12_isPast 4 = .ok (.getfield 171, 3) := all_at dvX12_isPast_0 4 rfl
theorem dX12_isPast_7 : decode cX12_isPast 7 = .ok (.i2l, 1) := all_at dvX12_isPast_0 5 rfl
theorem dX12_isPast_8 : decode cX12_isPast 8 = .ok (.invokestatic 167, 3) := all_at dvX12_isPast_0 6 rfl
theorem dX12_isPast_11 : decode cX12_isPast 11 = .ok (.ireturn, 1) := all_at dvX12_isPast_0 7 rfl
set_option maxRecDepth 100000 in
theorem dvX12_isWeight_0 : ([(0, .iload_n 0, 1), (1, .i2l, 1), (2, .lconst 1, 1), (3, .ldc2_w 194, 3), (6, .invokestatic 167, 3), (9, .ireturn, 1)] : List (Nat × Instr × Nat)).all (fun q => decide (decode cX12_isWeight q.1 = .ok (q.2.1, q.2.2))) = true := by decide +kernel
theorem dX12_isWeight_0 : decode cX12_isWeight 0 = .ok (.iload_n 0, 1) := all_at dvX12_isWeight_0 0 rfl
theorem dX12_isWeight_1 : decode cX12_isWeight 1 = .ok (.i2l, 1) := all_at dvX12_isWeight_0 1 rfl
theorem dX12_isWeight_2 : decode cX12_isWeight 2 = .ok (.lconst 1, 1) := all_at dvX12_isWeight_0 2 rfl
theorem dX12_isWeight_3 : decode cX12_isWeight 3 = .ok (.ldc2_w 194, 3) := all_at dvX12_isWeight_0 3 rfl
theorem dX12_isWeight_6 : decode cX12_isWeight 6 = .ok (.invokestatic 167, 3) := all_at dvX12_isWeight_0 4 rfl
theorem dX12_isWeight_9 : decode cX12_isWeight 9 = .ok (.ireturn, 1) := all_at dvX12_isWeight_0 5 rfl
set_option maxRecDepth 100000 in
theorem dvX12_noBale_0 : ([(0, .iload_n 1, 1), (1, .i2l, 1), (2, .lconst 0, 1), (3, .aload_n 0, 1), (4, .getfield 164, 3), (7, .iconst 1, 1), (8, .isub, 1), (9, .i2l, 1), (10, .invokestatic 167, 3), (13, .ifCond .ne 7, 3), (16, .iconst 1, 1), (17, .goto 4, 3), (20, .iconst 0, 1), (21, .ireturn, 1)] : List (Nat × Instr × Nat)).all (fun q => decide (decode cX12_noBale q.1 = .ok (q.2.1, q.2.2))) = true := by decide +kernel
theorem dX12_noBale_0 : decode cX12_noBale 0 = .ok (.iload_n 1, 1) := all_at dvX12_noBale_0 0 rfl
theorem dX12_noBale_1 : decode cX12_noBale 1 = .ok (.i2l, 1) := all_at dvX12_noBale_0 1 rfl
theorem dX12_noBale_2 : decode cX12_noBale 2 = .ok (.lconst 0, 1) := all_at dvX12_noBale_0 2 rfl
theorem dX12_noBale_3 : decode cX12_noBale 3 = .ok (.aload_n 0, 1) := all_at dvX12_noBale_0 3 rfl
theorem dX12_noBale_4 : decode cX12_noBale 4 = .ok (.getfield 164, 3) := all_at dvX12_noBale_0 4 rfl
theorem dX12_noBale_7 : decode cX12_noBale 7 = .ok (.iconst 1, 1) := all_at dvX12_noBale_0 5 rfl
theorem dX12_noBale_8 : decode cX12_noBale 8 = .ok (.isub, 1) := all_at dvX12_noBale_0 6 rfl
theorem dX12_noBale_9 : decode cX12_noBale 9 = .ok (.i2l, 1) := all_at dvX12_noBale_0 7 rfl
theorem dX12_noBale_10 : decode cX12_noBale 10 = .ok (.invokestatic 167, 3) := all_at dvX12_noBale_0 8 rfl
theorem dX12_noBale_13 : decode cX12_noBale 13 = .ok (.ifCond .ne 7, 3) := all_at dvX12_noBale_0 9 rfl
theorem dX12_noBale_16 : decode cX12_noBale 16 = .ok (.iconst 1, 1) := all_at dvX12_noBale_0 10 rfl
theorem dX12_noBale_17 : decode cX12_noBale 17 = .ok (.goto 4, 3) := all_at dvX12_noBale_0 11 rfl
theorem dX12_noBale_20 : decode cX12_noBale 20 = .ok (.iconst 0, 1) := all_at dvX12_noBale_0 12 rfl
theorem dX12_noBale_21 : decode cX12_noBale 21 = .ok (.ireturn, 1) := all_at dvX12_noBale_0 13 rfl
set_option maxRecDepth 100000 in
theorem dvX12_noPaper_0 : ([(0, .iload_n 1, 1), (1, .i2l, 1), (2, .lconst 0, 1), (3, .aload_n 0, 1), (4, .getfield 429, 3), (7, .iconst 1, 1), (8, .isub, 1), (9, .i2l, 1), (10, .invokestatic 167, 3), (13, .ifCond .ne 7, 3), (16, .iconst 1, 1), (17, .goto 4, 3), (20, .iconst 0, 1), (21, .ireturn, 1)] : List (Nat × Instr × Nat)).all (fun q => decide (decode cX12_noPaper q.1 = .ok (q.2.1, q.2.2))) = true := by decide +kernel
theorem dX12_noPaper_0 : decode cX12_noPaper 0 = .ok (.iload_n 1, 1) := all_at dvX12_noPaper_0 0 rfl
theorem dX12_noPaper_1 : decode cX12_noPaper 1 = .ok (.i2l, 1) := all_at dvX12_noPaper_0 1 rfl
theorem dX12_noPaper_2 : decode cX12_noPaper 2 = .ok (.lconst 0, 1) := all_at dvX12_noPaper_0 2 rfl
theorem dX12_noPaper_3 : decode cX12_noPaper 3 = .ok (.aload_n 0, 1) := all_at dvX12_noPaper_0 3 rfl
theorem dX12_noPaper_4 : decode cX12_noPaper 4 = .ok (.getfield 429, 3) := all_at dvX12_noPaper_0 4 rfl
theorem dX12_noPaper_7 : decode cX12_noPaper 7 = .ok (.iconst 1, 1) := all_at dvX12_noPaper_0 5 rfl
theorem dX12_noPaper_8 : decode cX12_noPaper 8 = .ok (.isub, 1) := all_at dvX12_noPaper_0 6 rfl
theorem dX12_noPaper_9 : decode cX12_noPaper 9 = .ok (.i2l, 1) := all_at dvX12_noPaper_0 7 rfl
theorem dX12_noPaper_10 : decode cX12_noPaper 10 = .ok (.invokestatic 167, 3) := all_at dvX12_noPaper_0 8 rfl
theorem dX12_noPaper_13 : decode cX12_noPaper 13 = .ok (.ifCond .ne 7, 3) := all_at dvX12_noPaper_0 9 rfl
theorem dX12_noPaper_16 : decode cX12_noPaper 16 = .ok (.iconst 1, 1) := all_at dvX12_noPaper_0 10 rfl
theorem dX12_noPaper_17 : decode cX12_noPaper 17 = .ok (.goto 4, 3) := all_at dvX12_noPaper_0 11 rfl
theorem dX12_noPaper_20 : decode cX12_noPaper 20 = .ok (.iconst 0, 1) := all_at dvX12_noPaper_0 12 rfl
theorem dX12_noPaper_21 : decode cX12_noPaper 21 = .ok (.ireturn, 1) := all_at dvX12_noPaper_0 13 rfl
set_option maxRecDepth 100000 in
theorem dvX12_noSkein_0 : ([(0, .iload_n 1, 1), (1, .i2l, 1), (2, .lconst 0, 1), (3, .aload_n 0, 1), (4, .getfield 200, 3), (7, .iconst 1, 1), (8, .isub, 1), (9, .i2l, 1), (10, .invokestatic 167, 3), (13, .ifCond .ne 7, 3), (16, .iconst 1, 1), (17, .goto 4, 3), (20, .iconst 0, 1), (21, .ireturn, 1)] : List (Nat × Instr × Nat)).all (fun q => decide (decode cX12_noSkein q.1 = .ok (q.2.1, q.2.2))) = true := by decide +kernel
theorem dX12_noSkein_0 : decode cX12_noSkein 0 = .ok (.iload_n 1, 1) := all_at dvX12_noSkein_0 0 rfl
theorem dX12_noSkein_1 : decode cX12_noSkein 1 = .ok (.i2l, 1) := all_at dvX12_noSkein_0 1 rfl
theorem dX12_noSkein_2 : decode cX12_noSkein 2 = .ok (.lconst 0, 1) := all_at dvX12_noSkein_0 2 rfl
theorem dX12_noSkein_3 : decode cX12_noSkein 3 = .ok (.aload_n 0, 1) := all_at dvX12_noSkein_0 3 rfl
theorem dX12_noSkein_4 : decode cX12_noSkein 4 = .ok (.getfield 200, 3) := all_at dvX12_noSkein_0 4 rfl
theorem dX12_noSkein_7 : decode cX12_noSkein 7 = .ok (.iconst 1, 1) := all_at dvX12_noSkein_0 5 rfl
theorem dX12_noSkein_8 : decode cX12_noSkein 8 = .ok (.isub, 1) := all_at dvX12_noSkein_0 6 rfl
theorem dX12_noSkein_9 : decode cX12_noSkein 9 = .ok (.i2l, 1) := all_at dvX12_noSkein_0 7 rfl
theorem dX12_noSkein_10 : decode cX12_noSkein 10 = .ok (.invokestatic 167, 3) := all_at dvX12_noSkein_0 8 rfl
theorem dX12_noSkein_13 : decode cX12_noSkein 13 = .ok (.ifCond .ne 7, 3) := all_at dvX12_noSkein_0 9 rfl
theorem dX12_noSkein_16 : decode cX12_noSkein 16 = .ok (.iconst 1, 1) := all_at dvX12_noSkein_0 10 rfl
theorem dX12_noSkein_17 : decode cX12_noSkein 17 = .ok (.goto 4, 3) := all_at dvX12_noSkein_0 11 rfl
theorem dX12_noSkein_20 : decode cX12_noSkein 20 = .ok (.iconst 0, 1) := all_at dvX12_noSkein_0 12 rfl
theorem dX12_noSkein_21 : decode cX12_noSkein 21 = .ok (.ireturn, 1) := all_at dvX12_noSkein_0 13 rfl
set_option maxRecDepth 100000 in
theorem dvX12_plain_0 : ([(0, .lload_n 0, 1), (1, .lconst 0, 1), (2, .lcmp, 1), (3, .ifCond .ge 9, 3), (6, .lconst 0, 1), (7, .lload_n 0, 1), (8, .lsub, 1), (9, .goto 4, 3), (12, .lload_n 0, 1), (13, .lreturn, 1)] : List (Nat × Instr × Nat)).all (fun q => decide (decode cX12_plain q.1 = .ok (q.2.1, q.2.2))) = true := by decide +kernel
theorem dX12_plain_0 : decode cX12_plain 0 = .ok (.lload_n 0, 1) := all_at dvX12_plain_0 0 rfl
theorem dX12_plain_1 : decode cX12_plain 1 = .ok (.lconst 0, 1) := all_at dvX12_plain_0 1 rfl
theorem dX12_plain_2 : decode cX12_plain 2 = .ok (.lcmp, 1) := all_at dvX12_plain_0 2 rfl
theorem dX12_plain_3 : decode cX12_plain 3 = .ok (.ifCond .ge 9, 3) := all_at dvX12_plain_0 3 rfl
theorem dX12_plain_6 : decode cX12_plain 6 = .ok (.lconst 0, 1) := all_at dvX12_plain_0 4 rfl
theorem dX12_plain_7 : decode cX12_plain 7 = .ok (.lload_n 0, 1) := all_at dvX12_plain_0 5 rfl
theorem dX12_plain_8 : decode cX12_plain 8 = .ok (.lsub, 1) := all_at dvX12_plain_0 6 rfl
theorem dX12_plain_9 : decode cX12_plain 9 = .ok (.goto 4, 3) := all_at dvX12_plain_0 7 rfl
theorem dX12_plain_12 : decode cX12_plain 12 = .ok (.lload_n 0, 1) := all_at dvX12_plain_0 8 rfl
theorem dX12_plain_13 : decode cX12_plain 13 = .ok (.lreturn, 1) := all_at dvX12_plain_0 9 rfl
set_option maxHeartbeats 4000000 in
set_option maxRecDepth 100000 in
/-- X12_in -/
theorem c_X12_in (l : Launch) (dC : Nat → ClassId) (dI : Nat → Nat → Nat) (n : Int64) (lo : Int64) (hi : Int64) (N L M : Int) (hn : n.toInt = N) (hlo : lo.toInt = L) (hhi : hi.toInt = M) : Met l yX12_in (wc yX12_in cX12_in 6 (some .boolean)) ({ frames := 0, cells := 0, slots := 0, locals := 0 } : Room) (pR (dC, dI) classes [] [] [.long n, .long lo, .long hi]) (vp_Si (fun r => (r = 1 ∧ (L ≤ N ∧ N ≤ M)) ∨ (r = 0 ∧ ¬ (L ≤ N ∧ N ≤ M)))) 0 0 (fun _ => False) := by
  refine Met.ofW (cc := cX12_in) (maxL := 6) (ret := (some .boolean)) (by decide) rfl ?_
  intro p e s m args below meth c s₁ B hml hv
  obtain ⟨rfl, hP, hK⟩ := hv
  have hx := B.exec
  have hb := B.bytes
  have hr := B.returns
  have ht := tb_tl (atoms_spec (ws := wc yX12_in cX12_in 6 (some .boolean)) B.pre)
  have hown : s.vm.findClass RX12 = some m.cls := findClass_of_methodNamed B.named
  have hlocks := B.notSynchronized
  have hl := lv_entry [.long n, .long lo, .long hi] (n := 6) (Nat.le_of_ble_eq_true rfl)
  rw [lg_entry_eq]
  generalize (lg_sl [.long n, .long lo, .long hi] ++ List.replicate (6 - (lg_sl [.long n, .long lo, .long hi]).length) Slot.unset).toArray = ls at hl ⊢
  have hl : lv_has ls 6 [(0, .long n), (2, .long lo), (4, .long hi)] := hl
  refine lv_lload_n hx hb dX12_in_0 rfl (lv_at hl 0 rfl) ?_
  refine lv_lload_n hx hb dX12_in_1 rfl (lv_at hl 1 rfl) ?_
  refine W.lcmp hx hb dX12_in_2 ?_
  refine lv_topi (fun v1 ev1 => ?_)
  refine lv_if_lt (tgt := 17) hx hb dX12_in_3 (by decide) (fun c2 => ?_) (fun c2 => ?_)
  · have fc2 := zc_lt ev1 hn hlo c2
    refine lv_iconst (v := 0) hx hb dX12_in_17 (by decide) ?_
    exact W.zret (v := 0) hx hb hr rfl (fun t ht9 hW => ⟨0, rfl, Or.inr ⟨rfl, by omega⟩, ht9⟩) (fun q hq => by cases hq) dX12_in_18
  · have fc2 := zc_nlt ev1 hn hlo c2
    refine lv_lload_n hx hb dX12_in_6 rfl (lv_at hl 0 rfl) ?_
    refine lv_lload hx hb dX12_in_7 (lv_at hl 2 rfl) ?_
    refine W.lcmp hx hb dX12_in_9 ?_
    refine lv_topi (fun v3 ev3 => ?_)
    refine lv_if_gt (tgt := 17) hx hb dX12_in_10 (by decide) (fun c4 => ?_) (fun c4 => ?_)
    · have fc4 := zc_gt ev3 hn hhi c4
      refine lv_iconst (v := 0) hx hb dX12_in_17 (by decide) ?_
      exact W.zret (v := 0) hx hb hr rfl (fun t ht9 hW => ⟨0, rfl, Or.inr ⟨rfl, by omega⟩, ht9⟩) (fun q hq => by cases hq) dX12_in_18
    · have fc4 := zc_ngt ev3 hn hhi c4
      refine lv_iconst (v := 1) hx hb dX12_in_13 (by decide) ?_
      refine lv_goto (tgt := 18) hx hb dX12_in_14 (by decide) ?_
      exact W.zret (v := 1) hx hb hr rfl (fun t ht9 hW => ⟨1, rfl, Or.inl ⟨rfl, by omega⟩, ht9⟩) (fun q hq => by cases hq) dX12_in_18
set_option maxHeartbeats 4000000 in
set_option maxRecDepth 100000 in
/-- X12_bit -/
theorem c_X12_bit (l : Launch) (dC : Nat → ClassId) (dI : Nat → Nat → Nat) (a : Int32) (h_a : 0 ≤ a.toInt ∧ a.toInt ≤ 1) : Met l yX12_bit (wc yX12_bit cX12_bit 1 (some .int)) ({ frames := 0, cells := 0, slots := 0, locals := 0 } : Room) (pR (dC, dI) classes [] [] [.int a]) (vp_Si (fun r => 0 ≤ r.toInt ∧ r.toInt ≤ 1)) 0 0 (fun _ => False) := by
  refine Met.ofW (cc := cX12_bit) (maxL := 1) (ret := (some .int)) (by decide) rfl ?_
  intro p e s m args below meth c s₁ B hml hv
  obtain ⟨rfl, hP, hK⟩ := hv
  have hx := B.exec
  have hb := B.bytes
  have hr := B.returns
  have ht := tb_tl (atoms_spec (ws := wc yX12_bit cX12_bit 1 (some .int)) B.pre)
  have hown : s.vm.findClass RX12 = some m.cls := findClass_of_methodNamed B.named
  have hlocks := B.notSynchronized
  have hl := lv_entry [.int a] (n := 1) (Nat.le_of_ble_eq_true rfl)
  rw [lg_entry_eq]
  generalize (lg_sl [.int a] ++ List.replicate (1 - (lg_sl [.int a]).length) Slot.unset).toArray = ls at hl ⊢
  have hl : lv_has ls 1 [(0, .int a)] := hl
  refine lv_iload_n hx hb dX12_bit_0 rfl (lv_at hl 0 rfl) ?_
  refine lv_if_eq (tgt := 8) hx hb dX12_bit_1 (by decide) (fun c1 => ?_) (fun c1 => ?_)
  · have fc1 := z_eq (rfl : (a).toInt = _) (by decide : (0 : Int32).toInt = 0) c1
    refine lv_iconst (v := 0) hx hb dX12_bit_8 (by decide) ?_
    exact W.iret (v := 0) hx hb hr (fun t ht9 hW => ⟨0, rfl, ⟨by decide, by decide⟩, ht9⟩) (fun q hq => by cases hq) dX12_bit_9
  · have fc1 := z_ne (rfl : (a).toInt = _) (by decide : (0 : Int32).toInt = 0) c1
    refine lv_iconst (v := 1) hx hb dX12_bit_4 (by decide) ?_
    refine lv_goto (tgt := 9) hx hb dX12_bit_5 (by decide) ?_
    exact W.iret (v := 1) hx hb hr (fun t ht9 hW => ⟨1, rfl, ⟨by decide, by decide⟩, ht9⟩) (fun q hq => by cases hq) dX12_bit_9
set_option maxHeartbeats 4000000 in
set_option maxRecDepth 100000 in
/-- X12_plain -/
theorem c_X12_plain (l : Launch) (dC : Nat → ClassId) (dI : Nat → Nat → Nat) (a : Int64) : Met l yX12_plain (wc yX12_plain cX12_plain 2 (some .long)) ({ frames := 0, cells := 0, slots := 0, locals := 0 } : Room) (pR (dC, dI) classes [] [] [.long a]) (vp_Sl (fun r => True)) 0 0 (fun _ => False) := by
  refine Met.ofW (cc := cX12_plain) (maxL := 2) (ret := (some .long)) (by decide) rfl ?_
  intro p e s m args below meth c s₁ B hml hv
  obtain ⟨rfl, hP, hK⟩ := hv
  have hx := B.exec
  have hb := B.bytes
  have hr := B.returns
  have ht := tb_tl (atoms_spec (ws := wc yX12_plain cX12_plain 2 (some .long)) B.pre)
  have hown : s.vm.findClass RX12 = some m.cls := findClass_of_methodNamed B.named
  have hlocks := B.notSynchronized
  have hl := lv_entry [.long a] (n := 2) (Nat.le_of_ble_eq_true rfl)
  rw [lg_entry_eq]
  generalize (lg_sl [.long a] ++ List.replicate (2 - (lg_sl [.long a]).length) Slot.unset).toArray = ls at hl ⊢
  have hl : lv_has ls 2 [(0, .long a)] := hl
  refine lv_lload_n hx hb dX12_plain_0 rfl (lv_at hl 0 rfl) ?_
  refine lv_lconst (v := 0) hx hb dX12_plain_1 (by decide) ?_
  refine W.lcmp hx hb dX12_plain_2 ?_
  refine lv_topi (fun v1 ev1 => ?_)
  refine lv_if_ge (tgt := 12) hx hb dX12_plain_3 (by decide) (fun c2 => ?_) (fun c2 => ?_)
  · have fc2 := zc_nlt ev1 (rfl : (a).toInt = _) (by decide : (0 : Int64).toInt = 0) (Int32.not_lt.mpr c2)
    refine lv_lload_n hx hb dX12_plain_12 rfl (lv_at hl 0 rfl) ?_
    exact W.lret (v := a) hx hb hr (fun t ht9 hW => ⟨a, rfl, trivial, ht9⟩) (fun q hq => by cases hq) dX12_plain_13
  · have fc2 := zc_lt ev1 (rfl : (a).toInt = _) (by decide : (0 : Int64).toInt = 0) (Int32.not_le.mp c2)
    refine lv_lconst (v := 0) hx hb dX12_plain_6 (by decide) ?_
    refine lv_lload_n hx hb dX12_plain_7 rfl (lv_at hl 0 rfl) ?_
    refine lv_lsub hx hb dX12_plain_8 ?_
    refine lv_topl (fun w3 ew3 => ?_)
    refine lv_goto (tgt := 13) hx hb dX12_plain_9 (by decide) ?_
    exact W.lret (v := w3) hx hb hr (fun t ht9 hW => ⟨w3, rfl, trivial, ht9⟩) (fun q hq => by cases hq) dX12_plain_13
set_option maxHeartbeats 4000000 in
set_option maxRecDepth 100000 in
/-- X12_noBale -/
theorem c_X12_noBale (l : Launch) (dC : Nat → ClassId) (dI : Nat → Nat → Nat) (h : Nat) (g : Nat → Nat → Nat) (ca : Nat → Nat → ClassId) (iv : Nat → Nat → Int32) (lv : Nat → Nat → Int64) (fa : Nat → Nat → Nat → Int32) (la : Nat → Nat → Nat → Int64) (hI : IX iv fa) (a : Int32) : Met l yX12_noBale (wc yX12_noBale cX12_noBale 2 (some .boolean)) ({ frames := 1, cells := 0, slots := 0, locals := 25 } : Room) (pR (dC, dI) classes (WM h g ca iv lv fa la) (TM ca) [.ref h, .int a]) (vp_Si (fun r => (r = 1 ∧ (¬ (0 ≤ a.toInt ∧ a.toInt < (iv 12 1).toInt))) ∨ (r = 0 ∧ ¬ (¬ (0 ≤ a.toInt ∧ a.toInt < (iv 12 1).toInt))))) 0 0 (fun _ => False) := by
  refine Met.ofW (cc := cX12_noBale) (maxL := 2) (ret := (some .boolean)) (by decide) rfl ?_
  intro p e s m args below meth c s₁ B hml hv
  obtain ⟨rfl, hP, hK⟩ := hv
  have hx := B.exec
  have hb := B.bytes
  have hr := B.returns
  have ht := tb_tl (atoms_spec (ws := wc yX12_noBale cX12_noBale 2 (some .boolean)) B.pre)
  have hown : s.vm.findClass RX12 = some m.cls := findClass_of_methodNamed B.named
  have hlocks := B.notSynchronized
  have hl := lv_entry [.ref h, .int a] (n := 2) (Nat.le_of_ble_eq_true rfl)
  rw [lg_entry_eq]
  generalize (lg_sl [.ref h, .int a] ++ List.replicate (2 - (lg_sl [.ref h, .int a]).length) Slot.unset).toArray = ls at hl ⊢
  have hl : lv_has ls 2 [(0, .ref h), (1, .int a)] := hl
  refine lv_iload_n hx hb dX12_noBale_0 rfl (lv_at hl 1 rfl) ?_
  refine lv_i2l (v := (a.toInt64)) hx hb dX12_noBale_1 rfl ?_
  refine lv_lconst (v := 0) hx hb dX12_noBale_2 (by decide) ?_
  refine lv_aload_n hx hb dX12_noBale_3 rfl (lv_at hl 0 rfl) ?_
  have i_12_1 : 0 ≤ (iv 12 1).toInt ∧ (iv 12 1).toInt ≤ 10 := hI.1 12 1
  refine gM_12_1 hx hb ht hown hK hP m_1140 (v := (iv 12 1)) rfl dX12_noBale_4 ?_
  refine lv_iconst (v := 1) hx hb dX12_noBale_7 (by decide) ?_
  refine lv_isub hx hb dX12_noBale_8 ?_
  refine lv_topi (fun v1 ev1 => ?_)
  have tv1 := z_sub ev1 (rfl : ((iv 12 1)).toInt = _) (by decide : (1 : Int32).toInt = 1) (by omega) (by omega)
  refine lv_i2l (v := (v1.toInt64)) hx hb dX12_noBale_9 rfl ?_
  refine vp_callSi (W.runS (As := [.long (a.toInt64), .long 0, .long (v1.toInt64)]) (rest := []) ⟨hx, hb, hml, hown, ht⟩ (c_X12_in l dC dI (a.toInt64) 0 (v1.toInt64) (a.toInt) (0) (v1.toInt) ((Int32.toInt_toInt64 a).trans rfl) (by decide : (0 : Int64).toInt = 0) ((Int32.toInt_toInt64 v1).trans rfl)) (kS 3 ht m_1370 m_1371 m_89 m_1372 rfl rfl hd_X12_in_v ⟨Nat.le_of_ble_eq_true rfl, Nat.le_of_ble_eq_true rfl⟩) (sR noP (hK.sub (tys' := []) [] rfl)) rfl rfl hl.1 rfl (lv_room (Nat.le_of_ble_eq_true rfl)) dX12_noBale_10 ⟨Nat.le_of_ble_eq_true rfl, Nat.le_of_ble_eq_true rfl⟩) (fun r2 hr2 => ?_)
  rcases hr2 with ⟨rfl, fr2⟩ | ⟨rfl, fr2⟩
  · skip
    refine lv_if_ne (tgt := 20) hx hb dX12_noBale_13 (by decide) (fun c3 => ?_) (fun c3 => ?_)
    · skip
      refine lv_iconst (v := 0) hx hb dX12_noBale_20 (by decide) ?_
      exact W.zret (v := 0) hx hb hr rfl (fun t ht9 hW => ⟨0, rfl, Or.inr ⟨rfl, by omega⟩, ht9⟩) (fun q hq => by cases hq) dX12_noBale_21
    · exact absurd c3 (by decide)
  · skip
    refine lv_if_ne (tgt := 20) hx hb dX12_noBale_13 (by decide) (fun c4 => ?_) (fun c4 => ?_)
    · exact absurd rfl c4
    · skip
      refine lv_iconst (v := 1) hx hb dX12_noBale_16 (by decide) ?_
      refine lv_goto (tgt := 21) hx hb dX12_noBale_17 (by decide) ?_
      exact W.zret (v := 1) hx hb hr rfl (fun t ht9 hW => ⟨1, rfl, Or.inl ⟨rfl, by omega⟩, ht9⟩) (fun q hq => by cases hq) dX12_noBale_21
set_option maxHeartbeats 4000000 in
set_option maxRecDepth 100000 in
/-- X12_noSkein -/
theorem c_X12_noSkein (l : Launch) (dC : Nat → ClassId) (dI : Nat → Nat → Nat) (h : Nat) (g : Nat → Nat → Nat) (ca : Nat → Nat → ClassId) (iv : Nat → Nat → Int32) (lv : Nat → Nat → Int64) (fa : Nat → Nat → Nat → Int32) (la : Nat → Nat → Nat → Int64) (hI : IX iv fa) (a : Int32) : Met l yX12_noSkein (wc yX12_noSkein cX12_noSkein 2 (some .boolean)) ({ frames := 1, cells := 0, slots := 0, locals := 25 } : Room) (pR (dC, dI) classes (WM h g ca iv lv fa la) (TM ca) [.ref h, .int a]) (vp_Si (fun r => (r = 1 ∧ (¬ (0 ≤ a.toInt ∧ a.toInt < (iv 12 3).toInt))) ∨ (r = 0 ∧ ¬ (¬ (0 ≤ a.toInt ∧ a.toInt < (iv 12 3).toInt))))) 0 0 (fun _ => False) := by
  refine Met.ofW (cc := cX12_noSkein) (maxL := 2) (ret := (some .boolean)) (by decide) rfl ?_
  intro p e s m args below meth c s₁ B hml hv
  obtain ⟨rfl, hP, hK⟩ := hv
  have hx := B.exec
  have hb := B.bytes
  have hr := B.returns
  have ht := tb_tl (atoms_spec (ws := wc yX12_noSkein cX12_noSkein 2 (some .boolean)) B.pre)
  have hown : s.vm.findClass RX12 = some m.cls := findClass_of_methodNamed B.named
  have hlocks := B.notSynchronized
  have hl := lv_entry [.ref h, .int a] (n := 2) (Nat.le_of_ble_eq_true rfl)
  rw [lg_entry_eq]
  generalize (lg_sl [.ref h, .int a] ++ List.replicate (2 - (lg_sl [.ref h, .int a]).length) Slot.unset).toArray = ls at hl ⊢
  have hl : lv_has ls 2 [(0, .ref h), (1, .int a)] := hl
  refine lv_iload_n hx hb dX12_noSkein_0 rfl (lv_at hl 1 rfl) ?_
  refine lv_i2l (v := (a.toInt64)) hx hb dX12_noSkein_1 rfl ?_
  refine lv_lconst (v := 0) hx hb dX12_noSkein_2 (by decide) ?_
  refine lv_aload_n hx hb dX12_noSkein_3 rfl (lv_at hl 0 rfl) ?_
  have i_12_3 : 0 ≤ (iv 12 3).toInt ∧ (iv 12 3).toInt ≤ 60 := hI.1 12 3
  refine gM_12_3 hx hb ht hown hK hP m_1142 (v := (iv 12 3)) rfl dX12_noSkein_4 ?_
  refine lv_iconst (v := 1) hx hb dX12_noSkein_7 (by decide) ?_
  refine lv_isub hx hb dX12_noSkein_8 ?_
  refine lv_topi (fun v1 ev1 => ?_)
  have tv1 := z_sub ev1 (rfl : ((iv 12 3)).toInt = _) (by decide : (1 : Int32).toInt = 1) (by omega) (by omega)
  refine lv_i2l (v := (v1.toInt64)) hx hb dX12_noSkein_9 rfl ?_
  refine vp_callSi (W.runS (As := [.long (a.toInt64), .long 0, .long (v1.toInt64)]) (rest := []) ⟨hx, hb, hml, hown, ht⟩ (c_X12_in l dC dI (a.toInt64) 0 (v1.toInt64) (a.toInt) (0) (v1.toInt) ((Int32.toInt_toInt64 a).trans rfl) (by decide : (0 : Int64).toInt = 0) ((Int32.toInt_toInt64 v1).trans rfl)) (kS 3 ht m_1370 m_1371 m_89 m_1372 rfl rfl hd_X12_in_v ⟨Nat.le_of_ble_eq_true rfl, Nat.le_of_ble_eq_true rfl⟩) (sR noP (hK.sub (tys' := []) [] rfl)) rfl rfl hl.1 rfl (lv_room (Nat.le_of_ble_eq_true rfl)) dX12_noSkein_10 ⟨Nat.le_of_ble_eq_true rfl, Nat.le_of_ble_eq_true rfl⟩) (fun r2 hr2 => ?_)
  rcases hr2 with ⟨rfl, fr2⟩ | ⟨rfl, fr2⟩
  · skip
    refine lv_if_ne (tgt := 20) hx hb dX12_noSkein_13 (by decide) (fun c3 => ?_) (fun c3 => ?_)
    · skip
      refine lv_iconst (v := 0) hx hb dX12_noSkein_20 (by decide) ?_
      exact W.zret (v := 0) hx hb hr rfl (fun t ht9 hW => ⟨0, rfl, Or.inr ⟨rfl, by omega⟩, ht9⟩) (fun q hq => by cases hq) dX12_noSkein_21
    · exact absurd c3 (by decide)
  · skip
    refine lv_if_ne (tgt := 20) hx hb dX12_noSkein_13 (by decide) (fun c4 => ?_) (fun c4 => ?_)
    · exact absurd rfl c4
    · skip
      refine lv_iconst (v := 1) hx hb dX12_noSkein_16 (by decide) ?_
      refine lv_goto (tgt := 21) hx hb dX12_noSkein_17 (by decide) ?_
      exact W.zret (v := 1) hx hb hr rfl (fun t ht9 hW => ⟨1, rfl, Or.inl ⟨rfl, by omega⟩, ht9⟩) (fun q hq => by cases hq) dX12_noSkein_21
set_option maxHeartbeats 4000000 in
set_option maxRecDepth 100000 in
/-- X12_noPaper -/
theorem c_X12_noPaper (l : Launch) (dC : Nat → ClassId) (dI : Nat → Nat → Nat) (h : Nat) (g : Nat → Nat → Nat) (ca : Nat → Nat → ClassId) (iv : Nat → Nat → Int32) (lv : Nat → Nat → Int64) (fa : Nat → Nat → Nat → Int32) (la : Nat → Nat → Nat → Int64) (hI : IX iv fa) (a : Int32) : Met l yX12_noPaper (wc yX12_noPaper cX12_noPaper 2 (some .boolean)) ({ frames := 1, cells := 0, slots := 0, locals := 25 } : Room) (pR (dC, dI) classes (WM h g ca iv lv fa la) (TM ca) [.ref h, .int a]) (vp_Si (fun r => (r = 1 ∧ (¬ (0 ≤ a.toInt ∧ a.toInt < (iv 12 67).toInt))) ∨ (r = 0 ∧ ¬ (¬ (0 ≤ a.toInt ∧ a.toInt < (iv 12 67).toInt))))) 0 0 (fun _ => False) := by
  refine Met.ofW (cc := cX12_noPaper) (maxL := 2) (ret := (some .boolean)) (by decide) rfl ?_
  intro p e s m args below meth c s₁ B hml hv
  obtain ⟨rfl, hP, hK⟩ := hv
  have hx := B.exec
  have hb := B.bytes
  have hr := B.returns
  have ht := tb_tl (atoms_spec (ws := wc yX12_noPaper cX12_noPaper 2 (some .boolean)) B.pre)
  have hown : s.vm.findClass RX12 = some m.cls := findClass_of_methodNamed B.named
  have hlocks := B.notSynchronized
  have hl := lv_entry [.ref h, .int a] (n := 2) (Nat.le_of_ble_eq_true rfl)
  rw [lg_entry_eq]
  generalize (lg_sl [.ref h, .int a] ++ List.replicate (2 - (lg_sl [.ref h, .int a]).length) Slot.unset).toArray = ls at hl ⊢
  have hl : lv_has ls 2 [(0, .ref h), (1, .int a)] := hl
  refine lv_iload_n hx hb dX12_noPaper_0 rfl (lv_at hl 1 rfl) ?_
  refine lv_i2l (v := (a.toInt64)) hx hb dX12_noPaper_1 rfl ?_
  refine lv_lconst (v := 0) hx hb dX12_noPaper_2 (by decide) ?_
  refine lv_aload_n hx hb dX12_noPaper_3 rfl (lv_at hl 0 rfl) ?_
  have i_12_67 : 0 ≤ (iv 12 67).toInt ∧ (iv 12 67).toInt ≤ 40 := hI.1 12 67
  refine gM_12_67 hx hb ht hown hK hP m_1206 (v := (iv 12 67)) rfl dX12_noPaper_4 ?_
  refine lv_iconst (v := 1) hx hb dX12_noPaper_7 (by decide) ?_
  refine lv_isub hx hb dX12_noPaper_8 ?_
  refine lv_topi (fun v1 ev1 => ?_)
  have tv1 := z_sub ev1 (rfl : ((iv 12 67)).toInt = _) (by decide : (1 : Int32).toInt = 1) (by omega) (by omega)
  refine lv_i2l (v := (v1.toInt64)) hx hb dX12_noPaper_9 rfl ?_
  refine vp_callSi (W.runS (As := [.long (a.toInt64), .long 0, .long (v1.toInt64)]) (rest := []) ⟨hx, hb, hml, hown, ht⟩ (c_X12_in l dC dI (a.toInt64) 0 (v1.toInt64) (a.toInt) (0) (v1.toInt) ((Int32.toInt_toInt64 a).trans rfl) (by decide : (0 : Int64).toInt = 0) ((Int32.toInt_toInt64 v1).trans rfl)) (kS 3 ht m_1370 m_1371 m_89 m_1372 rfl rfl hd_X12_in_v ⟨Nat.le_of_ble_eq_true rfl, Nat.le_of_ble_eq_true rfl⟩) (sR noP (hK.sub (tys' := []) [] rfl)) rfl rfl hl.1 rfl (lv_room (Nat.le_of_ble_eq_true rfl)) dX12_noPaper_10 ⟨Nat.le_of_ble_eq_true rfl, Nat.le_of_ble_eq_true rfl⟩) (fun r2 hr2 => ?_)
  rcases hr2 with ⟨rfl, fr2⟩ | ⟨rfl, fr2⟩
  · skip
    refine lv_if_ne (tgt := 20) hx hb dX12_noPaper_13 (by decide) (fun c3 => ?_) (fun c3 => ?_)
    · skip
      refine lv_iconst (v := 0) hx hb dX12_noPaper_20 (by decide) ?_
      exact W.zret (v := 0) hx hb hr rfl (fun t ht9 hW => ⟨0, rfl, Or.inr ⟨rfl, by omega⟩, ht9⟩) (fun q hq => by cases hq) dX12_noPaper_21
    · exact absurd c3 (by decide)
  · skip
    refine lv_if_ne (tgt := 20) hx hb dX12_noPaper_13 (by decide) (fun c4 => ?_) (fun c4 => ?_)
    · exact absurd rfl c4
    · skip
      refine lv_iconst (v := 1) hx hb dX12_noPaper_16 (by decide) ?_
      refine lv_goto (tgt := 21) hx hb dX12_noPaper_17 (by decide) ?_
      exact W.zret (v := 1) hx hb hr rfl (fun t ht9 hW => ⟨1, rfl, Or.inl ⟨rfl, by omega⟩, ht9⟩) (fun q hq => by cases hq) dX12_noPaper_21
set_option maxHeartbeats 4000000 in
set_option maxRecDepth 100000 in
/-- X12_isPast -/
theorem c_X12_isPast (l : Launch) (dC : Nat → ClassId) (dI : Nat → Nat → Nat) (h : Nat) (g : Nat → Nat → Nat) (ca : Nat → Nat → ClassId) (iv : Nat → Nat → Int32) (lv : Nat → Nat → Int64) (fa : Nat → Nat → Nat → Int32) (la : Nat → Nat → Nat → Int64) (hI : IX iv fa) (a : Int32) : Met l yX12_isPast (wc yX12_isPast cX12_isPast 2 (some .boolean)) ({ frames := 1, cells := 0, slots := 0, locals := 25 } : Room) (pR (dC, dI) classes (WM h g ca iv lv fa la) (TM ca) [.ref h, .int a]) (vp_Si (fun r => (r = 1 ∧ (0 ≤ a.toInt ∧ a.toInt ≤ (iv 12 0).toInt)) ∨ (r = 0 ∧ ¬ (0 ≤ a.toInt ∧ a.toInt ≤ (iv 12 0).toInt)))) 0 0 (fun _ => False) := by
  refine Met.ofW (cc := cX12_isPast) (maxL := 2) (ret := (some .boolean)) (by decide) rfl ?_
  intro p e s m args below meth c s₁ B hml hv
  obtain ⟨rfl, hP, hK⟩ := hv
  have hx := B.exec
  have hb := B.bytes
  have hr := B.returns
  have ht := tb_tl (atoms_spec (ws := wc yX12_isPast cX12_isPast 2 (some .boolean)) B.pre)
  have hown : s.vm.findClass RX12 = some m.cls := findClass_of_methodNamed B.named
  have hlocks := B.notSynchronized
  have hl := lv_entry [.ref h, .int a] (n := 2) (Nat.le_of_ble_eq_true rfl)
  rw [lg_entry_eq]
  generalize (lg_sl [.ref h, .int a] ++ List.replicate (2 - (lg_sl [.ref h, .int a]).length) Slot.unset).toArray = ls at hl ⊢
  have hl : lv_has ls 2 [(0, .ref h), (1, .int a)] := hl
  refine lv_iload_n hx hb dX12_isPast_0 rfl (lv_at hl 1 rfl) ?_
  refine lv_i2l (v := (a.toInt64)) hx hb dX12_isPast_1 rfl ?_
  refine lv_lconst (v := 0) hx hb dX12_isPast_2 (by decide) ?_
  refine lv_aload_n hx hb dX12_isPast_3 rfl (lv_at hl 0 rfl) ?_
  have i_12_0 : 0 ≤ (iv 12 0).toInt ∧ (iv 12 0).toInt ≤ 3000 := hI.1 12 0
  refine gM_12_0 hx hb ht hown hK hP m_1139 (v := (iv 12 0)) rfl dX12_isPast_4 ?_
  refine lv_i2l (v := ((iv 12 0).toInt64)) hx hb dX12_isPast_7 rfl ?_
  refine vp_callSi (W.runS (As := [.long (a.toInt64), .long 0, .long ((iv 12 0).toInt64)]) (rest := []) ⟨hx, hb, hml, hown, ht⟩ (c_X12_in l dC dI (a.toInt64) 0 ((iv 12 0).toInt64) (a.toInt) (0) ((iv 12 0).toInt) ((Int32.toInt_toInt64 a).trans rfl) (by decide : (0 : Int64).toInt = 0) ((Int32.toInt_toInt64 (iv 12 0)).trans rfl)) (kS 3 ht m_1370 m_1371 m_89 m_1372 rfl rfl hd_X12_in_v ⟨Nat.le_of_ble_eq_true rfl, Nat.le_of_ble_eq_true rfl⟩) (sR noP (hK.sub (tys' := []) [] rfl)) rfl rfl hl.1 rfl (lv_room (Nat.le_of_ble_eq_true rfl)) dX12_isPast_8 ⟨Nat.le_of_ble_eq_true rfl, Nat.le_of_ble_eq_true rfl⟩) (fun r1 hr1 => ?_)
  rcases hr1 with ⟨rfl, fr1⟩ | ⟨rfl, fr1⟩
  · skip
    exact W.zret (v := 1) hx hb hr rfl (fun t ht9 hW => ⟨1, rfl, Or.inl ⟨rfl, by omega⟩, ht9⟩) (fun q hq => by cases hq) dX12_isPast_11
  · skip
    exact W.zret (v := 0) hx hb hr rfl (fun t ht9 hW => ⟨0, rfl, Or.inr ⟨rfl, by omega⟩, ht9⟩) (fun q hq => by cases hq) dX12_isPast_11
set_option maxHeartbeats 4000000 in
set_option maxRecDepth 100000 in
/-- X12_isDay -/
theorem c_X12_isDay (l : Launch) (dC : Nat → ClassId) (dI : Nat → Nat → Nat) (a : Int32) : Met l yX12_isDay (wc yX12_isDay cX12_isDay 1 (some .boolean)) ({ frames := 1, cells := 0, slots := 0, locals := 25 } : Room) (pR (dC, dI) classes [] [] [.int a]) (vp_Si (fun r => (r = 1 ∧ (0 ≤ a.toInt ∧ a.toInt ≤ 3000)) ∨ (r = 0 ∧ ¬ (0 ≤ a.toInt ∧ a.toInt ≤ 3000)))) 0 0 (fun _ => False) := by
  refine Met.ofW (cc := cX12_isDay) (maxL := 1) (ret := (some .boolean)) (by decide) rfl ?_
  intro p e s m args below meth c s₁ B hml hv
  obtain ⟨rfl, hP, hK⟩ := hv
  have hx := B.exec
  have hb := B.bytes
  have hr := B.returns
  have ht := tb_tl (atoms_spec (ws := wc yX12_isDay cX12_isDay 1 (some .boolean)) B.pre)
  have hown : s.vm.findClass RX12 = some m.cls := findClass_of_methodNamed B.named
  have hlocks := B.notSynchronized
  have hl := lv_entry [.int a] (n := 1) (Nat.le_of_ble_eq_true rfl)
  rw [lg_entry_eq]
  generalize (lg_sl [.int a] ++ List.replicate (1 - (lg_sl [.int a]).length) Slot.unset).toArray = ls at hl ⊢
  have hl : lv_has ls 1 [(0, .int a)] := hl
  refine lv_iload_n hx hb dX12_isDay_0 rfl (lv_at hl 0 rfl) ?_
  refine lv_i2l (v := (a.toInt64)) hx hb dX12_isDay_1 rfl ?_
  refine lv_lconst (v := 0) hx hb dX12_isDay_2 (by decide) ?_
  refine lv_ldc2 hx hb hown (ht _ m_1425) dX12_isDay_3 ?_
  refine vp_callSi (W.runS (As := [.long (a.toInt64), .long 0, .long 3000]) (rest := []) ⟨hx, hb, hml, hown, ht⟩ (c_X12_in l dC dI (a.toInt64) 0 3000 (a.toInt) (0) (3000) ((Int32.toInt_toInt64 a).trans rfl) (by decide : (0 : Int64).toInt = 0) (by decide : (3000 : Int64).toInt = 3000)) (kS 3 ht m_1370 m_1371 m_89 m_1372 rfl rfl hd_X12_in_v ⟨Nat.le_of_ble_eq_true rfl, Nat.le_of_ble_eq_true rfl⟩) (sR noP (hK.sub (tys' := []) [] rfl)) rfl rfl hl.1 rfl (lv_room (Nat.le_of_ble_eq_true rfl)) dX12_isDay_6 ⟨Nat.le_of_ble_eq_true rfl, Nat.le_of_ble_eq_true rfl⟩) (fun r1 hr1 => ?_)
  rcases hr1 with ⟨rfl, fr1⟩ | ⟨rfl, fr1⟩
  · skip
    exact W.zret (v := 1) hx hb hr rfl (fun t ht9 hW => ⟨1, rfl, Or.inl ⟨rfl, by omega⟩, ht9⟩) (fun q hq => by cases hq) dX12_isDay_9
  · skip
    exact W.zret (v := 0) hx hb hr rfl (fun t ht9 hW => ⟨0, rfl, Or.inr ⟨rfl, by omega⟩, ht9⟩) (fun q hq => by cases hq) dX12_isDay_9
set_option maxHeartbeats 4000000 in
set_option maxRecDepth 100000 in
/-- X12_isWeight -/
theorem c_X12_isWeight (l : Launch) (dC : Nat → ClassId) (dI : Nat → Nat → Nat) (a : Int32) : Met l yX12_isWeight (wc yX12_isWeight cX12_isWeight 1 (some .boolean)) ({ frames := 1, cells := 0, slots := 0, locals := 25 } : Room) (pR (dC, dI) classes [] [] [.int a]) (vp_Si (fun r => (r = 1 ∧ (1 ≤ a.toInt ∧ a.toInt ≤ 9999)) ∨ (r = 0 ∧ ¬ (1 ≤ a.toInt ∧ a.toInt ≤ 9999)))) 0 0 (fun _ => False) := by
  refine Met.ofW (cc := cX12_isWeight) (maxL := 1) (ret := (some .boolean)) (by decide) rfl ?_
  intro p e s m args below meth c s₁ B hml hv
  obtain ⟨rfl, hP, hK⟩ := hv
  have hx := B.exec
  have hb := B.bytes
  have hr := B.returns
  have ht := tb_tl (atoms_spec (ws := wc yX12_isWeight cX12_isWeight 1 (some .boolean)) B.pre)
  have hown : s.vm.findClass RX12 = some m.cls := findClass_of_methodNamed B.named
  have hlocks := B.notSynchronized
  have hl := lv_entry [.int a] (n := 1) (Nat.le_of_ble_eq_true rfl)
  rw [lg_entry_eq]
  generalize (lg_sl [.int a] ++ List.replicate (1 - (lg_sl [.int a]).length) Slot.unset).toArray = ls at hl ⊢
  have hl : lv_has ls 1 [(0, .int a)] := hl
  refine lv_iload_n hx hb dX12_isWeight_0 rfl (lv_at hl 0 rfl) ?_
  refine lv_i2l (v := (a.toInt64)) hx hb dX12_isWeight_1 rfl ?_
  refine lv_lconst (v := 1) hx hb dX12_isWeight_2 (by decide) ?_
  refine lv_ldc2 hx hb hown (ht _ m_1393) dX12_isWeight_3 ?_
  refine vp_callSi (W.runS (As := [.long (a.toInt64), .long 1, .long 9999]) (rest := []) ⟨hx, hb, hml, hown, ht⟩ (c_X12_in l dC dI (a.toInt64) 1 9999 (a.toInt) (1) (9999) ((Int32.toInt_toInt64 a).trans rfl) (by decide : (1 : Int64).toInt = 1) (by decide : (9999 : Int64).toInt = 9999)) (kS 3 ht m_1370 m_1371 m_89 m_1372 rfl rfl hd_X12_in_v ⟨Nat.le_of_ble_eq_true rfl, Nat.le_of_ble_eq_true rfl⟩) (sR noP (hK.sub (tys' := []) [] rfl)) rfl rfl hl.1 rfl (lv_room (Nat.le_of_ble_eq_true rfl)) dX12_isWeight_6 ⟨Nat.le_of_ble_eq_true rfl, Nat.le_of_ble_eq_true rfl⟩) (fun r1 hr1 => ?_)
  rcases hr1 with ⟨rfl, fr1⟩ | ⟨rfl, fr1⟩
  · skip
    exact W.zret (v := 1) hx hb hr rfl (fun t ht9 hW => ⟨1, rfl, Or.inl ⟨rfl, by omega⟩, ht9⟩) (fun q hq => by cases hq) dX12_isWeight_9
  · skip
    exact W.zret (v := 0) hx hb hr rfl (fun t ht9 hW => ⟨0, rfl, Or.inr ⟨rfl, by omega⟩, ht9⟩) (fun q hq => by cases hq) dX12_isWeight_9
