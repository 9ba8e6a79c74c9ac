/-! ===== n9 ===== -/
theorem m_1185 : Cond.fieldLink RX12 356 "SilkHouseModel" "lawfulUp" "J" ∈ tb := mb_5_6 _ (List.mem_of_getElem? (i := 2) rfl)
theorem m_1186 : Cond.fieldLink RX12 359 "SilkHouseModel" "lawfulDown" "J" ∈ tb := mb_5_6 _ (List.mem_of_getElem? (i := 3) rfl)
set_option maxRecDepth 100000 in
theorem dvX12_findLawful_0 : ([(0, .lload_n 2, 1), (1, .lload 4, 2), (3, .invokestatic 241, 3), (6, .lstore 7, 2), (8, .lload_n 2, 1), (9, .lload 7, 2), (11, .ldiv, 1), (12, .lstore 9, 2), (14, .lload 4, 2), (16, .lload 7, 2), (18, .ldiv, 1), (19, .lstore 11, 2), (21, .aload_n 0, 1), (22, .getfield 7, 3), (25, .iload_n 1, 1), (26, .iaload, 1), (27, .i2l, 1), (28, .sipush 1000, 3), (31, .aload_n 0, 1), (32, .iconst 0, 1), (33, .iload 6, 2), (35, .invokevirtual 325, 3), (38, .iadd, 1), (39, .i2l, 1)] : List (Nat × Instr × Nat)).all (fun q => decide (decode cX12_findLawful q.1 = .ok (q.2.1, q.2.2))) = true := by decide +kernel
theorem dX12_findLawful_0 : decode cX12_findLawful 0 = .ok (.lload_n 2, 1) := all_at dvX12_findLawful_0 0 rfl
theorem dX12_findLawful_1 : decode cX12_findLawful 1 = .ok (.lload 4, 2) := all_at dvX12_findLawful_0 1 rfl
theorem dX12_findLawful_3 : decode cX12_findLawful 3 = .ok (.invokestatic 241, 3) := all_at dvX12_findLawful_0 2 rfl
theorem dX12_findLawful_6 : decode cX12_findLawful 6 = .ok (.lstore 7, 2) := all_at dvX12_findLawful_0 3 rfl
theorem dX12_findLawful_8 : decode cX12_findLawful 8 = .ok (.lload_n 2, 1) := all_at dvX12_findLawful_0 4 rfl
theorem dX12_findLawful_9 : decode cX12_findLawful 9 = .ok (.lload 7, 2) := all_at dvX12_findLawful_0 5 rfl
theorem dX12_findLawful_11 : decode cX12_findLawful 11 = .ok (.ldiv, 1) := all_at dvX12_findLawful_0 6 rfl
theorem dX12_findLawful_12 : decode cX12_findLawful 12 = .ok (.lstore 9, 2) := all_at dvX12_findLawful_0 7 rfl
theorem dX12_findLawful_14 : decode cX12_findLawful 14 = .ok (.lload 4, 2) := all_at dvX12_findLawful_0 8 rfl
theorem dX12_findLawful_16 : decode cX12_findLawful 16 = .ok (.lload 7, 2) := all_at dvX12_findLawful_0 9 rfl
theorem dX12_findLawful_18 : decode cX12_findLawful 18 = .ok (.ldiv, 1) := all_at dvX12_findLawful_0 10 rfl
theorem dX12_findLawful_19 : decode cX12_findLawful 19 = .ok (.lstore 11, 2) := all_at dvX12_findLawful_0 11 rfl
theorem dX12_findLawful_21 : decode cX12_findLawful 21 = .ok (.aload_n 0, 1) := all_at dvX12_findLawful_0 12 rfl
theorem dX12_findLawful_22 : decode cX12_findLawful 22 = .ok (.getfield 7, 3) := all_at dvX12_findLawful_0 13 rfl
theorem dX12_findLawful_25 : decode cX12_findLawful 25 = .ok (.iload_n 1, 1) := all_at dvX12_findLawful_0 14 rfl
theorem dX12_findLawful_26 : decode cX12_findLawful 26 = .ok (.iaload, 1) := all_at dvX12_findLawful_0 15 rfl
theorem dX12_findLawful_27 : decode cX12_findLawful 27 = .ok (.i2l, 1) := all_at dvX12_findLawful_0 16 rfl
theorem dX12_findLawful_28 : decode cX12_findLawful 28 = .ok (.sipush 1000, 3) := all_at dvX12_findLawful_0 17 rfl
theorem dX12_findLawful_31 : decode cX12_findLawful 31 = .ok (.aload_n 0, 1) := all_at dvX12_findLawful_0 18 rfl
theorem dX12_findLawful_32 : decode cX12_findLawful 32 = .ok (.iconst 0, 1) := all_at dvX12_findLawful_0 19 rfl
theorem dX12_findLawful_33 : decode cX12_findLawful 33 = .ok (.iload 6, 2) := all_at dvX12_findLawful_0 20 rfl
theorem dX12_findLawful_35 : decode cX12_findLawful 35 = .ok (.invokevirtual 325, 3) := all_at dvX12_findLawful_0 21 rfl
theorem dX12_findLawful_38 : decode cX12_findLawful 38 = .ok (.iadd, 1) := all_at dvX12_findLawful_0 22 rfl
theorem dX12_findLawful_39 : decode cX12_findLawful 39 = .ok (.i2l, 1) := all_at dvX12_findLawful_0 23 rfl
set_option maxRecDepth 100000 in
theorem dvX12_findLawful_40 : ([(40, .lmul, 1), (41, .lstore 13, 2), (43, .lload 13, 2), (45, .lload 11, 2), (47, .invokestatic 241, 3), (50, .lstore 15, 2), (52, .lload 13, 2), (54, .lload 15, 2), (56, .ldiv, 1), (57, .lstore 13, 2), (59, .lload 11, 2), (61, .lload 15, 2), (63, .ldiv, 1), (64, .lstore 11, 2), (66, .lload 9, 2), (68, .ldc2_w 245, 3), (71, .invokestatic 241, 3), (74, .lstore 17, 2), (76, .lload 9, 2), (78, .lload 17, 2), (80, .ldiv, 1), (81, .lstore 9, 2), (83, .ldc2_w 245, 3), (86, .lload 17, 2)] : List (Nat × Instr × Nat)).all (fun q => decide (decode cX12_findLawful q.1 = .ok (q.2.1, q.2.2))) = true := by decide +kernel
theorem dX12_findLawful_40 : decode cX12_findLawful 40 = .ok (.lmul, 1) := all_at dvX12_findLawful_40 0 rfl
theorem dX12_findLawful_41 : decode cX12_findLawful 41 = .ok (.lstore 13, 2) := all_at dvX12_findLawful_40 1 rfl
theorem dX12_findLawful_43 : decode cX12_findLawful 43 = .ok (.lload 13, 2) := all_at dvX12_findLawful_40 2 rfl
theorem dX12_findLawful_45 : decode cX12_findLawful 45 = .ok (.lload 11, 2) := all_at dvX12_findLawful_40 3 rfl
theorem dX12_findLawful_47 : decode cX12_findLawful 47 = .ok (.invokestatic 241, 3) := all_at dvX12_findLawful_40 4 rfl
theorem dX12_findLawful_50 : decode cX12_findLawful 50 = .ok (.lstore 15, 2) := all_at dvX12_findLawful_40 5 rfl
theorem dX12_findLawful_52 : decode cX12_findLawful 52 = .ok (.lload 13, 2) := all_at dvX12_findLawful_40 6 rfl
theorem dX12_findLawful_54 : decode cX12_findLawful 54 = .ok (.lload 15, 2) := all_at dvX12_findLawful_40 7 rfl
theorem dX12_findLawful_56 : decode cX12_findLawful 56 = .ok (.ldiv, 1) := all_at dvX12_findLawful_40 8 rfl
theorem dX12_findLawful_57 : decode cX12_findLawful 57 = .ok (.lstore 13, 2) := all_at dvX12_findLawful_40 9 rfl
theorem dX12_findLawful_59 : decode cX12_findLawful 59 = .ok (.lload 11, 2) := all_at dvX12_findLawful_40 10 rfl
theorem dX12_findLawful_61 : decode cX12_findLawful 61 = .ok (.lload 15, 2) := all_at dvX12_findLawful_40 11 rfl
theorem dX12_findLawful_63 : decode cX12_findLawful 63 = .ok (.ldiv, 1) := all_at dvX12_findLawful_40 12 rfl
theorem dX12_findLawful_64 : decode cX12_findLawful 64 = .ok (.lstore 11, 2) := all_at dvX12_findLawful_40 13 rfl
theorem dX12_findLawful_66 : decode cX12_findLawful 66 = .ok (.lload 9, 2) := all_at dvX12_findLawful_40 14 rfl
theorem dX12_findLawful_68 : decode cX12_findLawful 68 = .ok (.ldc2_w 245, 3) := all_at dvX12_findLawful_40 15 rfl
theorem dX12_findLawful_71 : decode cX12_findLawful 71 = .ok (.invokestatic 241, 3) := all_at dvX12_findLawful_40 16 rfl
theorem dX12_findLawful_74 : decode cX12_findLawful 74 = .ok (.lstore 17, 2) := all_at dvX12_findLawful_40 17 rfl
theorem dX12_findLawful_76 : decode cX12_findLawful 76 = .ok (.lload 9, 2) := all_at dvX12_findLawful_40 18 rfl
theorem dX12_findLawful_78 : decode cX12_findLawful 78 = .ok (.lload 17, 2) := all_at dvX12_findLawful_40 19 rfl
theorem dX12_findLawful_80 : decode cX12_findLawful 80 = .ok (.ldiv, 1) := all_at dvX12_findLawful_40 20 rfl
theorem dX12_findLawful_81 : decode cX12_findLawful 81 = .ok (.lstore 9, 2) := all_at dvX12_findLawful_40 21 rfl
theorem dX12_findLawful_83 : decode cX12_findLawful 83 = .ok (.ldc2_w 245, 3) := all_at dvX12_findLawful_40 22 rfl
theorem dX12_findLawful_86 : decode cX12_findLawful 86 = .ok (.lload 17, 2) := all_at dvX12_findLawful_40 23 rfl
set_option maxRecDepth 100000 in
theorem dvX12_findLawful_88 : ([(88, .ldiv, 1), (89, .lstore 19, 2), (91, .lload 13, 2), (93, .lload 19, 2), (95, .invokestatic 241, 3), (98, .lstore 21, 2), (100, .lload 13, 2), (102, .lload 21, 2), (104, .ldiv, 1), (105, .lstore 13, 2), (107, .lload 19, 2), (109, .lload 21, 2), (111, .ldiv, 1), (112, .lstore 19, 2), (114, .aload_n 0, 1), (115, .lload 9, 2), (117, .lload 13, 2), (119, .lmul, 1), (120, .putfield 356, 3), (123, .aload_n 0, 1), (124, .lload 11, 2), (126, .lload 19, 2), (128, .lmul, 1), (129, .putfield 359, 3)] : List (Nat × Instr × Nat)).all (fun q => decide (decode cX12_findLawful q.1 = .ok (q.2.1, q.2.2))) = true := by decide +kernel
theorem dX12_findLawful_88 : decode cX12_findLawful 88 = .ok (.ldiv, 1) := all_at dvX12_findLawful_88 0 rfl
theorem dX12_findLawful_89 : decode cX12_findLawful 89 = .ok (.lstore 19, 2) := all_at dvX12_findLawful_88 1 rfl
theorem dX12_findLawful_91 : decode cX12_findLawful 91 = .ok (.lload 13, 2) := all_at dvX12_findLawful_88 2 rfl
theorem dX12_findLawful_93 : decode cX12_findLawful 93 = .ok (.lload 19, 2) := all_at dvX12_findLawful_88 3 rfl
theorem dX12_findLawful_95 : decode cX12_findLawful 95 = .ok (.invokestatic 241, 3) := all_at dvX12_findLawful_88 4 rfl
theorem dX12_findLawful_98 : decode cX12_findLawful 98 = .ok (.lstore 21, 2) := all_at dvX12_findLawful_88 5 rfl
theorem dX12_findLawful_100 : decode cX12_findLawful 100 = .ok (.lload 13, 2) := all_at dvX12_findLawful_88 6 rfl
theorem dX12_findLawful_102 : decode cX12_findLawful 102 = .ok (.lload 21, 2) := all_at dvX12_findLawful_88 7 rfl
theorem dX12_findLawful_104 : decode cX12_findLawful 104 = .ok (.ldiv, 1) := all_at dvX12_findLawful_88 8 rfl
theorem dX12_findLawful_105 : decode cX12_findLawful 105 = .ok (.lstore 13, 2) := all_at dvX12_findLawful_88 9 rfl
theorem dX12_findLawful_107 : decode cX12_findLawful 107 = .ok (.lload 19, 2) := all_at dvX12_findLawful_88 10 rfl
theorem dX12_findLawful_109 : decode cX12_findLawful 109 = .ok (.lload 21, 2) := all_at dvX12_findLawful_88 11 rfl
theorem dX12_findLawful_111 : decode cX12_findLawful 111 = .ok (.ldiv, 1) := all_at dvX12_findLawful_88 12 rfl
theorem dX12_findLawful_112 : decode cX12_findLawful 112 = .ok (.lstore 19, 2) := all_at dvX12_findLawful_88 13 rfl
theorem dX12_findLawful_114 : decode cX12_findLawful 114 = .ok (.aload_n 0, 1) := all_at dvX12_findLawful_88 14 rfl
theorem dX12_findLawful_115 : decode cX12_findLawful 115 = .ok (.lload 9, 2) := all_at dvX12_findLawful_88 15 rfl
theorem dX12_findLawful_117 : decode cX12_findLawful 117 = .ok (.lload 13, 2) := all_at dvX12_findLawful_88 16 rfl
theorem dX12_findLawful_119 : decode cX12_findLawful 119 = .ok (.lmul, 1) := all_at dvX12_findLawful_88 17 rfl
theorem dX12_findLawful_120 : decode cX12_findLawful 120 = .ok (.putfield 356, 3) := all_at dvX12_findLawful_88 18 rfl
theorem dX12_findLawful_123 : decode cX12_findLawful 123 = .ok (.aload_n 0, 1) := all_at dvX12_findLawful_88 19 rfl
theorem dX12_findLawful_124 : decode cX12_findLawful 124 = .ok (.lload 11, 2) := all_at dvX12_findLawful_88 20 rfl
theorem dX12_findLawful_126 : decode cX12_findLawful 126 = .ok (.lload 19, 2) := all_at dvX12_findLawful_88 21 rfl
theorem dX12_findLawful_128 : decode cX12_findLawful 128 = .ok (.lmul, 1) := all_at dvX12_findLawful_88 22 rfl
theorem dX12_findLawful_129 : decode cX12_findLawful 129 = .ok (.putfield 359, 3) := all_at dvX12_findLawful_88 23 rfl
theorem dX12_findLawful_132 : decode cX12_findLawful 132 = .ok (.return_, 1) := by decide +kernel
/-- what a common divisor is good for -/
def gok (r b : Int) : Prop := r ≠ 0 ∧ r.natAbs ≤ b.natAbs
theorem l_dq {a b c : Int64} {B : Int} (h : c = a / b) (hg : gok b.toInt a.toInt) (ha : a.toInt ≠ 0) (h1 : -B ≤ a.toInt) (h2 : a.toInt ≤ B) : c.toInt ≠ 0 ∧ -B ≤ c.toInt ∧ c.toInt ≤ B := by
  have q := l_div h rfl rfl hg.1
  have q1 := q.1
  have q2 := q.2 ha hg.2
  exact ⟨q2, by omega, by omega⟩
theorem l_mulq {a b c : Int64} (h : c = a * b) (h1 : a.toInt ≠ 0) (h2 : b.toInt ≠ 0) (h3 : -1000000000000 ≤ a.toInt ∧ a.toInt ≤ 1000000000000) (h4 : -1000 ≤ b.toInt ∧ b.toInt ≤ 1000) : c.toInt ≠ 0 := l_mulnz h h1 h2 (by omega) (by omega)
set_option maxHeartbeats 4000000 in
set_option maxRecDepth 100000 in
/-- X12_gcd -/
theorem c_X12_gcd_q (l : Launch) (dC : Nat → ClassId) (dI : Nat → Nat → Nat) (a : Int64) (b : Int64) (p_0 : b.toInt ≠ 0) : Met l yX12_gcd (wc yX12_gcd cX12_gcd 10 (some .long)) ({ frames := 1, cells := 0, slots := 0, locals := 21 } : Room) (pR (dC, dI) classes [] [] [.long a, .long b]) (vp_Sl (fun r => (True) ∧ (r.toInt ≠ 0) ∧ (gok r.toInt b.toInt))) 0 0 (fun _ => False) := by
  refine Met.ofW (cc := cX12_gcd) (maxL := 10) (ret := (some .long)) (by decide) rfl ?_
  intro p e s m args below meth c s₁ B hml hv
  obtain ⟨rfl, hP, hK⟩ := hv
  have hx := B.exec
  have hb := B.bytes
  have hr := B.returns
  have ht := tb_tl (atoms_spec (ws := wc yX12_gcd cX12_gcd 10 (some .long)) B.pre)
  have hown : s.vm.findClass RX12 = some m.cls := findClass_of_methodNamed B.named
  have hlocks := B.notSynchronized
  have hl := lv_entry [.long a, .long b] (n := 10) (Nat.le_of_ble_eq_true rfl)
  rw [lg_entry_eq]
  generalize (lg_sl [.long a, .long b] ++ List.replicate (10 - (lg_sl [.long a, .long b]).length) Slot.unset).toArray = ls at hl ⊢
  have hl : lv_has ls 10 [(0, .long a), (2, .long b)] := hl
  refine lv_lload_n hx hb dX12_gcd_0 rfl (lv_at hl 0 rfl) ?_
  refine vp_callSl (W.runS (As := [.long a]) (rest := []) ⟨hx, hb, hml, hown, ht⟩ (c_X12_plain_x l dC dI a) (kS 1 ht m_1445 m_1446 m_89 m_1447 rfl rfl hd_X12_plain_v ⟨Nat.le_of_ble_eq_true rfl, Nat.le_of_ble_eq_true rfl⟩) (sR noP (hK.sub (tys' := []) [] rfl)) rfl rfl hl.1 rfl (lv_room (Nat.le_of_ble_eq_true rfl)) dX12_gcd_1 ⟨Nat.le_of_ble_eq_true rfl, Nat.le_of_ble_eq_true rfl⟩) (fun r1 hr1 => ?_)
  obtain ⟨hr1, xr1_0⟩ := hr1
  have xr1_0 : ((r1 : Int64).toInt).natAbs = ((a : Int64).toInt).natAbs := xr1_0
  refine lv_lstore (lv' := [(4, .long r1), (0, .long a), (2, .long b)]) hx hb dX12_gcd_4 hl (by decide) rfl (fun ls hl => ?_)
  refine lv_lload_n hx hb dX12_gcd_6 rfl (lv_at hl 2 rfl) ?_
  refine vp_callSl (W.runS (As := [.long b]) (rest := []) ⟨hx, hb, hml, hown, ht⟩ (c_X12_plain_x l dC dI b) (kS 1 ht m_1445 m_1446 m_89 m_1447 rfl rfl hd_X12_plain_v ⟨Nat.le_of_ble_eq_true rfl, Nat.le_of_ble_eq_true rfl⟩) (sR noP (hK.sub (tys' := []) [] rfl)) rfl rfl hl.1 rfl (lv_room (Nat.le_of_ble_eq_true rfl)) dX12_gcd_7 ⟨Nat.le_of_ble_eq_true rfl, Nat.le_of_ble_eq_true rfl⟩) (fun r2 hr2 => ?_)
  obtain ⟨hr2, xr2_0⟩ := hr2
  have xr2_0 : ((r2 : Int64).toInt).natAbs = ((b : Int64).toInt).natAbs := xr2_0
  refine lv_lstore (lv' := [(6, .long r2), (4, .long r1), (0, .long a), (2, .long b)]) hx hb dX12_gcd_10 hl (by decide) rfl (fun ls hl => ?_)
  have lp8 : ∀ (nn8 : Nat) (x7_6 : Int64) (x7_4 : Int64), ((x7_6 : Int64).toInt).natAbs ≤ ((b).toInt).natAbs → ((x7_6 : Int64).toInt ≠ 0 ∨ ((x7_4 : Int64).toInt ≠ 0 ∧ ((x7_4 : Int64).toInt).natAbs ≤ ((b).toInt).natAbs)) → (((x7_6 : Int64).toInt).natAbs : Int) < (nn8 : Int) → ∀ (ls : Array Slot), lv_has ls 10 [(6, .long x7_6), (4, .long x7_4), (0, .long a), (2, .long b)] → W p l e ({ frames := 1, cells := 0, slots := 0, locals := 21 } : Room) s m ([.long a, .long b] : List Value).toArray below meth c s.heap [] 0 0 (MQ below (vp_Sl (fun r => (True) ∧ (r.toInt ≠ 0) ∧ (gok r.toInt b.toInt))) ([.long a, .long b] : List Value).toArray s 0 0 (fun _ => False)) (F0 m 12 ls []) := by
    intro nn8
    induction nn8 with
    | zero => intro x7_6 x7_4 hq8_0 hq8_1 hm8; exfalso; omega
    | succ nn8 ih8 =>
      intro x7_6 x7_4 hq8_0 hq8_1 hm8 ls hl
      refine lv_lload hx hb dX12_gcd_12 (lv_at hl 0 rfl) ?_
      refine lv_lconst (v := 0) hx hb dX12_gcd_14 (by decide) ?_
      refine W.lcmp hx hb dX12_gcd_15 ?_
      refine lv_topi (fun v9 ev9 => ?_)
      refine lv_if_eq (tgt := 37) hx hb dX12_gcd_16 (by decide) (fun c10 => ?_) (fun c10 => ?_)
      · have fc10 := zc_eq ev9 (rfl : (x7_6).toInt = _) (by decide : (0 : Int64).toInt = 0) c10
        refine lv_lload hx hb dX12_gcd_37 (lv_at hl 1 rfl) ?_
        exact W.lret (v := x7_4) hx hb hr (fun t ht9 hW => ⟨x7_4, rfl, ⟨trivial, (show (x7_4 : Int64).toInt ≠ 0 from by omega), (show gok (x7_4 : Int64).toInt (b).toInt from ⟨by omega, by omega⟩)⟩, ht9⟩) (fun q hq => by cases hq) dX12_gcd_39
      · have fc10 := zc_ne ev9 (rfl : (x7_6).toInt = _) (by decide : (0 : Int64).toInt = 0) c10
        refine lv_lload hx hb dX12_gcd_19 (lv_at hl 1 rfl) ?_
        refine lv_lload hx hb dX12_gcd_21 (lv_at hl 0 rfl) ?_
        have zw11 : (x7_6 : Int64).toInt ≠ 0 := by omega
        refine lv_lrem hx hb dX12_gcd_23 (l_nz rfl zw11) ?_
        refine lv_topl (fun w11 ew11 => ?_)
        have tw11 := l_rem ew11 (rfl : (x7_4 : Int64).toInt = _) (rfl : (x7_6 : Int64).toInt = _) zw11
        refine lv_lstore (lv' := [(8, .long w11), (6, .long x7_6), (4, .long x7_4), (0, .long a), (2, .long b)]) hx hb dX12_gcd_24 hl (by decide) rfl (fun ls hl => ?_)
        refine lv_lload hx hb dX12_gcd_26 (lv_at hl 1 rfl) ?_
        refine lv_lstore (lv' := [(4, .long x7_6), (8, .long w11), (6, .long x7_6), (0, .long a), (2, .long b)]) hx hb dX12_gcd_28 hl (by decide) rfl (fun ls hl => ?_)
        refine lv_lload hx hb dX12_gcd_30 (lv_at hl 1 rfl) ?_
        refine lv_lstore (lv' := [(6, .long w11), (4, .long x7_6), (8, .long w11), (0, .long a), (2, .long b)]) hx hb dX12_gcd_32 hl (by decide) rfl (fun ls hl => ?_)
        refine lv_goto (tgt := 12) hx hb dX12_gcd_34 (by decide) ?_
        exact ih8 w11 x7_6 (show ((w11 : Int64).toInt).natAbs ≤ ((b).toInt).natAbs from by omega) (show ((w11 : Int64).toInt ≠ 0 ∨ ((x7_6 : Int64).toInt ≠ 0 ∧ ((x7_6 : Int64).toInt).natAbs ≤ ((b).toInt).natAbs)) from by omega) (by omega) ls (lv_sub hl [0, 1, 3, 4] rfl)
  exact lp8 ((r2 : Int64).toInt.natAbs + 1) r2 r1 (show ((r2 : Int64).toInt).natAbs ≤ ((b).toInt).natAbs from by omega) (show ((r2 : Int64).toInt ≠ 0 ∨ ((r1 : Int64).toInt ≠ 0 ∧ ((r1 : Int64).toInt).natAbs ≤ ((b).toInt).natAbs)) from by omega) (show (((r2 : Int64).toInt).natAbs : Int) < _ from by omega) ls (lv_sub hl [0, 1, 2, 3] rfl)
set_option maxHeartbeats 4000000 in
set_option maxRecDepth 100000 in
/-- X12_findLawful -/
theorem c_X12_findLawful (l : Launch) (dC : Nat → ClassId) (dI : Nat → Nat → Nat) (sz : Nat) (h : Nat) (g : Nat → Nat → Nat) (ca : Nat → Nat → ClassId) (iv : Nat → Nat → Int32) (lv : Nat → Nat → Int64) (fa : Nat → Nat → Nat → Int32) (la : Nat → Nat → Nat → Int64) (hI : IX iv fa) (a : Int32) (b : Int64) (d : Int64) (k : Int32) (h_a : 0 ≤ a.toInt ∧ a.toInt ≤ 9) (p_0 : d.toInt ≠ 0) (p_1 : -1000000000000 ≤ d.toInt) (p_2 : d.toInt ≤ 1000000000000) (hJC : JCf (iv 12 23).toInt (fa 12 25) (fa 12 26) (fa 12 27) (fa 12 28)) : Met l yX12_findLawful (wc yX12_findLawful cX12_findLawful 23 none) ({ frames := 2, cells := 0, slots := 0, locals := 50 } : Room) (pW (dC, dI) classes (WM h g ca iv lv fa la) (TM ca) sz [.ref h, .int a, .long b, .long d, .int k]) (va_Qv (fun (u : SS) => ∃ (na_12_39 : Nat → Int32) (na_12_40 : Nat → Int32) (ni_12_41 : Int32) (nl_12_46 : Int64) (nl_12_47 : Int64), (∀ j, inb (bA 12 39 j) (na_12_39 j)) ∧ (∀ j, inb (bA 12 40 j) (na_12_40 j)) ∧ inb (bI 12 41) ni_12_41 ∧ ((nl_12_47).toInt ≠ 0) ∧ u = ((u2 iv 12 41 ni_12_41), (u2 (u2 lv 12 46 nl_12_46) 12 47 nl_12_47), (u2 (u2 fa 12 39 na_12_39) 12 40 na_12_40), la)) (bM (dC, dI) h g ca (va_A (WM h g ca iv lv fa la) sz)) (va_A (WM h g ca iv lv fa la) sz)) 0 0 (va_A (WM h g ca iv lv fa la) sz) := by
  refine Met.ofW (cc := cX12_findLawful) (maxL := 23) (ret := none) (by decide) rfl ?_
  intro p e s m args below meth c s₁ B hml hv
  obtain ⟨rfl, hsz, hP, hK, hD0⟩ := hv
  have hx := B.exec
  have hb := B.bytes
  have hr := B.returns
  have ht := tb_tl (atoms_spec (ws := wc yX12_findLawful cX12_findLawful 23 none) B.pre)
  have hown : s.vm.findClass RX12 = some m.cls := findClass_of_methodNamed B.named
  have hlocks := B.notSynchronized
  subst hsz
  have hD := hD0.self (sz := s.heap.size)
  generalize hAe : va_A (WM h g ca iv lv fa la) s.heap.size = A at hD ⊢
  have hA : ∀ q : Nat, s.heap.size ≤ q → A q := fun q h => by rw [← hAe]; exact Or.inr h
  have hS : va_S A s.heap s.heap [] := va_S.rf
  have hl := lv_entry [.ref h, .int a, .long b, .long d, .int k] (n := 23) (Nat.le_of_ble_eq_true rfl)
  rw [lg_entry_eq]
  generalize (lg_sl [.ref h, .int a, .long b, .long d, .int k] ++ List.replicate (23 - (lg_sl [.ref h, .int a, .long b, .long d, .int k]).length) Slot.unset).toArray = ls at hl ⊢
  have hl : lv_has ls 23 [(0, .ref h), (1, .int a), (2, .long b), (4, .long d), (6, .int k)] := hl
  refine lv_lload_n hx hb dX12_findLawful_0 rfl (lv_at hl 2 rfl) ?_
  refine lv_lload hx hb dX12_findLawful_1 (lv_at hl 3 rfl) ?_
  refine vp_callSl (W.runS (As := [.long b, .long d]) (rest := []) ⟨hx, hb, hml, hown, ht⟩ (c_X12_gcd_q l dC dI b d (show (d : Int64).toInt ≠ 0 from by omega)) (kS 2 ht m_1442 m_1443 m_89 m_1444 rfl rfl hd_X12_gcd_v ⟨Nat.le_of_ble_eq_true rfl, Nat.le_of_ble_eq_true rfl⟩) (sR noP (hK.sub (tys' := []) [] rfl)) rfl rfl hl.1 rfl (lv_room (Nat.le_of_ble_eq_true rfl)) dX12_findLawful_3 ⟨Nat.le_of_ble_eq_true rfl, Nat.le_of_ble_eq_true rfl⟩) (fun r1 hr1 => ?_)
  obtain ⟨hr1, xr1_0, xr1_1⟩ := hr1
  have xr1_0 : (r1 : Int64).toInt ≠ 0 := xr1_0
  have xr1_1 : gok (r1 : Int64).toInt (d : Int64).toInt := xr1_1
  refine lv_lstore (lv' := [(7, .long r1), (0, .ref h), (1, .int a), (2, .long b), (4, .long d), (6, .int k)]) hx hb dX12_findLawful_6 hl (by decide) rfl (fun ls hl => ?_)
  refine lv_lload_n hx hb dX12_findLawful_8 rfl (lv_at hl 3 rfl) ?_
  refine lv_lload hx hb dX12_findLawful_9 (lv_at hl 0 rfl) ?_
  have zw2 : (r1 : Int64).toInt ≠ 0 := by omega
  refine lv_ldiv hx hb dX12_findLawful_11 (l_nz rfl zw2) ?_
  refine lv_topl (fun w2 ew2 => ?_)
  refine lv_lstore (lv' := [(9, .long w2), (7, .long r1), (0, .ref h), (1, .int a), (2, .long b), (4, .long d), (6, .int k)]) hx hb dX12_findLawful_12 hl (by decide) rfl (fun ls hl => ?_)
  refine lv_lload hx hb dX12_findLawful_14 (lv_at hl 5 rfl) ?_
  refine lv_lload hx hb dX12_findLawful_16 (lv_at hl 1 rfl) ?_
  have zw3 : (r1 : Int64).toInt ≠ 0 := by omega
  refine lv_ldiv hx hb dX12_findLawful_18 (l_nz rfl zw3) ?_
  refine lv_topl (fun w3 ew3 => ?_)
  have qw3 := l_dq (a := d) (B := 1000000000000) ew3 xr1_1 (by omega) (by omega) (by omega)
  obtain ⟨qw31, qw32, qw33⟩ := qw3
  refine lv_lstore (lv' := [(11, .long w3), (9, .long w2), (7, .long r1), (0, .ref h), (1, .int a), (2, .long b), (4, .long d), (6, .int k)]) hx hb dX12_findLawful_19 hl (by decide) rfl (fun ls hl => ?_)
  refine lv_aload_n hx hb dX12_findLawful_21 rfl (lv_at hl 3 rfl) ?_
  refine gM_12_2 hx hb ht hown hK hP m_1141 dX12_findLawful_22 ?_
  refine lv_iload_n hx hb dX12_findLawful_25 rfl (lv_at hl 4 rfl) ?_
  refine lM_12_2 hx hb hK hP (f := (fa 12 2)) rfl (vp_in_iff.mpr ⟨by omega, by omega⟩) dX12_findLawful_26 ?_
  refine lv_topi (fun v4 ev4 => ?_)
  refine lv_i2l (v := (v4.toInt64)) hx hb dX12_findLawful_27 rfl ?_
  refine lv_sipush (v := 1000) hx hb dX12_findLawful_28 (by decide) ?_
  refine lv_aload_n hx hb dX12_findLawful_31 rfl (lv_at hl 3 rfl) ?_
  refine lv_iconst (v := 0) hx hb dX12_findLawful_32 (by decide) ?_
  refine lv_iload hx hb dX12_findLawful_33 (lv_at hl 7 rfl) ?_
  have hFc := free_all hD hS hA
  refine va_calli (va_runV (As := [.int 0, .int k]) (rest := [.int 1000, .long (v4.toInt64)]) ⟨hx, hb, hml, hown, ht⟩ (c_X12_forceOf l dC dI s.heap.size h g ca iv lv fa la hI 0 k ⟨by decide, by decide⟩ hJC) (kV 2 ht m_1509 m_1511 m_55 m_89 m_1512 rfl rfl hd_X12_forceOf_v ⟨Nat.le_of_ble_eq_true rfl, Nat.le_of_ble_eq_true rfl⟩) (vW hP hK hD (rM_12 hK hP)) rfl rfl hl.1 rfl (lv_room (Nat.le_of_ble_eq_true rfl)) dX12_findLawful_35 ⟨Nat.le_of_ble_eq_true rfl, Nat.le_of_ble_eq_true rfl⟩) hS (fun q _ h => hFc q h) hFc (fun r5 u t H1 locs ht9 hvm hr5 hB hz1 hk1 hS => ?_)
  obtain ⟨n6, n7, n8, hn6, hn7, hn8, hr5, rfl⟩ := hr5
  have hn8 : 0 ≤ n8.toInt ∧ n8.toInt ≤ 8 := hn8
  obtain ⟨hP, hD⟩ := hB
  rw [ht9] at hP
  generalize H1 = H at hP hS ⊢
  have hP : va_P (dC, dI) classes (WM h g ca (u2 iv 12 41 n8) lv (u2 (u2 fa 12 39 n6) 12 40 n7) la) H := hP
  have hD : va_D A (WM h g ca (u2 iv 12 41 n8) lv (u2 (u2 fa 12 39 n6) 12 40 n7) la) := (show va_D _ (WM h g ca (u2 iv 12 41 n8) lv (u2 (u2 fa 12 39 n6) 12 40 n7) la) from hD).weaken (fun _ _ _ h => hFc _ h)
  refine lv_iadd hx hb dX12_findLawful_38 ?_
  refine lv_topi (fun v9 ev9 => ?_)
  refine lv_i2l (v := (v9.toInt64)) hx hb dX12_findLawful_39 rfl ?_
  refine lv_lmul hx hb dX12_findLawful_40 ?_
  refine lv_topl (fun w10 ew10 => ?_)
  refine lv_lstore (lv' := [(13, .long w10), (11, .long w3), (9, .long w2), (7, .long r1), (0, .ref h), (1, .int a), (2, .long b), (4, .long d), (6, .int k)]) hx hb dX12_findLawful_41 hl (by decide) rfl (fun ls hl => ?_)
  refine lv_lload hx hb dX12_findLawful_43 (lv_at hl 0 rfl) ?_
  refine lv_lload hx hb dX12_findLawful_45 (lv_at hl 1 rfl) ?_
  refine vp_callSl (W.runS (As := [.long w10, .long w3]) (rest := []) ⟨hx, hb, hml, hown, ht⟩ (c_X12_gcd_q l dC dI w10 w3 (show (w3 : Int64).toInt ≠ 0 from by omega)) (kS 2 ht m_1442 m_1443 m_89 m_1444 rfl rfl hd_X12_gcd_v ⟨Nat.le_of_ble_eq_true rfl, Nat.le_of_ble_eq_true rfl⟩) (sR noP (hK.sub (tys' := []) [] rfl)) rfl rfl hl.1 rfl (lv_room (Nat.le_of_ble_eq_true rfl)) dX12_findLawful_47 ⟨Nat.le_of_ble_eq_true rfl, Nat.le_of_ble_eq_true rfl⟩) (fun r11 hr11 => ?_)
  obtain ⟨hr11, xr11_0, xr11_1⟩ := hr11
  have xr11_0 : (r11 : Int64).toInt ≠ 0 := xr11_0
  have xr11_1 : gok (r11 : Int64).toInt (w3 : Int64).toInt := xr11_1
  refine lv_lstore (lv' := [(15, .long r11), (13, .long w10), (11, .long w3), (9, .long w2), (7, .long r1), (0, .ref h), (1, .int a), (2, .long b), (4, .long d), (6, .int k)]) hx hb dX12_findLawful_50 hl (by decide) rfl (fun ls hl => ?_)
  refine lv_lload hx hb dX12_findLawful_52 (lv_at hl 1 rfl) ?_
  refine lv_lload hx hb dX12_findLawful_54 (lv_at hl 0 rfl) ?_
  have zw12 : (r11 : Int64).toInt ≠ 0 := by omega
  refine lv_ldiv hx hb dX12_findLawful_56 (l_nz rfl zw12) ?_
  refine lv_topl (fun w12 ew12 => ?_)
  refine lv_lstore (lv' := [(13, .long w12), (15, .long r11), (11, .long w3), (9, .long w2), (7, .long r1), (0, .ref h), (1, .int a), (2, .long b), (4, .long d), (6, .int k)]) hx hb dX12_findLawful_57 hl (by decide) rfl (fun ls hl => ?_)
  refine lv_lload hx hb dX12_findLawful_59 (lv_at hl 2 rfl) ?_
  refine lv_lload hx hb dX12_findLawful_61 (lv_at hl 1 rfl) ?_
  have zw13 : (r11 : Int64).toInt ≠ 0 := by omega
  refine lv_ldiv hx hb dX12_findLawful_63 (l_nz rfl zw13) ?_
  refine lv_topl (fun w13 ew13 => ?_)
  have qw13 := l_dq (a := w3) (B := 1000000000000) ew13 xr11_1 (by omega) (by omega) (by omega)
  obtain ⟨qw131, qw132, qw133⟩ := qw13
  refine lv_lstore (lv' := [(11, .long w13), (13, .long w12), (15, .long r11), (9, .long w2), (7, .long r1), (0, .ref h), (1, .int a), (2, .long b), (4, .long d), (6, .int k)]) hx hb dX12_findLawful_64 hl (by decide) rfl (fun ls hl => ?_)
  refine lv_lload hx hb dX12_findLawful_66 (lv_at hl 3 rfl) ?_
  refine lv_ldc2 hx hb hown (ht _ m_1543) dX12_findLawful_68 ?_
  have : (1000 : Int64).toInt = 1000 := (by decide)
  refine vp_callSl (W.runS (As := [.long w2, .long 1000]) (rest := []) ⟨hx, hb, hml, hown, ht⟩ (c_X12_gcd_q l dC dI w2 1000 (show (1000 : Int64).toInt ≠ 0 from by omega)) (kS 2 ht m_1442 m_1443 m_89 m_1444 rfl rfl hd_X12_gcd_v ⟨Nat.le_of_ble_eq_true rfl, Nat.le_of_ble_eq_true rfl⟩) (sR noP (hK.sub (tys' := []) [] rfl)) rfl rfl hl.1 rfl (lv_room (Nat.le_of_ble_eq_true rfl)) dX12_findLawful_71 ⟨Nat.le_of_ble_eq_true rfl, Nat.le_of_ble_eq_true rfl⟩) (fun r14 hr14 => ?_)
  obtain ⟨hr14, xr14_0, xr14_1⟩ := hr14
  have xr14_0 : (r14 : Int64).toInt ≠ 0 := xr14_0
  have xr14_1 : gok (r14 : Int64).toInt (1000 : Int64).toInt := xr14_1
  refine lv_lstore (lv' := [(17, .long r14), (11, .long w13), (13, .long w12), (15, .long r11), (9, .long w2), (7, .long r1), (0, .ref h), (1, .int a), (2, .long b), (4, .long d), (6, .int k)]) hx hb dX12_findLawful_74 hl (by decide) rfl (fun ls hl => ?_)
  refine lv_lload hx hb dX12_findLawful_76 (lv_at hl 4 rfl) ?_
  refine lv_lload hx hb dX12_findLawful_78 (lv_at hl 0 rfl) ?_
  have zw15 : (r14 : Int64).toInt ≠ 0 := by omega
  refine lv_ldiv hx hb dX12_findLawful_80 (l_nz rfl zw15) ?_
  refine lv_topl (fun w15 ew15 => ?_)
  refine lv_lstore (lv' := [(9, .long w15), (17, .long r14), (11, .long w13), (13, .long w12), (15, .long r11), (7, .long r1), (0, .ref h), (1, .int a), (2, .long b), (4, .long d), (6, .int k)]) hx hb dX12_findLawful_81 hl (by decide) rfl (fun ls hl => ?_)
  refine lv_ldc2 hx hb hown (ht _ m_1543) dX12_findLawful_83 ?_
  refine lv_lload hx hb dX12_findLawful_86 (lv_at hl 1 rfl) ?_
  have zw16 : (r14 : Int64).toInt ≠ 0 := by omega
  refine lv_ldiv hx hb dX12_findLawful_88 (l_nz rfl zw16) ?_
  refine lv_topl (fun w16 ew16 => ?_)
  have qw16 := l_dq (a := 1000) (B := 1000) ew16 xr14_1 (by decide) (by decide) (by decide)
  obtain ⟨qw161, qw162, qw163⟩ := qw16
  refine lv_lstore (lv' := [(19, .long w16), (9, .long w15), (17, .long r14), (11, .long w13), (13, .long w12), (15, .long r11), (7, .long r1), (0, .ref h), (1, .int a), (2, .long b), (4, .long d), (6, .int k)]) hx hb dX12_findLawful_89 hl (by decide) rfl (fun ls hl => ?_)
  refine lv_lload hx hb dX12_findLawful_91 (lv_at hl 4 rfl) ?_
  refine lv_lload hx hb dX12_findLawful_93 (lv_at hl 0 rfl) ?_
  refine vp_callSl (W.runS (As := [.long w12, .long w16]) (rest := []) ⟨hx, hb, hml, hown, ht⟩ (c_X12_gcd_q l dC dI w12 w16 (show (w16 : Int64).toInt ≠ 0 from by omega)) (kS 2 ht m_1442 m_1443 m_89 m_1444 rfl rfl hd_X12_gcd_v ⟨Nat.le_of_ble_eq_true rfl, Nat.le_of_ble_eq_true rfl⟩) (sR noP (hK.sub (tys' := []) [] rfl)) rfl rfl hl.1 rfl (lv_room (Nat.le_of_ble_eq_true rfl)) dX12_findLawful_95 ⟨Nat.le_of_ble_eq_true rfl, Nat.le_of_ble_eq_true rfl⟩) (fun r17 hr17 => ?_)
  obtain ⟨hr17, xr17_0, xr17_1⟩ := hr17
  have xr17_0 : (r17 : Int64).toInt ≠ 0 := xr17_0
  have xr17_1 : gok (r17 : Int64).toInt (w16 : Int64).toInt := xr17_1
  refine lv_lstore (lv' := [(21, .long r17), (19, .long w16), (9, .long w15), (17, .long r14), (11, .long w13), (13, .long w12), (15, .long r11), (7, .long r1), (0, .ref h), (1, .int a), (2, .long b), (4, .long d), (6, .int k)]) hx hb dX12_findLawful_98 hl (by decide) rfl (fun ls hl => ?_)
  refine lv_lload hx hb dX12_findLawful_100 (lv_at hl 5 rfl) ?_
  refine lv_lload hx hb dX12_findLawful_102 (lv_at hl 0 rfl) ?_
  have zw18 : (r17 : Int64).toInt ≠ 0 := by omega
  refine lv_ldiv hx hb dX12_findLawful_104 (l_nz rfl zw18) ?_
  refine lv_topl (fun w18 ew18 => ?_)
  refine lv_lstore (lv' := [(13, .long w18), (21, .long r17), (19, .long w16), (9, .long w15), (17, .long r14), (11, .long w13), (15, .long r11), (7, .long r1), (0, .ref h), (1, .int a), (2, .long b), (4, .long d), (6, .int k)]) hx hb dX12_findLawful_105 hl (by decide) rfl (fun ls hl => ?_)
  refine lv_lload hx hb dX12_findLawful_107 (lv_at hl 2 rfl) ?_
  refine lv_lload hx hb dX12_findLawful_109 (lv_at hl 1 rfl) ?_
  have zw19 : (r17 : Int64).toInt ≠ 0 := by omega
  refine lv_ldiv hx hb dX12_findLawful_111 (l_nz rfl zw19) ?_
  refine lv_topl (fun w19 ew19 => ?_)
  have qw19 := l_dq (a := w16) (B := 1000) ew19 xr17_1 (by omega) (by omega) (by omega)
  obtain ⟨qw191, qw192, qw193⟩ := qw19
  refine lv_lstore (lv' := [(19, .long w19), (13, .long w18), (21, .long r17), (9, .long w15), (17, .long r14), (11, .long w13), (15, .long r11), (7, .long r1), (0, .ref h), (1, .int a), (2, .long b), (4, .long d), (6, .int k)]) hx hb dX12_findLawful_112 hl (by decide) rfl (fun ls hl => ?_)
  refine lv_aload_n hx hb dX12_findLawful_114 rfl (lv_at hl 8 rfl) ?_
  refine lv_lload hx hb dX12_findLawful_115 (lv_at hl 3 rfl) ?_
  refine lv_lload hx hb dX12_findLawful_117 (lv_at hl 1 rfl) ?_
  refine lv_lmul hx hb dX12_findLawful_119 ?_
  refine lv_topl (fun w20 ew20 => ?_)
  refine pM_12_46 (v := w20) hx hb ht hown hK hP hD hS m_1185 dX12_findLawful_120 (fun H locs hP hD hS => ?_)
  refine lv_aload_n hx hb dX12_findLawful_123 rfl (lv_at hl 8 rfl) ?_
  refine lv_lload hx hb dX12_findLawful_124 (lv_at hl 5 rfl) ?_
  refine lv_lload hx hb dX12_findLawful_126 (lv_at hl 0 rfl) ?_
  refine lv_lmul hx hb dX12_findLawful_128 ?_
  refine lv_topl (fun w21 ew21 => ?_)
  have : (w21 : Int64).toInt ≠ 0 := l_mulq ew21 (by omega) (by omega) ⟨by omega, by omega⟩ ⟨by omega, by omega⟩
  refine pM_12_47 (v := w21) hx hb ht hown hK hP hD hS m_1186 dX12_findLawful_129 (fun H locs hP hD hS => ?_)
  have hP9 : va_P (dC, dI) classes (WM h g ca (u2 iv 12 41 n8) (u2 (u2 lv 12 46 w20) 12 47 w21) (u2 (u2 fa 12 39 n6) 12 40 n7) la) H := hP
  have hD9 : va_D A (WM h g ca (u2 iv 12 41 n8) (u2 (u2 lv 12 46 w20) 12 47 w21) (u2 (u2 fa 12 39 n6) 12 40 n7) la) := hD
  exact W.vret hx hb hr (fun t ht9 hW => ⟨⟨((u2 iv 12 41 n8), (u2 (u2 lv 12 46 w20) 12 47 w21), (u2 (u2 fa 12 39 n6) 12 40 n7), la), rfl, ⟨n6, n7, n8, w20, w21, hn6, hn7, (show inb (0, 8) n8 from ⟨by omega, by omega⟩), (show (w21 : Int64).toInt ≠ 0 from by omega), rfl⟩, by rw [ht9]; exact hP9, hD9⟩, hS.F ht9⟩) hS.2.2 dX12_findLawful_132
