/-! ===== n10 ===== -/
theorem m_1571 : Cond.methodLink RX12 372 yX12_held ∈ tb := mb_7_2 _ (List.mem_of_getElem? (i := 0) rfl)
theorem m_1572 : Cond.static yX12_held ∈ tb := mb_7_2 _ (List.mem_of_getElem? (i := 1) rfl)
theorem m_1573 : Cond.code yX12_held cX12_held 1 (some .int) ∈ tb := mb_7_2 _ (List.mem_of_getElem? (i := 2) rfl)
theorem hd_X12_held_v : yX12_held.cls = RX12 ∧ yX12_held.cls ≠ "java/lang/invoke/MethodHandle" ∧ yX12_held.cls ≠ "java/lang/invoke/VarHandle" ∧ (parseMethodDescriptor yX12_held.desc).map (fun d => d.parameters.length) = some 1 := by decide +kernel
set_option maxRecDepth 100000 in
theorem dvX12_span_0 : ([(0, .aload_n 0, 1), (1, .iload_n 1, 1), (2, .invokevirtual 183, 3), (5, .ifCond .eq 7, 3), (8, .ldc2_w 362, 3), (11, .lreturn, 1), (12, .iload_n 2, 1), (13, .i2l, 1), (14, .lconst 0, 1), (15, .ldc2_w 190, 3), (18, .invokestatic 167, 3), (21, .ifCond .ne 7, 3), (24, .ldc2_w 364, 3), (27, .lreturn, 1), (28, .aload_n 0, 1), (29, .iload_n 1, 1), (30, .iconst 0, 1), (31, .aload_n 0, 1), (32, .getfield 171, 3), (35, .invokevirtual 237, 3), (38, .ifCond .ne 7, 3), (41, .ldc2_w 366, 3), (44, .lreturn, 1), (45, .lconst 0, 1)] : List (Nat × Instr × Nat)).all (fun q => decide (decode cX12_span q.1 = .ok (q.2.1, q.2.2))) = true := by decide +kernel
theorem dX12_span_0 : decode cX12_span 0 = .ok (.aload_n 0, 1) := all_at dvX12_span_0 0 rfl
theorem dX12_span_1 : decode cX12_span 1 = .ok (.iload_n 1, 1) := all_at dvX12_span_0 1 rfl
theorem dX12_span_2 : decode cX12_span 2 = .ok (.invokevirtual 183, 3) := all_at dvX12_span_0 2 rfl
theorem dX12_span_5 : decode cX12_span 5 = .ok (.ifCond .eq 7, 3) := all_at dvX12_span_0 3 rfl
theorem dX12_span_8 : decode cX12_span 8 = .ok (.ldc2_w 362, 3) := all_at dvX12_span_0 4 rfl
theorem dX12_span_11 : decode cX12_span 11 = .ok (.lreturn, 1) := all_at dvX12_span_0 5 rfl
theorem dX12_span_12 : decode cX12_span 12 = .ok (.iload_n 2, 1) := all_at dvX12_span_0 6 rfl
theorem dX12_span_13 : decode cX12_span 13 = .ok (.i2l, 1) := all_at dvX12_span_0 7 rfl
theorem dX12_span_14 : decode cX12_span 14 = .ok (.lconst 0, 1) := all_at dvX12_span_0 8 rfl
theorem dX12_span_15 : decode cX12_span 15 = .ok (.ldc2_w 190, 3) := all_at dvX12_span_0 9 rfl
theorem dX12_span_18 : decode cX12_span 18 = .ok (.invokestatic 167, 3) := all_at dvX12_span_0 10 rfl
theorem dX12_span_21 : decode cX12_span 21 = .ok (.ifCond .ne 7, 3) := all_at dvX12_span_0 11 rfl
theorem dX12_span_24 : decode cX12_span 24 = .ok (.ldc2_w 364, 3) := all_at dvX12_span_0 12 rfl
theorem dX12_span_27 : decode cX12_span 27 = .ok (.lreturn, 1) := all_at dvX12_span_0 13 rfl
theorem dX12_span_28 : decode cX12_span 28 = .ok (.aload_n 0, 1) := all_at dvX12_span_0 14 rfl
theorem dX12_span_29 : decode cX12_span 29 = .ok (.iload_n 1, 1) := all_at dvX12_span_0 15 rfl
theorem dX12_span_30 : decode cX12_span 30 = .ok (.iconst 0, 1) := all_at dvX12_span_0 16 rfl
theorem dX12_span_31 : decode cX12_span 31 = .ok (.aload_n 0, 1) := all_at dvX12_span_0 17 rfl
theorem dX12_span_32 : decode cX12_span 32 = .ok (.getfield 171, 3) := all_at dvX12_span_0 18 rfl
theorem dX12_span_35 : decode cX12_span 35 = .ok (.invokevirtual 237, 3) := all_at dvX12_span_0 19 rfl
theorem dX12_span_38 : decode cX12_span 38 = .ok (.ifCond .ne 7, 3) := all_at dvX12_span_0 20 rfl
theorem dX12_span_41 : decode cX12_span 41 = .ok (.ldc2_w 366, 3) := all_at dvX12_span_0 21 rfl
theorem dX12_span_44 : decode cX12_span 44 = .ok (.lreturn, 1) := all_at dvX12_span_0 22 rfl
theorem dX12_span_45 : decode cX12_span 45 = .ok (.lconst 0, 1) := all_at dvX12_span_0 23 rfl
set_option maxRecDepth 100000 in
theorem dvX12_span_46 : ([(46, .lstore_n 3, 1), (47, .iconst 0, 1), (48, .istore 5, 2), (50, .iload 5, 2), (52, .aload_n 0, 1), (53, .getfield 200, 3), (56, .if_icmp .ge 78, 3), (59, .aload_n 0, 1), (60, .getfield 13, 3), (63, .iload 5, 2), (65, .iaload, 1), (66, .iload_n 1, 1), (67, .if_icmp .ne 61, 3), (70, .aload_n 0, 1), (71, .getfield 16, 3), (74, .iload 5, 2), (76, .iaload, 1), (77, .ifCond .ne 51, 3), (80, .aload_n 0, 1), (81, .iload 5, 2), (83, .aload_n 0, 1), (84, .getfield 171, 3), (87, .invokevirtual 233, 3), (90, .ifCond .eq 38, 3)] : List (Nat × Instr × Nat)).all (fun q => decide (decode cX12_span q.1 = .ok (q.2.1, q.2.2))) = true := by decide +kernel
theorem dX12_span_46 : decode cX12_span 46 = .ok (.lstore_n 3, 1) := all_at dvX12_span_46 0 rfl
theorem dX12_span_47 : decode cX12_span 47 = .ok (.iconst 0, 1) := all_at dvX12_span_46 1 rfl
theorem dX12_span_48 : decode cX12_span 48 = .ok (.istore 5, 2) := all_at dvX12_span_46 2 rfl
theorem dX12_span_50 : decode cX12_span 50 = .ok (.iload 5, 2) := all_at dvX12_span_46 3 rfl
theorem dX12_span_52 : decode cX12_span 52 = .ok (.aload_n 0, 1) := all_at dvX12_span_46 4 rfl
theorem dX12_span_53 : decode cX12_span 53 = .ok (.getfield 200, 3) := all_at dvX12_span_46 5 rfl
theorem dX12_span_56 : decode cX12_span 56 = .ok (.if_icmp .ge 78, 3) := all_at dvX12_span_46 6 rfl
theorem dX12_span_59 : decode cX12_span 59 = .ok (.aload_n 0, 1) := all_at dvX12_span_46 7 rfl
theorem dX12_span_60 : decode cX12_span 60 = .ok (.getfield 13, 3) := all_at dvX12_span_46 8 rfl
theorem dX12_span_63 : decode cX12_span 63 = .ok (.iload 5, 2) := all_at dvX12_span_46 9 rfl
theorem dX12_span_65 : decode cX12_span 65 = .ok (.iaload, 1) := all_at dvX12_span_46 10 rfl
theorem dX12_span_66 : decode cX12_span 66 = .ok (.iload_n 1, 1) := all_at dvX12_span_46 11 rfl
theorem dX12_span_67 : decode cX12_span 67 = .ok (.if_icmp .ne 61, 3) := all_at dvX12_span_46 12 rfl
theorem dX12_span_70 : decode cX12_span 70 = .ok (.aload_n 0, 1) := all_at dvX12_span_46 13 rfl
theorem dX12_span_71 : decode cX12_span 71 = .ok (.getfield 16, 3) := all_at dvX12_span_46 14 rfl
theorem dX12_span_74 : decode cX12_span 74 = .ok (.iload 5, 2) := all_at dvX12_span_46 15 rfl
theorem dX12_span_76 : decode cX12_span 76 = .ok (.iaload, 1) := all_at dvX12_span_46 16 rfl
theorem dX12_span_77 : decode cX12_span 77 = .ok (.ifCond .ne 51, 3) := all_at dvX12_span_46 17 rfl
theorem dX12_span_80 : decode cX12_span 80 = .ok (.aload_n 0, 1) := all_at dvX12_span_46 18 rfl
theorem dX12_span_81 : decode cX12_span 81 = .ok (.iload 5, 2) := all_at dvX12_span_46 19 rfl
theorem dX12_span_83 : decode cX12_span 83 = .ok (.aload_n 0, 1) := all_at dvX12_span_46 20 rfl
theorem dX12_span_84 : decode cX12_span 84 = .ok (.getfield 171, 3) := all_at dvX12_span_46 21 rfl
theorem dX12_span_87 : decode cX12_span 87 = .ok (.invokevirtual 233, 3) := all_at dvX12_span_46 22 rfl
theorem dX12_span_90 : decode cX12_span 90 = .ok (.ifCond .eq 38, 3) := all_at dvX12_span_46 23 rfl
set_option maxRecDepth 100000 in
theorem dvX12_span_93 : ([(93, .lload_n 3, 1), (94, .aload_n 0, 1), (95, .aload_n 0, 1), (96, .getfield 19, 3), (99, .iload 5, 2), (101, .iaload, 1), (102, .aload_n 0, 1), (103, .getfield 34, 3), (106, .iload 5, 2), (108, .iaload, 1), (109, .iload_n 2, 1), (110, .iconst 2, 1), (111, .if_icmp .ge 7, 3), (114, .iconst 1, 1), (115, .goto 4, 3), (118, .iconst 0, 1), (119, .invokevirtual 219, 3), (122, .invokestatic 372, 3), (125, .i2l, 1), (126, .ladd, 1), (127, .lstore_n 3, 1), (128, .iinc 5 1, 3), (131, .goto (-81), 3), (134, .aload_n 0, 1)] : List (Nat × Instr × Nat)).all (fun q => decide (decode cX12_span q.1 = .ok (q.2.1, q.2.2))) = true := by decide +kernel
theorem dX12_span_93 : decode cX12_span 93 = .ok (.lload_n 3, 1) := all_at dvX12_span_93 0 rfl
theorem dX12_span_94 : decode cX12_span 94 = .ok (.aload_n 0, 1) := all_at dvX12_span_93 1 rfl
theorem dX12_span_95 : decode cX12_span 95 = .ok (.aload_n 0, 1) := all_at dvX12_span_93 2 rfl
theorem dX12_span_96 : decode cX12_span 96 = .ok (.getfield 19, 3) := all_at dvX12_span_93 3 rfl
theorem dX12_span_99 : decode cX12_span 99 = .ok (.iload 5, 2) := all_at dvX12_span_93 4 rfl
theorem dX12_span_101 : decode cX12_span 101 = .ok (.iaload, 1) := all_at dvX12_span_93 5 rfl
theorem dX12_span_102 : decode cX12_span 102 = .ok (.aload_n 0, 1) := all_at dvX12_span_93 6 rfl
theorem dX12_span_103 : decode cX12_span 103 = .ok (.getfield 34, 3) := all_at dvX12_span_93 7 rfl
theorem dX12_span_106 : decode cX12_span 106 = .ok (.iload 5, 2) := all_at dvX12_span_93 8 rfl
theorem dX12_span_108 : decode cX12_span 108 = .ok (.iaload, 1) := all_at dvX12_span_93 9 rfl
theorem dX12_span_109 : decode cX12_span 109 = .ok (.iload_n 2, 1) := all_at dvX12_span_93 10 rfl
theorem dX12_span_110 : decode cX12_span 110 = .ok (.iconst 2, 1) := all_at dvX12_span_93 11 rfl
theorem dX12_span_111 : decode cX12_span 111 = .ok (.if_icmp .ge 7, 3) := all_at dvX12_span_93 12 rfl
theorem dX12_span_114 : decode cX12_span 114 = .ok (.iconst 1, 1) := all_at dvX12_span_93 13 rfl
theorem dX12_span_115 : decode cX12_span 115 = .ok (.goto 4, 3) := all_at dvX12_span_93 14 rfl
theorem dX12_span_118 : decode cX12_span 118 = .ok (.iconst 0, 1) := all_at dvX12_span_93 15 rfl
theorem dX12_span_119 : decode cX12_span 119 = .ok (.invokevirtual 219, 3) := all_at dvX12_span_93 16 rfl
theorem dX12_span_122 : decode cX12_span 122 = .ok (.invokestatic 372, 3) := all_at dvX12_span_93 17 rfl
theorem dX12_span_125 : decode cX12_span 125 = .ok (.i2l, 1) := all_at dvX12_span_93 18 rfl
theorem dX12_span_126 : decode cX12_span 126 = .ok (.ladd, 1) := all_at dvX12_span_93 19 rfl
theorem dX12_span_127 : decode cX12_span 127 = .ok (.lstore_n 3, 1) := all_at dvX12_span_93 20 rfl
theorem dX12_span_128 : decode cX12_span 128 = .ok (.iinc 5 1, 3) := all_at dvX12_span_93 21 rfl
theorem dX12_span_131 : decode cX12_span 131 = .ok (.goto (-81), 3) := all_at dvX12_span_93 22 rfl
theorem dX12_span_134 : decode cX12_span 134 = .ok (.aload_n 0, 1) := all_at dvX12_span_93 23 rfl
set_option maxRecDepth 100000 in
theorem dvX12_span_135 : ([(135, .iload_n 1, 1), (136, .aload_n 0, 1), (137, .getfield 223, 3), (140, .lload_n 3, 1), (141, .lsub, 1), (142, .aload_n 0, 1), (143, .getfield 227, 3), (146, .lload_n 3, 1), (147, .lsub, 1), (148, .aload_n 0, 1), (149, .getfield 171, 3), (152, .invokevirtual 368, 3), (155, .iload_n 2, 1), (156, .iconst 2, 1), (157, .irem, 1), (158, .ifCond .ne 10, 3), (161, .aload_n 0, 1), (162, .getfield 356, 3), (165, .goto 7, 3), (168, .aload_n 0, 1), (169, .getfield 359, 3), (172, .lreturn, 1)] : List (Nat × Instr × Nat)).all (fun q => decide (decode cX12_span q.1 = .ok (q.2.1, q.2.2))) = true := by decide +kernel
theorem dX12_span_135 : decode cX12_span 135 = .ok (.iload_n 1, 1) := all_at dvX12_span_135 0 rfl
theorem dX12_span_136 : decode cX12_span 136 = .ok (.aload_n 0, 1) := all_at dvX12_span_135 1 rfl
theorem dX12_span_137 : decode cX12_span 137 = .ok (.getfield 223, 3) := all_at dvX12_span_135 2 rfl
theorem dX12_span_140 : decode cX12_span 140 = .ok (.lload_n 3, 1) := all_at dvX12_span_135 3 rfl
theorem dX12_span_141 : decode cX12_span 141 = .ok (.lsub, 1) := all_at dvX12_span_135 4 rfl
theorem dX12_span_142 : decode cX12_span 142 = .ok (.aload_n 0, 1) := all_at dvX12_span_135 5 rfl
theorem dX12_span_143 : decode cX12_span 143 = .ok (.getfield 227, 3) := all_at dvX12_span_135 6 rfl
theorem dX12_span_146 : decode cX12_span 146 = .ok (.lload_n 3, 1) := all_at dvX12_span_135 7 rfl
theorem dX12_span_147 : decode cX12_span 147 = .ok (.lsub, 1) := all_at dvX12_span_135 8 rfl
theorem dX12_span_148 : decode cX12_span 148 = .ok (.aload_n 0, 1) := all_at dvX12_span_135 9 rfl
theorem dX12_span_149 : decode cX12_span 149 = .ok (.getfield 171, 3) := all_at dvX12_span_135 10 rfl
theorem dX12_span_152 : decode cX12_span 152 = .ok (.invokevirtual 368, 3) := all_at dvX12_span_135 11 rfl
theorem dX12_span_155 : decode cX12_span 155 = .ok (.iload_n 2, 1) := all_at dvX12_span_135 12 rfl
theorem dX12_span_156 : decode cX12_span 156 = .ok (.iconst 2, 1) := all_at dvX12_span_135 13 rfl
theorem dX12_span_157 : decode cX12_span 157 = .ok (.irem, 1) := all_at dvX12_span_135 14 rfl
theorem dX12_span_158 : decode cX12_span 158 = .ok (.ifCond .ne 10, 3) := all_at dvX12_span_135 15 rfl
theorem dX12_span_161 : decode cX12_span 161 = .ok (.aload_n 0, 1) := all_at dvX12_span_135 16 rfl
theorem dX12_span_162 : decode cX12_span 162 = .ok (.getfield 356, 3) := all_at dvX12_span_135 17 rfl
theorem dX12_span_165 : decode cX12_span 165 = .ok (.goto 7, 3) := all_at dvX12_span_135 18 rfl
theorem dX12_span_168 : decode cX12_span 168 = .ok (.aload_n 0, 1) := all_at dvX12_span_135 19 rfl
theorem dX12_span_169 : decode cX12_span 169 = .ok (.getfield 359, 3) := all_at dvX12_span_135 20 rfl
theorem dX12_span_172 : decode cX12_span 172 = .ok (.lreturn, 1) := all_at dvX12_span_135 21 rfl
set_option maxHeartbeats 4000000 in
set_option maxRecDepth 100000 in
/-- X12_held -/
theorem c_X12_held_x (l : Launch) (dC : Nat → ClassId) (dI : Nat → Nat → Nat) (a : Int32) : Met l yX12_held (wc yX12_held cX12_held 1 (some .int)) ({ frames := 0, cells := 0, slots := 0, locals := 0 } : Room) (pR (dC, dI) classes [] [] [.int a]) (vp_Si (fun r => (-40) ≤ r.toInt ∧ r.toInt ≤ 40)) 0 0 (fun _ => False) := by
  refine Met.ofW (cc := cX12_held) (maxL := 1) (ret := (some .int)) (by decide) rfl ?_
  intro p e s m args below meth c s₁ B hml hv
  obtain ⟨rfl, hP, hK⟩ := hv
  have hx := B.exec
  have hb := B.bytes
  have hr := B.returns
  have ht := tb_tl (atoms_spec (ws := wc yX12_held cX12_held 1 (some .int)) B.pre)
  have hown : s.vm.findClass RX12 = some m.cls := findClass_of_methodNamed B.named
  have hlocks := B.notSynchronized
  have hl := lv_entry [.int a] (n := 1) (Nat.le_of_ble_eq_true rfl)
  rw [lg_entry_eq]
  generalize (lg_sl [.int a] ++ List.replicate (1 - (lg_sl [.int a]).length) Slot.unset).toArray = ls at hl ⊢
  have hl : lv_has ls 1 [(0, .int a)] := hl
  refine lv_iload_n hx hb dX12_held_0 rfl (lv_at hl 0 rfl) ?_
  refine lv_bipush (v := 40) hx hb dX12_held_1 (by decide) ?_
  refine lv_icmp_le (tgt := 11) hx hb dX12_held_3 (by decide) (fun c1 => ?_) (fun c1 => ?_)
  · have fc1 := z_le (rfl : (a).toInt = _) (by decide : (40 : Int32).toInt = 40) c1
    refine lv_iload_n hx hb dX12_held_11 rfl (lv_at hl 0 rfl) ?_
    refine lv_bipush (v := (-40)) hx hb dX12_held_12 (by decide) ?_
    refine lv_icmp_ge (tgt := 22) hx hb dX12_held_14 (by decide) (fun c2 => ?_) (fun c2 => ?_)
    · have fc2 := z_le (by decide : ((-40) : Int32).toInt = (-40)) (rfl : (a).toInt = _) c2
      refine lv_iload_n hx hb dX12_held_22 rfl (lv_at hl 0 rfl) ?_
      exact W.iret (v := a) hx hb hr (fun t ht9 hW => ⟨a, rfl, ⟨by omega, by omega⟩, ht9⟩) (fun q hq => by cases hq) dX12_held_23
    · have fc2 := z_nle (by decide : ((-40) : Int32).toInt = (-40)) (rfl : (a).toInt = _) c2
      refine lv_bipush (v := (-40)) hx hb dX12_held_17 (by decide) ?_
      refine lv_goto (tgt := 23) hx hb dX12_held_19 (by decide) ?_
      exact W.iret (v := (-40)) hx hb hr (fun t ht9 hW => ⟨(-40), rfl, ⟨by decide, by decide⟩, ht9⟩) (fun q hq => by cases hq) dX12_held_23
  · have fc1 := z_nle (rfl : (a).toInt = _) (by decide : (40 : Int32).toInt = 40) c1
    refine lv_bipush (v := 40) hx hb dX12_held_6 (by decide) ?_
    refine lv_goto (tgt := 23) hx hb dX12_held_8 (by decide) ?_
    exact W.iret (v := 40) hx hb hr (fun t ht9 hW => ⟨40, rfl, ⟨by decide, by decide⟩, ht9⟩) (fun q hq => by cases hq) dX12_held_23
set_option maxHeartbeats 4000000 in
set_option maxRecDepth 100000 in
/-- X12_span -/
theorem c_X12_span (l : Launch) (dC : Nat → ClassId) (dI : Nat → Nat → Nat) (sz : Nat) (h : Nat) (g : Nat → Nat → Nat) (ca : Nat → Nat → ClassId) (iv : Nat → Nat → Int32) (lv : Nat → Nat → Int64) (fa : Nat → Nat → Nat → Int32) (la : Nat → Nat → Nat → Int64) (hI : IX iv fa) (a : Int32) (b : Int32) (hJC : JCf (iv 12 23).toInt (fa 12 25) (fa 12 26) (fa 12 27) (fa 12 28)) (hJR : JRf (iv 12 3).toInt (fa 12 7)) (hJO : (iv 12 20).toInt = -1 ∧ (iv 12 21).toInt = -1 ∧ (iv 12 22).toInt = -1) : Met l yX12_span (wc yX12_span cX12_span 6 (some .long)) ({ frames := 3, cells := 0, slots := 0, locals := 92 } : Room) (pW (dC, dI) classes (WM h g ca iv lv fa la) (TM ca) sz [.ref h, .int a, .int b]) (va_Ql (fun r (u : SS) => ∃ (na_12_39 : Nat → Int32) (na_12_40 : Nat → Int32) (ni_12_19 : Int32) (ni_12_41 : Int32) (nl_12_17 : Int64) (nl_12_18 : Int64) (nl_12_46 : Int64) (nl_12_47 : Int64), (∀ j, inb (bA 12 39 j) (na_12_39 j)) ∧ (∀ j, inb (bA 12 40 j) (na_12_40 j)) ∧ inb (bI 12 41) ni_12_41 ∧ (True) ∧ u = ((u2 (u2 iv 12 19 ni_12_19) 12 41 ni_12_41), (u2 (u2 (u2 (u2 lv 12 17 nl_12_17) 12 18 nl_12_18) 12 46 nl_12_46) 12 47 nl_12_47), (u2 (u2 fa 12 39 na_12_39) 12 40 na_12_40), la)) (bM (dC, dI) h g ca (va_A (WM h g ca iv lv fa la) sz)) (va_A (WM h g ca iv lv fa la) sz)) 0 0 (va_A (WM h g ca iv lv fa la) sz) := by
  refine Met.ofW (cc := cX12_span) (maxL := 6) (ret := (some .long)) (by decide) rfl ?_
  intro p e s m args below meth c s₁ B hml hv
  obtain ⟨rfl, hsz, hP, hK, hD0⟩ := hv
  have hx := B.exec
  have hb := B.bytes
  have hr := B.returns
  have ht := tb_tl (atoms_spec (ws := wc yX12_span cX12_span 6 (some .long)) B.pre)
  have hown : s.vm.findClass RX12 = some m.cls := findClass_of_methodNamed B.named
  have hlocks := B.notSynchronized
  subst hsz
  have hD := hD0.self (sz := s.heap.size)
  generalize hAe : va_A (WM h g ca iv lv fa la) s.heap.size = A at hD ⊢
  have hA : ∀ q : Nat, s.heap.size ≤ q → A q := fun q h => by rw [← hAe]; exact Or.inr h
  have hS : va_S A s.heap s.heap [] := va_S.rf
  have hl := lv_entry [.ref h, .int a, .int b] (n := 6) (Nat.le_of_ble_eq_true rfl)
  rw [lg_entry_eq]
  generalize (lg_sl [.ref h, .int a, .int b] ++ List.replicate (6 - (lg_sl [.ref h, .int a, .int b]).length) Slot.unset).toArray = ls at hl ⊢
  have hl : lv_has ls 6 [(0, .ref h), (1, .int a), (2, .int b)] := hl
  refine lv_aload_n hx hb dX12_span_0 rfl (lv_at hl 0 rfl) ?_
  refine lv_iload_n hx hb dX12_span_1 rfl (lv_at hl 1 rfl) ?_
  refine vp_callSi (W.runV (As := [.int a]) (rest := []) ⟨hx, hb, hml, hown, ht⟩ (c_X12_noBale l dC dI h g ca iv lv fa la hI a) (kV 1 ht m_1385 m_1387 m_42 m_89 m_1388 rfl rfl hd_X12_noBale_v ⟨Nat.le_of_ble_eq_true rfl, Nat.le_of_ble_eq_true rfl⟩) (vR hP hK (rM_12 hK hP)) rfl rfl hl.1 rfl (lv_room (Nat.le_of_ble_eq_true rfl)) dX12_span_2 ⟨Nat.le_of_ble_eq_true rfl, Nat.le_of_ble_eq_true rfl⟩) (fun r1 hr1 => ?_)
  rcases hr1 with ⟨rfl, fr1⟩ | ⟨rfl, fr1⟩
  · skip
    have i_12_1 : 0 ≤ (iv 12 1).toInt ∧ (iv 12 1).toInt ≤ 10 := hI.1 12 1
    have fr1 : ¬ (0 ≤ (a : Int32).toInt ∧ (a : Int32).toInt < ((iv 12 1) : Int32).toInt) := fr1
    refine lv_if_eq (tgt := 12) hx hb dX12_span_5 (by decide) (fun c2 => ?_) (fun c2 => ?_)
    · exact absurd c2 (by decide)
    · skip
      refine lv_ldc2 hx hb hown (ht _ m_1560) dX12_span_8 ?_
      have hP9 : va_P (dC, dI) classes (WM h g ca (u2 (u2 iv 12 19 (iv 12 19)) 12 41 (iv 12 41)) (u2 (u2 (u2 (u2 lv 12 17 (lv 12 17)) 12 18 (lv 12 18)) 12 46 (lv 12 46)) 12 47 (lv 12 47)) (u2 (u2 fa 12 39 (fa 12 39)) 12 40 (fa 12 40)) la) s.heap := hP
      have hD9 : va_D A (WM h g ca (u2 (u2 iv 12 19 (iv 12 19)) 12 41 (iv 12 41)) (u2 (u2 (u2 (u2 lv 12 17 (lv 12 17)) 12 18 (lv 12 18)) 12 46 (lv 12 46)) 12 47 (lv 12 47)) (u2 (u2 fa 12 39 (fa 12 39)) 12 40 (fa 12 40)) la) := hD
      exact W.lret (v := (-100001)) hx hb hr (fun t ht9 hW => ⟨⟨(-100001), ((u2 (u2 iv 12 19 (iv 12 19)) 12 41 (iv 12 41)), (u2 (u2 (u2 (u2 lv 12 17 (lv 12 17)) 12 18 (lv 12 18)) 12 46 (lv 12 46)) 12 47 (lv 12 47)), (u2 (u2 fa 12 39 (fa 12 39)) 12 40 (fa 12 40)), la), rfl, ⟨(fa 12 39), (fa 12 40), (iv 12 19), (iv 12 41), (lv 12 17), (lv 12 18), (lv 12 46), (lv 12 47), (hI.2 12 39), (hI.2 12 40), (hI.1 12 41), trivial, rfl⟩, by rw [ht9]; exact hP9, hD9⟩, hS.F ht9⟩) hS.2.2 dX12_span_11
  · skip
    have i_12_1 : 0 ≤ (iv 12 1).toInt ∧ (iv 12 1).toInt ≤ 10 := hI.1 12 1
    have fr1 : (0 ≤ (a : Int32).toInt ∧ (a : Int32).toInt < ((iv 12 1) : Int32).toInt) := Decidable.not_not.mp fr1
    refine lv_if_eq (tgt := 12) hx hb dX12_span_5 (by decide) (fun c3 => ?_) (fun c3 => ?_)
    · skip
      refine lv_iload_n hx hb dX12_span_12 rfl (lv_at hl 2 rfl) ?_
      refine lv_i2l (v := (b.toInt64)) hx hb dX12_span_13 rfl ?_
      refine lv_lconst (v := 0) hx hb dX12_span_14 (by decide) ?_
      refine lv_ldc2 hx hb hown (ht _ m_1391) dX12_span_15 ?_
      refine vp_callSi (W.runS (As := [.long (b.toInt64), .long 0, .long 3]) (rest := []) ⟨hx, hb, hml, hown, ht⟩ (c_X12_in l dC dI (b.toInt64) 0 3 (b.toInt) (0) (3) ((Int32.toInt_toInt64 b).trans rfl) (by decide : (0 : Int64).toInt = 0) (by decide : (3 : Int64).toInt = 3)) (kS 3 ht m_1370 m_1371 m_89 m_1372 rfl rfl hd_X12_in_v ⟨Nat.le_of_ble_eq_true rfl, Nat.le_of_ble_eq_true rfl⟩) (sR noP (hK.sub (tys' := []) [] rfl)) rfl rfl hl.1 rfl (lv_room (Nat.le_of_ble_eq_true rfl)) dX12_span_18 ⟨Nat.le_of_ble_eq_true rfl, Nat.le_of_ble_eq_true rfl⟩) (fun r4 hr4 => ?_)
      rcases hr4 with ⟨rfl, fr4⟩ | ⟨rfl, fr4⟩
      · skip
        refine lv_if_ne (tgt := 28) hx hb dX12_span_21 (by decide) (fun c5 => ?_) (fun c5 => ?_)
        · skip
          have : (-1) ≤ ((iv 12 20) : Int32).toInt ∧ ((iv 12 20) : Int32).toInt ≤ (-1) := ⟨by omega, by omega⟩
          have : (-1) ≤ ((iv 12 21) : Int32).toInt ∧ ((iv 12 21) : Int32).toInt ≤ (-1) := ⟨by omega, by omega⟩
          have : (-1) ≤ ((iv 12 22) : Int32).toInt ∧ ((iv 12 22) : Int32).toInt ≤ (-1) := ⟨by omega, by omega⟩
          refine lv_aload_n hx hb dX12_span_28 rfl (lv_at hl 0 rfl) ?_
          refine lv_iload_n hx hb dX12_span_29 rfl (lv_at hl 1 rfl) ?_
          refine lv_iconst (v := 0) hx hb dX12_span_30 (by decide) ?_
          refine lv_aload_n hx hb dX12_span_31 rfl (lv_at hl 0 rfl) ?_
          have i_12_0 : 0 ≤ (iv 12 0).toInt ∧ (iv 12 0).toInt ≤ 3000 := hI.1 12 0
          refine gM_12_0 hx hb ht hown hK hP m_1139 (v := (iv 12 0)) rfl dX12_span_32 ?_
          have hFc := free_all hD hS hA
          refine va_calli (va_runV (As := [.int a, .int 0, .int (iv 12 0)]) (rest := []) ⟨hx, hb, hml, hown, ht⟩ (c_X12_sumUp_c l dC dI s.heap.size h g ca iv lv fa la hI a 0 (iv 12 0) (show (-1) ≤ ((iv 12 20) : Int32).toInt ∧ ((iv 12 20) : Int32).toInt ≤ (-1) from ⟨by omega, by omega⟩) (show (-1) ≤ ((iv 12 21) : Int32).toInt ∧ ((iv 12 21) : Int32).toInt ≤ (-1) from ⟨by omega, by omega⟩) (show (-1) ≤ ((iv 12 22) : Int32).toInt ∧ ((iv 12 22) : Int32).toInt ≤ (-1) from ⟨by omega, by omega⟩) hJR) (kV 3 ht m_1434 m_1436 m_45 m_89 m_1437 rfl rfl hd_X12_sumUp_v ⟨Nat.le_of_ble_eq_true rfl, Nat.le_of_ble_eq_true rfl⟩) (vW hP hK hD (rM_12 hK hP)) rfl rfl hl.1 rfl (lv_room (Nat.le_of_ble_eq_true rfl)) dX12_span_35 ⟨Nat.le_of_ble_eq_true rfl, Nat.le_of_ble_eq_true rfl⟩) hS (fun q _ h => hFc q h) hFc (fun r6 u t H1 locs ht9 hvm hr6 hB hz1 hk1 hS => ?_)
          obtain ⟨n7, n8, n9, xr6_0, xr6_1, xr6_2, xr6_3, xr6_4, xr6_5, hr6, rfl⟩ := hr6
          obtain ⟨hP, hD⟩ := hB
          rw [ht9] at hP
          generalize H1 = H at hP hS ⊢
          have hP : va_P (dC, dI) classes (WM h g ca (u2 iv 12 19 n7) (u2 (u2 lv 12 17 n8) 12 18 n9) fa la) H := hP
          have hD : va_D A (WM h g ca (u2 iv 12 19 n7) (u2 (u2 lv 12 17 n8) 12 18 n9) fa la) := (show va_D _ (WM h g ca (u2 iv 12 19 n7) (u2 (u2 lv 12 17 n8) 12 18 n9) fa la) from hD).weaken (fun _ _ _ h => hFc _ h)
          have xr6_0 : 0 ≤ (r6 : Int32).toInt := xr6_0
          have xr6_1 : (r6 : Int32).toInt ≤ 60 := xr6_1
          have xr6_2 : 0 ≤ (n9 : Int64).toInt := xr6_2
          have xr6_3 : (n9 : Int64).toInt ≤ 599940 := xr6_3
          have xr6_4 : 100 * (r6 : Int32).toInt ≤ (n9 : Int64).toInt := xr6_4
          have i_12_3 : 0 ≤ (iv 12 3).toInt ∧ (iv 12 3).toInt ≤ 60 := hI.1 12 3
          have xr6_5 : 100 * ((cn1 (fa 12 4) (fa 12 5) (fa 12 11) (fa 12 12) (a : Int32) (0 : Int32) ((iv 12 0) : Int32) (((iv 12 3) : Int32).toInt).toNat : Nat) : Int) ≤ (n9 : Int64).toInt := xr6_5
          refine lv_if_ne (tgt := 45) hx hb dX12_span_38 (by decide) (fun c10 => ?_) (fun c10 => ?_)
          · have fc10 := z_ne (rfl : (r6).toInt = _) (by decide : (0 : Int32).toInt = 0) c10
            refine lv_lconst (v := 0) hx hb dX12_span_45 (by decide) ?_
            refine lv_lstore_n (lv' := [(3, .long 0), (0, .ref h), (1, .int a), (2, .int b)]) hx hb dX12_span_46 rfl hl (by decide) rfl (fun ls hl => ?_)
            refine lv_iconst (v := 0) hx hb dX12_span_47 (by decide) ?_
            refine lv_istore (lv' := [(5, .int 0), (3, .long 0), (0, .ref h), (1, .int a), (2, .int b)]) hx hb dX12_span_48 hl (by decide) rfl (fun ls hl => ?_)
            have lp716 : ∀ (nn716 : Nat) (x715_5 : Int32) (x715_3 : Int64), 0 ≤ x715_5.toInt ∧ x715_5.toInt ≤ 60 → ((x715_3 : Int64).toInt ≤ 40 * ((cn1 (fa 12 4) (fa 12 5) (fa 12 11) (fa 12 12) a 0 (iv 12 0) ((x715_5 : Int32).toInt).toNat : Nat) : Int)) → -40 * (x715_5 : Int32).toInt ≤ (x715_3 : Int64).toInt → (x715_3 : Int64).toInt ≤ 40 * (x715_5 : Int32).toInt → (x715_5 : Int32).toInt ≤ ((iv 12 3) : Int32).toInt → 60 - x715_5.toInt < (nn716 : Int) → ∀ (H : Heap) (locs : List Loc), ∀ (ls : Array Slot), va_P (dC, dI) classes (WM h g ca (u2 iv 12 19 n7) (u2 (u2 lv 12 17 n8) 12 18 n9) fa la) H → va_D A (WM h g ca (u2 iv 12 19 n7) (u2 (u2 lv 12 17 n8) 12 18 n9) fa la) → va_S A s.heap H locs → lv_has ls 6 [(5, .int x715_5), (3, .long x715_3), (0, .ref h), (1, .int a), (2, .int b)] → W p l e ({ frames := 3, cells := 0, slots := 0, locals := 92 } : Room) s m ([.ref h, .int a, .int b] : List Value).toArray below meth c H locs 0 0 (MQ below (va_Ql (fun r (u : SS) => ∃ (na_12_39 : Nat → Int32) (na_12_40 : Nat → Int32) (ni_12_19 : Int32) (ni_12_41 : Int32) (nl_12_17 : Int64) (nl_12_18 : Int64) (nl_12_46 : Int64) (nl_12_47 : Int64), (∀ j, inb (bA 12 39 j) (na_12_39 j)) ∧ (∀ j, inb (bA 12 40 j) (na_12_40 j)) ∧ inb (bI 12 41) ni_12_41 ∧ (True) ∧ u = ((u2 (u2 iv 12 19 ni_12_19) 12 41 ni_12_41), (u2 (u2 (u2 (u2 lv 12 17 nl_12_17) 12 18 nl_12_18) 12 46 nl_12_46) 12 47 nl_12_47), (u2 (u2 fa 12 39 na_12_39) 12 40 na_12_40), la)) (bM (dC, dI) h g ca A) A) ([.ref h, .int a, .int b] : List Value).toArray s 0 0 A) (F0 m 50 ls []) := by
              intro nn716
              induction nn716 with
              | zero => intro x715_5 x715_3 hx715_5 hq716_0 hq716_1 hq716_2 hq716_3 hm716; exfalso; omega
              | succ nn716 ih716 =>
                intro x715_5 x715_3 hx715_5 hq716_0 hq716_1 hq716_2 hq716_3 hm716 H locs ls hP hD hS hl
                refine lv_iload hx hb dX12_span_50 (lv_at hl 0 rfl) ?_
                refine lv_aload_n hx hb dX12_span_52 rfl (lv_at hl 2 rfl) ?_
                refine gM_12_3 hx hb ht hown hK hP m_1142 (v := (iv 12 3)) rfl dX12_span_53 ?_
                refine lv_icmp_ge (tgt := 134) hx hb dX12_span_56 (by decide) (fun c717 => ?_) (fun c717 => ?_)
                · have fc717 := z_le (rfl : ((iv 12 3)).toInt = _) (rfl : (x715_5).toInt = _) c717
                  have he9 : (x715_5 : Int32).toInt = (iv 12 3).toInt := by omega
                  have hq9 := hq716_0
                  rw [he9] at hq9
                  refine lv_aload_n hx hb dX12_span_134 rfl (lv_at hl 2 rfl) ?_
                  refine lv_iload_n hx hb dX12_span_135 rfl (lv_at hl 3 rfl) ?_
                  refine lv_aload_n hx hb dX12_span_136 rfl (lv_at hl 2 rfl) ?_
                  refine gM_12_17 hx hb ht hown hK hP m_1156 (v := n8) rfl dX12_span_137 ?_
                  refine lv_lload_n hx hb dX12_span_140 rfl (lv_at hl 1 rfl) ?_
                  refine lv_lsub hx hb dX12_span_141 ?_
                  refine lv_topl (fun w718 ew718 => ?_)
                  refine lv_aload_n hx hb dX12_span_142 rfl (lv_at hl 2 rfl) ?_
                  refine gM_12_18 hx hb ht hown hK hP m_1157 (v := n9) rfl dX12_span_143 ?_
                  refine lv_lload_n hx hb dX12_span_146 rfl (lv_at hl 1 rfl) ?_
                  have : (-2400) ≤ (x715_3 : Int64).toInt ∧ (x715_3 : Int64).toInt ≤ 2400 := ⟨by omega, by omega⟩
                  have : 0 ≤ (n9 : Int64).toInt ∧ (n9 : Int64).toInt ≤ 599940 := ⟨by omega, by omega⟩
                  refine lv_lsub hx hb dX12_span_147 ?_
                  refine lv_topl (fun w719 ew719 => ?_)
                  have tw719 := l_sub ew719 (rfl : (n9).toInt = _) (rfl : (x715_3).toInt = _) (by omega) (by omega)
                  refine lv_aload_n hx hb dX12_span_148 rfl (lv_at hl 2 rfl) ?_
                  refine gM_12_0 hx hb ht hown hK hP m_1139 (v := (iv 12 0)) rfl dX12_span_149 ?_
                  have hFc := free_all hD hS hA
                  refine va_callv (va_runV (As := [.int a, .long w718, .long w719, .int (iv 12 0)]) (rest := []) ⟨hx, hb, hml, hown, ht⟩ (c_X12_findLawful l dC dI H.size h g ca (u2 iv 12 19 n7) (u2 (u2 lv 12 17 n8) 12 18 n9) fa la (IX_i (c := 12) (k := 19) hI (full_i _)) a w718 w719 (iv 12 0) ⟨by omega, by omega⟩ (show (w719 : Int64).toInt ≠ 0 from by omega) (show -1000000000000 ≤ (w719 : Int64).toInt from by omega) (show (w719 : Int64).toInt ≤ 1000000000000 from by omega) hJC) (kV 4 ht m_1563 m_1565 m_63 m_89 m_1566 rfl rfl hd_X12_findLawful_v ⟨Nat.le_of_ble_eq_true rfl, Nat.le_of_ble_eq_true rfl⟩) (vW hP hK hD (rM_12 hK hP)) rfl rfl hl.1 rfl (lv_room (Nat.le_of_ble_eq_true rfl)) dX12_span_152 ⟨Nat.le_of_ble_eq_true rfl, Nat.le_of_ble_eq_true rfl⟩) hS (fun q _ h => hFc q h) hFc (fun u t H1 locs ht9 hvm hr720 hB hz1 hk1 hS => ?_)
                  obtain ⟨n721, n722, n723, n724, n725, hn721, hn722, hn723, xr720_0, rfl⟩ := hr720
                  have hn723 : 0 ≤ n723.toInt ∧ n723.toInt ≤ 8 := hn723
                  obtain ⟨hP, hD⟩ := hB
                  rw [ht9] at hP
                  generalize H1 = H at hP hS ⊢
                  have hP : va_P (dC, dI) classes (WM h g ca (u2 (u2 iv 12 19 n7) 12 41 n723) (u2 (u2 (u2 (u2 lv 12 17 n8) 12 18 n9) 12 46 n724) 12 47 n725) (u2 (u2 fa 12 39 n721) 12 40 n722) la) H := hP
                  have hD : va_D A (WM h g ca (u2 (u2 iv 12 19 n7) 12 41 n723) (u2 (u2 (u2 (u2 lv 12 17 n8) 12 18 n9) 12 46 n724) 12 47 n725) (u2 (u2 fa 12 39 n721) 12 40 n722) la) := (show va_D _ (WM h g ca (u2 (u2 iv 12 19 n7) 12 41 n723) (u2 (u2 (u2 (u2 lv 12 17 n8) 12 18 n9) 12 46 n724) 12 47 n725) (u2 (u2 fa 12 39 n721) 12 40 n722) la) from hD).weaken (fun _ _ _ h => hFc _ h)
                  have xr720_0 : (n725 : Int64).toInt ≠ 0 := xr720_0
                  refine lv_iload_n hx hb dX12_span_155 rfl (lv_at hl 4 rfl) ?_
                  refine lv_iconst (v := 2) hx hb dX12_span_156 (by decide) ?_
                  refine lv_irem hx hb dX12_span_157 (by decide) ?_
                  refine lv_topi (fun v726 ev726 => ?_)
                  have tv726 := z_remp ev726 (rfl : (b).toInt = _) (by decide : (2 : Int32).toInt = 2) (by omega) (by omega)
                  refine lv_if_ne (tgt := 168) hx hb dX12_span_158 (by decide) (fun c727 => ?_) (fun c727 => ?_)
                  · have fc727 := z_ne (rfl : (v726).toInt = _) (by decide : (0 : Int32).toInt = 0) c727
                    refine lv_aload_n hx hb dX12_span_168 rfl (lv_at hl 2 rfl) ?_
                    refine gM_12_47 hx hb ht hown hK hP m_1186 (v := n725) rfl dX12_span_169 ?_
                    have hP9 : va_P (dC, dI) classes (WM h g ca (u2 (u2 iv 12 19 n7) 12 41 n723) (u2 (u2 (u2 (u2 lv 12 17 n8) 12 18 n9) 12 46 n724) 12 47 n725) (u2 (u2 fa 12 39 n721) 12 40 n722) la) H := hP
                    have hD9 : va_D A (WM h g ca (u2 (u2 iv 12 19 n7) 12 41 n723) (u2 (u2 (u2 (u2 lv 12 17 n8) 12 18 n9) 12 46 n724) 12 47 n725) (u2 (u2 fa 12 39 n721) 12 40 n722) la) := hD
                    exact W.lret (v := n725) hx hb hr (fun t ht9 hW => ⟨⟨n725, ((u2 (u2 iv 12 19 n7) 12 41 n723), (u2 (u2 (u2 (u2 lv 12 17 n8) 12 18 n9) 12 46 n724) 12 47 n725), (u2 (u2 fa 12 39 n721) 12 40 n722), la), rfl, ⟨n721, n722, n7, n723, n8, n9, n724, n725, hn721, hn722, (show inb (0, 8) n723 from ⟨by omega, by omega⟩), trivial, rfl⟩, by rw [ht9]; exact hP9, hD9⟩, hS.F ht9⟩) hS.2.2 dX12_span_172
                  · have fc727 := z_eq (rfl : (v726).toInt = _) (by decide : (0 : Int32).toInt = 0) c727
                    refine lv_aload_n hx hb dX12_span_161 rfl (lv_at hl 2 rfl) ?_
                    refine gM_12_46 hx hb ht hown hK hP m_1185 (v := n724) rfl dX12_span_162 ?_
                    refine lv_goto (tgt := 172) hx hb dX12_span_165 (by decide) ?_
                    have hP9 : va_P (dC, dI) classes (WM h g ca (u2 (u2 iv 12 19 n7) 12 41 n723) (u2 (u2 (u2 (u2 lv 12 17 n8) 12 18 n9) 12 46 n724) 12 47 n725) (u2 (u2 fa 12 39 n721) 12 40 n722) la) H := hP
                    have hD9 : va_D A (WM h g ca (u2 (u2 iv 12 19 n7) 12 41 n723) (u2 (u2 (u2 (u2 lv 12 17 n8) 12 18 n9) 12 46 n724) 12 47 n725) (u2 (u2 fa 12 39 n721) 12 40 n722) la) := hD
                    exact W.lret (v := n724) hx hb hr (fun t ht9 hW => ⟨⟨n724, ((u2 (u2 iv 12 19 n7) 12 41 n723), (u2 (u2 (u2 (u2 lv 12 17 n8) 12 18 n9) 12 46 n724) 12 47 n725), (u2 (u2 fa 12 39 n721) 12 40 n722), la), rfl, ⟨n721, n722, n7, n723, n8, n9, n724, n725, hn721, hn722, (show inb (0, 8) n723 from ⟨by omega, by omega⟩), trivial, rfl⟩, by rw [ht9]; exact hP9, hD9⟩, hS.F ht9⟩) hS.2.2 dX12_span_172
                · have fc717 := z_nle (rfl : ((iv 12 3)).toInt = _) (rfl : (x715_5).toInt = _) c717
                  refine lv_aload_n hx hb dX12_span_59 rfl (lv_at hl 2 rfl) ?_
                  refine gM_12_4 hx hb ht hown hK hP m_1143 dX12_span_60 ?_
                  refine lv_iload hx hb dX12_span_63 (lv_at hl 0 rfl) ?_
                  refine lM_12_4 hx hb hK hP (f := (fa 12 4)) rfl (vp_in_iff.mpr ⟨by omega, by omega⟩) dX12_span_65 ?_
                  refine lv_topi (fun v728 ev728 => ?_)
                  refine lv_iload_n hx hb dX12_span_66 rfl (lv_at hl 3 rfl) ?_
                  refine lv_icmp_ne (tgt := 128) hx hb dX12_span_67 (by decide) (fun c729 => ?_) (fun c729 => ?_)
                  · have fc729 := z_ne (rfl : (v728).toInt = _) (rfl : (a).toInt = _) c729
                    obtain ⟨v730, ev730⟩ : ∃ y : Int32, y = x715_5 + 1 := ⟨_, rfl⟩
                    have tv730 := z_add ev730 rfl (by decide : (1 : Int32).toInt = 1) (by omega) (by omega)
                    refine lv_iinc (v := v730) (lv' := [(5, .int v730), (3, .long x715_3), (0, .ref h), (1, .int a), (2, .int b)]) hx hb dX12_span_128 hl (k := 0) rfl (by rw [ev730]; rfl) (by decide) rfl (fun ls hl => ?_)
                    refine lv_goto (tgt := 50) hx hb dX12_span_131 (by decide) ?_
                    exact ih716 v730 x715_3 ⟨by omega, by omega⟩ (show (x715_3 : Int64).toInt ≤ 40 * ((cn1 (fa 12 4) (fa 12 5) (fa 12 11) (fa 12 12) a 0 (iv 12 0) ((v730 : Int32).toInt).toNat : Nat) : Int) from (by have hc := (cn1_up (ob := fa 12 4) (ol := fa 12 5) (dy := fa 12 11) (lo := fa 12 12) (b := a) (l := 0) (d := (iv 12 0)) (s := x715_5) (s' := v730) (by omega) (by omega)).1; have hq9 := hq716_0; omega)) (show -40 * (v730 : Int32).toInt ≤ (x715_3 : Int64).toInt from by omega) (show (x715_3 : Int64).toInt ≤ 40 * (v730 : Int32).toInt from by omega) (show (v730 : Int32).toInt ≤ ((iv 12 3) : Int32).toInt from by omega) (by omega) _ _ ls hP hD hS (lv_sub hl [0, 1, 2, 3, 4] rfl)
                  · have fc729 := z_eq (rfl : (v728).toInt = _) (rfl : (a).toInt = _) c729
                    refine lv_aload_n hx hb dX12_span_70 rfl (lv_at hl 2 rfl) ?_
                    refine gM_12_5 hx hb ht hown hK hP m_1144 dX12_span_71 ?_
                    refine lv_iload hx hb dX12_span_74 (lv_at hl 0 rfl) ?_
                    refine lM_12_5 hx hb hK hP (f := (fa 12 5)) rfl (vp_in_iff.mpr ⟨by omega, by omega⟩) dX12_span_76 ?_
                    refine lv_topi (fun v731 ev731 => ?_)
                    refine lv_if_ne (tgt := 128) hx hb dX12_span_77 (by decide) (fun c732 => ?_) (fun c732 => ?_)
                    · have fc732 := z_ne (rfl : (v731).toInt = _) (by decide : (0 : Int32).toInt = 0) c732
                      obtain ⟨v733, ev733⟩ : ∃ y : Int32, y = x715_5 + 1 := ⟨_, rfl⟩
                      have tv733 := z_add ev733 rfl (by decide : (1 : Int32).toInt = 1) (by omega) (by omega)
                      refine lv_iinc (v := v733) (lv' := [(5, .int v733), (3, .long x715_3), (0, .ref h), (1, .int a), (2, .int b)]) hx hb dX12_span_128 hl (k := 0) rfl (by rw [ev733]; rfl) (by decide) rfl (fun ls hl => ?_)
                      refine lv_goto (tgt := 50) hx hb dX12_span_131 (by decide) ?_
                      exact ih716 v733 x715_3 ⟨by omega, by omega⟩ (show (x715_3 : Int64).toInt ≤ 40 * ((cn1 (fa 12 4) (fa 12 5) (fa 12 11) (fa 12 12) a 0 (iv 12 0) ((v733 : Int32).toInt).toNat : Nat) : Int) from (by have hc := (cn1_up (ob := fa 12 4) (ol := fa 12 5) (dy := fa 12 11) (lo := fa 12 12) (b := a) (l := 0) (d := (iv 12 0)) (s := x715_5) (s' := v733) (by omega) (by omega)).1; have hq9 := hq716_0; omega)) (show -40 * (v733 : Int32).toInt ≤ (x715_3 : Int64).toInt from by omega) (show (x715_3 : Int64).toInt ≤ 40 * (v733 : Int32).toInt from by omega) (show (v733 : Int32).toInt ≤ ((iv 12 3) : Int32).toInt from by omega) (by omega) _ _ ls hP hD hS (lv_sub hl [0, 1, 2, 3, 4] rfl)
                    · have fc732 := z_eq (rfl : (v731).toInt = _) (by decide : (0 : Int32).toInt = 0) c732
                      refine lv_aload_n hx hb dX12_span_80 rfl (lv_at hl 2 rfl) ?_
                      refine lv_iload hx hb dX12_span_81 (lv_at hl 0 rfl) ?_
                      refine lv_aload_n hx hb dX12_span_83 rfl (lv_at hl 2 rfl) ?_
                      refine gM_12_0 hx hb ht hown hK hP m_1139 (v := (iv 12 0)) rfl dX12_span_84 ?_
                      refine vp_callSi (W.runV (As := [.int x715_5, .int (iv 12 0)]) (rest := []) ⟨hx, hb, hml, hown, ht⟩ (c_X12_isThere_x l dC dI h g ca (u2 iv 12 19 n7) (u2 (u2 lv 12 17 n8) 12 18 n9) fa la (IX_i (c := 12) (k := 19) hI (full_i _)) x715_5 (iv 12 0) ⟨by omega, by omega⟩) (kV 2 ht m_1438 m_1440 m_46 m_89 m_1441 rfl rfl hd_X12_isThere_v ⟨Nat.le_of_ble_eq_true rfl, Nat.le_of_ble_eq_true rfl⟩) (vR hP hK (rM_12 hK hP)) rfl rfl hl.1 rfl (lv_room (Nat.le_of_ble_eq_true rfl)) dX12_span_87 ⟨Nat.le_of_ble_eq_true rfl, Nat.le_of_ble_eq_true rfl⟩) (fun r734 hr734 => ?_)
                      obtain ⟨hr734, xr734_0⟩ := hr734
                      have xr734_0 : (((r734 : Int32).toInt = 1 ∧ ((fa 12 11) (x715_5 : Int32).toNatClampNeg).toInt ≤ ((iv 12 0) : Int32).toInt ∧ (((fa 12 12) (x715_5 : Int32).toNatClampNeg).toInt < 0 ∨ ((iv 12 0) : Int32).toInt < ((fa 12 12) (x715_5 : Int32).toNatClampNeg).toInt)) ∨ ((r734 : Int32).toInt = 0 ∧ ¬ (((fa 12 11) (x715_5 : Int32).toNatClampNeg).toInt ≤ ((iv 12 0) : Int32).toInt ∧ (((fa 12 12) (x715_5 : Int32).toNatClampNeg).toInt < 0 ∨ ((iv 12 0) : Int32).toInt < ((fa 12 12) (x715_5 : Int32).toNatClampNeg).toInt)))) := xr734_0
                      refine lv_if_eq (tgt := 128) hx hb dX12_span_90 (by decide) (fun c735 => ?_) (fun c735 => ?_)
                      · have fc735 := z_eq (rfl : (r734).toInt = _) (by decide : (0 : Int32).toInt = 0) c735
                        obtain ⟨v736, ev736⟩ : ∃ y : Int32, y = x715_5 + 1 := ⟨_, rfl⟩
                        have tv736 := z_add ev736 rfl (by decide : (1 : Int32).toInt = 1) (by omega) (by omega)
                        refine lv_iinc (v := v736) (lv' := [(5, .int v736), (3, .long x715_3), (0, .ref h), (1, .int a), (2, .int b)]) hx hb dX12_span_128 hl (k := 0) rfl (by rw [ev736]; rfl) (by decide) rfl (fun ls hl => ?_)
                        refine lv_goto (tgt := 50) hx hb dX12_span_131 (by decide) ?_
                        exact ih716 v736 x715_3 ⟨by omega, by omega⟩ (show (x715_3 : Int64).toInt ≤ 40 * ((cn1 (fa 12 4) (fa 12 5) (fa 12 11) (fa 12 12) a 0 (iv 12 0) ((v736 : Int32).toInt).toNat : Nat) : Int) from (by have hc := (cn1_up (ob := fa 12 4) (ol := fa 12 5) (dy := fa 12 11) (lo := fa 12 12) (b := a) (l := 0) (d := (iv 12 0)) (s := x715_5) (s' := v736) (by omega) (by omega)).1; have hq9 := hq716_0; omega)) (show -40 * (v736 : Int32).toInt ≤ (x715_3 : Int64).toInt from by omega) (show (x715_3 : Int64).toInt ≤ 40 * (v736 : Int32).toInt from by omega) (show (v736 : Int32).toInt ≤ ((iv 12 3) : Int32).toInt from by omega) (by omega) _ _ ls hP hD hS (lv_sub hl [0, 1, 2, 3, 4] rfl)
                      · have fc735 := z_ne (rfl : (r734).toInt = _) (by decide : (0 : Int32).toInt = 0) c735
                        refine lv_lload_n hx hb dX12_span_93 rfl (lv_at hl 1 rfl) ?_
                        refine lv_aload_n hx hb dX12_span_94 rfl (lv_at hl 2 rfl) ?_
                        refine lv_aload_n hx hb dX12_span_95 rfl (lv_at hl 2 rfl) ?_
                        refine gM_12_6 hx hb ht hown hK hP m_1145 dX12_span_96 ?_
                        refine lv_iload hx hb dX12_span_99 (lv_at hl 0 rfl) ?_
                        refine lM_12_6 hx hb hK hP (f := (fa 12 6)) rfl (vp_in_iff.mpr ⟨by omega, by omega⟩) dX12_span_101 ?_
                        refine lv_topi (fun v737 ev737 => ?_)
                        refine lv_aload_n hx hb dX12_span_102 rfl (lv_at hl 2 rfl) ?_
                        refine gM_12_11 hx hb ht hown hK hP m_1150 dX12_span_103 ?_
                        refine lv_iload hx hb dX12_span_106 (lv_at hl 0 rfl) ?_
                        refine lM_12_11 hx hb hK hP (f := (fa 12 11)) rfl (vp_in_iff.mpr ⟨by omega, by omega⟩) dX12_span_108 ?_
                        refine lv_topi (fun v738 ev738 => ?_)
                        refine lv_iload_n hx hb dX12_span_109 rfl (lv_at hl 4 rfl) ?_
                        refine lv_iconst (v := 2) hx hb dX12_span_110 (by decide) ?_
                        refine lv_icmp_ge (tgt := 118) hx hb dX12_span_111 (by decide) (fun c739 => ?_) (fun c739 => ?_)
                        · have fc739 := z_le (by decide : (2 : Int32).toInt = 2) (rfl : (b).toInt = _) c739
                          refine lv_iconst (v := 0) hx hb dX12_span_118 (by decide) ?_
                          refine vp_callSi (W.runV (As := [.int v737, .int v738, .int 0]) (rest := [.long x715_3]) ⟨hx, hb, hml, hown, ht⟩ (c_X12_errorOf l dC dI h g ca (u2 iv 12 19 n7) (u2 (u2 lv 12 17 n8) 12 18 n9) fa la (IX_i (c := 12) (k := 19) hI (full_i _)) v737 v738 0 ⟨by decide, by decide⟩) (kV 3 ht m_1426 m_1428 m_44 m_89 m_1429 rfl rfl hd_X12_errorOf_v ⟨Nat.le_of_ble_eq_true rfl, Nat.le_of_ble_eq_true rfl⟩) (vR hP hK (rM_12 hK hP)) rfl rfl hl.1 rfl (lv_room (Nat.le_of_ble_eq_true rfl)) dX12_span_119 ⟨Nat.le_of_ble_eq_true rfl, Nat.le_of_ble_eq_true rfl⟩) (fun r740 hr740 => ?_)
                          refine vp_callSi (W.runS (As := [.int r740]) (rest := [.long x715_3]) ⟨hx, hb, hml, hown, ht⟩ (c_X12_held_x l dC dI r740) (kS 1 ht m_1571 m_1572 m_89 m_1573 rfl rfl hd_X12_held_v ⟨Nat.le_of_ble_eq_true rfl, Nat.le_of_ble_eq_true rfl⟩) (sR noP (hK.sub (tys' := []) [] rfl)) rfl rfl hl.1 rfl (lv_room (Nat.le_of_ble_eq_true rfl)) dX12_span_122 ⟨Nat.le_of_ble_eq_true rfl, Nat.le_of_ble_eq_true rfl⟩) (fun r741 hr741 => ?_)
                          refine lv_i2l (v := (r741.toInt64)) hx hb dX12_span_125 rfl ?_
                          have : (-2400) ≤ (x715_3 : Int64).toInt ∧ (x715_3 : Int64).toInt ≤ 2400 := ⟨by omega, by omega⟩
                          refine lv_ladd hx hb dX12_span_126 ?_
                          refine lv_topl (fun w742 ew742 => ?_)
                          have tw742 := l_add ew742 (rfl : (x715_3).toInt = _) ((Int32.toInt_toInt64 r741).trans rfl) (by omega) (by omega)
                          refine lv_lstore_n (lv' := [(3, .long w742), (5, .int x715_5), (0, .ref h), (1, .int a), (2, .int b)]) hx hb dX12_span_127 rfl hl (by decide) rfl (fun ls hl => ?_)
                          obtain ⟨v743, ev743⟩ : ∃ y : Int32, y = x715_5 + 1 := ⟨_, rfl⟩
                          have tv743 := z_add ev743 rfl (by decide : (1 : Int32).toInt = 1) (by omega) (by omega)
                          refine lv_iinc (v := v743) (lv' := [(5, .int v743), (3, .long w742), (0, .ref h), (1, .int a), (2, .int b)]) hx hb dX12_span_128 hl (k := 1) rfl (by rw [ev743]; rfl) (by decide) rfl (fun ls hl => ?_)
                          refine lv_goto (tgt := 50) hx hb dX12_span_131 (by decide) ?_
                          exact ih716 v743 w742 ⟨by omega, by omega⟩ (show (w742 : Int64).toInt ≤ 40 * ((cn1 (fa 12 4) (fa 12 5) (fa 12 11) (fa 12 12) a 0 (iv 12 0) ((v743 : Int32).toInt).toNat : Nat) : Int) from (by have hc := cn1_next (ob := fa 12 4) (ol := fa 12 5) (dy := fa 12 11) (lo := fa 12 12) (b := a) (l := 0) (d := (iv 12 0)) (s := x715_5) (s' := v743) (by omega) (by omega) (by have : (0 : Int32).toInt = 0 := (by decide); have := congrArg Int32.toInt ev728; have := congrArg Int32.toInt ev731; have := congrArg Int32.toInt ev738; omega); have hq9 := hq716_0; omega)) (show -40 * (v743 : Int32).toInt ≤ (w742 : Int64).toInt from by omega) (show (w742 : Int64).toInt ≤ 40 * (v743 : Int32).toInt from by omega) (show (v743 : Int32).toInt ≤ ((iv 12 3) : Int32).toInt from by omega) (by omega) _ _ ls hP hD hS (lv_sub hl [0, 1, 2, 3, 4] rfl)
                        · have fc739 := z_nle (by decide : (2 : Int32).toInt = 2) (rfl : (b).toInt = _) c739
                          refine lv_iconst (v := 1) hx hb dX12_span_114 (by decide) ?_
                          refine lv_goto (tgt := 119) hx hb dX12_span_115 (by decide) ?_
                          refine vp_callSi (W.runV (As := [.int v737, .int v738, .int 1]) (rest := [.long x715_3]) ⟨hx, hb, hml, hown, ht⟩ (c_X12_errorOf l dC dI h g ca (u2 iv 12 19 n7) (u2 (u2 lv 12 17 n8) 12 18 n9) fa la (IX_i (c := 12) (k := 19) hI (full_i _)) v737 v738 1 ⟨by decide, by decide⟩) (kV 3 ht m_1426 m_1428 m_44 m_89 m_1429 rfl rfl hd_X12_errorOf_v ⟨Nat.le_of_ble_eq_true rfl, Nat.le_of_ble_eq_true rfl⟩) (vR hP hK (rM_12 hK hP)) rfl rfl hl.1 rfl (lv_room (Nat.le_of_ble_eq_true rfl)) dX12_span_119 ⟨Nat.le_of_ble_eq_true rfl, Nat.le_of_ble_eq_true rfl⟩) (fun r744 hr744 => ?_)
                          refine vp_callSi (W.runS (As := [.int r744]) (rest := [.long x715_3]) ⟨hx, hb, hml, hown, ht⟩ (c_X12_held_x l dC dI r744) (kS 1 ht m_1571 m_1572 m_89 m_1573 rfl rfl hd_X12_held_v ⟨Nat.le_of_ble_eq_true rfl, Nat.le_of_ble_eq_true rfl⟩) (sR noP (hK.sub (tys' := []) [] rfl)) rfl rfl hl.1 rfl (lv_room (Nat.le_of_ble_eq_true rfl)) dX12_span_122 ⟨Nat.le_of_ble_eq_true rfl, Nat.le_of_ble_eq_true rfl⟩) (fun r745 hr745 => ?_)
                          refine lv_i2l (v := (r745.toInt64)) hx hb dX12_span_125 rfl ?_
                          have : (-2400) ≤ (x715_3 : Int64).toInt ∧ (x715_3 : Int64).toInt ≤ 2400 := ⟨by omega, by omega⟩
                          refine lv_ladd hx hb dX12_span_126 ?_
                          refine lv_topl (fun w746 ew746 => ?_)
                          have tw746 := l_add ew746 (rfl : (x715_3).toInt = _) ((Int32.toInt_toInt64 r745).trans rfl) (by omega) (by omega)
                          refine lv_lstore_n (lv' := [(3, .long w746), (5, .int x715_5), (0, .ref h), (1, .int a), (2, .int b)]) hx hb dX12_span_127 rfl hl (by decide) rfl (fun ls hl => ?_)
                          obtain ⟨v747, ev747⟩ : ∃ y : Int32, y = x715_5 + 1 := ⟨_, rfl⟩
                          have tv747 := z_add ev747 rfl (by decide : (1 : Int32).toInt = 1) (by omega) (by omega)
                          refine lv_iinc (v := v747) (lv' := [(5, .int v747), (3, .long w746), (0, .ref h), (1, .int a), (2, .int b)]) hx hb dX12_span_128 hl (k := 1) rfl (by rw [ev747]; rfl) (by decide) rfl (fun ls hl => ?_)
                          refine lv_goto (tgt := 50) hx hb dX12_span_131 (by decide) ?_
                          exact ih716 v747 w746 ⟨by omega, by omega⟩ (show (w746 : Int64).toInt ≤ 40 * ((cn1 (fa 12 4) (fa 12 5) (fa 12 11) (fa 12 12) a 0 (iv 12 0) ((v747 : Int32).toInt).toNat : Nat) : Int) from (by have hc := cn1_next (ob := fa 12 4) (ol := fa 12 5) (dy := fa 12 11) (lo := fa 12 12) (b := a) (l := 0) (d := (iv 12 0)) (s := x715_5) (s' := v747) (by omega) (by omega) (by have : (0 : Int32).toInt = 0 := (by decide); have := congrArg Int32.toInt ev728; have := congrArg Int32.toInt ev731; have := congrArg Int32.toInt ev738; omega); have hq9 := hq716_0; omega)) (show -40 * (v747 : Int32).toInt ≤ (w746 : Int64).toInt from by omega) (show (w746 : Int64).toInt ≤ 40 * (v747 : Int32).toInt from by omega) (show (v747 : Int32).toInt ≤ ((iv 12 3) : Int32).toInt from by omega) (by omega) _ _ ls hP hD hS (lv_sub hl [0, 1, 2, 3, 4] rfl)
            have : (0 : Int32).toInt = 0 := (by decide)
            have : (0 : Int64).toInt = 0 := (by decide)
            exact lp716 61 0 0 ⟨by decide, by decide⟩ (show (0 : Int64).toInt ≤ 40 * ((cn1 (fa 12 4) (fa 12 5) (fa 12 11) (fa 12 12) a 0 (iv 12 0) ((0 : Int32).toInt).toNat : Nat) : Int) from by show _ ≤ 40 * ((0 : Nat) : Int); omega) (show -40 * (0 : Int32).toInt ≤ (0 : Int64).toInt from by omega) (show (0 : Int64).toInt ≤ 40 * (0 : Int32).toInt from by omega) (show (0 : Int32).toInt ≤ ((iv 12 3) : Int32).toInt from by omega) (by first | decide | omega) _ _ ls hP hD hS (lv_sub hl [0, 1, 2, 3, 4] rfl)
          · have fc10 := z_eq (rfl : (r6).toInt = _) (by decide : (0 : Int32).toInt = 0) c10
            refine lv_ldc2 hx hb hown (ht _ m_1562) dX12_span_41 ?_
            have hP9 : va_P (dC, dI) classes (WM h g ca (u2 (u2 iv 12 19 n7) 12 41 (iv 12 41)) (u2 (u2 (u2 (u2 lv 12 17 n8) 12 18 n9) 12 46 (lv 12 46)) 12 47 (lv 12 47)) (u2 (u2 fa 12 39 (fa 12 39)) 12 40 (fa 12 40)) la) H := hP
            have hD9 : va_D A (WM h g ca (u2 (u2 iv 12 19 n7) 12 41 (iv 12 41)) (u2 (u2 (u2 (u2 lv 12 17 n8) 12 18 n9) 12 46 (lv 12 46)) 12 47 (lv 12 47)) (u2 (u2 fa 12 39 (fa 12 39)) 12 40 (fa 12 40)) la) := hD
            exact W.lret (v := (-100003)) hx hb hr (fun t ht9 hW => ⟨⟨(-100003), ((u2 (u2 iv 12 19 n7) 12 41 (iv 12 41)), (u2 (u2 (u2 (u2 lv 12 17 n8) 12 18 n9) 12 46 (lv 12 46)) 12 47 (lv 12 47)), (u2 (u2 fa 12 39 (fa 12 39)) 12 40 (fa 12 40)), la), rfl, ⟨(fa 12 39), (fa 12 40), n7, (iv 12 41), n8, n9, (lv 12 46), (lv 12 47), (hI.2 12 39), (hI.2 12 40), (hI.1 12 41), trivial, rfl⟩, by rw [ht9]; exact hP9, hD9⟩, hS.F ht9⟩) hS.2.2 dX12_span_44
        · exact absurd c5 (by decide)
      · skip
        refine lv_if_ne (tgt := 28) hx hb dX12_span_21 (by decide) (fun c748 => ?_) (fun c748 => ?_)
        · exact absurd rfl c748
        · skip
          refine lv_ldc2 hx hb hown (ht _ m_1561) dX12_span_24 ?_
          have hP9 : va_P (dC, dI) classes (WM h g ca (u2 (u2 iv 12 19 (iv 12 19)) 12 41 (iv 12 41)) (u2 (u2 (u2 (u2 lv 12 17 (lv 12 17)) 12 18 (lv 12 18)) 12 46 (lv 12 46)) 12 47 (lv 12 47)) (u2 (u2 fa 12 39 (fa 12 39)) 12 40 (fa 12 40)) la) s.heap := hP
          have hD9 : va_D A (WM h g ca (u2 (u2 iv 12 19 (iv 12 19)) 12 41 (iv 12 41)) (u2 (u2 (u2 (u2 lv 12 17 (lv 12 17)) 12 18 (lv 12 18)) 12 46 (lv 12 46)) 12 47 (lv 12 47)) (u2 (u2 fa 12 39 (fa 12 39)) 12 40 (fa 12 40)) la) := hD
          exact W.lret (v := (-100002)) hx hb hr (fun t ht9 hW => ⟨⟨(-100002), ((u2 (u2 iv 12 19 (iv 12 19)) 12 41 (iv 12 41)), (u2 (u2 (u2 (u2 lv 12 17 (lv 12 17)) 12 18 (lv 12 18)) 12 46 (lv 12 46)) 12 47 (lv 12 47)), (u2 (u2 fa 12 39 (fa 12 39)) 12 40 (fa 12 40)), la), rfl, ⟨(fa 12 39), (fa 12 40), (iv 12 19), (iv 12 41), (lv 12 17), (lv 12 18), (lv 12 46), (lv 12 47), (hI.2 12 39), (hI.2 12 40), (hI.1 12 41), trivial, rfl⟩, by rw [ht9]; exact hP9, hD9⟩, hS.F ht9⟩) hS.2.2 dX12_span_27
    · exact absurd rfl c3
