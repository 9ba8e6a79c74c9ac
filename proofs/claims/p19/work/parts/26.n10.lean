/-! ===== n10 ===== -/
theorem m_1571 : Cond.methodLink RX12 372 yX12_held ∈ tb := mb_7_2 _ (List.mem_of_getElem? (i := 0) rfl)
theorem m_1572 : Cond.static yX12_held ∈ tb := mb_7_2 _ (List.mem_of_getElem? (i := 1) rfl)
theorem m_1573 : Cond.code yX12_held cX12_held 1 (some .int) ∈ tb := mb_7_2 _ (List.mem_of_getElem? (i := 2) rfl)
theorem hd_X12_held_v : yX12_held.cls = RX12 ∧ yX12_held.cls ≠ "java/lang/invoke/MethodHandle" ∧ yX12_held.cls ≠ "java/lang/invoke/VarHandle" ∧ (parseMethodDescriptor yX12_held.desc).map (fun d => d.parameters.length) = some 1 := by decide +kernel
set_option maxRecDepth 100000 in
theorem dvX12_span_0 : ([(0, .aload_n 0, 1), (1, .iload_n 1, 1), (2, .invokevirtual 183, 3), (5, .ifCond .eq 7, 3), (8, .ldc2_w 362, 3), (11, .lreturn, 1), (12, .iload_n 2, 1), (13, .i2l, 1), (14, .lconst 0, 1), (15, .ldc2_w 190, 3), (18, .invokestatic 167, 3), (21, .ifCond .ne 7, 3), (24, .ldc2_w 364, 3), (27, .lreturn, 1), (28, .aload_n 0, 1), (29, .iload_n 1, 1), (30, .iconst 0, 1), (31, .aload_n 0, 1), (32, .getfield 171, 3), (35, .invokevirtual 237, 3), (38, .ifCond .ne 7, 3), (41, .ldc2_w 366, 3), (44, .lreturn, 1), (45, .lconst 0, 1)] : List (Nat × Instr × Nat)).all (fun q => decide (decode cX12_span q.1 = .ok (q.2.1, q.2.2))) = true := by decide +kernel
theorem dX12_span_0 : decode cX12_span 0 = .ok (.aload_n 0, 1) := all_at dvX12_span_0 0 rfl
theorem dX12_span_1 : decode cX12_span 1 = .ok (.iload_n 1, 1) := all_at dvX12_span_0 1 rfl
theorem dX12_span_2 : decode cX12_span 2 = .ok (.invokevirtual 183, 3) := all_at dvX12_span_0 2 rfl
theorem dX12_span_5 : decode cX12_span 5 = .ok (.ifCond .eq 7, 3) := all_at dvX12_span_0 3 rfl
theorem dX12_span_8 : decode cX12_span 8 = .ok (.ldc2_w 362, 3) := all_at dvX12_span_0 4 rfl
theorem dX12_span_11 : decode cX12_span 11 = .ok (.lreturn, 1) := all_at dvX12_span_0 5 rfl
theorem dX12_span_12 : decode cX12_span 12 = .ok (.iload_n 2, 1) := all_at dvX12_span_0 6 rfl
theorem dX12_span_13 : decode cX12_span 13 = .ok (.i2l, 1) := all_at dvX12_span_0 7 rfl
theorem dX12_span_14 : decode cX12_span 14 = .ok (.lconst 0, 1) := all_at dvX12_span_0 8 rfl
theorem dX12_span_15 : decode cX12_span 15 = .ok (.ldc2_w 190, 3) := all_at dvX12_span_0 9 rfl
theorem dX12_span_18 : decode cX12_span 18 = .ok (.invokestatic 167, 3) := all_at dvX12_span_0 10 rfl
theorem dX12_span_21 : decode cX12_span 21 = .ok (.ifCond .ne 7, 3) := all_at dvX12_span_0 11 rfl
theorem dX12_span_24 : decode cX12_span 24 = .ok (.ldc2_w 364, 3) := all_at dvX12_span_0 12 rfl
theorem dX12_span_27 : decode cX12_span 27 = .ok (.lreturn, 1) := all_at dvX12_span_0 13 rfl
theorem dX12_span_28 : decode cX12_span 28 = .ok (.aload_n 0, 1) := all_at dvX12_span_0 14 rfl
theorem dX12_span_29 : decode cX12_span 29 = .ok (.iload_n 1, 1) := all_at dvX12_span_0 15 rfl
theorem dX12_span_30 : decode cX12_span 30 = .ok (.iconst 0, 1) := all_at dvX12_span_0 16 rfl
theorem dX12_span_31 : decode cX12_span 31 = .ok (.aload_n 0, 1) := all_at dvX12_span_0 17 rfl
theorem dX12_span_32 : decode cX12_span 32 = .ok (.getfield 171, 3) := all_at dvX12_span_0 18 rfl
theorem dX12_span_35 : decode cX12_span 35 = .ok (.invokevirtual 237, 3) := all_at dvX12_span_0 19 rfl
theorem dX12_span_38 : decode cX12_span 38 = .ok (.ifCond .ne 7, 3) := all_at dvX12_span_0 20 rfl
theorem dX12_span_41 : decode cX12_span 41 = .ok (.ldc2_w 366, 3) := all_at dvX12_span_0 21 rfl
theorem dX12_span_44 : decode cX12_span 44 = .ok (.lreturn, 1) := all_at dvX12_span_0 22 rfl
theorem dX12_span_45 : decode cX12_span 45 = .ok (.lconst 0, 1) := all_at dvX12_span_0 23 rfl
set_option maxRecDepth 100000 in
theorem dvX12_span_46 : ([(46, .lstore_n 3, 1), (47, .iconst 0, 1), (48, .istore 5, 2), (50, .iload 5, 2), (52, .aload_n 0, 1), (53, .getfield 200, 3), (56, .if_icmp .ge 78, 3), (59, .aload_n 0, 1), (60, .getfield 13, 3), (63, .iload 5, 2), (65, .iaload, 1), (66, .iload_n 1, 1), (67, .if_icmp .ne 61, 3), (70, .aload_n 0, 1), (71, .getfield 16, 3), (74, .iload 5, 2), (76, .iaload, 1), (77, .ifCond .ne 51, 3), (80, .aload_n 0, 1), (81, .iload 5, 2), (83, .aload_n 0, 1), (84, .getfield 171, 3), (87, .invokevirtual 233, 3), (90, .ifCond .eq 38, 3)] : List (Nat × Instr × Nat)).all (fun q => decide (decode cX12_span q.1 = .ok (q.2.1, q.2.2))) = true := by decide +kernel
theorem dX12_span_46 : decode cX12_span 46 = .ok (.lstore_n 3, 1) := all_at dvX12_span_46 0 rfl
theorem dX12_span_47 : decode cX12_span 47 = .ok (.iconst 0, 1) := all_at dvX12_span_46 1 rfl
theorem dX12_span_48 : decode cX12_span 48 = .ok (.istore 5, 2) := all_at dvX12_span_46 2 rfl
theorem dX12_span_50 : decode cX12_span 50 = .ok (.iload 5, 2) := all_at dvX12_span_46 3 rfl
theorem dX12_span_52 : decode cX12_span 52 = .ok (.aload_n 0, 1) := all_at dvX12_span_46 4 rfl
theorem dX12_span_53 : decode cX12_span 53 = .ok (.getfield 200, 3) := all_at dvX12_span_46 5 rfl
theorem dX12_span_56 : decode cX12_span 56 = .ok (.if_icmp .ge 78, 3) := all_at dvX12_span_46 6 rfl
theorem dX12_span_59 : decode cX12_span 59 = .ok (.aload_n 0, 1) := all_at dvX12_span_46 7 rfl
theorem dX12_span_60 : decode cX12_span 60 = .ok (.getfield 13, 3) := all_at dvX12_span_46 8 rfl
theorem dX12_span_63 : decode cX12_span 63 = .ok (.iload 5, 2) := all_at dvX12_span_46 9 rfl
theorem dX12_span_65 : decode cX12_span 65 = .ok (.iaload, 1) := all_at dvX12_span_46 10 rfl
theorem dX12_span_66 : decode cX12_span 66 = .ok (.iload_n 1, 1) := all_at dvX12_span_46 11 rfl
theorem dX12_span_67 : decode cX12_span 67 = .ok (.if_icmp .ne 61, 3) := all_at dvX12_span_46 12 rfl
theorem dX12_span_70 : decode cX12_span 70 = .ok (.aload_n 0, 1) := all_at dvX12_span_46 13 rfl
theorem dX12_span_71 : decode cX12_span 71 = .ok (.getfield 16, 3) := all_at dvX12_span_46 14 rfl
theorem dX12_span_74 : decode cX12_span 74 = .ok (.iload 5, 2) := all_at dvX12_span_46 15 rfl
theorem dX12_span_76 : decode cX12_span 76 = .ok (.iaload, 1) := all_at dvX12_span_46 16 rfl
theorem dX12_span_77 : decode cX12_span 77 = .ok (.ifCond .ne 51, 3) := all_at dvX12_span_46 17 rfl
theorem dX12_span_80 : decode cX12_span 80 = .ok (.aload_n 0, 1) := all_at dvX12_span_46 18 rfl
theorem dX12_span_81 : decode cX12_span 81 = .ok (.iload 5, 2) := all_at dvX12_span_46 19 rfl
theorem dX12_span_83 : decode cX12_span 83 = .ok (.aload_n 0, 1) := all_at dvX12_span_46 20 rfl
theorem dX12_span_84 : decode cX12_span 84 = .ok (.getfield 171, 3) := all_at dvX12_span_46 21 rfl
theorem dX12_span_87 : decode cX12_span 87 = .ok (.invokevirtual 233, 3) := all_at dvX12_span_46 22 rfl
theorem dX12_span_90 : decode cX12_span 90 = .ok (.ifCond .eq 38, 3) := all_at dvX12_span_46 23 rfl
set_option maxRecDepth 100000 in
theorem dvX12_span_93 : ([(93, .lload_n 3, 1), (94, .aload_n 0, 1), (95, .aload_n 0, 1), (96, .getfield 19, 3), (99, .iload 5, 2), (101, .iaload, 1), (102, .aload_n 0, 1), (103, .getfield 34, 3), (106, .iload 5, 2), (108, .iaload, 1), (109, .iload_n 2, 1), (110, .iconst 2, 1), (111, .if_icmp .ge 7, 3), (114, .iconst 1, 1), (115, .goto 4, 3), (118, .iconst 0, 1), (119, .invokevirtual 219, 3), (122, .invokestatic 372, 3), (125, .i2l, 1), (126, .ladd, 1), (127, .lstore_n 3, 1), (128, .iinc 5 1, 3), (131, .goto (-81), 3), (134, .aload_n 0, 1)] : List (Nat × Instr × Nat)).all (fun q => decide (decode cX12_span q.1 = .ok (q.2.1, q.2.2))) = true := by decide +kernel
theorem dX12_span_93 : decode cX12_span 93 = .ok (.lload_n 3, 1) := all_at dvX12_span_93 0 rfl
theorem dX12_span_94 : decode cX12_span 94 = .ok (.aload_n 0, 1) := all_at dvX12_span_93 1 rfl
theorem dX12_span_95 : decode cX12_span 95 = .ok (.aload_n 0, 1) := all_at dvX12_span_93 2 rfl
theorem dX12_span_96 : decode cX12_span 96 = .ok (.getfield 19, 3) := all_at dvX12_span_93 3 rfl
theorem dX12_span_99 : decode cX12_span 99 = .ok (.iload 5, 2) := all_at dvX12_span_93 4 rfl
theorem dX12_span_101 : decode cX12_span 101 = .ok (.iaload, 1) := all_at dvX12_span_93 5 rfl
theorem dX12_span_102 : decode cX12_span 102 = .ok (.aload_n 0, 1) := all_at dvX12_span_93 6 rfl
theorem dX12_span_103 : decode cX12_span 103 = .ok (.getfield 34, 3) := all_at dvX12_span_93 7 rfl
theorem dX12_span_106 : decode cX12_span 106 = .ok (.iload 5, 2) := all_at dvX12_span_93 8 rfl
theorem dX12_span_108 : decode cX12_span 108 = .ok (.iaload, 1) := all_at dvX12_span_93 9 rfl
theorem dX12_span_109 : decode cX12_span 109 = .ok (.iload_n 2, 1) := all_at dvX12_span_93 10 rfl
theorem dX12_span_110 : decode cX12_span 110 = .ok (.iconst 2, 1) := all_at dvX12_span_93 11 rfl
theorem dX12_span_111 : decode cX12_span 111 = .ok (.if_icmp .ge 7, 3) := all_at dvX12_span_93 12 rfl
theorem dX12_span_114 : decode cX12_span 114 = .ok (.iconst 1, 1) := all_at dvX12_span_93 13 rfl
theorem dX12_span_115 : decode cX12_span 115 = .ok (.goto 4, 3) := all_at dvX12_span_93 14 rfl
theorem dX12_span_118 : decode cX12_span 118 = .ok (.iconst 0, 1) := all_at dvX12_span_93 15 rfl
theorem dX12_span_119 : decode cX12_span 119 = .ok (.invokevirtual 219, 3) := all_at dvX12_span_93 16 rfl
theorem dX12_span_122 : decode cX12_span 122 = .ok (.invokestatic 372, 3) := all_at dvX12_span_93 17 rfl
theorem dX12_span_125 : decode cX12_span 125 = .ok (.i2l, 1) := all_at dvX12_span_93 18 rfl
theorem dX12_span_126 : decode cX12_span 126 = .ok (.ladd, 1) := all_at dvX12_span_93 19 rfl
theorem dX12_span_127 : decode cX12_span 127 = .ok (.lstore_n 3, 1) := all_at dvX12_span_93 20 rfl
theorem dX12_span_128 : decode cX12_span 128 = .ok (.iinc 5 1, 3) := all_at dvX12_span_93 21 rfl
theorem dX12_span_131 : decode cX12_span 131 = .ok (.goto (-81), 3) := all_at dvX12_span_93 22 rfl
theorem dX12_span_134 : decode cX12_span 134 = .ok (.aload_n 0, 1) := all_at dvX12_span_93 23 rfl
set_option maxRecDepth 100000 in
theorem dvX12_span_135 : ([(135, .iload_n 1, 1), (136, .aload_n 0, 1), (137, .getfield 223, 3), (140, .lload_n 3, 1), (141, .lsub, 1), (142, .aload_n 0, 1), (143, .getfield 227, 3), (146, .lload_n 3, 1), (147, .lsub, 1), (148, .aload_n 0, 1), (149, .getfield 171, 3), (152, .invokevirtual 368, 3), (155, .iload_n 2, 1), (156, .iconst 2, 1), (157, .irem, 1), (158, .ifCond .ne 10, 3), (161, .aload_n 0, 1), (162, .getfield 356, 3), (165, .goto 7, 3), (168, .aload_n 0, 1), (169, .getfield 359, 3), (172, .lreturn, 1)] : List (Nat × Instr × Nat)).all (fun q => decide (decode cX12_span q.1 = .ok (q.2.1, q.2.2))) = true := by decide +kernel
theorem dX12_span_135 : decode cX12_span 135 = .ok (.iload_n 1, 1) := all_at dvX12_span_135 0 rfl
theorem dX12_span_136 : decode cX12_span 136 = .ok (.aload_n 0, 1) := all_at dvX12_span_135 1 rfl
theorem dX12_span_137 : decode cX12_span 137 = .ok (.getfield 223, 3) := all_at dvX12_span_135 2 rfl
theorem dX12_span_140 : decode cX12_span 140 = .ok (.lload_n 3, 1) := all_at dvX12_span_135 3 rfl
theorem dX12_span_141 : decode cX12_span 141 = .ok (.lsub, 1) := all_at dvX12_span_135 4 rfl
theorem dX12_span_142 : decode cX12_span 142 = .ok (.aload_n 0, 1) := all_at dvX12_span_135 5 rfl
theorem dX12_span_143 : decode cX12_span 143 = .ok (.getfield 227, 3) := all_at dvX12_span_135 6 rfl
theorem dX12_span_146 : decode cX12_span 146 = .ok (.lload_n 3, 1) := all_at dvX12_span_135 7 rfl
theorem dX12_span_147 : decode cX12_span 147 = .ok (.lsub, 1) := all_at dvX12_span_135 8 rfl
theorem dX12_span_148 : decode cX12_span 148 = .ok (.aload_n 0, 1) := all_at dvX12_span_135 9 rfl
theorem dX12_span_149 : decode cX12_span 149 = .ok (.getfield 171, 3) := all_at dvX12_span_135 10 rfl
theorem dX12_span_152 : decode cX12_span 152 = .ok (.invokevirtual 368, 3) := all_at dvX12_span_135 11 rfl
theorem dX12_span_155 : decode cX12_span 155 = .ok (.iload_n 2, 1) := all_at dvX12_span_135 12 rfl
theorem dX12_span_156 : decode cX12_span 156 = .ok (.iconst 2, 1) := all_at dvX12_span_135 13 rfl
theorem dX12_span_157 : decode cX12_span 157 = .ok (.irem, 1) := all_at dvX12_span_135 14 rfl
theorem dX12_span_158 : decode cX12_span 158 = .ok (.ifCond .ne 10, 3) := all_at dvX12_span_135 15 rfl
theorem dX12_span_161 : decode cX12_span 161 = .ok (.aload_n 0, 1) := all_at dvX12_span_135 16 rfl
theorem dX12_span_162 : decode cX12_span 162 = .ok (.getfield 356, 3) := all_at dvX12_span_135 17 rfl
theorem dX12_span_165 : decode cX12_span 165 = .ok (.goto 7, 3) := all_at dvX12_span_135 18 rfl
theorem dX12_span_168 : decode cX12_span 168 = .ok (.aload_n 0, 1) := all_at dvX12_span_135 19 rfl
theorem dX12_span_169 : decode cX12_span 169 = .ok (.getfield 359, 3) := all_at dvX12_span_135 20 rfl
theorem dX12_span_172 : decode cX12_span 172 = .ok (.lreturn, 1) := all_at dvX12_span_135 21 rfl
set_option maxHeartbeats 4000000 in
set_option maxRecDepth 100000 in
/-- X12_held -/
theorem c_X12_held_x (l : Launch) (dC : Nat → ClassId) (dI : Nat → Nat → Nat) (a : Int32) : Met l yX12_held (wc yX12_held cX12_held 1 (some .int)) ({ frames := 0, cells := 0, slots := 0, locals := 0 } : Room) (pR (dC, dI) classes [] [] [.int a]) (vp_Si (fun r => (-40) ≤ r.toInt ∧ r.toInt ≤ 40)) 0 0 (fun _ => False) := by
  refine Met.ofW (cc := cX12_held) (maxL := 1) (ret := (some .int)) (by decide) rfl ?_
  intro p e s m args below meth c s₁ B hml hv
  obtain ⟨rfl, hP, hK⟩ := hv
  have hx := B.exec
  have hb := B.bytes
  have hr := B.returns
  have ht := tb_tl (atoms_spec (ws := wc yX12_held cX12_held 1 (some .int)) B.pre)
  have hown : s.vm.findClass RX12 = some m.cls := findClass_of_methodNamed B.named
  have hlocks := B.notSynchronized
  have hl := lv_entry [.int a] (n := 1) (Nat.le_of_ble_eq_true rfl)
  rw [lg_entry_eq]
  generalize (lg_sl [.int a] ++ List.replicate (1 - (lg_sl [.int a]).length) Slot.unset).toArray = ls at hl ⊢
  have hl : lv_has ls 1 [(0, .int a)] := hl
  refine lv_iload_n hx hb dX12_held_0 rfl (lv_at hl 0 rfl) ?_
  refine lv_bipush (v := 40) hx hb dX12_held_1 (by decide) ?_
  refine lv_icmp_le (tgt := 11) hx hb dX12_held_3 (by decide) (fun c1 => ?_) (fun c1 => ?_)
  · have fc1 := z_le (rfl : (a).toInt = _) (by decide : (40 : Int32).toInt = 40) c1
    refine lv_iload_n hx hb dX12_held_11 rfl (lv_at hl 0 rfl) ?_
    refine lv_bipush (v := (-40)) hx hb dX12_held_12 (by decide) ?_
    refine lv_icmp_ge (tgt := 22) hx hb dX12_held_14 (by decide) (fun c2 => ?_) (fun c2 => ?_)
    · have fc2 := z_le (by decide : ((-40) : Int32).toInt = (-40)) (rfl : (a).toInt = _) c2
      refine lv_iload_n hx hb dX12_held_22 rfl (lv_at hl 0 rfl) ?_
      exact W.iret (v := a) hx hb hr (fun t ht9 hW => ⟨a, rfl, ⟨by omega, by omega⟩, ht9⟩) (fun q hq => by cases hq) dX12_held_23
    · have fc2 := z_nle (by decide : ((-40) : Int32).toInt = (-40)) (rfl : (a).toInt = _) c2
      refine lv_bipush (v := (-40)) hx hb dX12_held_17 (by decide) ?_
      refine lv_goto (tgt := 23) hx hb dX12_held_19 (by decide) ?_
      exact W.iret (v := (-40)) hx hb hr (fun t ht9 hW => ⟨(-40), rfl, ⟨by decide, by decide⟩, ht9⟩) (fun q hq => by cases hq) dX12_held_23
  · have fc1 := z_nle (rfl : (a).toInt = _) (by decide : (40 : Int32).toInt = 40) c1
    refine lv_bipush (v := 40) hx hb dX12_held_6 (by decide) ?_
    refine lv_goto (tgt := 23) hx hb dX12_held_8 (by decide) ?_
    exact W.iret (v := 40) hx hb hr (fun t ht9 hW => ⟨40, rfl, ⟨by decide, by decide⟩, ht9⟩) (fun q hq => by cases hq) dX12_held_23
set_option maxHeartbeats 4000000 in
set_option maxRecDepth 100000 in
/-- X12_span -/
theorem c_X12_span (l : Launch) (dC : Nat → ClassId) (dI : Nat → Nat → Nat) (sz : Nat) (h : Nat) (g : Nat → Nat → Nat) (ca : Nat → Nat → ClassId) (iv : Nat → Nat → Int32) (lv : Nat → Nat → Int64) (fa : Nat → Nat → Nat → Int32) (la : Nat → Nat → Nat → Int64) (hI : IX iv fa) (a : Int32) (b : Int32) (hJC : JCf (iv 12 23).toInt (fa 12 25) (fa 12 26) (fa 12 27) (fa 12 28)) (hJR : JRf (iv 12 3).toInt (fa 12 7)) (hJO : (iv 12 20).toInt = -1 ∧ (iv 12 21).toInt = -1 ∧ (iv 12 22).toInt = -1) : Met l yX12_span (wc yX12_span cX12_span 6 (some .long)) ({ frames := 3, cells := 0, slots := 0, locals := 92 } : Room) (pW (dC, dI) classes (WM h g ca iv lv fa la) (TM ca) sz [.ref h, .int a, .int b]) (va_Ql (fun r (u : SS) => ∃ (na_12_39 : Nat → Int32) (na_12_40 : Nat → Int32) (ni_12_19 : Int32) (ni_12_41 : Int32) (nl_12_17 : Int64) (nl_12_18 : Int64) (nl_12_46 : Int64) (nl_12_47 : Int64), (∀ j, inb (bA 12 39 j) (na_12_39 j)) ∧ (∀ j, inb (bA 12 40 j) (na_12_40 j)) ∧ inb (bI 12 41) ni_12_41 ∧ (True) ∧ u = ((u2 (u2 iv 12 19 ni_12_19) 12 41 ni_12_41), (u2 (u2 (u2 (u2 lv 12 17 nl_12_17) 12 18 nl_12_18) 12 46 nl_12_46) 12 47 nl_12_47), (u2 (u2 fa 12 39 na_12_39) 12 40 na_12_40), la)) (bM (dC, dI) h g ca (va_A (WM h g ca iv lv fa la) sz)) (va_A (WM h g ca iv lv fa la) sz)) 0 0 (va_A (WM h g ca iv lv fa la) sz) := by
  refine Met.ofW (cc := cX12_span) (maxL := 6) (ret := (some .long)) (by decide) rfl ?_
  intro p e s m args below meth c s₁ B hml hv
  obtain ⟨rfl, hsz, hP, hK, hD0⟩ := hv
  have hx := B.exec
  have hb := B.bytes
  have hr := B.returns
  have ht := tb_tl (atoms_spec (ws := wc yX12_span cX12_span 6 (some .long)) B.pre)
  have hown : s.vm.findClass RX12 = some m.cls := findClass_of_methodNamed B.named
  have hlocks := B.notSynchronized
  subst hsz
  have hD := hD0.self (sz := s.heap.size)
  generalize hAe : va_A (WM h g ca iv lv fa la) s.heap.size = A at hD ⊢
  have hA : ∀ q : Nat, s.heap.size ≤ q → A q := fun q h => by rw [← hAe]; exact Or.inr h
  have hS : va_S A s.heap s.heap [] := va_S.rf
  have hl := lv_entry [.ref h, .int a, .int b] (n := 6) (Nat.le_of_ble_eq_true rfl)
  rw [lg_entry_eq]
  generalize (lg_sl [.ref h, .int a, .int b] ++ List.replicate (6 - (lg_sl [.ref h, .int a, .int b]).length) Slot.unset).toArray = ls at hl ⊢
  have hl : lv_has ls 6 [(0, .ref h), (1, .int a), (2, .int b)] := hl
  refine lv_aload_n hx hb dX12_span_0 rfl (lv_at hl 0 rfl) ?_
  refine lv_iload_n hx hb dX12_span_1 rfl (lv_at hl 1 rfl) ?_
  refine vp_callSi (W.runV (As := [.int a]) (rest := []) ⟨hx, hb, hml, hown, ht⟩ (c_X12_noBale l dC dI h g ca iv lv fa la hI a) (kV 1 ht m_1385 m_1387 m_42 m_89 m_1388 rfl rfl hd_X12_noBale_v ⟨Nat.le_of_ble_eq_true rfl, Nat.le_of_ble_eq_true rfl⟩) (vR hP hK (rM_12 hK hP)) rfl rfl hl.1 rfl (lv_room (Nat.le_of_ble_eq_true rfl)) dX12_span_2 ⟨Nat.le_of_ble_eq_true rfl, Nat.le_of_ble_eq_true rfl⟩) (fun r1 hr1 => ?_)
  rcases hr1 with ⟨rfl, fr1⟩ | ⟨rfl, fr1⟩
  · skip
    have i_12_1 : 0 ≤ (iv 12 1).toInt ∧ (iv 12 1).toInt ≤ 10 := hI.1 12 1
    have fr1 : ¬ (0 ≤ (a : Int32).toInt ∧ (a : Int32).toInt < ((iv 12 1) : Int32).toInt) := fr1
    refine lv_if_eq (tgt := 12) hx hb dX12_span_5 (by decide) (fun c2 => ?_) (fun c2 => ?_)
    · exact absurd c2 (by decide)
    · skip
      refine lv_ldc2 hx hb hown (ht _ m_1560) dX12_span_8 ?_
      have hP9 : va_P (dC, dI) classes (WM h g ca (u2 (u2 iv 12 19 (iv 12 19)) 12 41 (iv 12 41)) (u2 (u2 (u2 (u2 lv 12 17 (lv 12 17)) 12 18 (lv 12 18)) 12 46 (lv 12 46)) 12 47 (lv 12 47)) (u2 (u2 fa 12 39 (fa 12 39)) 12 40 (fa 12 40)) la) s.heap := hP
      have hD9 : va_D A (WM h g ca (u2 (u2 iv 12 19 (iv 12 19)) 12 41 (iv 12 41)) (u2 (u2 (u2 (u2 lv 12 17 (lv 12 17)) 12 18 (lv 12 18)) 12 46 (lv 12 46)) 12 47 (lv 12 47)) (u2 (u2 fa 12 39 (fa 12 39)) 12 40 (fa 12 40)) la) := hD
      exact W.lret (v := (-100001)) hx hb hr (fun t ht9 hW => ⟨⟨(-100001), ((u2 (u2 iv 12 19 (iv 12 19)) 12 41 (iv 12 41)), (u2 (u2 (u2 (u2 lv 12 17 (lv 12 17)) 12 18 (lv 12 18)) 12 46 (lv 12 46)) 12 47 (lv 12 47)), (u2 (u2 fa 12 39 (fa 12 39)) 12 40 (fa 12 40)), la), rfl, ⟨(fa 12 39), (fa 12 40), (iv 12 19), (iv 12 41), (lv 12 17), (lv 12 18), (lv 12 46), (lv 12 47), (hI.2 12 39), (hI.2 12 40), (hI.1 12 41), trivial, rfl⟩, by rw [ht9]; exact hP9, hD9⟩, hS.F ht9⟩) hS.2.2 dX12_span_11
  · skip
    have i_12_1 : 0 ≤ (iv 12 1).toInt ∧ (iv 12 1).toInt ≤ 10 := hI.1 12 1
    have fr1 : (0 ≤ (a : Int32).toInt ∧ (a : Int32).toInt < ((iv 12 1) : Int32).toInt) := Decidable.not_not.mp fr1
    refine lv_if_eq (tgt := 12) hx hb dX12_span_5 (by decide) (fun c3 => ?_) (fun c3 => ?_)
    · skip
      refine lv_iload_n hx hb dX12_span_12 rfl (lv_at hl 2 rfl) ?_
      refine lv_i2l (v := (b.toInt64)) hx hb dX12_span_13 rfl ?_
      refine lv_lconst (v := 0) hx hb dX12_span_14 (by decide) ?_
      refine lv_ldc2 hx hb hown (ht _ m_1391) dX12_span_15 ?_
      refine vp_callSi (W.runS (As := [.long (b.toInt64), .long 0, .long 3]) (rest := []) ⟨hx, hb, hml, hown, ht⟩ (c_X12_in l dC dI (b.toInt64) 0 3 (b.toInt) (0) (3) ((Int32.toInt_toInt64 b).trans rfl) (by decide : (0 : Int64).toInt = 0) (by decide : (3 : Int64).toInt = 3)) (kS 3 ht m_1370 m_1371 m_89 m_1372 rfl rfl hd_X12_in_v ⟨Nat.le_of_ble_eq_true rfl, Nat.le_of_ble_eq_true rfl⟩) (sR noP (hK.sub (tys' := []) [] rfl)) rfl rfl hl.1 rfl (lv_room (Nat.le_of_ble_eq_true rfl)) dX12_span_18 ⟨Nat.le_of_ble_eq_true rfl, Nat.le_of_ble_eq_true rfl⟩) (fun r4 hr4 => ?_)
      rcases hr4 with ⟨rfl, fr4⟩ | ⟨rfl, fr4⟩
      · skip
        refine lv_if_ne (tgt := 28) hx hb dX12_span_21 (by decide) (fun c5 => ?_) (fun c5 => ?_)
        · skip
          have : (-1) ≤ ((iv 12 20) : Int32).toInt ∧ ((iv 12 20) : Int32).toInt ≤ (-1) := ⟨by omega, by omega⟩
          have : (-1) ≤ ((iv 12 21) : Int32).toInt ∧ ((iv 12 21) : Int32).toInt ≤ (-1) := ⟨by omega, by omega⟩
          have : (-1) ≤ ((iv 12 22) : Int32).toInt ∧ ((iv 12 22) : Int32).toInt ≤ (-1) := ⟨by omega, by omega⟩
          refine lv_aload_n hx hb dX12_span_28 rfl (lv_at hl 0 rfl) ?_
          refine lv_iload_n hx hb dX12_span_29 rfl (lv_at hl 1 rfl) ?_
          refine lv_iconst (v := 0) hx hb dX12_span_30 (by decide) ?_
          refine lv_aload_n hx hb dX12_span_31 rfl (lv_at hl 0 rfl) ?_
          have i_12_0 : 0 ≤ (iv 12 0).toInt ∧ (iv 12 0).toInt ≤ 3000 := hI.1 12 0
          refine gM_12_0 hx hb ht hown hK hP m_1139 (v := (iv 12 0)) rfl dX12_span_32 ?_
          have hFc := free_all hD hS hA
          refine va_calli (va_runV (As := [.int a, .int 0, .int (iv 12 0)]) (rest := []) ⟨hx, hb, hml, hown, ht⟩ (c_X12_sumUp_c l dC dI s.heap.size h g ca iv lv fa la hI a 0 (iv 12 0) (show (-1) ≤ ((iv 12 20) : Int32).toInt ∧ ((iv 12 20) : Int32).toInt ≤ (-1) from ⟨by omega, by omega⟩) (show (-1) ≤ ((iv 12 21) : Int32).toInt ∧ ((iv 12 21) : Int32).toInt ≤ (-1) from ⟨by omega, by omega⟩) (show (-1) ≤ ((iv 12 22) : Int32).toInt ∧ ((iv 12 22) : Int32).toInt ≤ (-1) from ⟨by omega, by omega⟩) hJR) (kV 3 ht m_1434 m_1436 m_45 m_89 m_1437 rfl rfl hd_X12_sumUp_v ⟨Nat.le_of_ble_eq_true rfl, Nat.le_of_ble_eq_true rfl⟩) (vW hP hK hD (rM_12 hK hP)) rfl rfl hl.1 rfl (lv_room (Nat.le_of_ble_eq_true rfl)) dX12_span_35 ⟨Nat.le_of_ble_eq_true rfl, Nat.le_of_ble_eq_true rfl⟩) hS (fun q _ h => hFc q h) hFc (fun r6 u t H1 locs ht9 hvm hr6 hB hz1 hk1 hS => ?_)
          obtain ⟨n7, n8, n9, xr6_0, xr6_1, xr6_2, xr6_3, xr6_4, xr6_5, hr6, rfl⟩ := hr6
          obtain ⟨hP, hD⟩ := hB
          rw [ht9] at hP
          generalize H1 = H at hP hS ⊢
          have hP : va_P (dC, dI) classes (WM h g ca (u2 iv 12 19 n7) (u2 (u2 lv 12 17 n8) 12 18 n9) fa la) H := hP
          have hD : va_D A (WM h g ca (u2 iv 12 19 n7) (u2 (u2 lv 12 17 n8) 12 18 n9) fa la) := (show va_D _ (WM h g ca (u2 iv 12 19 n7) (u2 (u2 lv 12 17 n8) 12 18 n9) fa la) from hD).weaken (fun _ _ _ h => hFc _ h)
          have xr6_0 : 0 ≤ (r6 : Int32).toInt := xr6_0
          have xr6_1 : (r6 : Int32).toInt ≤ 60 := xr6_1
          have xr6_2 : 0 ≤ (n9 : Int64).toInt := xr6_2
          have xr6_3 : (n9 : Int64).toInt ≤ 599940 := xr6_3
          have xr6_4 : 100 * (r6 : Int32).toInt ≤ (n9 : Int64).toInt := xr6_4
          have i_12_3 : 0 ≤ (iv 12 3).toInt ∧ (iv 12 3).toInt ≤ 60 := hI.1 12 3
          have xr6_5 : 100 * ((cn1 (fa 12 4) (fa 12 5) (fa 12 11) (fa 12 12) (a : Int32) (0 : Int32) ((iv 12 0) : Int32) (((iv 12 3) : Int32).toInt).toNat : Nat) : Int) ≤ (n9 : Int64).toInt := xr6_5
          refine lv_if_ne (tgt := 45) hx hb dX12_span_38 (by decide) (fun c10 => ?_) (fun c10 => ?_)
          · have fc10 := z_ne (rfl : (r6).toInt = _) (by decide : (0 : Int32).toInt = 0) c10
            refine lv_lconst (v := 0) hx hb dX12_span_45 (by decide) ?_
            refine lv_lstore_n (lv' := [(3, .long 0), (0, .ref h), (1, .int a), (2, .int b)]) hx hb dX12_span_46 rfl hl (by decide) rfl (fun ls hl => ?_)
            refine lv_iconst (v := 0) hx hb dX12_span_47 (by decide) ?_
            refine lv_istore (lv' := [(5, .int 0), (3, .long 0), (0, .ref h), (1, .int a), (2, .int b)]) hx hb dX12_span_48 hl (by decide) rfl (fun ls hl => ?_)
            have lp716 : ∀ (nn716 : Nat) (x715_5 : Int32) (x715_3 : Int64), 0 ≤ x715_5.toInt ∧ x715_5.toInt ≤ 60 → ((x715_3 : Int64).toInt ≤ 40 * ((cn1 (fa 12 4) (fa 12 5) (fa 12 11) (fa 12 12) a 0 (iv 12 0) ((x715_5 : Int32).toInt).toNat : Nat) : Int)) → -40 * (x715_5 : Int32).toInt ≤ (x715_3 : Int64).toInt → (x715_3 : Int64).toInt ≤ 40 * (x715_5 : Int32).toInt → (x715_5 : Int32).toInt ≤ ((iv 12 3) : Int32).toInt → 60 - x715_5.toInt < (nn716 : Int) → ∀ (H : Heap) (locs : List Loc), ∀ (ls : Array Slot), va_P (dC, dI) classes (WM h g ca (u2 iv 12 19 n7) (u2 (u2 lv 12 17 n8) 12 18 n9) fa la) H → va_D A (WM h g ca (u2 iv 12 19 n7) (u2 (u2 lv 12 17 n8) 12 18 n9) fa la) → va_S A s.heap H locs → lv_has ls 6 [(5, .int x715_5), (3, .long x715_3), (0, .ref h), (1, .int a), (2, .int b)] → W p l e ({ frames := 3, cells := 0, slots := 0, locals := 92 } : Room) s m ([.ref h, .int a, .int b] : List Value).toArray below meth c H locs 0 0 (MQ below (va_Ql (fun r (u : SS) => ∃ (na_12_39 : Nat → Int32) (na_12_40 : Nat → Int32) (ni_12_19 : Int32) (ni_12_41 : Int32) (nl_12_17 : Int64) (nl_12_18 : Int64) (nl_12_46 : Int64) (nl_12_47 : Int64), (∀ j, inb (bA 12 39 j) (na_12_39 j)) ∧ (∀ j, inb (bA 12 40 j) (na_12_40 j)) ∧ inb (bI 12 41) ni_12_41 ∧ (True) ∧ u = ((u2 (u2 iv 12 19 ni_12_19) 12 41 ni_12_41), (u2 (u2 (u2 (u2 lv 12 17 nl_12_17) 12 18 nl_12_18) 12 46 nl_12_46) 12 47 nl_12_47), (u2 (u2 fa 12 39 na_12_39) 12 40 na_12_40), la)) (bM (dC, dI) h g ca A) A) ([.ref h, .int a, .int b] : List Value).toArray s 0 0 A) (F0 m 50 ls []) := by
              intro nn716
              induction nn716 with
              | zero => intro x715_5 x715_3 hx715_5 hq716_0 hq716_1 hq716_2 hq716_3 hm716; exfalso; omega
              | succ nn716 ih716 =>
                intro x715_5 x715_3 hx715_5 hq716_0 hq716_1 hq716_2 hq716_3 hm716 H locs ls hP hD hS hl
                refine lv_iload hx hb dX12_span_50 (lv_at hl 0 rfl) ?_
                refine lv_aload_n hx hb dX12_span_52 rfl (lv_at hl 2 rfl) ?_
                refine gM_12_3 hx hb ht hown hK hP m_1142 (v := (iv 12 3)) rfl dX12_span_53 ?_
                refine lv_icmp_ge (tgt := 134) hx hb dX12_span_56 (by decide) (fun c717 => ?_) (fun c717 => ?_)
                · have fc717 := z_le (rfl : ((iv 12 3)).toInt = _) (rfl : (x715_5).toInt = _) c717
                  have he9 : (x715_5 : Int32).toInt = (iv 12 3).toInt := by omega
                  have hq9 := hq716_0
                  rw [he9] at hq9
                  refine lv_aload_n hx hb dX12_span_134 rfl (lv_at hl 2 rfl) ?_
                  refine lv_iload_n hx hb dX12_span_135 rfl (lv_at hl 3 rfl) ?_
                  refine lv_aload_n hx hb dX12_span_136 rfl (lv_at hl 2 rfl) ?_
                  refine gM_12_17 hx hb ht hown hK hP m_1156 (v := n8) rfl dX12_span_137 ?_
                  refine lv_lload_n hx hb dX12_span_140 rfl (lv_at hl 1 rfl) ?_
                  refine lv_lsub hx hb dX12_span_141 ?_
                  refine lv_topl (fun w718 ew718 => ?_)
                  refine lv_aload_n hx hb dX12_span_142 rfl (lv_at hl 2 rfl) ?_
                  refine gM_12_18 hx hb ht hown hK hP m_1157 (v := n9) rfl dX12_span_143 ?_
                  refine lv_lload_n hx hb dX12_span_146 rfl (lv_at hl 1 rfl) ?_
                  have : (-2400) ≤ (x715_3 : Int64).toInt ∧ (x715_3 : Int64).toInt ≤ 2400 := ⟨by omega, by omega⟩
                  have : 0 ≤ (n9 : Int64).toInt ∧ (n9 : Int64).toInt ≤ 599940 := ⟨by omega, by omega⟩
                  refine lv_lsub hx hb dX12_span_147 ?_
                  refine lv_topl (fun w719 ew719 => ?_)
                  have tw719 := l_sub ew719 (rfl : (n9).toInt = _) (rfl : (x715_3).toInt = _) (by omega) (by omega)
                  refine lv_aload_n hx hb dX12_span_148 rfl (lv_at hl 2 rfl) ?_
                  refine gM_12_0 hx hb ht hown hK hP m_1139 (v := (iv 12 0)) rfl dX12_span_149 ?_
                  have hFc := free_all hD hS hA
                  refine va_callv (va_runV (As := [.int a, .long w718, .long w719, .int (iv 12 0)]) (rest := []) ⟨hx, hb, hml, hown, ht⟩ (c_X12_findLawful l dC dI H.size h g ca (u2 iv 12 19 n7) (u2 (u2 lv 12 17 n8) 12 18 n9) fa la (IX_i (c := 12) (k := 19) hI (full_i _)) a w718 w719 (iv 12 0) ⟨by omega, by omega⟩ (show (w719 : Int64).toInt ≠ 0 from by omega) (show -1000000000000 ≤ (w719 : Int64).toInt from by omega) (show (w719 : Int64).toInt ≤ 1000000000000 from by omega) hJC) (kV 4 ht m_1563 m_1565 m_63 m_89 m_1566 rfl rfl hd_X12_findLawful_v ⟨Nat.le_of_ble_eq_true rfl, Nat.le_of_ble_eq_true rfl⟩) (vW hP hK hD (rM_12 hK hP)) rfl rfl hl.1 rfl (lv_room (Nat.le_of_ble_eq_true rfl)) dX12_span_152 ⟨Nat.le_of_ble_eq_true rfl, Nat.le_of_ble_eq_true rfl⟩) hS (fun q _ h => hFc q h) hFc (fun u t H1 locs ht9 hvm hr720 hB hz1 hk1 hS => ?_)
                  obtain ⟨n721, n722, n723, n724, n725, hn721, hn722, hn723, xr720_0, rfl⟩ := hr720
                  have hn723 : 0 ≤ n723.toInt ∧ n723.toInt ≤ 8 := hn723
                  obtain ⟨hP, hD⟩ := hB
                  rw [ht9] at hP
                  generalize H1 = H at hP hS ⊢
                  have hP : va_P (dC, dI) classes (WM h g ca (u2 (u2 iv 12 19 n7) 12 41 n723) (u2 (u2 (u2 (u2 lv 12 17 n8) 12 18 n9) 12 46 n724) 12 47 n725) (u2 (u2 fa 12 39 n721) 12 40 n722) la) H := hP
                  have hD : va_D A (WM h g ca (u2 (u2 iv 12 19 n7) 12 41 n723) (u2 (u2 (u2 (u2 lv 12 17 n8) 12 18 n9) 12 46 n724) 12 47 n725) (u2 (u2 fa 12 39 n721) 12 40 n722) la) := (show va_D _ (WM h g ca (u2 (u2 iv 12 19 n7) 12 41 n723) (u2 (u2 (u2 (u2 lv 12 17 n8) 12 18 n9) 12 46 n724) 12 47 n725) (u2 (u2 fa 12 39 n721) 12 40 n722) la) from hD).weaken (fun _ _ _ h => hFc _ h)
                  have xr720_0 : (n725 : Int64).toInt ≠ 0 := xr720_0
                  refine lv_iload_n hx hb dX12_span_155 rfl (lv_at hl 4 rfl) ?_
                  refine lv_iconst (v := 2) hx hb dX12_span_156 (by decide) ?_
                  refine lv_irem hx hb dX12_span_157 (by decide) ?_
                  refine lv_topi (fun v726 ev726 => ?_)
                  have tv726 := z_remp ev726 (rfl : (b).toInt = _) (by decide : (2 : Int32).toInt = 2) (by omega) (by omega)
                  refine lv_if_ne (tgt := 168) hx hb dX12_span_158 (by decide) (fun c727 => ?_) (fun c727 => ?_)
                  · have fc727 := z_ne (rfl : (v726).toInt = _) (by decide : (0 : Int32).toInt = 0) c727
                    refine lv_aload_n hx hb dX12_span_168 rfl (lv_at hl 2 rfl) ?_
                    refine gM_12_47 hx hb ht hown hK hP m_1186 (v := n725) rfl dX12_span_169 ?_
                    have hP9 : va_P (dC, dI) classes (WM h g ca (u2 (u2 iv 12 19 n7) 12 41 n723) (u2 (u2 (u2 (u2 lv 12 17 n8) 12 18 n9) 12 46 n724) 12 47 n725) (u2 (u2 fa 12 39 n721) 12 40 n722) la) H := hP
                    have hD9 : va_D A (WM h g ca (u2 (u2 iv 12 19 n7) 12 41 n723) (u2 (u2 (u2 (u2 lv 12 17 n8) 12 18 n9) 12 46 n724) 12 47 n725) (u2 (u2 fa 12 39 n721) 12 40 n722) la) := hD
                    exact W.lret (v := n725) hx hb hr (fun t ht9 hW => ⟨⟨n725, ((u2 (u2 iv 12 19 n7) 12 41 n723), (u2 (u2 (u2 (u2 lv 12 17 n8) 12 18 n9) 12 46 n724) 12 47 n725), (u2 (u2 fa 12 39 n721) 12 40 n722), la), rfl, ⟨n721, n722, n7, n723, n8, n9, n724, n725, hn721, hn722, (show inb (0, 8) n723 from ⟨by omega, by omega⟩), trivial, rfl⟩, by rw [ht9]; exact hP9, hD9⟩, hS.F ht9⟩) hS.2.2 dX12_span_172
                  · have fc727 := z_eq (rfl : (v726).toInt = _) (by decide : (0 : Int32).toInt = 0) c727
                    refine lv_aload_n hx hb dX12_span_161 rfl (lv_at hl 2 rfl) ?_
                    refine gM_12_46 hx hb ht hown hK hP m_1185 (v := n724) rfl dX12_span_162 ?_
                    refine lv_goto (tgt := 172) hx hb dX12_span_165 (by decide) ?_
                    have hP9 : va_P (dC, dI) classes (WM h g ca (u2 (u2 iv 12 19 n7) 12 41 n723) (u2 (u2 (u2 (u2 lv 12 17 n8) 12 18 n9) 12 46 n724) 12 47 n725) (u2 (u2 fa 12 39 n721) 12 40 n722) la) H := hP
                    have hD9 : va_D A (WM h g ca (u2 (u2 iv 12 19 n7) 12 41 n723) (u2 (u2 (u2 (u2 lv 12 17 n8) 12 18 n9) 12 46 n724) 12 47 n725) (u2 (u2 fa 12 39 n721) 12 40 n722) la) := hD
                    exact W.lret (v := n724) hx hb hr (fun t ht9 hW => ⟨⟨n724, ((u2 (u2 iv 12 19 n7) 12 41 n723), (u2 (u2 (u2 (u2 lv 12 17 n8) 12 18 n9) 12 46 n724) 12 47 n725), (u2 (u2 fa 12 39 n721) 12 40 n722), la), rfl, ⟨n721, n722, n7, n723, n8, n9, n724, n725, hn721, hn722, (show inb (0, 8) n723 from ⟨by omega, by omega⟩), trivial, rfl⟩, by rw [ht9]; exact hP9, hD9⟩, hS.F ht9⟩) hS.2.2 dX12_span_172
                · have fc717 := z_nle (rfl : ((iv 12 3)).toInt = _) (rfl : (x715_5).toInt = _) c717
                  refine lv_aload_n hx hb dX12_span_59 rfl (lv_at hl 2 rfl) ?_
                  refine gM_12_4 hx hb ht hown hK hP m_1143 dX12_span_60 ?_
                  refine lv_iload hx hb dX12_span_63 (lv_at hl 0 rfl) ?_
                  refine lM_12_4 hx hb hK hP (f := (fa 12 4)) rfl (vp_in_iff.mpr ⟨by omega, by omega⟩) dX12_span_65 ?_
                  refine lv_topi (fun v728 ev728 => ?_)
                  refine lv_iload_n hx hb dX12_span_66 rfl (lv_at hl 3 rfl) ?_
                  refine lv_icmp_ne (tgt := 128) hx hb dX12_span_67 (by decide) (fun c729 => ?_) (fun c729 => ?_)
                  · have fc729 := z_ne (rfl : (v728).toInt = _) (rfl : (a).toInt = _) c729
                    obtain ⟨v730, ev730⟩ : ∃ y : Int32, y = x715_5 + 1 := ⟨_, rfl⟩
                    have tv730 := z_add ev730 rfl (by decide : (1 : Int32).toInt = 1) (by omega) (by omega)
                    refine lv_iinc (v := v730) (lv' := [(5, .int v730), (3, .long x715_3), (0, .ref h), (1, .int a), (2, .int b)]) hx hb dX12_span_128 hl (k := 0) rfl (by rw [ev730]; rfl) (by decide) rfl (fun ls hl => ?_)
                    refine lv_goto (tgt := 50) hx hb dX12_span_131 (by decide) ?_
                    exact ih716 v730 x715_3 ⟨by omega, by omega⟩ (show (x715_3 : Int64).toInt ≤ 40 * ((cn1 (fa 12 4) (fa 12 5) (fa 12 11) (fa 12 12) a 0 (iv 12 0) ((v730 : Int32).toInt).toNat : Nat) : Int) from (by have hc := (cn1_up (ob := fa 12 4) (ol := fa 12 5) (dy := fa 12 11) (lo := fa 12 12) (b := a) (l := 0) (d := (iv 12 0)) (s := x715_5) (s' := v730) (by omega) (by omega)).1; have hq9 := hq716_0; omega)) (show -40 * (v730 : Int32).toInt ≤ (x715_3 : Int64).toInt from by omega) (show (x715_3 : Int64).toInt ≤ 40 * (v730 : Int32).toInt from by omega) (show (v730 : Int32).toInt ≤ ((iv 12 3) : Int32).toInt from by omega) (by omega) _ _ ls hP hD hS (lv_sub hl [0, 1, 2, 3, 4] rfl)
                  · have fc729 := z_eq (rfl : (v728).toInt = _) (rfl : (a).toInt = _) c729
                    refine lv_aload_n hx hb dX12_span_70 rfl (lv_at hl 2 rfl) ?_
                    refine gM_12_5 hx hb ht hown hK hP m_1144 dX12_span_71 ?_
                    refine lv_iload hx hb dX12_span_74 (lv_at hl 0 rfl) ?_
                    refine lM_12_5 hx hb hK hP (f := (fa 12 5)) rfl (vp_in_iff.mpr ⟨by omega, by omega⟩) dX12_span_76 ?_
                    refine lv_topi (fun v731 ev731 => ?_)
                    refine lv_if_ne (tgt := 128) hx hb dX12_span_77 (by decide) (fun c732 => ?_) (fun c732 => ?_)
                    · have fc732 := z_ne (rfl : (v731).toInt = _) (by decide : (0 : Int32).toInt = 0) c732
                      obtain ⟨v733, ev733⟩ : ∃ y : Int32, y = x715_5 + 1 := ⟨_, rfl⟩
                      have tv733 := z_add ev733 rfl (by decide : (1 : Int32).toInt = 1) (by omega) (by omega)
                      refine lv_iinc (v := v733) (lv' := [(5, .int v733), (3, .long x715_3), (0, .ref h), (1, .int a), (2, .int b)]) hx hb dX12_span_128 hl (k := 0) rfl (by rw [ev733]; rfl) (by decide) rfl (fun ls hl => ?_)
                      refine lv_goto (tgt := 50) hx hb dX12_span_131 (by decide) ?_
                      exact ih716 v733 x715_3 ⟨by omega, by omega⟩ (show (x715_3 : Int64).toInt ≤ 40 * ((cn1 (fa 12 4) (fa 12 5) (fa 12 11) (fa 12 12) a 0 (iv 12 0) ((v733 : Int32).toInt).toNat : Nat) : Int) from (by have hc := (cn1_up (ob := fa 12 4) (ol := fa 12 5) (dy := fa 12 11) (lo := fa 12 12) (b := a) (l := 0) (d := (iv 12 0)) (s := x715_5) (s' := v733) (by omega) (by omega)).1; have hq9 := hq716_0; omega)) (show -40 * (v733 : Int32).toInt ≤ (x715_3 : Int64).toInt from by omega) (show (x715_3 : Int64).toInt ≤ 40 * (v733 : Int32).toInt from by omega) (show (v733 : Int32).toInt ≤ ((iv 12 3) : Int32).toInt from by omega) (by omega) _ _ ls hP hD hS (lv_sub hl [0, 1, 2, 3, 4] rfl)
                    · have fc732 := z_eq (rfl : (v731).toInt = _) (by decide : (0 : Int32).toInt = 0) c732
                      refine lv_aload_n hx hb dX12_span_80 rfl (lv_at hl 2 rfl) ?_
                      refine lv_iload hx hb dX12_span_81 (lv_at hl 0 rfl) ?_
                      refine lv_aload_n hx hb dX12_span_83 rfl (lv_at hl 2 rfl) ?_
                      refine gM_12_0 hx hb ht hown hK hP m_1139 (v := (iv 12 0)) rfl dX12_span_84 ?_
                      refine vp_callSi (W.runV (As := [.int x715_5, .int (iv 12 0)]) (rest := []) ⟨hx, hb, hml, hown, ht⟩ (c_X12_isThere_x l dC dI h g ca (u2 iv 12 19 n7) (u2 (u2 lv 12 17 n8) 12 18 n9) fa la (IX_i (c := 12) (k := 19) hI (full_i _)) x715_5 (iv 12 0) ⟨by omega, by omega⟩) (kV 2 ht m_1438 m_1440 m_46 m_89 m_1441 rfl rfl hd_X12_isThere_v ⟨Nat.le_of_ble_eq_true rfl, Nat.le_of_ble_eq_true rfl⟩) (vR hP hK (rM_12 hK hP)) rfl rfl hl.1 rfl (lv_room (Nat.le_of_ble_eq_true rfl)) dX12_span_87 ⟨Nat.le_of_ble_eq_true rfl, Nat.le_of_ble_eq_true rfl⟩) (fun r734 hr734 => ?_)
                      obtain ⟨hr734, xr734_0⟩ := hr734
                      have xr734_0 : (((r734 : Int32).toInt = 1 ∧ ((fa 12 11) (x715_5 : Int32).toNatClampNeg).toInt ≤ ((iv 12 0) : Int32).toInt ∧ (((fa 12 12) (x715_5 : Int32).toNatClampNeg).toInt < 0 ∨ ((iv 12 0) : Int32).toInt < ((fa 12 12) (x715_5 : Int32).toNatClampNeg).toInt)) ∨ ((r734 : Int32).toInt = 0 ∧ ¬ (((fa 12 11) (x715_5 : Int32).toNatClampNeg).toInt ≤ ((iv 12 0) : Int32).toInt ∧ (((fa 12 12) (x715_5 : Int32).toNatClampNeg).toInt < 0 ∨ ((iv 12 0) : Int32).toInt < ((fa 12 12) (x715_5 : Int32).toNatClampNeg).toInt)))) := xr734_0
                      refine lv_if_eq (tgt := 128) hx hb dX12_span_90 (by decide) (fun c735 => ?_) (fun c735 => ?_)
                      · have fc735 := z_eq (rfl : (r734).toInt = _) (by decide : (0 : Int32).toInt = 0) c735
                        obtain ⟨v736, ev736⟩ : ∃ y : Int32, y = x715_5 + 1 := ⟨_, rfl⟩
                        have tv736 := z_add ev736 rfl (by decide : (1 : Int32).toInt = 1) (by omega) (by omega)
                        refine lv_iinc (v := v736) (lv' := [(5, .int v736), (3, .long x715_3), (0, .ref h), (1, .int a), (2, .int b)]) hx hb dX12_span_128 hl (k := 0) rfl (by rw [ev736]; rfl) (by decide) rfl (fun ls hl => ?_)
                        refine lv_goto (tgt := 50) hx hb dX12_span_131 (by decide) ?_
                        exact ih716 v736 x715_3 ⟨by omega, by omega⟩ (show (x715_3 : Int64).toInt ≤ 40 * ((cn1 (fa 12 4) (fa 12 5) (fa 12 11) (fa 12 12) a 0 (iv 12 0) ((v736 : Int32).toInt).toNat : Nat) : Int) from (by have hc := (cn1_up (ob := fa 12 4) (ol := fa 12 5) (dy := fa 12 11) (lo := fa 12 12) (b := a) (l := 0) (d := (iv 12 0)) (s := x715_5) (s' := v736) (by omega) (by omega)).1; have hq9 := hq716_0; omega)) (show -40 * (v736 : Int32).toInt ≤ (x715_3 : Int64).toInt from by omega) (show (x715_3 : Int64).toInt ≤ 40 * (v736 : Int32).toInt from by omega) (show (v736 : Int32).toInt ≤ ((iv 12 3) : Int32).toInt from by omega) (by omega) _ _ ls hP hD hS (lv_sub hl [0, 1, 2, 3, 4] rfl)
                      · have fc735 := z_ne (rfl : (r734).toInt = _) (by decide : (0 : Int32).toInt = 0) c735
                        refine lv_lload_n hx hb dX12_span_93 rfl (lv_at hl 1 rfl) ?_
                        refine lv_aload_n hx hb dX12_span_94 rfl (lv_at hl 2 rfl) ?_
                        refine lv_aload_n hx hb dX12_span_95 rfl (lv_at hl 2 rfl) ?_
                        refine gM_12_6 hx hb ht hown hK hP m_1145 dX12_span_96 ?_
                        refine lv_iload hx hb dX12_span_99 (lv_at hl 0 rfl) ?_
                        refine lM_12_6 hx hb hK hP (f := (fa 12 6)) rfl (vp_in_iff.mpr ⟨by omega, by omega⟩) dX12_span_101 ?_
                        refine lv_topi (fun v737 ev737 => ?_)
                        refine lv_aload_n hx hb dX12_span_102 rfl (lv_at hl 2 rfl) ?_
                        refine gM_12_11 hx hb ht hown hK hP m_1150 dX12_span_103 ?_
                        refine lv_iload hx hb dX12_span_106 (lv_at hl 0 rfl) ?_
                        refine lM_12_11 hx hb hK hP (f := (fa 12 11)) rfl (vp_in_iff.mpr ⟨by omega, by omega⟩) dX12_span_108 ?_
                        refine lv_topi (fun v738 ev738 => ?_)
                        refine lv_iload_n hx hb dX12_span_109 rfl (lv_at hl 4 rfl) ?_
                        refine lv_iconst (v := 2) hx hb dX12_span_110 (by decide) ?_
                        refine lv_icmp_ge (tgt := 118) hx hb dX12_span_111 (by decide) (fun c739 => ?_) (fun c739 => ?_)
                        · have fc739 := z_le (by decide : (2 : Int32).toInt = 2) (rfl : (b).toInt = _) c739
                          refine lv_iconst (v := 0) hx hb dX12_span_118 (by decide) ?_
                          refine vp_callSi (W.runV (As := [.int v737, .int v738, .int 0]) (rest := [.long x715_3]) ⟨hx, hb, hml, hown, ht⟩ (c_X12_errorOf l dC dI h g ca (u2 iv 12 19 n7) (u2 (u2 lv 12 17 n8) 12 18 n9) fa la (IX_i (c := 12) (k := 19) hI (full_i _)) v737 v738 0 ⟨by decide, by decide⟩) (kV 3 ht m_1426 m_1428 m_44 m_89 m_1429 rfl rfl hd_X12_errorOf_v ⟨Nat.le_of_ble_eq_true rfl, Nat.le_of_ble_eq_true rfl⟩) (vR hP hK (rM_12 hK hP)) rfl rfl hl.1 rfl (lv_room (Nat.le_of_ble_eq_true rfl)) dX12_span_119 ⟨Nat.le_of_ble_eq_true rfl, Nat.le_of_ble_eq_true rfl⟩) (fun r740 hr740 => ?_)
                          refine vp_callSi (W.runS (As := [.int r740]) (rest := [.long x715_3]) ⟨hx, hb, hml, hown, ht⟩ (c_X12_held_x l dC dI r740) (kS 1 ht m_1571 m_1572 m_89 m_1573 rfl rfl hd_X12_held_v ⟨Nat.le_of_ble_eq_true rfl, Nat.le_of_ble_eq_true rfl⟩) (sR noP (hK.sub (tys' := []) [] rfl)) rfl rfl hl.1 rfl (lv_room (Nat.le_of_ble_eq_true rfl)) dX12_span_122 ⟨Nat.le_of_ble_eq_true rfl, Nat.le_of_ble_eq_true rfl⟩) (fun r741 hr741 => ?_)
                          refine lv_i2l (v := (r741.toInt64)) hx hb dX12_span_125 rfl ?_
                          have : (-2400) ≤ (x715_3 : Int64).toInt ∧ (x715_3 : Int64).toInt ≤ 2400 := ⟨by omega, by omega⟩
                          refine lv_ladd hx hb dX12_span_126 ?_
                          refine lv_topl (fun w742 ew742 => ?_)
                          have tw742 := l_add ew742 (rfl : (x715_3).toInt = _) ((Int32.toInt_toInt64 r741).trans rfl) (by omega) (by omega)
                          refine lv_lstore_n (lv' := [(3, .long w742), (5, .int x715_5), (0, .ref h), (1, .int a), (2, .int b)]) hx hb dX12_span_127 rfl hl (by decide) rfl (fun ls hl => ?_)
                          obtain ⟨v743, ev743⟩ : ∃ y : Int32, y = x715_5 + 1 := ⟨_, rfl⟩
                          have tv743 := z_add ev743 rfl (by decide : (1 : Int32).toInt = 1) (by omega) (by omega)
                          refine lv_iinc (v := v743) (lv' := [(5, .int v743), (3, .long w742), (0, .ref h), (1, .int a), (2, .int b)]) hx hb dX12_span_128 hl (k := 1) rfl (by rw [ev743]; rfl) (by decide) rfl (fun ls hl => ?_)
                          refine lv_goto (tgt := 50) hx hb dX12_span_131 (by decide) ?_
                          exact ih716 v743 w742 ⟨by omega, by omega⟩ (show (w742 : Int64).toInt ≤ 40 * ((cn1 (fa 12 4) (fa 12 5) (fa 12 11) (fa 12 12) a 0 (iv 12 0) ((v743 : Int32).toInt).toNat : Nat) : Int) from (by have hc := cn1_next (ob := fa 12 4) (ol := fa 12 5) (dy := fa 12 11) (lo := fa 12 12) (b := a) (l := 0) (d := (iv 12 0)) (s := x715_5) (s' := v743) (by omega) (by omega) (by have : (0 : Int32).toInt = 0 := (by decide); have := congrArg Int32.toInt ev728; have := congrArg Int32.toInt ev731; have := congrArg Int32.toInt ev738; omega); have hq9 := hq716_0; omega)) (show -40 * (v743 : Int32).toInt ≤ (w742 : Int64).toInt from by omega) (show (w742 : Int64).toInt ≤ 40 * (v743 : Int32).toInt from by omega) (show (v743 : Int32).toInt ≤ ((iv 12 3) : Int32).toInt from by omega) (by omega) _ _ ls hP hD hS (lv_sub hl [0, 1, 2, 3, 4] rfl)
                        · have fc739 := z_nle (by decide : (2 : Int32).toInt = 2) (rfl : (b).toInt = _) c739
                          refine lv_iconst (v := 1) hx hb dX12_span_114 (by decide) ?_
                          refine lv_goto (tgt := 119) hx hb dX12_span_115 (by decide) ?_
                          refine vp_callSi (W.runV (As := [.int v737, .int v738, .int 1]) (rest := [.long x715_3]) ⟨hx, hb, hml, hown, ht⟩ (c_X12_errorOf l dC dI h g ca (u2 iv 12 19 n7) (u2 (u2 lv 12 17 n8) 12 18 n9) fa la (IX_i (c := 12) (k := 19) hI (full_i _)) v737 v738 1 ⟨by decide, by decide⟩) (kV 3 ht m_1426 m_1428 m_44 m_89 m_1429 rfl rfl hd_X12_errorOf_v ⟨Nat.le_of_ble_eq_true rfl, Nat.le_of_ble_eq_true rfl⟩) (vR hP hK (rM_12 hK hP)) rfl rfl hl.1 rfl (lv_room (Nat.le_of_ble_eq_true rfl)) dX12_span_119 ⟨Nat.le_of_ble_eq_true rfl, Nat.le_of_ble_eq_true rfl⟩) (fun r744 hr744 => ?_)
                          refine vp_callSi (W.runS (As := [.int r744]) (rest := [.long x715_3]) ⟨hx, hb, hml, hown, ht⟩ (c_X12_held_x l dC dI r744) (kS 1 ht m_1571 m_1572 m_89 m_1573 rfl rfl hd_X12_held_v ⟨Nat.le_of_ble_eq_true rfl, Nat.le_of_ble_eq_true rfl⟩) (sR noP (hK.sub (tys' := []) [] rfl)) rfl rfl hl.1 rfl (lv_room (Nat.le_of_ble_eq_true rfl)) dX12_span_122 ⟨Nat.le_of_ble_eq_true rfl, Nat.le_of_ble_eq_true rfl⟩) (fun r745 hr745 => ?_)
                          refine lv_i2l (v := (r745.toInt64)) hx hb dX12_span_125 rfl ?_
                          have : (-2400) ≤ (x715_3 : Int64).toInt ∧ (x715_3 : Int64).toInt ≤ 2400 := ⟨by omega, by omega⟩
                          refine lv_ladd hx hb dX12_span_126 ?_
                          refine lv_topl (fun w746 ew746 => ?_)
                          have tw746 := l_add ew746 (rfl : (x715_3).toInt = _) ((Int32.toInt_toInt64 r745).trans rfl) (by omega) (by omega)
                          refine lv_lstore_n (lv' := [(3, .long w746), (5, .int x715_5), (0, .ref h), (1, .int a), (2, .int b)]) hx hb dX12_span_127 rfl hl (by decide) rfl (fun ls hl => ?_)
                          obtain ⟨v747, ev747⟩ : ∃ y : Int32, y = x715_5 + 1 := ⟨_, rfl⟩
                          have tv747 := z_add ev747 rfl (by decide : (1 : Int32).toInt = 1) (by omega) (by omega)
                          refine lv_iinc (v := v747) (lv' := [(5, .int v747), (3, .long w746), (0, .ref h), (1, .int a), (2, .int b)]) hx hb dX12_span_128 hl (k := 1) rfl (by rw [ev747]; rfl) (by decide) rfl (fun ls hl => ?_)
                          refine lv_goto (tgt := 50) hx hb dX12_span_131 (by decide) ?_
                          exact ih716 v747 w746 ⟨by omega, by omega⟩ (show (w746 : Int64).toInt ≤ 40 * ((cn1 (fa 12 4) (fa 12 5) (fa 12 11) (fa 12 12) a 0 (iv 12 0) ((v747 : Int32).toInt).toNat : Nat) : Int) from (by have hc := cn1_next (ob := fa 12 4) (ol := fa 12 5) (dy := fa 12 11) (lo := fa 12 12) (b := a) (l := 0) (d := (iv 12 0)) (s := x715_5) (s' := v747) (by omega) (by omega) (by have : (0 : Int32).toInt = 0 := (by decide); have := congrArg Int32.toInt ev728; have := congrArg Int32.toInt ev731; have := congrArg Int32.toInt ev738; omega); have hq9 := hq716_0; omega)) (show -40 * (v747 : Int32).toInt ≤ (w746 : Int64).toInt from by omega) (show (w746 : Int64).toInt ≤ 40 * (v747 : Int32).toInt from by omega) (show (v747 : Int32).toInt ≤ ((iv 12 3) : Int32).toInt from by omega) (by omega) _ _ ls hP hD hS (lv_sub hl [0, 1, 2, 3, 4] rfl)
            have : (0 : Int32).toInt = 0 := (by decide)
            have : (0 : Int64).toInt = 0 := (by decide)
            exact lp716 61 0 0 ⟨by decide, by decide⟩ (show (0 : Int64).toInt ≤ 40 * ((cn1 (fa 12 4) (fa 12 5) (fa 12 11) (fa 12 12) a 0 (iv 12 0) ((0 : Int32).toInt).toNat : Nat) : Int) from by show _ ≤ 40 * ((0 : Nat) : Int); omega) (show -40 * (0 : Int32).toInt ≤ (0 : Int64).toInt from by omega) (show (0 : Int64).toInt ≤ 40 * (0 : Int32).toInt from by omega) (show (0 : Int32).toInt ≤ ((iv 12 3) : Int32).toInt from by omega) (by first | decide | omega) _ _ ls hP hD hS (lv_sub hl [0, 1, 2, 3, 4] rfl)
          · have fc10 := z_eq (rfl : (r6).toInt = _) (by decide : (0 : Int32).toInt = 0) c10
            refine lv_ldc2 hx hb hown (ht _ m_1562) dX12_span_41 ?_
            have hP9 : va_P (dC, dI) classes (WM h g ca (u2 (u2 iv 12 19 n7) 12 41 (iv 12 41)) (u2 (u2 (u2 (u2 lv 12 17 n8) 12 18 n9) 12 46 (lv 12 46)) 12 47 (lv 12 47)) (u2 (u2 fa 12 39 (fa 12 39)) 12 40 (fa 12 40)) la) H := hP
            have hD9 : va_D A (WM h g ca (u2 (u2 iv 12 19 n7) 12 41 (iv 12 41)) (u2 (u2 (u2 (u2 lv 12 17 n8) 12 18 n9) 12 46 (lv 12 46)) 12 47 (lv 12 47)) (u2 (u2 fa 12 39 (fa 12 39)) 12 40 (fa 12 40)) la) := hD
            exact W.lret (v := (-100003)) hx hb hr (fun t ht9 hW => ⟨⟨(-100003), ((u2 (u2 iv 12 19 n7) 12 41 (iv 12 41)), (u2 (u2 (u2 (u2 lv 12 17 n8) 12 18 n9) 12 46 (lv 12 46)) 12 47 (lv 12 47)), (u2 (u2 fa 12 39 (fa 12 39)) 12 40 (fa 12 40)), la), rfl, ⟨(fa 12 39), (fa 12 40), n7, (iv 12 41), n8, n9, (lv 12 46), (lv 12 47), (hI.2 12 39), (hI.2 12 40), (hI.1 12 41), trivial, rfl⟩, by rw [ht9]; exact hP9, hD9⟩, hS.F ht9⟩) hS.2.2 dX12_span_44
        · exact absurd c5 (by decide)
      · skip
        refine lv_if_ne (tgt := 28) hx hb dX12_span_21 (by decide) (fun c748 => ?_) (fun c748 => ?_)
        · exact absurd rfl c748
        · skip
          refine lv_ldc2 hx hb hown (ht _ m_1561) dX12_span_24 ?_
          have hP9 : va_P (dC, dI) classes (WM h g ca (u2 (u2 iv 12 19 (iv 12 19)) 12 41 (iv 12 41)) (u2 (u2 (u2 (u2 lv 12 17 (lv 12 17)) 12 18 (lv 12 18)) 12 46 (lv 12 46)) 12 47 (lv 12 47)) (u2 (u2 fa 12 39 (fa 12 39)) 12 40 (fa 12 40)) la) s.heap := hP
          have hD9 : va_D A (WM h g ca (u2 (u2 iv 12 19 (iv 12 19)) 12 41 (iv 12 41)) (u2 (u2 (u2 (u2 lv 12 17 (lv 12 17)) 12 18 (lv 12 18)) 12 46 (lv 12 46)) 12 47 (lv 12 47)) (u2 (u2 fa 12 39 (fa 12 39)) 12 40 (fa 12 40)) la) := hD
          exact W.lret (v := (-100002)) hx hb hr (fun t ht9 hW => ⟨⟨(-100002), ((u2 (u2 iv 12 19 (iv 12 19)) 12 41 (iv 12 41)), (u2 (u2 (u2 (u2 lv 12 17 (lv 12 17)) 12 18 (lv 12 18)) 12 46 (lv 12 46)) 12 47 (lv 12 47)), (u2 (u2 fa 12 39 (fa 12 39)) 12 40 (fa 12 40)), la), rfl, ⟨(fa 12 39), (fa 12 40), (iv 12 19), (iv 12 41), (lv 12 17), (lv 12 18), (lv 12 46), (lv 12 47), (hI.2 12 39), (hI.2 12 40), (hI.1 12 41), trivial, rfl⟩, by rw [ht9]; exact hP9, hD9⟩, hS.F ht9⟩) hS.2.2 dX12_span_27
    · exact absurd rfl c3
/-! ===== n11 ===== -/
set_option maxRecDepth 100000 in
theorem m_64 : Cond.selects RX12 yX12_haveBoth yX12_haveBoth ∈ tb := tb_in 64 (by decide +kernel) rfl
set_option maxRecDepth 100000 in
theorem m_65 : Cond.selects RX12 yX12_doLooksPart yX12_doLooksPart ∈ tb := tb_in 65 (by decide +kernel) rfl
set_option maxRecDepth 100000 in
theorem m_66 : Cond.selects RX12 yX12_tryCause yX12_tryCause ∈ tb := tb_in 66 (by decide +kernel) rfl
set_option maxRecDepth 100000 in
theorem m_67 : Cond.selects RX12 yX12_leaveOut yX12_leaveOut ∈ tb := tb_in 67 (by decide +kernel) rfl
theorem m_1187 : Cond.fieldLink RX12 382 "SilkHouseModel" "causes" "I" ∈ tb := mb_5_6 _ (List.mem_of_getElem? (i := 4) rfl)
theorem m_1188 : Cond.fieldLink RX12 103 "SilkHouseModel" "causeOf" "[I" ∈ tb := mb_5_6 _ (List.mem_of_getElem? (i := 5) rfl)
theorem m_1578 : Cond.methodLink RX12 385 yX12_haveBoth ∈ tb := mb_7_2 _ (List.mem_of_getElem? (i := 7) rfl)
theorem m_1580 : Cond.instanceMethod yX12_haveBoth ∈ tb := mb_7_2 _ (List.mem_of_getElem? (i := 8) rfl)
theorem m_1581 : Cond.code yX12_haveBoth cX12_haveBoth 2 (some .boolean) ∈ tb := mb_7_2 _ (List.mem_of_getElem? (i := 9) rfl)
theorem m_1582 : Cond.methodLink RX12 379 yX12_doLooksPart ∈ tb := mb_7_2 _ (List.mem_of_getElem? (i := 10) rfl)
theorem m_1584 : Cond.instanceMethod yX12_doLooksPart ∈ tb := mb_7_2 _ (List.mem_of_getElem? (i := 11) rfl)
theorem m_1585 : Cond.code yX12_doLooksPart cX12_doLooksPart 9 (some .boolean) ∈ tb := mb_7_2 _ (List.mem_of_getElem? (i := 12) rfl)
theorem m_1586 : Cond.methodLink RX12 388 yX12_tryCause ∈ tb := mb_7_2 _ (List.mem_of_getElem? (i := 13) rfl)
theorem m_1588 : Cond.instanceMethod yX12_tryCause ∈ tb := mb_7_2 _ (List.mem_of_getElem? (i := 14) rfl)
theorem m_1589 : Cond.code yX12_tryCause cX12_tryCause 12 none ∈ tb := mb_7_2 _ (List.mem_of_getElem? (i := 15) rfl)
theorem m_1590 : Cond.methodLink RX12 375 yX12_leaveOut ∈ tb := mb_7_2 _ (List.mem_of_getElem? (i := 16) rfl)
theorem m_1592 : Cond.instanceMethod yX12_leaveOut ∈ tb := mb_7_2 _ (List.mem_of_getElem? (i := 17) rfl)
theorem m_1593 : Cond.code yX12_leaveOut cX12_leaveOut 4 none ∈ tb := mb_7_2 _ (List.mem_of_getElem? (i := 18) rfl)
theorem hd_X12_doLooksPart_v : yX12_doLooksPart.cls = RX12 ∧ yX12_doLooksPart.cls ≠ "java/lang/invoke/MethodHandle" ∧ yX12_doLooksPart.cls ≠ "java/lang/invoke/VarHandle" ∧ (parseMethodDescriptor yX12_doLooksPart.desc).map (fun d => d.parameters.length) = some 2 := by decide +kernel
theorem hd_X12_haveBoth_v : yX12_haveBoth.cls = RX12 ∧ yX12_haveBoth.cls ≠ "java/lang/invoke/MethodHandle" ∧ yX12_haveBoth.cls ≠ "java/lang/invoke/VarHandle" ∧ (parseMethodDescriptor yX12_haveBoth.desc).map (fun d => d.parameters.length) = some 1 := by decide +kernel
theorem hd_X12_leaveOut_v : yX12_leaveOut.cls = RX12 ∧ yX12_leaveOut.cls ≠ "java/lang/invoke/MethodHandle" ∧ yX12_leaveOut.cls ≠ "java/lang/invoke/VarHandle" ∧ (parseMethodDescriptor yX12_leaveOut.desc).map (fun d => d.parameters.length) = some 3 := by decide +kernel
theorem hd_X12_tryCause_v : yX12_tryCause.cls = RX12 ∧ yX12_tryCause.cls ≠ "java/lang/invoke/MethodHandle" ∧ yX12_tryCause.cls ≠ "java/lang/invoke/VarHandle" ∧ (parseMethodDescriptor yX12_tryCause.desc).map (fun d => d.parameters.length) = some 5 := by decide +kernel
set_option maxRecDepth 100000 in
theorem dvX12_cause_0 : ([(0, .aload_n 0, 1), (1, .iload_n 1, 1), (2, .invokevirtual 183, 3), (5, .ifCond .eq 6, 3), (8, .ldc 187, 2), (10, .ireturn, 1), (11, .aload_n 0, 1), (12, .iconst 2, 1), (13, .aload_n 0, 1), (14, .getfield 171, 3), (17, .invokevirtual 325, 3), (20, .istore_n 3, 1), (21, .aload_n 0, 1), (22, .iload_n 1, 1), (23, .invokevirtual 385, 3), (26, .ifCond .eq 12, 3), (29, .aload_n 0, 1), (30, .iload_n 1, 1), (31, .iload_n 3, 1), (32, .invokevirtual 379, 3), (35, .ifCond .ne 6, 3), (38, .ldc 179, 2), (40, .ireturn, 1), (41, .aload_n 0, 1)] : List (Nat × Instr × Nat)).all (fun q => decide (decode cX12_cause q.1 = .ok (q.2.1, q.2.2))) = true := by decide +kernel
theorem dX12_cause_0 : decode cX12_cause 0 = .ok (.aload_n 0, 1) := all_at dvX12_cause_0 0 rfl
theorem dX12_cause_1 : decode cX12_cause 1 = .ok (.iload_n 1, 1) := all_at dvX12_cause_0 1 rfl
theorem dX12_cause_2 : decode cX12_cause 2 = .ok (.invokevirtual 183, 3) := all_at dvX12_cause_0 2 rfl
theorem dX12_cause_5 : decode cX12_cause 5 = .ok (.ifCond .eq 6, 3) := all_at dvX12_cause_0 3 rfl
theorem dX12_cause_8 : decode cX12_cause 8 = .ok (.ldc 187, 2) := all_at dvX12_cause_0 4 rfl
theorem dX12_cause_10 : decode cX12_cause 10 = .ok (.ireturn, 1) := all_at dvX12_cause_0 5 rfl
theorem dX12_cause_11 : decode cX12_cause 11 = .ok (.aload_n 0, 1) := all_at dvX12_cause_0 6 rfl
theorem dX12_cause_12 : decode cX12_cause 12 = .ok (.iconst 2, 1) := all_at dvX12_cause_0 7 rfl
theorem dX12_cause_13 : decode cX12_cause 13 = .ok (.aload_n 0, 1) := all_at dvX12_cause_0 8 rfl
theorem dX12_cause_14 : decode cX12_cause 14 = .ok (.getfield 171, 3) := all_at dvX12_cause_0 9 rfl
theorem dX12_cause_17 : decode cX12_cause 17 = .ok (.invokevirtual 325, 3) := all_at dvX12_cause_0 10 rfl
theorem dX12_cause_20 : decode cX12_cause 20 = .ok (.istore_n 3, 1) := all_at dvX12_cause_0 11 rfl
theorem dX12_cause_21 : decode cX12_cause 21 = .ok (.aload_n 0, 1) := all_at dvX12_cause_0 12 rfl
theorem dX12_cause_22 : decode cX12_cause 22 = .ok (.iload_n 1, 1) := all_at dvX12_cause_0 13 rfl
theorem dX12_cause_23 : decode cX12_cause 23 = .ok (.invokevirtual 385, 3) := all_at dvX12_cause_0 14 rfl
theorem dX12_cause_26 : decode cX12_cause 26 = .ok (.ifCond .eq 12, 3) := all_at dvX12_cause_0 15 rfl
theorem dX12_cause_29 : decode cX12_cause 29 = .ok (.aload_n 0, 1) := all_at dvX12_cause_0 16 rfl
theorem dX12_cause_30 : decode cX12_cause 30 = .ok (.iload_n 1, 1) := all_at dvX12_cause_0 17 rfl
theorem dX12_cause_31 : decode cX12_cause 31 = .ok (.iload_n 3, 1) := all_at dvX12_cause_0 18 rfl
theorem dX12_cause_32 : decode cX12_cause 32 = .ok (.invokevirtual 379, 3) := all_at dvX12_cause_0 19 rfl
theorem dX12_cause_35 : decode cX12_cause 35 = .ok (.ifCond .ne 6, 3) := all_at dvX12_cause_0 20 rfl
theorem dX12_cause_38 : decode cX12_cause 38 = .ok (.ldc 179, 2) := all_at dvX12_cause_0 21 rfl
theorem dX12_cause_40 : decode cX12_cause 40 = .ok (.ireturn, 1) := all_at dvX12_cause_0 22 rfl
theorem dX12_cause_41 : decode cX12_cause 41 = .ok (.aload_n 0, 1) := all_at dvX12_cause_0 23 rfl
set_option maxRecDepth 100000 in
theorem dvX12_cause_42 : ([(42, .iconst 0, 1), (43, .putfield 382, 3), (46, .iconst 0, 1), (47, .istore 4, 2), (49, .iload 4, 2), (51, .iconst 4, 1), (52, .if_icmp .ge 19, 3), (55, .aload_n 0, 1), (56, .iload_n 1, 1), (57, .iload_n 3, 1), (58, .iload 4, 2), (60, .iconst (-1), 1), (61, .iconst (-1), 1), (62, .invokevirtual 388, 3), (65, .iinc 4 1, 3), (68, .goto (-19), 3), (71, .iconst 0, 1), (72, .istore 4, 2), (74, .iload 4, 2), (76, .bipush 8, 2), (78, .if_icmp .ge 19, 3), (81, .aload_n 0, 1), (82, .iload_n 1, 1), (83, .iload_n 3, 1)] : List (Nat × Instr × Nat)).all (fun q => decide (decode cX12_cause q.1 = .ok (q.2.1, q.2.2))) = true := by decide +kernel
theorem dX12_cause_42 : decode cX12_cause 42 = .ok (.iconst 0, 1) := all_at dvX12_cause_42 0 rfl
theorem dX12_cause_43 : decode cX12_cause 43 = .ok (.putfield 382, 3) := all_at dvX12_cause_42 1 rfl
theorem dX12_cause_46 : decode cX12_cause 46 = .ok (.iconst 0, 1) := all_at dvX12_cause_42 2 rfl
theorem dX12_cause_47 : decode cX12_cause 47 = .ok (.istore 4, 2) := all_at dvX12_cause_42 3 rfl
theorem dX12_cause_49 : decode cX12_cause 49 = .ok (.iload 4, 2) := all_at dvX12_cause_42 4 rfl
theorem dX12_cause_51 : decode cX12_cause 51 = .ok (.iconst 4, 1) := all_at dvX12_cause_42 5 rfl
theorem dX12_cause_52 : decode cX12_cause 52 = .ok (.if_icmp .ge 19, 3) := all_at dvX12_cause_42 6 rfl
theorem dX12_cause_55 : decode cX12_cause 55 = .ok (.aload_n 0, 1) := all_at dvX12_cause_42 7 rfl
theorem dX12_cause_56 : decode cX12_cause 56 = .ok (.iload_n 1, 1) := all_at dvX12_cause_42 8 rfl
theorem dX12_cause_57 : decode cX12_cause 57 = .ok (.iload_n 3, 1) := all_at dvX12_cause_42 9 rfl
theorem dX12_cause_58 : decode cX12_cause 58 = .ok (.iload 4, 2) := all_at dvX12_cause_42 10 rfl
theorem dX12_cause_60 : decode cX12_cause 60 = .ok (.iconst (-1), 1) := all_at dvX12_cause_42 11 rfl
theorem dX12_cause_61 : decode cX12_cause 61 = .ok (.iconst (-1), 1) := all_at dvX12_cause_42 12 rfl
theorem dX12_cause_62 : decode cX12_cause 62 = .ok (.invokevirtual 388, 3) := all_at dvX12_cause_42 13 rfl
theorem dX12_cause_65 : decode cX12_cause 65 = .ok (.iinc 4 1, 3) := all_at dvX12_cause_42 14 rfl
theorem dX12_cause_68 : decode cX12_cause 68 = .ok (.goto (-19), 3) := all_at dvX12_cause_42 15 rfl
theorem dX12_cause_71 : decode cX12_cause 71 = .ok (.iconst 0, 1) := all_at dvX12_cause_42 16 rfl
theorem dX12_cause_72 : decode cX12_cause 72 = .ok (.istore 4, 2) := all_at dvX12_cause_42 17 rfl
theorem dX12_cause_74 : decode cX12_cause 74 = .ok (.iload 4, 2) := all_at dvX12_cause_42 18 rfl
theorem dX12_cause_76 : decode cX12_cause 76 = .ok (.bipush 8, 2) := all_at dvX12_cause_42 19 rfl
theorem dX12_cause_78 : decode cX12_cause 78 = .ok (.if_icmp .ge 19, 3) := all_at dvX12_cause_42 20 rfl
theorem dX12_cause_81 : decode cX12_cause 81 = .ok (.aload_n 0, 1) := all_at dvX12_cause_42 21 rfl
theorem dX12_cause_82 : decode cX12_cause 82 = .ok (.iload_n 1, 1) := all_at dvX12_cause_42 22 rfl
theorem dX12_cause_83 : decode cX12_cause 83 = .ok (.iload_n 3, 1) := all_at dvX12_cause_42 23 rfl
set_option maxRecDepth 100000 in
theorem dvX12_cause_84 : ([(84, .iconst (-1), 1), (85, .iload 4, 2), (87, .iconst (-1), 1), (88, .invokevirtual 388, 3), (91, .iinc 4 1, 3), (94, .goto (-20), 3), (97, .iconst 0, 1), (98, .istore 4, 2), (100, .iload 4, 2), (102, .aload_n 0, 1), (103, .getfield 200, 3), (106, .if_icmp .ge 54, 3), (109, .aload_n 0, 1), (110, .getfield 13, 3), (113, .iload 4, 2), (115, .iaload, 1), (116, .iload_n 1, 1), (117, .if_icmp .ne 37, 3), (120, .aload_n 0, 1), (121, .getfield 16, 3), (124, .iload 4, 2), (126, .iaload, 1), (127, .iconst 2, 1), (128, .if_icmp .ge 26, 3)] : List (Nat × Instr × Nat)).all (fun q => decide (decode cX12_cause q.1 = .ok (q.2.1, q.2.2))) = true := by decide +kernel
theorem dX12_cause_84 : decode cX12_cause 84 = .ok (.iconst (-1), 1) := all_at dvX12_cause_84 0 rfl
theorem dX12_cause_85 : decode cX12_cause 85 = .ok (.iload 4, 2) := all_at dvX12_cause_84 1 rfl
theorem dX12_cause_87 : decode cX12_cause 87 = .ok (.iconst (-1), 1) := all_at dvX12_cause_84 2 rfl
theorem dX12_cause_88 : decode cX12_cause 88 = .ok (.invokevirtual 388, 3) := all_at dvX12_cause_84 3 rfl
theorem dX12_cause_91 : decode cX12_cause 91 = .ok (.iinc 4 1, 3) := all_at dvX12_cause_84 4 rfl
theorem dX12_cause_94 : decode cX12_cause 94 = .ok (.goto (-20), 3) := all_at dvX12_cause_84 5 rfl
theorem dX12_cause_97 : decode cX12_cause 97 = .ok (.iconst 0, 1) := all_at dvX12_cause_84 6 rfl
theorem dX12_cause_98 : decode cX12_cause 98 = .ok (.istore 4, 2) := all_at dvX12_cause_84 7 rfl
theorem dX12_cause_100 : decode cX12_cause 100 = .ok (.iload 4, 2) := all_at dvX12_cause_84 8 rfl
theorem dX12_cause_102 : decode cX12_cause 102 = .ok (.aload_n 0, 1) := all_at dvX12_cause_84 9 rfl
theorem dX12_cause_103 : decode cX12_cause 103 = .ok (.getfield 200, 3) := all_at dvX12_cause_84 10 rfl
theorem dX12_cause_106 : decode cX12_cause 106 = .ok (.if_icmp .ge 54, 3) := all_at dvX12_cause_84 11 rfl
theorem dX12_cause_109 : decode cX12_cause 109 = .ok (.aload_n 0, 1) := all_at dvX12_cause_84 12 rfl
theorem dX12_cause_110 : decode cX12_cause 110 = .ok (.getfield 13, 3) := all_at dvX12_cause_84 13 rfl
theorem dX12_cause_113 : decode cX12_cause 113 = .ok (.iload 4, 2) := all_at dvX12_cause_84 14 rfl
theorem dX12_cause_115 : decode cX12_cause 115 = .ok (.iaload, 1) := all_at dvX12_cause_84 15 rfl
theorem dX12_cause_116 : decode cX12_cause 116 = .ok (.iload_n 1, 1) := all_at dvX12_cause_84 16 rfl
theorem dX12_cause_117 : decode cX12_cause 117 = .ok (.if_icmp .ne 37, 3) := all_at dvX12_cause_84 17 rfl
theorem dX12_cause_120 : decode cX12_cause 120 = .ok (.aload_n 0, 1) := all_at dvX12_cause_84 18 rfl
theorem dX12_cause_121 : decode cX12_cause 121 = .ok (.getfield 16, 3) := all_at dvX12_cause_84 19 rfl
theorem dX12_cause_124 : decode cX12_cause 124 = .ok (.iload 4, 2) := all_at dvX12_cause_84 20 rfl
theorem dX12_cause_126 : decode cX12_cause 126 = .ok (.iaload, 1) := all_at dvX12_cause_84 21 rfl
theorem dX12_cause_127 : decode cX12_cause 127 = .ok (.iconst 2, 1) := all_at dvX12_cause_84 22 rfl
theorem dX12_cause_128 : decode cX12_cause 128 = .ok (.if_icmp .ge 26, 3) := all_at dvX12_cause_84 23 rfl
set_option maxRecDepth 100000 in
theorem dvX12_cause_131 : ([(131, .aload_n 0, 1), (132, .iload 4, 2), (134, .aload_n 0, 1), (135, .getfield 171, 3), (138, .invokevirtual 233, 3), (141, .ifCond .eq 13, 3), (144, .aload_n 0, 1), (145, .iload_n 1, 1), (146, .iload_n 3, 1), (147, .iconst (-1), 1), (148, .iconst (-1), 1), (149, .iload 4, 2), (151, .invokevirtual 388, 3), (154, .iinc 4 1, 3), (157, .goto (-57), 3), (160, .iload_n 2, 1), (161, .iconst (-1), 1), (162, .if_icmp .ne 10, 3), (165, .aload_n 0, 1), (166, .getfield 382, 3), (169, .goto 29, 3), (172, .iload_n 2, 1), (173, .i2l, 1), (174, .lconst 0, 1)] : List (Nat × Instr × Nat)).all (fun q => decide (decode cX12_cause q.1 = .ok (q.2.1, q.2.2))) = true := by decide +kernel
theorem dX12_cause_131 : decode cX12_cause 131 = .ok (.aload_n 0, 1) := all_at dvX12_cause_131 0 rfl
theorem dX12_cause_132 : decode cX12_cause 132 = .ok (.iload 4, 2) := all_at dvX12_cause_131 1 rfl
theorem dX12_cause_134 : decode cX12_cause 134 = .ok (.aload_n 0, 1) := all_at dvX12_cause_131 2 rfl
theorem dX12_cause_135 : decode cX12_cause 135 = .ok (.getfield 171, 3) := all_at dvX12_cause_131 3 rfl
theorem dX12_cause_138 : decode cX12_cause 138 = .ok (.invokevirtual 233, 3) := all_at dvX12_cause_131 4 rfl
theorem dX12_cause_141 : decode cX12_cause 141 = .ok (.ifCond .eq 13, 3) := all_at dvX12_cause_131 5 rfl
theorem dX12_cause_144 : decode cX12_cause 144 = .ok (.aload_n 0, 1) := all_at dvX12_cause_131 6 rfl
theorem dX12_cause_145 : decode cX12_cause 145 = .ok (.iload_n 1, 1) := all_at dvX12_cause_131 7 rfl
theorem dX12_cause_146 : decode cX12_cause 146 = .ok (.iload_n 3, 1) := all_at dvX12_cause_131 8 rfl
theorem dX12_cause_147 : decode cX12_cause 147 = .ok (.iconst (-1), 1) := all_at dvX12_cause_131 9 rfl
theorem dX12_cause_148 : decode cX12_cause 148 = .ok (.iconst (-1), 1) := all_at dvX12_cause_131 10 rfl
theorem dX12_cause_149 : decode cX12_cause 149 = .ok (.iload 4, 2) := all_at dvX12_cause_131 11 rfl
theorem dX12_cause_151 : decode cX12_cause 151 = .ok (.invokevirtual 388, 3) := all_at dvX12_cause_131 12 rfl
theorem dX12_cause_154 : decode cX12_cause 154 = .ok (.iinc 4 1, 3) := all_at dvX12_cause_131 13 rfl
theorem dX12_cause_157 : decode cX12_cause 157 = .ok (.goto (-57), 3) := all_at dvX12_cause_131 14 rfl
theorem dX12_cause_160 : decode cX12_cause 160 = .ok (.iload_n 2, 1) := all_at dvX12_cause_131 15 rfl
theorem dX12_cause_161 : decode cX12_cause 161 = .ok (.iconst (-1), 1) := all_at dvX12_cause_131 16 rfl
theorem dX12_cause_162 : decode cX12_cause 162 = .ok (.if_icmp .ne 10, 3) := all_at dvX12_cause_131 17 rfl
theorem dX12_cause_165 : decode cX12_cause 165 = .ok (.aload_n 0, 1) := all_at dvX12_cause_131 18 rfl
theorem dX12_cause_166 : decode cX12_cause 166 = .ok (.getfield 382, 3) := all_at dvX12_cause_131 19 rfl
theorem dX12_cause_169 : decode cX12_cause 169 = .ok (.goto 29, 3) := all_at dvX12_cause_131 20 rfl
theorem dX12_cause_172 : decode cX12_cause 172 = .ok (.iload_n 2, 1) := all_at dvX12_cause_131 21 rfl
theorem dX12_cause_173 : decode cX12_cause 173 = .ok (.i2l, 1) := all_at dvX12_cause_131 22 rfl
theorem dX12_cause_174 : decode cX12_cause 174 = .ok (.lconst 0, 1) := all_at dvX12_cause_131 23 rfl
set_option maxRecDepth 100000 in
theorem dvX12_cause_175 : ([(175, .aload_n 0, 1), (176, .getfield 382, 3), (179, .iconst 1, 1), (180, .isub, 1), (181, .i2l, 1), (182, .invokestatic 167, 3), (185, .ifCond .eq 12, 3), (188, .aload_n 0, 1), (189, .getfield 103, 3), (192, .iload_n 2, 1), (193, .iaload, 1), (194, .goto 4, 3), (197, .iconst (-1), 1), (198, .ireturn, 1)] : List (Nat × Instr × Nat)).all (fun q => decide (decode cX12_cause q.1 = .ok (q.2.1, q.2.2))) = true := by decide +kernel
theorem dX12_cause_175 : decode cX12_cause 175 = .ok (.aload_n 0, 1) := all_at dvX12_cause_175 0 rfl
theorem dX12_cause_176 : decode cX12_cause 176 = .ok (.getfield 382, 3) := all_at dvX12_cause_175 1 rfl
theorem dX12_cause_179 : decode cX12_cause 179 = .ok (.iconst 1, 1) := all_at dvX12_cause_175 2 rfl
theorem dX12_cause_180 : decode cX12_cause 180 = .ok (.isub, 1) := all_at dvX12_cause_175 3 rfl
theorem dX12_cause_181 : decode cX12_cause 181 = .ok (.i2l, 1) := all_at dvX12_cause_175 4 rfl
theorem dX12_cause_182 : decode cX12_cause 182 = .ok (.invokestatic 167, 3) := all_at dvX12_cause_175 5 rfl
theorem dX12_cause_185 : decode cX12_cause 185 = .ok (.ifCond .eq 12, 3) := all_at dvX12_cause_175 6 rfl
theorem dX12_cause_188 : decode cX12_cause 188 = .ok (.aload_n 0, 1) := all_at dvX12_cause_175 7 rfl
theorem dX12_cause_189 : decode cX12_cause 189 = .ok (.getfield 103, 3) := all_at dvX12_cause_175 8 rfl
theorem dX12_cause_192 : decode cX12_cause 192 = .ok (.iload_n 2, 1) := all_at dvX12_cause_175 9 rfl
theorem dX12_cause_193 : decode cX12_cause 193 = .ok (.iaload, 1) := all_at dvX12_cause_175 10 rfl
theorem dX12_cause_194 : decode cX12_cause 194 = .ok (.goto 4, 3) := all_at dvX12_cause_175 11 rfl
theorem dX12_cause_197 : decode cX12_cause 197 = .ok (.iconst (-1), 1) := all_at dvX12_cause_175 12 rfl
theorem dX12_cause_198 : decode cX12_cause 198 = .ok (.ireturn, 1) := all_at dvX12_cause_175 13 rfl
set_option maxRecDepth 100000 in
theorem dvX12_odd_0 : ([(0, .aload_n 0, 1), (1, .iload_n 1, 1), (2, .invokevirtual 183, 3), (5, .ifCond .eq 6, 3), (8, .ldc 187, 2), (10, .ireturn, 1), (11, .iload_n 2, 1), (12, .i2l, 1), (13, .lconst 0, 1), (14, .ldc2_w 188, 3), (17, .invokestatic 167, 3), (20, .ifCond .ne 6, 3), (23, .ldc 178, 2), (25, .ireturn, 1), (26, .aload_n 0, 1), (27, .iconst 2, 1), (28, .aload_n 0, 1), (29, .getfield 171, 3), (32, .invokevirtual 325, 3), (35, .istore_n 3, 1), (36, .iconst 0, 1), (37, .istore 4, 2), (39, .iconst 0, 1), (40, .istore 5, 2)] : List (Nat × Instr × Nat)).all (fun q => decide (decode cX12_odd q.1 = .ok (q.2.1, q.2.2))) = true := by decide +kernel
theorem dX12_odd_0 : decode cX12_odd 0 = .ok (.aload_n 0, 1) := all_at dvX12_odd_0 0 rfl
theorem dX12_odd_1 : decode cX12_odd 1 = .ok (.iload_n 1, 1) := all_at dvX12_odd_0 1 rfl
theorem dX12_odd_2 : decode cX12_odd 2 = .ok (.invokevirtual 183, 3) := all_at dvX12_odd_0 2 rfl
theorem dX12_odd_5 : decode cX12_odd 5 = .ok (.ifCond .eq 6, 3) := all_at dvX12_odd_0 3 rfl
theorem dX12_odd_8 : decode cX12_odd 8 = .ok (.ldc 187, 2) := all_at dvX12_odd_0 4 rfl
theorem dX12_odd_10 : decode cX12_odd 10 = .ok (.ireturn, 1) := all_at dvX12_odd_0 5 rfl
theorem dX12_odd_11 : decode cX12_odd 11 = .ok (.iload_n 2, 1) := all_at dvX12_odd_0 6 rfl
theorem dX12_odd_12 : decode cX12_odd 12 = .ok (.i2l, 1) := all_at dvX12_odd_0 7 rfl
theorem dX12_odd_13 : decode cX12_odd 13 = .ok (.lconst 0, 1) := all_at dvX12_odd_0 8 rfl
theorem dX12_odd_14 : decode cX12_odd 14 = .ok (.ldc2_w 188, 3) := all_at dvX12_odd_0 9 rfl
theorem dX12_odd_17 : decode cX12_odd 17 = .ok (.invokestatic 167, 3) := all_at dvX12_odd_0 10 rfl
theorem dX12_odd_20 : decode cX12_odd 20 = .ok (.ifCond .ne 6, 3) := all_at dvX12_odd_0 11 rfl
theorem dX12_odd_23 : decode cX12_odd 23 = .ok (.ldc 178, 2) := all_at dvX12_odd_0 12 rfl
theorem dX12_odd_25 : decode cX12_odd 25 = .ok (.ireturn, 1) := all_at dvX12_odd_0 13 rfl
theorem dX12_odd_26 : decode cX12_odd 26 = .ok (.aload_n 0, 1) := all_at dvX12_odd_0 14 rfl
theorem dX12_odd_27 : decode cX12_odd 27 = .ok (.iconst 2, 1) := all_at dvX12_odd_0 15 rfl
theorem dX12_odd_28 : decode cX12_odd 28 = .ok (.aload_n 0, 1) := all_at dvX12_odd_0 16 rfl
theorem dX12_odd_29 : decode cX12_odd 29 = .ok (.getfield 171, 3) := all_at dvX12_odd_0 17 rfl
theorem dX12_odd_32 : decode cX12_odd 32 = .ok (.invokevirtual 325, 3) := all_at dvX12_odd_0 18 rfl
theorem dX12_odd_35 : decode cX12_odd 35 = .ok (.istore_n 3, 1) := all_at dvX12_odd_0 19 rfl
theorem dX12_odd_36 : decode cX12_odd 36 = .ok (.iconst 0, 1) := all_at dvX12_odd_0 20 rfl
theorem dX12_odd_37 : decode cX12_odd 37 = .ok (.istore 4, 2) := all_at dvX12_odd_0 21 rfl
theorem dX12_odd_39 : decode cX12_odd 39 = .ok (.iconst 0, 1) := all_at dvX12_odd_0 22 rfl
theorem dX12_odd_40 : decode cX12_odd 40 = .ok (.istore 5, 2) := all_at dvX12_odd_0 23 rfl
set_option maxRecDepth 100000 in
theorem dvX12_odd_42 : ([(42, .iload 5, 2), (44, .aload_n 0, 1), (45, .getfield 200, 3), (48, .if_icmp .ge 159, 3), (51, .iconst 0, 1), (52, .istore 6, 2), (54, .iload 6, 2), (56, .iload 5, 2), (58, .if_icmp .ge 143, 3), (61, .aload_n 0, 1), (62, .getfield 13, 3), (65, .iload 5, 2), (67, .iaload, 1), (68, .iload_n 1, 1), (69, .if_icmp .ne 66, 3), (72, .aload_n 0, 1), (73, .getfield 13, 3), (76, .iload 6, 2), (78, .iaload, 1), (79, .iload_n 1, 1), (80, .if_icmp .ne 55, 3), (83, .aload_n 0, 1), (84, .getfield 16, 3), (87, .iload 5, 2)] : List (Nat × Instr × Nat)).all (fun q => decide (decode cX12_odd q.1 = .ok (q.2.1, q.2.2))) = true := by decide +kernel
theorem dX12_odd_42 : decode cX12_odd 42 = .ok (.iload 5, 2) := all_at dvX12_odd_42 0 rfl
theorem dX12_odd_44 : decode cX12_odd 44 = .ok (.aload_n 0, 1) := all_at dvX12_odd_42 1 rfl
theorem dX12_odd_45 : decode cX12_odd 45 = .ok (.getfield 200, 3) := all_at dvX12_odd_42 2 rfl
theorem dX12_odd_48 : decode cX12_odd 48 = .ok (.if_icmp .ge 159, 3) := all_at dvX12_odd_42 3 rfl
theorem dX12_odd_51 : decode cX12_odd 51 = .ok (.iconst 0, 1) := all_at dvX12_odd_42 4 rfl
theorem dX12_odd_52 : decode cX12_odd 52 = .ok (.istore 6, 2) := all_at dvX12_odd_42 5 rfl
theorem dX12_odd_54 : decode cX12_odd 54 = .ok (.iload 6, 2) := all_at dvX12_odd_42 6 rfl
theorem dX12_odd_56 : decode cX12_odd 56 = .ok (.iload 5, 2) := all_at dvX12_odd_42 7 rfl
theorem dX12_odd_58 : decode cX12_odd 58 = .ok (.if_icmp .ge 143, 3) := all_at dvX12_odd_42 8 rfl
theorem dX12_odd_61 : decode cX12_odd 61 = .ok (.aload_n 0, 1) := all_at dvX12_odd_42 9 rfl
theorem dX12_odd_62 : decode cX12_odd 62 = .ok (.getfield 13, 3) := all_at dvX12_odd_42 10 rfl
theorem dX12_odd_65 : decode cX12_odd 65 = .ok (.iload 5, 2) := all_at dvX12_odd_42 11 rfl
theorem dX12_odd_67 : decode cX12_odd 67 = .ok (.iaload, 1) := all_at dvX12_odd_42 12 rfl
theorem dX12_odd_68 : decode cX12_odd 68 = .ok (.iload_n 1, 1) := all_at dvX12_odd_42 13 rfl
theorem dX12_odd_69 : decode cX12_odd 69 = .ok (.if_icmp .ne 66, 3) := all_at dvX12_odd_42 14 rfl
theorem dX12_odd_72 : decode cX12_odd 72 = .ok (.aload_n 0, 1) := all_at dvX12_odd_42 15 rfl
theorem dX12_odd_73 : decode cX12_odd 73 = .ok (.getfield 13, 3) := all_at dvX12_odd_42 16 rfl
theorem dX12_odd_76 : decode cX12_odd 76 = .ok (.iload 6, 2) := all_at dvX12_odd_42 17 rfl
theorem dX12_odd_78 : decode cX12_odd 78 = .ok (.iaload, 1) := all_at dvX12_odd_42 18 rfl
theorem dX12_odd_79 : decode cX12_odd 79 = .ok (.iload_n 1, 1) := all_at dvX12_odd_42 19 rfl
theorem dX12_odd_80 : decode cX12_odd 80 = .ok (.if_icmp .ne 55, 3) := all_at dvX12_odd_42 20 rfl
theorem dX12_odd_83 : decode cX12_odd 83 = .ok (.aload_n 0, 1) := all_at dvX12_odd_42 21 rfl
theorem dX12_odd_84 : decode cX12_odd 84 = .ok (.getfield 16, 3) := all_at dvX12_odd_42 22 rfl
theorem dX12_odd_87 : decode cX12_odd 87 = .ok (.iload 5, 2) := all_at dvX12_odd_42 23 rfl
set_option maxRecDepth 100000 in
theorem dvX12_odd_89 : ([(89, .iaload, 1), (90, .iload_n 2, 1), (91, .if_icmp .ne 44, 3), (94, .aload_n 0, 1), (95, .getfield 16, 3), (98, .iload 6, 2), (100, .iaload, 1), (101, .iload_n 2, 1), (102, .if_icmp .ne 33, 3), (105, .aload_n 0, 1), (106, .iload 5, 2), (108, .aload_n 0, 1), (109, .getfield 171, 3), (112, .invokevirtual 233, 3), (115, .ifCond .eq 20, 3), (118, .aload_n 0, 1), (119, .iload 6, 2), (121, .aload_n 0, 1), (122, .getfield 171, 3), (125, .invokevirtual 233, 3), (128, .ifCond .eq 7, 3), (131, .iconst 1, 1), (132, .goto 4, 3), (135, .iconst 0, 1)] : List (Nat × Instr × Nat)).all (fun q => decide (decode cX12_odd q.1 = .ok (q.2.1, q.2.2))) = true := by decide +kernel
theorem dX12_odd_89 : decode cX12_odd 89 = .ok (.iaload, 1) := all_at dvX12_odd_89 0 rfl
theorem dX12_odd_90 : decode cX12_odd 90 = .ok (.iload_n 2, 1) := all_at dvX12_odd_89 1 rfl
theorem dX12_odd_91 : decode cX12_odd 91 = .ok (.if_icmp .ne 44, 3) := all_at dvX12_odd_89 2 rfl
theorem dX12_odd_94 : decode cX12_odd 94 = .ok (.aload_n 0, 1) := all_at dvX12_odd_89 3 rfl
theorem dX12_odd_95 : decode cX12_odd 95 = .ok (.getfield 16, 3) := all_at dvX12_odd_89 4 rfl
theorem dX12_odd_98 : decode cX12_odd 98 = .ok (.iload 6, 2) := all_at dvX12_odd_89 5 rfl
theorem dX12_odd_100 : decode cX12_odd 100 = .ok (.iaload, 1) := all_at dvX12_odd_89 6 rfl
theorem dX12_odd_101 : decode cX12_odd 101 = .ok (.iload_n 2, 1) := all_at dvX12_odd_89 7 rfl
theorem dX12_odd_102 : decode cX12_odd 102 = .ok (.if_icmp .ne 33, 3) := all_at dvX12_odd_89 8 rfl
theorem dX12_odd_105 : decode cX12_odd 105 = .ok (.aload_n 0, 1) := all_at dvX12_odd_89 9 rfl
theorem dX12_odd_106 : decode cX12_odd 106 = .ok (.iload 5, 2) := all_at dvX12_odd_89 10 rfl
theorem dX12_odd_108 : decode cX12_odd 108 = .ok (.aload_n 0, 1) := all_at dvX12_odd_89 11 rfl
theorem dX12_odd_109 : decode cX12_odd 109 = .ok (.getfield 171, 3) := all_at dvX12_odd_89 12 rfl
theorem dX12_odd_112 : decode cX12_odd 112 = .ok (.invokevirtual 233, 3) := all_at dvX12_odd_89 13 rfl
theorem dX12_odd_115 : decode cX12_odd 115 = .ok (.ifCond .eq 20, 3) := all_at dvX12_odd_89 14 rfl
theorem dX12_odd_118 : decode cX12_odd 118 = .ok (.aload_n 0, 1) := all_at dvX12_odd_89 15 rfl
theorem dX12_odd_119 : decode cX12_odd 119 = .ok (.iload 6, 2) := all_at dvX12_odd_89 16 rfl
theorem dX12_odd_121 : decode cX12_odd 121 = .ok (.aload_n 0, 1) := all_at dvX12_odd_89 17 rfl
theorem dX12_odd_122 : decode cX12_odd 122 = .ok (.getfield 171, 3) := all_at dvX12_odd_89 18 rfl
theorem dX12_odd_125 : decode cX12_odd 125 = .ok (.invokevirtual 233, 3) := all_at dvX12_odd_89 19 rfl
theorem dX12_odd_128 : decode cX12_odd 128 = .ok (.ifCond .eq 7, 3) := all_at dvX12_odd_89 20 rfl
theorem dX12_odd_131 : decode cX12_odd 131 = .ok (.iconst 1, 1) := all_at dvX12_odd_89 21 rfl
theorem dX12_odd_132 : decode cX12_odd 132 = .ok (.goto 4, 3) := all_at dvX12_odd_89 22 rfl
theorem dX12_odd_135 : decode cX12_odd 135 = .ok (.iconst 0, 1) := all_at dvX12_odd_89 23 rfl
set_option maxRecDepth 100000 in
theorem dvX12_odd_136 : ([(136, .istore 7, 2), (138, .iload 4, 2), (140, .iload 7, 2), (142, .ifCond .eq 46, 3), (145, .aload_n 0, 1), (146, .getfield 25, 3), (149, .iload 5, 2), (151, .iaload, 1), (152, .i2l, 1), (153, .aload_n 0, 1), (154, .getfield 22, 3), (157, .iload 5, 2), (159, .iaload, 1), (160, .i2l, 1), (161, .aload_n 0, 1), (162, .getfield 25, 3), (165, .iload 6, 2), (167, .iaload, 1), (168, .i2l, 1), (169, .aload_n 0, 1), (170, .getfield 22, 3), (173, .iload 6, 2), (175, .iaload, 1), (176, .i2l, 1)] : List (Nat × Instr × Nat)).all (fun q => decide (decode cX12_odd q.1 = .ok (q.2.1, q.2.2))) = true := by decide +kernel
theorem dX12_odd_136 : decode cX12_odd 136 = .ok (.istore 7, 2) := all_at dvX12_odd_136 0 rfl
theorem dX12_odd_138 : decode cX12_odd 138 = .ok (.iload 4, 2) := all_at dvX12_odd_136 1 rfl
theorem dX12_odd_140 : decode cX12_odd 140 = .ok (.iload 7, 2) := all_at dvX12_odd_136 2 rfl
theorem dX12_odd_142 : decode cX12_odd 142 = .ok (.ifCond .eq 46, 3) := all_at dvX12_odd_136 3 rfl
theorem dX12_odd_145 : decode cX12_odd 145 = .ok (.aload_n 0, 1) := all_at dvX12_odd_136 4 rfl
theorem dX12_odd_146 : decode cX12_odd 146 = .ok (.getfield 25, 3) := all_at dvX12_odd_136 5 rfl
theorem dX12_odd_149 : decode cX12_odd 149 = .ok (.iload 5, 2) := all_at dvX12_odd_136 6 rfl
theorem dX12_odd_151 : decode cX12_odd 151 = .ok (.iaload, 1) := all_at dvX12_odd_136 7 rfl
theorem dX12_odd_152 : decode cX12_odd 152 = .ok (.i2l, 1) := all_at dvX12_odd_136 8 rfl
theorem dX12_odd_153 : decode cX12_odd 153 = .ok (.aload_n 0, 1) := all_at dvX12_odd_136 9 rfl
theorem dX12_odd_154 : decode cX12_odd 154 = .ok (.getfield 22, 3) := all_at dvX12_odd_136 10 rfl
theorem dX12_odd_157 : decode cX12_odd 157 = .ok (.iload 5, 2) := all_at dvX12_odd_136 11 rfl
theorem dX12_odd_159 : decode cX12_odd 159 = .ok (.iaload, 1) := all_at dvX12_odd_136 12 rfl
theorem dX12_odd_160 : decode cX12_odd 160 = .ok (.i2l, 1) := all_at dvX12_odd_136 13 rfl
theorem dX12_odd_161 : decode cX12_odd 161 = .ok (.aload_n 0, 1) := all_at dvX12_odd_136 14 rfl
theorem dX12_odd_162 : decode cX12_odd 162 = .ok (.getfield 25, 3) := all_at dvX12_odd_136 15 rfl
theorem dX12_odd_165 : decode cX12_odd 165 = .ok (.iload 6, 2) := all_at dvX12_odd_136 16 rfl
theorem dX12_odd_167 : decode cX12_odd 167 = .ok (.iaload, 1) := all_at dvX12_odd_136 17 rfl
theorem dX12_odd_168 : decode cX12_odd 168 = .ok (.i2l, 1) := all_at dvX12_odd_136 18 rfl
theorem dX12_odd_169 : decode cX12_odd 169 = .ok (.aload_n 0, 1) := all_at dvX12_odd_136 19 rfl
theorem dX12_odd_170 : decode cX12_odd 170 = .ok (.getfield 22, 3) := all_at dvX12_odd_136 20 rfl
theorem dX12_odd_173 : decode cX12_odd 173 = .ok (.iload 6, 2) := all_at dvX12_odd_136 21 rfl
theorem dX12_odd_175 : decode cX12_odd 175 = .ok (.iaload, 1) := all_at dvX12_odd_136 22 rfl
theorem dX12_odd_176 : decode cX12_odd 176 = .ok (.i2l, 1) := all_at dvX12_odd_136 23 rfl
set_option maxRecDepth 100000 in
theorem dvX12_odd_177 : ([(177, .iload_n 3, 1), (178, .invokestatic 340, 3), (181, .ifCond .eq 7, 3), (184, .iconst 1, 1), (185, .goto 4, 3), (188, .iconst 0, 1), (189, .invokestatic 203, 3), (192, .iadd, 1), (193, .istore 4, 2), (195, .iinc 6 1, 3), (198, .goto (-144), 3), (201, .iinc 5 1, 3), (204, .goto (-162), 3), (207, .iload 4, 2), (209, .ireturn, 1)] : List (Nat × Instr × Nat)).all (fun q => decide (decode cX12_odd q.1 = .ok (q.2.1, q.2.2))) = true := by decide +kernel
theorem dX12_odd_177 : decode cX12_odd 177 = .ok (.iload_n 3, 1) := all_at dvX12_odd_177 0 rfl
theorem dX12_odd_178 : decode cX12_odd 178 = .ok (.invokestatic 340, 3) := all_at dvX12_odd_177 1 rfl
theorem dX12_odd_181 : decode cX12_odd 181 = .ok (.ifCond .eq 7, 3) := all_at dvX12_odd_177 2 rfl
theorem dX12_odd_184 : decode cX12_odd 184 = .ok (.iconst 1, 1) := all_at dvX12_odd_177 3 rfl
theorem dX12_odd_185 : decode cX12_odd 185 = .ok (.goto 4, 3) := all_at dvX12_odd_177 4 rfl
theorem dX12_odd_188 : decode cX12_odd 188 = .ok (.iconst 0, 1) := all_at dvX12_odd_177 5 rfl
theorem dX12_odd_189 : decode cX12_odd 189 = .ok (.invokestatic 203, 3) := all_at dvX12_odd_177 6 rfl
theorem dX12_odd_192 : decode cX12_odd 192 = .ok (.iadd, 1) := all_at dvX12_odd_177 7 rfl
theorem dX12_odd_193 : decode cX12_odd 193 = .ok (.istore 4, 2) := all_at dvX12_odd_177 8 rfl
theorem dX12_odd_195 : decode cX12_odd 195 = .ok (.iinc 6 1, 3) := all_at dvX12_odd_177 9 rfl
theorem dX12_odd_198 : decode cX12_odd 198 = .ok (.goto (-144), 3) := all_at dvX12_odd_177 10 rfl
theorem dX12_odd_201 : decode cX12_odd 201 = .ok (.iinc 5 1, 3) := all_at dvX12_odd_177 11 rfl
theorem dX12_odd_204 : decode cX12_odd 204 = .ok (.goto (-162), 3) := all_at dvX12_odd_177 12 rfl
theorem dX12_odd_207 : decode cX12_odd 207 = .ok (.iload 4, 2) := all_at dvX12_odd_177 13 rfl
theorem dX12_odd_209 : decode cX12_odd 209 = .ok (.ireturn, 1) := all_at dvX12_odd_177 14 rfl
set_option maxRecDepth 100000 in
theorem dvX12_tryCause_0 : ([(0, .aload_n 0, 1), (1, .iload_n 1, 1), (2, .iconst 0, 1), (3, .aload_n 0, 1), (4, .getfield 171, 3), (7, .invokevirtual 237, 3), (10, .istore 6, 2), (12, .aload_n 0, 1), (13, .iload_n 1, 1), (14, .iconst 1, 1), (15, .aload_n 0, 1), (16, .getfield 171, 3), (19, .invokevirtual 237, 3), (22, .istore 7, 2), (24, .aload_n 0, 1), (25, .iload_n 3, 1), (26, .iload 4, 2), (28, .iload 5, 2), (30, .invokevirtual 375, 3), (33, .aload_n 0, 1), (34, .iload_n 1, 1), (35, .iconst 0, 1), (36, .aload_n 0, 1), (37, .getfield 171, 3)] : List (Nat × Instr × Nat)).all (fun q => decide (decode cX12_tryCause q.1 = .ok (q.2.1, q.2.2))) = true := by decide +kernel
theorem dX12_tryCause_0 : decode cX12_tryCause 0 = .ok (.aload_n 0, 1) := all_at dvX12_tryCause_0 0 rfl
theorem dX12_tryCause_1 : decode cX12_tryCause 1 = .ok (.iload_n 1, 1) := all_at dvX12_tryCause_0 1 rfl
theorem dX12_tryCause_2 : decode cX12_tryCause 2 = .ok (.iconst 0, 1) := all_at dvX12_tryCause_0 2 rfl
theorem dX12_tryCause_3 : decode cX12_tryCause 3 = .ok (.aload_n 0, 1) := all_at dvX12_tryCause_0 3 rfl
theorem dX12_tryCause_4 : decode cX12_tryCause 4 = .ok (.getfield 171, 3) := all_at dvX12_tryCause_0 4 rfl
theorem dX12_tryCause_7 : decode cX12_tryCause 7 = .ok (.invokevirtual 237, 3) := all_at dvX12_tryCause_0 5 rfl
theorem dX12_tryCause_10 : decode cX12_tryCause 10 = .ok (.istore 6, 2) := all_at dvX12_tryCause_0 6 rfl
theorem dX12_tryCause_12 : decode cX12_tryCause 12 = .ok (.aload_n 0, 1) := all_at dvX12_tryCause_0 7 rfl
theorem dX12_tryCause_13 : decode cX12_tryCause 13 = .ok (.iload_n 1, 1) := all_at dvX12_tryCause_0 8 rfl
theorem dX12_tryCause_14 : decode cX12_tryCause 14 = .ok (.iconst 1, 1) := all_at dvX12_tryCause_0 9 rfl
theorem dX12_tryCause_15 : decode cX12_tryCause 15 = .ok (.aload_n 0, 1) := all_at dvX12_tryCause_0 10 rfl
theorem dX12_tryCause_16 : decode cX12_tryCause 16 = .ok (.getfield 171, 3) := all_at dvX12_tryCause_0 11 rfl
theorem dX12_tryCause_19 : decode cX12_tryCause 19 = .ok (.invokevirtual 237, 3) := all_at dvX12_tryCause_0 12 rfl
theorem dX12_tryCause_22 : decode cX12_tryCause 22 = .ok (.istore 7, 2) := all_at dvX12_tryCause_0 13 rfl
theorem dX12_tryCause_24 : decode cX12_tryCause 24 = .ok (.aload_n 0, 1) := all_at dvX12_tryCause_0 14 rfl
theorem dX12_tryCause_25 : decode cX12_tryCause 25 = .ok (.iload_n 3, 1) := all_at dvX12_tryCause_0 15 rfl
theorem dX12_tryCause_26 : decode cX12_tryCause 26 = .ok (.iload 4, 2) := all_at dvX12_tryCause_0 16 rfl
theorem dX12_tryCause_28 : decode cX12_tryCause 28 = .ok (.iload 5, 2) := all_at dvX12_tryCause_0 17 rfl
theorem dX12_tryCause_30 : decode cX12_tryCause 30 = .ok (.invokevirtual 375, 3) := all_at dvX12_tryCause_0 18 rfl
theorem dX12_tryCause_33 : decode cX12_tryCause 33 = .ok (.aload_n 0, 1) := all_at dvX12_tryCause_0 19 rfl
theorem dX12_tryCause_34 : decode cX12_tryCause 34 = .ok (.iload_n 1, 1) := all_at dvX12_tryCause_0 20 rfl
theorem dX12_tryCause_35 : decode cX12_tryCause 35 = .ok (.iconst 0, 1) := all_at dvX12_tryCause_0 21 rfl
theorem dX12_tryCause_36 : decode cX12_tryCause 36 = .ok (.aload_n 0, 1) := all_at dvX12_tryCause_0 22 rfl
theorem dX12_tryCause_37 : decode cX12_tryCause 37 = .ok (.getfield 171, 3) := all_at dvX12_tryCause_0 23 rfl
set_option maxRecDepth 100000 in
theorem dvX12_tryCause_40 : ([(40, .invokevirtual 237, 3), (43, .istore 8, 2), (45, .aload_n 0, 1), (46, .iload_n 1, 1), (47, .iconst 1, 1), (48, .aload_n 0, 1), (49, .getfield 171, 3), (52, .invokevirtual 237, 3), (55, .istore 9, 2), (57, .iload 6, 2), (59, .iload 8, 2), (61, .isub, 1), (62, .iload 7, 2), (64, .iadd, 1), (65, .iload 9, 2), (67, .isub, 1), (68, .istore 10, 2), (70, .iload 8, 2), (72, .ifCond .le 36, 3), (75, .iload 9, 2), (77, .ifCond .le 31, 3), (80, .iload 10, 2), (82, .iload 5, 2), (84, .ifCond .ge 7, 3)] : List (Nat × Instr × Nat)).all (fun q => decide (decode cX12_tryCause q.1 = .ok (q.2.1, q.2.2))) = true := by decide +kernel
theorem dX12_tryCause_40 : decode cX12_tryCause 40 = .ok (.invokevirtual 237, 3) := all_at dvX12_tryCause_40 0 rfl
theorem dX12_tryCause_43 : decode cX12_tryCause 43 = .ok (.istore 8, 2) := all_at dvX12_tryCause_40 1 rfl
theorem dX12_tryCause_45 : decode cX12_tryCause 45 = .ok (.aload_n 0, 1) := all_at dvX12_tryCause_40 2 rfl
theorem dX12_tryCause_46 : decode cX12_tryCause 46 = .ok (.iload_n 1, 1) := all_at dvX12_tryCause_40 3 rfl
theorem dX12_tryCause_47 : decode cX12_tryCause 47 = .ok (.iconst 1, 1) := all_at dvX12_tryCause_40 4 rfl
theorem dX12_tryCause_48 : decode cX12_tryCause 48 = .ok (.aload_n 0, 1) := all_at dvX12_tryCause_40 5 rfl
theorem dX12_tryCause_49 : decode cX12_tryCause 49 = .ok (.getfield 171, 3) := all_at dvX12_tryCause_40 6 rfl
theorem dX12_tryCause_52 : decode cX12_tryCause 52 = .ok (.invokevirtual 237, 3) := all_at dvX12_tryCause_40 7 rfl
theorem dX12_tryCause_55 : decode cX12_tryCause 55 = .ok (.istore 9, 2) := all_at dvX12_tryCause_40 8 rfl
theorem dX12_tryCause_57 : decode cX12_tryCause 57 = .ok (.iload 6, 2) := all_at dvX12_tryCause_40 9 rfl
theorem dX12_tryCause_59 : decode cX12_tryCause 59 = .ok (.iload 8, 2) := all_at dvX12_tryCause_40 10 rfl
theorem dX12_tryCause_61 : decode cX12_tryCause 61 = .ok (.isub, 1) := all_at dvX12_tryCause_40 11 rfl
theorem dX12_tryCause_62 : decode cX12_tryCause 62 = .ok (.iload 7, 2) := all_at dvX12_tryCause_40 12 rfl
theorem dX12_tryCause_64 : decode cX12_tryCause 64 = .ok (.iadd, 1) := all_at dvX12_tryCause_40 13 rfl
theorem dX12_tryCause_65 : decode cX12_tryCause 65 = .ok (.iload 9, 2) := all_at dvX12_tryCause_40 14 rfl
theorem dX12_tryCause_67 : decode cX12_tryCause 67 = .ok (.isub, 1) := all_at dvX12_tryCause_40 15 rfl
theorem dX12_tryCause_68 : decode cX12_tryCause 68 = .ok (.istore 10, 2) := all_at dvX12_tryCause_40 16 rfl
theorem dX12_tryCause_70 : decode cX12_tryCause 70 = .ok (.iload 8, 2) := all_at dvX12_tryCause_40 17 rfl
theorem dX12_tryCause_72 : decode cX12_tryCause 72 = .ok (.ifCond .le 36, 3) := all_at dvX12_tryCause_40 18 rfl
theorem dX12_tryCause_75 : decode cX12_tryCause 75 = .ok (.iload 9, 2) := all_at dvX12_tryCause_40 19 rfl
theorem dX12_tryCause_77 : decode cX12_tryCause 77 = .ok (.ifCond .le 31, 3) := all_at dvX12_tryCause_40 20 rfl
theorem dX12_tryCause_80 : decode cX12_tryCause 80 = .ok (.iload 10, 2) := all_at dvX12_tryCause_40 21 rfl
theorem dX12_tryCause_82 : decode cX12_tryCause 82 = .ok (.iload 5, 2) := all_at dvX12_tryCause_40 22 rfl
theorem dX12_tryCause_84 : decode cX12_tryCause 84 = .ok (.ifCond .ge 7, 3) := all_at dvX12_tryCause_40 23 rfl
set_option maxRecDepth 100000 in
theorem dvX12_tryCause_87 : ([(87, .iconst 2, 1), (88, .goto 4, 3), (91, .iconst 1, 1), (92, .if_icmp .lt 16, 3), (95, .aload_n 0, 1), (96, .iload_n 1, 1), (97, .iload_n 2, 1), (98, .invokevirtual 379, 3), (101, .ifCond .ne 7, 3), (104, .iconst 1, 1), (105, .goto 4, 3), (108, .iconst 0, 1), (109, .istore 11, 2), (111, .aload_n 0, 1), (112, .iconst (-1), 1), (113, .iconst (-1), 1), (114, .iconst (-1), 1), (115, .invokevirtual 375, 3), (118, .iload 11, 2), (120, .ifCond .eq 49, 3), (123, .aload_n 0, 1), (124, .getfield 103, 3), (127, .aload_n 0, 1), (128, .getfield 382, 3)] : List (Nat × Instr × Nat)).all (fun q => decide (decode cX12_tryCause q.1 = .ok (q.2.1, q.2.2))) = true := by decide +kernel
theorem dX12_tryCause_87 : decode cX12_tryCause 87 = .ok (.iconst 2, 1) := all_at dvX12_tryCause_87 0 rfl
theorem dX12_tryCause_88 : decode cX12_tryCause 88 = .ok (.goto 4, 3) := all_at dvX12_tryCause_87 1 rfl
theorem dX12_tryCause_91 : decode cX12_tryCause 91 = .ok (.iconst 1, 1) := all_at dvX12_tryCause_87 2 rfl
theorem dX12_tryCause_92 : decode cX12_tryCause 92 = .ok (.if_icmp .lt 16, 3) := all_at dvX12_tryCause_87 3 rfl
theorem dX12_tryCause_95 : decode cX12_tryCause 95 = .ok (.aload_n 0, 1) := all_at dvX12_tryCause_87 4 rfl
theorem dX12_tryCause_96 : decode cX12_tryCause 96 = .ok (.iload_n 1, 1) := all_at dvX12_tryCause_87 5 rfl
theorem dX12_tryCause_97 : decode cX12_tryCause 97 = .ok (.iload_n 2, 1) := all_at dvX12_tryCause_87 6 rfl
theorem dX12_tryCause_98 : decode cX12_tryCause 98 = .ok (.invokevirtual 379, 3) := all_at dvX12_tryCause_87 7 rfl
theorem dX12_tryCause_101 : decode cX12_tryCause 101 = .ok (.ifCond .ne 7, 3) := all_at dvX12_tryCause_87 8 rfl
theorem dX12_tryCause_104 : decode cX12_tryCause 104 = .ok (.iconst 1, 1) := all_at dvX12_tryCause_87 9 rfl
theorem dX12_tryCause_105 : decode cX12_tryCause 105 = .ok (.goto 4, 3) := all_at dvX12_tryCause_87 10 rfl
theorem dX12_tryCause_108 : decode cX12_tryCause 108 = .ok (.iconst 0, 1) := all_at dvX12_tryCause_87 11 rfl
theorem dX12_tryCause_109 : decode cX12_tryCause 109 = .ok (.istore 11, 2) := all_at dvX12_tryCause_87 12 rfl
theorem dX12_tryCause_111 : decode cX12_tryCause 111 = .ok (.aload_n 0, 1) := all_at dvX12_tryCause_87 13 rfl
theorem dX12_tryCause_112 : decode cX12_tryCause 112 = .ok (.iconst (-1), 1) := all_at dvX12_tryCause_87 14 rfl
theorem dX12_tryCause_113 : decode cX12_tryCause 113 = .ok (.iconst (-1), 1) := all_at dvX12_tryCause_87 15 rfl
theorem dX12_tryCause_114 : decode cX12_tryCause 114 = .ok (.iconst (-1), 1) := all_at dvX12_tryCause_87 16 rfl
theorem dX12_tryCause_115 : decode cX12_tryCause 115 = .ok (.invokevirtual 375, 3) := all_at dvX12_tryCause_87 17 rfl
theorem dX12_tryCause_118 : decode cX12_tryCause 118 = .ok (.iload 11, 2) := all_at dvX12_tryCause_87 18 rfl
theorem dX12_tryCause_120 : decode cX12_tryCause 120 = .ok (.ifCond .eq 49, 3) := all_at dvX12_tryCause_87 19 rfl
theorem dX12_tryCause_123 : decode cX12_tryCause 123 = .ok (.aload_n 0, 1) := all_at dvX12_tryCause_87 20 rfl
theorem dX12_tryCause_124 : decode cX12_tryCause 124 = .ok (.getfield 103, 3) := all_at dvX12_tryCause_87 21 rfl
theorem dX12_tryCause_127 : decode cX12_tryCause 127 = .ok (.aload_n 0, 1) := all_at dvX12_tryCause_87 22 rfl
theorem dX12_tryCause_128 : decode cX12_tryCause 128 = .ok (.getfield 382, 3) := all_at dvX12_tryCause_87 23 rfl
set_option maxRecDepth 100000 in
theorem dvX12_tryCause_131 : ([(131, .iload 5, 2), (133, .ifCond .lt 11, 3), (136, .bipush 100, 2), (138, .iload 5, 2), (140, .iadd, 1), (141, .goto 17, 3), (144, .iload 4, 2), (146, .ifCond .lt 11, 3), (149, .bipush 10, 2), (151, .iload 4, 2), (153, .iadd, 1), (154, .goto 4, 3), (157, .iload_n 3, 1), (158, .iastore, 1), (159, .aload_n 0, 1), (160, .dup, 1), (161, .getfield 382, 3), (164, .iconst 1, 1), (165, .iadd, 1), (166, .putfield 382, 3), (169, .return_, 1)] : List (Nat × Instr × Nat)).all (fun q => decide (decode cX12_tryCause q.1 = .ok (q.2.1, q.2.2))) = true := by decide +kernel
theorem dX12_tryCause_131 : decode cX12_tryCause 131 = .ok (.iload 5, 2) := all_at dvX12_tryCause_131 0 rfl
theorem dX12_tryCause_133 : decode cX12_tryCause 133 = .ok (.ifCond .lt 11, 3) := all_at dvX12_tryCause_131 1 rfl
theorem dX12_tryCause_136 : decode cX12_tryCause 136 = .ok (.bipush 100, 2) := all_at dvX12_tryCause_131 2 rfl
theorem dX12_tryCause_138 : decode cX12_tryCause 138 = .ok (.iload 5, 2) := all_at dvX12_tryCause_131 3 rfl
theorem dX12_tryCause_140 : decode cX12_tryCause 140 = .ok (.iadd, 1) := all_at dvX12_tryCause_131 4 rfl
theorem dX12_tryCause_141 : decode cX12_tryCause 141 = .ok (.goto 17, 3) := all_at dvX12_tryCause_131 5 rfl
theorem dX12_tryCause_144 : decode cX12_tryCause 144 = .ok (.iload 4, 2) := all_at dvX12_tryCause_131 6 rfl
theorem dX12_tryCause_146 : decode cX12_tryCause 146 = .ok (.ifCond .lt 11, 3) := all_at dvX12_tryCause_131 7 rfl
theorem dX12_tryCause_149 : decode cX12_tryCause 149 = .ok (.bipush 10, 2) := all_at dvX12_tryCause_131 8 rfl
theorem dX12_tryCause_151 : decode cX12_tryCause 151 = .ok (.iload 4, 2) := all_at dvX12_tryCause_131 9 rfl
theorem dX12_tryCause_153 : decode cX12_tryCause 153 = .ok (.iadd, 1) := all_at dvX12_tryCause_131 10 rfl
theorem dX12_tryCause_154 : decode cX12_tryCause 154 = .ok (.goto 4, 3) := all_at dvX12_tryCause_131 11 rfl
theorem dX12_tryCause_157 : decode cX12_tryCause 157 = .ok (.iload_n 3, 1) := all_at dvX12_tryCause_131 12 rfl
theorem dX12_tryCause_158 : decode cX12_tryCause 158 = .ok (.iastore, 1) := all_at dvX12_tryCause_131 13 rfl
theorem dX12_tryCause_159 : decode cX12_tryCause 159 = .ok (.aload_n 0, 1) := all_at dvX12_tryCause_131 14 rfl
theorem dX12_tryCause_160 : decode cX12_tryCause 160 = .ok (.dup, 1) := all_at dvX12_tryCause_131 15 rfl
theorem dX12_tryCause_161 : decode cX12_tryCause 161 = .ok (.getfield 382, 3) := all_at dvX12_tryCause_131 16 rfl
theorem dX12_tryCause_164 : decode cX12_tryCause 164 = .ok (.iconst 1, 1) := all_at dvX12_tryCause_131 17 rfl
theorem dX12_tryCause_165 : decode cX12_tryCause 165 = .ok (.iadd, 1) := all_at dvX12_tryCause_131 18 rfl
theorem dX12_tryCause_166 : decode cX12_tryCause 166 = .ok (.putfield 382, 3) := all_at dvX12_tryCause_131 19 rfl
theorem dX12_tryCause_169 : decode cX12_tryCause 169 = .ok (.return_, 1) := all_at dvX12_tryCause_131 20 rfl
set_option maxHeartbeats 4000000 in
set_option maxRecDepth 100000 in
/-- X12_leaveOut -/
theorem c_X12_leaveOut_x (l : Launch) (dC : Nat → ClassId) (dI : Nat → Nat → Nat) (sz : Nat) (h : Nat) (g : Nat → Nat → Nat) (ca : Nat → Nat → ClassId) (iv : Nat → Nat → Int32) (lv : Nat → Nat → Int64) (fa : Nat → Nat → Nat → Int32) (la : Nat → Nat → Nat → Int64) (hI : IX iv fa) (a : Int32) (b : Int32) (d : Int32) : Met l yX12_leaveOut (wc yX12_leaveOut cX12_leaveOut 4 none) ({ frames := 0, cells := 0, slots := 0, locals := 0 } : Room) (pW (dC, dI) classes (WM h g ca iv lv fa la) (TM ca) sz [.ref h, .int a, .int b, .int d]) (va_Qv (fun (u : SS) => ∃ (ni_12_20 : Int32) (ni_12_21 : Int32) (ni_12_22 : Int32), ((ni_12_20).toInt = a.toInt) ∧ ((ni_12_21).toInt = b.toInt) ∧ ((ni_12_22).toInt = d.toInt) ∧ u = ((u2 (u2 (u2 iv 12 20 ni_12_20) 12 21 ni_12_21) 12 22 ni_12_22), lv, fa, la)) (bM (dC, dI) h g ca (va_A (WM h g ca iv lv fa la) sz)) (va_A (WM h g ca iv lv fa la) sz)) 0 0 (va_A (WM h g ca iv lv fa la) sz) := by
  refine Met.ofW (cc := cX12_leaveOut) (maxL := 4) (ret := none) (by decide) rfl ?_
  intro p e s m args below meth c s₁ B hml hv
  obtain ⟨rfl, hsz, hP, hK, hD0⟩ := hv
  have hx := B.exec
  have hb := B.bytes
  have hr := B.returns
  have ht := tb_tl (atoms_spec (ws := wc yX12_leaveOut cX12_leaveOut 4 none) B.pre)
  have hown : s.vm.findClass RX12 = some m.cls := findClass_of_methodNamed B.named
  have hlocks := B.notSynchronized
  subst hsz
  have hD := hD0.self (sz := s.heap.size)
  generalize hAe : va_A (WM h g ca iv lv fa la) s.heap.size = A at hD ⊢
  have hA : ∀ q : Nat, s.heap.size ≤ q → A q := fun q h => by rw [← hAe]; exact Or.inr h
  have hS : va_S A s.heap s.heap [] := va_S.rf
  have hl := lv_entry [.ref h, .int a, .int b, .int d] (n := 4) (Nat.le_of_ble_eq_true rfl)
  rw [lg_entry_eq]
  generalize (lg_sl [.ref h, .int a, .int b, .int d] ++ List.replicate (4 - (lg_sl [.ref h, .int a, .int b, .int d]).length) Slot.unset).toArray = ls at hl ⊢
  have hl : lv_has ls 4 [(0, .ref h), (1, .int a), (2, .int b), (3, .int d)] := hl
  refine lv_aload_n hx hb dX12_leaveOut_0 rfl (lv_at hl 0 rfl) ?_
  refine lv_iload_n hx hb dX12_leaveOut_1 rfl (lv_at hl 1 rfl) ?_
  refine pM_12_20 (v := a) hx hb ht hown hK hP hD hS m_1159 dX12_leaveOut_2 (fun H locs hP hD hS => ?_)
  refine lv_aload_n hx hb dX12_leaveOut_5 rfl (lv_at hl 0 rfl) ?_
  refine lv_iload_n hx hb dX12_leaveOut_6 rfl (lv_at hl 2 rfl) ?_
  refine pM_12_21 (v := b) hx hb ht hown hK hP hD hS m_1160 dX12_leaveOut_7 (fun H locs hP hD hS => ?_)
  refine lv_aload_n hx hb dX12_leaveOut_10 rfl (lv_at hl 0 rfl) ?_
  refine lv_iload_n hx hb dX12_leaveOut_11 rfl (lv_at hl 3 rfl) ?_
  refine pM_12_22 (v := d) hx hb ht hown hK hP hD hS m_1161 dX12_leaveOut_12 (fun H locs hP hD hS => ?_)
  have hP9 : va_P (dC, dI) classes (WM h g ca (u2 (u2 (u2 iv 12 20 a) 12 21 b) 12 22 d) lv fa la) H := hP
  have hD9 : va_D A (WM h g ca (u2 (u2 (u2 iv 12 20 a) 12 21 b) 12 22 d) lv fa la) := hD
  exact W.vret hx hb hr (fun t ht9 hW => ⟨⟨((u2 (u2 (u2 iv 12 20 a) 12 21 b) 12 22 d), lv, fa, la), rfl, ⟨a, b, d, (show (a : Int32).toInt = (a).toInt from by omega), (show (b : Int32).toInt = (b).toInt from by omega), (show (d : Int32).toInt = (d).toInt from by omega), rfl⟩, by rw [ht9]; exact hP9, hD9⟩, hS.F ht9⟩) hS.2.2 dX12_leaveOut_15
set_option maxHeartbeats 4000000 in
set_option maxRecDepth 100000 in
/-- X12_odd -/
theorem c_X12_odd (l : Launch) (dC : Nat → ClassId) (dI : Nat → Nat → Nat) (sz : Nat) (h : Nat) (g : Nat → Nat → Nat) (ca : Nat → Nat → ClassId) (iv : Nat → Nat → Int32) (lv : Nat → Nat → Int64) (fa : Nat → Nat → Nat → Int32) (la : Nat → Nat → Nat → Int64) (hI : IX iv fa) (a : Int32) (b : Int32) (hJC : JCf (iv 12 23).toInt (fa 12 25) (fa 12 26) (fa 12 27) (fa 12 28)) : Met l yX12_odd (wc yX12_odd cX12_odd 8 (some .int)) ({ frames := 2, cells := 0, slots := 0, locals := 49 } : Room) (pW (dC, dI) classes (WM h g ca iv lv fa la) (TM ca) sz [.ref h, .int a, .int b]) (va_Qi (fun r (u : SS) => ∃ (na_12_39 : Nat → Int32) (na_12_40 : Nat → Int32) (ni_12_41 : Int32), (∀ j, inb (bA 12 39 j) (na_12_39 j)) ∧ (∀ j, inb (bA 12 40 j) (na_12_40 j)) ∧ inb (bI 12 41) ni_12_41 ∧ (True) ∧ u = ((u2 iv 12 41 ni_12_41), lv, (u2 (u2 fa 12 39 na_12_39) 12 40 na_12_40), la)) (bM (dC, dI) h g ca (va_A (WM h g ca iv lv fa la) sz)) (va_A (WM h g ca iv lv fa la) sz)) 0 0 (va_A (WM h g ca iv lv fa la) sz) := by
  refine Met.ofW (cc := cX12_odd) (maxL := 8) (ret := (some .int)) (by decide) rfl ?_
  intro p e s m args below meth c s₁ B hml hv
  obtain ⟨rfl, hsz, hP, hK, hD0⟩ := hv
  have hx := B.exec
  have hb := B.bytes
  have hr := B.returns
  have ht := tb_tl (atoms_spec (ws := wc yX12_odd cX12_odd 8 (some .int)) B.pre)
  have hown : s.vm.findClass RX12 = some m.cls := findClass_of_methodNamed B.named
  have hlocks := B.notSynchronized
  subst hsz
  have hD := hD0.self (sz := s.heap.size)
  generalize hAe : va_A (WM h g ca iv lv fa la) s.heap.size = A at hD ⊢
  have hA : ∀ q : Nat, s.heap.size ≤ q → A q := fun q h => by rw [← hAe]; exact Or.inr h
  have hS : va_S A s.heap s.heap [] := va_S.rf
  have hl := lv_entry [.ref h, .int a, .int b] (n := 8) (Nat.le_of_ble_eq_true rfl)
  rw [lg_entry_eq]
  generalize (lg_sl [.ref h, .int a, .int b] ++ List.replicate (8 - (lg_sl [.ref h, .int a, .int b]).length) Slot.unset).toArray = ls at hl ⊢
  have hl : lv_has ls 8 [(0, .ref h), (1, .int a), (2, .int b)] := hl
  refine lv_aload_n hx hb dX12_odd_0 rfl (lv_at hl 0 rfl) ?_
  refine lv_iload_n hx hb dX12_odd_1 rfl (lv_at hl 1 rfl) ?_
  refine vp_callSi (W.runV (As := [.int a]) (rest := []) ⟨hx, hb, hml, hown, ht⟩ (c_X12_noBale l dC dI h g ca iv lv fa la hI a) (kV 1 ht m_1385 m_1387 m_42 m_89 m_1388 rfl rfl hd_X12_noBale_v ⟨Nat.le_of_ble_eq_true rfl, Nat.le_of_ble_eq_true rfl⟩) (vR hP hK (rM_12 hK hP)) rfl rfl hl.1 rfl (lv_room (Nat.le_of_ble_eq_true rfl)) dX12_odd_2 ⟨Nat.le_of_ble_eq_true rfl, Nat.le_of_ble_eq_true rfl⟩) (fun r1 hr1 => ?_)
  rcases hr1 with ⟨rfl, fr1⟩ | ⟨rfl, fr1⟩
  · skip
    have i_12_1 : 0 ≤ (iv 12 1).toInt ∧ (iv 12 1).toInt ≤ 10 := hI.1 12 1
    have fr1 : ¬ (0 ≤ (a : Int32).toInt ∧ (a : Int32).toInt < ((iv 12 1) : Int32).toInt) := fr1
    refine lv_if_eq (tgt := 11) hx hb dX12_odd_5 (by decide) (fun c2 => ?_) (fun c2 => ?_)
    · exact absurd c2 (by decide)
    · skip
      refine lv_ldc hx hb hown (ht _ m_1389) dX12_odd_8 ?_
      have hP9 : va_P (dC, dI) classes (WM h g ca (u2 iv 12 41 (iv 12 41)) lv (u2 (u2 fa 12 39 (fa 12 39)) 12 40 (fa 12 40)) la) s.heap := hP
      have hD9 : va_D A (WM h g ca (u2 iv 12 41 (iv 12 41)) lv (u2 (u2 fa 12 39 (fa 12 39)) 12 40 (fa 12 40)) la) := hD
      exact W.iret (v := (-100001)) hx hb hr (fun t ht9 hW => ⟨⟨(-100001), ((u2 iv 12 41 (iv 12 41)), lv, (u2 (u2 fa 12 39 (fa 12 39)) 12 40 (fa 12 40)), la), rfl, ⟨(fa 12 39), (fa 12 40), (iv 12 41), (hI.2 12 39), (hI.2 12 40), (hI.1 12 41), trivial, rfl⟩, by rw [ht9]; exact hP9, hD9⟩, hS.F ht9⟩) hS.2.2 dX12_odd_10
  · skip
    have i_12_1 : 0 ≤ (iv 12 1).toInt ∧ (iv 12 1).toInt ≤ 10 := hI.1 12 1
    have fr1 : (0 ≤ (a : Int32).toInt ∧ (a : Int32).toInt < ((iv 12 1) : Int32).toInt) := Decidable.not_not.mp fr1
    refine lv_if_eq (tgt := 11) hx hb dX12_odd_5 (by decide) (fun c3 => ?_) (fun c3 => ?_)
    · skip
      refine lv_iload_n hx hb dX12_odd_11 rfl (lv_at hl 2 rfl) ?_
      refine lv_i2l (v := (b.toInt64)) hx hb dX12_odd_12 rfl ?_
      refine lv_lconst (v := 0) hx hb dX12_odd_13 (by decide) ?_
      refine lv_ldc2 hx hb hown (ht _ m_1390) dX12_odd_14 ?_
      refine vp_callSi (W.runS (As := [.long (b.toInt64), .long 0, .long 2]) (rest := []) ⟨hx, hb, hml, hown, ht⟩ (c_X12_in l dC dI (b.toInt64) 0 2 (b.toInt) (0) (2) ((Int32.toInt_toInt64 b).trans rfl) (by decide : (0 : Int64).toInt = 0) (by decide : (2 : Int64).toInt = 2)) (kS 3 ht m_1370 m_1371 m_89 m_1372 rfl rfl hd_X12_in_v ⟨Nat.le_of_ble_eq_true rfl, Nat.le_of_ble_eq_true rfl⟩) (sR noP (hK.sub (tys' := []) [] rfl)) rfl rfl hl.1 rfl (lv_room (Nat.le_of_ble_eq_true rfl)) dX12_odd_17 ⟨Nat.le_of_ble_eq_true rfl, Nat.le_of_ble_eq_true rfl⟩) (fun r4 hr4 => ?_)
      rcases hr4 with ⟨rfl, fr4⟩ | ⟨rfl, fr4⟩
      · skip
        refine lv_if_ne (tgt := 26) hx hb dX12_odd_20 (by decide) (fun c5 => ?_) (fun c5 => ?_)
        · skip
          refine lv_aload_n hx hb dX12_odd_26 rfl (lv_at hl 0 rfl) ?_
          refine lv_iconst (v := 2) hx hb dX12_odd_27 (by decide) ?_
          refine lv_aload_n hx hb dX12_odd_28 rfl (lv_at hl 0 rfl) ?_
          have i_12_0 : 0 ≤ (iv 12 0).toInt ∧ (iv 12 0).toInt ≤ 3000 := hI.1 12 0
          refine gM_12_0 hx hb ht hown hK hP m_1139 (v := (iv 12 0)) rfl dX12_odd_29 ?_
          have hFc := free_all hD hS hA
          refine va_calli (va_runV (As := [.int 2, .int (iv 12 0)]) (rest := []) ⟨hx, hb, hml, hown, ht⟩ (c_X12_forceOf l dC dI s.heap.size h g ca iv lv fa la hI 2 (iv 12 0) ⟨by decide, by decide⟩ hJC) (kV 2 ht m_1509 m_1511 m_55 m_89 m_1512 rfl rfl hd_X12_forceOf_v ⟨Nat.le_of_ble_eq_true rfl, Nat.le_of_ble_eq_true rfl⟩) (vW hP hK hD (rM_12 hK hP)) rfl rfl hl.1 rfl (lv_room (Nat.le_of_ble_eq_true rfl)) dX12_odd_32 ⟨Nat.le_of_ble_eq_true rfl, Nat.le_of_ble_eq_true rfl⟩) hS (fun q _ h => hFc q h) hFc (fun r6 u t H1 locs ht9 hvm hr6 hB hz1 hk1 hS => ?_)
          obtain ⟨n7, n8, n9, hn7, hn8, hn9, hr6, rfl⟩ := hr6
          have hn9 : 0 ≤ n9.toInt ∧ n9.toInt ≤ 8 := hn9
          obtain ⟨hP, hD⟩ := hB
          rw [ht9] at hP
          generalize H1 = H at hP hS ⊢
          have hP : va_P (dC, dI) classes (WM h g ca (u2 iv 12 41 n9) lv (u2 (u2 fa 12 39 n7) 12 40 n8) la) H := hP
          have hD : va_D A (WM h g ca (u2 iv 12 41 n9) lv (u2 (u2 fa 12 39 n7) 12 40 n8) la) := (show va_D _ (WM h g ca (u2 iv 12 41 n9) lv (u2 (u2 fa 12 39 n7) 12 40 n8) la) from hD).weaken (fun _ _ _ h => hFc _ h)
          refine lv_istore_n (lv' := [(3, .int r6), (0, .ref h), (1, .int a), (2, .int b)]) hx hb dX12_odd_35 rfl hl (by decide) rfl (fun ls hl => ?_)
          refine lv_iconst (v := 0) hx hb dX12_odd_36 (by decide) ?_
          refine lv_istore (lv' := [(4, .int 0), (3, .int r6), (0, .ref h), (1, .int a), (2, .int b)]) hx hb dX12_odd_37 hl (by decide) rfl (fun ls hl => ?_)
          refine lv_iconst (v := 0) hx hb dX12_odd_39 (by decide) ?_
          refine lv_istore (lv' := [(5, .int 0), (4, .int 0), (3, .int r6), (0, .ref h), (1, .int a), (2, .int b)]) hx hb dX12_odd_40 hl (by decide) rfl (fun ls hl => ?_)
          have lp16827 : ∀ (nn16827 : Nat) (x16826_5 : Int32) (x16826_4 : Int32), 0 ≤ x16826_5.toInt ∧ x16826_5.toInt ≤ 60 → 60 - x16826_5.toInt < (nn16827 : Int) → ∀ (H : Heap) (locs : List Loc), ∀ (ls : Array Slot), va_P (dC, dI) classes (WM h g ca (u2 iv 12 41 n9) lv (u2 (u2 fa 12 39 n7) 12 40 n8) la) H → va_D A (WM h g ca (u2 iv 12 41 n9) lv (u2 (u2 fa 12 39 n7) 12 40 n8) la) → va_S A s.heap H locs → lv_has ls 8 [(5, .int x16826_5), (4, .int x16826_4), (3, .int r6), (0, .ref h), (1, .int a), (2, .int b)] → W p l e ({ frames := 2, cells := 0, slots := 0, locals := 49 } : Room) s m ([.ref h, .int a, .int b] : List Value).toArray below meth c H locs 0 0 (MQ below (va_Qi (fun r (u : SS) => ∃ (na_12_39 : Nat → Int32) (na_12_40 : Nat → Int32) (ni_12_41 : Int32), (∀ j, inb (bA 12 39 j) (na_12_39 j)) ∧ (∀ j, inb (bA 12 40 j) (na_12_40 j)) ∧ inb (bI 12 41) ni_12_41 ∧ (True) ∧ u = ((u2 iv 12 41 ni_12_41), lv, (u2 (u2 fa 12 39 na_12_39) 12 40 na_12_40), la)) (bM (dC, dI) h g ca A) A) ([.ref h, .int a, .int b] : List Value).toArray s 0 0 A) (F0 m 42 ls []) := by
            intro nn16827
            induction nn16827 with
            | zero => intro x16826_5 x16826_4 hx16826_5 hm16827; exfalso; omega
            | succ nn16827 ih16827 =>
              intro x16826_5 x16826_4 hx16826_5 hm16827 H locs ls hP hD hS hl
              refine lv_iload hx hb dX12_odd_42 (lv_at hl 0 rfl) ?_
              refine lv_aload_n hx hb dX12_odd_44 rfl (lv_at hl 3 rfl) ?_
              have i_12_3 : 0 ≤ (iv 12 3).toInt ∧ (iv 12 3).toInt ≤ 60 := hI.1 12 3
              refine gM_12_3 hx hb ht hown hK hP m_1142 (v := (iv 12 3)) rfl dX12_odd_45 ?_
              refine lv_icmp_ge (tgt := 207) hx hb dX12_odd_48 (by decide) (fun c16828 => ?_) (fun c16828 => ?_)
              · have fc16828 := z_le (rfl : ((iv 12 3)).toInt = _) (rfl : (x16826_5).toInt = _) c16828
                refine lv_iload hx hb dX12_odd_207 (lv_at hl 1 rfl) ?_
                have hP9 : va_P (dC, dI) classes (WM h g ca (u2 iv 12 41 n9) lv (u2 (u2 fa 12 39 n7) 12 40 n8) la) H := hP
                have hD9 : va_D A (WM h g ca (u2 iv 12 41 n9) lv (u2 (u2 fa 12 39 n7) 12 40 n8) la) := hD
                exact W.iret (v := x16826_4) hx hb hr (fun t ht9 hW => ⟨⟨x16826_4, ((u2 iv 12 41 n9), lv, (u2 (u2 fa 12 39 n7) 12 40 n8), la), rfl, ⟨n7, n8, n9, hn7, hn8, (show inb (0, 8) n9 from ⟨by omega, by omega⟩), trivial, rfl⟩, by rw [ht9]; exact hP9, hD9⟩, hS.F ht9⟩) hS.2.2 dX12_odd_209
              · have fc16828 := z_nle (rfl : ((iv 12 3)).toInt = _) (rfl : (x16826_5).toInt = _) c16828
                refine lv_iconst (v := 0) hx hb dX12_odd_51 (by decide) ?_
                refine lv_istore (lv' := [(6, .int 0), (5, .int x16826_5), (4, .int x16826_4), (3, .int r6), (0, .ref h), (1, .int a), (2, .int b)]) hx hb dX12_odd_52 hl (by decide) rfl (fun ls hl => ?_)
                have lp17922 : ∀ (nn17922 : Nat) (x17921_6 : Int32) (x17921_4 : Int32), 0 ≤ x17921_6.toInt ∧ x17921_6.toInt ≤ 59 → 59 - x17921_6.toInt < (nn17922 : Int) → ∀ (H : Heap) (locs : List Loc), ∀ (ls : Array Slot), va_P (dC, dI) classes (WM h g ca (u2 iv 12 41 n9) lv (u2 (u2 fa 12 39 n7) 12 40 n8) la) H → va_D A (WM h g ca (u2 iv 12 41 n9) lv (u2 (u2 fa 12 39 n7) 12 40 n8) la) → va_S A s.heap H locs → lv_has ls 8 [(6, .int x17921_6), (5, .int x16826_5), (4, .int x17921_4), (3, .int r6), (0, .ref h), (1, .int a), (2, .int b)] → W p l e ({ frames := 2, cells := 0, slots := 0, locals := 49 } : Room) s m ([.ref h, .int a, .int b] : List Value).toArray below meth c H locs 0 0 (MQ below (va_Qi (fun r (u : SS) => ∃ (na_12_39 : Nat → Int32) (na_12_40 : Nat → Int32) (ni_12_41 : Int32), (∀ j, inb (bA 12 39 j) (na_12_39 j)) ∧ (∀ j, inb (bA 12 40 j) (na_12_40 j)) ∧ inb (bI 12 41) ni_12_41 ∧ (True) ∧ u = ((u2 iv 12 41 ni_12_41), lv, (u2 (u2 fa 12 39 na_12_39) 12 40 na_12_40), la)) (bM (dC, dI) h g ca A) A) ([.ref h, .int a, .int b] : List Value).toArray s 0 0 A) (F0 m 54 ls []) := by
                  intro nn17922
                  induction nn17922 with
                  | zero => intro x17921_6 x17921_4 hx17921_6 hm17922; exfalso; omega
                  | succ nn17922 ih17922 =>
                    intro x17921_6 x17921_4 hx17921_6 hm17922 H locs ls hP hD hS hl
                    refine lv_iload hx hb dX12_odd_54 (lv_at hl 0 rfl) ?_
                    refine lv_iload hx hb dX12_odd_56 (lv_at hl 1 rfl) ?_
                    refine lv_icmp_ge (tgt := 201) hx hb dX12_odd_58 (by decide) (fun c17923 => ?_) (fun c17923 => ?_)
                    · have fc17923 := z_le (rfl : (x16826_5).toInt = _) (rfl : (x17921_6).toInt = _) c17923
                      obtain ⟨v17924, ev17924⟩ : ∃ y : Int32, y = x16826_5 + 1 := ⟨_, rfl⟩
                      have tv17924 := z_add ev17924 rfl (by decide : (1 : Int32).toInt = 1) (by omega) (by omega)
                      refine lv_iinc (v := v17924) (lv' := [(5, .int v17924), (6, .int x17921_6), (4, .int x17921_4), (3, .int r6), (0, .ref h), (1, .int a), (2, .int b)]) hx hb dX12_odd_201 hl (k := 1) rfl (by rw [ev17924]; rfl) (by decide) rfl (fun ls hl => ?_)
                      refine lv_goto (tgt := 42) hx hb dX12_odd_204 (by decide) ?_
                      exact ih16827 v17924 x17921_4 ⟨by omega, by omega⟩ (by omega) _ _ ls hP hD hS (lv_sub hl [0, 2, 3, 4, 5, 6] rfl)
                    · have fc17923 := z_nle (rfl : (x16826_5).toInt = _) (rfl : (x17921_6).toInt = _) c17923
                      refine lv_aload_n hx hb dX12_odd_61 rfl (lv_at hl 4 rfl) ?_
                      refine gM_12_4 hx hb ht hown hK hP m_1143 dX12_odd_62 ?_
                      refine lv_iload hx hb dX12_odd_65 (lv_at hl 1 rfl) ?_
                      refine lM_12_4 hx hb hK hP (f := (fa 12 4)) rfl (vp_in_iff.mpr ⟨by omega, by omega⟩) dX12_odd_67 ?_
                      refine lv_topi (fun v17925 ev17925 => ?_)
                      refine lv_iload_n hx hb dX12_odd_68 rfl (lv_at hl 5 rfl) ?_
                      refine lv_icmp_ne (tgt := 135) hx hb dX12_odd_69 (by decide) (fun c17926 => ?_) (fun c17926 => ?_)
                      · have fc17926 := z_ne (rfl : (v17925).toInt = _) (rfl : (a).toInt = _) c17926
                        refine lv_iconst (v := 0) hx hb dX12_odd_135 (by decide) ?_
                        refine lv_istore (lv' := [(7, .int 0), (6, .int x17921_6), (5, .int x16826_5), (4, .int x17921_4), (3, .int r6), (0, .ref h), (1, .int a), (2, .int b)]) hx hb dX12_odd_136 hl (by decide) rfl (fun ls hl => ?_)
                        refine lv_iload hx hb dX12_odd_138 (lv_at hl 3 rfl) ?_
                        refine lv_iload hx hb dX12_odd_140 (lv_at hl 0 rfl) ?_
                        refine lv_if_eq (tgt := 188) hx hb dX12_odd_142 (by decide) (fun c17927 => ?_) (fun c17927 => ?_)
                        · skip
                          refine lv_iconst (v := 0) hx hb dX12_odd_188 (by decide) ?_
                          refine vp_callSi (W.runS (As := [.int 0]) (rest := [.int x17921_4]) ⟨hx, hb, hml, hown, ht⟩ (c_X12_bit_0 l dC dI) (kS 1 ht m_1396 m_1397 m_89 m_1398 rfl rfl hd_X12_bit_v ⟨Nat.le_of_ble_eq_true rfl, Nat.le_of_ble_eq_true rfl⟩) (sR noP (hK.sub (tys' := []) [] rfl)) rfl rfl hl.1 rfl (lv_room (Nat.le_of_ble_eq_true rfl)) dX12_odd_189 ⟨Nat.le_of_ble_eq_true rfl, Nat.le_of_ble_eq_true rfl⟩) (fun r17928 hr17928 => ?_)
                          obtain rfl : 0 = r17928 := hr17928.symm
                          refine lv_iadd hx hb dX12_odd_192 ?_
                          refine lv_topi (fun v17929 ev17929 => ?_)
                          refine lv_istore (lv' := [(4, .int v17929), (7, .int 0), (6, .int x17921_6), (5, .int x16826_5), (3, .int r6), (0, .ref h), (1, .int a), (2, .int b)]) hx hb dX12_odd_193 hl (by decide) rfl (fun ls hl => ?_)
                          obtain ⟨v17930, ev17930⟩ : ∃ y : Int32, y = x17921_6 + 1 := ⟨_, rfl⟩
                          have tv17930 := z_add ev17930 rfl (by decide : (1 : Int32).toInt = 1) (by omega) (by omega)
                          refine lv_iinc (v := v17930) (lv' := [(6, .int v17930), (4, .int v17929), (7, .int 0), (5, .int x16826_5), (3, .int r6), (0, .ref h), (1, .int a), (2, .int b)]) hx hb dX12_odd_195 hl (k := 2) rfl (by rw [ev17930]; rfl) (by decide) rfl (fun ls hl => ?_)
                          refine lv_goto (tgt := 54) hx hb dX12_odd_198 (by decide) ?_
                          exact ih17922 v17930 v17929 ⟨by omega, by omega⟩ (by omega) _ _ ls hP hD hS (lv_sub hl [0, 3, 1, 4, 5, 6, 7] rfl)
                        · exact absurd rfl c17927
                      · have fc17926 := z_eq (rfl : (v17925).toInt = _) (rfl : (a).toInt = _) c17926
                        refine lv_aload_n hx hb dX12_odd_72 rfl (lv_at hl 4 rfl) ?_
                        refine gM_12_4 hx hb ht hown hK hP m_1143 dX12_odd_73 ?_
                        refine lv_iload hx hb dX12_odd_76 (lv_at hl 0 rfl) ?_
                        refine lM_12_4 hx hb hK hP (f := (fa 12 4)) rfl (vp_in_iff.mpr ⟨by omega, by omega⟩) dX12_odd_78 ?_
                        refine lv_topi (fun v17931 ev17931 => ?_)
                        refine lv_iload_n hx hb dX12_odd_79 rfl (lv_at hl 5 rfl) ?_
                        refine lv_icmp_ne (tgt := 135) hx hb dX12_odd_80 (by decide) (fun c17932 => ?_) (fun c17932 => ?_)
                        · have fc17932 := z_ne (rfl : (v17931).toInt = _) (rfl : (a).toInt = _) c17932
                          refine lv_iconst (v := 0) hx hb dX12_odd_135 (by decide) ?_
                          refine lv_istore (lv' := [(7, .int 0), (6, .int x17921_6), (5, .int x16826_5), (4, .int x17921_4), (3, .int r6), (0, .ref h), (1, .int a), (2, .int b)]) hx hb dX12_odd_136 hl (by decide) rfl (fun ls hl => ?_)
                          refine lv_iload hx hb dX12_odd_138 (lv_at hl 3 rfl) ?_
                          refine lv_iload hx hb dX12_odd_140 (lv_at hl 0 rfl) ?_
                          refine lv_if_eq (tgt := 188) hx hb dX12_odd_142 (by decide) (fun c17933 => ?_) (fun c17933 => ?_)
                          · skip
                            refine lv_iconst (v := 0) hx hb dX12_odd_188 (by decide) ?_
                            refine vp_callSi (W.runS (As := [.int 0]) (rest := [.int x17921_4]) ⟨hx, hb, hml, hown, ht⟩ (c_X12_bit_0 l dC dI) (kS 1 ht m_1396 m_1397 m_89 m_1398 rfl rfl hd_X12_bit_v ⟨Nat.le_of_ble_eq_true rfl, Nat.le_of_ble_eq_true rfl⟩) (sR noP (hK.sub (tys' := []) [] rfl)) rfl rfl hl.1 rfl (lv_room (Nat.le_of_ble_eq_true rfl)) dX12_odd_189 ⟨Nat.le_of_ble_eq_true rfl, Nat.le_of_ble_eq_true rfl⟩) (fun r17934 hr17934 => ?_)
                            obtain rfl : 0 = r17934 := hr17934.symm
                            refine lv_iadd hx hb dX12_odd_192 ?_
                            refine lv_topi (fun v17935 ev17935 => ?_)
                            refine lv_istore (lv' := [(4, .int v17935), (7, .int 0), (6, .int x17921_6), (5, .int x16826_5), (3, .int r6), (0, .ref h), (1, .int a), (2, .int b)]) hx hb dX12_odd_193 hl (by decide) rfl (fun ls hl => ?_)
                            obtain ⟨v17936, ev17936⟩ : ∃ y : Int32, y = x17921_6 + 1 := ⟨_, rfl⟩
                            have tv17936 := z_add ev17936 rfl (by decide : (1 : Int32).toInt = 1) (by omega) (by omega)
                            refine lv_iinc (v := v17936) (lv' := [(6, .int v17936), (4, .int v17935), (7, .int 0), (5, .int x16826_5), (3, .int r6), (0, .ref h), (1, .int a), (2, .int b)]) hx hb dX12_odd_195 hl (k := 2) rfl (by rw [ev17936]; rfl) (by decide) rfl (fun ls hl => ?_)
                            refine lv_goto (tgt := 54) hx hb dX12_odd_198 (by decide) ?_
                            exact ih17922 v17936 v17935 ⟨by omega, by omega⟩ (by omega) _ _ ls hP hD hS (lv_sub hl [0, 3, 1, 4, 5, 6, 7] rfl)
                          · exact absurd rfl c17933
                        · have fc17932 := z_eq (rfl : (v17931).toInt = _) (rfl : (a).toInt = _) c17932
                          refine lv_aload_n hx hb dX12_odd_83 rfl (lv_at hl 4 rfl) ?_
                          refine gM_12_5 hx hb ht hown hK hP m_1144 dX12_odd_84 ?_
                          refine lv_iload hx hb dX12_odd_87 (lv_at hl 1 rfl) ?_
                          refine lM_12_5 hx hb hK hP (f := (fa 12 5)) rfl (vp_in_iff.mpr ⟨by omega, by omega⟩) dX12_odd_89 ?_
                          refine lv_topi (fun v17937 ev17937 => ?_)
                          refine lv_iload_n hx hb dX12_odd_90 rfl (lv_at hl 6 rfl) ?_
                          refine lv_icmp_ne (tgt := 135) hx hb dX12_odd_91 (by decide) (fun c17938 => ?_) (fun c17938 => ?_)
                          · have fc17938 := z_ne (rfl : (v17937).toInt = _) (rfl : (b).toInt = _) c17938
                            refine lv_iconst (v := 0) hx hb dX12_odd_135 (by decide) ?_
                            refine lv_istore (lv' := [(7, .int 0), (6, .int x17921_6), (5, .int x16826_5), (4, .int x17921_4), (3, .int r6), (0, .ref h), (1, .int a), (2, .int b)]) hx hb dX12_odd_136 hl (by decide) rfl (fun ls hl => ?_)
                            refine lv_iload hx hb dX12_odd_138 (lv_at hl 3 rfl) ?_
                            refine lv_iload hx hb dX12_odd_140 (lv_at hl 0 rfl) ?_
                            refine lv_if_eq (tgt := 188) hx hb dX12_odd_142 (by decide) (fun c17939 => ?_) (fun c17939 => ?_)
                            · skip
                              refine lv_iconst (v := 0) hx hb dX12_odd_188 (by decide) ?_
                              refine vp_callSi (W.runS (As := [.int 0]) (rest := [.int x17921_4]) ⟨hx, hb, hml, hown, ht⟩ (c_X12_bit_0 l dC dI) (kS 1 ht m_1396 m_1397 m_89 m_1398 rfl rfl hd_X12_bit_v ⟨Nat.le_of_ble_eq_true rfl, Nat.le_of_ble_eq_true rfl⟩) (sR noP (hK.sub (tys' := []) [] rfl)) rfl rfl hl.1 rfl (lv_room (Nat.le_of_ble_eq_true rfl)) dX12_odd_189 ⟨Nat.le_of_ble_eq_true rfl, Nat.le_of_ble_eq_true rfl⟩) (fun r17940 hr17940 => ?_)
                              obtain rfl : 0 = r17940 := hr17940.symm
                              refine lv_iadd hx hb dX12_odd_192 ?_
                              refine lv_topi (fun v17941 ev17941 => ?_)
                              refine lv_istore (lv' := [(4, .int v17941), (7, .int 0), (6, .int x17921_6), (5, .int x16826_5), (3, .int r6), (0, .ref h), (1, .int a), (2, .int b)]) hx hb dX12_odd_193 hl (by decide) rfl (fun ls hl => ?_)
                              obtain ⟨v17942, ev17942⟩ : ∃ y : Int32, y = x17921_6 + 1 := ⟨_, rfl⟩
                              have tv17942 := z_add ev17942 rfl (by decide : (1 : Int32).toInt = 1) (by omega) (by omega)
                              refine lv_iinc (v := v17942) (lv' := [(6, .int v17942), (4, .int v17941), (7, .int 0), (5, .int x16826_5), (3, .int r6), (0, .ref h), (1, .int a), (2, .int b)]) hx hb dX12_odd_195 hl (k := 2) rfl (by rw [ev17942]; rfl) (by decide) rfl (fun ls hl => ?_)
                              refine lv_goto (tgt := 54) hx hb dX12_odd_198 (by decide) ?_
                              exact ih17922 v17942 v17941 ⟨by omega, by omega⟩ (by omega) _ _ ls hP hD hS (lv_sub hl [0, 3, 1, 4, 5, 6, 7] rfl)
                            · exact absurd rfl c17939
                          · have fc17938 := z_eq (rfl : (v17937).toInt = _) (rfl : (b).toInt = _) c17938
                            refine lv_aload_n hx hb dX12_odd_94 rfl (lv_at hl 4 rfl) ?_
                            refine gM_12_5 hx hb ht hown hK hP m_1144 dX12_odd_95 ?_
                            refine lv_iload hx hb dX12_odd_98 (lv_at hl 0 rfl) ?_
                            refine lM_12_5 hx hb hK hP (f := (fa 12 5)) rfl (vp_in_iff.mpr ⟨by omega, by omega⟩) dX12_odd_100 ?_
                            refine lv_topi (fun v17943 ev17943 => ?_)
                            refine lv_iload_n hx hb dX12_odd_101 rfl (lv_at hl 6 rfl) ?_
                            refine lv_icmp_ne (tgt := 135) hx hb dX12_odd_102 (by decide) (fun c17944 => ?_) (fun c17944 => ?_)
                            · have fc17944 := z_ne (rfl : (v17943).toInt = _) (rfl : (b).toInt = _) c17944
                              refine lv_iconst (v := 0) hx hb dX12_odd_135 (by decide) ?_
                              refine lv_istore (lv' := [(7, .int 0), (6, .int x17921_6), (5, .int x16826_5), (4, .int x17921_4), (3, .int r6), (0, .ref h), (1, .int a), (2, .int b)]) hx hb dX12_odd_136 hl (by decide) rfl (fun ls hl => ?_)
                              refine lv_iload hx hb dX12_odd_138 (lv_at hl 3 rfl) ?_
                              refine lv_iload hx hb dX12_odd_140 (lv_at hl 0 rfl) ?_
                              refine lv_if_eq (tgt := 188) hx hb dX12_odd_142 (by decide) (fun c17945 => ?_) (fun c17945 => ?_)
                              · skip
                                refine lv_iconst (v := 0) hx hb dX12_odd_188 (by decide) ?_
                                refine vp_callSi (W.runS (As := [.int 0]) (rest := [.int x17921_4]) ⟨hx, hb, hml, hown, ht⟩ (c_X12_bit_0 l dC dI) (kS 1 ht m_1396 m_1397 m_89 m_1398 rfl rfl hd_X12_bit_v ⟨Nat.le_of_ble_eq_true rfl, Nat.le_of_ble_eq_true rfl⟩) (sR noP (hK.sub (tys' := []) [] rfl)) rfl rfl hl.1 rfl (lv_room (Nat.le_of_ble_eq_true rfl)) dX12_odd_189 ⟨Nat.le_of_ble_eq_true rfl, Nat.le_of_ble_eq_true rfl⟩) (fun r17946 hr17946 => ?_)
                                obtain rfl : 0 = r17946 := hr17946.symm
                                refine lv_iadd hx hb dX12_odd_192 ?_
                                refine lv_topi (fun v17947 ev17947 => ?_)
                                refine lv_istore (lv' := [(4, .int v17947), (7, .int 0), (6, .int x17921_6), (5, .int x16826_5), (3, .int r6), (0, .ref h), (1, .int a), (2, .int b)]) hx hb dX12_odd_193 hl (by decide) rfl (fun ls hl => ?_)
                                obtain ⟨v17948, ev17948⟩ : ∃ y : Int32, y = x17921_6 + 1 := ⟨_, rfl⟩
                                have tv17948 := z_add ev17948 rfl (by decide : (1 : Int32).toInt = 1) (by omega) (by omega)
                                refine lv_iinc (v := v17948) (lv' := [(6, .int v17948), (4, .int v17947), (7, .int 0), (5, .int x16826_5), (3, .int r6), (0, .ref h), (1, .int a), (2, .int b)]) hx hb dX12_odd_195 hl (k := 2) rfl (by rw [ev17948]; rfl) (by decide) rfl (fun ls hl => ?_)
                                refine lv_goto (tgt := 54) hx hb dX12_odd_198 (by decide) ?_
                                exact ih17922 v17948 v17947 ⟨by omega, by omega⟩ (by omega) _ _ ls hP hD hS (lv_sub hl [0, 3, 1, 4, 5, 6, 7] rfl)
                              · exact absurd rfl c17945
                            · have fc17944 := z_eq (rfl : (v17943).toInt = _) (rfl : (b).toInt = _) c17944
                              refine lv_aload_n hx hb dX12_odd_105 rfl (lv_at hl 4 rfl) ?_
                              refine lv_iload hx hb dX12_odd_106 (lv_at hl 1 rfl) ?_
                              refine lv_aload_n hx hb dX12_odd_108 rfl (lv_at hl 4 rfl) ?_
                              refine gM_12_0 hx hb ht hown hK hP m_1139 (v := (iv 12 0)) rfl dX12_odd_109 ?_
                              refine vp_callSi (W.runV (As := [.int x16826_5, .int (iv 12 0)]) (rest := []) ⟨hx, hb, hml, hown, ht⟩ (c_X12_isThere_x l dC dI h g ca (u2 iv 12 41 n9) lv (u2 (u2 fa 12 39 n7) 12 40 n8) la (IX_a (c := 12) (k := 40) (IX_a (c := 12) (k := 39) (IX_i (c := 12) (k := 41) hI (show inb (0, 8) n9 from ⟨by omega, by omega⟩)) hn7) hn8) x16826_5 (iv 12 0) ⟨by omega, by omega⟩) (kV 2 ht m_1438 m_1440 m_46 m_89 m_1441 rfl rfl hd_X12_isThere_v ⟨Nat.le_of_ble_eq_true rfl, Nat.le_of_ble_eq_true rfl⟩) (vR hP hK (rM_12 hK hP)) rfl rfl hl.1 rfl (lv_room (Nat.le_of_ble_eq_true rfl)) dX12_odd_112 ⟨Nat.le_of_ble_eq_true rfl, Nat.le_of_ble_eq_true rfl⟩) (fun r17949 hr17949 => ?_)
                              obtain ⟨hr17949, xr17949_0⟩ := hr17949
                              have xr17949_0 : (((r17949 : Int32).toInt = 1 ∧ ((fa 12 11) (x16826_5 : Int32).toNatClampNeg).toInt ≤ ((iv 12 0) : Int32).toInt ∧ (((fa 12 12) (x16826_5 : Int32).toNatClampNeg).toInt < 0 ∨ ((iv 12 0) : Int32).toInt < ((fa 12 12) (x16826_5 : Int32).toNatClampNeg).toInt)) ∨ ((r17949 : Int32).toInt = 0 ∧ ¬ (((fa 12 11) (x16826_5 : Int32).toNatClampNeg).toInt ≤ ((iv 12 0) : Int32).toInt ∧ (((fa 12 12) (x16826_5 : Int32).toNatClampNeg).toInt < 0 ∨ ((iv 12 0) : Int32).toInt < ((fa 12 12) (x16826_5 : Int32).toNatClampNeg).toInt)))) := xr17949_0
                              refine lv_if_eq (tgt := 135) hx hb dX12_odd_115 (by decide) (fun c17950 => ?_) (fun c17950 => ?_)
                              · have fc17950 := z_eq (rfl : (r17949).toInt = _) (by decide : (0 : Int32).toInt = 0) c17950
                                refine lv_iconst (v := 0) hx hb dX12_odd_135 (by decide) ?_
                                refine lv_istore (lv' := [(7, .int 0), (6, .int x17921_6), (5, .int x16826_5), (4, .int x17921_4), (3, .int r6), (0, .ref h), (1, .int a), (2, .int b)]) hx hb dX12_odd_136 hl (by decide) rfl (fun ls hl => ?_)
                                refine lv_iload hx hb dX12_odd_138 (lv_at hl 3 rfl) ?_
                                refine lv_iload hx hb dX12_odd_140 (lv_at hl 0 rfl) ?_
                                refine lv_if_eq (tgt := 188) hx hb dX12_odd_142 (by decide) (fun c17951 => ?_) (fun c17951 => ?_)
                                · skip
                                  refine lv_iconst (v := 0) hx hb dX12_odd_188 (by decide) ?_
                                  refine vp_callSi (W.runS (As := [.int 0]) (rest := [.int x17921_4]) ⟨hx, hb, hml, hown, ht⟩ (c_X12_bit_0 l dC dI) (kS 1 ht m_1396 m_1397 m_89 m_1398 rfl rfl hd_X12_bit_v ⟨Nat.le_of_ble_eq_true rfl, Nat.le_of_ble_eq_true rfl⟩) (sR noP (hK.sub (tys' := []) [] rfl)) rfl rfl hl.1 rfl (lv_room (Nat.le_of_ble_eq_true rfl)) dX12_odd_189 ⟨Nat.le_of_ble_eq_true rfl, Nat.le_of_ble_eq_true rfl⟩) (fun r17952 hr17952 => ?_)
                                  obtain rfl : 0 = r17952 := hr17952.symm
                                  refine lv_iadd hx hb dX12_odd_192 ?_
                                  refine lv_topi (fun v17953 ev17953 => ?_)
                                  refine lv_istore (lv' := [(4, .int v17953), (7, .int 0), (6, .int x17921_6), (5, .int x16826_5), (3, .int r6), (0, .ref h), (1, .int a), (2, .int b)]) hx hb dX12_odd_193 hl (by decide) rfl (fun ls hl => ?_)
                                  obtain ⟨v17954, ev17954⟩ : ∃ y : Int32, y = x17921_6 + 1 := ⟨_, rfl⟩
                                  have tv17954 := z_add ev17954 rfl (by decide : (1 : Int32).toInt = 1) (by omega) (by omega)
                                  refine lv_iinc (v := v17954) (lv' := [(6, .int v17954), (4, .int v17953), (7, .int 0), (5, .int x16826_5), (3, .int r6), (0, .ref h), (1, .int a), (2, .int b)]) hx hb dX12_odd_195 hl (k := 2) rfl (by rw [ev17954]; rfl) (by decide) rfl (fun ls hl => ?_)
                                  refine lv_goto (tgt := 54) hx hb dX12_odd_198 (by decide) ?_
                                  exact ih17922 v17954 v17953 ⟨by omega, by omega⟩ (by omega) _ _ ls hP hD hS (lv_sub hl [0, 3, 1, 4, 5, 6, 7] rfl)
                                · exact absurd rfl c17951
                              · have fc17950 := z_ne (rfl : (r17949).toInt = _) (by decide : (0 : Int32).toInt = 0) c17950
                                refine lv_aload_n hx hb dX12_odd_118 rfl (lv_at hl 4 rfl) ?_
                                refine lv_iload hx hb dX12_odd_119 (lv_at hl 0 rfl) ?_
                                refine lv_aload_n hx hb dX12_odd_121 rfl (lv_at hl 4 rfl) ?_
                                refine gM_12_0 hx hb ht hown hK hP m_1139 (v := (iv 12 0)) rfl dX12_odd_122 ?_
                                refine vp_callSi (W.runV (As := [.int x17921_6, .int (iv 12 0)]) (rest := []) ⟨hx, hb, hml, hown, ht⟩ (c_X12_isThere_x l dC dI h g ca (u2 iv 12 41 n9) lv (u2 (u2 fa 12 39 n7) 12 40 n8) la (IX_a (c := 12) (k := 40) (IX_a (c := 12) (k := 39) (IX_i (c := 12) (k := 41) hI (show inb (0, 8) n9 from ⟨by omega, by omega⟩)) hn7) hn8) x17921_6 (iv 12 0) ⟨by omega, by omega⟩) (kV 2 ht m_1438 m_1440 m_46 m_89 m_1441 rfl rfl hd_X12_isThere_v ⟨Nat.le_of_ble_eq_true rfl, Nat.le_of_ble_eq_true rfl⟩) (vR hP hK (rM_12 hK hP)) rfl rfl hl.1 rfl (lv_room (Nat.le_of_ble_eq_true rfl)) dX12_odd_125 ⟨Nat.le_of_ble_eq_true rfl, Nat.le_of_ble_eq_true rfl⟩) (fun r17955 hr17955 => ?_)
                                obtain ⟨hr17955, xr17955_0⟩ := hr17955
                                have xr17955_0 : (((r17955 : Int32).toInt = 1 ∧ ((fa 12 11) (x17921_6 : Int32).toNatClampNeg).toInt ≤ ((iv 12 0) : Int32).toInt ∧ (((fa 12 12) (x17921_6 : Int32).toNatClampNeg).toInt < 0 ∨ ((iv 12 0) : Int32).toInt < ((fa 12 12) (x17921_6 : Int32).toNatClampNeg).toInt)) ∨ ((r17955 : Int32).toInt = 0 ∧ ¬ (((fa 12 11) (x17921_6 : Int32).toNatClampNeg).toInt ≤ ((iv 12 0) : Int32).toInt ∧ (((fa 12 12) (x17921_6 : Int32).toNatClampNeg).toInt < 0 ∨ ((iv 12 0) : Int32).toInt < ((fa 12 12) (x17921_6 : Int32).toNatClampNeg).toInt)))) := xr17955_0
                                refine lv_if_eq (tgt := 135) hx hb dX12_odd_128 (by decide) (fun c17956 => ?_) (fun c17956 => ?_)
                                · have fc17956 := z_eq (rfl : (r17955).toInt = _) (by decide : (0 : Int32).toInt = 0) c17956
                                  refine lv_iconst (v := 0) hx hb dX12_odd_135 (by decide) ?_
                                  refine lv_istore (lv' := [(7, .int 0), (6, .int x17921_6), (5, .int x16826_5), (4, .int x17921_4), (3, .int r6), (0, .ref h), (1, .int a), (2, .int b)]) hx hb dX12_odd_136 hl (by decide) rfl (fun ls hl => ?_)
                                  refine lv_iload hx hb dX12_odd_138 (lv_at hl 3 rfl) ?_
                                  refine lv_iload hx hb dX12_odd_140 (lv_at hl 0 rfl) ?_
                                  refine lv_if_eq (tgt := 188) hx hb dX12_odd_142 (by decide) (fun c17957 => ?_) (fun c17957 => ?_)
                                  · skip
                                    refine lv_iconst (v := 0) hx hb dX12_odd_188 (by decide) ?_
                                    refine vp_callSi (W.runS (As := [.int 0]) (rest := [.int x17921_4]) ⟨hx, hb, hml, hown, ht⟩ (c_X12_bit_0 l dC dI) (kS 1 ht m_1396 m_1397 m_89 m_1398 rfl rfl hd_X12_bit_v ⟨Nat.le_of_ble_eq_true rfl, Nat.le_of_ble_eq_true rfl⟩) (sR noP (hK.sub (tys' := []) [] rfl)) rfl rfl hl.1 rfl (lv_room (Nat.le_of_ble_eq_true rfl)) dX12_odd_189 ⟨Nat.le_of_ble_eq_true rfl, Nat.le_of_ble_eq_true rfl⟩) (fun r17958 hr17958 => ?_)
                                    obtain rfl : 0 = r17958 := hr17958.symm
                                    refine lv_iadd hx hb dX12_odd_192 ?_
                                    refine lv_topi (fun v17959 ev17959 => ?_)
                                    refine lv_istore (lv' := [(4, .int v17959), (7, .int 0), (6, .int x17921_6), (5, .int x16826_5), (3, .int r6), (0, .ref h), (1, .int a), (2, .int b)]) hx hb dX12_odd_193 hl (by decide) rfl (fun ls hl => ?_)
                                    obtain ⟨v17960, ev17960⟩ : ∃ y : Int32, y = x17921_6 + 1 := ⟨_, rfl⟩
                                    have tv17960 := z_add ev17960 rfl (by decide : (1 : Int32).toInt = 1) (by omega) (by omega)
                                    refine lv_iinc (v := v17960) (lv' := [(6, .int v17960), (4, .int v17959), (7, .int 0), (5, .int x16826_5), (3, .int r6), (0, .ref h), (1, .int a), (2, .int b)]) hx hb dX12_odd_195 hl (k := 2) rfl (by rw [ev17960]; rfl) (by decide) rfl (fun ls hl => ?_)
                                    refine lv_goto (tgt := 54) hx hb dX12_odd_198 (by decide) ?_
                                    exact ih17922 v17960 v17959 ⟨by omega, by omega⟩ (by omega) _ _ ls hP hD hS (lv_sub hl [0, 3, 1, 4, 5, 6, 7] rfl)
                                  · exact absurd rfl c17957
                                · have fc17956 := z_ne (rfl : (r17955).toInt = _) (by decide : (0 : Int32).toInt = 0) c17956
                                  refine lv_iconst (v := 1) hx hb dX12_odd_131 (by decide) ?_
                                  refine lv_goto (tgt := 136) hx hb dX12_odd_132 (by decide) ?_
                                  refine lv_istore (lv' := [(7, .int 1), (6, .int x17921_6), (5, .int x16826_5), (4, .int x17921_4), (3, .int r6), (0, .ref h), (1, .int a), (2, .int b)]) hx hb dX12_odd_136 hl (by decide) rfl (fun ls hl => ?_)
                                  refine lv_iload hx hb dX12_odd_138 (lv_at hl 3 rfl) ?_
                                  refine lv_iload hx hb dX12_odd_140 (lv_at hl 0 rfl) ?_
                                  refine lv_if_eq (tgt := 188) hx hb dX12_odd_142 (by decide) (fun c17961 => ?_) (fun c17961 => ?_)
                                  · exact absurd c17961 (by decide)
                                  · skip
                                    refine lv_aload_n hx hb dX12_odd_145 rfl (lv_at hl 5 rfl) ?_
                                    refine gM_12_8 hx hb ht hown hK hP m_1147 dX12_odd_146 ?_
                                    refine lv_iload hx hb dX12_odd_149 (lv_at hl 2 rfl) ?_
                                    refine lM_12_8 hx hb hK hP (f := (fa 12 8)) rfl (vp_in_iff.mpr ⟨by omega, by omega⟩) dX12_odd_151 ?_
                                    refine lv_topi (fun v17962 ev17962 => ?_)
                                    refine lv_i2l (v := (v17962.toInt64)) hx hb dX12_odd_152 rfl ?_
                                    refine lv_aload_n hx hb dX12_odd_153 rfl (lv_at hl 5 rfl) ?_
                                    refine gM_12_7 hx hb ht hown hK hP m_1146 dX12_odd_154 ?_
                                    refine lv_iload hx hb dX12_odd_157 (lv_at hl 2 rfl) ?_
                                    refine lM_12_7 hx hb hK hP (f := (fa 12 7)) rfl (vp_in_iff.mpr ⟨by omega, by omega⟩) dX12_odd_159 ?_
                                    refine lv_topi (fun v17963 ev17963 => ?_)
                                    have tv17963 : 0 ≤ v17963.toInt ∧ v17963.toInt ≤ 9999 := by rw [ev17963]; exact hI.2 12 7 _
                                    refine lv_i2l (v := (v17963.toInt64)) hx hb dX12_odd_160 rfl ?_
                                    refine lv_aload_n hx hb dX12_odd_161 rfl (lv_at hl 5 rfl) ?_
                                    refine gM_12_8 hx hb ht hown hK hP m_1147 dX12_odd_162 ?_
                                    refine lv_iload hx hb dX12_odd_165 (lv_at hl 1 rfl) ?_
                                    refine lM_12_8 hx hb hK hP (f := (fa 12 8)) rfl (vp_in_iff.mpr ⟨by omega, by omega⟩) dX12_odd_167 ?_
                                    refine lv_topi (fun v17964 ev17964 => ?_)
                                    refine lv_i2l (v := (v17964.toInt64)) hx hb dX12_odd_168 rfl ?_
                                    refine lv_aload_n hx hb dX12_odd_169 rfl (lv_at hl 5 rfl) ?_
                                    refine gM_12_7 hx hb ht hown hK hP m_1146 dX12_odd_170 ?_
                                    refine lv_iload hx hb dX12_odd_173 (lv_at hl 1 rfl) ?_
                                    refine lM_12_7 hx hb hK hP (f := (fa 12 7)) rfl (vp_in_iff.mpr ⟨by omega, by omega⟩) dX12_odd_175 ?_
                                    refine lv_topi (fun v17965 ev17965 => ?_)
                                    have tv17965 : 0 ≤ v17965.toInt ∧ v17965.toInt ≤ 9999 := by rw [ev17965]; exact hI.2 12 7 _
                                    refine lv_i2l (v := (v17965.toInt64)) hx hb dX12_odd_176 rfl ?_
                                    refine lv_iload_n hx hb dX12_odd_177 rfl (lv_at hl 4 rfl) ?_
                                    refine vp_callSi (W.runS (As := [.long (v17962.toInt64), .long (v17963.toInt64), .long (v17964.toInt64), .long (v17965.toInt64), .int r6]) (rest := [.int x17921_4]) ⟨hx, hb, hml, hown, ht⟩ (c_X12_doPart l dC dI (v17962.toInt64) (v17963.toInt64) (v17964.toInt64) (v17965.toInt64) r6) (kS 5 ht m_1540 m_1541 m_89 m_1542 rfl rfl hd_X12_doPart_v ⟨Nat.le_of_ble_eq_true rfl, Nat.le_of_ble_eq_true rfl⟩) (sR noP (hK.sub (tys' := []) [] rfl)) rfl rfl hl.1 rfl (lv_room (Nat.le_of_ble_eq_true rfl)) dX12_odd_178 ⟨Nat.le_of_ble_eq_true rfl, Nat.le_of_ble_eq_true rfl⟩) (fun r17966 hr17966 => ?_)
                                    refine lv_if_eq (tgt := 188) hx hb dX12_odd_181 (by decide) (fun c17967 => ?_) (fun c17967 => ?_)
                                    · have fc17967 := z_eq (rfl : (r17966).toInt = _) (by decide : (0 : Int32).toInt = 0) c17967
                                      refine lv_iconst (v := 0) hx hb dX12_odd_188 (by decide) ?_
                                      refine vp_callSi (W.runS (As := [.int 0]) (rest := [.int x17921_4]) ⟨hx, hb, hml, hown, ht⟩ (c_X12_bit_0 l dC dI) (kS 1 ht m_1396 m_1397 m_89 m_1398 rfl rfl hd_X12_bit_v ⟨Nat.le_of_ble_eq_true rfl, Nat.le_of_ble_eq_true rfl⟩) (sR noP (hK.sub (tys' := []) [] rfl)) rfl rfl hl.1 rfl (lv_room (Nat.le_of_ble_eq_true rfl)) dX12_odd_189 ⟨Nat.le_of_ble_eq_true rfl, Nat.le_of_ble_eq_true rfl⟩) (fun r17968 hr17968 => ?_)
                                      obtain rfl : 0 = r17968 := hr17968.symm
                                      refine lv_iadd hx hb dX12_odd_192 ?_
                                      refine lv_topi (fun v17969 ev17969 => ?_)
                                      refine lv_istore (lv' := [(4, .int v17969), (7, .int 1), (6, .int x17921_6), (5, .int x16826_5), (3, .int r6), (0, .ref h), (1, .int a), (2, .int b)]) hx hb dX12_odd_193 hl (by decide) rfl (fun ls hl => ?_)
                                      obtain ⟨v17970, ev17970⟩ : ∃ y : Int32, y = x17921_6 + 1 := ⟨_, rfl⟩
                                      have tv17970 := z_add ev17970 rfl (by decide : (1 : Int32).toInt = 1) (by omega) (by omega)
                                      refine lv_iinc (v := v17970) (lv' := [(6, .int v17970), (4, .int v17969), (7, .int 1), (5, .int x16826_5), (3, .int r6), (0, .ref h), (1, .int a), (2, .int b)]) hx hb dX12_odd_195 hl (k := 2) rfl (by rw [ev17970]; rfl) (by decide) rfl (fun ls hl => ?_)
                                      refine lv_goto (tgt := 54) hx hb dX12_odd_198 (by decide) ?_
                                      exact ih17922 v17970 v17969 ⟨by omega, by omega⟩ (by omega) _ _ ls hP hD hS (lv_sub hl [0, 3, 1, 4, 5, 6, 7] rfl)
                                    · have fc17967 := z_ne (rfl : (r17966).toInt = _) (by decide : (0 : Int32).toInt = 0) c17967
                                      refine lv_iconst (v := 1) hx hb dX12_odd_184 (by decide) ?_
                                      refine lv_goto (tgt := 189) hx hb dX12_odd_185 (by decide) ?_
                                      refine vp_callSi (W.runS (As := [.int 1]) (rest := [.int x17921_4]) ⟨hx, hb, hml, hown, ht⟩ (c_X12_bit_1 l dC dI) (kS 1 ht m_1396 m_1397 m_89 m_1398 rfl rfl hd_X12_bit_v ⟨Nat.le_of_ble_eq_true rfl, Nat.le_of_ble_eq_true rfl⟩) (sR noP (hK.sub (tys' := []) [] rfl)) rfl rfl hl.1 rfl (lv_room (Nat.le_of_ble_eq_true rfl)) dX12_odd_189 ⟨Nat.le_of_ble_eq_true rfl, Nat.le_of_ble_eq_true rfl⟩) (fun r17971 hr17971 => ?_)
                                      obtain rfl : 1 = r17971 := hr17971.symm
                                      refine lv_iadd hx hb dX12_odd_192 ?_
                                      refine lv_topi (fun v17972 ev17972 => ?_)
                                      refine lv_istore (lv' := [(4, .int v17972), (7, .int 1), (6, .int x17921_6), (5, .int x16826_5), (3, .int r6), (0, .ref h), (1, .int a), (2, .int b)]) hx hb dX12_odd_193 hl (by decide) rfl (fun ls hl => ?_)
                                      obtain ⟨v17973, ev17973⟩ : ∃ y : Int32, y = x17921_6 + 1 := ⟨_, rfl⟩
                                      have tv17973 := z_add ev17973 rfl (by decide : (1 : Int32).toInt = 1) (by omega) (by omega)
                                      refine lv_iinc (v := v17973) (lv' := [(6, .int v17973), (4, .int v17972), (7, .int 1), (5, .int x16826_5), (3, .int r6), (0, .ref h), (1, .int a), (2, .int b)]) hx hb dX12_odd_195 hl (k := 2) rfl (by rw [ev17973]; rfl) (by decide) rfl (fun ls hl => ?_)
                                      refine lv_goto (tgt := 54) hx hb dX12_odd_198 (by decide) ?_
                                      exact ih17922 v17973 v17972 ⟨by omega, by omega⟩ (by omega) _ _ ls hP hD hS (lv_sub hl [0, 3, 1, 4, 5, 6, 7] rfl)
                exact lp17922 60 0 x16826_4 ⟨by decide, by decide⟩ (by first | decide | omega) _ _ ls hP hD hS (lv_sub hl [0, 1, 2, 3, 4, 5, 6] rfl)
          exact lp16827 61 0 0 ⟨by decide, by decide⟩ (by first | decide | omega) _ _ ls hP hD hS (lv_sub hl [0, 1, 2, 3, 4, 5] rfl)
        · exact absurd c5 (by decide)
      · skip
        refine lv_if_ne (tgt := 26) hx hb dX12_odd_20 (by decide) (fun c17974 => ?_) (fun c17974 => ?_)
        · exact absurd rfl c17974
        · skip
          refine lv_ldc hx hb hown (ht _ m_1373) dX12_odd_23 ?_
          have hP9 : va_P (dC, dI) classes (WM h g ca (u2 iv 12 41 (iv 12 41)) lv (u2 (u2 fa 12 39 (fa 12 39)) 12 40 (fa 12 40)) la) s.heap := hP
          have hD9 : va_D A (WM h g ca (u2 iv 12 41 (iv 12 41)) lv (u2 (u2 fa 12 39 (fa 12 39)) 12 40 (fa 12 40)) la) := hD
          exact W.iret (v := (-100002)) hx hb hr (fun t ht9 hW => ⟨⟨(-100002), ((u2 iv 12 41 (iv 12 41)), lv, (u2 (u2 fa 12 39 (fa 12 39)) 12 40 (fa 12 40)), la), rfl, ⟨(fa 12 39), (fa 12 40), (iv 12 41), (hI.2 12 39), (hI.2 12 40), (hI.1 12 41), trivial, rfl⟩, by rw [ht9]; exact hP9, hD9⟩, hS.F ht9⟩) hS.2.2 dX12_odd_25
    · exact absurd rfl c3
/-! ===== n12 ===== -/
set_option maxRecDepth 100000 in
theorem m_68 : Cond.selects RX12 yX12_isEnough yX12_isEnough ∈ tb := tb_in 68 (by decide +kernel) rfl
theorem m_1189 : Cond.fieldLink RX12 106 "SilkHouseModel" "own" "[I" ∈ tb := mb_5_6 _ (List.mem_of_getElem? (i := 6) rfl)
theorem m_1602 : Cond.methodLink RX12 395 yX12_isEnough ∈ tb := mb_7_3 _ (List.mem_of_getElem? (i := 3) rfl)
theorem m_1604 : Cond.instanceMethod yX12_isEnough ∈ tb := mb_7_3 _ (List.mem_of_getElem? (i := 4) rfl)
theorem m_1605 : Cond.code yX12_isEnough cX12_isEnough 13 (some .boolean) ∈ tb := mb_7_3 _ (List.mem_of_getElem? (i := 5) rfl)
theorem hd_X12_isEnough_v : yX12_isEnough.cls = RX12 ∧ yX12_isEnough.cls ≠ "java/lang/invoke/MethodHandle" ∧ yX12_isEnough.cls ≠ "java/lang/invoke/VarHandle" ∧ (parseMethodDescriptor yX12_isEnough.desc).map (fun d => d.parameters.length) = some 4 := by decide +kernel
set_option maxRecDepth 100000 in
theorem dvX12_isEnough_0 : ([(0, .iconst 0, 1), (1, .istore 5, 2), (3, .iconst 0, 1), (4, .istore 6, 2), (6, .iconst 0, 1), (7, .istore 7, 2), (9, .iload 7, 2), (11, .iconst 1, 1), (12, .iload_n 1, 1), (13, .ishl, 1), (14, .if_icmp .ge 118, 3), (17, .iload 7, 2), (19, .invokestatic 392, 3), (22, .iload_n 2, 1), (23, .if_icmp .ne 103, 3), (26, .lconst 0, 1), (27, .lstore 8, 2), (29, .lconst 0, 1), (30, .lstore 10, 2), (32, .iconst 0, 1), (33, .istore 12, 2), (35, .iload 12, 2), (37, .iload_n 1, 1), (38, .if_icmp .ge 61, 3)] : List (Nat × Instr × Nat)).all (fun q => decide (decode cX12_isEnough q.1 = .ok (q.2.1, q.2.2))) = true := by decide +kernel
theorem dX12_isEnough_0 : decode cX12_isEnough 0 = .ok (.iconst 0, 1) := all_at dvX12_isEnough_0 0 rfl
theorem dX12_isEnough_1 : decode cX12_isEnough 1 = .ok (.istore 5, 2) := all_at dvX12_isEnough_0 1 rfl
theorem dX12_isEnough_3 : decode cX12_isEnough 3 = .ok (.iconst 0, 1) := all_at dvX12_isEnough_0 2 rfl
theorem dX12_isEnough_4 : decode cX12_isEnough 4 = .ok (.istore 6, 2) := all_at dvX12_isEnough_0 3 rfl
theorem dX12_isEnough_6 : decode cX12_isEnough 6 = .ok (.iconst 0, 1) := all_at dvX12_isEnough_0 4 rfl
theorem dX12_isEnough_7 : decode cX12_isEnough 7 = .ok (.istore 7, 2) := all_at dvX12_isEnough_0 5 rfl
theorem dX12_isEnough_9 : decode cX12_isEnough 9 = .ok (.iload 7, 2) := all_at dvX12_isEnough_0 6 rfl
theorem dX12_isEnough_11 : decode cX12_isEnough 11 = .ok (.iconst 1, 1) := all_at dvX12_isEnough_0 7 rfl
theorem dX12_isEnough_12 : decode cX12_isEnough 12 = .ok (.iload_n 1, 1) := all_at dvX12_isEnough_0 8 rfl
theorem dX12_isEnough_13 : decode cX12_isEnough 13 = .ok (.ishl, 1) := all_at dvX12_isEnough_0 9 rfl
theorem dX12_isEnough_14 : decode cX12_isEnough 14 = .ok (.if_icmp .ge 118, 3) := all_at dvX12_isEnough_0 10 rfl
theorem dX12_isEnough_17 : decode cX12_isEnough 17 = .ok (.iload 7, 2) := all_at dvX12_isEnough_0 11 rfl
theorem dX12_isEnough_19 : decode cX12_isEnough 19 = .ok (.invokestatic 392, 3) := all_at dvX12_isEnough_0 12 rfl
theorem dX12_isEnough_22 : decode cX12_isEnough 22 = .ok (.iload_n 2, 1) := all_at dvX12_isEnough_0 13 rfl
theorem dX12_isEnough_23 : decode cX12_isEnough 23 = .ok (.if_icmp .ne 103, 3) := all_at dvX12_isEnough_0 14 rfl
theorem dX12_isEnough_26 : decode cX12_isEnough 26 = .ok (.lconst 0, 1) := all_at dvX12_isEnough_0 15 rfl
theorem dX12_isEnough_27 : decode cX12_isEnough 27 = .ok (.lstore 8, 2) := all_at dvX12_isEnough_0 16 rfl
theorem dX12_isEnough_29 : decode cX12_isEnough 29 = .ok (.lconst 0, 1) := all_at dvX12_isEnough_0 17 rfl
theorem dX12_isEnough_30 : decode cX12_isEnough 30 = .ok (.lstore 10, 2) := all_at dvX12_isEnough_0 18 rfl
theorem dX12_isEnough_32 : decode cX12_isEnough 32 = .ok (.iconst 0, 1) := all_at dvX12_isEnough_0 19 rfl
theorem dX12_isEnough_33 : decode cX12_isEnough 33 = .ok (.istore 12, 2) := all_at dvX12_isEnough_0 20 rfl
theorem dX12_isEnough_35 : decode cX12_isEnough 35 = .ok (.iload 12, 2) := all_at dvX12_isEnough_0 21 rfl
theorem dX12_isEnough_37 : decode cX12_isEnough 37 = .ok (.iload_n 1, 1) := all_at dvX12_isEnough_0 22 rfl
theorem dX12_isEnough_38 : decode cX12_isEnough 38 = .ok (.if_icmp .ge 61, 3) := all_at dvX12_isEnough_0 23 rfl
set_option maxRecDepth 100000 in
theorem dvX12_isEnough_41 : ([(41, .lload 8, 2), (43, .iload 7, 2), (45, .iload 12, 2), (47, .ishr, 1), (48, .iconst 1, 1), (49, .iand, 1), (50, .aload_n 0, 1), (51, .getfield 25, 3), (54, .aload_n 0, 1), (55, .getfield 106, 3), (58, .iload 12, 2), (60, .iaload, 1), (61, .iaload, 1), (62, .imul, 1), (63, .i2l, 1), (64, .ladd, 1), (65, .lstore 8, 2), (67, .lload 10, 2), (69, .iload 7, 2), (71, .iload 12, 2), (73, .ishr, 1), (74, .iconst 1, 1), (75, .iand, 1), (76, .aload_n 0, 1)] : List (Nat × Instr × Nat)).all (fun q => decide (decode cX12_isEnough q.1 = .ok (q.2.1, q.2.2))) = true := by decide +kernel
theorem dX12_isEnough_41 : decode cX12_isEnough 41 = .ok (.lload 8, 2) := all_at dvX12_isEnough_41 0 rfl
theorem dX12_isEnough_43 : decode cX12_isEnough 43 = .ok (.iload 7, 2) := all_at dvX12_isEnough_41 1 rfl
theorem dX12_isEnough_45 : decode cX12_isEnough 45 = .ok (.iload 12, 2) := all_at dvX12_isEnough_41 2 rfl
theorem dX12_isEnough_47 : decode cX12_isEnough 47 = .ok (.ishr, 1) := all_at dvX12_isEnough_41 3 rfl
theorem dX12_isEnough_48 : decode cX12_isEnough 48 = .ok (.iconst 1, 1) := all_at dvX12_isEnough_41 4 rfl
theorem dX12_isEnough_49 : decode cX12_isEnough 49 = .ok (.iand, 1) := all_at dvX12_isEnough_41 5 rfl
theorem dX12_isEnough_50 : decode cX12_isEnough 50 = .ok (.aload_n 0, 1) := all_at dvX12_isEnough_41 6 rfl
theorem dX12_isEnough_51 : decode cX12_isEnough 51 = .ok (.getfield 25, 3) := all_at dvX12_isEnough_41 7 rfl
theorem dX12_isEnough_54 : decode cX12_isEnough 54 = .ok (.aload_n 0, 1) := all_at dvX12_isEnough_41 8 rfl
theorem dX12_isEnough_55 : decode cX12_isEnough 55 = .ok (.getfield 106, 3) := all_at dvX12_isEnough_41 9 rfl
theorem dX12_isEnough_58 : decode cX12_isEnough 58 = .ok (.iload 12, 2) := all_at dvX12_isEnough_41 10 rfl
theorem dX12_isEnough_60 : decode cX12_isEnough 60 = .ok (.iaload, 1) := all_at dvX12_isEnough_41 11 rfl
theorem dX12_isEnough_61 : decode cX12_isEnough 61 = .ok (.iaload, 1) := all_at dvX12_isEnough_41 12 rfl
theorem dX12_isEnough_62 : decode cX12_isEnough 62 = .ok (.imul, 1) := all_at dvX12_isEnough_41 13 rfl
theorem dX12_isEnough_63 : decode cX12_isEnough 63 = .ok (.i2l, 1) := all_at dvX12_isEnough_41 14 rfl
theorem dX12_isEnough_64 : decode cX12_isEnough 64 = .ok (.ladd, 1) := all_at dvX12_isEnough_41 15 rfl
theorem dX12_isEnough_65 : decode cX12_isEnough 65 = .ok (.lstore 8, 2) := all_at dvX12_isEnough_41 16 rfl
theorem dX12_isEnough_67 : decode cX12_isEnough 67 = .ok (.lload 10, 2) := all_at dvX12_isEnough_41 17 rfl
theorem dX12_isEnough_69 : decode cX12_isEnough 69 = .ok (.iload 7, 2) := all_at dvX12_isEnough_41 18 rfl
theorem dX12_isEnough_71 : decode cX12_isEnough 71 = .ok (.iload 12, 2) := all_at dvX12_isEnough_41 19 rfl
theorem dX12_isEnough_73 : decode cX12_isEnough 73 = .ok (.ishr, 1) := all_at dvX12_isEnough_41 20 rfl
theorem dX12_isEnough_74 : decode cX12_isEnough 74 = .ok (.iconst 1, 1) := all_at dvX12_isEnough_41 21 rfl
theorem dX12_isEnough_75 : decode cX12_isEnough 75 = .ok (.iand, 1) := all_at dvX12_isEnough_41 22 rfl
theorem dX12_isEnough_76 : decode cX12_isEnough 76 = .ok (.aload_n 0, 1) := all_at dvX12_isEnough_41 23 rfl
set_option maxRecDepth 100000 in
theorem dvX12_isEnough_77 : ([(77, .getfield 22, 3), (80, .aload_n 0, 1), (81, .getfield 106, 3), (84, .iload 12, 2), (86, .iaload, 1), (87, .iaload, 1), (88, .imul, 1), (89, .i2l, 1), (90, .ladd, 1), (91, .lstore 10, 2), (93, .iinc 12 1, 3), (96, .goto (-61), 3), (99, .iinc 5 1, 3), (102, .iload 6, 2), (104, .lload 8, 2), (106, .lload 10, 2), (108, .aload_n 0, 1), (109, .getfield 223, 3), (112, .aload_n 0, 1), (113, .getfield 227, 3), (116, .iload_n 3, 1), (117, .invokestatic 340, 3), (120, .invokestatic 203, 3), (123, .iadd, 1)] : List (Nat × Instr × Nat)).all (fun q => decide (decode cX12_isEnough q.1 = .ok (q.2.1, q.2.2))) = true := by decide +kernel
theorem dX12_isEnough_77 : decode cX12_isEnough 77 = .ok (.getfield 22, 3) := all_at dvX12_isEnough_77 0 rfl
theorem dX12_isEnough_80 : decode cX12_isEnough 80 = .ok (.aload_n 0, 1) := all_at dvX12_isEnough_77 1 rfl
theorem dX12_isEnough_81 : decode cX12_isEnough 81 = .ok (.getfield 106, 3) := all_at dvX12_isEnough_77 2 rfl
theorem dX12_isEnough_84 : decode cX12_isEnough 84 = .ok (.iload 12, 2) := all_at dvX12_isEnough_77 3 rfl
theorem dX12_isEnough_86 : decode cX12_isEnough 86 = .ok (.iaload, 1) := all_at dvX12_isEnough_77 4 rfl
theorem dX12_isEnough_87 : decode cX12_isEnough 87 = .ok (.iaload, 1) := all_at dvX12_isEnough_77 5 rfl
theorem dX12_isEnough_88 : decode cX12_isEnough 88 = .ok (.imul, 1) := all_at dvX12_isEnough_77 6 rfl
theorem dX12_isEnough_89 : decode cX12_isEnough 89 = .ok (.i2l, 1) := all_at dvX12_isEnough_77 7 rfl
theorem dX12_isEnough_90 : decode cX12_isEnough 90 = .ok (.ladd, 1) := all_at dvX12_isEnough_77 8 rfl
theorem dX12_isEnough_91 : decode cX12_isEnough 91 = .ok (.lstore 10, 2) := all_at dvX12_isEnough_77 9 rfl
theorem dX12_isEnough_93 : decode cX12_isEnough 93 = .ok (.iinc 12 1, 3) := all_at dvX12_isEnough_77 10 rfl
theorem dX12_isEnough_96 : decode cX12_isEnough 96 = .ok (.goto (-61), 3) := all_at dvX12_isEnough_77 11 rfl
theorem dX12_isEnough_99 : decode cX12_isEnough 99 = .ok (.iinc 5 1, 3) := all_at dvX12_isEnough_77 12 rfl
theorem dX12_isEnough_102 : decode cX12_isEnough 102 = .ok (.iload 6, 2) := all_at dvX12_isEnough_77 13 rfl
theorem dX12_isEnough_104 : decode cX12_isEnough 104 = .ok (.lload 8, 2) := all_at dvX12_isEnough_77 14 rfl
theorem dX12_isEnough_106 : decode cX12_isEnough 106 = .ok (.lload 10, 2) := all_at dvX12_isEnough_77 15 rfl
theorem dX12_isEnough_108 : decode cX12_isEnough 108 = .ok (.aload_n 0, 1) := all_at dvX12_isEnough_77 16 rfl
theorem dX12_isEnough_109 : decode cX12_isEnough 109 = .ok (.getfield 223, 3) := all_at dvX12_isEnough_77 17 rfl
theorem dX12_isEnough_112 : decode cX12_isEnough 112 = .ok (.aload_n 0, 1) := all_at dvX12_isEnough_77 18 rfl
theorem dX12_isEnough_113 : decode cX12_isEnough 113 = .ok (.getfield 227, 3) := all_at dvX12_isEnough_77 19 rfl
theorem dX12_isEnough_116 : decode cX12_isEnough 116 = .ok (.iload_n 3, 1) := all_at dvX12_isEnough_77 20 rfl
theorem dX12_isEnough_117 : decode cX12_isEnough 117 = .ok (.invokestatic 340, 3) := all_at dvX12_isEnough_77 21 rfl
theorem dX12_isEnough_120 : decode cX12_isEnough 120 = .ok (.invokestatic 203, 3) := all_at dvX12_isEnough_77 22 rfl
theorem dX12_isEnough_123 : decode cX12_isEnough 123 = .ok (.iadd, 1) := all_at dvX12_isEnough_77 23 rfl
set_option maxRecDepth 100000 in
theorem dvX12_isEnough_124 : ([(124, .istore 6, 2), (126, .iinc 7 1, 3), (129, .goto (-120), 3), (132, .bipush 100, 2), (134, .iload 6, 2), (136, .imul, 1), (137, .iload 4, 2), (139, .iload 5, 2), (141, .imul, 1), (142, .if_icmp .gt 7, 3), (145, .iconst 1, 1), (146, .goto 4, 3), (149, .iconst 0, 1), (150, .ireturn, 1)] : List (Nat × Instr × Nat)).all (fun q => decide (decode cX12_isEnough q.1 = .ok (q.2.1, q.2.2))) = true := by decide +kernel
theorem dX12_isEnough_124 : decode cX12_isEnough 124 = .ok (.istore 6, 2) := all_at dvX12_isEnough_124 0 rfl
theorem dX12_isEnough_126 : decode cX12_isEnough 126 = .ok (.iinc 7 1, 3) := all_at dvX12_isEnough_124 1 rfl
theorem dX12_isEnough_129 : decode cX12_isEnough 129 = .ok (.goto (-120), 3) := all_at dvX12_isEnough_124 2 rfl
theorem dX12_isEnough_132 : decode cX12_isEnough 132 = .ok (.bipush 100, 2) := all_at dvX12_isEnough_124 3 rfl
theorem dX12_isEnough_134 : decode cX12_isEnough 134 = .ok (.iload 6, 2) := all_at dvX12_isEnough_124 4 rfl
theorem dX12_isEnough_136 : decode cX12_isEnough 136 = .ok (.imul, 1) := all_at dvX12_isEnough_124 5 rfl
theorem dX12_isEnough_137 : decode cX12_isEnough 137 = .ok (.iload 4, 2) := all_at dvX12_isEnough_124 6 rfl
theorem dX12_isEnough_139 : decode cX12_isEnough 139 = .ok (.iload 5, 2) := all_at dvX12_isEnough_124 7 rfl
theorem dX12_isEnough_141 : decode cX12_isEnough 141 = .ok (.imul, 1) := all_at dvX12_isEnough_124 8 rfl
theorem dX12_isEnough_142 : decode cX12_isEnough 142 = .ok (.if_icmp .gt 7, 3) := all_at dvX12_isEnough_124 9 rfl
theorem dX12_isEnough_145 : decode cX12_isEnough 145 = .ok (.iconst 1, 1) := all_at dvX12_isEnough_124 10 rfl
theorem dX12_isEnough_146 : decode cX12_isEnough 146 = .ok (.goto 4, 3) := all_at dvX12_isEnough_124 11 rfl
theorem dX12_isEnough_149 : decode cX12_isEnough 149 = .ok (.iconst 0, 1) := all_at dvX12_isEnough_124 12 rfl
theorem dX12_isEnough_150 : decode cX12_isEnough 150 = .ok (.ireturn, 1) := all_at dvX12_isEnough_124 13 rfl
set_option maxRecDepth 100000 in
theorem dvX12_needed_0 : ([(0, .aload_n 0, 1), (1, .iload_n 1, 1), (2, .invokevirtual 183, 3), (5, .ifCond .eq 6, 3), (8, .ldc 187, 2), (10, .ireturn, 1), (11, .iload_n 2, 1), (12, .i2l, 1), (13, .lconst 1, 1), (14, .ldc2_w 192, 3), (17, .invokestatic 167, 3), (20, .ifCond .ne 6, 3), (23, .ldc 178, 2), (25, .ireturn, 1), (26, .aload_n 0, 1), (27, .iconst 2, 1), (28, .aload_n 0, 1), (29, .getfield 171, 3), (32, .invokevirtual 325, 3), (35, .istore_n 3, 1), (36, .iconst 0, 1), (37, .istore 4, 2), (39, .iconst 0, 1), (40, .istore 5, 2)] : List (Nat × Instr × Nat)).all (fun q => decide (decode cX12_needed q.1 = .ok (q.2.1, q.2.2))) = true := by decide +kernel
theorem dX12_needed_0 : decode cX12_needed 0 = .ok (.aload_n 0, 1) := all_at dvX12_needed_0 0 rfl
theorem dX12_needed_1 : decode cX12_needed 1 = .ok (.iload_n 1, 1) := all_at dvX12_needed_0 1 rfl
theorem dX12_needed_2 : decode cX12_needed 2 = .ok (.invokevirtual 183, 3) := all_at dvX12_needed_0 2 rfl
theorem dX12_needed_5 : decode cX12_needed 5 = .ok (.ifCond .eq 6, 3) := all_at dvX12_needed_0 3 rfl
theorem dX12_needed_8 : decode cX12_needed 8 = .ok (.ldc 187, 2) := all_at dvX12_needed_0 4 rfl
theorem dX12_needed_10 : decode cX12_needed 10 = .ok (.ireturn, 1) := all_at dvX12_needed_0 5 rfl
theorem dX12_needed_11 : decode cX12_needed 11 = .ok (.iload_n 2, 1) := all_at dvX12_needed_0 6 rfl
theorem dX12_needed_12 : decode cX12_needed 12 = .ok (.i2l, 1) := all_at dvX12_needed_0 7 rfl
theorem dX12_needed_13 : decode cX12_needed 13 = .ok (.lconst 1, 1) := all_at dvX12_needed_0 8 rfl
theorem dX12_needed_14 : decode cX12_needed 14 = .ok (.ldc2_w 192, 3) := all_at dvX12_needed_0 9 rfl
theorem dX12_needed_17 : decode cX12_needed 17 = .ok (.invokestatic 167, 3) := all_at dvX12_needed_0 10 rfl
theorem dX12_needed_20 : decode cX12_needed 20 = .ok (.ifCond .ne 6, 3) := all_at dvX12_needed_0 11 rfl
theorem dX12_needed_23 : decode cX12_needed 23 = .ok (.ldc 178, 2) := all_at dvX12_needed_0 12 rfl
theorem dX12_needed_25 : decode cX12_needed 25 = .ok (.ireturn, 1) := all_at dvX12_needed_0 13 rfl
theorem dX12_needed_26 : decode cX12_needed 26 = .ok (.aload_n 0, 1) := all_at dvX12_needed_0 14 rfl
theorem dX12_needed_27 : decode cX12_needed 27 = .ok (.iconst 2, 1) := all_at dvX12_needed_0 15 rfl
theorem dX12_needed_28 : decode cX12_needed 28 = .ok (.aload_n 0, 1) := all_at dvX12_needed_0 16 rfl
theorem dX12_needed_29 : decode cX12_needed 29 = .ok (.getfield 171, 3) := all_at dvX12_needed_0 17 rfl
theorem dX12_needed_32 : decode cX12_needed 32 = .ok (.invokevirtual 325, 3) := all_at dvX12_needed_0 18 rfl
theorem dX12_needed_35 : decode cX12_needed 35 = .ok (.istore_n 3, 1) := all_at dvX12_needed_0 19 rfl
theorem dX12_needed_36 : decode cX12_needed 36 = .ok (.iconst 0, 1) := all_at dvX12_needed_0 20 rfl
theorem dX12_needed_37 : decode cX12_needed 37 = .ok (.istore 4, 2) := all_at dvX12_needed_0 21 rfl
theorem dX12_needed_39 : decode cX12_needed 39 = .ok (.iconst 0, 1) := all_at dvX12_needed_0 22 rfl
theorem dX12_needed_40 : decode cX12_needed 40 = .ok (.istore 5, 2) := all_at dvX12_needed_0 23 rfl
set_option maxRecDepth 100000 in
theorem dvX12_needed_42 : ([(42, .iload 5, 2), (44, .aload_n 0, 1), (45, .getfield 200, 3), (48, .if_icmp .ge 55, 3), (51, .aload_n 0, 1), (52, .getfield 13, 3), (55, .iload 5, 2), (57, .iaload, 1), (58, .iload_n 1, 1), (59, .if_icmp .ne 38, 3), (62, .aload_n 0, 1), (63, .getfield 16, 3), (66, .iload 5, 2), (68, .iaload, 1), (69, .ifCond .ne 28, 3), (72, .aload_n 0, 1), (73, .iload 5, 2), (75, .aload_n 0, 1), (76, .getfield 171, 3), (79, .invokevirtual 233, 3), (82, .ifCond .eq 15, 3), (85, .aload_n 0, 1), (86, .getfield 106, 3), (89, .iload 4, 2)] : List (Nat × Instr × Nat)).all (fun q => decide (decode cX12_needed q.1 = .ok (q.2.1, q.2.2))) = true := by decide +kernel
theorem dX12_needed_42 : decode cX12_needed 42 = .ok (.iload 5, 2) := all_at dvX12_needed_42 0 rfl
theorem dX12_needed_44 : decode cX12_needed 44 = .ok (.aload_n 0, 1) := all_at dvX12_needed_42 1 rfl
theorem dX12_needed_45 : decode cX12_needed 45 = .ok (.getfield 200, 3) := all_at dvX12_needed_42 2 rfl
theorem dX12_needed_48 : decode cX12_needed 48 = .ok (.if_icmp .ge 55, 3) := all_at dvX12_needed_42 3 rfl
theorem dX12_needed_51 : decode cX12_needed 51 = .ok (.aload_n 0, 1) := all_at dvX12_needed_42 4 rfl
theorem dX12_needed_52 : decode cX12_needed 52 = .ok (.getfield 13, 3) := all_at dvX12_needed_42 5 rfl
theorem dX12_needed_55 : decode cX12_needed 55 = .ok (.iload 5, 2) := all_at dvX12_needed_42 6 rfl
theorem dX12_needed_57 : decode cX12_needed 57 = .ok (.iaload, 1) := all_at dvX12_needed_42 7 rfl
theorem dX12_needed_58 : decode cX12_needed 58 = .ok (.iload_n 1, 1) := all_at dvX12_needed_42 8 rfl
theorem dX12_needed_59 : decode cX12_needed 59 = .ok (.if_icmp .ne 38, 3) := all_at dvX12_needed_42 9 rfl
theorem dX12_needed_62 : decode cX12_needed 62 = .ok (.aload_n 0, 1) := all_at dvX12_needed_42 10 rfl
theorem dX12_needed_63 : decode cX12_needed 63 = .ok (.getfield 16, 3) := all_at dvX12_needed_42 11 rfl
theorem dX12_needed_66 : decode cX12_needed 66 = .ok (.iload 5, 2) := all_at dvX12_needed_42 12 rfl
theorem dX12_needed_68 : decode cX12_needed 68 = .ok (.iaload, 1) := all_at dvX12_needed_42 13 rfl
theorem dX12_needed_69 : decode cX12_needed 69 = .ok (.ifCond .ne 28, 3) := all_at dvX12_needed_42 14 rfl
theorem dX12_needed_72 : decode cX12_needed 72 = .ok (.aload_n 0, 1) := all_at dvX12_needed_42 15 rfl
theorem dX12_needed_73 : decode cX12_needed 73 = .ok (.iload 5, 2) := all_at dvX12_needed_42 16 rfl
theorem dX12_needed_75 : decode cX12_needed 75 = .ok (.aload_n 0, 1) := all_at dvX12_needed_42 17 rfl
theorem dX12_needed_76 : decode cX12_needed 76 = .ok (.getfield 171, 3) := all_at dvX12_needed_42 18 rfl
theorem dX12_needed_79 : decode cX12_needed 79 = .ok (.invokevirtual 233, 3) := all_at dvX12_needed_42 19 rfl
theorem dX12_needed_82 : decode cX12_needed 82 = .ok (.ifCond .eq 15, 3) := all_at dvX12_needed_42 20 rfl
theorem dX12_needed_85 : decode cX12_needed 85 = .ok (.aload_n 0, 1) := all_at dvX12_needed_42 21 rfl
theorem dX12_needed_86 : decode cX12_needed 86 = .ok (.getfield 106, 3) := all_at dvX12_needed_42 22 rfl
theorem dX12_needed_89 : decode cX12_needed 89 = .ok (.iload 4, 2) := all_at dvX12_needed_42 23 rfl
set_option maxRecDepth 100000 in
theorem dvX12_needed_91 : ([(91, .iload 5, 2), (93, .iastore, 1), (94, .iinc 4 1, 3), (97, .iinc 5 1, 3), (100, .goto (-58), 3), (103, .aload_n 0, 1), (104, .iload_n 1, 1), (105, .iconst 0, 1), (106, .aload_n 0, 1), (107, .getfield 171, 3), (110, .invokevirtual 237, 3), (113, .istore 5, 2), (115, .iconst 2, 1), (116, .istore 6, 2), (118, .iload 6, 2), (120, .iload 4, 2), (122, .if_icmp .gt 25, 3), (125, .aload_n 0, 1), (126, .iload 4, 2), (128, .iload 6, 2), (130, .iload_n 3, 1), (131, .iload_n 2, 1), (132, .invokevirtual 395, 3), (135, .ifCond .eq 6, 3)] : List (Nat × Instr × Nat)).all (fun q => decide (decode cX12_needed q.1 = .ok (q.2.1, q.2.2))) = true := by decide +kernel
theorem dX12_needed_91 : decode cX12_needed 91 = .ok (.iload 5, 2) := all_at dvX12_needed_91 0 rfl
theorem dX12_needed_93 : decode cX12_needed 93 = .ok (.iastore, 1) := all_at dvX12_needed_91 1 rfl
theorem dX12_needed_94 : decode cX12_needed 94 = .ok (.iinc 4 1, 3) := all_at dvX12_needed_91 2 rfl
theorem dX12_needed_97 : decode cX12_needed 97 = .ok (.iinc 5 1, 3) := all_at dvX12_needed_91 3 rfl
theorem dX12_needed_100 : decode cX12_needed 100 = .ok (.goto (-58), 3) := all_at dvX12_needed_91 4 rfl
theorem dX12_needed_103 : decode cX12_needed 103 = .ok (.aload_n 0, 1) := all_at dvX12_needed_91 5 rfl
theorem dX12_needed_104 : decode cX12_needed 104 = .ok (.iload_n 1, 1) := all_at dvX12_needed_91 6 rfl
theorem dX12_needed_105 : decode cX12_needed 105 = .ok (.iconst 0, 1) := all_at dvX12_needed_91 7 rfl
theorem dX12_needed_106 : decode cX12_needed 106 = .ok (.aload_n 0, 1) := all_at dvX12_needed_91 8 rfl
theorem dX12_needed_107 : decode cX12_needed 107 = .ok (.getfield 171, 3) := all_at dvX12_needed_91 9 rfl
theorem dX12_needed_110 : decode cX12_needed 110 = .ok (.invokevirtual 237, 3) := all_at dvX12_needed_91 10 rfl
theorem dX12_needed_113 : decode cX12_needed 113 = .ok (.istore 5, 2) := all_at dvX12_needed_91 11 rfl
theorem dX12_needed_115 : decode cX12_needed 115 = .ok (.iconst 2, 1) := all_at dvX12_needed_91 12 rfl
theorem dX12_needed_116 : decode cX12_needed 116 = .ok (.istore 6, 2) := all_at dvX12_needed_91 13 rfl
theorem dX12_needed_118 : decode cX12_needed 118 = .ok (.iload 6, 2) := all_at dvX12_needed_91 14 rfl
theorem dX12_needed_120 : decode cX12_needed 120 = .ok (.iload 4, 2) := all_at dvX12_needed_91 15 rfl
theorem dX12_needed_122 : decode cX12_needed 122 = .ok (.if_icmp .gt 25, 3) := all_at dvX12_needed_91 16 rfl
theorem dX12_needed_125 : decode cX12_needed 125 = .ok (.aload_n 0, 1) := all_at dvX12_needed_91 17 rfl
theorem dX12_needed_126 : decode cX12_needed 126 = .ok (.iload 4, 2) := all_at dvX12_needed_91 18 rfl
theorem dX12_needed_128 : decode cX12_needed 128 = .ok (.iload 6, 2) := all_at dvX12_needed_91 19 rfl
theorem dX12_needed_130 : decode cX12_needed 130 = .ok (.iload_n 3, 1) := all_at dvX12_needed_91 20 rfl
theorem dX12_needed_131 : decode cX12_needed 131 = .ok (.iload_n 2, 1) := all_at dvX12_needed_91 21 rfl
theorem dX12_needed_132 : decode cX12_needed 132 = .ok (.invokevirtual 395, 3) := all_at dvX12_needed_91 22 rfl
theorem dX12_needed_135 : decode cX12_needed 135 = .ok (.ifCond .eq 6, 3) := all_at dvX12_needed_91 23 rfl
set_option maxRecDepth 100000 in
theorem dvX12_needed_138 : ([(138, .iload 6, 2), (140, .ireturn, 1), (141, .iinc 6 1, 3), (144, .goto (-26), 3), (147, .iconst (-1), 1), (148, .ireturn, 1)] : List (Nat × Instr × Nat)).all (fun q => decide (decode cX12_needed q.1 = .ok (q.2.1, q.2.2))) = true := by decide +kernel
theorem dX12_needed_138 : decode cX12_needed 138 = .ok (.iload 6, 2) := all_at dvX12_needed_138 0 rfl
theorem dX12_needed_140 : decode cX12_needed 140 = .ok (.ireturn, 1) := all_at dvX12_needed_138 1 rfl
theorem dX12_needed_141 : decode cX12_needed 141 = .ok (.iinc 6 1, 3) := all_at dvX12_needed_138 2 rfl
theorem dX12_needed_144 : decode cX12_needed 144 = .ok (.goto (-26), 3) := all_at dvX12_needed_138 3 rfl
theorem dX12_needed_147 : decode cX12_needed 147 = .ok (.iconst (-1), 1) := all_at dvX12_needed_138 4 rfl
theorem dX12_needed_148 : decode cX12_needed 148 = .ok (.ireturn, 1) := all_at dvX12_needed_138 5 rfl
set_option maxHeartbeats 4000000 in
set_option maxRecDepth 100000 in
/-- X12_isEnough -/
theorem c_X12_isEnough (l : Launch) (dC : Nat → ClassId) (dI : Nat → Nat → Nat) (h : Nat) (g : Nat → Nat → Nat) (ca : Nat → Nat → ClassId) (iv : Nat → Nat → Int32) (lv : Nat → Nat → Int64) (fa : Nat → Nat → Nat → Int32) (la : Nat → Nat → Nat → Int64) (hI : IX iv fa) (mm : Int32) (n : Int32) (a : Int32) (b : Int32) (h_mm : 0 ≤ mm.toInt ∧ mm.toInt ≤ 12) : Met l yX12_isEnough (wc yX12_isEnough cX12_isEnough 13 (some .boolean)) ({ frames := 2, cells := 0, slots := 0, locals := 49 } : Room) (pR (dC, dI) classes (WM h g ca iv lv fa la) (TM ca) [.ref h, .int mm, .int n, .int a, .int b]) (vp_Si (fun r => 0 ≤ r.toInt ∧ r.toInt ≤ 1)) 0 0 (fun _ => False) := by
  refine Met.ofW (cc := cX12_isEnough) (maxL := 13) (ret := (some .boolean)) (by decide) rfl ?_
  intro p e s m args below meth c s₁ B hml hv
  obtain ⟨rfl, hP, hK⟩ := hv
  have hx := B.exec
  have hb := B.bytes
  have hr := B.returns
  have ht := tb_tl (atoms_spec (ws := wc yX12_isEnough cX12_isEnough 13 (some .boolean)) B.pre)
  have hown : s.vm.findClass RX12 = some m.cls := findClass_of_methodNamed B.named
  have hlocks := B.notSynchronized
  have hl := lv_entry [.ref h, .int mm, .int n, .int a, .int b] (n := 13) (Nat.le_of_ble_eq_true rfl)
  rw [lg_entry_eq]
  generalize (lg_sl [.ref h, .int mm, .int n, .int a, .int b] ++ List.replicate (13 - (lg_sl [.ref h, .int mm, .int n, .int a, .int b]).length) Slot.unset).toArray = ls at hl ⊢
  have hl : lv_has ls 13 [(0, .ref h), (1, .int mm), (2, .int n), (3, .int a), (4, .int b)] := hl
  refine lv_iconst (v := 0) hx hb dX12_isEnough_0 (by decide) ?_
  refine lv_istore (lv' := [(5, .int 0), (0, .ref h), (1, .int mm), (2, .int n), (3, .int a), (4, .int b)]) hx hb dX12_isEnough_1 hl (by decide) rfl (fun ls hl => ?_)
  refine lv_iconst (v := 0) hx hb dX12_isEnough_3 (by decide) ?_
  refine lv_istore (lv' := [(6, .int 0), (5, .int 0), (0, .ref h), (1, .int mm), (2, .int n), (3, .int a), (4, .int b)]) hx hb dX12_isEnough_4 hl (by decide) rfl (fun ls hl => ?_)
  refine lv_iconst (v := 0) hx hb dX12_isEnough_6 (by decide) ?_
  refine lv_istore (lv' := [(7, .int 0), (6, .int 0), (5, .int 0), (0, .ref h), (1, .int mm), (2, .int n), (3, .int a), (4, .int b)]) hx hb dX12_isEnough_7 hl (by decide) rfl (fun ls hl => ?_)
  have lp15079 : ∀ (nn15079 : Nat) (x15078_7 : Int32) (x15078_6 : Int32) (x15078_5 : Int32), 0 ≤ x15078_7.toInt ∧ x15078_7.toInt ≤ 9999 → (x15078_7 : Int32).toInt ≤ 4096 → 0 ≤ (x15078_7 : Int32).toInt → 4096 - (x15078_7 : Int32).toInt < (nn15079 : Int) → ∀ (ls : Array Slot), lv_has ls 13 [(7, .int x15078_7), (6, .int x15078_6), (5, .int x15078_5), (0, .ref h), (1, .int mm), (2, .int n), (3, .int a), (4, .int b)] → W p l e ({ frames := 2, cells := 0, slots := 0, locals := 49 } : Room) s m ([.ref h, .int mm, .int n, .int a, .int b] : List Value).toArray below meth c s.heap [] 0 0 (MQ below (vp_Si (fun r => 0 ≤ r.toInt ∧ r.toInt ≤ 1)) ([.ref h, .int mm, .int n, .int a, .int b] : List Value).toArray s 0 0 (fun _ => False)) (F0 m 9 ls []) := by
    intro nn15079
    induction nn15079 with
    | zero => intro x15078_7 x15078_6 x15078_5 hx15078_7 hq15079_0 hq15079_1 hm15079; exfalso; omega
    | succ nn15079 ih15079 =>
      intro x15078_7 x15078_6 x15078_5 hx15078_7 hq15079_0 hq15079_1 hm15079 ls hl
      refine lv_iload hx hb dX12_isEnough_9 (lv_at hl 0 rfl) ?_
      refine lv_iconst (v := 1) hx hb dX12_isEnough_11 (by decide) ?_
      refine lv_iload_n hx hb dX12_isEnough_12 rfl (lv_at hl 4 rfl) ?_
      refine lv_ishl hx hb dX12_isEnough_13 ?_
      refine lv_topi (fun v15080 ev15080 => ?_)
      have tv15080 := shl1c ev15080 ⟨by omega, by omega⟩
      refine lv_icmp_ge (tgt := 132) hx hb dX12_isEnough_14 (by decide) (fun c15081 => ?_) (fun c15081 => ?_)
      · have fc15081 := z_le (rfl : (v15080).toInt = _) (rfl : (x15078_7).toInt = _) c15081
        refine lv_bipush (v := 100) hx hb dX12_isEnough_132 (by decide) ?_
        refine lv_iload hx hb dX12_isEnough_134 (lv_at hl 1 rfl) ?_
        refine lv_imul hx hb dX12_isEnough_136 ?_
        refine lv_topi (fun v15082 ev15082 => ?_)
        refine lv_iload hx hb dX12_isEnough_137 (lv_at hl 7 rfl) ?_
        refine lv_iload hx hb dX12_isEnough_139 (lv_at hl 2 rfl) ?_
        refine lv_imul hx hb dX12_isEnough_141 ?_
        refine lv_topi (fun v15083 ev15083 => ?_)
        refine lv_icmp_gt (tgt := 149) hx hb dX12_isEnough_142 (by decide) (fun c15084 => ?_) (fun c15084 => ?_)
        · have fc15084 := z_lt (rfl : (v15083).toInt = _) (rfl : (v15082).toInt = _) c15084
          refine lv_iconst (v := 0) hx hb dX12_isEnough_149 (by decide) ?_
          exact W.zret (v := 0) hx hb hr rfl (fun t ht9 hW => ⟨0, rfl, ⟨by decide, by decide⟩, ht9⟩) (fun q hq => by cases hq) dX12_isEnough_150
        · have fc15084 := z_nlt (rfl : (v15083).toInt = _) (rfl : (v15082).toInt = _) c15084
          refine lv_iconst (v := 1) hx hb dX12_isEnough_145 (by decide) ?_
          refine lv_goto (tgt := 150) hx hb dX12_isEnough_146 (by decide) ?_
          exact W.zret (v := 1) hx hb hr rfl (fun t ht9 hW => ⟨1, rfl, ⟨by decide, by decide⟩, ht9⟩) (fun q hq => by cases hq) dX12_isEnough_150
      · have fc15081 := z_nle (rfl : (v15080).toInt = _) (rfl : (x15078_7).toInt = _) c15081
        refine lv_iload hx hb dX12_isEnough_17 (lv_at hl 0 rfl) ?_
        refine vp_callSi (W.runS (As := [.int x15078_7]) (rest := []) ⟨hx, hb, hml, hown, ht⟩ (c_X12_ones l dC dI x15078_7) (kS 1 ht m_1606 m_1607 m_89 m_1608 rfl rfl hd_X12_ones_v ⟨Nat.le_of_ble_eq_true rfl, Nat.le_of_ble_eq_true rfl⟩) (sR noP (hK.sub (tys' := []) [] rfl)) rfl rfl hl.1 rfl (lv_room (Nat.le_of_ble_eq_true rfl)) dX12_isEnough_19 ⟨Nat.le_of_ble_eq_true rfl, Nat.le_of_ble_eq_true rfl⟩) (fun r15085 hr15085 => ?_)
        refine lv_iload_n hx hb dX12_isEnough_22 rfl (lv_at hl 5 rfl) ?_
        refine lv_icmp_ne (tgt := 126) hx hb dX12_isEnough_23 (by decide) (fun c15086 => ?_) (fun c15086 => ?_)
        · have fc15086 := z_ne (rfl : (r15085).toInt = _) (rfl : (n).toInt = _) c15086
          obtain ⟨v15087, ev15087⟩ : ∃ y : Int32, y = x15078_7 + 1 := ⟨_, rfl⟩
          have tv15087 := z_add ev15087 rfl (by decide : (1 : Int32).toInt = 1) (by omega) (by omega)
          refine lv_iinc (v := v15087) (lv' := [(7, .int v15087), (6, .int x15078_6), (5, .int x15078_5), (0, .ref h), (1, .int mm), (2, .int n), (3, .int a), (4, .int b)]) hx hb dX12_isEnough_126 hl (k := 0) rfl (by rw [ev15087]; rfl) (by decide) rfl (fun ls hl => ?_)
          refine lv_goto (tgt := 9) hx hb dX12_isEnough_129 (by decide) ?_
          exact ih15079 v15087 x15078_6 x15078_5 ⟨by omega, by omega⟩ (show (v15087 : Int32).toInt ≤ 4096 from by omega) (show 0 ≤ (v15087 : Int32).toInt from by omega) (by omega) ls (lv_sub hl [0, 1, 2, 3, 4, 5, 6, 7] rfl)
        · have fc15086 := z_eq (rfl : (r15085).toInt = _) (rfl : (n).toInt = _) c15086
          refine lv_lconst (v := 0) hx hb dX12_isEnough_26 (by decide) ?_
          refine lv_lstore (lv' := [(8, .long 0), (7, .int x15078_7), (6, .int x15078_6), (5, .int x15078_5), (0, .ref h), (1, .int mm), (2, .int n), (3, .int a), (4, .int b)]) hx hb dX12_isEnough_27 hl (by decide) rfl (fun ls hl => ?_)
          refine lv_lconst (v := 0) hx hb dX12_isEnough_29 (by decide) ?_
          refine lv_lstore (lv' := [(10, .long 0), (8, .long 0), (7, .int x15078_7), (6, .int x15078_6), (5, .int x15078_5), (0, .ref h), (1, .int mm), (2, .int n), (3, .int a), (4, .int b)]) hx hb dX12_isEnough_30 hl (by decide) rfl (fun ls hl => ?_)
          refine lv_iconst (v := 0) hx hb dX12_isEnough_32 (by decide) ?_
          refine lv_istore (lv' := [(12, .int 0), (10, .long 0), (8, .long 0), (7, .int x15078_7), (6, .int x15078_6), (5, .int x15078_5), (0, .ref h), (1, .int mm), (2, .int n), (3, .int a), (4, .int b)]) hx hb dX12_isEnough_33 hl (by decide) rfl (fun ls hl => ?_)
          have lp15349 : ∀ (nn15349 : Nat) (x15348_12 : Int32) (x15348_10 : Int64) (x15348_8 : Int64), 0 ≤ x15348_12.toInt ∧ x15348_12.toInt ≤ 12 → 12 - x15348_12.toInt < (nn15349 : Int) → ∀ (ls : Array Slot), lv_has ls 13 [(12, .int x15348_12), (10, .long x15348_10), (8, .long x15348_8), (7, .int x15078_7), (6, .int x15078_6), (5, .int x15078_5), (0, .ref h), (1, .int mm), (2, .int n), (3, .int a), (4, .int b)] → W p l e ({ frames := 2, cells := 0, slots := 0, locals := 49 } : Room) s m ([.ref h, .int mm, .int n, .int a, .int b] : List Value).toArray below meth c s.heap [] 0 0 (MQ below (vp_Si (fun r => 0 ≤ r.toInt ∧ r.toInt ≤ 1)) ([.ref h, .int mm, .int n, .int a, .int b] : List Value).toArray s 0 0 (fun _ => False)) (F0 m 35 ls []) := by
            intro nn15349
            induction nn15349 with
            | zero => intro x15348_12 x15348_10 x15348_8 hx15348_12 hm15349; exfalso; omega
            | succ nn15349 ih15349 =>
              intro x15348_12 x15348_10 x15348_8 hx15348_12 hm15349 ls hl
              refine lv_iload hx hb dX12_isEnough_35 (lv_at hl 0 rfl) ?_
              refine lv_iload_n hx hb dX12_isEnough_37 rfl (lv_at hl 7 rfl) ?_
              refine lv_icmp_ge (tgt := 99) hx hb dX12_isEnough_38 (by decide) (fun c15350 => ?_) (fun c15350 => ?_)
              · have fc15350 := z_le (rfl : (mm).toInt = _) (rfl : (x15348_12).toInt = _) c15350
                obtain ⟨v15351, ev15351⟩ : ∃ y : Int32, y = x15078_5 + 1 := ⟨_, rfl⟩
                refine lv_iinc (v := v15351) (lv' := [(5, .int v15351), (12, .int x15348_12), (10, .long x15348_10), (8, .long x15348_8), (7, .int x15078_7), (6, .int x15078_6), (0, .ref h), (1, .int mm), (2, .int n), (3, .int a), (4, .int b)]) hx hb dX12_isEnough_99 hl (k := 5) rfl (by rw [ev15351]; rfl) (by decide) rfl (fun ls hl => ?_)
                refine lv_iload hx hb dX12_isEnough_102 (lv_at hl 5 rfl) ?_
                refine lv_lload hx hb dX12_isEnough_104 (lv_at hl 3 rfl) ?_
                refine lv_lload hx hb dX12_isEnough_106 (lv_at hl 2 rfl) ?_
                refine lv_aload_n hx hb dX12_isEnough_108 rfl (lv_at hl 6 rfl) ?_
                refine gM_12_17 hx hb ht hown hK hP m_1156 (v := (lv 12 17)) rfl dX12_isEnough_109 ?_
                refine lv_aload_n hx hb dX12_isEnough_112 rfl (lv_at hl 6 rfl) ?_
                refine gM_12_18 hx hb ht hown hK hP m_1157 (v := (lv 12 18)) rfl dX12_isEnough_113 ?_
                refine lv_iload_n hx hb dX12_isEnough_116 rfl (lv_at hl 9 rfl) ?_
                refine vp_callSi (W.runS (As := [.long x15348_8, .long x15348_10, .long (lv 12 17), .long (lv 12 18), .int a]) (rest := [.int x15078_6]) ⟨hx, hb, hml, hown, ht⟩ (c_X12_doPart l dC dI x15348_8 x15348_10 (lv 12 17) (lv 12 18) a) (kS 5 ht m_1540 m_1541 m_89 m_1542 rfl rfl hd_X12_doPart_v ⟨Nat.le_of_ble_eq_true rfl, Nat.le_of_ble_eq_true rfl⟩) (sR noP (hK.sub (tys' := []) [] rfl)) rfl rfl hl.1 rfl (lv_room (Nat.le_of_ble_eq_true rfl)) dX12_isEnough_117 ⟨Nat.le_of_ble_eq_true rfl, Nat.le_of_ble_eq_true rfl⟩) (fun r15352 hr15352 => ?_)
                refine vp_callSi (W.runS (As := [.int r15352]) (rest := [.int x15078_6]) ⟨hx, hb, hml, hown, ht⟩ (c_X12_bit l dC dI r15352 ⟨by omega, by omega⟩) (kS 1 ht m_1396 m_1397 m_89 m_1398 rfl rfl hd_X12_bit_v ⟨Nat.le_of_ble_eq_true rfl, Nat.le_of_ble_eq_true rfl⟩) (sR noP (hK.sub (tys' := []) [] rfl)) rfl rfl hl.1 rfl (lv_room (Nat.le_of_ble_eq_true rfl)) dX12_isEnough_120 ⟨Nat.le_of_ble_eq_true rfl, Nat.le_of_ble_eq_true rfl⟩) (fun r15353 hr15353 => ?_)
                refine lv_iadd hx hb dX12_isEnough_123 ?_
                refine lv_topi (fun v15354 ev15354 => ?_)
                refine lv_istore (lv' := [(6, .int v15354), (5, .int v15351), (12, .int x15348_12), (10, .long x15348_10), (8, .long x15348_8), (7, .int x15078_7), (0, .ref h), (1, .int mm), (2, .int n), (3, .int a), (4, .int b)]) hx hb dX12_isEnough_124 hl (by decide) rfl (fun ls hl => ?_)
                obtain ⟨v15355, ev15355⟩ : ∃ y : Int32, y = x15078_7 + 1 := ⟨_, rfl⟩
                have tv15355 := z_add ev15355 rfl (by decide : (1 : Int32).toInt = 1) (by omega) (by omega)
                refine lv_iinc (v := v15355) (lv' := [(7, .int v15355), (6, .int v15354), (5, .int v15351), (12, .int x15348_12), (10, .long x15348_10), (8, .long x15348_8), (0, .ref h), (1, .int mm), (2, .int n), (3, .int a), (4, .int b)]) hx hb dX12_isEnough_126 hl (k := 5) rfl (by rw [ev15355]; rfl) (by decide) rfl (fun ls hl => ?_)
                refine lv_goto (tgt := 9) hx hb dX12_isEnough_129 (by decide) ?_
                exact ih15079 v15355 v15354 v15351 ⟨by omega, by omega⟩ (show (v15355 : Int32).toInt ≤ 4096 from by omega) (show 0 ≤ (v15355 : Int32).toInt from by omega) (by omega) ls (lv_sub hl [0, 1, 2, 6, 7, 8, 9, 10] rfl)
              · have fc15350 := z_nle (rfl : (mm).toInt = _) (rfl : (x15348_12).toInt = _) c15350
                refine lv_lload hx hb dX12_isEnough_41 (lv_at hl 2 rfl) ?_
                refine lv_iload hx hb dX12_isEnough_43 (lv_at hl 3 rfl) ?_
                refine lv_iload hx hb dX12_isEnough_45 (lv_at hl 0 rfl) ?_
                refine lv_ishr hx hb dX12_isEnough_47 ?_
                refine lv_topi (fun v15356 ev15356 => ?_)
                refine lv_iconst (v := 1) hx hb dX12_isEnough_48 (by decide) ?_
                refine lv_iand hx hb dX12_isEnough_49 ?_
                refine lv_topi (fun v15357 ev15357 => ?_)
                refine lv_aload_n hx hb dX12_isEnough_50 rfl (lv_at hl 6 rfl) ?_
                refine gM_12_8 hx hb ht hown hK hP m_1147 dX12_isEnough_51 ?_
                refine lv_aload_n hx hb dX12_isEnough_54 rfl (lv_at hl 6 rfl) ?_
                refine gM_12_50 hx hb ht hown hK hP m_1189 dX12_isEnough_55 ?_
                refine lv_iload hx hb dX12_isEnough_58 (lv_at hl 0 rfl) ?_
                refine lM_12_50 hx hb hK hP (f := (fa 12 50)) rfl (vp_in_iff.mpr ⟨by omega, by omega⟩) dX12_isEnough_60 ?_
                refine lv_topi (fun v15358 ev15358 => ?_)
                have tv15358 : 0 ≤ v15358.toInt ∧ v15358.toInt ≤ 59 := by rw [ev15358]; exact hI.2 12 50 _
                refine lM_12_8 hx hb hK hP (f := (fa 12 8)) rfl (vp_in_iff.mpr ⟨by omega, by omega⟩) dX12_isEnough_61 ?_
                refine lv_topi (fun v15359 ev15359 => ?_)
                refine lv_imul hx hb dX12_isEnough_62 ?_
                refine lv_topi (fun v15360 ev15360 => ?_)
                refine lv_i2l (v := (v15360.toInt64)) hx hb dX12_isEnough_63 rfl ?_
                refine lv_ladd hx hb dX12_isEnough_64 ?_
                refine lv_topl (fun w15361 ew15361 => ?_)
                refine lv_lstore (lv' := [(8, .long w15361), (12, .int x15348_12), (10, .long x15348_10), (7, .int x15078_7), (6, .int x15078_6), (5, .int x15078_5), (0, .ref h), (1, .int mm), (2, .int n), (3, .int a), (4, .int b)]) hx hb dX12_isEnough_65 hl (by decide) rfl (fun ls hl => ?_)
                refine lv_lload hx hb dX12_isEnough_67 (lv_at hl 2 rfl) ?_
                refine lv_iload hx hb dX12_isEnough_69 (lv_at hl 3 rfl) ?_
                refine lv_iload hx hb dX12_isEnough_71 (lv_at hl 1 rfl) ?_
                refine lv_ishr hx hb dX12_isEnough_73 ?_
                refine lv_topi (fun v15362 ev15362 => ?_)
                refine lv_iconst (v := 1) hx hb dX12_isEnough_74 (by decide) ?_
                refine lv_iand hx hb dX12_isEnough_75 ?_
                refine lv_topi (fun v15363 ev15363 => ?_)
                refine lv_aload_n hx hb dX12_isEnough_76 rfl (lv_at hl 6 rfl) ?_
                refine gM_12_7 hx hb ht hown hK hP m_1146 dX12_isEnough_77 ?_
                refine lv_aload_n hx hb dX12_isEnough_80 rfl (lv_at hl 6 rfl) ?_
                refine gM_12_50 hx hb ht hown hK hP m_1189 dX12_isEnough_81 ?_
                refine lv_iload hx hb dX12_isEnough_84 (lv_at hl 1 rfl) ?_
                refine lM_12_50 hx hb hK hP (f := (fa 12 50)) rfl (vp_in_iff.mpr ⟨by omega, by omega⟩) dX12_isEnough_86 ?_
                refine lv_topi (fun v15364 ev15364 => ?_)
                obtain rfl : v15358 = v15364 := ev15358.trans ev15364.symm
                refine lM_12_7 hx hb hK hP (f := (fa 12 7)) rfl (vp_in_iff.mpr ⟨by omega, by omega⟩) dX12_isEnough_87 ?_
                refine lv_topi (fun v15365 ev15365 => ?_)
                have tv15365 : 0 ≤ v15365.toInt ∧ v15365.toInt ≤ 9999 := by rw [ev15365]; exact hI.2 12 7 _
                refine lv_imul hx hb dX12_isEnough_88 ?_
                refine lv_topi (fun v15366 ev15366 => ?_)
                refine lv_i2l (v := (v15366.toInt64)) hx hb dX12_isEnough_89 rfl ?_
                refine lv_ladd hx hb dX12_isEnough_90 ?_
                refine lv_topl (fun w15367 ew15367 => ?_)
                refine lv_lstore (lv' := [(10, .long w15367), (8, .long w15361), (12, .int x15348_12), (7, .int x15078_7), (6, .int x15078_6), (5, .int x15078_5), (0, .ref h), (1, .int mm), (2, .int n), (3, .int a), (4, .int b)]) hx hb dX12_isEnough_91 hl (by decide) rfl (fun ls hl => ?_)
                obtain ⟨v15368, ev15368⟩ : ∃ y : Int32, y = x15348_12 + 1 := ⟨_, rfl⟩
                have tv15368 := z_add ev15368 rfl (by decide : (1 : Int32).toInt = 1) (by omega) (by omega)
                refine lv_iinc (v := v15368) (lv' := [(12, .int v15368), (10, .long w15367), (8, .long w15361), (7, .int x15078_7), (6, .int x15078_6), (5, .int x15078_5), (0, .ref h), (1, .int mm), (2, .int n), (3, .int a), (4, .int b)]) hx hb dX12_isEnough_93 hl (k := 2) rfl (by rw [ev15368]; rfl) (by decide) rfl (fun ls hl => ?_)
                refine lv_goto (tgt := 35) hx hb dX12_isEnough_96 (by decide) ?_
                exact ih15349 v15368 w15367 w15361 ⟨by omega, by omega⟩ (by omega) ls (lv_sub hl [0, 1, 2, 3, 4, 5, 6, 7, 8, 9, 10] rfl)
          exact lp15349 13 0 0 0 ⟨by decide, by decide⟩ (by first | decide | omega) ls (lv_sub hl [0, 1, 2, 3, 4, 5, 6, 7, 8, 9, 10] rfl)
  have : (0 : Int32).toInt = 0 := (by decide)
  exact lp15079 4097 0 0 0 ⟨by decide, by decide⟩ (show (0 : Int32).toInt ≤ 4096 from by omega) (show 0 ≤ (0 : Int32).toInt from by omega) (show 4096 - (0 : Int32).toInt < _ from by omega) ls (lv_sub hl [0, 1, 2, 3, 4, 5, 6, 7] rfl)
set_option maxHeartbeats 4000000 in
set_option maxRecDepth 100000 in
/-- X12_needed -/
theorem c_X12_needed (l : Launch) (dC : Nat → ClassId) (dI : Nat → Nat → Nat) (sz : Nat) (h : Nat) (g : Nat → Nat → Nat) (ca : Nat → Nat → ClassId) (iv : Nat → Nat → Int32) (lv : Nat → Nat → Int64) (fa : Nat → Nat → Nat → Int32) (la : Nat → Nat → Nat → Int64) (hI : IX iv fa) (a : Int32) (b : Int32) (hJC : JCf (iv 12 23).toInt (fa 12 25) (fa 12 26) (fa 12 27) (fa 12 28)) (hJR : JRf (iv 12 3).toInt (fa 12 7)) (hJN : JNf (iv 12 3).toInt (fa 12 4) (fa 12 5)) : Met l yX12_needed (wc yX12_needed cX12_needed 7 (some .int)) ({ frames := 3, cells := 0, slots := 0, locals := 81 } : Room) (pW (dC, dI) classes (WM h g ca iv lv fa la) (TM ca) sz [.ref h, .int a, .int b]) (va_Qi (fun r (u : SS) => ∃ (na_12_39 : Nat → Int32) (na_12_40 : Nat → Int32) (na_12_50 : Nat → Int32) (ni_12_19 : Int32) (ni_12_41 : Int32) (nl_12_17 : Int64) (nl_12_18 : Int64), (∀ j, inb (bA 12 39 j) (na_12_39 j)) ∧ (∀ j, inb (bA 12 40 j) (na_12_40 j)) ∧ (∀ j, inb (bA 12 50 j) (na_12_50 j)) ∧ inb (bI 12 41) ni_12_41 ∧ ((-100002) ≤ r.toInt ∧ r.toInt ≤ 12) ∧ u = ((u2 (u2 iv 12 19 ni_12_19) 12 41 ni_12_41), (u2 (u2 lv 12 17 nl_12_17) 12 18 nl_12_18), (u2 (u2 (u2 fa 12 39 na_12_39) 12 40 na_12_40) 12 50 na_12_50), la)) (bM (dC, dI) h g ca (va_A (WM h g ca iv lv fa la) sz)) (va_A (WM h g ca iv lv fa la) sz)) 0 0 (va_A (WM h g ca iv lv fa la) sz) := by
  refine Met.ofW (cc := cX12_needed) (maxL := 7) (ret := (some .int)) (by decide) rfl ?_
  intro p e s m args below meth c s₁ B hml hv
  obtain ⟨rfl, hsz, hP, hK, hD0⟩ := hv
  have hx := B.exec
  have hb := B.bytes
  have hr := B.returns
  have ht := tb_tl (atoms_spec (ws := wc yX12_needed cX12_needed 7 (some .int)) B.pre)
  have hown : s.vm.findClass RX12 = some m.cls := findClass_of_methodNamed B.named
  have hlocks := B.notSynchronized
  subst hsz
  have hD := hD0.self (sz := s.heap.size)
  generalize hAe : va_A (WM h g ca iv lv fa la) s.heap.size = A at hD ⊢
  have hA : ∀ q : Nat, s.heap.size ≤ q → A q := fun q h => by rw [← hAe]; exact Or.inr h
  have hS : va_S A s.heap s.heap [] := va_S.rf
  have hl := lv_entry [.ref h, .int a, .int b] (n := 7) (Nat.le_of_ble_eq_true rfl)
  rw [lg_entry_eq]
  generalize (lg_sl [.ref h, .int a, .int b] ++ List.replicate (7 - (lg_sl [.ref h, .int a, .int b]).length) Slot.unset).toArray = ls at hl ⊢
  have hl : lv_has ls 7 [(0, .ref h), (1, .int a), (2, .int b)] := hl
  refine lv_aload_n hx hb dX12_needed_0 rfl (lv_at hl 0 rfl) ?_
  refine lv_iload_n hx hb dX12_needed_1 rfl (lv_at hl 1 rfl) ?_
  refine vp_callSi (W.runV (As := [.int a]) (rest := []) ⟨hx, hb, hml, hown, ht⟩ (c_X12_noBale l dC dI h g ca iv lv fa la hI a) (kV 1 ht m_1385 m_1387 m_42 m_89 m_1388 rfl rfl hd_X12_noBale_v ⟨Nat.le_of_ble_eq_true rfl, Nat.le_of_ble_eq_true rfl⟩) (vR hP hK (rM_12 hK hP)) rfl rfl hl.1 rfl (lv_room (Nat.le_of_ble_eq_true rfl)) dX12_needed_2 ⟨Nat.le_of_ble_eq_true rfl, Nat.le_of_ble_eq_true rfl⟩) (fun r1 hr1 => ?_)
  rcases hr1 with ⟨rfl, fr1⟩ | ⟨rfl, fr1⟩
  · skip
    have i_12_1 : 0 ≤ (iv 12 1).toInt ∧ (iv 12 1).toInt ≤ 10 := hI.1 12 1
    have fr1 : ¬ (0 ≤ (a : Int32).toInt ∧ (a : Int32).toInt < ((iv 12 1) : Int32).toInt) := fr1
    refine lv_if_eq (tgt := 11) hx hb dX12_needed_5 (by decide) (fun c2 => ?_) (fun c2 => ?_)
    · exact absurd c2 (by decide)
    · skip
      refine lv_ldc hx hb hown (ht _ m_1389) dX12_needed_8 ?_
      have hP9 : va_P (dC, dI) classes (WM h g ca (u2 (u2 iv 12 19 (iv 12 19)) 12 41 (iv 12 41)) (u2 (u2 lv 12 17 (lv 12 17)) 12 18 (lv 12 18)) (u2 (u2 (u2 fa 12 39 (fa 12 39)) 12 40 (fa 12 40)) 12 50 (fa 12 50)) la) s.heap := hP
      have hD9 : va_D A (WM h g ca (u2 (u2 iv 12 19 (iv 12 19)) 12 41 (iv 12 41)) (u2 (u2 lv 12 17 (lv 12 17)) 12 18 (lv 12 18)) (u2 (u2 (u2 fa 12 39 (fa 12 39)) 12 40 (fa 12 40)) 12 50 (fa 12 50)) la) := hD
      exact W.iret (v := (-100001)) hx hb hr (fun t ht9 hW => ⟨⟨(-100001), ((u2 (u2 iv 12 19 (iv 12 19)) 12 41 (iv 12 41)), (u2 (u2 lv 12 17 (lv 12 17)) 12 18 (lv 12 18)), (u2 (u2 (u2 fa 12 39 (fa 12 39)) 12 40 (fa 12 40)) 12 50 (fa 12 50)), la), rfl, ⟨(fa 12 39), (fa 12 40), (fa 12 50), (iv 12 19), (iv 12 41), (lv 12 17), (lv 12 18), (hI.2 12 39), (hI.2 12 40), (hI.2 12 50), (hI.1 12 41), ⟨by decide, by decide⟩, rfl⟩, by rw [ht9]; exact hP9, hD9⟩, hS.F ht9⟩) hS.2.2 dX12_needed_10
  · skip
    have i_12_1 : 0 ≤ (iv 12 1).toInt ∧ (iv 12 1).toInt ≤ 10 := hI.1 12 1
    have fr1 : (0 ≤ (a : Int32).toInt ∧ (a : Int32).toInt < ((iv 12 1) : Int32).toInt) := Decidable.not_not.mp fr1
    refine lv_if_eq (tgt := 11) hx hb dX12_needed_5 (by decide) (fun c3 => ?_) (fun c3 => ?_)
    · skip
      refine lv_iload_n hx hb dX12_needed_11 rfl (lv_at hl 2 rfl) ?_
      refine lv_i2l (v := (b.toInt64)) hx hb dX12_needed_12 rfl ?_
      refine lv_lconst (v := 1) hx hb dX12_needed_13 (by decide) ?_
      refine lv_ldc2 hx hb hown (ht _ m_1392) dX12_needed_14 ?_
      refine vp_callSi (W.runS (As := [.long (b.toInt64), .long 1, .long 100]) (rest := []) ⟨hx, hb, hml, hown, ht⟩ (c_X12_in l dC dI (b.toInt64) 1 100 (b.toInt) (1) (100) ((Int32.toInt_toInt64 b).trans rfl) (by decide : (1 : Int64).toInt = 1) (by decide : (100 : Int64).toInt = 100)) (kS 3 ht m_1370 m_1371 m_89 m_1372 rfl rfl hd_X12_in_v ⟨Nat.le_of_ble_eq_true rfl, Nat.le_of_ble_eq_true rfl⟩) (sR noP (hK.sub (tys' := []) [] rfl)) rfl rfl hl.1 rfl (lv_room (Nat.le_of_ble_eq_true rfl)) dX12_needed_17 ⟨Nat.le_of_ble_eq_true rfl, Nat.le_of_ble_eq_true rfl⟩) (fun r4 hr4 => ?_)
      rcases hr4 with ⟨rfl, fr4⟩ | ⟨rfl, fr4⟩
      · skip
        refine lv_if_ne (tgt := 26) hx hb dX12_needed_20 (by decide) (fun c5 => ?_) (fun c5 => ?_)
        · skip
          refine lv_aload_n hx hb dX12_needed_26 rfl (lv_at hl 0 rfl) ?_
          refine lv_iconst (v := 2) hx hb dX12_needed_27 (by decide) ?_
          refine lv_aload_n hx hb dX12_needed_28 rfl (lv_at hl 0 rfl) ?_
          have i_12_0 : 0 ≤ (iv 12 0).toInt ∧ (iv 12 0).toInt ≤ 3000 := hI.1 12 0
          refine gM_12_0 hx hb ht hown hK hP m_1139 (v := (iv 12 0)) rfl dX12_needed_29 ?_
          have hFc := free_all hD hS hA
          refine va_calli (va_runV (As := [.int 2, .int (iv 12 0)]) (rest := []) ⟨hx, hb, hml, hown, ht⟩ (c_X12_forceOf l dC dI s.heap.size h g ca iv lv fa la hI 2 (iv 12 0) ⟨by decide, by decide⟩ hJC) (kV 2 ht m_1509 m_1511 m_55 m_89 m_1512 rfl rfl hd_X12_forceOf_v ⟨Nat.le_of_ble_eq_true rfl, Nat.le_of_ble_eq_true rfl⟩) (vW hP hK hD (rM_12 hK hP)) rfl rfl hl.1 rfl (lv_room (Nat.le_of_ble_eq_true rfl)) dX12_needed_32 ⟨Nat.le_of_ble_eq_true rfl, Nat.le_of_ble_eq_true rfl⟩) hS (fun q _ h => hFc q h) hFc (fun r6 u t H1 locs ht9 hvm hr6 hB hz1 hk1 hS => ?_)
          obtain ⟨n7, n8, n9, hn7, hn8, hn9, hr6, rfl⟩ := hr6
          have hn9 : 0 ≤ n9.toInt ∧ n9.toInt ≤ 8 := hn9
          obtain ⟨hP, hD⟩ := hB
          rw [ht9] at hP
          generalize H1 = H at hP hS ⊢
          have hP : va_P (dC, dI) classes (WM h g ca (u2 iv 12 41 n9) lv (u2 (u2 fa 12 39 n7) 12 40 n8) la) H := hP
          have hD : va_D A (WM h g ca (u2 iv 12 41 n9) lv (u2 (u2 fa 12 39 n7) 12 40 n8) la) := (show va_D _ (WM h g ca (u2 iv 12 41 n9) lv (u2 (u2 fa 12 39 n7) 12 40 n8) la) from hD).weaken (fun _ _ _ h => hFc _ h)
          refine lv_istore_n (lv' := [(3, .int r6), (0, .ref h), (1, .int a), (2, .int b)]) hx hb dX12_needed_35 rfl hl (by decide) rfl (fun ls hl => ?_)
          refine lv_iconst (v := 0) hx hb dX12_needed_36 (by decide) ?_
          refine lv_istore (lv' := [(4, .int 0), (3, .int r6), (0, .ref h), (1, .int a), (2, .int b)]) hx hb dX12_needed_37 hl (by decide) rfl (fun ls hl => ?_)
          refine lv_iconst (v := 0) hx hb dX12_needed_39 (by decide) ?_
          refine lv_istore (lv' := [(5, .int 0), (4, .int 0), (3, .int r6), (0, .ref h), (1, .int a), (2, .int b)]) hx hb dX12_needed_40 hl (by decide) rfl (fun ls hl => ?_)
          have lp1462 : ∀ (nn1462 : Nat) (x1461_5 : Int32) (x1461_4 : Int32) (w1461_a_12_50 : Nat → Int32), 0 ≤ x1461_5.toInt ∧ x1461_5.toInt ≤ 60 → 0 ≤ x1461_4.toInt ∧ x1461_4.toInt ≤ 12 → (∀ j, inb (bA 12 50 j) (w1461_a_12_50 j)) → ((x1461_4 : Int32).toInt ≤ ((cn0 (fa 12 4) (fa 12 5) a 0 ((x1461_5 : Int32).toInt).toNat : Nat) : Int)) → 60 - x1461_5.toInt < (nn1462 : Int) → ∀ (H : Heap) (locs : List Loc), ∀ (ls : Array Slot), va_P (dC, dI) classes (WM h g ca (u2 iv 12 41 n9) lv (u2 (u2 (u2 fa 12 39 n7) 12 40 n8) 12 50 w1461_a_12_50) la) H → va_D A (WM h g ca (u2 iv 12 41 n9) lv (u2 (u2 (u2 fa 12 39 n7) 12 40 n8) 12 50 w1461_a_12_50) la) → va_S A s.heap H locs → lv_has ls 7 [(5, .int x1461_5), (4, .int x1461_4), (3, .int r6), (0, .ref h), (1, .int a), (2, .int b)] → W p l e ({ frames := 3, cells := 0, slots := 0, locals := 81 } : Room) s m ([.ref h, .int a, .int b] : List Value).toArray below meth c H locs 0 0 (MQ below (va_Qi (fun r (u : SS) => ∃ (na_12_39 : Nat → Int32) (na_12_40 : Nat → Int32) (na_12_50 : Nat → Int32) (ni_12_19 : Int32) (ni_12_41 : Int32) (nl_12_17 : Int64) (nl_12_18 : Int64), (∀ j, inb (bA 12 39 j) (na_12_39 j)) ∧ (∀ j, inb (bA 12 40 j) (na_12_40 j)) ∧ (∀ j, inb (bA 12 50 j) (na_12_50 j)) ∧ inb (bI 12 41) ni_12_41 ∧ ((-100002) ≤ r.toInt ∧ r.toInt ≤ 12) ∧ u = ((u2 (u2 iv 12 19 ni_12_19) 12 41 ni_12_41), (u2 (u2 lv 12 17 nl_12_17) 12 18 nl_12_18), (u2 (u2 (u2 fa 12 39 na_12_39) 12 40 na_12_40) 12 50 na_12_50), la)) (bM (dC, dI) h g ca A) A) ([.ref h, .int a, .int b] : List Value).toArray s 0 0 A) (F0 m 42 ls []) := by
            intro nn1462
            induction nn1462 with
            | zero => intro x1461_5 x1461_4 w1461_a_12_50 hx1461_5 hx1461_4 hw1461_a_12_50 hq1462_0 hm1462; exfalso; omega
            | succ nn1462 ih1462 =>
              intro x1461_5 x1461_4 w1461_a_12_50 hx1461_5 hx1461_4 hw1461_a_12_50 hq1462_0 hm1462 H locs ls hP hD hS hl
              refine lv_iload hx hb dX12_needed_42 (lv_at hl 0 rfl) ?_
              refine lv_aload_n hx hb dX12_needed_44 rfl (lv_at hl 3 rfl) ?_
              have i_12_3 : 0 ≤ (iv 12 3).toInt ∧ (iv 12 3).toInt ≤ 60 := hI.1 12 3
              refine gM_12_3 hx hb ht hown hK hP m_1142 (v := (iv 12 3)) rfl dX12_needed_45 ?_
              refine lv_icmp_ge (tgt := 103) hx hb dX12_needed_48 (by decide) (fun c1463 => ?_) (fun c1463 => ?_)
              · have fc1463 := z_le (rfl : ((iv 12 3)).toInt = _) (rfl : (x1461_5).toInt = _) c1463
                refine lv_aload_n hx hb dX12_needed_103 rfl (lv_at hl 3 rfl) ?_
                refine lv_iload_n hx hb dX12_needed_104 rfl (lv_at hl 4 rfl) ?_
                refine lv_iconst (v := 0) hx hb dX12_needed_105 (by decide) ?_
                refine lv_aload_n hx hb dX12_needed_106 rfl (lv_at hl 3 rfl) ?_
                refine gM_12_0 hx hb ht hown hK hP m_1139 (v := (iv 12 0)) rfl dX12_needed_107 ?_
                have hFc := free_all hD hS hA
                refine va_calli (va_runV (As := [.int a, .int 0, .int (iv 12 0)]) (rest := []) ⟨hx, hb, hml, hown, ht⟩ (c_X12_sumUp_x l dC dI H.size h g ca (u2 iv 12 41 n9) lv (u2 (u2 (u2 fa 12 39 n7) 12 40 n8) 12 50 w1461_a_12_50) la (IX_a (c := 12) (k := 50) (IX_a (c := 12) (k := 40) (IX_a (c := 12) (k := 39) (IX_i (c := 12) (k := 41) hI (show inb (0, 8) n9 from ⟨by omega, by omega⟩)) hn7) hn8) hw1461_a_12_50) a 0 (iv 12 0) hJR) (kV 3 ht m_1434 m_1436 m_45 m_89 m_1437 rfl rfl hd_X12_sumUp_v ⟨Nat.le_of_ble_eq_true rfl, Nat.le_of_ble_eq_true rfl⟩) (vW hP hK hD (rM_12 hK hP)) rfl rfl hl.1 rfl (lv_room (Nat.le_of_ble_eq_true rfl)) dX12_needed_110 ⟨Nat.le_of_ble_eq_true rfl, Nat.le_of_ble_eq_true rfl⟩) hS (fun q _ h => hFc q h) hFc (fun r1464 u t H1 locs ht9 hvm hr1464 hB hz1 hk1 hS => ?_)
                obtain ⟨n1465, n1466, n1467, xr1464_0, xr1464_1, xr1464_2, xr1464_3, xr1464_4, hr1464, rfl⟩ := hr1464
                obtain ⟨hP, hD⟩ := hB
                rw [ht9] at hP
                generalize H1 = H at hP hS ⊢
                have hP : va_P (dC, dI) classes (WM h g ca (u2 (u2 iv 12 41 n9) 12 19 n1465) (u2 (u2 lv 12 17 n1466) 12 18 n1467) (u2 (u2 (u2 fa 12 39 n7) 12 40 n8) 12 50 w1461_a_12_50) la) H := hP
                have hD : va_D A (WM h g ca (u2 (u2 iv 12 41 n9) 12 19 n1465) (u2 (u2 lv 12 17 n1466) 12 18 n1467) (u2 (u2 (u2 fa 12 39 n7) 12 40 n8) 12 50 w1461_a_12_50) la) := (show va_D _ (WM h g ca (u2 (u2 iv 12 41 n9) 12 19 n1465) (u2 (u2 lv 12 17 n1466) 12 18 n1467) (u2 (u2 (u2 fa 12 39 n7) 12 40 n8) 12 50 w1461_a_12_50) la) from hD).weaken (fun _ _ _ h => hFc _ h)
                have xr1464_0 : 0 ≤ (r1464 : Int32).toInt := xr1464_0
                have xr1464_1 : (r1464 : Int32).toInt ≤ 60 := xr1464_1
                have xr1464_2 : 0 ≤ (n1467 : Int64).toInt := xr1464_2
                have xr1464_3 : (n1467 : Int64).toInt ≤ 599940 := xr1464_3
                have xr1464_4 : 100 * (r1464 : Int32).toInt ≤ (n1467 : Int64).toInt := xr1464_4
                refine lv_istore (lv' := [(5, .int r1464), (4, .int x1461_4), (3, .int r6), (0, .ref h), (1, .int a), (2, .int b)]) hx hb dX12_needed_113 hl (by decide) rfl (fun ls hl => ?_)
                refine lv_iconst (v := 2) hx hb dX12_needed_115 (by decide) ?_
                refine lv_istore (lv' := [(6, .int 2), (5, .int r1464), (4, .int x1461_4), (3, .int r6), (0, .ref h), (1, .int a), (2, .int b)]) hx hb dX12_needed_116 hl (by decide) rfl (fun ls hl => ?_)
                have lp1529 : ∀ (nn1529 : Nat) (x1528_6 : Int32), 2 ≤ x1528_6.toInt ∧ x1528_6.toInt ≤ 13 → 13 - x1528_6.toInt < (nn1529 : Int) → ∀ (H : Heap) (locs : List Loc), ∀ (ls : Array Slot), va_P (dC, dI) classes (WM h g ca (u2 (u2 iv 12 41 n9) 12 19 n1465) (u2 (u2 lv 12 17 n1466) 12 18 n1467) (u2 (u2 (u2 fa 12 39 n7) 12 40 n8) 12 50 w1461_a_12_50) la) H → va_D A (WM h g ca (u2 (u2 iv 12 41 n9) 12 19 n1465) (u2 (u2 lv 12 17 n1466) 12 18 n1467) (u2 (u2 (u2 fa 12 39 n7) 12 40 n8) 12 50 w1461_a_12_50) la) → va_S A s.heap H locs → lv_has ls 7 [(6, .int x1528_6), (5, .int r1464), (4, .int x1461_4), (3, .int r6), (0, .ref h), (1, .int a), (2, .int b)] → W p l e ({ frames := 3, cells := 0, slots := 0, locals := 81 } : Room) s m ([.ref h, .int a, .int b] : List Value).toArray below meth c H locs 0 0 (MQ below (va_Qi (fun r (u : SS) => ∃ (na_12_39 : Nat → Int32) (na_12_40 : Nat → Int32) (na_12_50 : Nat → Int32) (ni_12_19 : Int32) (ni_12_41 : Int32) (nl_12_17 : Int64) (nl_12_18 : Int64), (∀ j, inb (bA 12 39 j) (na_12_39 j)) ∧ (∀ j, inb (bA 12 40 j) (na_12_40 j)) ∧ (∀ j, inb (bA 12 50 j) (na_12_50 j)) ∧ inb (bI 12 41) ni_12_41 ∧ ((-100002) ≤ r.toInt ∧ r.toInt ≤ 12) ∧ u = ((u2 (u2 iv 12 19 ni_12_19) 12 41 ni_12_41), (u2 (u2 lv 12 17 nl_12_17) 12 18 nl_12_18), (u2 (u2 (u2 fa 12 39 na_12_39) 12 40 na_12_40) 12 50 na_12_50), la)) (bM (dC, dI) h g ca A) A) ([.ref h, .int a, .int b] : List Value).toArray s 0 0 A) (F0 m 118 ls []) := by
                  intro nn1529
                  induction nn1529 with
                  | zero => intro x1528_6 hx1528_6 hm1529; exfalso; omega
                  | succ nn1529 ih1529 =>
                    intro x1528_6 hx1528_6 hm1529 H locs ls hP hD hS hl
                    refine lv_iload hx hb dX12_needed_118 (lv_at hl 0 rfl) ?_
                    refine lv_iload hx hb dX12_needed_120 (lv_at hl 2 rfl) ?_
                    refine lv_icmp_gt (tgt := 147) hx hb dX12_needed_122 (by decide) (fun c1530 => ?_) (fun c1530 => ?_)
                    · have fc1530 := z_lt (rfl : (x1461_4).toInt = _) (rfl : (x1528_6).toInt = _) c1530
                      refine lv_iconst (v := (-1)) hx hb dX12_needed_147 (by decide) ?_
                      have hP9 : va_P (dC, dI) classes (WM h g ca (u2 (u2 iv 12 19 n1465) 12 41 n9) (u2 (u2 lv 12 17 n1466) 12 18 n1467) (u2 (u2 (u2 fa 12 39 n7) 12 40 n8) 12 50 w1461_a_12_50) la) H := hP
                      have hD9 : va_D A (WM h g ca (u2 (u2 iv 12 19 n1465) 12 41 n9) (u2 (u2 lv 12 17 n1466) 12 18 n1467) (u2 (u2 (u2 fa 12 39 n7) 12 40 n8) 12 50 w1461_a_12_50) la) := hD
                      exact W.iret (v := (-1)) hx hb hr (fun t ht9 hW => ⟨⟨(-1), ((u2 (u2 iv 12 19 n1465) 12 41 n9), (u2 (u2 lv 12 17 n1466) 12 18 n1467), (u2 (u2 (u2 fa 12 39 n7) 12 40 n8) 12 50 w1461_a_12_50), la), rfl, ⟨n7, n8, w1461_a_12_50, n1465, n9, n1466, n1467, hn7, hn8, hw1461_a_12_50, (show inb (0, 8) n9 from ⟨by omega, by omega⟩), ⟨by decide, by decide⟩, rfl⟩, by rw [ht9]; exact hP9, hD9⟩, hS.F ht9⟩) hS.2.2 dX12_needed_148
                    · have fc1530 := z_nlt (rfl : (x1461_4).toInt = _) (rfl : (x1528_6).toInt = _) c1530
                      refine lv_aload_n hx hb dX12_needed_125 rfl (lv_at hl 4 rfl) ?_
                      refine lv_iload hx hb dX12_needed_126 (lv_at hl 2 rfl) ?_
                      refine lv_iload hx hb dX12_needed_128 (lv_at hl 0 rfl) ?_
                      refine lv_iload_n hx hb dX12_needed_130 rfl (lv_at hl 3 rfl) ?_
                      refine lv_iload_n hx hb dX12_needed_131 rfl (lv_at hl 6 rfl) ?_
                      refine vp_callSi (W.runV (As := [.int x1461_4, .int x1528_6, .int r6, .int b]) (rest := []) ⟨hx, hb, hml, hown, ht⟩ (c_X12_isEnough l dC dI h g ca (u2 (u2 iv 12 41 n9) 12 19 n1465) (u2 (u2 lv 12 17 n1466) 12 18 n1467) (u2 (u2 (u2 fa 12 39 n7) 12 40 n8) 12 50 w1461_a_12_50) la (IX_a (c := 12) (k := 50) (IX_a (c := 12) (k := 40) (IX_a (c := 12) (k := 39) (IX_i (c := 12) (k := 19) (IX_i (c := 12) (k := 41) hI (show inb (0, 8) n9 from ⟨by omega, by omega⟩)) (full_i _)) hn7) hn8) hw1461_a_12_50) x1461_4 x1528_6 r6 b ⟨by omega, by omega⟩) (kV 4 ht m_1602 m_1604 m_68 m_89 m_1605 rfl rfl hd_X12_isEnough_v ⟨Nat.le_of_ble_eq_true rfl, Nat.le_of_ble_eq_true rfl⟩) (vR hP hK (rM_12 hK hP)) rfl rfl hl.1 rfl (lv_room (Nat.le_of_ble_eq_true rfl)) dX12_needed_132 ⟨Nat.le_of_ble_eq_true rfl, Nat.le_of_ble_eq_true rfl⟩) (fun r1531 hr1531 => ?_)
                      refine lv_if_eq (tgt := 141) hx hb dX12_needed_135 (by decide) (fun c1532 => ?_) (fun c1532 => ?_)
                      · have fc1532 := z_eq (rfl : (r1531).toInt = _) (by decide : (0 : Int32).toInt = 0) c1532
                        obtain ⟨v1533, ev1533⟩ : ∃ y : Int32, y = x1528_6 + 1 := ⟨_, rfl⟩
                        have tv1533 := z_add ev1533 rfl (by decide : (1 : Int32).toInt = 1) (by omega) (by omega)
                        refine lv_iinc (v := v1533) (lv' := [(6, .int v1533), (5, .int r1464), (4, .int x1461_4), (3, .int r6), (0, .ref h), (1, .int a), (2, .int b)]) hx hb dX12_needed_141 hl (k := 0) rfl (by rw [ev1533]; rfl) (by decide) rfl (fun ls hl => ?_)
                        refine lv_goto (tgt := 118) hx hb dX12_needed_144 (by decide) ?_
                        exact ih1529 v1533 ⟨by omega, by omega⟩ (by omega) _ _ ls hP hD hS (lv_sub hl [0, 1, 2, 3, 4, 5, 6] rfl)
                      · have fc1532 := z_ne (rfl : (r1531).toInt = _) (by decide : (0 : Int32).toInt = 0) c1532
                        refine lv_iload hx hb dX12_needed_138 (lv_at hl 0 rfl) ?_
                        have hP9 : va_P (dC, dI) classes (WM h g ca (u2 (u2 iv 12 19 n1465) 12 41 n9) (u2 (u2 lv 12 17 n1466) 12 18 n1467) (u2 (u2 (u2 fa 12 39 n7) 12 40 n8) 12 50 w1461_a_12_50) la) H := hP
                        have hD9 : va_D A (WM h g ca (u2 (u2 iv 12 19 n1465) 12 41 n9) (u2 (u2 lv 12 17 n1466) 12 18 n1467) (u2 (u2 (u2 fa 12 39 n7) 12 40 n8) 12 50 w1461_a_12_50) la) := hD
                        exact W.iret (v := x1528_6) hx hb hr (fun t ht9 hW => ⟨⟨x1528_6, ((u2 (u2 iv 12 19 n1465) 12 41 n9), (u2 (u2 lv 12 17 n1466) 12 18 n1467), (u2 (u2 (u2 fa 12 39 n7) 12 40 n8) 12 50 w1461_a_12_50), la), rfl, ⟨n7, n8, w1461_a_12_50, n1465, n9, n1466, n1467, hn7, hn8, hw1461_a_12_50, (show inb (0, 8) n9 from ⟨by omega, by omega⟩), ⟨by omega, by omega⟩, rfl⟩, by rw [ht9]; exact hP9, hD9⟩, hS.F ht9⟩) hS.2.2 dX12_needed_140
                exact lp1529 12 2 ⟨by decide, by decide⟩ (by first | decide | omega) _ _ ls hP hD hS (lv_sub hl [0, 1, 2, 3, 4, 5, 6] rfl)
              · have fc1463 := z_nle (rfl : ((iv 12 3)).toInt = _) (rfl : (x1461_5).toInt = _) c1463
                refine lv_aload_n hx hb dX12_needed_51 rfl (lv_at hl 3 rfl) ?_
                refine gM_12_4 hx hb ht hown hK hP m_1143 dX12_needed_52 ?_
                refine lv_iload hx hb dX12_needed_55 (lv_at hl 0 rfl) ?_
                refine lM_12_4 hx hb hK hP (f := (fa 12 4)) rfl (vp_in_iff.mpr ⟨by omega, by omega⟩) dX12_needed_57 ?_
                refine lv_topi (fun v1534 ev1534 => ?_)
                refine lv_iload_n hx hb dX12_needed_58 rfl (lv_at hl 4 rfl) ?_
                refine lv_icmp_ne (tgt := 97) hx hb dX12_needed_59 (by decide) (fun c1535 => ?_) (fun c1535 => ?_)
                · have fc1535 := z_ne (rfl : (v1534).toInt = _) (rfl : (a).toInt = _) c1535
                  obtain ⟨v1536, ev1536⟩ : ∃ y : Int32, y = x1461_5 + 1 := ⟨_, rfl⟩
                  have tv1536 := z_add ev1536 rfl (by decide : (1 : Int32).toInt = 1) (by omega) (by omega)
                  refine lv_iinc (v := v1536) (lv' := [(5, .int v1536), (4, .int x1461_4), (3, .int r6), (0, .ref h), (1, .int a), (2, .int b)]) hx hb dX12_needed_97 hl (k := 0) rfl (by rw [ev1536]; rfl) (by decide) rfl (fun ls hl => ?_)
                  refine lv_goto (tgt := 42) hx hb dX12_needed_100 (by decide) ?_
                  exact ih1462 v1536 x1461_4 w1461_a_12_50 ⟨by omega, by omega⟩ ⟨by omega, by omega⟩ hw1461_a_12_50 (show (x1461_4 : Int32).toInt ≤ ((cn0 (fa 12 4) (fa 12 5) a 0 ((v1536 : Int32).toInt).toNat : Nat) : Int) from (by have hc := cn0_le (ob := fa 12 4) (ol := fa 12 5) (b := a) (l := 0) (s := x1461_5) (s' := v1536) (by omega) (by omega); have hq9 := hq1462_0; omega)) (by omega) _ _ ls hP hD hS (lv_sub hl [0, 1, 2, 3, 4, 5] rfl)
                · have fc1535 := z_eq (rfl : (v1534).toInt = _) (rfl : (a).toInt = _) c1535
                  refine lv_aload_n hx hb dX12_needed_62 rfl (lv_at hl 3 rfl) ?_
                  refine gM_12_5 hx hb ht hown hK hP m_1144 dX12_needed_63 ?_
                  refine lv_iload hx hb dX12_needed_66 (lv_at hl 0 rfl) ?_
                  refine lM_12_5 hx hb hK hP (f := (fa 12 5)) rfl (vp_in_iff.mpr ⟨by omega, by omega⟩) dX12_needed_68 ?_
                  refine lv_topi (fun v1537 ev1537 => ?_)
                  refine lv_if_ne (tgt := 97) hx hb dX12_needed_69 (by decide) (fun c1538 => ?_) (fun c1538 => ?_)
                  · have fc1538 := z_ne (rfl : (v1537).toInt = _) (by decide : (0 : Int32).toInt = 0) c1538
                    obtain ⟨v1539, ev1539⟩ : ∃ y : Int32, y = x1461_5 + 1 := ⟨_, rfl⟩
                    have tv1539 := z_add ev1539 rfl (by decide : (1 : Int32).toInt = 1) (by omega) (by omega)
                    refine lv_iinc (v := v1539) (lv' := [(5, .int v1539), (4, .int x1461_4), (3, .int r6), (0, .ref h), (1, .int a), (2, .int b)]) hx hb dX12_needed_97 hl (k := 0) rfl (by rw [ev1539]; rfl) (by decide) rfl (fun ls hl => ?_)
                    refine lv_goto (tgt := 42) hx hb dX12_needed_100 (by decide) ?_
                    exact ih1462 v1539 x1461_4 w1461_a_12_50 ⟨by omega, by omega⟩ ⟨by omega, by omega⟩ hw1461_a_12_50 (show (x1461_4 : Int32).toInt ≤ ((cn0 (fa 12 4) (fa 12 5) a 0 ((v1539 : Int32).toInt).toNat : Nat) : Int) from (by have hc := cn0_le (ob := fa 12 4) (ol := fa 12 5) (b := a) (l := 0) (s := x1461_5) (s' := v1539) (by omega) (by omega); have hq9 := hq1462_0; omega)) (by omega) _ _ ls hP hD hS (lv_sub hl [0, 1, 2, 3, 4, 5] rfl)
                  · have fc1538 := z_eq (rfl : (v1537).toInt = _) (by decide : (0 : Int32).toInt = 0) c1538
                    refine lv_aload_n hx hb dX12_needed_72 rfl (lv_at hl 3 rfl) ?_
                    refine lv_iload hx hb dX12_needed_73 (lv_at hl 0 rfl) ?_
                    refine lv_aload_n hx hb dX12_needed_75 rfl (lv_at hl 3 rfl) ?_
                    refine gM_12_0 hx hb ht hown hK hP m_1139 (v := (iv 12 0)) rfl dX12_needed_76 ?_
                    refine vp_callSi (W.runV (As := [.int x1461_5, .int (iv 12 0)]) (rest := []) ⟨hx, hb, hml, hown, ht⟩ (c_X12_isThere_x l dC dI h g ca (u2 iv 12 41 n9) lv (u2 (u2 (u2 fa 12 39 n7) 12 40 n8) 12 50 w1461_a_12_50) la (IX_a (c := 12) (k := 50) (IX_a (c := 12) (k := 40) (IX_a (c := 12) (k := 39) (IX_i (c := 12) (k := 41) hI (show inb (0, 8) n9 from ⟨by omega, by omega⟩)) hn7) hn8) hw1461_a_12_50) x1461_5 (iv 12 0) ⟨by omega, by omega⟩) (kV 2 ht m_1438 m_1440 m_46 m_89 m_1441 rfl rfl hd_X12_isThere_v ⟨Nat.le_of_ble_eq_true rfl, Nat.le_of_ble_eq_true rfl⟩) (vR hP hK (rM_12 hK hP)) rfl rfl hl.1 rfl (lv_room (Nat.le_of_ble_eq_true rfl)) dX12_needed_79 ⟨Nat.le_of_ble_eq_true rfl, Nat.le_of_ble_eq_true rfl⟩) (fun r1540 hr1540 => ?_)
                    obtain ⟨hr1540, xr1540_0⟩ := hr1540
                    have xr1540_0 : (((r1540 : Int32).toInt = 1 ∧ ((fa 12 11) (x1461_5 : Int32).toNatClampNeg).toInt ≤ ((iv 12 0) : Int32).toInt ∧ (((fa 12 12) (x1461_5 : Int32).toNatClampNeg).toInt < 0 ∨ ((iv 12 0) : Int32).toInt < ((fa 12 12) (x1461_5 : Int32).toNatClampNeg).toInt)) ∨ ((r1540 : Int32).toInt = 0 ∧ ¬ (((fa 12 11) (x1461_5 : Int32).toNatClampNeg).toInt ≤ ((iv 12 0) : Int32).toInt ∧ (((fa 12 12) (x1461_5 : Int32).toNatClampNeg).toInt < 0 ∨ ((iv 12 0) : Int32).toInt < ((fa 12 12) (x1461_5 : Int32).toNatClampNeg).toInt)))) := xr1540_0
                    refine lv_if_eq (tgt := 97) hx hb dX12_needed_82 (by decide) (fun c1541 => ?_) (fun c1541 => ?_)
                    · have fc1541 := z_eq (rfl : (r1540).toInt = _) (by decide : (0 : Int32).toInt = 0) c1541
                      obtain ⟨v1542, ev1542⟩ : ∃ y : Int32, y = x1461_5 + 1 := ⟨_, rfl⟩
                      have tv1542 := z_add ev1542 rfl (by decide : (1 : Int32).toInt = 1) (by omega) (by omega)
                      refine lv_iinc (v := v1542) (lv' := [(5, .int v1542), (4, .int x1461_4), (3, .int r6), (0, .ref h), (1, .int a), (2, .int b)]) hx hb dX12_needed_97 hl (k := 0) rfl (by rw [ev1542]; rfl) (by decide) rfl (fun ls hl => ?_)
                      refine lv_goto (tgt := 42) hx hb dX12_needed_100 (by decide) ?_
                      exact ih1462 v1542 x1461_4 w1461_a_12_50 ⟨by omega, by omega⟩ ⟨by omega, by omega⟩ hw1461_a_12_50 (show (x1461_4 : Int32).toInt ≤ ((cn0 (fa 12 4) (fa 12 5) a 0 ((v1542 : Int32).toInt).toNat : Nat) : Int) from (by have hc := cn0_le (ob := fa 12 4) (ol := fa 12 5) (b := a) (l := 0) (s := x1461_5) (s' := v1542) (by omega) (by omega); have hq9 := hq1462_0; omega)) (by omega) _ _ ls hP hD hS (lv_sub hl [0, 1, 2, 3, 4, 5] rfl)
                    · have fc1541 := z_ne (rfl : (r1540).toInt = _) (by decide : (0 : Int32).toInt = 0) c1541
                      refine lv_aload_n hx hb dX12_needed_85 rfl (lv_at hl 3 rfl) ?_
                      refine gM_12_50 hx hb ht hown hK hP m_1189 dX12_needed_86 ?_
                      refine lv_iload hx hb dX12_needed_89 (lv_at hl 1 rfl) ?_
                      refine lv_iload hx hb dX12_needed_91 (lv_at hl 0 rfl) ?_
                      have hc9 := cn0_mono (ob := fa 12 4) (ol := fa 12 5) (b := a) (l := 0) (m := (x1461_5 : Int32).toInt.toNat + 1) (iv 12 3).toInt.toNat (by omega)
                      have hd9 := hJN a 0
                      have he9 : cn0 (fa 12 4) (fa 12 5) a 0 ((x1461_5 : Int32).toInt.toNat + 1) = cn0 (fa 12 4) (fa 12 5) a 0 (x1461_5 : Int32).toInt.toNat + 1 := by
                        have hx8 := cn0_step (ob := fa 12 4) (ol := fa 12 5) (b := a) (l := 0) (s := x1461_5) (s' := x1461_5 + 1) (z_add rfl rfl (by decide : (1 : Int32).toInt = 1) (by omega) (by omega)) (by omega) ev1534 ev1537
                        have hz : (0 : Int32).toInt = 0 := by decide
                        have hz2 : ((x1461_5 : Int32) + 1).toInt = (x1461_5 : Int32).toInt + 1 := z_add rfl rfl (by decide : (1 : Int32).toInt = 1) (by omega) (by omega)
                        have hz3 : ((x1461_5 : Int32) + 1).toInt.toNat = (x1461_5 : Int32).toInt.toNat + 1 := by omega
                        rw [hz3, if_pos ⟨by omega, by omega⟩] at hx8
                        exact hx8
                      have : 0 ≤ (x1461_4 : Int32).toInt ∧ (x1461_4 : Int32).toInt ≤ 11 := ⟨by omega, by omega⟩
                      refine tM_12_50 hx hb hK hP hD hS (f0 := w1461_a_12_50) rfl (i := x1461_4) (x := x1461_5) (vp_in_iff.mpr ⟨by omega, by omega⟩) dX12_needed_93 (fun f1543 ef1543 H locs hP hD hS => ?_)
                      have hf1543 : ∀ j, inb (bA 12 50 j) (f1543 j) := by rw [ef1543]; exact upd_b (b := bA 12 50) hw1461_a_12_50 (show inb (0, 59) x1461_5 from ⟨by omega, by omega⟩)
                      have hP : va_P (dC, dI) classes (WM h g ca (u2 iv 12 41 n9) lv (u2 (u2 (u2 fa 12 39 n7) 12 40 n8) 12 50 f1543) la) H := hP
                      have hD : va_D A (WM h g ca (u2 iv 12 41 n9) lv (u2 (u2 (u2 fa 12 39 n7) 12 40 n8) 12 50 f1543) la) := hD
                      obtain ⟨v1544, ev1544⟩ : ∃ y : Int32, y = x1461_4 + 1 := ⟨_, rfl⟩
                      have tv1544 := z_add ev1544 rfl (by decide : (1 : Int32).toInt = 1) (by omega) (by omega)
                      refine lv_iinc (v := v1544) (lv' := [(4, .int v1544), (5, .int x1461_5), (3, .int r6), (0, .ref h), (1, .int a), (2, .int b)]) hx hb dX12_needed_94 hl (k := 1) rfl (by rw [ev1544]; rfl) (by decide) rfl (fun ls hl => ?_)
                      obtain ⟨v1545, ev1545⟩ : ∃ y : Int32, y = x1461_5 + 1 := ⟨_, rfl⟩
                      have tv1545 := z_add ev1545 rfl (by decide : (1 : Int32).toInt = 1) (by omega) (by omega)
                      refine lv_iinc (v := v1545) (lv' := [(5, .int v1545), (4, .int v1544), (3, .int r6), (0, .ref h), (1, .int a), (2, .int b)]) hx hb dX12_needed_97 hl (k := 1) rfl (by rw [ev1545]; rfl) (by decide) rfl (fun ls hl => ?_)
                      refine lv_goto (tgt := 42) hx hb dX12_needed_100 (by decide) ?_
                      exact ih1462 v1545 v1544 f1543 ⟨by omega, by omega⟩ ⟨by omega, by omega⟩ hf1543 (show (v1544 : Int32).toInt ≤ ((cn0 (fa 12 4) (fa 12 5) a 0 ((v1545 : Int32).toInt).toNat : Nat) : Int) from (by have hf9 : (v1545 : Int32).toInt.toNat = (x1461_5 : Int32).toInt.toNat + 1 := (by omega); rw [hf9, he9]; have hq9 := hq1462_0; omega)) (by omega) _ _ ls hP hD hS (lv_sub hl [0, 1, 2, 3, 4, 5] rfl)
          have : (0 : Int32).toInt = 0 := (by decide)
          exact lp1462 61 0 0 (fa 12 50) ⟨by decide, by decide⟩ ⟨by decide, by decide⟩ (hI.2 12 50) (show (0 : Int32).toInt ≤ ((cn0 (fa 12 4) (fa 12 5) a 0 ((0 : Int32).toInt).toNat : Nat) : Int) from by show _ ≤ ((0 : Nat) : Int); omega) (by first | decide | omega) _ _ ls hP hD hS (lv_sub hl [0, 1, 2, 3, 4, 5] rfl)
        · exact absurd c5 (by decide)
      · skip
        refine lv_if_ne (tgt := 26) hx hb dX12_needed_20 (by decide) (fun c1546 => ?_) (fun c1546 => ?_)
        · exact absurd rfl c1546
        · skip
          refine lv_ldc hx hb hown (ht _ m_1373) dX12_needed_23 ?_
          have hP9 : va_P (dC, dI) classes (WM h g ca (u2 (u2 iv 12 19 (iv 12 19)) 12 41 (iv 12 41)) (u2 (u2 lv 12 17 (lv 12 17)) 12 18 (lv 12 18)) (u2 (u2 (u2 fa 12 39 (fa 12 39)) 12 40 (fa 12 40)) 12 50 (fa 12 50)) la) s.heap := hP
          have hD9 : va_D A (WM h g ca (u2 (u2 iv 12 19 (iv 12 19)) 12 41 (iv 12 41)) (u2 (u2 lv 12 17 (lv 12 17)) 12 18 (lv 12 18)) (u2 (u2 (u2 fa 12 39 (fa 12 39)) 12 40 (fa 12 40)) 12 50 (fa 12 50)) la) := hD
          exact W.iret (v := (-100002)) hx hb hr (fun t ht9 hW => ⟨⟨(-100002), ((u2 (u2 iv 12 19 (iv 12 19)) 12 41 (iv 12 41)), (u2 (u2 lv 12 17 (lv 12 17)) 12 18 (lv 12 18)), (u2 (u2 (u2 fa 12 39 (fa 12 39)) 12 40 (fa 12 40)) 12 50 (fa 12 50)), la), rfl, ⟨(fa 12 39), (fa 12 40), (fa 12 50), (iv 12 19), (iv 12 41), (lv 12 17), (lv 12 18), (hI.2 12 39), (hI.2 12 40), (hI.2 12 50), (hI.1 12 41), ⟨by decide, by decide⟩, rfl⟩, by rw [ht9]; exact hP9, hD9⟩, hS.F ht9⟩) hS.2.2 dX12_needed_25
    · exact absurd rfl c3
