/-! ===== m3 ===== -/
set_option maxRecDepth 100000 in
theorem m_47 : Cond.selects RX12 yX12_here yX12_here ∈ tb := tb_in 47 rfl rfl
set_option maxRecDepth 100000 in
theorem m_1171 : Cond.fieldLink RX12 83 "SilkHouseModel" "text" "[I" ∈ tb := tb_in 1171 rfl rfl
set_option maxRecDepth 100000 in
theorem m_1172 : Cond.fieldLink RX12 249 "SilkHouseModel" "textSize" "I" ∈ tb := tb_in 1172 rfl rfl
set_option maxRecDepth 100000 in
theorem m_1173 : Cond.fieldLink RX12 254 "SilkHouseModel" "at" "I" ∈ tb := tb_in 1173 rfl rfl
set_option maxRecDepth 100000 in
theorem m_1174 : Cond.fieldLink RX12 257 "SilkHouseModel" "faultOf" "I" ∈ tb := tb_in 1174 rfl rfl
set_option maxRecDepth 100000 in
theorem m_1175 : Cond.fieldLink RX12 86 "SilkHouseModel" "place" "I" ∈ tb := tb_in 1175 rfl rfl
set_option maxRecDepth 100000 in
theorem m_1176 : Cond.fieldLink RX12 264 "SilkHouseModel" "from" "I" ∈ tb := tb_in 1176 rfl rfl
set_option maxRecDepth 100000 in
theorem m_1452 : Cond.constantLong RX12 247 (8) ∈ tb := tb_in 1452 rfl rfl
set_option maxRecDepth 100000 in
theorem m_1453 : Cond.constantLong RX12 252 (255) ∈ tb := tb_in 1453 rfl rfl
set_option maxRecDepth 100000 in
theorem m_1458 : Cond.methodLink RX12 260 yX12_here ∈ tb := tb_in 1458 rfl rfl
set_option maxRecDepth 100000 in
theorem m_1460 : Cond.instanceMethod yX12_here ∈ tb := tb_in 1460 rfl rfl
set_option maxRecDepth 100000 in
theorem m_1461 : Cond.code yX12_here cX12_here 1 (some .int) ∈ tb := tb_in 1461 rfl rfl
theorem hd_X12_here_v : yX12_here.cls = RX12 ∧ yX12_here.cls ≠ "java/lang/invoke/MethodHandle" ∧ yX12_here.cls ≠ "java/lang/invoke/VarHandle" ∧ (parseMethodDescriptor yX12_here.desc).map (fun d => d.parameters.length) = some 0 := by decide +kernel
theorem dX12_atFirst_0 : decode cX12_atFirst 0 = .ok (.iload_n 0, 1) := by decide +kernel
theorem dX12_atFirst_1 : decode cX12_atFirst 1 = .ok (.tableswitch 47 0 4 #[35, 38, 40, 42, 44], 35) := by decide +kernel
theorem dX12_atFirst_36 : decode cX12_atFirst 36 = .ok (.bipush 110, 2) := by decide +kernel
theorem dX12_atFirst_38 : decode cX12_atFirst 38 = .ok (.ireturn, 1) := by decide +kernel
theorem dX12_atFirst_39 : decode cX12_atFirst 39 = .ok (.iconst 3, 1) := by decide +kernel
theorem dX12_atFirst_40 : decode cX12_atFirst 40 = .ok (.ireturn, 1) := by decide +kernel
theorem dX12_atFirst_41 : decode cX12_atFirst 41 = .ok (.iconst 5, 1) := by decide +kernel
theorem dX12_atFirst_42 : decode cX12_atFirst 42 = .ok (.ireturn, 1) := by decide +kernel
theorem dX12_atFirst_43 : decode cX12_atFirst 43 = .ok (.iconst 2, 1) := by decide +kernel
theorem dX12_atFirst_44 : decode cX12_atFirst 44 = .ok (.ireturn, 1) := by decide +kernel
theorem dX12_atFirst_45 : decode cX12_atFirst 45 = .ok (.bipush 10, 2) := by decide +kernel
theorem dX12_atFirst_47 : decode cX12_atFirst 47 = .ok (.ireturn, 1) := by decide +kernel
theorem dX12_atFirst_48 : decode cX12_atFirst 48 = .ok (.iconst 0, 1) := by decide +kernel
theorem dX12_atFirst_49 : decode cX12_atFirst 49 = .ok (.ireturn, 1) := by decide +kernel
theorem dX12_fault_0 : decode cX12_fault 0 = .ok (.aload_n 0, 1) := by decide +kernel
theorem dX12_fault_1 : decode cX12_fault 1 = .ok (.getfield 86, 3) := by decide +kernel
theorem dX12_fault_4 : decode cX12_fault 4 = .ok (.ireturn, 1) := by decide +kernel
theorem dX12_feed_0 : decode cX12_feed 0 = .ok (.iload_n 1, 1) := by decide +kernel
theorem dX12_feed_1 : decode cX12_feed 1 = .ok (.i2l, 1) := by decide +kernel
theorem dX12_feed_2 : decode cX12_feed 2 = .ok (.lconst 1, 1) := by decide +kernel
theorem dX12_feed_3 : decode cX12_feed 3 = .ok (.ldc2_w 247, 3) := by decide +kernel
theorem dX12_feed_6 : decode cX12_feed 6 = .ok (.invokestatic 167, 3) := by decide +kernel
theorem dX12_feed_9 : decode cX12_feed 9 = .ok (.ifCond .ne 6, 3) := by decide +kernel
theorem dX12_feed_15 : decode cX12_feed 15 = .ok (.aload_n 0, 1) := by decide +kernel
theorem dX12_feed_16 : decode cX12_feed 16 = .ok (.getfield 249, 3) := by decide +kernel
theorem dX12_feed_19 : decode cX12_feed 19 = .ok (.iload_n 1, 1) := by decide +kernel
theorem dX12_feed_20 : decode cX12_feed 20 = .ok (.iadd, 1) := by decide +kernel
theorem dX12_feed_21 : decode cX12_feed 21 = .ok (.sipush 200, 3) := by decide +kernel
theorem dX12_feed_24 : decode cX12_feed 24 = .ok (.if_icmp .le 6, 3) := by decide +kernel
theorem dX12_feed_30 : decode cX12_feed 30 = .ok (.iload_n 1, 1) := by decide +kernel
theorem dX12_feed_31 : decode cX12_feed 31 = .ok (.iconst 1, 1) := by decide +kernel
theorem dX12_feed_32 : decode cX12_feed 32 = .ok (.isub, 1) := by decide +kernel
theorem dX12_feed_33 : decode cX12_feed 33 = .ok (.istore 4, 2) := by decide +kernel
theorem dX12_feed_35 : decode cX12_feed 35 = .ok (.iload 4, 2) := by decide +kernel
theorem dX12_feed_37 : decode cX12_feed 37 = .ok (.ifCond .lt 40, 3) := by decide +kernel
theorem dX12_feed_40 : decode cX12_feed 40 = .ok (.aload_n 0, 1) := by decide +kernel
theorem dX12_feed_41 : decode cX12_feed 41 = .ok (.getfield 83, 3) := by decide +kernel
theorem dX12_feed_44 : decode cX12_feed 44 = .ok (.aload_n 0, 1) := by decide +kernel
theorem dX12_feed_45 : decode cX12_feed 45 = .ok (.getfield 249, 3) := by decide +kernel
theorem dX12_feed_48 : decode cX12_feed 48 = .ok (.lload_n 2, 1) := by decide +kernel
theorem dX12_feed_49 : decode cX12_feed 49 = .ok (.bipush 8, 2) := by decide +kernel
theorem dX12_feed_51 : decode cX12_feed 51 = .ok (.iload 4, 2) := by decide +kernel
theorem dX12_feed_53 : decode cX12_feed 53 = .ok (.imul, 1) := by decide +kernel
theorem dX12_feed_54 : decode cX12_feed 54 = .ok (.lshr, 1) := by decide +kernel
theorem dX12_feed_55 : decode cX12_feed 55 = .ok (.ldc2_w 252, 3) := by decide +kernel
theorem dX12_feed_58 : decode cX12_feed 58 = .ok (.land, 1) := by decide +kernel
theorem dX12_feed_59 : decode cX12_feed 59 = .ok (.l2i, 1) := by decide +kernel
theorem dX12_feed_60 : decode cX12_feed 60 = .ok (.iastore, 1) := by decide +kernel
theorem dX12_here_0 : decode cX12_here 0 = .ok (.aload_n 0, 1) := by decide +kernel
theorem dX12_here_1 : decode cX12_here 1 = .ok (.getfield 254, 3) := by decide +kernel
theorem dX12_here_4 : decode cX12_here 4 = .ok (.aload_n 0, 1) := by decide +kernel
theorem dX12_here_5 : decode cX12_here 5 = .ok (.getfield 249, 3) := by decide +kernel
theorem dX12_here_8 : decode cX12_here 8 = .ok (.if_icmp .ge 30, 3) := by decide +kernel
theorem dX12_here_11 : decode cX12_here 11 = .ok (.aload_n 0, 1) := by decide +kernel
theorem dX12_here_12 : decode cX12_here 12 = .ok (.getfield 83, 3) := by decide +kernel
theorem dX12_here_15 : decode cX12_here 15 = .ok (.aload_n 0, 1) := by decide +kernel
theorem dX12_here_16 : decode cX12_here 16 = .ok (.getfield 254, 3) := by decide +kernel
theorem dX12_here_19 : decode cX12_here 19 = .ok (.iaload, 1) := by decide +kernel
theorem dX12_here_20 : decode cX12_here 20 = .ok (.bipush 32, 2) := by decide +kernel
theorem dX12_here_22 : decode cX12_here 22 = .ok (.if_icmp .ne 16, 3) := by decide +kernel
theorem dX12_here_25 : decode cX12_here 25 = .ok (.aload_n 0, 1) := by decide +kernel
theorem dX12_here_26 : decode cX12_here 26 = .ok (.dup, 1) := by decide +kernel
theorem dX12_here_27 : decode cX12_here 27 = .ok (.getfield 254, 3) := by decide +kernel
theorem dX12_here_30 : decode cX12_here 30 = .ok (.iconst 1, 1) := by decide +kernel
theorem dX12_here_31 : decode cX12_here 31 = .ok (.iadd, 1) := by decide +kernel
theorem dX12_here_32 : decode cX12_here 32 = .ok (.putfield 254, 3) := by decide +kernel
theorem dX12_here_35 : decode cX12_here 35 = .ok (.goto (-35), 3) := by decide +kernel
theorem dX12_here_38 : decode cX12_here 38 = .ok (.aload_n 0, 1) := by decide +kernel
theorem dX12_here_39 : decode cX12_here 39 = .ok (.getfield 254, 3) := by decide +kernel
theorem dX12_here_42 : decode cX12_here 42 = .ok (.aload_n 0, 1) := by decide +kernel
theorem dX12_here_43 : decode cX12_here 43 = .ok (.getfield 249, 3) := by decide +kernel
theorem dX12_here_46 : decode cX12_here 46 = .ok (.if_icmp .ge 15, 3) := by decide +kernel
theorem dX12_here_49 : decode cX12_here 49 = .ok (.aload_n 0, 1) := by decide +kernel
theorem dX12_here_50 : decode cX12_here 50 = .ok (.getfield 83, 3) := by decide +kernel
theorem dX12_here_53 : decode cX12_here 53 = .ok (.aload_n 0, 1) := by decide +kernel
theorem dX12_here_54 : decode cX12_here 54 = .ok (.getfield 254, 3) := by decide +kernel
theorem dX12_here_57 : decode cX12_here 57 = .ok (.iaload, 1) := by decide +kernel
theorem dX12_here_58 : decode cX12_here 58 = .ok (.goto 4, 3) := by decide +kernel
theorem dX12_here_61 : decode cX12_here 61 = .ok (.iconst (-1), 1) := by decide +kernel
theorem dX12_here_62 : decode cX12_here 62 = .ok (.ireturn, 1) := by decide +kernel
theorem dX12_leastOf_0 : decode cX12_leastOf 0 = .ok (.iload_n 0, 1) := by decide +kernel
theorem dX12_leastOf_1 : decode cX12_leastOf 1 = .ok (.iconst 1, 1) := by decide +kernel
theorem dX12_leastOf_2 : decode cX12_leastOf 2 = .ok (.if_icmp .eq 8, 3) := by decide +kernel
theorem dX12_leastOf_5 : decode cX12_leastOf 5 = .ok (.iload_n 0, 1) := by decide +kernel
theorem dX12_leastOf_6 : decode cX12_leastOf 6 = .ok (.iconst 3, 1) := by decide +kernel
theorem dX12_leastOf_7 : decode cX12_leastOf 7 = .ok (.if_icmp .ne 7, 3) := by decide +kernel
theorem dX12_leastOf_10 : decode cX12_leastOf 10 = .ok (.iconst 1, 1) := by decide +kernel
theorem dX12_leastOf_11 : decode cX12_leastOf 11 = .ok (.goto 4, 3) := by decide +kernel
theorem dX12_leastOf_14 : decode cX12_leastOf 14 = .ok (.iconst 0, 1) := by decide +kernel
theorem dX12_leastOf_15 : decode cX12_leastOf 15 = .ok (.ireturn, 1) := by decide +kernel
theorem dX12_mostOf_0 : decode cX12_mostOf 0 = .ok (.iload_n 0, 1) := by decide +kernel
theorem dX12_mostOf_1 : decode cX12_mostOf 1 = .ok (.tableswitch 44 0 3 #[31, 35, 38, 42], 31) := by decide +kernel
theorem dX12_mostOf_32 : decode cX12_mostOf 32 = .ok (.sipush 300, 3) := by decide +kernel
theorem dX12_mostOf_35 : decode cX12_mostOf 35 = .ok (.ireturn, 1) := by decide +kernel
theorem dX12_mostOf_36 : decode cX12_mostOf 36 = .ok (.bipush 9, 2) := by decide +kernel
theorem dX12_mostOf_38 : decode cX12_mostOf 38 = .ok (.ireturn, 1) := by decide +kernel
theorem dX12_mostOf_39 : decode cX12_mostOf 39 = .ok (.sipush 200, 3) := by decide +kernel
theorem dX12_mostOf_42 : decode cX12_mostOf 42 = .ok (.ireturn, 1) := by decide +kernel
theorem dX12_mostOf_43 : decode cX12_mostOf 43 = .ok (.iconst 2, 1) := by decide +kernel
theorem dX12_mostOf_44 : decode cX12_mostOf 44 = .ok (.ireturn, 1) := by decide +kernel
theorem dX12_mostOf_45 : decode cX12_mostOf 45 = .ok (.sipush 999, 3) := by decide +kernel
theorem dX12_mostOf_48 : decode cX12_mostOf 48 = .ok (.ireturn, 1) := by decide +kernel
theorem dX12_takeWord_0 : decode cX12_takeWord 0 = .ok (.aload_n 0, 1) := by decide +kernel
theorem dX12_takeWord_1 : decode cX12_takeWord 1 = .ok (.invokevirtual 260, 3) := by decide +kernel
theorem dX12_takeWord_4 : decode cX12_takeWord 4 = .ok (.istore_n 1, 1) := by decide +kernel
theorem dX12_takeWord_5 : decode cX12_takeWord 5 = .ok (.aload_n 0, 1) := by decide +kernel
theorem dX12_takeWord_6 : decode cX12_takeWord 6 = .ok (.aload_n 0, 1) := by decide +kernel
theorem dX12_takeWord_7 : decode cX12_takeWord 7 = .ok (.getfield 254, 3) := by decide +kernel
theorem dX12_takeWord_10 : decode cX12_takeWord 10 = .ok (.putfield 264, 3) := by decide +kernel
theorem dX12_takeWord_13 : decode cX12_takeWord 13 = .ok (.aload_n 0, 1) := by decide +kernel
theorem dX12_takeWord_14 : decode cX12_takeWord 14 = .ok (.getfield 254, 3) := by decide +kernel
theorem dX12_takeWord_17 : decode cX12_takeWord 17 = .ok (.aload_n 0, 1) := by decide +kernel
theorem dX12_takeWord_18 : decode cX12_takeWord 18 = .ok (.getfield 249, 3) := by decide +kernel
theorem dX12_takeWord_21 : decode cX12_takeWord 21 = .ok (.if_icmp .ge 38, 3) := by decide +kernel
theorem dX12_takeWord_59 : decode cX12_takeWord 59 = .ok (.aload_n 0, 1) := by decide +kernel
theorem dX12_takeWord_60 : decode cX12_takeWord 60 = .ok (.aload_n 0, 1) := by decide +kernel
theorem dX12_takeWord_61 : decode cX12_takeWord 61 = .ok (.getfield 254, 3) := by decide +kernel
theorem dX12_takeWord_64 : decode cX12_takeWord 64 = .ok (.aload_n 0, 1) := by decide +kernel
theorem dX12_takeWord_65 : decode cX12_takeWord 65 = .ok (.getfield 264, 3) := by decide +kernel
theorem dX12_takeWord_68 : decode cX12_takeWord 68 = .ok (.isub, 1) := by decide +kernel
theorem dX12_takeWord_69 : decode cX12_takeWord 69 = .ok (.putfield 271, 3) := by decide +kernel
theorem dX12_want_0 : decode cX12_want 0 = .ok (.iload_n 1, 1) := by decide +kernel
theorem dX12_want_1 : decode cX12_want 1 = .ok (.ifCond .ne 20, 3) := by decide +kernel
theorem dX12_want_4 : decode cX12_want 4 = .ok (.aload_n 0, 1) := by decide +kernel
theorem dX12_want_5 : decode cX12_want 5 = .ok (.getfield 257, 3) := by decide +kernel
theorem dX12_want_8 : decode cX12_want 8 = .ok (.ifCond .ne 13, 3) := by decide +kernel
theorem dX12_want_11 : decode cX12_want 11 = .ok (.aload_n 0, 1) := by decide +kernel
theorem dX12_want_12 : decode cX12_want 12 = .ok (.iload_n 2, 1) := by decide +kernel
theorem dX12_want_13 : decode cX12_want 13 = .ok (.putfield 257, 3) := by decide +kernel
theorem dX12_want_16 : decode cX12_want 16 = .ok (.aload_n 0, 1) := by decide +kernel
theorem dX12_want_17 : decode cX12_want 17 = .ok (.iload_n 3, 1) := by decide +kernel
theorem dX12_want_18 : decode cX12_want 18 = .ok (.putfield 86, 3) := by decide +kernel
theorem dX12_want_21 : decode cX12_want 21 = .ok (.aload_n 0, 1) := by decide +kernel
theorem dX12_want_22 : decode cX12_want 22 = .ok (.getfield 257, 3) := by decide +kernel
theorem dX12_want_25 : decode cX12_want 25 = .ok (.ifCond .ne 7, 3) := by decide +kernel
theorem dX12_want_28 : decode cX12_want 28 = .ok (.iconst 1, 1) := by decide +kernel
theorem dX12_want_29 : decode cX12_want 29 = .ok (.goto 4, 3) := by decide +kernel
theorem dX12_want_32 : decode cX12_want 32 = .ok (.iconst 0, 1) := by decide +kernel
theorem dX12_want_33 : decode cX12_want 33 = .ok (.ireturn, 1) := by decide +kernel
theorem sw_0_3 (x : Int32) : (x.toInt < 0 ∨ 3 < x.toInt) ∨ x = 0 ∨ x = 1 ∨ x = 2 ∨ x = 3 := by
  by_cases h : x.toInt < 0 ∨ 3 < x.toInt
  · exact Or.inl h
  · right
    have h2 : x.toInt = 0 ∨ x.toInt = 1 ∨ x.toInt = 2 ∨ x.toInt = 3 := by omega
    rcases h2 with h2 | h2 | h2 | h2
    · exact Or.inl (z_of (by decide) h2)
    · exact Or.inr (Or.inl (z_of (by decide) h2))
    · exact Or.inr (Or.inr (Or.inl (z_of (by decide) h2)))
    · exact Or.inr (Or.inr (Or.inr (z_of (by decide) h2)))
theorem sw_0_4 (x : Int32) : (x.toInt < 0 ∨ 4 < x.toInt) ∨ x = 0 ∨ x = 1 ∨ x = 2 ∨ x = 3 ∨ x = 4 := by
  by_cases h : x.toInt < 0 ∨ 4 < x.toInt
  · exact Or.inl h
  · right
    have h2 : x.toInt = 0 ∨ x.toInt = 1 ∨ x.toInt = 2 ∨ x.toInt = 3 ∨ x.toInt = 4 := by omega
    rcases h2 with h2 | h2 | h2 | h2 | h2
    · exact Or.inl (z_of (by decide) h2)
    · exact Or.inr (Or.inl (z_of (by decide) h2))
    · exact Or.inr (Or.inr (Or.inl (z_of (by decide) h2)))
    · exact Or.inr (Or.inr (Or.inr (Or.inl (z_of (by decide) h2))))
    · exact Or.inr (Or.inr (Or.inr (Or.inr (z_of (by decide) h2))))
set_option maxHeartbeats 4000000 in
set_option maxRecDepth 100000 in
/-- X12_here -/
theorem c_X12_here (l : Launch) (dC : Nat → ClassId) (dI : Nat → Nat → Nat) (sz : Nat) (h : Nat) (g : Nat → Nat → Nat) (ca : Nat → Nat → ClassId) (iv : Nat → Nat → Int32) (lv : Nat → Nat → Int64) (fa : Nat → Nat → Nat → Int32) (la : Nat → Nat → Nat → Int64) (hI : IX iv fa) : Met l yX12_here (wc yX12_here cX12_here 1 (some .int)) ({ frames := 0, cells := 0, slots := 0, locals := 0 } : Room) (pW (dC, dI) classes (WM h g ca iv lv fa la) (TM ca) sz [.ref h]) (va_Qi (fun r (u : SS) => ∃ (ni_12_34 : Int32), inb (bI 12 34) ni_12_34 ∧ (True) ∧ u = ((u2 iv 12 34 ni_12_34), lv, fa, la)) (bM (dC, dI) h g ca (va_A (WM h g ca iv lv fa la) sz)) (va_A (WM h g ca iv lv fa la) sz)) 0 0 (va_A (WM h g ca iv lv fa la) sz) := by
  refine Met.ofW (cc := cX12_here) (maxL := 1) (ret := (some .int)) (by decide) rfl ?_
  intro p e s m args below meth c s₁ B hml hv
  obtain ⟨rfl, hsz, hP, hK, hD0⟩ := hv
  have hx := B.exec
  have hb := B.bytes
  have hr := B.returns
  have ht := tb_tl (atoms_spec (ws := wc yX12_here cX12_here 1 (some .int)) B.pre)
  have hown : s.vm.findClass RX12 = some m.cls := findClass_of_methodNamed B.named
  have hlocks := B.notSynchronized
  subst hsz
  have hD := hD0.self (sz := s.heap.size)
  generalize hAe : va_A (WM h g ca iv lv fa la) s.heap.size = A at hD ⊢
  have hA : ∀ q : Nat, s.heap.size ≤ q → A q := fun q h => by rw [← hAe]; exact Or.inr h
  have hS : va_S A s.heap s.heap [] := va_S.rf
  have hl := lv_entry [.ref h] (n := 1) (Nat.le_of_ble_eq_true rfl)
  rw [lg_entry_eq]
  generalize (lg_sl [.ref h] ++ List.replicate (1 - (lg_sl [.ref h]).length) Slot.unset).toArray = ls at hl ⊢
  have hl : lv_has ls 1 [(0, .ref h)] := hl
  have lp20 : ∀ (nn20 : Nat) (w19_i_12_34 : Int32), 0 ≤ w19_i_12_34.toInt ∧ w19_i_12_34.toInt ≤ 200 → 200 - w19_i_12_34.toInt < (nn20 : Int) → ∀ (H : Heap) (locs : List Loc), ∀ (ls : Array Slot), va_P (dC, dI) classes (WM h g ca (u2 iv 12 34 w19_i_12_34) lv fa la) H → va_D A (WM h g ca (u2 iv 12 34 w19_i_12_34) lv fa la) → va_S A s.heap H locs → lv_has ls 1 [(0, .ref h)] → W p l e ({ frames := 0, cells := 0, slots := 0, locals := 0 } : Room) s m ([.ref h] : List Value).toArray below meth c H locs 0 0 (MQ below (va_Qi (fun r (u : SS) => ∃ (ni_12_34 : Int32), inb (bI 12 34) ni_12_34 ∧ (True) ∧ u = ((u2 iv 12 34 ni_12_34), lv, fa, la)) (bM (dC, dI) h g ca A) A) ([.ref h] : List Value).toArray s 0 0 A) (F0 m 0 ls []) := by
    intro nn20
    induction nn20 with
    | zero => intro w19_i_12_34 hw19_i_12_34 hm20; exfalso; omega
    | succ nn20 ih20 =>
      intro w19_i_12_34 hw19_i_12_34 hm20 H locs ls hP hD hS hl
      refine lv_aload_n hx hb dX12_here_0 rfl (lv_at hl 0 rfl) ?_
      refine va_get (D := (dC, dI)) (ci := 12) (v := .int w19_i_12_34) (fs := fM12 h g (u2 iv 12 34 w19_i_12_34) lv) (C := RX12) (T := TX12) (N := 75) hx hb ht inX12 hown hK hP 0 rfl rfl 34 (by decide) (ht _ m_1173) (fun _ h9 => h9) rfl dX12_here_1 ?_
      refine lv_aload_n hx hb dX12_here_4 rfl (lv_at hl 0 rfl) ?_
      have i_12_33 : 0 ≤ (iv 12 33).toInt ∧ (iv 12 33).toInt ≤ 200 := hI.1 12 33
      refine va_get (D := (dC, dI)) (ci := 12) (v := .int (iv 12 33)) (fs := fM12 h g (u2 iv 12 34 w19_i_12_34) lv) (C := RX12) (T := TX12) (N := 75) hx hb ht inX12 hown hK hP 0 rfl rfl 33 (by decide) (ht _ m_1172) (fun _ h9 => h9) rfl dX12_here_5 ?_
      refine lv_icmp_ge (tgt := 38) hx hb dX12_here_8 (by decide) (fun c21 => ?_) (fun c21 => ?_)
      · have fc21 := z_le (rfl : ((iv 12 33)).toInt = _) (rfl : (w19_i_12_34).toInt = _) c21
        refine lv_aload_n hx hb dX12_here_38 rfl (lv_at hl 0 rfl) ?_
        refine va_get (D := (dC, dI)) (ci := 12) (v := .int w19_i_12_34) (fs := fM12 h g (u2 iv 12 34 w19_i_12_34) lv) (C := RX12) (T := TX12) (N := 75) hx hb ht inX12 hown hK hP 0 rfl rfl 34 (by decide) (ht _ m_1173) (fun _ h9 => h9) rfl dX12_here_39 ?_
        refine lv_aload_n hx hb dX12_here_42 rfl (lv_at hl 0 rfl) ?_
        refine va_get (D := (dC, dI)) (ci := 12) (v := .int (iv 12 33)) (fs := fM12 h g (u2 iv 12 34 w19_i_12_34) lv) (C := RX12) (T := TX12) (N := 75) hx hb ht inX12 hown hK hP 0 rfl rfl 33 (by decide) (ht _ m_1172) (fun _ h9 => h9) rfl dX12_here_43 ?_
        refine lv_icmp_ge (tgt := 61) hx hb dX12_here_46 (by decide) (fun c22 => ?_) (fun c22 => ?_)
        · have fc22 := z_le (rfl : ((iv 12 33)).toInt = _) (rfl : (w19_i_12_34).toInt = _) c22
          refine lv_iconst (v := (-1)) hx hb dX12_here_61 (by decide) ?_
          have hP9 : va_P (dC, dI) classes (WM h g ca (u2 iv 12 34 w19_i_12_34) lv fa la) H := hP
          have hD9 : va_D A (WM h g ca (u2 iv 12 34 w19_i_12_34) lv fa la) := hD
          exact W.iret (v := (-1)) hx hb hr (fun t ht9 hW => ⟨⟨(-1), ((u2 iv 12 34 w19_i_12_34), lv, fa, la), rfl, ⟨w19_i_12_34, (show inb (0, 200) w19_i_12_34 from ⟨by omega, by omega⟩), trivial, rfl⟩, by rw [ht9]; exact hP9, hD9⟩, hS.F ht9⟩) hS.2.2 dX12_here_62
        · have fc22 := z_nle (rfl : ((iv 12 33)).toInt = _) (rfl : (w19_i_12_34).toInt = _) c22
          refine lv_aload_n hx hb dX12_here_49 rfl (lv_at hl 0 rfl) ?_
          refine va_get (D := (dC, dI)) (ci := 12) (v := .ref (g 12 32)) (fs := fM12 h g (u2 iv 12 34 w19_i_12_34) lv) (C := RX12) (T := TX12) (N := 75) hx hb ht inX12 hown hK hP 0 rfl rfl 32 (by decide) (ht _ m_1171) (fun _ h9 => h9) rfl dX12_here_50 ?_
          refine lv_aload_n hx hb dX12_here_53 rfl (lv_at hl 0 rfl) ?_
          refine va_get (D := (dC, dI)) (ci := 12) (v := .int w19_i_12_34) (fs := fM12 h g (u2 iv 12 34 w19_i_12_34) lv) (C := RX12) (T := TX12) (N := 75) hx hb ht inX12 hown hK hP 0 rfl rfl 34 (by decide) (ht _ m_1173) (fun _ h9 => h9) rfl dX12_here_54 ?_
          refine va_iald (D := (dC, dI)) hx hb hK hP 22 21 (f := (fa 12 32)) rfl rfl (vp_in_iff.mpr ⟨by omega, by omega⟩) dX12_here_57 ?_
          refine lv_topi (fun v23 ev23 => ?_)
          refine lv_goto (tgt := 62) hx hb dX12_here_58 (by decide) ?_
          have hP9 : va_P (dC, dI) classes (WM h g ca (u2 iv 12 34 w19_i_12_34) lv fa la) H := hP
          have hD9 : va_D A (WM h g ca (u2 iv 12 34 w19_i_12_34) lv fa la) := hD
          exact W.iret (v := v23) hx hb hr (fun t ht9 hW => ⟨⟨v23, ((u2 iv 12 34 w19_i_12_34), lv, fa, la), rfl, ⟨w19_i_12_34, (show inb (0, 200) w19_i_12_34 from ⟨by omega, by omega⟩), trivial, rfl⟩, by rw [ht9]; exact hP9, hD9⟩, hS.F ht9⟩) hS.2.2 dX12_here_62
      · have fc21 := z_nle (rfl : ((iv 12 33)).toInt = _) (rfl : (w19_i_12_34).toInt = _) c21
        refine lv_aload_n hx hb dX12_here_11 rfl (lv_at hl 0 rfl) ?_
        refine va_get (D := (dC, dI)) (ci := 12) (v := .ref (g 12 32)) (fs := fM12 h g (u2 iv 12 34 w19_i_12_34) lv) (C := RX12) (T := TX12) (N := 75) hx hb ht inX12 hown hK hP 0 rfl rfl 32 (by decide) (ht _ m_1171) (fun _ h9 => h9) rfl dX12_here_12 ?_
        refine lv_aload_n hx hb dX12_here_15 rfl (lv_at hl 0 rfl) ?_
        refine va_get (D := (dC, dI)) (ci := 12) (v := .int w19_i_12_34) (fs := fM12 h g (u2 iv 12 34 w19_i_12_34) lv) (C := RX12) (T := TX12) (N := 75) hx hb ht inX12 hown hK hP 0 rfl rfl 34 (by decide) (ht _ m_1173) (fun _ h9 => h9) rfl dX12_here_16 ?_
        refine va_iald (D := (dC, dI)) hx hb hK hP 22 21 (f := (fa 12 32)) rfl rfl (vp_in_iff.mpr ⟨by omega, by omega⟩) dX12_here_19 ?_
        refine lv_topi (fun v24 ev24 => ?_)
        refine lv_bipush (v := 32) hx hb dX12_here_20 (by decide) ?_
        refine lv_icmp_ne (tgt := 38) hx hb dX12_here_22 (by decide) (fun c25 => ?_) (fun c25 => ?_)
        · have fc25 := z_ne (rfl : (v24).toInt = _) (by decide : (32 : Int32).toInt = 32) c25
          refine lv_aload_n hx hb dX12_here_38 rfl (lv_at hl 0 rfl) ?_
          refine va_get (D := (dC, dI)) (ci := 12) (v := .int w19_i_12_34) (fs := fM12 h g (u2 iv 12 34 w19_i_12_34) lv) (C := RX12) (T := TX12) (N := 75) hx hb ht inX12 hown hK hP 0 rfl rfl 34 (by decide) (ht _ m_1173) (fun _ h9 => h9) rfl dX12_here_39 ?_
          refine lv_aload_n hx hb dX12_here_42 rfl (lv_at hl 0 rfl) ?_
          refine va_get (D := (dC, dI)) (ci := 12) (v := .int (iv 12 33)) (fs := fM12 h g (u2 iv 12 34 w19_i_12_34) lv) (C := RX12) (T := TX12) (N := 75) hx hb ht inX12 hown hK hP 0 rfl rfl 33 (by decide) (ht _ m_1172) (fun _ h9 => h9) rfl dX12_here_43 ?_
          refine lv_icmp_ge (tgt := 61) hx hb dX12_here_46 (by decide) (fun c26 => ?_) (fun c26 => ?_)
          · have fc26 := z_le (rfl : ((iv 12 33)).toInt = _) (rfl : (w19_i_12_34).toInt = _) c26
            refine lv_iconst (v := (-1)) hx hb dX12_here_61 (by decide) ?_
            have hP9 : va_P (dC, dI) classes (WM h g ca (u2 iv 12 34 w19_i_12_34) lv fa la) H := hP
            have hD9 : va_D A (WM h g ca (u2 iv 12 34 w19_i_12_34) lv fa la) := hD
            exact W.iret (v := (-1)) hx hb hr (fun t ht9 hW => ⟨⟨(-1), ((u2 iv 12 34 w19_i_12_34), lv, fa, la), rfl, ⟨w19_i_12_34, (show inb (0, 200) w19_i_12_34 from ⟨by omega, by omega⟩), trivial, rfl⟩, by rw [ht9]; exact hP9, hD9⟩, hS.F ht9⟩) hS.2.2 dX12_here_62
          · have fc26 := z_nle (rfl : ((iv 12 33)).toInt = _) (rfl : (w19_i_12_34).toInt = _) c26
            refine lv_aload_n hx hb dX12_here_49 rfl (lv_at hl 0 rfl) ?_
            refine va_get (D := (dC, dI)) (ci := 12) (v := .ref (g 12 32)) (fs := fM12 h g (u2 iv 12 34 w19_i_12_34) lv) (C := RX12) (T := TX12) (N := 75) hx hb ht inX12 hown hK hP 0 rfl rfl 32 (by decide) (ht _ m_1171) (fun _ h9 => h9) rfl dX12_here_50 ?_
            refine lv_aload_n hx hb dX12_here_53 rfl (lv_at hl 0 rfl) ?_
            refine va_get (D := (dC, dI)) (ci := 12) (v := .int w19_i_12_34) (fs := fM12 h g (u2 iv 12 34 w19_i_12_34) lv) (C := RX12) (T := TX12) (N := 75) hx hb ht inX12 hown hK hP 0 rfl rfl 34 (by decide) (ht _ m_1173) (fun _ h9 => h9) rfl dX12_here_54 ?_
            refine va_iald (D := (dC, dI)) hx hb hK hP 22 21 (f := (fa 12 32)) rfl rfl (vp_in_iff.mpr ⟨by omega, by omega⟩) dX12_here_57 ?_
            refine lv_topi (fun v27 ev27 => ?_)
            obtain rfl : v24 = v27 := ev24.trans ev27.symm
            refine lv_goto (tgt := 62) hx hb dX12_here_58 (by decide) ?_
            have hP9 : va_P (dC, dI) classes (WM h g ca (u2 iv 12 34 w19_i_12_34) lv fa la) H := hP
            have hD9 : va_D A (WM h g ca (u2 iv 12 34 w19_i_12_34) lv fa la) := hD
            exact W.iret (v := v24) hx hb hr (fun t ht9 hW => ⟨⟨v24, ((u2 iv 12 34 w19_i_12_34), lv, fa, la), rfl, ⟨w19_i_12_34, (show inb (0, 200) w19_i_12_34 from ⟨by omega, by omega⟩), trivial, rfl⟩, by rw [ht9]; exact hP9, hD9⟩, hS.F ht9⟩) hS.2.2 dX12_here_62
        · have fc25 := z_eq (rfl : (v24).toInt = _) (by decide : (32 : Int32).toInt = 32) c25
          refine lv_aload_n hx hb dX12_here_25 rfl (lv_at hl 0 rfl) ?_
          refine lv_dup hx hb dX12_here_26 rfl ?_
          refine va_get (D := (dC, dI)) (ci := 12) (v := .int w19_i_12_34) (fs := fM12 h g (u2 iv 12 34 w19_i_12_34) lv) (C := RX12) (T := TX12) (N := 75) hx hb ht inX12 hown hK hP 0 rfl rfl 34 (by decide) (ht _ m_1173) (fun _ h9 => h9) rfl dX12_here_27 ?_
          refine lv_iconst (v := 1) hx hb dX12_here_30 (by decide) ?_
          refine lv_iadd hx hb dX12_here_31 ?_
          refine lv_topi (fun v28 ev28 => ?_)
          have tv28 := z_add ev28 (rfl : (w19_i_12_34).toInt = _) (by decide : (1 : Int32).toInt = 1) (by omega) (by omega)
          refine va_put (D := (dC, dI)) (ci := 12) (v := .int v28) (ty := (.int)) (fs := fM12 h g (u2 iv 12 34 w19_i_12_34) lv) (C := RX12) (T := TX12) (N := 75) hx hb ht inX12 tyX12 tyX12_ok nmX12 hown hK hP hD hS 0 rfl rfl 34 (by decide) (ht _ m_1173) (fun _ h9 => h9) rfl (by decide +kernel) rfl rfl (Nat.le_of_ble_eq_true rfl) dX12_here_32 (fun H locs hP hD hS => ?_)
          rw [sM_12_34] at hP hD
          have hP : va_P (dC, dI) classes (WM h g ca (u2 iv 12 34 v28) lv fa la) H := hP
          have hD : va_D A (WM h g ca (u2 iv 12 34 v28) lv fa la) := hD
          refine lv_goto (tgt := 0) hx hb dX12_here_35 (by decide) ?_
          exact ih20 v28 ⟨by omega, by omega⟩ (by omega) _ _ ls hP hD hS (lv_sub hl [0] rfl)
  have i_12_34 : 0 ≤ (iv 12 34).toInt ∧ (iv 12 34).toInt ≤ 200 := hI.1 12 34
  exact lp20 201 (iv 12 34) ⟨by omega, by omega⟩ (by first | decide | omega) _ _ ls hP hD hS (lv_sub hl [0] rfl)
set_option maxHeartbeats 4000000 in
set_option maxRecDepth 100000 in
/-- X12_want -/
theorem c_X12_want (l : Launch) (dC : Nat → ClassId) (dI : Nat → Nat → Nat) (sz : Nat) (h : Nat) (g : Nat → Nat → Nat) (ca : Nat → Nat → ClassId) (iv : Nat → Nat → Int32) (lv : Nat → Nat → Int64) (fa : Nat → Nat → Nat → Int32) (la : Nat → Nat → Nat → Int64) (hI : IX iv fa) (a : Int32) (b : Int32) (d : Int32) (h_a : 0 ≤ a.toInt ∧ a.toInt ≤ 1) (h_b : 1 ≤ b.toInt ∧ b.toInt ≤ 5) (h_d : 0 ≤ d.toInt ∧ d.toInt ≤ 200) : Met l yX12_want (wc yX12_want cX12_want 4 (some .boolean)) ({ frames := 0, cells := 0, slots := 0, locals := 0 } : Room) (pW (dC, dI) classes (WM h g ca iv lv fa la) (TM ca) sz [.ref h, .int a, .int b, .int d]) (va_Qi (fun r (u : SS) => ∃ (ni_12_35 : Int32) (ni_12_36 : Int32), inb (bI 12 35) ni_12_35 ∧ (0 ≤ r.toInt ∧ r.toInt ≤ 1) ∧ u = ((u2 (u2 iv 12 35 ni_12_35) 12 36 ni_12_36), lv, fa, la)) (bM (dC, dI) h g ca (va_A (WM h g ca iv lv fa la) sz)) (va_A (WM h g ca iv lv fa la) sz)) 0 0 (va_A (WM h g ca iv lv fa la) sz) := by
  refine Met.ofW (cc := cX12_want) (maxL := 4) (ret := (some .boolean)) (by decide) rfl ?_
  intro p e s m args below meth c s₁ B hml hv
  obtain ⟨rfl, hsz, hP, hK, hD0⟩ := hv
  have hx := B.exec
  have hb := B.bytes
  have hr := B.returns
  have ht := tb_tl (atoms_spec (ws := wc yX12_want cX12_want 4 (some .boolean)) B.pre)
  have hown : s.vm.findClass RX12 = some m.cls := findClass_of_methodNamed B.named
  have hlocks := B.notSynchronized
  subst hsz
  have hD := hD0.self (sz := s.heap.size)
  generalize hAe : va_A (WM h g ca iv lv fa la) s.heap.size = A at hD ⊢
  have hA : ∀ q : Nat, s.heap.size ≤ q → A q := fun q h => by rw [← hAe]; exact Or.inr h
  have hS : va_S A s.heap s.heap [] := va_S.rf
  have hl := lv_entry [.ref h, .int a, .int b, .int d] (n := 4) (Nat.le_of_ble_eq_true rfl)
  rw [lg_entry_eq]
  generalize (lg_sl [.ref h, .int a, .int b, .int d] ++ List.replicate (4 - (lg_sl [.ref h, .int a, .int b, .int d]).length) Slot.unset).toArray = ls at hl ⊢
  have hl : lv_has ls 4 [(0, .ref h), (1, .int a), (2, .int b), (3, .int d)] := hl
  refine lv_iload_n hx hb dX12_want_0 rfl (lv_at hl 1 rfl) ?_
  refine lv_if_ne (tgt := 21) hx hb dX12_want_1 (by decide) (fun c1 => ?_) (fun c1 => ?_)
  · have fc1 := z_ne (rfl : (a).toInt = _) (by decide : (0 : Int32).toInt = 0) c1
    refine lv_aload_n hx hb dX12_want_21 rfl (lv_at hl 0 rfl) ?_
    have i_12_35 : 0 ≤ (iv 12 35).toInt ∧ (iv 12 35).toInt ≤ 5 := hI.1 12 35
    refine va_get (D := (dC, dI)) (ci := 12) (v := .int (iv 12 35)) (fs := fM12 h g iv lv) (C := RX12) (T := TX12) (N := 75) hx hb ht inX12 hown hK hP 0 rfl rfl 35 (by decide) (ht _ m_1174) (fun _ h9 => h9) rfl dX12_want_22 ?_
    refine lv_if_ne (tgt := 32) hx hb dX12_want_25 (by decide) (fun c2 => ?_) (fun c2 => ?_)
    · have fc2 := z_ne (rfl : ((iv 12 35)).toInt = _) (by decide : (0 : Int32).toInt = 0) c2
      refine lv_iconst (v := 0) hx hb dX12_want_32 (by decide) ?_
      have hP9 : va_P (dC, dI) classes (WM h g ca (u2 (u2 iv 12 35 (iv 12 35)) 12 36 (iv 12 36)) lv fa la) s.heap := hP
      have hD9 : va_D A (WM h g ca (u2 (u2 iv 12 35 (iv 12 35)) 12 36 (iv 12 36)) lv fa la) := hD
      exact W.zret (v := 0) hx hb hr rfl (fun t ht9 hW => ⟨⟨0, ((u2 (u2 iv 12 35 (iv 12 35)) 12 36 (iv 12 36)), lv, fa, la), rfl, ⟨(iv 12 35), (iv 12 36), (hI.1 12 35), ⟨by decide, by decide⟩, rfl⟩, by rw [ht9]; exact hP9, hD9⟩, hS.F ht9⟩) hS.2.2 dX12_want_33
    · have fc2 := z_eq (rfl : ((iv 12 35)).toInt = _) (by decide : (0 : Int32).toInt = 0) c2
      refine lv_iconst (v := 1) hx hb dX12_want_28 (by decide) ?_
      refine lv_goto (tgt := 33) hx hb dX12_want_29 (by decide) ?_
      have hP9 : va_P (dC, dI) classes (WM h g ca (u2 (u2 iv 12 35 (iv 12 35)) 12 36 (iv 12 36)) lv fa la) s.heap := hP
      have hD9 : va_D A (WM h g ca (u2 (u2 iv 12 35 (iv 12 35)) 12 36 (iv 12 36)) lv fa la) := hD
      exact W.zret (v := 1) hx hb hr rfl (fun t ht9 hW => ⟨⟨1, ((u2 (u2 iv 12 35 (iv 12 35)) 12 36 (iv 12 36)), lv, fa, la), rfl, ⟨(iv 12 35), (iv 12 36), (hI.1 12 35), ⟨by decide, by decide⟩, rfl⟩, by rw [ht9]; exact hP9, hD9⟩, hS.F ht9⟩) hS.2.2 dX12_want_33
  · have fc1 := z_eq (rfl : (a).toInt = _) (by decide : (0 : Int32).toInt = 0) c1
    refine lv_aload_n hx hb dX12_want_4 rfl (lv_at hl 0 rfl) ?_
    have i_12_35 : 0 ≤ (iv 12 35).toInt ∧ (iv 12 35).toInt ≤ 5 := hI.1 12 35
    refine va_get (D := (dC, dI)) (ci := 12) (v := .int (iv 12 35)) (fs := fM12 h g iv lv) (C := RX12) (T := TX12) (N := 75) hx hb ht inX12 hown hK hP 0 rfl rfl 35 (by decide) (ht _ m_1174) (fun _ h9 => h9) rfl dX12_want_5 ?_
    refine lv_if_ne (tgt := 21) hx hb dX12_want_8 (by decide) (fun c3 => ?_) (fun c3 => ?_)
    · have fc3 := z_ne (rfl : ((iv 12 35)).toInt = _) (by decide : (0 : Int32).toInt = 0) c3
      refine lv_aload_n hx hb dX12_want_21 rfl (lv_at hl 0 rfl) ?_
      refine va_get (D := (dC, dI)) (ci := 12) (v := .int (iv 12 35)) (fs := fM12 h g iv lv) (C := RX12) (T := TX12) (N := 75) hx hb ht inX12 hown hK hP 0 rfl rfl 35 (by decide) (ht _ m_1174) (fun _ h9 => h9) rfl dX12_want_22 ?_
      refine lv_if_ne (tgt := 32) hx hb dX12_want_25 (by decide) (fun c4 => ?_) (fun c4 => ?_)
      · skip
        refine lv_iconst (v := 0) hx hb dX12_want_32 (by decide) ?_
        have hP9 : va_P (dC, dI) classes (WM h g ca (u2 (u2 iv 12 35 (iv 12 35)) 12 36 (iv 12 36)) lv fa la) s.heap := hP
        have hD9 : va_D A (WM h g ca (u2 (u2 iv 12 35 (iv 12 35)) 12 36 (iv 12 36)) lv fa la) := hD
        exact W.zret (v := 0) hx hb hr rfl (fun t ht9 hW => ⟨⟨0, ((u2 (u2 iv 12 35 (iv 12 35)) 12 36 (iv 12 36)), lv, fa, la), rfl, ⟨(iv 12 35), (iv 12 36), (hI.1 12 35), ⟨by decide, by decide⟩, rfl⟩, by rw [ht9]; exact hP9, hD9⟩, hS.F ht9⟩) hS.2.2 dX12_want_33
      · have fc4 := z_eq (rfl : ((iv 12 35)).toInt = _) (by decide : (0 : Int32).toInt = 0) c4; exfalso; omega
    · have fc3 := z_eq (rfl : ((iv 12 35)).toInt = _) (by decide : (0 : Int32).toInt = 0) c3
      refine lv_aload_n hx hb dX12_want_11 rfl (lv_at hl 0 rfl) ?_
      refine lv_iload_n hx hb dX12_want_12 rfl (lv_at hl 2 rfl) ?_
      refine va_put (D := (dC, dI)) (ci := 12) (v := .int b) (ty := (.int)) (fs := fM12 h g iv lv) (C := RX12) (T := TX12) (N := 75) hx hb ht inX12 tyX12 tyX12_ok nmX12 hown hK hP hD hS 0 rfl rfl 35 (by decide) (ht _ m_1174) (fun _ h9 => h9) rfl (by decide +kernel) rfl rfl (Nat.le_of_ble_eq_true rfl) dX12_want_13 (fun H locs hP hD hS => ?_)
      rw [sM_12_35] at hP hD
      refine lv_aload_n hx hb dX12_want_16 rfl (lv_at hl 0 rfl) ?_
      refine lv_iload_n hx hb dX12_want_17 rfl (lv_at hl 3 rfl) ?_
      refine va_put (D := (dC, dI)) (ci := 12) (v := .int d) (ty := (.int)) (fs := fM12 h g (u2 iv 12 35 b) lv) (C := RX12) (T := TX12) (N := 75) hx hb ht inX12 tyX12 tyX12_ok nmX12 hown hK hP hD hS 0 rfl rfl 36 (by decide) (ht _ m_1175) (fun _ h9 => h9) rfl (by decide +kernel) rfl rfl (Nat.le_of_ble_eq_true rfl) dX12_want_18 (fun H locs hP hD hS => ?_)
      rw [sM_12_36] at hP hD
      refine lv_aload_n hx hb dX12_want_21 rfl (lv_at hl 0 rfl) ?_
      refine va_get (D := (dC, dI)) (ci := 12) (v := .int b) (fs := fM12 h g (u2 (u2 iv 12 35 b) 12 36 d) lv) (C := RX12) (T := TX12) (N := 75) hx hb ht inX12 hown hK hP 0 rfl rfl 35 (by decide) (ht _ m_1174) (fun _ h9 => h9) rfl dX12_want_22 ?_
      refine lv_if_ne (tgt := 32) hx hb dX12_want_25 (by decide) (fun c5 => ?_) (fun c5 => ?_)
      · skip
        refine lv_iconst (v := 0) hx hb dX12_want_32 (by decide) ?_
        have hP9 : va_P (dC, dI) classes (WM h g ca (u2 (u2 iv 12 35 b) 12 36 d) lv fa la) H := hP
        have hD9 : va_D A (WM h g ca (u2 (u2 iv 12 35 b) 12 36 d) lv fa la) := hD
        exact W.zret (v := 0) hx hb hr rfl (fun t ht9 hW => ⟨⟨0, ((u2 (u2 iv 12 35 b) 12 36 d), lv, fa, la), rfl, ⟨b, d, (show inb (0, 5) b from ⟨by omega, by omega⟩), ⟨by decide, by decide⟩, rfl⟩, by rw [ht9]; exact hP9, hD9⟩, hS.F ht9⟩) hS.2.2 dX12_want_33
      · have fc5 := z_eq (rfl : (b).toInt = _) (by decide : (0 : Int32).toInt = 0) c5; exfalso; omega
set_option maxHeartbeats 4000000 in
set_option maxRecDepth 100000 in
/-- X12_atFirst -/
theorem c_X12_atFirst (l : Launch) (dC : Nat → ClassId) (dI : Nat → Nat → Nat) (a : Int32) : Met l yX12_atFirst (wc yX12_atFirst cX12_atFirst 1 (some .int)) ({ frames := 0, cells := 0, slots := 0, locals := 0 } : Room) (pR (dC, dI) classes [] [] [.int a]) (vp_Si (fun r => 0 ≤ r.toInt ∧ r.toInt ≤ 110)) 0 0 (fun _ => False) := by
  refine Met.ofW (cc := cX12_atFirst) (maxL := 1) (ret := (some .int)) (by decide) rfl ?_
  intro p e s m args below meth c s₁ B hml hv
  obtain ⟨rfl, hP, hK⟩ := hv
  have hx := B.exec
  have hb := B.bytes
  have hr := B.returns
  have ht := tb_tl (atoms_spec (ws := wc yX12_atFirst cX12_atFirst 1 (some .int)) B.pre)
  have hown : s.vm.findClass RX12 = some m.cls := findClass_of_methodNamed B.named
  have hlocks := B.notSynchronized
  have hl := lv_entry [.int a] (n := 1) (Nat.le_of_ble_eq_true rfl)
  rw [lg_entry_eq]
  generalize (lg_sl [.int a] ++ List.replicate (1 - (lg_sl [.int a]).length) Slot.unset).toArray = ls at hl ⊢
  have hl : lv_has ls 1 [(0, .int a)] := hl
  refine lv_iload_n hx hb dX12_atFirst_0 rfl (lv_at hl 0 rfl) ?_
  rcases sw_0_4 a with h1 | rfl | rfl | rfl | rfl | rfl
  · refine lv_tableOut (tgt := 48) hx hb dX12_atFirst_1 h1 (by decide) ?_
    refine lv_iconst (v := 0) hx hb dX12_atFirst_48 (by decide) ?_
    exact W.iret (v := 0) hx hb hr (fun t ht9 hW => ⟨0, rfl, ⟨by decide, by decide⟩, ht9⟩) (fun q hq => by cases hq) dX12_atFirst_49
  · refine lv_tableIn (tgt := 36) (off := 35) hx hb dX12_atFirst_1 (by decide) (by decide) rfl (by decide) ?_
    refine lv_bipush (v := 110) hx hb dX12_atFirst_36 (by decide) ?_
    exact W.iret (v := 110) hx hb hr (fun t ht9 hW => ⟨110, rfl, ⟨by decide, by decide⟩, ht9⟩) (fun q hq => by cases hq) dX12_atFirst_38
  · refine lv_tableIn (tgt := 39) (off := 38) hx hb dX12_atFirst_1 (by decide) (by decide) rfl (by decide) ?_
    refine lv_iconst (v := 3) hx hb dX12_atFirst_39 (by decide) ?_
    exact W.iret (v := 3) hx hb hr (fun t ht9 hW => ⟨3, rfl, ⟨by decide, by decide⟩, ht9⟩) (fun q hq => by cases hq) dX12_atFirst_40
  · refine lv_tableIn (tgt := 41) (off := 40) hx hb dX12_atFirst_1 (by decide) (by decide) rfl (by decide) ?_
    refine lv_iconst (v := 5) hx hb dX12_atFirst_41 (by decide) ?_
    exact W.iret (v := 5) hx hb hr (fun t ht9 hW => ⟨5, rfl, ⟨by decide, by decide⟩, ht9⟩) (fun q hq => by cases hq) dX12_atFirst_42
  · refine lv_tableIn (tgt := 43) (off := 42) hx hb dX12_atFirst_1 (by decide) (by decide) rfl (by decide) ?_
    refine lv_iconst (v := 2) hx hb dX12_atFirst_43 (by decide) ?_
    exact W.iret (v := 2) hx hb hr (fun t ht9 hW => ⟨2, rfl, ⟨by decide, by decide⟩, ht9⟩) (fun q hq => by cases hq) dX12_atFirst_44
  · refine lv_tableIn (tgt := 45) (off := 44) hx hb dX12_atFirst_1 (by decide) (by decide) rfl (by decide) ?_
    refine lv_bipush (v := 10) hx hb dX12_atFirst_45 (by decide) ?_
    exact W.iret (v := 10) hx hb hr (fun t ht9 hW => ⟨10, rfl, ⟨by decide, by decide⟩, ht9⟩) (fun q hq => by cases hq) dX12_atFirst_47
set_option maxHeartbeats 4000000 in
set_option maxRecDepth 100000 in
/-- X12_leastOf -/
theorem c_X12_leastOf (l : Launch) (dC : Nat → ClassId) (dI : Nat → Nat → Nat) (a : Int32) : Met l yX12_leastOf (wc yX12_leastOf cX12_leastOf 1 (some .int)) ({ frames := 0, cells := 0, slots := 0, locals := 0 } : Room) (pR (dC, dI) classes [] [] [.int a]) (vp_Si (fun r => 0 ≤ r.toInt ∧ r.toInt ≤ 1)) 0 0 (fun _ => False) := by
  refine Met.ofW (cc := cX12_leastOf) (maxL := 1) (ret := (some .int)) (by decide) rfl ?_
  intro p e s m args below meth c s₁ B hml hv
  obtain ⟨rfl, hP, hK⟩ := hv
  have hx := B.exec
  have hb := B.bytes
  have hr := B.returns
  have ht := tb_tl (atoms_spec (ws := wc yX12_leastOf cX12_leastOf 1 (some .int)) B.pre)
  have hown : s.vm.findClass RX12 = some m.cls := findClass_of_methodNamed B.named
  have hlocks := B.notSynchronized
  have hl := lv_entry [.int a] (n := 1) (Nat.le_of_ble_eq_true rfl)
  rw [lg_entry_eq]
  generalize (lg_sl [.int a] ++ List.replicate (1 - (lg_sl [.int a]).length) Slot.unset).toArray = ls at hl ⊢
  have hl : lv_has ls 1 [(0, .int a)] := hl
  refine lv_iload_n hx hb dX12_leastOf_0 rfl (lv_at hl 0 rfl) ?_
  refine lv_iconst (v := 1) hx hb dX12_leastOf_1 (by decide) ?_
  refine lv_icmp_eq (tgt := 10) hx hb dX12_leastOf_2 (by decide) (fun c1 => ?_) (fun c1 => ?_)
  · have fc1 := z_eq (rfl : (a).toInt = _) (by decide : (1 : Int32).toInt = 1) c1
    refine lv_iconst (v := 1) hx hb dX12_leastOf_10 (by decide) ?_
    refine lv_goto (tgt := 15) hx hb dX12_leastOf_11 (by decide) ?_
    exact W.iret (v := 1) hx hb hr (fun t ht9 hW => ⟨1, rfl, ⟨by decide, by decide⟩, ht9⟩) (fun q hq => by cases hq) dX12_leastOf_15
  · have fc1 := z_ne (rfl : (a).toInt = _) (by decide : (1 : Int32).toInt = 1) c1
    refine lv_iload_n hx hb dX12_leastOf_5 rfl (lv_at hl 0 rfl) ?_
    refine lv_iconst (v := 3) hx hb dX12_leastOf_6 (by decide) ?_
    refine lv_icmp_ne (tgt := 14) hx hb dX12_leastOf_7 (by decide) (fun c2 => ?_) (fun c2 => ?_)
    · have fc2 := z_ne (rfl : (a).toInt = _) (by decide : (3 : Int32).toInt = 3) c2
      refine lv_iconst (v := 0) hx hb dX12_leastOf_14 (by decide) ?_
      exact W.iret (v := 0) hx hb hr (fun t ht9 hW => ⟨0, rfl, ⟨by decide, by decide⟩, ht9⟩) (fun q hq => by cases hq) dX12_leastOf_15
    · have fc2 := z_eq (rfl : (a).toInt = _) (by decide : (3 : Int32).toInt = 3) c2
      refine lv_iconst (v := 1) hx hb dX12_leastOf_10 (by decide) ?_
      refine lv_goto (tgt := 15) hx hb dX12_leastOf_11 (by decide) ?_
      exact W.iret (v := 1) hx hb hr (fun t ht9 hW => ⟨1, rfl, ⟨by decide, by decide⟩, ht9⟩) (fun q hq => by cases hq) dX12_leastOf_15
set_option maxHeartbeats 4000000 in
set_option maxRecDepth 100000 in
/-- X12_mostOf -/
theorem c_X12_mostOf (l : Launch) (dC : Nat → ClassId) (dI : Nat → Nat → Nat) (a : Int32) : Met l yX12_mostOf (wc yX12_mostOf cX12_mostOf 1 (some .int)) ({ frames := 0, cells := 0, slots := 0, locals := 0 } : Room) (pR (dC, dI) classes [] [] [.int a]) (vp_Si (fun r => 2 ≤ r.toInt ∧ r.toInt ≤ 999)) 0 0 (fun _ => False) := by
  refine Met.ofW (cc := cX12_mostOf) (maxL := 1) (ret := (some .int)) (by decide) rfl ?_
  intro p e s m args below meth c s₁ B hml hv
  obtain ⟨rfl, hP, hK⟩ := hv
  have hx := B.exec
  have hb := B.bytes
  have hr := B.returns
  have ht := tb_tl (atoms_spec (ws := wc yX12_mostOf cX12_mostOf 1 (some .int)) B.pre)
  have hown : s.vm.findClass RX12 = some m.cls := findClass_of_methodNamed B.named
  have hlocks := B.notSynchronized
  have hl := lv_entry [.int a] (n := 1) (Nat.le_of_ble_eq_true rfl)
  rw [lg_entry_eq]
  generalize (lg_sl [.int a] ++ List.replicate (1 - (lg_sl [.int a]).length) Slot.unset).toArray = ls at hl ⊢
  have hl : lv_has ls 1 [(0, .int a)] := hl
  refine lv_iload_n hx hb dX12_mostOf_0 rfl (lv_at hl 0 rfl) ?_
  rcases sw_0_3 a with h1 | rfl | rfl | rfl | rfl
  · refine lv_tableOut (tgt := 45) hx hb dX12_mostOf_1 h1 (by decide) ?_
    refine lv_sipush (v := 999) hx hb dX12_mostOf_45 (by decide) ?_
    exact W.iret (v := 999) hx hb hr (fun t ht9 hW => ⟨999, rfl, ⟨by decide, by decide⟩, ht9⟩) (fun q hq => by cases hq) dX12_mostOf_48
  · refine lv_tableIn (tgt := 32) (off := 31) hx hb dX12_mostOf_1 (by decide) (by decide) rfl (by decide) ?_
    refine lv_sipush (v := 300) hx hb dX12_mostOf_32 (by decide) ?_
    exact W.iret (v := 300) hx hb hr (fun t ht9 hW => ⟨300, rfl, ⟨by decide, by decide⟩, ht9⟩) (fun q hq => by cases hq) dX12_mostOf_35
  · refine lv_tableIn (tgt := 36) (off := 35) hx hb dX12_mostOf_1 (by decide) (by decide) rfl (by decide) ?_
    refine lv_bipush (v := 9) hx hb dX12_mostOf_36 (by decide) ?_
    exact W.iret (v := 9) hx hb hr (fun t ht9 hW => ⟨9, rfl, ⟨by decide, by decide⟩, ht9⟩) (fun q hq => by cases hq) dX12_mostOf_38
  · refine lv_tableIn (tgt := 39) (off := 38) hx hb dX12_mostOf_1 (by decide) (by decide) rfl (by decide) ?_
    refine lv_sipush (v := 200) hx hb dX12_mostOf_39 (by decide) ?_
    exact W.iret (v := 200) hx hb hr (fun t ht9 hW => ⟨200, rfl, ⟨by decide, by decide⟩, ht9⟩) (fun q hq => by cases hq) dX12_mostOf_42
  · refine lv_tableIn (tgt := 43) (off := 42) hx hb dX12_mostOf_1 (by decide) (by decide) rfl (by decide) ?_
    refine lv_iconst (v := 2) hx hb dX12_mostOf_43 (by decide) ?_
    exact W.iret (v := 2) hx hb hr (fun t ht9 hW => ⟨2, rfl, ⟨by decide, by decide⟩, ht9⟩) (fun q hq => by cases hq) dX12_mostOf_44
set_option maxHeartbeats 4000000 in
set_option maxRecDepth 100000 in
/-- X12_fault -/
theorem c_X12_fault (l : Launch) (dC : Nat → ClassId) (dI : Nat → Nat → Nat) (h : Nat) (g : Nat → Nat → Nat) (ca : Nat → Nat → ClassId) (iv : Nat → Nat → Int32) (lv : Nat → Nat → Int64) (fa : Nat → Nat → Nat → Int32) (la : Nat → Nat → Nat → Int64) (hI : IX iv fa) : Met l yX12_fault (wc yX12_fault cX12_fault 1 (some .int)) ({ frames := 0, cells := 0, slots := 0, locals := 0 } : Room) (pR (dC, dI) classes (WM h g ca iv lv fa la) (TM ca) [.ref h]) (vp_Si (fun r => True)) 0 0 (fun _ => False) := by
  refine Met.ofW (cc := cX12_fault) (maxL := 1) (ret := (some .int)) (by decide) rfl ?_
  intro p e s m args below meth c s₁ B hml hv
  obtain ⟨rfl, hP, hK⟩ := hv
  have hx := B.exec
  have hb := B.bytes
  have hr := B.returns
  have ht := tb_tl (atoms_spec (ws := wc yX12_fault cX12_fault 1 (some .int)) B.pre)
  have hown : s.vm.findClass RX12 = some m.cls := findClass_of_methodNamed B.named
  have hlocks := B.notSynchronized
  have hl := lv_entry [.ref h] (n := 1) (Nat.le_of_ble_eq_true rfl)
  rw [lg_entry_eq]
  generalize (lg_sl [.ref h] ++ List.replicate (1 - (lg_sl [.ref h]).length) Slot.unset).toArray = ls at hl ⊢
  have hl : lv_has ls 1 [(0, .ref h)] := hl
  refine lv_aload_n hx hb dX12_fault_0 rfl (lv_at hl 0 rfl) ?_
  refine va_get (D := (dC, dI)) (ci := 12) (v := .int (iv 12 36)) (fs := fM12 h g iv lv) (C := RX12) (T := TX12) (N := 75) hx hb ht inX12 hown hK hP 0 rfl rfl 36 (by decide) (ht _ m_1175) (fun _ h9 => h9) rfl dX12_fault_1 ?_
  exact W.iret (v := (iv 12 36)) hx hb hr (fun t ht9 hW => ⟨(iv 12 36), rfl, trivial, ht9⟩) (fun q hq => by cases hq) dX12_fault_4
