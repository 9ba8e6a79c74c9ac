/-! ===== re2 ===== -/
set_option maxHeartbeats 4000000 in
set_option maxRecDepth 100000 in
/-- X12_letOf -/
theorem c_X12_letOf_r (l : Launch) (dC : Nat → ClassId) (dI : Nat → Nat → Nat) (h : Nat) (g : Nat → Nat → Nat) (ca : Nat → Nat → ClassId) (iv : Nat → Nat → Int32) (lv : Nat → Nat → Int64) (fa : Nat → Nat → Nat → Int32) (la : Nat → Nat → Nat → Int64) (hI : IX iv fa) (p_0 : (iv 12 37).toInt + (iv 12 38).toInt ≤ 200) : Met l yX12_letOf (wc yX12_letOf cX12_letOf 1 (some .int)) ({ frames := 1, cells := 0, slots := 0, locals := 29 } : Room) (pR (dC, dI) classes (WM h g ca iv lv fa la) (TM ca) [.ref h]) (vp_Si (fun r => ((-1) ≤ r.toInt ∧ r.toInt ≤ 4) ∧ (r.toInt = kwN (fun j => sg ((fa 12 32) j).toInt) (iv 12 37).toInt ((iv 12 37).toInt + (iv 12 38).toInt)))) 0 0 (fun _ => False) := by
  refine Met.ofW (cc := cX12_letOf) (maxL := 1) (ret := (some .int)) (by decide) rfl ?_
  intro p e s m args below meth c s₁ B hml hv
  obtain ⟨rfl, hP, hK⟩ := hv
  have hx := B.exec
  have hb := B.bytes
  have hr := B.returns
  have ht := tb_tl (atoms_spec (ws := wc yX12_letOf cX12_letOf 1 (some .int)) B.pre)
  have hown : s.vm.findClass RX12 = some m.cls := findClass_of_methodNamed B.named
  have hlocks := B.notSynchronized
  have hl := lv_entry [.ref h] (n := 1) (Nat.le_of_ble_eq_true rfl)
  rw [lg_entry_eq]
  generalize (lg_sl [.ref h] ++ List.replicate (1 - (lg_sl [.ref h]).length) Slot.unset).toArray = ls at hl ⊢
  have hl : lv_has ls 1 [(0, .ref h)] := hl
  refine lv_aload_n hx hb dX12_letOf_0 rfl (lv_at hl 0 rfl) ?_
  refine lv_iconst (v := 5) hx hb dX12_letOf_1 (by decide) ?_
  refine lv_bipush (v := 119) hx hb dX12_letOf_2 (by decide) ?_
  refine lv_bipush (v := 97) hx hb dX12_letOf_4 (by decide) ?_
  refine lv_bipush (v := 116) hx hb dX12_letOf_6 (by decide) ?_
  refine lv_bipush (v := 101) hx hb dX12_letOf_8 (by decide) ?_
  refine lv_bipush (v := 114) hx hb dX12_letOf_10 (by decide) ?_
  refine lv_iconst (v := 0) hx hb dX12_letOf_12 (by decide) ?_
  have i_12_37 : 0 ≤ (iv 12 37).toInt ∧ (iv 12 37).toInt ≤ 200 := hI.1 12 37
  have i_12_38 : 0 ≤ (iv 12 38).toInt ∧ (iv 12 38).toInt ≤ 200 := hI.1 12 38
  refine vp_callSi (W.runV (As := [.int 5, .int 119, .int 97, .int 116, .int 101, .int 114, .int 0]) (rest := []) ⟨hx, hb, hml, hown, ht⟩ (c_X12_isWord_g l dC dI h g ca iv lv fa la hI 5 119 97 116 101 114 0 ⟨by decide, by decide⟩ ⟨by decide, by decide⟩ ⟨by decide, by decide⟩ ⟨by decide, by decide⟩ ⟨by decide, by decide⟩ ⟨by decide, by decide⟩ ⟨by decide, by decide⟩ (show ((iv 12 37) : Int32).toInt + ((iv 12 38) : Int32).toInt ≤ 200 from by omega)) (kV 7 ht m_1468 m_1470 m_49 m_89 m_1471 rfl rfl hd_X12_isWord_v ⟨Nat.le_of_ble_eq_true rfl, Nat.le_of_ble_eq_true rfl⟩) (vR hP hK (rM_12 hK hP)) rfl rfl hl.1 rfl (lv_room (Nat.le_of_ble_eq_true rfl)) dX12_letOf_13 ⟨Nat.le_of_ble_eq_true rfl, Nat.le_of_ble_eq_true rfl⟩) (fun r1 hr1 => ?_)
  obtain ⟨hr1, xr1_0, xr1_1⟩ := hr1
  have : (5 : Int32).toInt = 5 := (by decide)
  have xr1_0 : (((r1 : Int32).toInt = 1 ∧ WdG (fun j => sg ((fa 12 32) j).toInt) ((iv 12 37) : Int32).toInt (((iv 12 37) : Int32).toInt + ((iv 12 38) : Int32).toInt) (5 : Int32).toInt (lt6 (119 : Int32) (97 : Int32) (116 : Int32) (101 : Int32) (114 : Int32) (0 : Int32))) ∨ ((r1 : Int32).toInt = 0 ∧ ¬ WdG (fun j => sg ((fa 12 32) j).toInt) ((iv 12 37) : Int32).toInt (((iv 12 37) : Int32).toInt + ((iv 12 38) : Int32).toInt) (5 : Int32).toInt (lt6 (119 : Int32) (97 : Int32) (116 : Int32) (101 : Int32) (114 : Int32) (0 : Int32)))) := xr1_0
  have xr1_1 : ((r1 : Int32).toInt = 0 ∨ ((iv 12 38) : Int32).toInt = (5 : Int32).toInt) := xr1_1
  refine lv_if_eq (tgt := 21) hx hb dX12_letOf_16 (by decide) (fun c2 => ?_) (fun c2 => ?_)
  · have fc2 := z_eq (rfl : (r1).toInt = _) (by decide : (0 : Int32).toInt = 0) c2
    refine lv_aload_n hx hb dX12_letOf_21 rfl (lv_at hl 0 rfl) ?_
    refine lv_bipush (v := 6) hx hb dX12_letOf_22 (by decide) ?_
    refine lv_bipush (v := 115) hx hb dX12_letOf_24 (by decide) ?_
    refine lv_bipush (v := 107) hx hb dX12_letOf_26 (by decide) ?_
    refine lv_bipush (v := 101) hx hb dX12_letOf_28 (by decide) ?_
    refine lv_bipush (v := 105) hx hb dX12_letOf_30 (by decide) ?_
    refine lv_bipush (v := 110) hx hb dX12_letOf_32 (by decide) ?_
    refine lv_bipush (v := 115) hx hb dX12_letOf_34 (by decide) ?_
    refine vp_callSi (W.runV (As := [.int 6, .int 115, .int 107, .int 101, .int 105, .int 110, .int 115]) (rest := []) ⟨hx, hb, hml, hown, ht⟩ (c_X12_isWord_g l dC dI h g ca iv lv fa la hI 6 115 107 101 105 110 115 ⟨by decide, by decide⟩ ⟨by decide, by decide⟩ ⟨by decide, by decide⟩ ⟨by decide, by decide⟩ ⟨by decide, by decide⟩ ⟨by decide, by decide⟩ ⟨by decide, by decide⟩ (show ((iv 12 37) : Int32).toInt + ((iv 12 38) : Int32).toInt ≤ 200 from by omega)) (kV 7 ht m_1468 m_1470 m_49 m_89 m_1471 rfl rfl hd_X12_isWord_v ⟨Nat.le_of_ble_eq_true rfl, Nat.le_of_ble_eq_true rfl⟩) (vR hP hK (rM_12 hK hP)) rfl rfl hl.1 rfl (lv_room (Nat.le_of_ble_eq_true rfl)) dX12_letOf_36 ⟨Nat.le_of_ble_eq_true rfl, Nat.le_of_ble_eq_true rfl⟩) (fun r3 hr3 => ?_)
    obtain ⟨hr3, xr3_0, xr3_1⟩ := hr3
    have : (6 : Int32).toInt = 6 := (by decide)
    have xr3_0 : (((r3 : Int32).toInt = 1 ∧ WdG (fun j => sg ((fa 12 32) j).toInt) ((iv 12 37) : Int32).toInt (((iv 12 37) : Int32).toInt + ((iv 12 38) : Int32).toInt) (6 : Int32).toInt (lt6 (115 : Int32) (107 : Int32) (101 : Int32) (105 : Int32) (110 : Int32) (115 : Int32))) ∨ ((r3 : Int32).toInt = 0 ∧ ¬ WdG (fun j => sg ((fa 12 32) j).toInt) ((iv 12 37) : Int32).toInt (((iv 12 37) : Int32).toInt + ((iv 12 38) : Int32).toInt) (6 : Int32).toInt (lt6 (115 : Int32) (107 : Int32) (101 : Int32) (105 : Int32) (110 : Int32) (115 : Int32)))) := xr3_0
    have xr3_1 : ((r3 : Int32).toInt = 0 ∨ ((iv 12 38) : Int32).toInt = (6 : Int32).toInt) := xr3_1
    refine lv_if_eq (tgt := 44) hx hb dX12_letOf_39 (by decide) (fun c4 => ?_) (fun c4 => ?_)
    · have fc4 := z_eq (rfl : (r3).toInt = _) (by decide : (0 : Int32).toInt = 0) c4
      refine lv_aload_n hx hb dX12_letOf_44 rfl (lv_at hl 0 rfl) ?_
      refine lv_iconst (v := 4) hx hb dX12_letOf_45 (by decide) ?_
      refine lv_bipush (v := 112) hx hb dX12_letOf_46 (by decide) ?_
      refine lv_bipush (v := 97) hx hb dX12_letOf_48 (by decide) ?_
      refine lv_bipush (v := 114) hx hb dX12_letOf_50 (by decide) ?_
      refine lv_bipush (v := 116) hx hb dX12_letOf_52 (by decide) ?_
      refine lv_iconst (v := 0) hx hb dX12_letOf_54 (by decide) ?_
      refine lv_iconst (v := 0) hx hb dX12_letOf_55 (by decide) ?_
      refine vp_callSi (W.runV (As := [.int 4, .int 112, .int 97, .int 114, .int 116, .int 0, .int 0]) (rest := []) ⟨hx, hb, hml, hown, ht⟩ (c_X12_isWord_g l dC dI h g ca iv lv fa la hI 4 112 97 114 116 0 0 ⟨by decide, by decide⟩ ⟨by decide, by decide⟩ ⟨by decide, by decide⟩ ⟨by decide, by decide⟩ ⟨by decide, by decide⟩ ⟨by decide, by decide⟩ ⟨by decide, by decide⟩ (show ((iv 12 37) : Int32).toInt + ((iv 12 38) : Int32).toInt ≤ 200 from by omega)) (kV 7 ht m_1468 m_1470 m_49 m_89 m_1471 rfl rfl hd_X12_isWord_v ⟨Nat.le_of_ble_eq_true rfl, Nat.le_of_ble_eq_true rfl⟩) (vR hP hK (rM_12 hK hP)) rfl rfl hl.1 rfl (lv_room (Nat.le_of_ble_eq_true rfl)) dX12_letOf_56 ⟨Nat.le_of_ble_eq_true rfl, Nat.le_of_ble_eq_true rfl⟩) (fun r5 hr5 => ?_)
      obtain ⟨hr5, xr5_0, xr5_1⟩ := hr5
      have : (4 : Int32).toInt = 4 := (by decide)
      have xr5_0 : (((r5 : Int32).toInt = 1 ∧ WdG (fun j => sg ((fa 12 32) j).toInt) ((iv 12 37) : Int32).toInt (((iv 12 37) : Int32).toInt + ((iv 12 38) : Int32).toInt) (4 : Int32).toInt (lt6 (112 : Int32) (97 : Int32) (114 : Int32) (116 : Int32) (0 : Int32) (0 : Int32))) ∨ ((r5 : Int32).toInt = 0 ∧ ¬ WdG (fun j => sg ((fa 12 32) j).toInt) ((iv 12 37) : Int32).toInt (((iv 12 37) : Int32).toInt + ((iv 12 38) : Int32).toInt) (4 : Int32).toInt (lt6 (112 : Int32) (97 : Int32) (114 : Int32) (116 : Int32) (0 : Int32) (0 : Int32)))) := xr5_0
      have xr5_1 : ((r5 : Int32).toInt = 0 ∨ ((iv 12 38) : Int32).toInt = (4 : Int32).toInt) := xr5_1
      refine lv_if_eq (tgt := 64) hx hb dX12_letOf_59 (by decide) (fun c6 => ?_) (fun c6 => ?_)
      · have fc6 := z_eq (rfl : (r5).toInt = _) (by decide : (0 : Int32).toInt = 0) c6
        refine lv_aload_n hx hb dX12_letOf_64 rfl (lv_at hl 0 rfl) ?_
        refine lv_iconst (v := 5) hx hb dX12_letOf_65 (by decide) ?_
        refine lv_bipush (v := 108) hx hb dX12_letOf_66 (by decide) ?_
        refine lv_bipush (v := 111) hx hb dX12_letOf_68 (by decide) ?_
        refine lv_bipush (v := 111) hx hb dX12_letOf_70 (by decide) ?_
        refine lv_bipush (v := 107) hx hb dX12_letOf_72 (by decide) ?_
        refine lv_bipush (v := 115) hx hb dX12_letOf_74 (by decide) ?_
        refine lv_iconst (v := 0) hx hb dX12_letOf_76 (by decide) ?_
        refine vp_callSi (W.runV (As := [.int 5, .int 108, .int 111, .int 111, .int 107, .int 115, .int 0]) (rest := []) ⟨hx, hb, hml, hown, ht⟩ (c_X12_isWord_g l dC dI h g ca iv lv fa la hI 5 108 111 111 107 115 0 ⟨by decide, by decide⟩ ⟨by decide, by decide⟩ ⟨by decide, by decide⟩ ⟨by decide, by decide⟩ ⟨by decide, by decide⟩ ⟨by decide, by decide⟩ ⟨by decide, by decide⟩ (show ((iv 12 37) : Int32).toInt + ((iv 12 38) : Int32).toInt ≤ 200 from by omega)) (kV 7 ht m_1468 m_1470 m_49 m_89 m_1471 rfl rfl hd_X12_isWord_v ⟨Nat.le_of_ble_eq_true rfl, Nat.le_of_ble_eq_true rfl⟩) (vR hP hK (rM_12 hK hP)) rfl rfl hl.1 rfl (lv_room (Nat.le_of_ble_eq_true rfl)) dX12_letOf_77 ⟨Nat.le_of_ble_eq_true rfl, Nat.le_of_ble_eq_true rfl⟩) (fun r7 hr7 => ?_)
        obtain ⟨hr7, xr7_0, xr7_1⟩ := hr7
        have xr7_0 : (((r7 : Int32).toInt = 1 ∧ WdG (fun j => sg ((fa 12 32) j).toInt) ((iv 12 37) : Int32).toInt (((iv 12 37) : Int32).toInt + ((iv 12 38) : Int32).toInt) (5 : Int32).toInt (lt6 (108 : Int32) (111 : Int32) (111 : Int32) (107 : Int32) (115 : Int32) (0 : Int32))) ∨ ((r7 : Int32).toInt = 0 ∧ ¬ WdG (fun j => sg ((fa 12 32) j).toInt) ((iv 12 37) : Int32).toInt (((iv 12 37) : Int32).toInt + ((iv 12 38) : Int32).toInt) (5 : Int32).toInt (lt6 (108 : Int32) (111 : Int32) (111 : Int32) (107 : Int32) (115 : Int32) (0 : Int32)))) := xr7_0
        have xr7_1 : ((r7 : Int32).toInt = 0 ∨ ((iv 12 38) : Int32).toInt = (5 : Int32).toInt) := xr7_1
        refine lv_if_eq (tgt := 85) hx hb dX12_letOf_80 (by decide) (fun c8 => ?_) (fun c8 => ?_)
        · have fc8 := z_eq (rfl : (r7).toInt = _) (by decide : (0 : Int32).toInt = 0) c8
          refine lv_aload_n hx hb dX12_letOf_85 rfl (lv_at hl 0 rfl) ?_
          refine lv_iconst (v := 3) hx hb dX12_letOf_86 (by decide) ?_
          refine lv_bipush (v := 102) hx hb dX12_letOf_87 (by decide) ?_
          refine lv_bipush (v := 101) hx hb dX12_letOf_89 (by decide) ?_
          refine lv_bipush (v := 101) hx hb dX12_letOf_91 (by decide) ?_
          refine lv_iconst (v := 0) hx hb dX12_letOf_93 (by decide) ?_
          refine lv_iconst (v := 0) hx hb dX12_letOf_94 (by decide) ?_
          refine lv_iconst (v := 0) hx hb dX12_letOf_95 (by decide) ?_
          refine vp_callSi (W.runV (As := [.int 3, .int 102, .int 101, .int 101, .int 0, .int 0, .int 0]) (rest := []) ⟨hx, hb, hml, hown, ht⟩ (c_X12_isWord_g l dC dI h g ca iv lv fa la hI 3 102 101 101 0 0 0 ⟨by decide, by decide⟩ ⟨by decide, by decide⟩ ⟨by decide, by decide⟩ ⟨by decide, by decide⟩ ⟨by decide, by decide⟩ ⟨by decide, by decide⟩ ⟨by decide, by decide⟩ (show ((iv 12 37) : Int32).toInt + ((iv 12 38) : Int32).toInt ≤ 200 from by omega)) (kV 7 ht m_1468 m_1470 m_49 m_89 m_1471 rfl rfl hd_X12_isWord_v ⟨Nat.le_of_ble_eq_true rfl, Nat.le_of_ble_eq_true rfl⟩) (vR hP hK (rM_12 hK hP)) rfl rfl hl.1 rfl (lv_room (Nat.le_of_ble_eq_true rfl)) dX12_letOf_96 ⟨Nat.le_of_ble_eq_true rfl, Nat.le_of_ble_eq_true rfl⟩) (fun r9 hr9 => ?_)
          obtain ⟨hr9, xr9_0, xr9_1⟩ := hr9
          have : (3 : Int32).toInt = 3 := (by decide)
          have xr9_0 : (((r9 : Int32).toInt = 1 ∧ WdG (fun j => sg ((fa 12 32) j).toInt) ((iv 12 37) : Int32).toInt (((iv 12 37) : Int32).toInt + ((iv 12 38) : Int32).toInt) (3 : Int32).toInt (lt6 (102 : Int32) (101 : Int32) (101 : Int32) (0 : Int32) (0 : Int32) (0 : Int32))) ∨ ((r9 : Int32).toInt = 0 ∧ ¬ WdG (fun j => sg ((fa 12 32) j).toInt) ((iv 12 37) : Int32).toInt (((iv 12 37) : Int32).toInt + ((iv 12 38) : Int32).toInt) (3 : Int32).toInt (lt6 (102 : Int32) (101 : Int32) (101 : Int32) (0 : Int32) (0 : Int32) (0 : Int32)))) := xr9_0
          have xr9_1 : ((r9 : Int32).toInt = 0 ∨ ((iv 12 38) : Int32).toInt = (3 : Int32).toInt) := xr9_1
          refine lv_if_eq (tgt := 106) hx hb dX12_letOf_99 (by decide) (fun c10 => ?_) (fun c10 => ?_)
          · have fc10 := z_eq (rfl : (r9).toInt = _) (by decide : (0 : Int32).toInt = 0) c10
            refine lv_iconst (v := (-1)) hx hb dX12_letOf_106 (by decide) ?_
            have : ((-1) : Int32).toInt = (-1) := (by decide)
            exact W.iret (v := (-1)) hx hb hr (fun t ht9 hW => ⟨(-1), rfl, ⟨⟨by decide, by decide⟩, (show ((-1) : Int32).toInt = kwN (fun j => sg ((fa 12 32) j).toInt) ((iv 12 37) : Int32).toInt (((iv 12 37) : Int32).toInt + ((iv 12 38) : Int32).toInt) from (by have g0 := ((cw_water xr1_0).resolve_left (fun q => by omega)).2; have g1 := ((cw_skeins xr3_0).resolve_left (fun q => by omega)).2; have g2 := ((cw_part xr5_0).resolve_left (fun q => by omega)).2; have g3 := ((cw_looks xr7_0).resolve_left (fun q => by omega)).2; have g4 := ((cw_fee xr9_0).resolve_left (fun q => by omega)).2; unfold kwN; rw [if_neg g0, if_neg g1, if_neg g2, if_neg g3, if_neg g4]; decide))⟩, ht9⟩) (fun q hq => by cases hq) dX12_letOf_107
          · have fc10 := z_ne (rfl : (r9).toInt = _) (by decide : (0 : Int32).toInt = 0) c10
            refine lv_iconst (v := 4) hx hb dX12_letOf_102 (by decide) ?_
            refine lv_goto (tgt := 107) hx hb dX12_letOf_103 (by decide) ?_
            exact W.iret (v := 4) hx hb hr (fun t ht9 hW => ⟨4, rfl, ⟨⟨by decide, by decide⟩, (show (4 : Int32).toInt = kwN (fun j => sg ((fa 12 32) j).toInt) ((iv 12 37) : Int32).toInt (((iv 12 37) : Int32).toInt + ((iv 12 38) : Int32).toInt) from (by have g0 := ((cw_water xr1_0).resolve_left (fun q => by omega)).2; have g1 := ((cw_skeins xr3_0).resolve_left (fun q => by omega)).2; have g2 := ((cw_part xr5_0).resolve_left (fun q => by omega)).2; have g3 := ((cw_looks xr7_0).resolve_left (fun q => by omega)).2; have g4 := ((cw_fee xr9_0).resolve_right (fun q => by omega)).2; unfold kwN; rw [if_neg g0, if_neg g1, if_neg g2, if_neg g3, if_pos g4]; omega))⟩, ht9⟩) (fun q hq => by cases hq) dX12_letOf_107
        · have fc8 := z_ne (rfl : (r7).toInt = _) (by decide : (0 : Int32).toInt = 0) c8
          refine lv_iconst (v := 3) hx hb dX12_letOf_83 (by decide) ?_
          have : (3 : Int32).toInt = 3 := (by decide)
          exact W.iret (v := 3) hx hb hr (fun t ht9 hW => ⟨3, rfl, ⟨⟨by decide, by decide⟩, (show (3 : Int32).toInt = kwN (fun j => sg ((fa 12 32) j).toInt) ((iv 12 37) : Int32).toInt (((iv 12 37) : Int32).toInt + ((iv 12 38) : Int32).toInt) from (by have g0 := ((cw_water xr1_0).resolve_left (fun q => by omega)).2; have g1 := ((cw_skeins xr3_0).resolve_left (fun q => by omega)).2; have g2 := ((cw_part xr5_0).resolve_left (fun q => by omega)).2; have g3 := ((cw_looks xr7_0).resolve_right (fun q => by omega)).2; unfold kwN; rw [if_neg g0, if_neg g1, if_neg g2, if_pos g3]; omega))⟩, ht9⟩) (fun q hq => by cases hq) dX12_letOf_84
      · have fc6 := z_ne (rfl : (r5).toInt = _) (by decide : (0 : Int32).toInt = 0) c6
        refine lv_iconst (v := 2) hx hb dX12_letOf_62 (by decide) ?_
        have : (2 : Int32).toInt = 2 := (by decide)
        exact W.iret (v := 2) hx hb hr (fun t ht9 hW => ⟨2, rfl, ⟨⟨by decide, by decide⟩, (show (2 : Int32).toInt = kwN (fun j => sg ((fa 12 32) j).toInt) ((iv 12 37) : Int32).toInt (((iv 12 37) : Int32).toInt + ((iv 12 38) : Int32).toInt) from (by have g0 := ((cw_water xr1_0).resolve_left (fun q => by omega)).2; have g1 := ((cw_skeins xr3_0).resolve_left (fun q => by omega)).2; have g2 := ((cw_part xr5_0).resolve_right (fun q => by omega)).2; unfold kwN; rw [if_neg g0, if_neg g1, if_pos g2]; omega))⟩, ht9⟩) (fun q hq => by cases hq) dX12_letOf_63
    · have fc4 := z_ne (rfl : (r3).toInt = _) (by decide : (0 : Int32).toInt = 0) c4
      refine lv_iconst (v := 1) hx hb dX12_letOf_42 (by decide) ?_
      have : (1 : Int32).toInt = 1 := (by decide)
      exact W.iret (v := 1) hx hb hr (fun t ht9 hW => ⟨1, rfl, ⟨⟨by decide, by decide⟩, (show (1 : Int32).toInt = kwN (fun j => sg ((fa 12 32) j).toInt) ((iv 12 37) : Int32).toInt (((iv 12 37) : Int32).toInt + ((iv 12 38) : Int32).toInt) from (by have g0 := ((cw_water xr1_0).resolve_left (fun q => by omega)).2; have g1 := ((cw_skeins xr3_0).resolve_right (fun q => by omega)).2; unfold kwN; rw [if_neg g0, if_pos g1]; omega))⟩, ht9⟩) (fun q hq => by cases hq) dX12_letOf_43
  · have fc2 := z_ne (rfl : (r1).toInt = _) (by decide : (0 : Int32).toInt = 0) c2
    refine lv_iconst (v := 0) hx hb dX12_letOf_19 (by decide) ?_
    have : (0 : Int32).toInt = 0 := (by decide)
    exact W.iret (v := 0) hx hb hr (fun t ht9 hW => ⟨0, rfl, ⟨⟨by decide, by decide⟩, (show (0 : Int32).toInt = kwN (fun j => sg ((fa 12 32) j).toInt) ((iv 12 37) : Int32).toInt (((iv 12 37) : Int32).toInt + ((iv 12 38) : Int32).toInt) from (by have g0 := ((cw_water xr1_0).resolve_right (fun q => by omega)).2; unfold kwN; rw [if_pos g0]; omega))⟩, ht9⟩) (fun q hq => by cases hq) dX12_letOf_20
set_option maxHeartbeats 4000000 in
set_option maxRecDepth 100000 in
/-- X12_want -/
theorem c_X12_want_r0 (l : Launch) (dC : Nat → ClassId) (dI : Nat → Nat → Nat) (sz : Nat) (h : Nat) (g : Nat → Nat → Nat) (ca : Nat → Nat → ClassId) (iv : Nat → Nat → Int32) (lv : Nat → Nat → Int64) (fa : Nat → Nat → Nat → Int32) (la : Nat → Nat → Nat → Int64) (hI : IX iv fa) (b : Int32) (d : Int32) (h_b : 1 ≤ b.toInt ∧ b.toInt ≤ 5) : Met l yX12_want (wc yX12_want cX12_want 4 (some .boolean)) ({ frames := 0, cells := 0, slots := 0, locals := 0 } : Room) (pW (dC, dI) classes (WM h g ca iv lv fa la) (TM ca) sz [.ref h, .int 0, .int b, .int d]) (va_Qi (fun r (u : SS) => ∃ (ni_12_35 : Int32) (ni_12_36 : Int32), inb (bI 12 35) ni_12_35 ∧ (1 ≤ (ni_12_35).toInt) ∧ ((((iv 12 35).toInt = 0 ∧ (ni_12_35).toInt = b.toInt ∧ (ni_12_36).toInt = d.toInt) ∨ ((iv 12 35).toInt ≠ 0 ∧ (ni_12_35).toInt = (iv 12 35).toInt ∧ (ni_12_36).toInt = (iv 12 36).toInt))) ∧ (r = 0) ∧ u = ((u2 (u2 iv 12 35 ni_12_35) 12 36 ni_12_36), lv, fa, la)) (bM (dC, dI) h g ca (va_A (WM h g ca iv lv fa la) sz)) (va_A (WM h g ca iv lv fa la) sz)) 0 0 (va_A (WM h g ca iv lv fa la) sz) := by
  refine Met.ofW (cc := cX12_want) (maxL := 4) (ret := (some .boolean)) (by decide) rfl ?_
  intro p e s m args below meth c s₁ B hml hv
  obtain ⟨rfl, hsz, hP, hK, hD0⟩ := hv
  have hx := B.exec
  have hb := B.bytes
  have hr := B.returns
  have ht := tb_tl (atoms_spec (ws := wc yX12_want cX12_want 4 (some .boolean)) B.pre)
  have hown : s.vm.findClass RX12 = some m.cls := findClass_of_methodNamed B.named
  have hlocks := B.notSynchronized
  subst hsz
  have hD := hD0.self (sz := s.heap.size)
  generalize hAe : va_A (WM h g ca iv lv fa la) s.heap.size = A at hD ⊢
  have hA : ∀ q : Nat, s.heap.size ≤ q → A q := fun q h => by rw [← hAe]; exact Or.inr h
  have hS : va_S A s.heap s.heap [] := va_S.rf
  have hl := lv_entry [.ref h, .int 0, .int b, .int d] (n := 4) (Nat.le_of_ble_eq_true rfl)
  rw [lg_entry_eq]
  generalize (lg_sl [.ref h, .int 0, .int b, .int d] ++ List.replicate (4 - (lg_sl [.ref h, .int 0, .int b, .int d]).length) Slot.unset).toArray = ls at hl ⊢
  have hl : lv_has ls 4 [(0, .ref h), (1, .int 0), (2, .int b), (3, .int d)] := hl
  refine lv_iload_n hx hb dX12_want_0 rfl (lv_at hl 1 rfl) ?_
  refine lv_if_ne (tgt := 21) hx hb dX12_want_1 (by decide) (fun c1 => ?_) (fun c1 => ?_)
  · exact absurd rfl c1
  · skip
    refine lv_aload_n hx hb dX12_want_4 rfl (lv_at hl 0 rfl) ?_
    have i_12_35 : 0 ≤ (iv 12 35).toInt ∧ (iv 12 35).toInt ≤ 5 := hI.1 12 35
    refine gM_12_35 hx hb ht hown hK hP m_1174 (v := (iv 12 35)) rfl dX12_want_5 ?_
    refine lv_if_ne (tgt := 21) hx hb dX12_want_8 (by decide) (fun c2 => ?_) (fun c2 => ?_)
    · have fc2 := z_ne (rfl : ((iv 12 35)).toInt = _) (by decide : (0 : Int32).toInt = 0) c2
      refine lv_aload_n hx hb dX12_want_21 rfl (lv_at hl 0 rfl) ?_
      refine gM_12_35 hx hb ht hown hK hP m_1174 (v := (iv 12 35)) rfl dX12_want_22 ?_
      refine lv_if_ne (tgt := 32) hx hb dX12_want_25 (by decide) (fun c3 => ?_) (fun c3 => ?_)
      · skip
        refine lv_iconst (v := 0) hx hb dX12_want_32 (by decide) ?_
        have hP9 : va_P (dC, dI) classes (WM h g ca (u2 (u2 iv 12 35 (iv 12 35)) 12 36 (iv 12 36)) lv fa la) s.heap := hP
        have hD9 : va_D A (WM h g ca (u2 (u2 iv 12 35 (iv 12 35)) 12 36 (iv 12 36)) lv fa la) := hD
        exact W.zret (v := 0) hx hb hr rfl (fun t ht9 hW => ⟨⟨0, ((u2 (u2 iv 12 35 (iv 12 35)) 12 36 (iv 12 36)), lv, fa, la), rfl, ⟨(iv 12 35), (iv 12 36), (hI.1 12 35), (show 1 ≤ ((iv 12 35) : Int32).toInt from by omega), (show (((iv 12 35).toInt = 0 ∧ ((iv 12 35) : Int32).toInt = (b).toInt ∧ ((iv 12 36) : Int32).toInt = (d).toInt) ∨ ((iv 12 35).toInt ≠ 0 ∧ ((iv 12 35) : Int32).toInt = (iv 12 35).toInt ∧ ((iv 12 36) : Int32).toInt = (iv 12 36).toInt)) from by omega), rfl, rfl⟩, by rw [ht9]; exact hP9, hD9⟩, hS.F ht9⟩) hS.2.2 dX12_want_33
      · have fc3 := z_eq (rfl : ((iv 12 35)).toInt = _) (by decide : (0 : Int32).toInt = 0) c3; exfalso; omega
    · have fc2 := z_eq (rfl : ((iv 12 35)).toInt = _) (by decide : (0 : Int32).toInt = 0) c2
      refine lv_aload_n hx hb dX12_want_11 rfl (lv_at hl 0 rfl) ?_
      refine lv_iload_n hx hb dX12_want_12 rfl (lv_at hl 2 rfl) ?_
      refine pM_12_35 (v := b) hx hb ht hown hK hP hD hS m_1174 dX12_want_13 (fun H locs hP hD hS => ?_)
      refine lv_aload_n hx hb dX12_want_16 rfl (lv_at hl 0 rfl) ?_
      refine lv_iload_n hx hb dX12_want_17 rfl (lv_at hl 3 rfl) ?_
      refine pM_12_36 (v := d) hx hb ht hown hK hP hD hS m_1175 dX12_want_18 (fun H locs hP hD hS => ?_)
      refine lv_aload_n hx hb dX12_want_21 rfl (lv_at hl 0 rfl) ?_
      refine gM_12_35 hx hb ht hown hK hP m_1174 (v := b) rfl dX12_want_22 ?_
      refine lv_if_ne (tgt := 32) hx hb dX12_want_25 (by decide) (fun c4 => ?_) (fun c4 => ?_)
      · skip
        refine lv_iconst (v := 0) hx hb dX12_want_32 (by decide) ?_
        have hP9 : va_P (dC, dI) classes (WM h g ca (u2 (u2 iv 12 35 b) 12 36 d) lv fa la) H := hP
        have hD9 : va_D A (WM h g ca (u2 (u2 iv 12 35 b) 12 36 d) lv fa la) := hD
        exact W.zret (v := 0) hx hb hr rfl (fun t ht9 hW => ⟨⟨0, ((u2 (u2 iv 12 35 b) 12 36 d), lv, fa, la), rfl, ⟨b, d, (show inb (0, 5) b from ⟨by omega, by omega⟩), (show 1 ≤ (b : Int32).toInt from by omega), (show (((iv 12 35).toInt = 0 ∧ (b : Int32).toInt = (b).toInt ∧ (d : Int32).toInt = (d).toInt) ∨ ((iv 12 35).toInt ≠ 0 ∧ (b : Int32).toInt = (iv 12 35).toInt ∧ (d : Int32).toInt = (iv 12 36).toInt)) from by omega), rfl, rfl⟩, by rw [ht9]; exact hP9, hD9⟩, hS.F ht9⟩) hS.2.2 dX12_want_33
      · have fc4 := z_eq (rfl : (b).toInt = _) (by decide : (0 : Int32).toInt = 0) c4; exfalso; omega
set_option maxHeartbeats 4000000 in
set_option maxRecDepth 100000 in
/-- X12_takeNumber -/
theorem c_X12_takeNumber_r (l : Launch) (dC : Nat → ClassId) (dI : Nat → Nat → Nat) (sz : Nat) (h : Nat) (g : Nat → Nat → Nat) (ca : Nat → Nat → ClassId) (iv : Nat → Nat → Int32) (lv : Nat → Nat → Int64) (fa : Nat → Nat → Nat → Int32) (la : Nat → Nat → Nat → Int64) (hI : IX iv fa) (a : Int32) (b : Int32) (q_12_35 : 0 ≤ (iv 12 35).toInt ∧ (iv 12 35).toInt ≤ 0) (hJT : ∀ j : Nat, 0 ≤ (fa 12 32 j).toInt) : Met l yX12_takeNumber (wc yX12_takeNumber cX12_takeNumber 6 (some .int)) ({ frames := 1, cells := 0, slots := 0, locals := 25 } : Room) (pW (dC, dI) classes (WM h g ca iv lv fa la) (TM ca) sz [.ref h, .int a, .int b]) (va_Qi (fun r (u : SS) => ∃ (ni_12_34 : Int32) (ni_12_35 : Int32) (ni_12_36 : Int32) (ni_12_37 : Int32), inb (bI 12 34) ni_12_34 ∧ inb (bI 12 35) ni_12_35 ∧ inb (bI 12 37) ni_12_37 ∧ ((iv 12 34).toInt ≤ (ni_12_34).toInt) ∧ (((ni_12_35).toInt ≠ 0 ∨ (a.toInt ≤ r.toInt ∧ r.toInt ≤ b.toInt))) ∧ ((((ni_12_35).toInt ≠ 0 ∧ Num (fun j => sg ((fa 12 32) j).toInt) (iv 12 33).toInt a.toInt b.toInt (iv 12 34).toInt (ni_12_35).toInt (ni_12_36).toInt 0 0) ∨ ((ni_12_35).toInt = 0 ∧ (ni_12_36).toInt = (iv 12 36).toInt ∧ Num (fun j => sg ((fa 12 32) j).toInt) (iv 12 33).toInt a.toInt b.toInt (iv 12 34).toInt 0 0 r.toInt (ni_12_34).toInt))) ∧ (Sk (fun j => sg ((fa 12 32) j).toInt) (iv 12 33).toInt (iv 12 34).toInt (ni_12_37).toInt) ∧ (0 ≤ r.toInt ∧ r.toInt ≤ 99999) ∧ u = ((u2 (u2 (u2 (u2 iv 12 34 ni_12_34) 12 35 ni_12_35) 12 36 ni_12_36) 12 37 ni_12_37), lv, fa, la)) (bM (dC, dI) h g ca (va_A (WM h g ca iv lv fa la) sz)) (va_A (WM h g ca iv lv fa la) sz)) 0 0 (va_A (WM h g ca iv lv fa la) sz) := by
  refine Met.ofW (cc := cX12_takeNumber) (maxL := 6) (ret := (some .int)) (by decide) rfl ?_
  intro p e s m args below meth c s₁ B hml hv
  obtain ⟨rfl, hsz, hP, hK, hD0⟩ := hv
  have hx := B.exec
  have hb := B.bytes
  have hr := B.returns
  have ht := tb_tl (atoms_spec (ws := wc yX12_takeNumber cX12_takeNumber 6 (some .int)) B.pre)
  have hown : s.vm.findClass RX12 = some m.cls := findClass_of_methodNamed B.named
  have hlocks := B.notSynchronized
  subst hsz
  have hD := hD0.self (sz := s.heap.size)
  generalize hAe : va_A (WM h g ca iv lv fa la) s.heap.size = A at hD ⊢
  have hA : ∀ q : Nat, s.heap.size ≤ q → A q := fun q h => by rw [← hAe]; exact Or.inr h
  have hS : va_S A s.heap s.heap [] := va_S.rf
  have hl := lv_entry [.ref h, .int a, .int b] (n := 6) (Nat.le_of_ble_eq_true rfl)
  rw [lg_entry_eq]
  generalize (lg_sl [.ref h, .int a, .int b] ++ List.replicate (6 - (lg_sl [.ref h, .int a, .int b]).length) Slot.unset).toArray = ls at hl ⊢
  have hl : lv_has ls 6 [(0, .ref h), (1, .int a), (2, .int b)] := hl
  refine lv_aload_n hx hb dX12_takeNumber_0 rfl (lv_at hl 0 rfl) ?_
  have i_12_34 : 0 ≤ (iv 12 34).toInt ∧ (iv 12 34).toInt ≤ 200 := hI.1 12 34
  have hFc := free_all hD hS hA
  refine va_calli (va_runV (As := []) (rest := []) ⟨hx, hb, hml, hown, ht⟩ (c_X12_here_r l dC dI s.heap.size h g ca iv lv fa la hI) (kV 0 ht m_1458 m_1460 m_47 m_89 m_1461 rfl rfl hd_X12_here_v ⟨Nat.le_of_ble_eq_true rfl, Nat.le_of_ble_eq_true rfl⟩) (vW hP hK hD (rM_12 hK hP)) rfl rfl hl.1 rfl (lv_room (Nat.le_of_ble_eq_true rfl)) dX12_takeNumber_1 ⟨Nat.le_of_ble_eq_true rfl, Nat.le_of_ble_eq_true rfl⟩) hS (fun q _ h => hFc q h) hFc (fun r1 u t H1 locs ht9 hvm hr1 hB hz1 hk1 hS => ?_)
  obtain ⟨n2, hn2, xr1_0, xr1_1, xr1_2, hr1, rfl⟩ := hr1
  have hn2 : 0 ≤ n2.toInt ∧ n2.toInt ≤ 200 := hn2
  obtain ⟨hP, hD⟩ := hB
  rw [ht9] at hP
  generalize H1 = H at hP hS ⊢
  have hP : va_P (dC, dI) classes (WM h g ca (u2 iv 12 34 n2) lv fa la) H := hP
  have hD : va_D A (WM h g ca (u2 iv 12 34 n2) lv fa la) := (show va_D _ (WM h g ca (u2 iv 12 34 n2) lv fa la) from hD).weaken (fun _ _ _ h => hFc _ h)
  have xr1_0 : ((iv 12 34) : Int32).toInt ≤ (n2 : Int32).toInt := xr1_0
  have i_12_33 : 0 ≤ (iv 12 33).toInt ∧ (iv 12 33).toInt ≤ 200 := hI.1 12 33
  have xr1_1 : Sk (fun j => sg ((fa 12 32) j).toInt) ((iv 12 33) : Int32).toInt ((iv 12 34) : Int32).toInt (n2 : Int32).toInt := xr1_1
  have xr1_2 : (((r1 : Int32).toInt = -1 ∧ ((iv 12 33) : Int32).toInt ≤ (n2 : Int32).toInt) ∨ ((n2 : Int32).toInt < ((iv 12 33) : Int32).toInt ∧ (r1 : Int32).toInt = ((fa 12 32) ((n2 : Int32).toInt).toNat).toInt)) := xr1_2
  refine lv_istore_n (lv' := [(3, .int r1), (0, .ref h), (1, .int a), (2, .int b)]) hx hb dX12_takeNumber_4 rfl hl (by decide) rfl (fun ls hl => ?_)
  refine lv_aload_n hx hb dX12_takeNumber_5 rfl (lv_at hl 1 rfl) ?_
  refine lv_aload_n hx hb dX12_takeNumber_6 rfl (lv_at hl 1 rfl) ?_
  refine gM_12_34 hx hb ht hown hK hP m_1173 (v := n2) rfl dX12_takeNumber_7 ?_
  refine pM_12_37 (v := n2) hx hb ht hown hK hP hD hS m_1176 dX12_takeNumber_10 (fun H locs hP hD hS => ?_)
  refine lv_aload_n hx hb dX12_takeNumber_13 rfl (lv_at hl 1 rfl) ?_
  refine lv_iload_n hx hb dX12_takeNumber_14 rfl (lv_at hl 0 rfl) ?_
  refine lv_i2l (v := (r1.toInt64)) hx hb dX12_takeNumber_15 rfl ?_
  refine lv_ldc2 hx hb hown (ht _ m_1494) dX12_takeNumber_16 ?_
  refine lv_ldc2 hx hb hown (ht _ m_1495) dX12_takeNumber_19 ?_
  refine vp_callSi (W.runS (As := [.long (r1.toInt64), .long 48, .long 57]) (rest := [.ref h]) ⟨hx, hb, hml, hown, ht⟩ (c_X12_in l dC dI (r1.toInt64) 48 57 (r1.toInt) (48) (57) ((Int32.toInt_toInt64 r1).trans rfl) (by decide : (48 : Int64).toInt = 48) (by decide : (57 : Int64).toInt = 57)) (kS 3 ht m_1370 m_1371 m_89 m_1372 rfl rfl hd_X12_in_v ⟨Nat.le_of_ble_eq_true rfl, Nat.le_of_ble_eq_true rfl⟩) (sR noP (hK.sub (tys' := []) [] rfl)) rfl rfl hl.1 rfl (lv_room (Nat.le_of_ble_eq_true rfl)) dX12_takeNumber_22 ⟨Nat.le_of_ble_eq_true rfl, Nat.le_of_ble_eq_true rfl⟩) (fun r3 hr3 => ?_)
  rcases hr3 with ⟨rfl, fr3⟩ | ⟨rfl, fr3⟩
  · skip
    refine lv_iconst (v := 1) hx hb dX12_takeNumber_25 (by decide) ?_
    refine lv_aload_n hx hb dX12_takeNumber_26 rfl (lv_at hl 1 rfl) ?_
    refine gM_12_34 hx hb ht hown hK hP m_1173 (v := n2) rfl dX12_takeNumber_27 ?_
    refine vp_callSi (W.runV (As := [.int 1, .int 1, .int n2]) (rest := []) ⟨hx, hb, hml, hown, ht⟩ (c_X12_want_1 l dC dI h g ca (u2 (u2 iv 12 34 n2) 12 37 n2) lv fa la (IX_i (c := 12) (k := 37) (IX_i (c := 12) (k := 34) hI (show inb (0, 200) n2 from ⟨by omega, by omega⟩)) (show inb (0, 200) n2 from ⟨by omega, by omega⟩)) 1 n2) (kV 3 ht m_1472 m_1474 m_50 m_89 m_1475 rfl rfl hd_X12_want_v ⟨Nat.le_of_ble_eq_true rfl, Nat.le_of_ble_eq_true rfl⟩) (vR hP hK (rM_12 hK hP)) rfl rfl hl.1 rfl (lv_room (Nat.le_of_ble_eq_true rfl)) dX12_takeNumber_30 ⟨Nat.le_of_ble_eq_true rfl, Nat.le_of_ble_eq_true rfl⟩) (fun r4 hr4 => ?_)
    rcases hr4 with ⟨rfl, fr4⟩ | ⟨rfl, fr4⟩
    have i_12_35 : 0 ≤ (iv 12 35).toInt ∧ (iv 12 35).toInt ≤ 5 := hI.1 12 35
    · skip
      have i_12_35 : 0 ≤ (iv 12 35).toInt ∧ (iv 12 35).toInt ≤ 5 := hI.1 12 35
      have fr4 : (((iv 12 35) : Int32).toInt = 0) := fr4
      refine lv_if_ne (tgt := 38) hx hb dX12_takeNumber_33 (by decide) (fun c5 => ?_) (fun c5 => ?_)
      · skip
        refine lv_iconst (v := 0) hx hb dX12_takeNumber_38 (by decide) ?_
        refine lv_istore (lv' := [(4, .int 0), (3, .int r1), (0, .ref h), (1, .int a), (2, .int b)]) hx hb dX12_takeNumber_39 hl (by decide) rfl (fun ls hl => ?_)
        have lp224 : ∀ (nn224 : Nat) (x223_4 : Int32) (w223_i_12_34 : Int32), 0 ≤ x223_4.toInt ∧ x223_4.toInt ≤ 99999 → 0 ≤ w223_i_12_34.toInt ∧ w223_i_12_34.toInt ≤ 200 → (n2 : Int32).toInt ≤ (w223_i_12_34 : Int32).toInt → (∀ j : Nat, (n2 : Int32).toInt ≤ (j : Int) → (j : Int) < (w223_i_12_34 : Int32).toInt → (j : Int) < ((iv 12 33) : Int32).toInt ∧ 48 ≤ sg ((fa 12 32) j).toInt ∧ sg ((fa 12 32) j).toInt ≤ 57) → (x223_4 : Int32).toInt ≤ 99999 → ((w223_i_12_34 : Int32).toInt - (n2 : Int32).toInt ≤ 4 → (x223_4 : Int32).toInt = dv (fun j => sg ((fa 12 32) j).toInt) ((n2 : Int32).toInt).toNat ((w223_i_12_34 : Int32).toInt - (n2 : Int32).toInt).toNat) → 0 ≤ (x223_4 : Int32).toInt → (iv 12 34).toInt ≤ (n2 : Int32).toInt → 200 - w223_i_12_34.toInt < (nn224 : Int) → ∀ (H : Heap) (locs : List Loc), ∀ (ls : Array Slot), va_P (dC, dI) classes (WM h g ca (u2 (u2 iv 12 34 w223_i_12_34) 12 37 n2) lv fa la) H → va_D A (WM h g ca (u2 (u2 iv 12 34 w223_i_12_34) 12 37 n2) lv fa la) → va_S A s.heap H locs → lv_has ls 6 [(4, .int x223_4), (3, .int r1), (0, .ref h), (1, .int a), (2, .int b)] → W p l e ({ frames := 1, cells := 0, slots := 0, locals := 25 } : Room) s m ([.ref h, .int a, .int b] : List Value).toArray below meth c H locs 0 0 (MQ below (va_Qi (fun r (u : SS) => ∃ (ni_12_34 : Int32) (ni_12_35 : Int32) (ni_12_36 : Int32) (ni_12_37 : Int32), inb (bI 12 34) ni_12_34 ∧ inb (bI 12 35) ni_12_35 ∧ inb (bI 12 37) ni_12_37 ∧ ((iv 12 34).toInt ≤ (ni_12_34).toInt) ∧ (((ni_12_35).toInt ≠ 0 ∨ (a.toInt ≤ r.toInt ∧ r.toInt ≤ b.toInt))) ∧ ((((ni_12_35).toInt ≠ 0 ∧ Num (fun j => sg ((fa 12 32) j).toInt) (iv 12 33).toInt a.toInt b.toInt (iv 12 34).toInt (ni_12_35).toInt (ni_12_36).toInt 0 0) ∨ ((ni_12_35).toInt = 0 ∧ (ni_12_36).toInt = (iv 12 36).toInt ∧ Num (fun j => sg ((fa 12 32) j).toInt) (iv 12 33).toInt a.toInt b.toInt (iv 12 34).toInt 0 0 r.toInt (ni_12_34).toInt))) ∧ (Sk (fun j => sg ((fa 12 32) j).toInt) (iv 12 33).toInt (iv 12 34).toInt (ni_12_37).toInt) ∧ (0 ≤ r.toInt ∧ r.toInt ≤ 99999) ∧ u = ((u2 (u2 (u2 (u2 iv 12 34 ni_12_34) 12 35 ni_12_35) 12 36 ni_12_36) 12 37 ni_12_37), lv, fa, la)) (bM (dC, dI) h g ca A) A) ([.ref h, .int a, .int b] : List Value).toArray s 0 0 A) (F0 m 41 ls []) := by
          intro nn224
          induction nn224 with
          | zero => intro x223_4 w223_i_12_34 hx223_4 hw223_i_12_34 hq224_0 hq224_1 hq224_2 hq224_3 hq224_4 hq224_5 hm224; exfalso; omega
          | succ nn224 ih224 =>
            intro x223_4 w223_i_12_34 hx223_4 hw223_i_12_34 hq224_0 hq224_1 hq224_2 hq224_3 hq224_4 hq224_5 hm224 H locs ls hP hD hS hl
            refine lv_aload_n hx hb dX12_takeNumber_41 rfl (lv_at hl 2 rfl) ?_
            refine gM_12_34 hx hb ht hown hK hP m_1173 (v := w223_i_12_34) rfl dX12_takeNumber_42 ?_
            refine lv_aload_n hx hb dX12_takeNumber_45 rfl (lv_at hl 2 rfl) ?_
            refine gM_12_33 hx hb ht hown hK hP m_1172 (v := (iv 12 33)) rfl dX12_takeNumber_46 ?_
            refine lv_icmp_ge (tgt := 120) hx hb dX12_takeNumber_49 (by decide) (fun c225 => ?_) (fun c225 => ?_)
            · have fc225 := z_le (rfl : ((iv 12 33)).toInt = _) (rfl : (w223_i_12_34).toInt = _) c225
              refine lv_aload_n hx hb dX12_takeNumber_120 rfl (lv_at hl 2 rfl) ?_
              refine lv_aload_n hx hb dX12_takeNumber_121 rfl (lv_at hl 2 rfl) ?_
              refine gM_12_34 hx hb ht hown hK hP m_1173 (v := w223_i_12_34) rfl dX12_takeNumber_122 ?_
              refine lv_aload_n hx hb dX12_takeNumber_125 rfl (lv_at hl 2 rfl) ?_
              refine gM_12_37 hx hb ht hown hK hP m_1176 (v := n2) rfl dX12_takeNumber_126 ?_
              refine lv_isub hx hb dX12_takeNumber_129 ?_
              refine lv_topi (fun v226 ev226 => ?_)
              have tv226 := z_sub ev226 (rfl : (w223_i_12_34).toInt = _) (rfl : (n2).toInt = _) (by omega) (by omega)
              refine lv_iconst (v := 5) hx hb dX12_takeNumber_130 (by decide) ?_
              refine lv_icmp_ge (tgt := 151) hx hb dX12_takeNumber_131 (by decide) (fun c227 => ?_) (fun c227 => ?_)
              · have fc227 := z_le (by decide : (5 : Int32).toInt = 5) (rfl : (v226).toInt = _) c227
                refine lv_iconst (v := 0) hx hb dX12_takeNumber_151 (by decide) ?_
                refine lv_iconst (v := 2) hx hb dX12_takeNumber_152 (by decide) ?_
                refine lv_aload_n hx hb dX12_takeNumber_153 rfl (lv_at hl 2 rfl) ?_
                refine gM_12_37 hx hb ht hown hK hP m_1176 (v := n2) rfl dX12_takeNumber_154 ?_
                have hFc := free_all hD hS hA
                refine va_calli (va_runV (As := [.int 0, .int 2, .int n2]) (rest := []) ⟨hx, hb, hml, hown, ht⟩ (c_X12_want_r0 l dC dI H.size h g ca (u2 (u2 iv 12 34 w223_i_12_34) 12 37 n2) lv fa la (IX_i (c := 12) (k := 37) (IX_i (c := 12) (k := 34) hI (show inb (0, 200) w223_i_12_34 from ⟨by omega, by omega⟩)) (show inb (0, 200) n2 from ⟨by omega, by omega⟩)) 2 n2 ⟨by decide, by decide⟩) (kV 3 ht m_1472 m_1474 m_50 m_89 m_1475 rfl rfl hd_X12_want_v ⟨Nat.le_of_ble_eq_true rfl, Nat.le_of_ble_eq_true rfl⟩) (vW hP hK hD (rM_12 hK hP)) rfl rfl hl.1 rfl (lv_room (Nat.le_of_ble_eq_true rfl)) dX12_takeNumber_157 ⟨Nat.le_of_ble_eq_true rfl, Nat.le_of_ble_eq_true rfl⟩) hS (fun q _ h => hFc q h) hFc (fun r228 u t H1 locs ht9 hvm hr228 hB hz1 hk1 hS => ?_)
                obtain ⟨n229, n230, hn229, xr228_0, xr228_1, hr228, rfl⟩ := hr228
                have hn229 : 0 ≤ n229.toInt ∧ n229.toInt ≤ 5 := hn229
                obtain ⟨hP, hD⟩ := hB
                rw [ht9] at hP
                generalize H1 = H at hP hS ⊢
                have hP : va_P (dC, dI) classes (WM h g ca (u2 (u2 (u2 (u2 iv 12 34 w223_i_12_34) 12 37 n2) 12 35 n229) 12 36 n230) lv fa la) H := hP
                have hD : va_D A (WM h g ca (u2 (u2 (u2 (u2 iv 12 34 w223_i_12_34) 12 37 n2) 12 35 n229) 12 36 n230) lv fa la) := (show va_D _ (WM h g ca (u2 (u2 (u2 (u2 iv 12 34 w223_i_12_34) 12 37 n2) 12 35 n229) 12 36 n230) lv fa la) from hD).weaken (fun _ _ _ h => hFc _ h)
                have xr228_0 : 1 ≤ (n229 : Int32).toInt := xr228_0
                have : (2 : Int32).toInt = 2 := (by decide)
                have xr228_1 : ((((iv 12 35) : Int32).toInt = 0 ∧ (n229 : Int32).toInt = (2 : Int32).toInt ∧ (n230 : Int32).toInt = (n2 : Int32).toInt) ∨ (((iv 12 35) : Int32).toInt ≠ 0 ∧ (n229 : Int32).toInt = ((iv 12 35) : Int32).toInt ∧ (n230 : Int32).toInt = ((iv 12 36) : Int32).toInt)) := xr228_1
                obtain rfl : 0 = r228 := hr228.symm
                refine lv_istore (lv' := [(5, .int 0), (4, .int x223_4), (3, .int r1), (0, .ref h), (1, .int a), (2, .int b)]) hx hb dX12_takeNumber_160 hl (by decide) rfl (fun ls hl => ?_)
                refine lv_iload hx hb dX12_takeNumber_162 (lv_at hl 1 rfl) ?_
                have hP9 : va_P (dC, dI) classes (WM h g ca (u2 (u2 (u2 (u2 iv 12 34 w223_i_12_34) 12 35 n229) 12 36 n230) 12 37 n2) lv fa la) H := hP
                have hD9 : va_D A (WM h g ca (u2 (u2 (u2 (u2 iv 12 34 w223_i_12_34) 12 35 n229) 12 36 n230) 12 37 n2) lv fa la) := hD
                exact W.iret (v := x223_4) hx hb hr (fun t ht9 hW => ⟨⟨x223_4, ((u2 (u2 (u2 (u2 iv 12 34 w223_i_12_34) 12 35 n229) 12 36 n230) 12 37 n2), lv, fa, la), rfl, ⟨w223_i_12_34, n229, n230, n2, (show inb (0, 200) w223_i_12_34 from ⟨by omega, by omega⟩), (show inb (0, 5) n229 from ⟨by omega, by omega⟩), (show inb (0, 200) n2 from ⟨by omega, by omega⟩), (show (iv 12 34).toInt ≤ (w223_i_12_34 : Int32).toInt from by omega), (show ((n229 : Int32).toInt ≠ 0 ∨ ((a).toInt ≤ (x223_4 : Int32).toInt ∧ (x223_4 : Int32).toInt ≤ (b).toInt)) from by omega), (show (((n229 : Int32).toInt ≠ 0 ∧ Num (fun j => sg ((fa 12 32) j).toInt) ((iv 12 33) : Int32).toInt (a).toInt (b).toInt (iv 12 34).toInt (n229 : Int32).toInt (n230 : Int32).toInt 0 0) ∨ ((n229 : Int32).toInt = 0 ∧ (n230 : Int32).toInt = (iv 12 36).toInt ∧ Num (fun j => sg ((fa 12 32) j).toInt) ((iv 12 33) : Int32).toInt (a).toInt (b).toInt (iv 12 34).toInt 0 0 (x223_4 : Int32).toInt (w223_i_12_34 : Int32).toInt)) from (by
                      have hq9 := hq224_3
                      have hlt9 : (n2 : Int32).toInt < (w223_i_12_34 : Int32).toInt := by omega
                      have hr9 : Rn (fun j => sg (fa 12 32 j).toInt) (iv 12 33).toInt 48 57 (n2 : Int32).toInt (w223_i_12_34 : Int32).toInt := ⟨by omega, hq224_1, fun q => by omega⟩
                      exact Or.inl ⟨by omega, _, _, xr1_1, hr9, Or.inr (Or.inl ⟨by omega, (fun q => by omega), by omega, by omega⟩)⟩)), (show Sk (fun j => sg ((fa 12 32) j).toInt) ((iv 12 33) : Int32).toInt (iv 12 34).toInt (n2 : Int32).toInt from xr1_1), ⟨by omega, by omega⟩, rfl⟩, by rw [ht9]; exact hP9, hD9⟩, hS.F ht9⟩) hS.2.2 dX12_takeNumber_164
              · have fc227 := z_nle (by decide : (5 : Int32).toInt = 5) (rfl : (v226).toInt = _) c227
                refine lv_iload hx hb dX12_takeNumber_134 (lv_at hl 0 rfl) ?_
                refine lv_i2l (v := (x223_4.toInt64)) hx hb dX12_takeNumber_136 rfl ?_
                refine lv_iload_n hx hb dX12_takeNumber_137 rfl (lv_at hl 3 rfl) ?_
                refine lv_i2l (v := (a.toInt64)) hx hb dX12_takeNumber_138 rfl ?_
                refine lv_iload_n hx hb dX12_takeNumber_139 rfl (lv_at hl 4 rfl) ?_
                refine lv_i2l (v := (b.toInt64)) hx hb dX12_takeNumber_140 rfl ?_
                refine vp_callSi (W.runS (As := [.long (x223_4.toInt64), .long (a.toInt64), .long (b.toInt64)]) (rest := [.ref h]) ⟨hx, hb, hml, hown, ht⟩ (c_X12_in l dC dI (x223_4.toInt64) (a.toInt64) (b.toInt64) (x223_4.toInt) (a.toInt) (b.toInt) ((Int32.toInt_toInt64 x223_4).trans rfl) ((Int32.toInt_toInt64 a).trans rfl) ((Int32.toInt_toInt64 b).trans rfl)) (kS 3 ht m_1370 m_1371 m_89 m_1372 rfl rfl hd_X12_in_v ⟨Nat.le_of_ble_eq_true rfl, Nat.le_of_ble_eq_true rfl⟩) (sR noP (hK.sub (tys' := []) [] rfl)) rfl rfl hl.1 rfl (lv_room (Nat.le_of_ble_eq_true rfl)) dX12_takeNumber_141 ⟨Nat.le_of_ble_eq_true rfl, Nat.le_of_ble_eq_true rfl⟩) (fun r231 hr231 => ?_)
                rcases hr231 with ⟨rfl, fr231⟩ | ⟨rfl, fr231⟩
                · skip
                  refine lv_if_eq (tgt := 151) hx hb dX12_takeNumber_144 (by decide) (fun c232 => ?_) (fun c232 => ?_)
                  · exact absurd c232 (by decide)
                  · skip
                    refine lv_iconst (v := 1) hx hb dX12_takeNumber_147 (by decide) ?_
                    refine lv_goto (tgt := 152) hx hb dX12_takeNumber_148 (by decide) ?_
                    refine lv_iconst (v := 2) hx hb dX12_takeNumber_152 (by decide) ?_
                    refine lv_aload_n hx hb dX12_takeNumber_153 rfl (lv_at hl 2 rfl) ?_
                    refine gM_12_37 hx hb ht hown hK hP m_1176 (v := n2) rfl dX12_takeNumber_154 ?_
                    refine vp_callSi (W.runV (As := [.int 1, .int 2, .int n2]) (rest := []) ⟨hx, hb, hml, hown, ht⟩ (c_X12_want_1 l dC dI h g ca (u2 (u2 iv 12 34 w223_i_12_34) 12 37 n2) lv fa la (IX_i (c := 12) (k := 37) (IX_i (c := 12) (k := 34) hI (show inb (0, 200) w223_i_12_34 from ⟨by omega, by omega⟩)) (show inb (0, 200) n2 from ⟨by omega, by omega⟩)) 2 n2) (kV 3 ht m_1472 m_1474 m_50 m_89 m_1475 rfl rfl hd_X12_want_v ⟨Nat.le_of_ble_eq_true rfl, Nat.le_of_ble_eq_true rfl⟩) (vR hP hK (rM_12 hK hP)) rfl rfl hl.1 rfl (lv_room (Nat.le_of_ble_eq_true rfl)) dX12_takeNumber_157 ⟨Nat.le_of_ble_eq_true rfl, Nat.le_of_ble_eq_true rfl⟩) (fun r233 hr233 => ?_)
                    rcases hr233 with ⟨rfl, fr233⟩ | ⟨rfl, fr233⟩
                    · skip
                      have fr233 : (((iv 12 35) : Int32).toInt = 0) := fr233
                      refine lv_istore (lv' := [(5, .int 1), (4, .int x223_4), (3, .int r1), (0, .ref h), (1, .int a), (2, .int b)]) hx hb dX12_takeNumber_160 hl (by decide) rfl (fun ls hl => ?_)
                      refine lv_iload hx hb dX12_takeNumber_162 (lv_at hl 1 rfl) ?_
                      have hP9 : va_P (dC, dI) classes (WM h g ca (u2 (u2 (u2 (u2 iv 12 34 w223_i_12_34) 12 35 (iv 12 35)) 12 36 (iv 12 36)) 12 37 n2) lv fa la) H := hP
                      have hD9 : va_D A (WM h g ca (u2 (u2 (u2 (u2 iv 12 34 w223_i_12_34) 12 35 (iv 12 35)) 12 36 (iv 12 36)) 12 37 n2) lv fa la) := hD
                      exact W.iret (v := x223_4) hx hb hr (fun t ht9 hW => ⟨⟨x223_4, ((u2 (u2 (u2 (u2 iv 12 34 w223_i_12_34) 12 35 (iv 12 35)) 12 36 (iv 12 36)) 12 37 n2), lv, fa, la), rfl, ⟨w223_i_12_34, (iv 12 35), (iv 12 36), n2, (show inb (0, 200) w223_i_12_34 from ⟨by omega, by omega⟩), (hI.1 12 35), (show inb (0, 200) n2 from ⟨by omega, by omega⟩), (show (iv 12 34).toInt ≤ (w223_i_12_34 : Int32).toInt from by omega), (show (((iv 12 35) : Int32).toInt ≠ 0 ∨ ((a).toInt ≤ (x223_4 : Int32).toInt ∧ (x223_4 : Int32).toInt ≤ (b).toInt)) from by omega), (show ((((iv 12 35) : Int32).toInt ≠ 0 ∧ Num (fun j => sg ((fa 12 32) j).toInt) ((iv 12 33) : Int32).toInt (a).toInt (b).toInt (iv 12 34).toInt ((iv 12 35) : Int32).toInt ((iv 12 36) : Int32).toInt 0 0) ∨ (((iv 12 35) : Int32).toInt = 0 ∧ ((iv 12 36) : Int32).toInt = (iv 12 36).toInt ∧ Num (fun j => sg ((fa 12 32) j).toInt) ((iv 12 33) : Int32).toInt (a).toInt (b).toInt (iv 12 34).toInt 0 0 (x223_4 : Int32).toInt (w223_i_12_34 : Int32).toInt)) from (by
                            have hq9 := hq224_3
                            have hlt9 : (n2 : Int32).toInt < (w223_i_12_34 : Int32).toInt := by omega
                            have hr9 : Rn (fun j => sg (fa 12 32 j).toInt) (iv 12 33).toInt 48 57 (n2 : Int32).toInt (w223_i_12_34 : Int32).toInt := ⟨by omega, hq224_1, fun q => by omega⟩
                            have hq8 := hq9 (by omega)
                            exact Or.inr ⟨by omega, by omega, _, _, xr1_1, hr9, Or.inr (Or.inr ⟨by omega, ⟨by omega, by omega, by omega⟩, by omega, by omega, by omega⟩)⟩)), (show Sk (fun j => sg ((fa 12 32) j).toInt) ((iv 12 33) : Int32).toInt (iv 12 34).toInt (n2 : Int32).toInt from xr1_1), ⟨by omega, by omega⟩, rfl⟩, by rw [ht9]; exact hP9, hD9⟩, hS.F ht9⟩) hS.2.2 dX12_takeNumber_164
                    · skip
                      have fr233 : ¬ (((iv 12 35) : Int32).toInt = 0) := fr233
                      exfalso; omega
                · skip
                  refine lv_if_eq (tgt := 151) hx hb dX12_takeNumber_144 (by decide) (fun c234 => ?_) (fun c234 => ?_)
                  · skip
                    refine lv_iconst (v := 0) hx hb dX12_takeNumber_151 (by decide) ?_
                    refine lv_iconst (v := 2) hx hb dX12_takeNumber_152 (by decide) ?_
                    refine lv_aload_n hx hb dX12_takeNumber_153 rfl (lv_at hl 2 rfl) ?_
                    refine gM_12_37 hx hb ht hown hK hP m_1176 (v := n2) rfl dX12_takeNumber_154 ?_
                    have hFc := free_all hD hS hA
                    refine va_calli (va_runV (As := [.int 0, .int 2, .int n2]) (rest := []) ⟨hx, hb, hml, hown, ht⟩ (c_X12_want_r0 l dC dI H.size h g ca (u2 (u2 iv 12 34 w223_i_12_34) 12 37 n2) lv fa la (IX_i (c := 12) (k := 37) (IX_i (c := 12) (k := 34) hI (show inb (0, 200) w223_i_12_34 from ⟨by omega, by omega⟩)) (show inb (0, 200) n2 from ⟨by omega, by omega⟩)) 2 n2 ⟨by decide, by decide⟩) (kV 3 ht m_1472 m_1474 m_50 m_89 m_1475 rfl rfl hd_X12_want_v ⟨Nat.le_of_ble_eq_true rfl, Nat.le_of_ble_eq_true rfl⟩) (vW hP hK hD (rM_12 hK hP)) rfl rfl hl.1 rfl (lv_room (Nat.le_of_ble_eq_true rfl)) dX12_takeNumber_157 ⟨Nat.le_of_ble_eq_true rfl, Nat.le_of_ble_eq_true rfl⟩) hS (fun q _ h => hFc q h) hFc (fun r235 u t H1 locs ht9 hvm hr235 hB hz1 hk1 hS => ?_)
                    obtain ⟨n236, n237, hn236, xr235_0, xr235_1, hr235, rfl⟩ := hr235
                    have hn236 : 0 ≤ n236.toInt ∧ n236.toInt ≤ 5 := hn236
                    obtain ⟨hP, hD⟩ := hB
                    rw [ht9] at hP
                    generalize H1 = H at hP hS ⊢
                    have hP : va_P (dC, dI) classes (WM h g ca (u2 (u2 (u2 (u2 iv 12 34 w223_i_12_34) 12 37 n2) 12 35 n236) 12 36 n237) lv fa la) H := hP
                    have hD : va_D A (WM h g ca (u2 (u2 (u2 (u2 iv 12 34 w223_i_12_34) 12 37 n2) 12 35 n236) 12 36 n237) lv fa la) := (show va_D _ (WM h g ca (u2 (u2 (u2 (u2 iv 12 34 w223_i_12_34) 12 37 n2) 12 35 n236) 12 36 n237) lv fa la) from hD).weaken (fun _ _ _ h => hFc _ h)
                    have xr235_0 : 1 ≤ (n236 : Int32).toInt := xr235_0
                    have : (2 : Int32).toInt = 2 := (by decide)
                    have xr235_1 : ((((iv 12 35) : Int32).toInt = 0 ∧ (n236 : Int32).toInt = (2 : Int32).toInt ∧ (n237 : Int32).toInt = (n2 : Int32).toInt) ∨ (((iv 12 35) : Int32).toInt ≠ 0 ∧ (n236 : Int32).toInt = ((iv 12 35) : Int32).toInt ∧ (n237 : Int32).toInt = ((iv 12 36) : Int32).toInt)) := xr235_1
                    obtain rfl : 0 = r235 := hr235.symm
                    refine lv_istore (lv' := [(5, .int 0), (4, .int x223_4), (3, .int r1), (0, .ref h), (1, .int a), (2, .int b)]) hx hb dX12_takeNumber_160 hl (by decide) rfl (fun ls hl => ?_)
                    refine lv_iload hx hb dX12_takeNumber_162 (lv_at hl 1 rfl) ?_
                    have hP9 : va_P (dC, dI) classes (WM h g ca (u2 (u2 (u2 (u2 iv 12 34 w223_i_12_34) 12 35 n236) 12 36 n237) 12 37 n2) lv fa la) H := hP
                    have hD9 : va_D A (WM h g ca (u2 (u2 (u2 (u2 iv 12 34 w223_i_12_34) 12 35 n236) 12 36 n237) 12 37 n2) lv fa la) := hD
                    exact W.iret (v := x223_4) hx hb hr (fun t ht9 hW => ⟨⟨x223_4, ((u2 (u2 (u2 (u2 iv 12 34 w223_i_12_34) 12 35 n236) 12 36 n237) 12 37 n2), lv, fa, la), rfl, ⟨w223_i_12_34, n236, n237, n2, (show inb (0, 200) w223_i_12_34 from ⟨by omega, by omega⟩), (show inb (0, 5) n236 from ⟨by omega, by omega⟩), (show inb (0, 200) n2 from ⟨by omega, by omega⟩), (show (iv 12 34).toInt ≤ (w223_i_12_34 : Int32).toInt from by omega), (show ((n236 : Int32).toInt ≠ 0 ∨ ((a).toInt ≤ (x223_4 : Int32).toInt ∧ (x223_4 : Int32).toInt ≤ (b).toInt)) from by omega), (show (((n236 : Int32).toInt ≠ 0 ∧ Num (fun j => sg ((fa 12 32) j).toInt) ((iv 12 33) : Int32).toInt (a).toInt (b).toInt (iv 12 34).toInt (n236 : Int32).toInt (n237 : Int32).toInt 0 0) ∨ ((n236 : Int32).toInt = 0 ∧ (n237 : Int32).toInt = (iv 12 36).toInt ∧ Num (fun j => sg ((fa 12 32) j).toInt) ((iv 12 33) : Int32).toInt (a).toInt (b).toInt (iv 12 34).toInt 0 0 (x223_4 : Int32).toInt (w223_i_12_34 : Int32).toInt)) from (by
                          have hq9 := hq224_3
                          have hlt9 : (n2 : Int32).toInt < (w223_i_12_34 : Int32).toInt := by omega
                          have hr9 : Rn (fun j => sg (fa 12 32 j).toInt) (iv 12 33).toInt 48 57 (n2 : Int32).toInt (w223_i_12_34 : Int32).toInt := ⟨by omega, hq224_1, fun q => by omega⟩
                          have hq8 := hq9 (by omega)
                          exact Or.inl ⟨by omega, _, _, xr1_1, hr9, Or.inr (Or.inl ⟨by omega, (fun q => by omega), by omega, by omega⟩)⟩)), (show Sk (fun j => sg ((fa 12 32) j).toInt) ((iv 12 33) : Int32).toInt (iv 12 34).toInt (n2 : Int32).toInt from xr1_1), ⟨by omega, by omega⟩, rfl⟩, by rw [ht9]; exact hP9, hD9⟩, hS.F ht9⟩) hS.2.2 dX12_takeNumber_164
                  · exact absurd rfl c234
            · have fc225 := z_nle (rfl : ((iv 12 33)).toInt = _) (rfl : (w223_i_12_34).toInt = _) c225
              refine lv_aload_n hx hb dX12_takeNumber_52 rfl (lv_at hl 2 rfl) ?_
              refine gM_12_32 hx hb ht hown hK hP m_1171 dX12_takeNumber_53 ?_
              refine lv_aload_n hx hb dX12_takeNumber_56 rfl (lv_at hl 2 rfl) ?_
              refine gM_12_34 hx hb ht hown hK hP m_1173 (v := w223_i_12_34) rfl dX12_takeNumber_57 ?_
              refine lM_12_32 hx hb hK hP (f := (fa 12 32)) rfl (vp_in_iff.mpr ⟨by omega, by omega⟩) dX12_takeNumber_60 ?_
              refine lv_topi (fun v238 ev238 => ?_)
              refine lv_i2l (v := (v238.toInt64)) hx hb dX12_takeNumber_61 rfl ?_
              refine lv_ldc2 hx hb hown (ht _ m_1494) dX12_takeNumber_62 ?_
              refine lv_ldc2 hx hb hown (ht _ m_1495) dX12_takeNumber_65 ?_
              refine vp_callSi (W.runS (As := [.long (v238.toInt64), .long 48, .long 57]) (rest := []) ⟨hx, hb, hml, hown, ht⟩ (c_X12_in l dC dI (v238.toInt64) 48 57 (v238.toInt) (48) (57) ((Int32.toInt_toInt64 v238).trans rfl) (by decide : (48 : Int64).toInt = 48) (by decide : (57 : Int64).toInt = 57)) (kS 3 ht m_1370 m_1371 m_89 m_1372 rfl rfl hd_X12_in_v ⟨Nat.le_of_ble_eq_true rfl, Nat.le_of_ble_eq_true rfl⟩) (sR noP (hK.sub (tys' := []) [] rfl)) rfl rfl hl.1 rfl (lv_room (Nat.le_of_ble_eq_true rfl)) dX12_takeNumber_68 ⟨Nat.le_of_ble_eq_true rfl, Nat.le_of_ble_eq_true rfl⟩) (fun r239 hr239 => ?_)
              rcases hr239 with ⟨rfl, fr239⟩ | ⟨rfl, fr239⟩
              · skip
                refine lv_if_eq (tgt := 120) hx hb dX12_takeNumber_71 (by decide) (fun c240 => ?_) (fun c240 => ?_)
                · exact absurd c240 (by decide)
                · skip
                  refine lv_iload hx hb dX12_takeNumber_74 (lv_at hl 0 rfl) ?_
                  refine lv_sipush (v := 9999) hx hb dX12_takeNumber_76 (by decide) ?_
                  refine lv_icmp_le (tgt := 87) hx hb dX12_takeNumber_79 (by decide) (fun c241 => ?_) (fun c241 => ?_)
                  · have fc241 := z_le (rfl : (x223_4).toInt = _) (by decide : (9999 : Int32).toInt = 9999) c241
                    refine lv_bipush (v := 10) hx hb dX12_takeNumber_87 (by decide) ?_
                    refine lv_iload hx hb dX12_takeNumber_89 (lv_at hl 0 rfl) ?_
                    refine lv_imul hx hb dX12_takeNumber_91 ?_
                    refine lv_topi (fun v242 ev242 => ?_)
                    have tv242 := z_mul ev242 (by decide : (10 : Int32).toInt = 10) (rfl : (x223_4).toInt = _) (by omega) (by omega)
                    refine lv_aload_n hx hb dX12_takeNumber_92 rfl (lv_at hl 2 rfl) ?_
                    refine gM_12_32 hx hb ht hown hK hP m_1171 dX12_takeNumber_93 ?_
                    refine lv_aload_n hx hb dX12_takeNumber_96 rfl (lv_at hl 2 rfl) ?_
                    refine gM_12_34 hx hb ht hown hK hP m_1173 (v := w223_i_12_34) rfl dX12_takeNumber_97 ?_
                    refine lM_12_32 hx hb hK hP (f := (fa 12 32)) rfl (vp_in_iff.mpr ⟨by omega, by omega⟩) dX12_takeNumber_100 ?_
                    refine lv_topi (fun v243 ev243 => ?_)
                    obtain rfl : v238 = v243 := ev238.trans ev243.symm
                    have : 48 ≤ (v238 : Int32).toInt ∧ (v238 : Int32).toInt ≤ 57 := ⟨by omega, by omega⟩
                    refine lv_iadd hx hb dX12_takeNumber_101 ?_
                    refine lv_topi (fun v244 ev244 => ?_)
                    have tv244 := z_add ev244 (rfl : (v242).toInt = _) (rfl : (v238).toInt = _) (by omega) (by omega)
                    refine lv_bipush (v := 48) hx hb dX12_takeNumber_102 (by decide) ?_
                    refine lv_isub hx hb dX12_takeNumber_104 ?_
                    refine lv_topi (fun v245 ev245 => ?_)
                    have tv245 := z_sub ev245 (rfl : (v244).toInt = _) (by decide : (48 : Int32).toInt = 48) (by omega) (by omega)
                    refine lv_istore (lv' := [(4, .int v245), (3, .int r1), (0, .ref h), (1, .int a), (2, .int b)]) hx hb dX12_takeNumber_105 hl (by decide) rfl (fun ls hl => ?_)
                    refine lv_aload_n hx hb dX12_takeNumber_107 rfl (lv_at hl 2 rfl) ?_
                    refine lv_dup hx hb dX12_takeNumber_108 rfl ?_
                    refine gM_12_34 hx hb ht hown hK hP m_1173 (v := w223_i_12_34) rfl dX12_takeNumber_109 ?_
                    refine lv_iconst (v := 1) hx hb dX12_takeNumber_112 (by decide) ?_
                    refine lv_iadd hx hb dX12_takeNumber_113 ?_
                    refine lv_topi (fun v246 ev246 => ?_)
                    have tv246 := z_add ev246 (rfl : (w223_i_12_34).toInt = _) (by decide : (1 : Int32).toInt = 1) (by omega) (by omega)
                    refine pM_12_34 (v := v246) hx hb ht hown hK hP hD hS m_1173 dX12_takeNumber_114 (fun H locs hP hD hS => ?_)
                    have hP : va_P (dC, dI) classes (WM h g ca (u2 (u2 iv 12 34 v246) 12 37 n2) lv fa la) H := hP
                    have hD : va_D A (WM h g ca (u2 (u2 iv 12 34 v246) 12 37 n2) lv fa la) := hD
                    refine lv_goto (tgt := 41) hx hb dX12_takeNumber_117 (by decide) ?_
                    exact ih224 v245 v246 ⟨by omega, by omega⟩ ⟨by omega, by omega⟩ (show (n2 : Int32).toInt ≤ (v246 : Int32).toInt from by omega) (show ∀ j : Nat, (n2 : Int32).toInt ≤ (j : Int) → (j : Int) < (v246 : Int32).toInt → (j : Int) < ((iv 12 33) : Int32).toInt ∧ 48 ≤ sg ((fa 12 32) j).toInt ∧ sg ((fa 12 32) j).toInt ≤ 57 from (fun j h1 h2 => by
                          by_cases hj : (j : Int) < (w223_i_12_34 : Int32).toInt
                          · exact hq224_1 j h1 hj
                          · have hj2 : j = ((w223_i_12_34 : Int32).toInt).toNat := by omega
                            have hv9 := congrArg Int32.toInt (show v238 = fa 12 32 ((w223_i_12_34 : Int32).toInt).toNat from ev238); have hv9g := sg_i (v238 : Int32).toInt; rw [hv9] at hv9g
                            rw [hj2]
                            exact ⟨by omega, by omega, by omega⟩)) (show (v245 : Int32).toInt ≤ 99999 from by omega) (show (v246 : Int32).toInt - (n2 : Int32).toInt ≤ 4 → (v245 : Int32).toInt = dv (fun j => sg ((fa 12 32) j).toInt) ((n2 : Int32).toInt).toNat ((v246 : Int32).toInt - (n2 : Int32).toInt).toNat from (fun h9 => by have hq9 := hq224_3 (by omega); have hb9 := dv_r (t := (fun j => sg (fa 12 32 j).toInt)) (n := (iv 12 33).toInt) (s := (n2 : Int32).toInt) (e := (w223_i_12_34 : Int32).toInt) (k := (w223_i_12_34 : Int32).toInt) (by omega) hq224_1 (by omega) (by omega); have hv9 := congrArg Int32.toInt (show v238 = fa 12 32 ((w223_i_12_34 : Int32).toInt).toNat from ev238); have hv9g := sg_i (v238 : Int32).toInt; rw [hv9] at hv9g; have hc := dv_s (t := (fun j => sg (fa 12 32 j).toInt)) (s := (n2 : Int32).toInt) (k := (w223_i_12_34 : Int32).toInt) (k' := (v246 : Int32).toInt) (x := sg (fa 12 32 ((w223_i_12_34 : Int32).toInt).toNat).toInt) (by omega) (by omega) (by omega) rfl; rw [hc]; omega)) (show 0 ≤ (v245 : Int32).toInt from by omega) (show (iv 12 34).toInt ≤ (n2 : Int32).toInt from by omega) (by omega) _ _ ls hP hD hS (lv_sub hl [0, 1, 2, 3, 4] rfl)
                  · have fc241 := z_nle (rfl : (x223_4).toInt = _) (by decide : (9999 : Int32).toInt = 9999) c241
                    refine lv_iload hx hb dX12_takeNumber_82 (lv_at hl 0 rfl) ?_
                    refine lv_goto (tgt := 105) hx hb dX12_takeNumber_84 (by decide) ?_
                    refine lv_istore (lv' := [(4, .int x223_4), (3, .int r1), (0, .ref h), (1, .int a), (2, .int b)]) hx hb dX12_takeNumber_105 hl (by decide) rfl (fun ls hl => ?_)
                    refine lv_aload_n hx hb dX12_takeNumber_107 rfl (lv_at hl 2 rfl) ?_
                    refine lv_dup hx hb dX12_takeNumber_108 rfl ?_
                    refine gM_12_34 hx hb ht hown hK hP m_1173 (v := w223_i_12_34) rfl dX12_takeNumber_109 ?_
                    refine lv_iconst (v := 1) hx hb dX12_takeNumber_112 (by decide) ?_
                    refine lv_iadd hx hb dX12_takeNumber_113 ?_
                    refine lv_topi (fun v247 ev247 => ?_)
                    have tv247 := z_add ev247 (rfl : (w223_i_12_34).toInt = _) (by decide : (1 : Int32).toInt = 1) (by omega) (by omega)
                    refine pM_12_34 (v := v247) hx hb ht hown hK hP hD hS m_1173 dX12_takeNumber_114 (fun H locs hP hD hS => ?_)
                    have hP : va_P (dC, dI) classes (WM h g ca (u2 (u2 iv 12 34 v247) 12 37 n2) lv fa la) H := hP
                    have hD : va_D A (WM h g ca (u2 (u2 iv 12 34 v247) 12 37 n2) lv fa la) := hD
                    refine lv_goto (tgt := 41) hx hb dX12_takeNumber_117 (by decide) ?_
                    exact ih224 x223_4 v247 ⟨by omega, by omega⟩ ⟨by omega, by omega⟩ (show (n2 : Int32).toInt ≤ (v247 : Int32).toInt from by omega) (show ∀ j : Nat, (n2 : Int32).toInt ≤ (j : Int) → (j : Int) < (v247 : Int32).toInt → (j : Int) < ((iv 12 33) : Int32).toInt ∧ 48 ≤ sg ((fa 12 32) j).toInt ∧ sg ((fa 12 32) j).toInt ≤ 57 from (fun j h1 h2 => by
                          by_cases hj : (j : Int) < (w223_i_12_34 : Int32).toInt
                          · exact hq224_1 j h1 hj
                          · have hj2 : j = ((w223_i_12_34 : Int32).toInt).toNat := by omega
                            have hv9 := congrArg Int32.toInt (show v238 = fa 12 32 ((w223_i_12_34 : Int32).toInt).toNat from ev238); have hv9g := sg_i (v238 : Int32).toInt; rw [hv9] at hv9g
                            rw [hj2]
                            exact ⟨by omega, by omega, by omega⟩)) (show (x223_4 : Int32).toInt ≤ 99999 from by omega) (show (v247 : Int32).toInt - (n2 : Int32).toInt ≤ 4 → (x223_4 : Int32).toInt = dv (fun j => sg ((fa 12 32) j).toInt) ((n2 : Int32).toInt).toNat ((v247 : Int32).toInt - (n2 : Int32).toInt).toNat from (fun h9 => by have hq9 := hq224_3 (by omega); have hb9 := dv_r (t := (fun j => sg (fa 12 32 j).toInt)) (n := (iv 12 33).toInt) (s := (n2 : Int32).toInt) (e := (w223_i_12_34 : Int32).toInt) (k := (w223_i_12_34 : Int32).toInt) (by omega) hq224_1 (by omega) (by omega); exfalso; omega)) (show 0 ≤ (x223_4 : Int32).toInt from by omega) (show (iv 12 34).toInt ≤ (n2 : Int32).toInt from by omega) (by omega) _ _ ls hP hD hS (lv_sub hl [0, 1, 2, 3, 4] rfl)
              · skip
                refine lv_if_eq (tgt := 120) hx hb dX12_takeNumber_71 (by decide) (fun c248 => ?_) (fun c248 => ?_)
                · skip
                  refine lv_aload_n hx hb dX12_takeNumber_120 rfl (lv_at hl 2 rfl) ?_
                  refine lv_aload_n hx hb dX12_takeNumber_121 rfl (lv_at hl 2 rfl) ?_
                  refine gM_12_34 hx hb ht hown hK hP m_1173 (v := w223_i_12_34) rfl dX12_takeNumber_122 ?_
                  refine lv_aload_n hx hb dX12_takeNumber_125 rfl (lv_at hl 2 rfl) ?_
                  refine gM_12_37 hx hb ht hown hK hP m_1176 (v := n2) rfl dX12_takeNumber_126 ?_
                  refine lv_isub hx hb dX12_takeNumber_129 ?_
                  refine lv_topi (fun v249 ev249 => ?_)
                  have tv249 := z_sub ev249 (rfl : (w223_i_12_34).toInt = _) (rfl : (n2).toInt = _) (by omega) (by omega)
                  refine lv_iconst (v := 5) hx hb dX12_takeNumber_130 (by decide) ?_
                  refine lv_icmp_ge (tgt := 151) hx hb dX12_takeNumber_131 (by decide) (fun c250 => ?_) (fun c250 => ?_)
                  · have fc250 := z_le (by decide : (5 : Int32).toInt = 5) (rfl : (v249).toInt = _) c250
                    refine lv_iconst (v := 0) hx hb dX12_takeNumber_151 (by decide) ?_
                    refine lv_iconst (v := 2) hx hb dX12_takeNumber_152 (by decide) ?_
                    refine lv_aload_n hx hb dX12_takeNumber_153 rfl (lv_at hl 2 rfl) ?_
                    refine gM_12_37 hx hb ht hown hK hP m_1176 (v := n2) rfl dX12_takeNumber_154 ?_
                    have hFc := free_all hD hS hA
                    refine va_calli (va_runV (As := [.int 0, .int 2, .int n2]) (rest := []) ⟨hx, hb, hml, hown, ht⟩ (c_X12_want_r0 l dC dI H.size h g ca (u2 (u2 iv 12 34 w223_i_12_34) 12 37 n2) lv fa la (IX_i (c := 12) (k := 37) (IX_i (c := 12) (k := 34) hI (show inb (0, 200) w223_i_12_34 from ⟨by omega, by omega⟩)) (show inb (0, 200) n2 from ⟨by omega, by omega⟩)) 2 n2 ⟨by decide, by decide⟩) (kV 3 ht m_1472 m_1474 m_50 m_89 m_1475 rfl rfl hd_X12_want_v ⟨Nat.le_of_ble_eq_true rfl, Nat.le_of_ble_eq_true rfl⟩) (vW hP hK hD (rM_12 hK hP)) rfl rfl hl.1 rfl (lv_room (Nat.le_of_ble_eq_true rfl)) dX12_takeNumber_157 ⟨Nat.le_of_ble_eq_true rfl, Nat.le_of_ble_eq_true rfl⟩) hS (fun q _ h => hFc q h) hFc (fun r251 u t H1 locs ht9 hvm hr251 hB hz1 hk1 hS => ?_)
                    obtain ⟨n252, n253, hn252, xr251_0, xr251_1, hr251, rfl⟩ := hr251
                    have hn252 : 0 ≤ n252.toInt ∧ n252.toInt ≤ 5 := hn252
                    obtain ⟨hP, hD⟩ := hB
                    rw [ht9] at hP
                    generalize H1 = H at hP hS ⊢
                    have hP : va_P (dC, dI) classes (WM h g ca (u2 (u2 (u2 (u2 iv 12 34 w223_i_12_34) 12 37 n2) 12 35 n252) 12 36 n253) lv fa la) H := hP
                    have hD : va_D A (WM h g ca (u2 (u2 (u2 (u2 iv 12 34 w223_i_12_34) 12 37 n2) 12 35 n252) 12 36 n253) lv fa la) := (show va_D _ (WM h g ca (u2 (u2 (u2 (u2 iv 12 34 w223_i_12_34) 12 37 n2) 12 35 n252) 12 36 n253) lv fa la) from hD).weaken (fun _ _ _ h => hFc _ h)
                    have xr251_0 : 1 ≤ (n252 : Int32).toInt := xr251_0
                    have : (2 : Int32).toInt = 2 := (by decide)
                    have xr251_1 : ((((iv 12 35) : Int32).toInt = 0 ∧ (n252 : Int32).toInt = (2 : Int32).toInt ∧ (n253 : Int32).toInt = (n2 : Int32).toInt) ∨ (((iv 12 35) : Int32).toInt ≠ 0 ∧ (n252 : Int32).toInt = ((iv 12 35) : Int32).toInt ∧ (n253 : Int32).toInt = ((iv 12 36) : Int32).toInt)) := xr251_1
                    obtain rfl : 0 = r251 := hr251.symm
                    refine lv_istore (lv' := [(5, .int 0), (4, .int x223_4), (3, .int r1), (0, .ref h), (1, .int a), (2, .int b)]) hx hb dX12_takeNumber_160 hl (by decide) rfl (fun ls hl => ?_)
                    refine lv_iload hx hb dX12_takeNumber_162 (lv_at hl 1 rfl) ?_
                    have hP9 : va_P (dC, dI) classes (WM h g ca (u2 (u2 (u2 (u2 iv 12 34 w223_i_12_34) 12 35 n252) 12 36 n253) 12 37 n2) lv fa la) H := hP
                    have hD9 : va_D A (WM h g ca (u2 (u2 (u2 (u2 iv 12 34 w223_i_12_34) 12 35 n252) 12 36 n253) 12 37 n2) lv fa la) := hD
                    exact W.iret (v := x223_4) hx hb hr (fun t ht9 hW => ⟨⟨x223_4, ((u2 (u2 (u2 (u2 iv 12 34 w223_i_12_34) 12 35 n252) 12 36 n253) 12 37 n2), lv, fa, la), rfl, ⟨w223_i_12_34, n252, n253, n2, (show inb (0, 200) w223_i_12_34 from ⟨by omega, by omega⟩), (show inb (0, 5) n252 from ⟨by omega, by omega⟩), (show inb (0, 200) n2 from ⟨by omega, by omega⟩), (show (iv 12 34).toInt ≤ (w223_i_12_34 : Int32).toInt from by omega), (show ((n252 : Int32).toInt ≠ 0 ∨ ((a).toInt ≤ (x223_4 : Int32).toInt ∧ (x223_4 : Int32).toInt ≤ (b).toInt)) from by omega), (show (((n252 : Int32).toInt ≠ 0 ∧ Num (fun j => sg ((fa 12 32) j).toInt) ((iv 12 33) : Int32).toInt (a).toInt (b).toInt (iv 12 34).toInt (n252 : Int32).toInt (n253 : Int32).toInt 0 0) ∨ ((n252 : Int32).toInt = 0 ∧ (n253 : Int32).toInt = (iv 12 36).toInt ∧ Num (fun j => sg ((fa 12 32) j).toInt) ((iv 12 33) : Int32).toInt (a).toInt (b).toInt (iv 12 34).toInt 0 0 (x223_4 : Int32).toInt (w223_i_12_34 : Int32).toInt)) from (by
                          have hq9 := hq224_3
                          have hlt9 : (n2 : Int32).toInt < (w223_i_12_34 : Int32).toInt := by
                            by_cases hz : (w223_i_12_34 : Int32).toInt = (n2 : Int32).toInt
                            · exfalso
                              have h1 := congrArg Int32.toInt (show v238 = fa 12 32 ((w223_i_12_34 : Int32).toInt).toNat from ev238)
                              rw [hz] at h1
                              omega
                            · omega
                          have hr9 : Rn (fun j => sg (fa 12 32 j).toInt) (iv 12 33).toInt 48 57 (n2 : Int32).toInt (w223_i_12_34 : Int32).toInt := ⟨by omega, hq224_1, fun q => by have q2 : 48 ≤ sg (fa 12 32 ((w223_i_12_34 : Int32).toInt).toNat).toInt ∧ sg (fa 12 32 ((w223_i_12_34 : Int32).toInt).toNat).toInt ≤ 57 := q.2; have hv9 := congrArg Int32.toInt (show v238 = fa 12 32 ((w223_i_12_34 : Int32).toInt).toNat from ev238); have hv9g := sg_i (v238 : Int32).toInt; rw [hv9] at hv9g; omega⟩
                          exact Or.inl ⟨by omega, _, _, xr1_1, hr9, Or.inr (Or.inl ⟨by omega, (fun q => by omega), by omega, by omega⟩)⟩)), (show Sk (fun j => sg ((fa 12 32) j).toInt) ((iv 12 33) : Int32).toInt (iv 12 34).toInt (n2 : Int32).toInt from xr1_1), ⟨by omega, by omega⟩, rfl⟩, by rw [ht9]; exact hP9, hD9⟩, hS.F ht9⟩) hS.2.2 dX12_takeNumber_164
                  · have fc250 := z_nle (by decide : (5 : Int32).toInt = 5) (rfl : (v249).toInt = _) c250
                    refine lv_iload hx hb dX12_takeNumber_134 (lv_at hl 0 rfl) ?_
                    refine lv_i2l (v := (x223_4.toInt64)) hx hb dX12_takeNumber_136 rfl ?_
                    refine lv_iload_n hx hb dX12_takeNumber_137 rfl (lv_at hl 3 rfl) ?_
                    refine lv_i2l (v := (a.toInt64)) hx hb dX12_takeNumber_138 rfl ?_
                    refine lv_iload_n hx hb dX12_takeNumber_139 rfl (lv_at hl 4 rfl) ?_
                    refine lv_i2l (v := (b.toInt64)) hx hb dX12_takeNumber_140 rfl ?_
                    refine vp_callSi (W.runS (As := [.long (x223_4.toInt64), .long (a.toInt64), .long (b.toInt64)]) (rest := [.ref h]) ⟨hx, hb, hml, hown, ht⟩ (c_X12_in l dC dI (x223_4.toInt64) (a.toInt64) (b.toInt64) (x223_4.toInt) (a.toInt) (b.toInt) ((Int32.toInt_toInt64 x223_4).trans rfl) ((Int32.toInt_toInt64 a).trans rfl) ((Int32.toInt_toInt64 b).trans rfl)) (kS 3 ht m_1370 m_1371 m_89 m_1372 rfl rfl hd_X12_in_v ⟨Nat.le_of_ble_eq_true rfl, Nat.le_of_ble_eq_true rfl⟩) (sR noP (hK.sub (tys' := []) [] rfl)) rfl rfl hl.1 rfl (lv_room (Nat.le_of_ble_eq_true rfl)) dX12_takeNumber_141 ⟨Nat.le_of_ble_eq_true rfl, Nat.le_of_ble_eq_true rfl⟩) (fun r254 hr254 => ?_)
                    rcases hr254 with ⟨rfl, fr254⟩ | ⟨rfl, fr254⟩
                    · skip
                      refine lv_if_eq (tgt := 151) hx hb dX12_takeNumber_144 (by decide) (fun c255 => ?_) (fun c255 => ?_)
                      · exact absurd c255 (by decide)
                      · skip
                        refine lv_iconst (v := 1) hx hb dX12_takeNumber_147 (by decide) ?_
                        refine lv_goto (tgt := 152) hx hb dX12_takeNumber_148 (by decide) ?_
                        refine lv_iconst (v := 2) hx hb dX12_takeNumber_152 (by decide) ?_
                        refine lv_aload_n hx hb dX12_takeNumber_153 rfl (lv_at hl 2 rfl) ?_
                        refine gM_12_37 hx hb ht hown hK hP m_1176 (v := n2) rfl dX12_takeNumber_154 ?_
                        refine vp_callSi (W.runV (As := [.int 1, .int 2, .int n2]) (rest := []) ⟨hx, hb, hml, hown, ht⟩ (c_X12_want_1 l dC dI h g ca (u2 (u2 iv 12 34 w223_i_12_34) 12 37 n2) lv fa la (IX_i (c := 12) (k := 37) (IX_i (c := 12) (k := 34) hI (show inb (0, 200) w223_i_12_34 from ⟨by omega, by omega⟩)) (show inb (0, 200) n2 from ⟨by omega, by omega⟩)) 2 n2) (kV 3 ht m_1472 m_1474 m_50 m_89 m_1475 rfl rfl hd_X12_want_v ⟨Nat.le_of_ble_eq_true rfl, Nat.le_of_ble_eq_true rfl⟩) (vR hP hK (rM_12 hK hP)) rfl rfl hl.1 rfl (lv_room (Nat.le_of_ble_eq_true rfl)) dX12_takeNumber_157 ⟨Nat.le_of_ble_eq_true rfl, Nat.le_of_ble_eq_true rfl⟩) (fun r256 hr256 => ?_)
                        rcases hr256 with ⟨rfl, fr256⟩ | ⟨rfl, fr256⟩
                        · skip
                          have fr256 : (((iv 12 35) : Int32).toInt = 0) := fr256
                          refine lv_istore (lv' := [(5, .int 1), (4, .int x223_4), (3, .int r1), (0, .ref h), (1, .int a), (2, .int b)]) hx hb dX12_takeNumber_160 hl (by decide) rfl (fun ls hl => ?_)
                          refine lv_iload hx hb dX12_takeNumber_162 (lv_at hl 1 rfl) ?_
                          have hP9 : va_P (dC, dI) classes (WM h g ca (u2 (u2 (u2 (u2 iv 12 34 w223_i_12_34) 12 35 (iv 12 35)) 12 36 (iv 12 36)) 12 37 n2) lv fa la) H := hP
                          have hD9 : va_D A (WM h g ca (u2 (u2 (u2 (u2 iv 12 34 w223_i_12_34) 12 35 (iv 12 35)) 12 36 (iv 12 36)) 12 37 n2) lv fa la) := hD
                          exact W.iret (v := x223_4) hx hb hr (fun t ht9 hW => ⟨⟨x223_4, ((u2 (u2 (u2 (u2 iv 12 34 w223_i_12_34) 12 35 (iv 12 35)) 12 36 (iv 12 36)) 12 37 n2), lv, fa, la), rfl, ⟨w223_i_12_34, (iv 12 35), (iv 12 36), n2, (show inb (0, 200) w223_i_12_34 from ⟨by omega, by omega⟩), (hI.1 12 35), (show inb (0, 200) n2 from ⟨by omega, by omega⟩), (show (iv 12 34).toInt ≤ (w223_i_12_34 : Int32).toInt from by omega), (show (((iv 12 35) : Int32).toInt ≠ 0 ∨ ((a).toInt ≤ (x223_4 : Int32).toInt ∧ (x223_4 : Int32).toInt ≤ (b).toInt)) from by omega), (show ((((iv 12 35) : Int32).toInt ≠ 0 ∧ Num (fun j => sg ((fa 12 32) j).toInt) ((iv 12 33) : Int32).toInt (a).toInt (b).toInt (iv 12 34).toInt ((iv 12 35) : Int32).toInt ((iv 12 36) : Int32).toInt 0 0) ∨ (((iv 12 35) : Int32).toInt = 0 ∧ ((iv 12 36) : Int32).toInt = (iv 12 36).toInt ∧ Num (fun j => sg ((fa 12 32) j).toInt) ((iv 12 33) : Int32).toInt (a).toInt (b).toInt (iv 12 34).toInt 0 0 (x223_4 : Int32).toInt (w223_i_12_34 : Int32).toInt)) from (by
                                have hq9 := hq224_3
                                have hlt9 : (n2 : Int32).toInt < (w223_i_12_34 : Int32).toInt := by
                                  by_cases hz : (w223_i_12_34 : Int32).toInt = (n2 : Int32).toInt
                                  · exfalso
                                    have h1 := congrArg Int32.toInt (show v238 = fa 12 32 ((w223_i_12_34 : Int32).toInt).toNat from ev238)
                                    rw [hz] at h1
                                    omega
                                  · omega
                                have hr9 : Rn (fun j => sg (fa 12 32 j).toInt) (iv 12 33).toInt 48 57 (n2 : Int32).toInt (w223_i_12_34 : Int32).toInt := ⟨by omega, hq224_1, fun q => by have q2 : 48 ≤ sg (fa 12 32 ((w223_i_12_34 : Int32).toInt).toNat).toInt ∧ sg (fa 12 32 ((w223_i_12_34 : Int32).toInt).toNat).toInt ≤ 57 := q.2; have hv9 := congrArg Int32.toInt (show v238 = fa 12 32 ((w223_i_12_34 : Int32).toInt).toNat from ev238); have hv9g := sg_i (v238 : Int32).toInt; rw [hv9] at hv9g; omega⟩
                                have hq8 := hq9 (by omega)
                                exact Or.inr ⟨by omega, by omega, _, _, xr1_1, hr9, Or.inr (Or.inr ⟨by omega, ⟨by omega, by omega, by omega⟩, by omega, by omega, by omega⟩)⟩)), (show Sk (fun j => sg ((fa 12 32) j).toInt) ((iv 12 33) : Int32).toInt (iv 12 34).toInt (n2 : Int32).toInt from xr1_1), ⟨by omega, by omega⟩, rfl⟩, by rw [ht9]; exact hP9, hD9⟩, hS.F ht9⟩) hS.2.2 dX12_takeNumber_164
                        · skip
                          have fr256 : ¬ (((iv 12 35) : Int32).toInt = 0) := fr256
                          exfalso; omega
                    · skip
                      refine lv_if_eq (tgt := 151) hx hb dX12_takeNumber_144 (by decide) (fun c257 => ?_) (fun c257 => ?_)
                      · skip
                        refine lv_iconst (v := 0) hx hb dX12_takeNumber_151 (by decide) ?_
                        refine lv_iconst (v := 2) hx hb dX12_takeNumber_152 (by decide) ?_
                        refine lv_aload_n hx hb dX12_takeNumber_153 rfl (lv_at hl 2 rfl) ?_
                        refine gM_12_37 hx hb ht hown hK hP m_1176 (v := n2) rfl dX12_takeNumber_154 ?_
                        have hFc := free_all hD hS hA
                        refine va_calli (va_runV (As := [.int 0, .int 2, .int n2]) (rest := []) ⟨hx, hb, hml, hown, ht⟩ (c_X12_want_r0 l dC dI H.size h g ca (u2 (u2 iv 12 34 w223_i_12_34) 12 37 n2) lv fa la (IX_i (c := 12) (k := 37) (IX_i (c := 12) (k := 34) hI (show inb (0, 200) w223_i_12_34 from ⟨by omega, by omega⟩)) (show inb (0, 200) n2 from ⟨by omega, by omega⟩)) 2 n2 ⟨by decide, by decide⟩) (kV 3 ht m_1472 m_1474 m_50 m_89 m_1475 rfl rfl hd_X12_want_v ⟨Nat.le_of_ble_eq_true rfl, Nat.le_of_ble_eq_true rfl⟩) (vW hP hK hD (rM_12 hK hP)) rfl rfl hl.1 rfl (lv_room (Nat.le_of_ble_eq_true rfl)) dX12_takeNumber_157 ⟨Nat.le_of_ble_eq_true rfl, Nat.le_of_ble_eq_true rfl⟩) hS (fun q _ h => hFc q h) hFc (fun r258 u t H1 locs ht9 hvm hr258 hB hz1 hk1 hS => ?_)
                        obtain ⟨n259, n260, hn259, xr258_0, xr258_1, hr258, rfl⟩ := hr258
                        have hn259 : 0 ≤ n259.toInt ∧ n259.toInt ≤ 5 := hn259
                        obtain ⟨hP, hD⟩ := hB
                        rw [ht9] at hP
                        generalize H1 = H at hP hS ⊢
                        have hP : va_P (dC, dI) classes (WM h g ca (u2 (u2 (u2 (u2 iv 12 34 w223_i_12_34) 12 37 n2) 12 35 n259) 12 36 n260) lv fa la) H := hP
                        have hD : va_D A (WM h g ca (u2 (u2 (u2 (u2 iv 12 34 w223_i_12_34) 12 37 n2) 12 35 n259) 12 36 n260) lv fa la) := (show va_D _ (WM h g ca (u2 (u2 (u2 (u2 iv 12 34 w223_i_12_34) 12 37 n2) 12 35 n259) 12 36 n260) lv fa la) from hD).weaken (fun _ _ _ h => hFc _ h)
                        have xr258_0 : 1 ≤ (n259 : Int32).toInt := xr258_0
                        have : (2 : Int32).toInt = 2 := (by decide)
                        have xr258_1 : ((((iv 12 35) : Int32).toInt = 0 ∧ (n259 : Int32).toInt = (2 : Int32).toInt ∧ (n260 : Int32).toInt = (n2 : Int32).toInt) ∨ (((iv 12 35) : Int32).toInt ≠ 0 ∧ (n259 : Int32).toInt = ((iv 12 35) : Int32).toInt ∧ (n260 : Int32).toInt = ((iv 12 36) : Int32).toInt)) := xr258_1
                        obtain rfl : 0 = r258 := hr258.symm
                        refine lv_istore (lv' := [(5, .int 0), (4, .int x223_4), (3, .int r1), (0, .ref h), (1, .int a), (2, .int b)]) hx hb dX12_takeNumber_160 hl (by decide) rfl (fun ls hl => ?_)
                        refine lv_iload hx hb dX12_takeNumber_162 (lv_at hl 1 rfl) ?_
                        have hP9 : va_P (dC, dI) classes (WM h g ca (u2 (u2 (u2 (u2 iv 12 34 w223_i_12_34) 12 35 n259) 12 36 n260) 12 37 n2) lv fa la) H := hP
                        have hD9 : va_D A (WM h g ca (u2 (u2 (u2 (u2 iv 12 34 w223_i_12_34) 12 35 n259) 12 36 n260) 12 37 n2) lv fa la) := hD
                        exact W.iret (v := x223_4) hx hb hr (fun t ht9 hW => ⟨⟨x223_4, ((u2 (u2 (u2 (u2 iv 12 34 w223_i_12_34) 12 35 n259) 12 36 n260) 12 37 n2), lv, fa, la), rfl, ⟨w223_i_12_34, n259, n260, n2, (show inb (0, 200) w223_i_12_34 from ⟨by omega, by omega⟩), (show inb (0, 5) n259 from ⟨by omega, by omega⟩), (show inb (0, 200) n2 from ⟨by omega, by omega⟩), (show (iv 12 34).toInt ≤ (w223_i_12_34 : Int32).toInt from by omega), (show ((n259 : Int32).toInt ≠ 0 ∨ ((a).toInt ≤ (x223_4 : Int32).toInt ∧ (x223_4 : Int32).toInt ≤ (b).toInt)) from by omega), (show (((n259 : Int32).toInt ≠ 0 ∧ Num (fun j => sg ((fa 12 32) j).toInt) ((iv 12 33) : Int32).toInt (a).toInt (b).toInt (iv 12 34).toInt (n259 : Int32).toInt (n260 : Int32).toInt 0 0) ∨ ((n259 : Int32).toInt = 0 ∧ (n260 : Int32).toInt = (iv 12 36).toInt ∧ Num (fun j => sg ((fa 12 32) j).toInt) ((iv 12 33) : Int32).toInt (a).toInt (b).toInt (iv 12 34).toInt 0 0 (x223_4 : Int32).toInt (w223_i_12_34 : Int32).toInt)) from (by
                              have hq9 := hq224_3
                              have hlt9 : (n2 : Int32).toInt < (w223_i_12_34 : Int32).toInt := by
                                by_cases hz : (w223_i_12_34 : Int32).toInt = (n2 : Int32).toInt
                                · exfalso
                                  have h1 := congrArg Int32.toInt (show v238 = fa 12 32 ((w223_i_12_34 : Int32).toInt).toNat from ev238)
                                  rw [hz] at h1
                                  omega
                                · omega
                              have hr9 : Rn (fun j => sg (fa 12 32 j).toInt) (iv 12 33).toInt 48 57 (n2 : Int32).toInt (w223_i_12_34 : Int32).toInt := ⟨by omega, hq224_1, fun q => by have q2 : 48 ≤ sg (fa 12 32 ((w223_i_12_34 : Int32).toInt).toNat).toInt ∧ sg (fa 12 32 ((w223_i_12_34 : Int32).toInt).toNat).toInt ≤ 57 := q.2; have hv9 := congrArg Int32.toInt (show v238 = fa 12 32 ((w223_i_12_34 : Int32).toInt).toNat from ev238); have hv9g := sg_i (v238 : Int32).toInt; rw [hv9] at hv9g; omega⟩
                              have hq8 := hq9 (by omega)
                              exact Or.inl ⟨by omega, _, _, xr1_1, hr9, Or.inr (Or.inl ⟨by omega, (fun q => by omega), by omega, by omega⟩)⟩)), (show Sk (fun j => sg ((fa 12 32) j).toInt) ((iv 12 33) : Int32).toInt (iv 12 34).toInt (n2 : Int32).toInt from xr1_1), ⟨by omega, by omega⟩, rfl⟩, by rw [ht9]; exact hP9, hD9⟩, hS.F ht9⟩) hS.2.2 dX12_takeNumber_164
                      · exact absurd rfl c257
                · exact absurd rfl c248
        have : (0 : Int32).toInt = 0 := (by decide)
        exact lp224 201 0 n2 ⟨by decide, by decide⟩ ⟨by omega, by omega⟩ (show (n2 : Int32).toInt ≤ (n2 : Int32).toInt from by omega) (show ∀ j : Nat, (n2 : Int32).toInt ≤ (j : Int) → (j : Int) < (n2 : Int32).toInt → (j : Int) < ((iv 12 33) : Int32).toInt ∧ 48 ≤ sg ((fa 12 32) j).toInt ∧ sg ((fa 12 32) j).toInt ≤ 57 from fun j h1 h2 => absurd h1 (by omega)) (show (0 : Int32).toInt ≤ 99999 from by omega) (show (n2 : Int32).toInt - (n2 : Int32).toInt ≤ 4 → (0 : Int32).toInt = dv (fun j => sg ((fa 12 32) j).toInt) ((n2 : Int32).toInt).toNat ((n2 : Int32).toInt - (n2 : Int32).toInt).toNat from (fun _ => by rw [Int.sub_self]; exact (by decide : (0 : Int32).toInt = 0))) (show 0 ≤ (0 : Int32).toInt from by omega) (show (iv 12 34).toInt ≤ (n2 : Int32).toInt from by omega) (by first | decide | omega) _ _ ls hP hD hS (lv_sub hl [0, 1, 2, 3, 4] rfl)
      · exact absurd c5 (by decide)
    · skip
      have fr4 : ¬ (((iv 12 35) : Int32).toInt = 0) := fr4
      exfalso; omega
  · skip
    refine lv_iconst (v := 1) hx hb dX12_takeNumber_25 (by decide) ?_
    refine lv_aload_n hx hb dX12_takeNumber_26 rfl (lv_at hl 1 rfl) ?_
    refine gM_12_34 hx hb ht hown hK hP m_1173 (v := n2) rfl dX12_takeNumber_27 ?_
    have i_12_35 : 0 ≤ (iv 12 35).toInt ∧ (iv 12 35).toInt ≤ 5 := hI.1 12 35
    have hFc := free_all hD hS hA
    refine va_calli (va_runV (As := [.int 0, .int 1, .int n2]) (rest := []) ⟨hx, hb, hml, hown, ht⟩ (c_X12_want_r0 l dC dI H.size h g ca (u2 (u2 iv 12 34 n2) 12 37 n2) lv fa la (IX_i (c := 12) (k := 37) (IX_i (c := 12) (k := 34) hI (show inb (0, 200) n2 from ⟨by omega, by omega⟩)) (show inb (0, 200) n2 from ⟨by omega, by omega⟩)) 1 n2 ⟨by decide, by decide⟩) (kV 3 ht m_1472 m_1474 m_50 m_89 m_1475 rfl rfl hd_X12_want_v ⟨Nat.le_of_ble_eq_true rfl, Nat.le_of_ble_eq_true rfl⟩) (vW hP hK hD (rM_12 hK hP)) rfl rfl hl.1 rfl (lv_room (Nat.le_of_ble_eq_true rfl)) dX12_takeNumber_30 ⟨Nat.le_of_ble_eq_true rfl, Nat.le_of_ble_eq_true rfl⟩) hS (fun q _ h => hFc q h) hFc (fun r261 u t H1 locs ht9 hvm hr261 hB hz1 hk1 hS => ?_)
    obtain ⟨n262, n263, hn262, xr261_0, xr261_1, hr261, rfl⟩ := hr261
    have hn262 : 0 ≤ n262.toInt ∧ n262.toInt ≤ 5 := hn262
    obtain ⟨hP, hD⟩ := hB
    rw [ht9] at hP
    generalize H1 = H at hP hS ⊢
    have hP : va_P (dC, dI) classes (WM h g ca (u2 (u2 (u2 (u2 iv 12 34 n2) 12 37 n2) 12 35 n262) 12 36 n263) lv fa la) H := hP
    have hD : va_D A (WM h g ca (u2 (u2 (u2 (u2 iv 12 34 n2) 12 37 n2) 12 35 n262) 12 36 n263) lv fa la) := (show va_D _ (WM h g ca (u2 (u2 (u2 (u2 iv 12 34 n2) 12 37 n2) 12 35 n262) 12 36 n263) lv fa la) from hD).weaken (fun _ _ _ h => hFc _ h)
    have xr261_0 : 1 ≤ (n262 : Int32).toInt := xr261_0
    have : (1 : Int32).toInt = 1 := (by decide)
    have xr261_1 : ((((iv 12 35) : Int32).toInt = 0 ∧ (n262 : Int32).toInt = (1 : Int32).toInt ∧ (n263 : Int32).toInt = (n2 : Int32).toInt) ∨ (((iv 12 35) : Int32).toInt ≠ 0 ∧ (n262 : Int32).toInt = ((iv 12 35) : Int32).toInt ∧ (n263 : Int32).toInt = ((iv 12 36) : Int32).toInt)) := xr261_1
    obtain rfl : 0 = r261 := hr261.symm
    refine lv_if_ne (tgt := 38) hx hb dX12_takeNumber_33 (by decide) (fun c264 => ?_) (fun c264 => ?_)
    · exact absurd rfl c264
    · skip
      refine lv_iconst (v := 0) hx hb dX12_takeNumber_36 (by decide) ?_
      have : (0 : Int32).toInt = 0 := (by decide)
      have hP9 : va_P (dC, dI) classes (WM h g ca (u2 (u2 (u2 (u2 iv 12 34 n2) 12 35 n262) 12 36 n263) 12 37 n2) lv fa la) H := hP
      have hD9 : va_D A (WM h g ca (u2 (u2 (u2 (u2 iv 12 34 n2) 12 35 n262) 12 36 n263) 12 37 n2) lv fa la) := hD
      exact W.iret (v := 0) hx hb hr (fun t ht9 hW => ⟨⟨0, ((u2 (u2 (u2 (u2 iv 12 34 n2) 12 35 n262) 12 36 n263) 12 37 n2), lv, fa, la), rfl, ⟨n2, n262, n263, n2, (show inb (0, 200) n2 from ⟨by omega, by omega⟩), (show inb (0, 5) n262 from ⟨by omega, by omega⟩), (show inb (0, 200) n2 from ⟨by omega, by omega⟩), (show (iv 12 34).toInt ≤ (n2 : Int32).toInt from by omega), (show ((n262 : Int32).toInt ≠ 0 ∨ ((a).toInt ≤ (0 : Int32).toInt ∧ (0 : Int32).toInt ≤ (b).toInt)) from by omega), (show (((n262 : Int32).toInt ≠ 0 ∧ Num (fun j => sg ((fa 12 32) j).toInt) ((iv 12 33) : Int32).toInt (a).toInt (b).toInt (iv 12 34).toInt (n262 : Int32).toInt (n263 : Int32).toInt 0 0) ∨ ((n262 : Int32).toInt = 0 ∧ (n263 : Int32).toInt = (iv 12 36).toInt ∧ Num (fun j => sg ((fa 12 32) j).toInt) ((iv 12 33) : Int32).toInt (a).toInt (b).toInt (iv 12 34).toInt 0 0 (0 : Int32).toInt (n2 : Int32).toInt)) from (by
            have hg := sg_i (fa 12 32 ((n2 : Int32).toInt).toNat).toInt
            exact Or.inl ⟨by omega, _, _, xr1_1, ⟨Int.le_refl _, fun j h1 h2 => absurd h1 (by omega), fun q => by have q2 : 48 ≤ sg (fa 12 32 ((n2 : Int32).toInt).toNat).toInt ∧ sg (fa 12 32 ((n2 : Int32).toInt).toNat).toInt ≤ 57 := q.2; omega⟩, Or.inl ⟨by omega, by omega, by omega⟩⟩)), (show Sk (fun j => sg ((fa 12 32) j).toInt) ((iv 12 33) : Int32).toInt (iv 12 34).toInt (n2 : Int32).toInt from xr1_1), ⟨by decide, by decide⟩, rfl⟩, by rw [ht9]; exact hP9, hD9⟩, hS.F ht9⟩) hS.2.2 dX12_takeNumber_37
/-! ===== re3 ===== -/
set_option maxHeartbeats 4000000 in
set_option maxRecDepth 100000 in
/-- X12_readName -/
theorem c_X12_readName_r (l : Launch) (dC : Nat → ClassId) (dI : Nat → Nat → Nat) (sz : Nat) (h : Nat) (g : Nat → Nat → Nat) (ca : Nat → Nat → ClassId) (iv : Nat → Nat → Int32) (lv : Nat → Nat → Int64) (fa : Nat → Nat → Nat → Int32) (la : Nat → Nat → Nat → Int64) (hI : IX iv fa) (k : Int32) (q_12_35 : 0 ≤ (iv 12 35).toInt ∧ (iv 12 35).toInt ≤ 0) (h_k : 0 ≤ k.toInt ∧ k.toInt ≤ 95) (hJT : ∀ j : Nat, 0 ≤ (fa 12 32 j).toInt) : Met l yX12_readName (wc yX12_readName cX12_readName 3 none) ({ frames := 2, cells := 0, slots := 0, locals := 50 } : Room) (pW (dC, dI) classes (WM h g ca iv lv fa la) (TM ca) sz [.ref h, .int k]) (va_Qv (fun (u : SS) => ∃ (na_12_28 : Nat → Int32) (na_12_29 : Nat → Int32) (na_12_30 : Nat → Int32) (na_12_31 : Nat → Int32) (ni_12_34 : Int32) (ni_12_35 : Int32) (ni_12_36 : Int32) (ni_12_37 : Int32) (ni_12_38 : Int32), (∀ j, inb (bA 12 30 j) (na_12_30 j)) ∧ inb (bI 12 34) ni_12_34 ∧ inb (bI 12 35) ni_12_35 ∧ inb (bI 12 37) ni_12_37 ∧ inb (bI 12 38) ni_12_38 ∧ ((iv 12 34).toInt ≤ (ni_12_34).toInt) ∧ (∀ j : Nat, j ≠ k.toNatClampNeg → na_12_28 j = (fa 12 28) j) ∧ (∀ j : Nat, j ≠ k.toNatClampNeg → na_12_29 j = (fa 12 29) j) ∧ (∀ j : Nat, j ≠ k.toNatClampNeg → na_12_30 j = (fa 12 30) j) ∧ (∀ j : Nat, (j : Int) < 8 * k.toInt → na_12_31 j = (fa 12 31) j) ∧ ((((ni_12_35).toInt ≠ 0 ∧ ∃ (b v1 v2 : Int) (wd : Nat → Int), NmP (fun j => sg ((fa 12 32) j).toInt) (iv 12 33).toInt (iv 12 34).toInt (ni_12_35).toInt (ni_12_36).toInt b v1 v2 wd) ∨ ((ni_12_35).toInt = 0 ∧ (ni_12_36).toInt = (iv 12 36).toInt ∧ NmP (fun j => sg ((fa 12 32) j).toInt) (iv 12 33).toInt (iv 12 34).toInt 0 0 (ni_12_34).toInt (na_12_28 (k.toInt).toNat).toInt (na_12_29 (k.toInt).toNat).toInt (fun j => if (j : Int) < (na_12_30 (k.toInt).toNat).toInt then (na_12_31 (8 * (k.toInt).toNat + j)).toInt else 0)))) ∧ u = ((u2 (u2 (u2 (u2 (u2 iv 12 34 ni_12_34) 12 35 ni_12_35) 12 36 ni_12_36) 12 37 ni_12_37) 12 38 ni_12_38), lv, (u2 (u2 (u2 (u2 fa 12 28 na_12_28) 12 29 na_12_29) 12 30 na_12_30) 12 31 na_12_31), la)) (bM (dC, dI) h g ca (va_A (WM h g ca iv lv fa la) sz)) (va_A (WM h g ca iv lv fa la) sz)) 0 0 (va_A (WM h g ca iv lv fa la) sz) := by
  refine Met.ofW (cc := cX12_readName) (maxL := 3) (ret := none) (by decide) rfl ?_
  intro p e s m args below meth c s₁ B hml hv
  obtain ⟨rfl, hsz, hP, hK, hD0⟩ := hv
  have hx := B.exec
  have hb := B.bytes
  have hr := B.returns
  have ht := tb_tl (atoms_spec (ws := wc yX12_readName cX12_readName 3 none) B.pre)
  have hown : s.vm.findClass RX12 = some m.cls := findClass_of_methodNamed B.named
  have hlocks := B.notSynchronized
  subst hsz
  have hD := hD0.self (sz := s.heap.size)
  generalize hAe : va_A (WM h g ca iv lv fa la) s.heap.size = A at hD ⊢
  have hA : ∀ q : Nat, s.heap.size ≤ q → A q := fun q h => by rw [← hAe]; exact Or.inr h
  have hS : va_S A s.heap s.heap [] := va_S.rf
  have hl := lv_entry [.ref h, .int k] (n := 3) (Nat.le_of_ble_eq_true rfl)
  rw [lg_entry_eq]
  generalize (lg_sl [.ref h, .int k] ++ List.replicate (3 - (lg_sl [.ref h, .int k]).length) Slot.unset).toArray = ls at hl ⊢
  have hl : lv_has ls 3 [(0, .ref h), (1, .int k)] := hl
  refine lv_aload_n hx hb dX12_readName_0 rfl (lv_at hl 0 rfl) ?_
  have i_12_34 : 0 ≤ (iv 12 34).toInt ∧ (iv 12 34).toInt ≤ 200 := hI.1 12 34
  have hFc := free_all hD hS hA
  refine va_callv (va_runV (As := []) (rest := []) ⟨hx, hb, hml, hown, ht⟩ (c_X12_takeWord_r l dC dI s.heap.size h g ca iv lv fa la hI) (kV 0 ht m_1462 m_1464 m_48 m_89 m_1465 rfl rfl hd_X12_takeWord_v ⟨Nat.le_of_ble_eq_true rfl, Nat.le_of_ble_eq_true rfl⟩) (vW hP hK hD (rM_12 hK hP)) rfl rfl hl.1 rfl (lv_room (Nat.le_of_ble_eq_true rfl)) dX12_readName_1 ⟨Nat.le_of_ble_eq_true rfl, Nat.le_of_ble_eq_true rfl⟩) hS (fun q _ h => hFc q h) hFc (fun u t H1 locs ht9 hvm hr1 hB hz1 hk1 hS => ?_)
  obtain ⟨n2, n3, n4, hn2, hn3, hn4, xr1_0, xr1_1, xr1_2, xr1_3, rfl⟩ := hr1
  have hn2 : 0 ≤ n2.toInt ∧ n2.toInt ≤ 200 := hn2
  have hn3 : 0 ≤ n3.toInt ∧ n3.toInt ≤ 200 := hn3
  have hn4 : 0 ≤ n4.toInt ∧ n4.toInt ≤ 200 := hn4
  obtain ⟨hP, hD⟩ := hB
  rw [ht9] at hP
  generalize H1 = H at hP hS ⊢
  have hP : va_P (dC, dI) classes (WM h g ca (u2 (u2 (u2 iv 12 34 n2) 12 37 n3) 12 38 n4) lv fa la) H := hP
  have hD : va_D A (WM h g ca (u2 (u2 (u2 iv 12 34 n2) 12 37 n3) 12 38 n4) lv fa la) := (show va_D _ (WM h g ca (u2 (u2 (u2 iv 12 34 n2) 12 37 n3) 12 38 n4) lv fa la) from hD).weaken (fun _ _ _ h => hFc _ h)
  have xr1_0 : ((iv 12 34) : Int32).toInt ≤ (n3 : Int32).toInt := xr1_0
  have xr1_1 : (n3 : Int32).toInt + (n4 : Int32).toInt = (n2 : Int32).toInt := xr1_1
  have i_12_33 : 0 ≤ (iv 12 33).toInt ∧ (iv 12 33).toInt ≤ 200 := hI.1 12 33
  have xr1_2 : Sk (fun j => sg ((fa 12 32) j).toInt) ((iv 12 33) : Int32).toInt ((iv 12 34) : Int32).toInt (n3 : Int32).toInt := xr1_2
  have xr1_3 : Rn (fun j => sg ((fa 12 32) j).toInt) ((iv 12 33) : Int32).toInt 97 122 (n3 : Int32).toInt (n2 : Int32).toInt := xr1_3
  refine lv_aload_n hx hb dX12_readName_4 rfl (lv_at hl 0 rfl) ?_
  refine lv_aload_n hx hb dX12_readName_5 rfl (lv_at hl 0 rfl) ?_
  refine gM_12_38 hx hb ht hown hK hP m_1177 (v := n4) rfl dX12_readName_6 ?_
  refine lv_if_le (tgt := 16) hx hb dX12_readName_9 (by decide) (fun c5 => ?_) (fun c5 => ?_)
  · have fc5 := z_le (rfl : (n4).toInt = _) (by decide : (0 : Int32).toInt = 0) c5
    refine lv_iconst (v := 0) hx hb dX12_readName_16 (by decide) ?_
    refine lv_iconst (v := 1) hx hb dX12_readName_17 (by decide) ?_
    refine lv_aload_n hx hb dX12_readName_18 rfl (lv_at hl 0 rfl) ?_
    refine gM_12_37 hx hb ht hown hK hP m_1176 (v := n3) rfl dX12_readName_19 ?_
    have i_12_35 : 0 ≤ (iv 12 35).toInt ∧ (iv 12 35).toInt ≤ 5 := hI.1 12 35
    have hFc := free_all hD hS hA
    refine va_calli (va_runV (As := [.int 0, .int 1, .int n3]) (rest := []) ⟨hx, hb, hml, hown, ht⟩ (c_X12_want_r0 l dC dI H.size h g ca (u2 (u2 (u2 iv 12 34 n2) 12 37 n3) 12 38 n4) lv fa la (IX_i (c := 12) (k := 38) (IX_i (c := 12) (k := 37) (IX_i (c := 12) (k := 34) hI (show inb (0, 200) n2 from ⟨by omega, by omega⟩)) (show inb (0, 200) n3 from ⟨by omega, by omega⟩)) (show inb (0, 200) n4 from ⟨by omega, by omega⟩)) 1 n3 ⟨by decide, by decide⟩) (kV 3 ht m_1472 m_1474 m_50 m_89 m_1475 rfl rfl hd_X12_want_v ⟨Nat.le_of_ble_eq_true rfl, Nat.le_of_ble_eq_true rfl⟩) (vW hP hK hD (rM_12 hK hP)) rfl rfl hl.1 rfl (lv_room (Nat.le_of_ble_eq_true rfl)) dX12_readName_22 ⟨Nat.le_of_ble_eq_true rfl, Nat.le_of_ble_eq_true rfl⟩) hS (fun q _ h => hFc q h) hFc (fun r6 u t H1 locs ht9 hvm hr6 hB hz1 hk1 hS => ?_)
    obtain ⟨n7, n8, hn7, xr6_0, xr6_1, hr6, rfl⟩ := hr6
    have hn7 : 0 ≤ n7.toInt ∧ n7.toInt ≤ 5 := hn7
    obtain ⟨hP, hD⟩ := hB
    rw [ht9] at hP
    generalize H1 = H at hP hS ⊢
    have hP : va_P (dC, dI) classes (WM h g ca (u2 (u2 (u2 (u2 (u2 iv 12 34 n2) 12 37 n3) 12 38 n4) 12 35 n7) 12 36 n8) lv fa la) H := hP
    have hD : va_D A (WM h g ca (u2 (u2 (u2 (u2 (u2 iv 12 34 n2) 12 37 n3) 12 38 n4) 12 35 n7) 12 36 n8) lv fa la) := (show va_D _ (WM h g ca (u2 (u2 (u2 (u2 (u2 iv 12 34 n2) 12 37 n3) 12 38 n4) 12 35 n7) 12 36 n8) lv fa la) from hD).weaken (fun _ _ _ h => hFc _ h)
    have xr6_0 : 1 ≤ (n7 : Int32).toInt := xr6_0
    have : (1 : Int32).toInt = 1 := (by decide)
    have xr6_1 : ((((iv 12 35) : Int32).toInt = 0 ∧ (n7 : Int32).toInt = (1 : Int32).toInt ∧ (n8 : Int32).toInt = (n3 : Int32).toInt) ∨ (((iv 12 35) : Int32).toInt ≠ 0 ∧ (n7 : Int32).toInt = ((iv 12 35) : Int32).toInt ∧ (n8 : Int32).toInt = ((iv 12 36) : Int32).toInt)) := xr6_1
    obtain rfl : 0 = r6 := hr6.symm
    refine lv_if_eq (tgt := 54) hx hb dX12_readName_25 (by decide) (fun c9 => ?_) (fun c9 => ?_)
    · skip
      have hP9 : va_P (dC, dI) classes (WM h g ca (u2 (u2 (u2 (u2 (u2 iv 12 34 n2) 12 35 n7) 12 36 n8) 12 37 n3) 12 38 n4) lv (u2 (u2 (u2 (u2 fa 12 28 (fa 12 28)) 12 29 (fa 12 29)) 12 30 (fa 12 30)) 12 31 (fa 12 31)) la) H := hP
      have hD9 : va_D A (WM h g ca (u2 (u2 (u2 (u2 (u2 iv 12 34 n2) 12 35 n7) 12 36 n8) 12 37 n3) 12 38 n4) lv (u2 (u2 (u2 (u2 fa 12 28 (fa 12 28)) 12 29 (fa 12 29)) 12 30 (fa 12 30)) 12 31 (fa 12 31)) la) := hD
      exact W.vret hx hb hr (fun t ht9 hW => ⟨⟨((u2 (u2 (u2 (u2 (u2 iv 12 34 n2) 12 35 n7) 12 36 n8) 12 37 n3) 12 38 n4), lv, (u2 (u2 (u2 (u2 fa 12 28 (fa 12 28)) 12 29 (fa 12 29)) 12 30 (fa 12 30)) 12 31 (fa 12 31)), la), rfl, ⟨(fa 12 28), (fa 12 29), (fa 12 30), (fa 12 31), n2, n7, n8, n3, n4, (hI.2 12 30), (show inb (0, 200) n2 from ⟨by omega, by omega⟩), (show inb (0, 5) n7 from ⟨by omega, by omega⟩), (show inb (0, 200) n3 from ⟨by omega, by omega⟩), (show inb (0, 200) n4 from ⟨by omega, by omega⟩), (show (iv 12 34).toInt ≤ (n2 : Int32).toInt from by omega), (show ∀ j : Nat, j ≠ k.toNatClampNeg → (fa 12 28) j = (fa 12 28) j from fun j hj => rfl), (show ∀ j : Nat, j ≠ k.toNatClampNeg → (fa 12 29) j = (fa 12 29) j from fun j hj => rfl), (show ∀ j : Nat, j ≠ k.toNatClampNeg → (fa 12 30) j = (fa 12 30) j from fun j hj => rfl), (show ∀ j : Nat, (j : Int) < 8 * (k).toInt → (fa 12 31) j = (fa 12 31) j from fun j hj => rfl), (show (((n7 : Int32).toInt ≠ 0 ∧ ∃ (b v1 v2 : Int) (wd : Nat → Int), NmP (fun j => sg ((fa 12 32) j).toInt) ((iv 12 33) : Int32).toInt (iv 12 34).toInt (n7 : Int32).toInt (n8 : Int32).toInt b v1 v2 wd) ∨ ((n7 : Int32).toInt = 0 ∧ (n8 : Int32).toInt = (iv 12 36).toInt ∧ NmP (fun j => sg ((fa 12 32) j).toInt) ((iv 12 33) : Int32).toInt (iv 12 34).toInt 0 0 (n2 : Int32).toInt ((fa 12 28) ((k).toInt).toNat).toInt ((fa 12 29) ((k).toInt).toNat).toInt (fun j => if (j : Int) < ((fa 12 30) ((k).toInt).toNat).toInt then ((fa 12 31) (8 * ((k).toInt).toNat + j)).toInt else 0))) from (by exact Or.inl ⟨by omega, 0, 0, 0, (fun _ => 0), _, _, xr1_2, xr1_3, Or.inl ⟨by omega, by omega, by omega⟩⟩)), rfl⟩, by rw [ht9]; exact hP9, hD9⟩, hS.F ht9⟩) hS.2.2 dX12_readName_54
    · exact absurd rfl c9
  · have fc5 := z_nle (rfl : (n4).toInt = _) (by decide : (0 : Int32).toInt = 0) c5
    refine lv_iconst (v := 1) hx hb dX12_readName_12 (by decide) ?_
    refine lv_goto (tgt := 17) hx hb dX12_readName_13 (by decide) ?_
    refine lv_iconst (v := 1) hx hb dX12_readName_17 (by decide) ?_
    refine lv_aload_n hx hb dX12_readName_18 rfl (lv_at hl 0 rfl) ?_
    refine gM_12_37 hx hb ht hown hK hP m_1176 (v := n3) rfl dX12_readName_19 ?_
    refine vp_callSi (W.runV (As := [.int 1, .int 1, .int n3]) (rest := []) ⟨hx, hb, hml, hown, ht⟩ (c_X12_want_1 l dC dI h g ca (u2 (u2 (u2 iv 12 34 n2) 12 37 n3) 12 38 n4) lv fa la (IX_i (c := 12) (k := 38) (IX_i (c := 12) (k := 37) (IX_i (c := 12) (k := 34) hI (show inb (0, 200) n2 from ⟨by omega, by omega⟩)) (show inb (0, 200) n3 from ⟨by omega, by omega⟩)) (show inb (0, 200) n4 from ⟨by omega, by omega⟩)) 1 n3) (kV 3 ht m_1472 m_1474 m_50 m_89 m_1475 rfl rfl hd_X12_want_v ⟨Nat.le_of_ble_eq_true rfl, Nat.le_of_ble_eq_true rfl⟩) (vR hP hK (rM_12 hK hP)) rfl rfl hl.1 rfl (lv_room (Nat.le_of_ble_eq_true rfl)) dX12_readName_22 ⟨Nat.le_of_ble_eq_true rfl, Nat.le_of_ble_eq_true rfl⟩) (fun r10 hr10 => ?_)
    rcases hr10 with ⟨rfl, fr10⟩ | ⟨rfl, fr10⟩
    have i_12_35 : 0 ≤ (iv 12 35).toInt ∧ (iv 12 35).toInt ≤ 5 := hI.1 12 35
    · skip
      have i_12_35 : 0 ≤ (iv 12 35).toInt ∧ (iv 12 35).toInt ≤ 5 := hI.1 12 35
      have fr10 : (((iv 12 35) : Int32).toInt = 0) := fr10
      refine lv_if_eq (tgt := 54) hx hb dX12_readName_25 (by decide) (fun c11 => ?_) (fun c11 => ?_)
      · exact absurd c11 (by decide)
      · skip
        refine lv_aload_n hx hb dX12_readName_28 rfl (lv_at hl 0 rfl) ?_
        refine lv_aload_n hx hb dX12_readName_29 rfl (lv_at hl 0 rfl) ?_
        refine gM_12_38 hx hb ht hown hK hP m_1177 (v := n4) rfl dX12_readName_30 ?_
        refine lv_bipush (v := 9) hx hb dX12_readName_33 (by decide) ?_
        refine lv_icmp_ge (tgt := 42) hx hb dX12_readName_35 (by decide) (fun c12 => ?_) (fun c12 => ?_)
        · have fc12 := z_le (by decide : (9 : Int32).toInt = 9) (rfl : (n4).toInt = _) c12
          refine lv_iconst (v := 0) hx hb dX12_readName_42 (by decide) ?_
          refine lv_iconst (v := 4) hx hb dX12_readName_43 (by decide) ?_
          refine lv_aload_n hx hb dX12_readName_44 rfl (lv_at hl 0 rfl) ?_
          refine gM_12_37 hx hb ht hown hK hP m_1176 (v := n3) rfl dX12_readName_45 ?_
          have hFc := free_all hD hS hA
          refine va_calli (va_runV (As := [.int 0, .int 4, .int n3]) (rest := []) ⟨hx, hb, hml, hown, ht⟩ (c_X12_want_r0 l dC dI H.size h g ca (u2 (u2 (u2 iv 12 34 n2) 12 37 n3) 12 38 n4) lv fa la (IX_i (c := 12) (k := 38) (IX_i (c := 12) (k := 37) (IX_i (c := 12) (k := 34) hI (show inb (0, 200) n2 from ⟨by omega, by omega⟩)) (show inb (0, 200) n3 from ⟨by omega, by omega⟩)) (show inb (0, 200) n4 from ⟨by omega, by omega⟩)) 4 n3 ⟨by decide, by decide⟩) (kV 3 ht m_1472 m_1474 m_50 m_89 m_1475 rfl rfl hd_X12_want_v ⟨Nat.le_of_ble_eq_true rfl, Nat.le_of_ble_eq_true rfl⟩) (vW hP hK hD (rM_12 hK hP)) rfl rfl hl.1 rfl (lv_room (Nat.le_of_ble_eq_true rfl)) dX12_readName_48 ⟨Nat.le_of_ble_eq_true rfl, Nat.le_of_ble_eq_true rfl⟩) hS (fun q _ h => hFc q h) hFc (fun r13 u t H1 locs ht9 hvm hr13 hB hz1 hk1 hS => ?_)
          obtain ⟨n14, n15, hn14, xr13_0, xr13_1, hr13, rfl⟩ := hr13
          have hn14 : 0 ≤ n14.toInt ∧ n14.toInt ≤ 5 := hn14
          obtain ⟨hP, hD⟩ := hB
          rw [ht9] at hP
          generalize H1 = H at hP hS ⊢
          have hP : va_P (dC, dI) classes (WM h g ca (u2 (u2 (u2 (u2 (u2 iv 12 34 n2) 12 37 n3) 12 38 n4) 12 35 n14) 12 36 n15) lv fa la) H := hP
          have hD : va_D A (WM h g ca (u2 (u2 (u2 (u2 (u2 iv 12 34 n2) 12 37 n3) 12 38 n4) 12 35 n14) 12 36 n15) lv fa la) := (show va_D _ (WM h g ca (u2 (u2 (u2 (u2 (u2 iv 12 34 n2) 12 37 n3) 12 38 n4) 12 35 n14) 12 36 n15) lv fa la) from hD).weaken (fun _ _ _ h => hFc _ h)
          have xr13_0 : 1 ≤ (n14 : Int32).toInt := xr13_0
          have : (4 : Int32).toInt = 4 := (by decide)
          have xr13_1 : ((((iv 12 35) : Int32).toInt = 0 ∧ (n14 : Int32).toInt = (4 : Int32).toInt ∧ (n15 : Int32).toInt = (n3 : Int32).toInt) ∨ (((iv 12 35) : Int32).toInt ≠ 0 ∧ (n14 : Int32).toInt = ((iv 12 35) : Int32).toInt ∧ (n15 : Int32).toInt = ((iv 12 36) : Int32).toInt)) := xr13_1
          obtain rfl : 0 = r13 := hr13.symm
          refine lv_if_ne (tgt := 55) hx hb dX12_readName_51 (by decide) (fun c16 => ?_) (fun c16 => ?_)
          · exact absurd rfl c16
          · skip
            have hP9 : va_P (dC, dI) classes (WM h g ca (u2 (u2 (u2 (u2 (u2 iv 12 34 n2) 12 35 n14) 12 36 n15) 12 37 n3) 12 38 n4) lv (u2 (u2 (u2 (u2 fa 12 28 (fa 12 28)) 12 29 (fa 12 29)) 12 30 (fa 12 30)) 12 31 (fa 12 31)) la) H := hP
            have hD9 : va_D A (WM h g ca (u2 (u2 (u2 (u2 (u2 iv 12 34 n2) 12 35 n14) 12 36 n15) 12 37 n3) 12 38 n4) lv (u2 (u2 (u2 (u2 fa 12 28 (fa 12 28)) 12 29 (fa 12 29)) 12 30 (fa 12 30)) 12 31 (fa 12 31)) la) := hD
            exact W.vret hx hb hr (fun t ht9 hW => ⟨⟨((u2 (u2 (u2 (u2 (u2 iv 12 34 n2) 12 35 n14) 12 36 n15) 12 37 n3) 12 38 n4), lv, (u2 (u2 (u2 (u2 fa 12 28 (fa 12 28)) 12 29 (fa 12 29)) 12 30 (fa 12 30)) 12 31 (fa 12 31)), la), rfl, ⟨(fa 12 28), (fa 12 29), (fa 12 30), (fa 12 31), n2, n14, n15, n3, n4, (hI.2 12 30), (show inb (0, 200) n2 from ⟨by omega, by omega⟩), (show inb (0, 5) n14 from ⟨by omega, by omega⟩), (show inb (0, 200) n3 from ⟨by omega, by omega⟩), (show inb (0, 200) n4 from ⟨by omega, by omega⟩), (show (iv 12 34).toInt ≤ (n2 : Int32).toInt from by omega), (show ∀ j : Nat, j ≠ k.toNatClampNeg → (fa 12 28) j = (fa 12 28) j from fun j hj => rfl), (show ∀ j : Nat, j ≠ k.toNatClampNeg → (fa 12 29) j = (fa 12 29) j from fun j hj => rfl), (show ∀ j : Nat, j ≠ k.toNatClampNeg → (fa 12 30) j = (fa 12 30) j from fun j hj => rfl), (show ∀ j : Nat, (j : Int) < 8 * (k).toInt → (fa 12 31) j = (fa 12 31) j from fun j hj => rfl), (show (((n14 : Int32).toInt ≠ 0 ∧ ∃ (b v1 v2 : Int) (wd : Nat → Int), NmP (fun j => sg ((fa 12 32) j).toInt) ((iv 12 33) : Int32).toInt (iv 12 34).toInt (n14 : Int32).toInt (n15 : Int32).toInt b v1 v2 wd) ∨ ((n14 : Int32).toInt = 0 ∧ (n15 : Int32).toInt = (iv 12 36).toInt ∧ NmP (fun j => sg ((fa 12 32) j).toInt) ((iv 12 33) : Int32).toInt (iv 12 34).toInt 0 0 (n2 : Int32).toInt ((fa 12 28) ((k).toInt).toNat).toInt ((fa 12 29) ((k).toInt).toNat).toInt (fun j => if (j : Int) < ((fa 12 30) ((k).toInt).toNat).toInt then ((fa 12 31) (8 * ((k).toInt).toNat + j)).toInt else 0))) from (by exact Or.inl ⟨by omega, 0, 0, 0, (fun _ => 0), _, _, xr1_2, xr1_3, Or.inr (Or.inl ⟨by omega, by omega, by omega⟩)⟩)), rfl⟩, by rw [ht9]; exact hP9, hD9⟩, hS.F ht9⟩) hS.2.2 dX12_readName_54
        · have fc12 := z_nle (by decide : (9 : Int32).toInt = 9) (rfl : (n4).toInt = _) c12
          refine lv_iconst (v := 1) hx hb dX12_readName_38 (by decide) ?_
          refine lv_goto (tgt := 43) hx hb dX12_readName_39 (by decide) ?_
          refine lv_iconst (v := 4) hx hb dX12_readName_43 (by decide) ?_
          refine lv_aload_n hx hb dX12_readName_44 rfl (lv_at hl 0 rfl) ?_
          refine gM_12_37 hx hb ht hown hK hP m_1176 (v := n3) rfl dX12_readName_45 ?_
          refine vp_callSi (W.runV (As := [.int 1, .int 4, .int n3]) (rest := []) ⟨hx, hb, hml, hown, ht⟩ (c_X12_want_1 l dC dI h g ca (u2 (u2 (u2 iv 12 34 n2) 12 37 n3) 12 38 n4) lv fa la (IX_i (c := 12) (k := 38) (IX_i (c := 12) (k := 37) (IX_i (c := 12) (k := 34) hI (show inb (0, 200) n2 from ⟨by omega, by omega⟩)) (show inb (0, 200) n3 from ⟨by omega, by omega⟩)) (show inb (0, 200) n4 from ⟨by omega, by omega⟩)) 4 n3) (kV 3 ht m_1472 m_1474 m_50 m_89 m_1475 rfl rfl hd_X12_want_v ⟨Nat.le_of_ble_eq_true rfl, Nat.le_of_ble_eq_true rfl⟩) (vR hP hK (rM_12 hK hP)) rfl rfl hl.1 rfl (lv_room (Nat.le_of_ble_eq_true rfl)) dX12_readName_48 ⟨Nat.le_of_ble_eq_true rfl, Nat.le_of_ble_eq_true rfl⟩) (fun r17 hr17 => ?_)
          rcases hr17 with ⟨rfl, fr17⟩ | ⟨rfl, fr17⟩
          · skip
            have fr17 : (((iv 12 35) : Int32).toInt = 0) := fr17
            refine lv_if_ne (tgt := 55) hx hb dX12_readName_51 (by decide) (fun c18 => ?_) (fun c18 => ?_)
            · skip
              refine lv_aload_n hx hb dX12_readName_55 rfl (lv_at hl 0 rfl) ?_
              refine gM_12_30 hx hb ht hown hK hP m_1169 dX12_readName_56 ?_
              refine lv_iload_n hx hb dX12_readName_59 rfl (lv_at hl 1 rfl) ?_
              refine lv_aload_n hx hb dX12_readName_60 rfl (lv_at hl 0 rfl) ?_
              refine gM_12_38 hx hb ht hown hK hP m_1177 (v := n4) rfl dX12_readName_61 ?_
              refine tM_12_30 hx hb hK hP hD hS (f0 := (fa 12 30)) rfl (i := k) (x := n4) (vp_in_iff.mpr ⟨by omega, by omega⟩) dX12_readName_64 (fun f19 ef19 H locs hP hD hS => ?_)
              have hf19 : ∀ j, inb (bA 12 30 j) (f19 j) := by rw [ef19]; exact upd_b (b := bA 12 30) (hI.2 12 30) (show inb (0, 8) n4 from ⟨by omega, by omega⟩)
              refine lv_iconst (v := 0) hx hb dX12_readName_65 (by decide) ?_
              refine lv_istore_n (lv' := [(2, .int 0), (0, .ref h), (1, .int k)]) hx hb dX12_readName_66 rfl hl (by decide) rfl (fun ls hl => ?_)
              have lp309 : ∀ (nn309 : Nat) (x308_2 : Int32) (w308_a_12_31 : Nat → Int32), 0 ≤ x308_2.toInt ∧ x308_2.toInt ≤ 8 → (∀ j, inb (bA 12 31 j) (w308_a_12_31 j)) → (∀ j : Nat, (j : Int) < 8 * (k).toInt → w308_a_12_31 j = (fa 12 31) j) → (∀ j : Nat, (j : Int) < (x308_2 : Int32).toInt → w308_a_12_31 (8 * ((k).toInt).toNat + j) = (fa 12 32) (((n3 : Int32).toInt).toNat + j)) → (x308_2 : Int32).toInt ≤ (n4 : Int32).toInt → 0 ≤ (x308_2 : Int32).toInt → 8 - x308_2.toInt < (nn309 : Int) → ∀ (H : Heap) (locs : List Loc), ∀ (ls : Array Slot), va_P (dC, dI) classes (WM h g ca (u2 (u2 (u2 iv 12 34 n2) 12 37 n3) 12 38 n4) lv (u2 (u2 fa 12 30 f19) 12 31 w308_a_12_31) la) H → va_D A (WM h g ca (u2 (u2 (u2 iv 12 34 n2) 12 37 n3) 12 38 n4) lv (u2 (u2 fa 12 30 f19) 12 31 w308_a_12_31) la) → va_S A s.heap H locs → lv_has ls 3 [(2, .int x308_2), (0, .ref h), (1, .int k)] → W p l e ({ frames := 2, cells := 0, slots := 0, locals := 50 } : Room) s m ([.ref h, .int k] : List Value).toArray below meth c H locs 0 0 (MQ below (va_Qv (fun (u : SS) => ∃ (na_12_28 : Nat → Int32) (na_12_29 : Nat → Int32) (na_12_30 : Nat → Int32) (na_12_31 : Nat → Int32) (ni_12_34 : Int32) (ni_12_35 : Int32) (ni_12_36 : Int32) (ni_12_37 : Int32) (ni_12_38 : Int32), (∀ j, inb (bA 12 30 j) (na_12_30 j)) ∧ inb (bI 12 34) ni_12_34 ∧ inb (bI 12 35) ni_12_35 ∧ inb (bI 12 37) ni_12_37 ∧ inb (bI 12 38) ni_12_38 ∧ ((iv 12 34).toInt ≤ (ni_12_34).toInt) ∧ (∀ j : Nat, j ≠ k.toNatClampNeg → na_12_28 j = (fa 12 28) j) ∧ (∀ j : Nat, j ≠ k.toNatClampNeg → na_12_29 j = (fa 12 29) j) ∧ (∀ j : Nat, j ≠ k.toNatClampNeg → na_12_30 j = (fa 12 30) j) ∧ (∀ j : Nat, (j : Int) < 8 * k.toInt → na_12_31 j = (fa 12 31) j) ∧ ((((ni_12_35).toInt ≠ 0 ∧ ∃ (b v1 v2 : Int) (wd : Nat → Int), NmP (fun j => sg ((fa 12 32) j).toInt) (iv 12 33).toInt (iv 12 34).toInt (ni_12_35).toInt (ni_12_36).toInt b v1 v2 wd) ∨ ((ni_12_35).toInt = 0 ∧ (ni_12_36).toInt = (iv 12 36).toInt ∧ NmP (fun j => sg ((fa 12 32) j).toInt) (iv 12 33).toInt (iv 12 34).toInt 0 0 (ni_12_34).toInt (na_12_28 (k.toInt).toNat).toInt (na_12_29 (k.toInt).toNat).toInt (fun j => if (j : Int) < (na_12_30 (k.toInt).toNat).toInt then (na_12_31 (8 * (k.toInt).toNat + j)).toInt else 0)))) ∧ u = ((u2 (u2 (u2 (u2 (u2 iv 12 34 ni_12_34) 12 35 ni_12_35) 12 36 ni_12_36) 12 37 ni_12_37) 12 38 ni_12_38), lv, (u2 (u2 (u2 (u2 fa 12 28 na_12_28) 12 29 na_12_29) 12 30 na_12_30) 12 31 na_12_31), la)) (bM (dC, dI) h g ca A) A) ([.ref h, .int k] : List Value).toArray s 0 0 A) (F0 m 67 ls []) := by
                intro nn309
                induction nn309 with
                | zero => intro x308_2 w308_a_12_31 hx308_2 hw308_a_12_31 hq309_0 hq309_1 hq309_2 hq309_3 hm309; exfalso; omega
                | succ nn309 ih309 =>
                  intro x308_2 w308_a_12_31 hx308_2 hw308_a_12_31 hq309_0 hq309_1 hq309_2 hq309_3 hm309 H locs ls hP hD hS hl
                  refine lv_iload_n hx hb dX12_readName_67 rfl (lv_at hl 0 rfl) ?_
                  refine lv_aload_n hx hb dX12_readName_68 rfl (lv_at hl 1 rfl) ?_
                  refine gM_12_38 hx hb ht hown hK hP m_1177 (v := n4) rfl dX12_readName_69 ?_
                  refine lv_icmp_ge (tgt := 103) hx hb dX12_readName_72 (by decide) (fun c310 => ?_) (fun c310 => ?_)
                  · have fc310 := z_le (rfl : (n4).toInt = _) (rfl : (x308_2).toInt = _) c310
                    refine lv_aload_n hx hb dX12_readName_103 rfl (lv_at hl 1 rfl) ?_
                    refine gM_12_28 hx hb ht hown hK hP m_1167 dX12_readName_104 ?_
                    refine lv_iload_n hx hb dX12_readName_107 rfl (lv_at hl 2 rfl) ?_
                    refine lv_aload_n hx hb dX12_readName_108 rfl (lv_at hl 1 rfl) ?_
                    refine lv_iconst (v := 0) hx hb dX12_readName_109 (by decide) ?_
                    refine lv_sipush (v := 9999) hx hb dX12_readName_110 (by decide) ?_
                    have hFc := free_all hD hS hA
                    refine va_calli (va_runV (As := [.int 0, .int 9999]) (rest := [.int k, .ref (g 12 28)]) ⟨hx, hb, hml, hown, ht⟩ (c_X12_takeNumber_r l dC dI H.size h g ca (u2 (u2 (u2 iv 12 34 n2) 12 37 n3) 12 38 n4) lv (u2 (u2 fa 12 30 f19) 12 31 w308_a_12_31) la (IX_a (c := 12) (k := 31) (IX_a (c := 12) (k := 30) (IX_i (c := 12) (k := 38) (IX_i (c := 12) (k := 37) (IX_i (c := 12) (k := 34) hI (show inb (0, 200) n2 from ⟨by omega, by omega⟩)) (show inb (0, 200) n3 from ⟨by omega, by omega⟩)) (show inb (0, 200) n4 from ⟨by omega, by omega⟩)) hf19) hw308_a_12_31) 0 9999 (show 0 ≤ ((iv 12 35) : Int32).toInt ∧ ((iv 12 35) : Int32).toInt ≤ 0 from ⟨by omega, by omega⟩) hJT) (kV 2 ht m_1490 m_1492 m_53 m_89 m_1493 rfl rfl hd_X12_takeNumber_v ⟨Nat.le_of_ble_eq_true rfl, Nat.le_of_ble_eq_true rfl⟩) (vW hP hK hD (rM_12 hK hP)) rfl rfl hl.1 rfl (lv_room (Nat.le_of_ble_eq_true rfl)) dX12_readName_113 ⟨Nat.le_of_ble_eq_true rfl, Nat.le_of_ble_eq_true rfl⟩) hS (fun q _ h => hFc q h) hFc (fun r311 u t H1 locs ht9 hvm hr311 hB hz1 hk1 hS => ?_)
                    obtain ⟨n312, n313, n314, n315, hn312, hn313, hn315, xr311_0, xr311_1, xr311_2, xr311_3, hr311, rfl⟩ := hr311
                    have hn312 : 0 ≤ n312.toInt ∧ n312.toInt ≤ 200 := hn312
                    have hn313 : 0 ≤ n313.toInt ∧ n313.toInt ≤ 5 := hn313
                    have hn315 : 0 ≤ n315.toInt ∧ n315.toInt ≤ 200 := hn315
                    obtain ⟨hP, hD⟩ := hB
                    rw [ht9] at hP
                    generalize H1 = H at hP hS ⊢
                    have hP : va_P (dC, dI) classes (WM h g ca (u2 (u2 (u2 (u2 (u2 iv 12 34 n312) 12 37 n315) 12 38 n4) 12 35 n313) 12 36 n314) lv (u2 (u2 fa 12 30 f19) 12 31 w308_a_12_31) la) H := hP
                    have hD : va_D A (WM h g ca (u2 (u2 (u2 (u2 (u2 iv 12 34 n312) 12 37 n315) 12 38 n4) 12 35 n313) 12 36 n314) lv (u2 (u2 fa 12 30 f19) 12 31 w308_a_12_31) la) := (show va_D _ (WM h g ca (u2 (u2 (u2 (u2 (u2 iv 12 34 n312) 12 37 n315) 12 38 n4) 12 35 n313) 12 36 n314) lv (u2 (u2 fa 12 30 f19) 12 31 w308_a_12_31) la) from hD).weaken (fun _ _ _ h => hFc _ h)
                    have xr311_0 : (n2 : Int32).toInt ≤ (n312 : Int32).toInt := xr311_0
                    have : (0 : Int32).toInt = 0 := (by decide)
                    have : (9999 : Int32).toInt = 9999 := (by decide)
                    have xr311_1 : ((n313 : Int32).toInt ≠ 0 ∨ ((0 : Int32).toInt ≤ (r311 : Int32).toInt ∧ (r311 : Int32).toInt ≤ (9999 : Int32).toInt)) := xr311_1
                    have xr311_2 : (((n313 : Int32).toInt ≠ 0 ∧ Num (fun j => sg ((fa 12 32) j).toInt) ((iv 12 33) : Int32).toInt (0 : Int32).toInt (9999 : Int32).toInt (n2 : Int32).toInt (n313 : Int32).toInt (n314 : Int32).toInt 0 0) ∨ ((n313 : Int32).toInt = 0 ∧ (n314 : Int32).toInt = ((iv 12 36) : Int32).toInt ∧ Num (fun j => sg ((fa 12 32) j).toInt) ((iv 12 33) : Int32).toInt (0 : Int32).toInt (9999 : Int32).toInt (n2 : Int32).toInt 0 0 (r311 : Int32).toInt (n312 : Int32).toInt)) := xr311_2
                    have xr311_3 : Sk (fun j => sg ((fa 12 32) j).toInt) ((iv 12 33) : Int32).toInt (n2 : Int32).toInt (n315 : Int32).toInt := xr311_3
                    refine tM_12_28 hx hb hK hP hD hS (f0 := (fa 12 28)) rfl (i := k) (x := r311) (vp_in_iff.mpr ⟨by omega, by omega⟩) dX12_readName_116 (fun f316 ef316 H locs hP hD hS => ?_)
                    have hf316 : ∀ j, inb (bA 12 28 j) (f316 j) := fun j => full_i _
                    refine lv_aload_n hx hb dX12_readName_117 rfl (lv_at hl 1 rfl) ?_
                    refine gM_12_35 hx hb ht hown hK hP m_1174 (v := n313) rfl dX12_readName_118 ?_
                    refine lv_if_ne (tgt := 174) hx hb dX12_readName_121 (by decide) (fun c317 => ?_) (fun c317 => ?_)
                    · have fc317 := z_ne (rfl : (n313).toInt = _) (by decide : (0 : Int32).toInt = 0) c317
                      have hP9 : va_P (dC, dI) classes (WM h g ca (u2 (u2 (u2 (u2 (u2 iv 12 34 n312) 12 35 n313) 12 36 n314) 12 37 n315) 12 38 n4) lv (u2 (u2 (u2 (u2 fa 12 28 f316) 12 29 (fa 12 29)) 12 30 f19) 12 31 w308_a_12_31) la) H := hP
                      have hD9 : va_D A (WM h g ca (u2 (u2 (u2 (u2 (u2 iv 12 34 n312) 12 35 n313) 12 36 n314) 12 37 n315) 12 38 n4) lv (u2 (u2 (u2 (u2 fa 12 28 f316) 12 29 (fa 12 29)) 12 30 f19) 12 31 w308_a_12_31) la) := hD
                      exact W.vret hx hb hr (fun t ht9 hW => ⟨⟨((u2 (u2 (u2 (u2 (u2 iv 12 34 n312) 12 35 n313) 12 36 n314) 12 37 n315) 12 38 n4), lv, (u2 (u2 (u2 (u2 fa 12 28 f316) 12 29 (fa 12 29)) 12 30 f19) 12 31 w308_a_12_31), la), rfl, ⟨f316, (fa 12 29), f19, w308_a_12_31, n312, n313, n314, n315, n4, hf19, (show inb (0, 200) n312 from ⟨by omega, by omega⟩), (show inb (0, 5) n313 from ⟨by omega, by omega⟩), (show inb (0, 200) n315 from ⟨by omega, by omega⟩), (show inb (0, 200) n4 from ⟨by omega, by omega⟩), (show (iv 12 34).toInt ≤ (n312 : Int32).toInt from by omega), (show ∀ j : Nat, j ≠ k.toNatClampNeg → f316 j = (fa 12 28) j from fun j hj => by rw [ef316, upd_ne (show j ≠ k.toNatClampNeg from hj)]), (show ∀ j : Nat, j ≠ k.toNatClampNeg → (fa 12 29) j = (fa 12 29) j from fun j hj => rfl), (show ∀ j : Nat, j ≠ k.toNatClampNeg → f19 j = (fa 12 30) j from fun j hj => by rw [ef19, upd_ne (show j ≠ k.toNatClampNeg from hj)]), (show ∀ j : Nat, (j : Int) < 8 * (k).toInt → w308_a_12_31 j = (fa 12 31) j from hq309_0), (show (((n313 : Int32).toInt ≠ 0 ∧ ∃ (b v1 v2 : Int) (wd : Nat → Int), NmP (fun j => sg ((fa 12 32) j).toInt) ((iv 12 33) : Int32).toInt (iv 12 34).toInt (n313 : Int32).toInt (n314 : Int32).toInt b v1 v2 wd) ∨ ((n313 : Int32).toInt = 0 ∧ (n314 : Int32).toInt = (iv 12 36).toInt ∧ NmP (fun j => sg ((fa 12 32) j).toInt) ((iv 12 33) : Int32).toInt (iv 12 34).toInt 0 0 (n312 : Int32).toInt (f316 ((k).toInt).toNat).toInt ((fa 12 29) ((k).toInt).toNat).toInt (fun j => if (j : Int) < (f19 ((k).toInt).toNat).toInt then (w308_a_12_31 (8 * ((k).toInt).toNat + j)).toInt else 0))) from (by
                            have hE30 : f19 (k.toInt).toNat = n4 := (by rw [ef19]; exact upd_eq)
                            have hE28 : f316 (k.toInt).toNat = r311 := (by rw [ef316]; exact upd_eq)
                            have hw : ∀ j : Nat, j < 8 → ((j : Int) < (n2 : Int32).toInt - (n3 : Int32).toInt → (fun j : Nat => if (j : Int) < (f19 (k.toInt).toNat).toInt then (w308_a_12_31 (8 * (k.toInt).toNat + j)).toInt else 0) j = (fun j => sg (fa 12 32 j).toInt) (((n3 : Int32).toInt).toNat + j)) ∧ ((n2 : Int32).toInt - (n3 : Int32).toInt ≤ (j : Int) → (fun j : Nat => if (j : Int) < (f19 (k.toInt).toNat).toInt then (w308_a_12_31 (8 * (k.toInt).toNat + j)).toInt else 0) j = 0) := by
                              intro j hj
                              refine ⟨fun h9 => ?_, fun h9 => ?_⟩
                              · show (if (j : Int) < (f19 (k.toInt).toNat).toInt then (w308_a_12_31 (8 * (k.toInt).toNat + j)).toInt else 0) = sg (fa 12 32 (((n3 : Int32).toInt).toNat + j)).toInt
                                rw [hE30, if_pos (by omega), hq309_1 j (by omega)]
                                have hg := sg_i (fa 12 32 (((n3 : Int32).toInt).toNat + j)).toInt
                                have hr : 97 ≤ sg (fa 12 32 (((n3 : Int32).toInt).toNat + j)).toInt ∧ sg (fa 12 32 (((n3 : Int32).toInt).toNat + j)).toInt ≤ 122 := (xr1_3.2.1 (((n3 : Int32).toInt).toNat + j) (by omega) (by omega)).2
                                omega
                              · show (if (j : Int) < (f19 (k.toInt).toNat).toInt then (w308_a_12_31 (8 * (k.toInt).toNat + j)).toInt else 0) = 0
                                rw [hE30, if_neg (by omega)]
                            rcases xr311_2 with ⟨yn1q, yn2q⟩ | ⟨yn1q, -⟩
                            · exact Or.inl ⟨by omega, 0, 0, 0, _, _, _, xr1_2, xr1_3, Or.inr (Or.inr ⟨⟨by omega, by omega⟩, hw, _, _, _, yn2q, Or.inl ⟨by omega, rfl, rfl⟩⟩)⟩
                            · exfalso; omega)), rfl⟩, by rw [ht9]; exact hP9, hD9⟩, hS.F ht9⟩) hS.2.2 dX12_readName_174
                    · have fc317 := z_eq (rfl : (n313).toInt = _) (by decide : (0 : Int32).toInt = 0) c317
                      refine lv_aload_n hx hb dX12_readName_124 rfl (lv_at hl 1 rfl) ?_
                      have hFc := free_all hD hS hA
                      refine va_callv (va_runV (As := []) (rest := []) ⟨hx, hb, hml, hown, ht⟩ (c_X12_takeWord_r l dC dI H.size h g ca (u2 (u2 (u2 (u2 (u2 iv 12 34 n312) 12 37 n315) 12 38 n4) 12 35 n313) 12 36 n314) lv (u2 (u2 (u2 fa 12 30 f19) 12 31 w308_a_12_31) 12 28 f316) la (IX_a (c := 12) (k := 28) (IX_a (c := 12) (k := 31) (IX_a (c := 12) (k := 30) (IX_i (c := 12) (k := 36) (IX_i (c := 12) (k := 35) (IX_i (c := 12) (k := 38) (IX_i (c := 12) (k := 37) (IX_i (c := 12) (k := 34) hI (show inb (0, 200) n312 from ⟨by omega, by omega⟩)) (show inb (0, 200) n315 from ⟨by omega, by omega⟩)) (show inb (0, 200) n4 from ⟨by omega, by omega⟩)) (show inb (0, 5) n313 from ⟨by omega, by omega⟩)) (full_i _)) hf19) hw308_a_12_31) hf316)) (kV 0 ht m_1462 m_1464 m_48 m_89 m_1465 rfl rfl hd_X12_takeWord_v ⟨Nat.le_of_ble_eq_true rfl, Nat.le_of_ble_eq_true rfl⟩) (vW hP hK hD (rM_12 hK hP)) rfl rfl hl.1 rfl (lv_room (Nat.le_of_ble_eq_true rfl)) dX12_readName_125 ⟨Nat.le_of_ble_eq_true rfl, Nat.le_of_ble_eq_true rfl⟩) hS (fun q _ h => hFc q h) hFc (fun u t H1 locs ht9 hvm hr318 hB hz1 hk1 hS => ?_)
                      obtain ⟨n319, n320, n321, hn319, hn320, hn321, xr318_0, xr318_1, xr318_2, xr318_3, rfl⟩ := hr318
                      have hn319 : 0 ≤ n319.toInt ∧ n319.toInt ≤ 200 := hn319
                      have hn320 : 0 ≤ n320.toInt ∧ n320.toInt ≤ 200 := hn320
                      have hn321 : 0 ≤ n321.toInt ∧ n321.toInt ≤ 200 := hn321
                      obtain ⟨hP, hD⟩ := hB
                      rw [ht9] at hP
                      generalize H1 = H at hP hS ⊢
                      have hP : va_P (dC, dI) classes (WM h g ca (u2 (u2 (u2 (u2 (u2 iv 12 34 n319) 12 37 n320) 12 38 n321) 12 35 n313) 12 36 n314) lv (u2 (u2 (u2 fa 12 30 f19) 12 31 w308_a_12_31) 12 28 f316) la) H := hP
                      have hD : va_D A (WM h g ca (u2 (u2 (u2 (u2 (u2 iv 12 34 n319) 12 37 n320) 12 38 n321) 12 35 n313) 12 36 n314) lv (u2 (u2 (u2 fa 12 30 f19) 12 31 w308_a_12_31) 12 28 f316) la) := (show va_D _ (WM h g ca (u2 (u2 (u2 (u2 (u2 iv 12 34 n319) 12 37 n320) 12 38 n321) 12 35 n313) 12 36 n314) lv (u2 (u2 (u2 fa 12 30 f19) 12 31 w308_a_12_31) 12 28 f316) la) from hD).weaken (fun _ _ _ h => hFc _ h)
                      have xr318_0 : (n312 : Int32).toInt ≤ (n320 : Int32).toInt := xr318_0
                      have xr318_1 : (n320 : Int32).toInt + (n321 : Int32).toInt = (n319 : Int32).toInt := xr318_1
                      have xr318_2 : Sk (fun j => sg ((fa 12 32) j).toInt) ((iv 12 33) : Int32).toInt (n312 : Int32).toInt (n320 : Int32).toInt := xr318_2
                      have xr318_3 : Rn (fun j => sg ((fa 12 32) j).toInt) ((iv 12 33) : Int32).toInt 97 122 (n320 : Int32).toInt (n319 : Int32).toInt := xr318_3
                      refine lv_aload_n hx hb dX12_readName_128 rfl (lv_at hl 1 rfl) ?_
                      refine lv_aload_n hx hb dX12_readName_129 rfl (lv_at hl 1 rfl) ?_
                      refine lv_iconst (v := 2) hx hb dX12_readName_130 (by decide) ?_
                      refine lv_bipush (v := 116) hx hb dX12_readName_131 (by decide) ?_
                      refine lv_bipush (v := 111) hx hb dX12_readName_133 (by decide) ?_
                      refine lv_iconst (v := 0) hx hb dX12_readName_135 (by decide) ?_
                      refine lv_iconst (v := 0) hx hb dX12_readName_136 (by decide) ?_
                      refine lv_iconst (v := 0) hx hb dX12_readName_137 (by decide) ?_
                      refine lv_iconst (v := 0) hx hb dX12_readName_138 (by decide) ?_
                      refine vp_callSi (W.runV (As := [.int 2, .int 116, .int 111, .int 0, .int 0, .int 0, .int 0]) (rest := [.ref h]) ⟨hx, hb, hml, hown, ht⟩ (c_X12_isWord_g l dC dI h g ca (u2 (u2 (u2 (u2 (u2 iv 12 34 n319) 12 37 n320) 12 38 n321) 12 35 n313) 12 36 n314) lv (u2 (u2 (u2 fa 12 30 f19) 12 31 w308_a_12_31) 12 28 f316) la (IX_a (c := 12) (k := 28) (IX_a (c := 12) (k := 31) (IX_a (c := 12) (k := 30) (IX_i (c := 12) (k := 36) (IX_i (c := 12) (k := 35) (IX_i (c := 12) (k := 38) (IX_i (c := 12) (k := 37) (IX_i (c := 12) (k := 34) hI (show inb (0, 200) n319 from ⟨by omega, by omega⟩)) (show inb (0, 200) n320 from ⟨by omega, by omega⟩)) (show inb (0, 200) n321 from ⟨by omega, by omega⟩)) (show inb (0, 5) n313 from ⟨by omega, by omega⟩)) (full_i _)) hf19) hw308_a_12_31) hf316) 2 116 111 0 0 0 0 ⟨by decide, by decide⟩ ⟨by decide, by decide⟩ ⟨by decide, by decide⟩ ⟨by decide, by decide⟩ ⟨by decide, by decide⟩ ⟨by decide, by decide⟩ ⟨by decide, by decide⟩ (show (n320 : Int32).toInt + (n321 : Int32).toInt ≤ 200 from by omega)) (kV 7 ht m_1468 m_1470 m_49 m_89 m_1471 rfl rfl hd_X12_isWord_v ⟨Nat.le_of_ble_eq_true rfl, Nat.le_of_ble_eq_true rfl⟩) (vR hP hK (rM_12 hK hP)) rfl rfl hl.1 rfl (lv_room (Nat.le_of_ble_eq_true rfl)) dX12_readName_139 ⟨Nat.le_of_ble_eq_true rfl, Nat.le_of_ble_eq_true rfl⟩) (fun r322 hr322 => ?_)
                      obtain ⟨hr322, xr322_0, xr322_1⟩ := hr322
                      have : (2 : Int32).toInt = 2 := (by decide)
                      have xr322_0 : (((r322 : Int32).toInt = 1 ∧ WdG (fun j => sg ((fa 12 32) j).toInt) (n320 : Int32).toInt ((n320 : Int32).toInt + (n321 : Int32).toInt) (2 : Int32).toInt (lt6 (116 : Int32) (111 : Int32) (0 : Int32) (0 : Int32) (0 : Int32) (0 : Int32))) ∨ ((r322 : Int32).toInt = 0 ∧ ¬ WdG (fun j => sg ((fa 12 32) j).toInt) (n320 : Int32).toInt ((n320 : Int32).toInt + (n321 : Int32).toInt) (2 : Int32).toInt (lt6 (116 : Int32) (111 : Int32) (0 : Int32) (0 : Int32) (0 : Int32) (0 : Int32)))) := xr322_0
                      have xr322_1 : ((r322 : Int32).toInt = 0 ∨ (n321 : Int32).toInt = (2 : Int32).toInt) := xr322_1
                      refine lv_iconst (v := 1) hx hb dX12_readName_142 (by decide) ?_
                      refine lv_aload_n hx hb dX12_readName_143 rfl (lv_at hl 1 rfl) ?_
                      refine gM_12_37 hx hb ht hown hK hP m_1176 (v := n320) rfl dX12_readName_144 ?_
                      rcases (by omega : (r322 : Int32).toInt = 0 ∨ (r322 : Int32).toInt = 1) with q323 | q323
                      · obtain rfl : r322 = 0 := z_of (by decide) q323
                        have : (0 : Int32).toInt = 0 := by decide
                        have hFc := free_all hD hS hA
                        refine va_calli (va_runV (As := [.int 0, .int 1, .int n320]) (rest := []) ⟨hx, hb, hml, hown, ht⟩ (c_X12_want_r0 l dC dI H.size h g ca (u2 (u2 (u2 (u2 (u2 iv 12 34 n319) 12 37 n320) 12 38 n321) 12 35 n313) 12 36 n314) lv (u2 (u2 (u2 fa 12 30 f19) 12 31 w308_a_12_31) 12 28 f316) la (IX_a (c := 12) (k := 28) (IX_a (c := 12) (k := 31) (IX_a (c := 12) (k := 30) (IX_i (c := 12) (k := 36) (IX_i (c := 12) (k := 35) (IX_i (c := 12) (k := 38) (IX_i (c := 12) (k := 37) (IX_i (c := 12) (k := 34) hI (show inb (0, 200) n319 from ⟨by omega, by omega⟩)) (show inb (0, 200) n320 from ⟨by omega, by omega⟩)) (show inb (0, 200) n321 from ⟨by omega, by omega⟩)) (show inb (0, 5) n313 from ⟨by omega, by omega⟩)) (full_i _)) hf19) hw308_a_12_31) hf316) 1 n320 ⟨by decide, by decide⟩) (kV 3 ht m_1472 m_1474 m_50 m_89 m_1475 rfl rfl hd_X12_want_v ⟨Nat.le_of_ble_eq_true rfl, Nat.le_of_ble_eq_true rfl⟩) (vW hP hK hD (rM_12 hK hP)) rfl rfl hl.1 rfl (lv_room (Nat.le_of_ble_eq_true rfl)) dX12_readName_147 ⟨Nat.le_of_ble_eq_true rfl, Nat.le_of_ble_eq_true rfl⟩) hS (fun q _ h => hFc q h) hFc (fun r324 u t H1 locs ht9 hvm hr324 hB hz1 hk1 hS => ?_)
                        obtain ⟨n325, n326, hn325, xr324_0, xr324_1, hr324, rfl⟩ := hr324
                        have hn325 : 0 ≤ n325.toInt ∧ n325.toInt ≤ 5 := hn325
                        obtain ⟨hP, hD⟩ := hB
                        rw [ht9] at hP
                        generalize H1 = H at hP hS ⊢
                        have hP : va_P (dC, dI) classes (WM h g ca (u2 (u2 (u2 (u2 (u2 iv 12 34 n319) 12 37 n320) 12 38 n321) 12 35 n325) 12 36 n326) lv (u2 (u2 (u2 fa 12 30 f19) 12 31 w308_a_12_31) 12 28 f316) la) H := hP
                        have hD : va_D A (WM h g ca (u2 (u2 (u2 (u2 (u2 iv 12 34 n319) 12 37 n320) 12 38 n321) 12 35 n325) 12 36 n326) lv (u2 (u2 (u2 fa 12 30 f19) 12 31 w308_a_12_31) 12 28 f316) la) := (show va_D _ (WM h g ca (u2 (u2 (u2 (u2 (u2 iv 12 34 n319) 12 37 n320) 12 38 n321) 12 35 n325) 12 36 n326) lv (u2 (u2 (u2 fa 12 30 f19) 12 31 w308_a_12_31) 12 28 f316) la) from hD).weaken (fun _ _ _ h => hFc _ h)
                        have xr324_0 : 1 ≤ (n325 : Int32).toInt := xr324_0
                        have : (1 : Int32).toInt = 1 := (by decide)
                        have xr324_1 : (((n313 : Int32).toInt = 0 ∧ (n325 : Int32).toInt = (1 : Int32).toInt ∧ (n326 : Int32).toInt = (n320 : Int32).toInt) ∨ ((n313 : Int32).toInt ≠ 0 ∧ (n325 : Int32).toInt = (n313 : Int32).toInt ∧ (n326 : Int32).toInt = (n314 : Int32).toInt)) := xr324_1
                        obtain rfl : 0 = r324 := hr324.symm
                        refine lv_if_eq (tgt := 174) hx hb dX12_readName_150 (by decide) (fun c327 => ?_) (fun c327 => ?_)
                        · skip
                          have hP9 : va_P (dC, dI) classes (WM h g ca (u2 (u2 (u2 (u2 (u2 iv 12 34 n319) 12 35 n325) 12 36 n326) 12 37 n320) 12 38 n321) lv (u2 (u2 (u2 (u2 fa 12 28 f316) 12 29 (fa 12 29)) 12 30 f19) 12 31 w308_a_12_31) la) H := hP
                          have hD9 : va_D A (WM h g ca (u2 (u2 (u2 (u2 (u2 iv 12 34 n319) 12 35 n325) 12 36 n326) 12 37 n320) 12 38 n321) lv (u2 (u2 (u2 (u2 fa 12 28 f316) 12 29 (fa 12 29)) 12 30 f19) 12 31 w308_a_12_31) la) := hD
                          exact W.vret hx hb hr (fun t ht9 hW => ⟨⟨((u2 (u2 (u2 (u2 (u2 iv 12 34 n319) 12 35 n325) 12 36 n326) 12 37 n320) 12 38 n321), lv, (u2 (u2 (u2 (u2 fa 12 28 f316) 12 29 (fa 12 29)) 12 30 f19) 12 31 w308_a_12_31), la), rfl, ⟨f316, (fa 12 29), f19, w308_a_12_31, n319, n325, n326, n320, n321, hf19, (show inb (0, 200) n319 from ⟨by omega, by omega⟩), (show inb (0, 5) n325 from ⟨by omega, by omega⟩), (show inb (0, 200) n320 from ⟨by omega, by omega⟩), (show inb (0, 200) n321 from ⟨by omega, by omega⟩), (show (iv 12 34).toInt ≤ (n319 : Int32).toInt from by omega), (show ∀ j : Nat, j ≠ k.toNatClampNeg → f316 j = (fa 12 28) j from fun j hj => by rw [ef316, upd_ne (show j ≠ k.toNatClampNeg from hj)]), (show ∀ j : Nat, j ≠ k.toNatClampNeg → (fa 12 29) j = (fa 12 29) j from fun j hj => rfl), (show ∀ j : Nat, j ≠ k.toNatClampNeg → f19 j = (fa 12 30) j from fun j hj => by rw [ef19, upd_ne (show j ≠ k.toNatClampNeg from hj)]), (show ∀ j : Nat, (j : Int) < 8 * (k).toInt → w308_a_12_31 j = (fa 12 31) j from hq309_0), (show (((n325 : Int32).toInt ≠ 0 ∧ ∃ (b v1 v2 : Int) (wd : Nat → Int), NmP (fun j => sg ((fa 12 32) j).toInt) ((iv 12 33) : Int32).toInt (iv 12 34).toInt (n325 : Int32).toInt (n326 : Int32).toInt b v1 v2 wd) ∨ ((n325 : Int32).toInt = 0 ∧ (n326 : Int32).toInt = (iv 12 36).toInt ∧ NmP (fun j => sg ((fa 12 32) j).toInt) ((iv 12 33) : Int32).toInt (iv 12 34).toInt 0 0 (n319 : Int32).toInt (f316 ((k).toInt).toNat).toInt ((fa 12 29) ((k).toInt).toNat).toInt (fun j => if (j : Int) < (f19 ((k).toInt).toNat).toInt then (w308_a_12_31 (8 * ((k).toInt).toNat + j)).toInt else 0))) from (by
                                have hE30 : f19 (k.toInt).toNat = n4 := (by rw [ef19]; exact upd_eq)
                                have hE28 : f316 (k.toInt).toNat = r311 := (by rw [ef316]; exact upd_eq)
                                have hw : ∀ j : Nat, j < 8 → ((j : Int) < (n2 : Int32).toInt - (n3 : Int32).toInt → (fun j : Nat => if (j : Int) < (f19 (k.toInt).toNat).toInt then (w308_a_12_31 (8 * (k.toInt).toNat + j)).toInt else 0) j = (fun j => sg (fa 12 32 j).toInt) (((n3 : Int32).toInt).toNat + j)) ∧ ((n2 : Int32).toInt - (n3 : Int32).toInt ≤ (j : Int) → (fun j : Nat => if (j : Int) < (f19 (k.toInt).toNat).toInt then (w308_a_12_31 (8 * (k.toInt).toNat + j)).toInt else 0) j = 0) := by
                                  intro j hj
                                  refine ⟨fun h9 => ?_, fun h9 => ?_⟩
                                  · show (if (j : Int) < (f19 (k.toInt).toNat).toInt then (w308_a_12_31 (8 * (k.toInt).toNat + j)).toInt else 0) = sg (fa 12 32 (((n3 : Int32).toInt).toNat + j)).toInt
                                    rw [hE30, if_pos (by omega), hq309_1 j (by omega)]
                                    have hg := sg_i (fa 12 32 (((n3 : Int32).toInt).toNat + j)).toInt
                                    have hr : 97 ≤ sg (fa 12 32 (((n3 : Int32).toInt).toNat + j)).toInt ∧ sg (fa 12 32 (((n3 : Int32).toInt).toNat + j)).toInt ≤ 122 := (xr1_3.2.1 (((n3 : Int32).toInt).toNat + j) (by omega) (by omega)).2
                                    omega
                                  · show (if (j : Int) < (f19 (k.toInt).toNat).toInt then (w308_a_12_31 (8 * (k.toInt).toNat + j)).toInt else 0) = 0
                                    rw [hE30, if_neg (by omega)]
                                rcases xr311_2 with ⟨yn1q, -⟩ | ⟨yn1q, yn2q, yn3q⟩
                                · exfalso; omega
                                · have g := ((cw_to xr322_0).resolve_left (fun q => by omega)).2
                                  rw [xr318_1] at g
                                  exact Or.inl ⟨by omega, 0, _, 0, _, _, _, xr1_2, xr1_3, Or.inr (Or.inr ⟨⟨by omega, by omega⟩, hw, _, _, _, yn3q, Or.inr ⟨rfl, _, _, xr318_2, xr318_3, Or.inl ⟨g, by omega, by omega⟩⟩⟩)⟩)), rfl⟩, by rw [ht9]; exact hP9, hD9⟩, hS.F ht9⟩) hS.2.2 dX12_readName_174
                        · exact absurd rfl c327
                      · obtain rfl : r322 = 1 := z_of (by decide) q323
                        have : (1 : Int32).toInt = 1 := by decide
                        refine vp_callSi (W.runV (As := [.int 1, .int 1, .int n320]) (rest := []) ⟨hx, hb, hml, hown, ht⟩ (c_X12_want_1 l dC dI h g ca (u2 (u2 (u2 (u2 (u2 iv 12 34 n319) 12 37 n320) 12 38 n321) 12 35 n313) 12 36 n314) lv (u2 (u2 (u2 fa 12 30 f19) 12 31 w308_a_12_31) 12 28 f316) la (IX_a (c := 12) (k := 28) (IX_a (c := 12) (k := 31) (IX_a (c := 12) (k := 30) (IX_i (c := 12) (k := 36) (IX_i (c := 12) (k := 35) (IX_i (c := 12) (k := 38) (IX_i (c := 12) (k := 37) (IX_i (c := 12) (k := 34) hI (show inb (0, 200) n319 from ⟨by omega, by omega⟩)) (show inb (0, 200) n320 from ⟨by omega, by omega⟩)) (show inb (0, 200) n321 from ⟨by omega, by omega⟩)) (show inb (0, 5) n313 from ⟨by omega, by omega⟩)) (full_i _)) hf19) hw308_a_12_31) hf316) 1 n320) (kV 3 ht m_1472 m_1474 m_50 m_89 m_1475 rfl rfl hd_X12_want_v ⟨Nat.le_of_ble_eq_true rfl, Nat.le_of_ble_eq_true rfl⟩) (vR hP hK (rM_12 hK hP)) rfl rfl hl.1 rfl (lv_room (Nat.le_of_ble_eq_true rfl)) dX12_readName_147 ⟨Nat.le_of_ble_eq_true rfl, Nat.le_of_ble_eq_true rfl⟩) (fun r328 hr328 => ?_)
                        rcases hr328 with ⟨rfl, fr328⟩ | ⟨rfl, fr328⟩
                        · skip
                          have fr328 : ((n313 : Int32).toInt = 0) := fr328
                          refine lv_if_eq (tgt := 174) hx hb dX12_readName_150 (by decide) (fun c329 => ?_) (fun c329 => ?_)
                          · exact absurd c329 (by decide)
                          · skip
                            refine lv_aload_n hx hb dX12_readName_153 rfl (lv_at hl 1 rfl) ?_
                            refine gM_12_29 hx hb ht hown hK hP m_1168 dX12_readName_154 ?_
                            refine lv_iload_n hx hb dX12_readName_157 rfl (lv_at hl 2 rfl) ?_
                            refine lv_aload_n hx hb dX12_readName_158 rfl (lv_at hl 1 rfl) ?_
                            refine lv_aload_n hx hb dX12_readName_159 rfl (lv_at hl 1 rfl) ?_
                            refine gM_12_28 hx hb ht hown hK hP m_1167 dX12_readName_160 ?_
                            refine lv_iload_n hx hb dX12_readName_163 rfl (lv_at hl 2 rfl) ?_
                            refine lM_12_28 hx hb hK hP (f := f316) rfl (vp_in_iff.mpr ⟨by omega, by omega⟩) dX12_readName_164 ?_
                            refine lv_topi (fun v330 ev330 => ?_)
                            have hl8 := congrArg Int32.toInt (ev330.trans (show f316 k.toNatClampNeg = r311 from (by rw [ef316]; exact upd_eq)))
                            have : 0 ≤ (v330 : Int32).toInt ∧ (v330 : Int32).toInt ≤ 9999 := ⟨by omega, by omega⟩
                            refine lv_iconst (v := 1) hx hb dX12_readName_165 (by decide) ?_
                            refine lv_iadd hx hb dX12_readName_166 ?_
                            refine lv_topi (fun v331 ev331 => ?_)
                            have tv331 := z_add ev331 (rfl : (v330).toInt = _) (by decide : (1 : Int32).toInt = 1) (by omega) (by omega)
                            refine lv_sipush (v := 9999) hx hb dX12_readName_167 (by decide) ?_
                            have hFc := free_all hD hS hA
                            refine va_calli (va_runV (As := [.int v331, .int 9999]) (rest := [.int k, .ref (g 12 29)]) ⟨hx, hb, hml, hown, ht⟩ (c_X12_takeNumber_r l dC dI H.size h g ca (u2 (u2 (u2 (u2 (u2 iv 12 34 n319) 12 37 n320) 12 38 n321) 12 35 n313) 12 36 n314) lv (u2 (u2 (u2 fa 12 30 f19) 12 31 w308_a_12_31) 12 28 f316) la (IX_a (c := 12) (k := 28) (IX_a (c := 12) (k := 31) (IX_a (c := 12) (k := 30) (IX_i (c := 12) (k := 36) (IX_i (c := 12) (k := 35) (IX_i (c := 12) (k := 38) (IX_i (c := 12) (k := 37) (IX_i (c := 12) (k := 34) hI (show inb (0, 200) n319 from ⟨by omega, by omega⟩)) (show inb (0, 200) n320 from ⟨by omega, by omega⟩)) (show inb (0, 200) n321 from ⟨by omega, by omega⟩)) (show inb (0, 5) n313 from ⟨by omega, by omega⟩)) (full_i _)) hf19) hw308_a_12_31) hf316) v331 9999 (show 0 ≤ (n313 : Int32).toInt ∧ (n313 : Int32).toInt ≤ 0 from ⟨by omega, by omega⟩) hJT) (kV 2 ht m_1490 m_1492 m_53 m_89 m_1493 rfl rfl hd_X12_takeNumber_v ⟨Nat.le_of_ble_eq_true rfl, Nat.le_of_ble_eq_true rfl⟩) (vW hP hK hD (rM_12 hK hP)) rfl rfl hl.1 rfl (lv_room (Nat.le_of_ble_eq_true rfl)) dX12_readName_170 ⟨Nat.le_of_ble_eq_true rfl, Nat.le_of_ble_eq_true rfl⟩) hS (fun q _ h => hFc q h) hFc (fun r332 u t H1 locs ht9 hvm hr332 hB hz1 hk1 hS => ?_)
                            obtain ⟨n333, n334, n335, n336, hn333, hn334, hn336, xr332_0, xr332_1, xr332_2, xr332_3, hr332, rfl⟩ := hr332
                            have hn333 : 0 ≤ n333.toInt ∧ n333.toInt ≤ 200 := hn333
                            have hn334 : 0 ≤ n334.toInt ∧ n334.toInt ≤ 5 := hn334
                            have hn336 : 0 ≤ n336.toInt ∧ n336.toInt ≤ 200 := hn336
                            obtain ⟨hP, hD⟩ := hB
                            rw [ht9] at hP
                            generalize H1 = H at hP hS ⊢
                            have hP : va_P (dC, dI) classes (WM h g ca (u2 (u2 (u2 (u2 (u2 iv 12 34 n333) 12 37 n336) 12 38 n321) 12 35 n334) 12 36 n335) lv (u2 (u2 (u2 fa 12 30 f19) 12 31 w308_a_12_31) 12 28 f316) la) H := hP
                            have hD : va_D A (WM h g ca (u2 (u2 (u2 (u2 (u2 iv 12 34 n333) 12 37 n336) 12 38 n321) 12 35 n334) 12 36 n335) lv (u2 (u2 (u2 fa 12 30 f19) 12 31 w308_a_12_31) 12 28 f316) la) := (show va_D _ (WM h g ca (u2 (u2 (u2 (u2 (u2 iv 12 34 n333) 12 37 n336) 12 38 n321) 12 35 n334) 12 36 n335) lv (u2 (u2 (u2 fa 12 30 f19) 12 31 w308_a_12_31) 12 28 f316) la) from hD).weaken (fun _ _ _ h => hFc _ h)
                            have xr332_0 : (n319 : Int32).toInt ≤ (n333 : Int32).toInt := xr332_0
                            have xr332_1 : ((n334 : Int32).toInt ≠ 0 ∨ ((v331 : Int32).toInt ≤ (r332 : Int32).toInt ∧ (r332 : Int32).toInt ≤ (9999 : Int32).toInt)) := xr332_1
                            have xr332_2 : (((n334 : Int32).toInt ≠ 0 ∧ Num (fun j => sg ((fa 12 32) j).toInt) ((iv 12 33) : Int32).toInt (v331 : Int32).toInt (9999 : Int32).toInt (n319 : Int32).toInt (n334 : Int32).toInt (n335 : Int32).toInt 0 0) ∨ ((n334 : Int32).toInt = 0 ∧ (n335 : Int32).toInt = (n314 : Int32).toInt ∧ Num (fun j => sg ((fa 12 32) j).toInt) ((iv 12 33) : Int32).toInt (v331 : Int32).toInt (9999 : Int32).toInt (n319 : Int32).toInt 0 0 (r332 : Int32).toInt (n333 : Int32).toInt)) := xr332_2
                            have xr332_3 : Sk (fun j => sg ((fa 12 32) j).toInt) ((iv 12 33) : Int32).toInt (n319 : Int32).toInt (n336 : Int32).toInt := xr332_3
                            refine tM_12_29 hx hb hK hP hD hS (f0 := (fa 12 29)) rfl (i := k) (x := r332) (vp_in_iff.mpr ⟨by omega, by omega⟩) dX12_readName_173 (fun f337 ef337 H locs hP hD hS => ?_)
                            have hf337 : ∀ j, inb (bA 12 29 j) (f337 j) := fun j => full_i _
                            have hP9 : va_P (dC, dI) classes (WM h g ca (u2 (u2 (u2 (u2 (u2 iv 12 34 n333) 12 35 n334) 12 36 n335) 12 37 n336) 12 38 n321) lv (u2 (u2 (u2 (u2 fa 12 28 f316) 12 29 f337) 12 30 f19) 12 31 w308_a_12_31) la) H := hP
                            have hD9 : va_D A (WM h g ca (u2 (u2 (u2 (u2 (u2 iv 12 34 n333) 12 35 n334) 12 36 n335) 12 37 n336) 12 38 n321) lv (u2 (u2 (u2 (u2 fa 12 28 f316) 12 29 f337) 12 30 f19) 12 31 w308_a_12_31) la) := hD
                            exact W.vret hx hb hr (fun t ht9 hW => ⟨⟨((u2 (u2 (u2 (u2 (u2 iv 12 34 n333) 12 35 n334) 12 36 n335) 12 37 n336) 12 38 n321), lv, (u2 (u2 (u2 (u2 fa 12 28 f316) 12 29 f337) 12 30 f19) 12 31 w308_a_12_31), la), rfl, ⟨f316, f337, f19, w308_a_12_31, n333, n334, n335, n336, n321, hf19, (show inb (0, 200) n333 from ⟨by omega, by omega⟩), (show inb (0, 5) n334 from ⟨by omega, by omega⟩), (show inb (0, 200) n336 from ⟨by omega, by omega⟩), (show inb (0, 200) n321 from ⟨by omega, by omega⟩), (show (iv 12 34).toInt ≤ (n333 : Int32).toInt from by omega), (show ∀ j : Nat, j ≠ k.toNatClampNeg → f316 j = (fa 12 28) j from fun j hj => by rw [ef316, upd_ne (show j ≠ k.toNatClampNeg from hj)]), (show ∀ j : Nat, j ≠ k.toNatClampNeg → f337 j = (fa 12 29) j from fun j hj => by rw [ef337, upd_ne (show j ≠ k.toNatClampNeg from hj)]), (show ∀ j : Nat, j ≠ k.toNatClampNeg → f19 j = (fa 12 30) j from fun j hj => by rw [ef19, upd_ne (show j ≠ k.toNatClampNeg from hj)]), (show ∀ j : Nat, (j : Int) < 8 * (k).toInt → w308_a_12_31 j = (fa 12 31) j from hq309_0), (show (((n334 : Int32).toInt ≠ 0 ∧ ∃ (b v1 v2 : Int) (wd : Nat → Int), NmP (fun j => sg ((fa 12 32) j).toInt) ((iv 12 33) : Int32).toInt (iv 12 34).toInt (n334 : Int32).toInt (n335 : Int32).toInt b v1 v2 wd) ∨ ((n334 : Int32).toInt = 0 ∧ (n335 : Int32).toInt = (iv 12 36).toInt ∧ NmP (fun j => sg ((fa 12 32) j).toInt) ((iv 12 33) : Int32).toInt (iv 12 34).toInt 0 0 (n333 : Int32).toInt (f316 ((k).toInt).toNat).toInt (f337 ((k).toInt).toNat).toInt (fun j => if (j : Int) < (f19 ((k).toInt).toNat).toInt then (w308_a_12_31 (8 * ((k).toInt).toNat + j)).toInt else 0))) from (by
                                  have hE30 : f19 (k.toInt).toNat = n4 := (by rw [ef19]; exact upd_eq)
                                  have hE28 : f316 (k.toInt).toNat = r311 := (by rw [ef316]; exact upd_eq)
                                  have hw : ∀ j : Nat, j < 8 → ((j : Int) < (n2 : Int32).toInt - (n3 : Int32).toInt → (fun j : Nat => if (j : Int) < (f19 (k.toInt).toNat).toInt then (w308_a_12_31 (8 * (k.toInt).toNat + j)).toInt else 0) j = (fun j => sg (fa 12 32 j).toInt) (((n3 : Int32).toInt).toNat + j)) ∧ ((n2 : Int32).toInt - (n3 : Int32).toInt ≤ (j : Int) → (fun j : Nat => if (j : Int) < (f19 (k.toInt).toNat).toInt then (w308_a_12_31 (8 * (k.toInt).toNat + j)).toInt else 0) j = 0) := by
                                    intro j hj
                                    refine ⟨fun h9 => ?_, fun h9 => ?_⟩
                                    · show (if (j : Int) < (f19 (k.toInt).toNat).toInt then (w308_a_12_31 (8 * (k.toInt).toNat + j)).toInt else 0) = sg (fa 12 32 (((n3 : Int32).toInt).toNat + j)).toInt
                                      rw [hE30, if_pos (by omega), hq309_1 j (by omega)]
                                      have hg := sg_i (fa 12 32 (((n3 : Int32).toInt).toNat + j)).toInt
                                      have hr : 97 ≤ sg (fa 12 32 (((n3 : Int32).toInt).toNat + j)).toInt ∧ sg (fa 12 32 (((n3 : Int32).toInt).toNat + j)).toInt ≤ 122 := (xr1_3.2.1 (((n3 : Int32).toInt).toNat + j) (by omega) (by omega)).2
                                      omega
                                    · show (if (j : Int) < (f19 (k.toInt).toNat).toInt then (w308_a_12_31 (8 * (k.toInt).toNat + j)).toInt else 0) = 0
                                      rw [hE30, if_neg (by omega)]
                                  rcases xr311_2 with ⟨yn1q, -⟩ | ⟨yn1q, yn2q, yn3q⟩
                                  · exfalso; omega
                                  · have g := ((cw_to xr322_0).resolve_right (fun q => by omega)).2
                                    rw [xr318_1] at g
                                    have hl9 := congrArg Int32.toInt (ev330.trans (show f316 k.toNatClampNeg = r311 from hE28))
                                    have hp9 : (v331 : Int32).toInt = (r311 : Int32).toInt + 1 := by omega
                                    rcases xr332_2 with ⟨ym1q, ym2q⟩ | ⟨ym1q, ym2q, ym3q⟩
                                    · rw [hp9] at ym2q; exact Or.inl ⟨by omega, 0, _, 0, _, _, _, xr1_2, xr1_3, Or.inr (Or.inr ⟨⟨by omega, by omega⟩, hw, _, _, _, yn3q, Or.inr ⟨rfl, _, _, xr318_2, xr318_3, Or.inr ⟨g, _, _, _, ym2q, Or.inl ⟨by omega, rfl, rfl⟩⟩⟩⟩)⟩
                                    · rw [hp9] at ym3q; have hE29 : f337 (k.toInt).toNat = r332 := (by rw [ef337]; exact upd_eq)
                                      rw [hE28, hE29]; exact Or.inr ⟨by omega, by omega, _, _, xr1_2, xr1_3, Or.inr (Or.inr ⟨⟨by omega, by omega⟩, hw, _, _, _, yn3q, Or.inr ⟨rfl, _, _, xr318_2, xr318_3, Or.inr ⟨g, _, _, _, ym3q, Or.inr ⟨rfl, rfl, rfl⟩⟩⟩⟩)⟩)), rfl⟩, by rw [ht9]; exact hP9, hD9⟩, hS.F ht9⟩) hS.2.2 dX12_readName_174
                        · skip
                          have fr328 : ¬ ((n313 : Int32).toInt = 0) := fr328
                          exfalso; omega
                  · have fc310 := z_nle (rfl : (n4).toInt = _) (rfl : (x308_2).toInt = _) c310
                    refine lv_aload_n hx hb dX12_readName_75 rfl (lv_at hl 1 rfl) ?_
                    refine gM_12_31 hx hb ht hown hK hP m_1170 dX12_readName_76 ?_
                    refine lv_bipush (v := 8) hx hb dX12_readName_79 (by decide) ?_
                    refine lv_iload_n hx hb dX12_readName_81 rfl (lv_at hl 2 rfl) ?_
                    refine lv_imul hx hb dX12_readName_82 ?_
                    refine lv_topi (fun v338 ev338 => ?_)
                    have tv338 := z_mul ev338 (by decide : (8 : Int32).toInt = 8) (rfl : (k).toInt = _) (by omega) (by omega)
                    refine lv_iload_n hx hb dX12_readName_83 rfl (lv_at hl 0 rfl) ?_
                    refine lv_iadd hx hb dX12_readName_84 ?_
                    refine lv_topi (fun v339 ev339 => ?_)
                    have tv339 := z_add ev339 (rfl : (v338).toInt = _) (rfl : (x308_2).toInt = _) (by omega) (by omega)
                    refine lv_aload_n hx hb dX12_readName_85 rfl (lv_at hl 1 rfl) ?_
                    refine gM_12_32 hx hb ht hown hK hP m_1171 dX12_readName_86 ?_
                    refine lv_aload_n hx hb dX12_readName_89 rfl (lv_at hl 1 rfl) ?_
                    refine gM_12_37 hx hb ht hown hK hP m_1176 (v := n3) rfl dX12_readName_90 ?_
                    refine lv_iload_n hx hb dX12_readName_93 rfl (lv_at hl 0 rfl) ?_
                    refine lv_iadd hx hb dX12_readName_94 ?_
                    refine lv_topi (fun v340 ev340 => ?_)
                    have tv340 := z_add ev340 (rfl : (n3).toInt = _) (rfl : (x308_2).toInt = _) (by omega) (by omega)
                    have : 0 ≤ (v340 : Int32).toInt ∧ (v340 : Int32).toInt ≤ 199 := ⟨by omega, by omega⟩
                    refine lM_12_32 hx hb hK hP (f := (fa 12 32)) rfl (vp_in_iff.mpr ⟨by omega, by omega⟩) dX12_readName_95 ?_
                    refine lv_topi (fun v341 ev341 => ?_)
                    refine tM_12_31 hx hb hK hP hD hS (f0 := w308_a_12_31) rfl (i := v339) (x := v341) (vp_in_iff.mpr ⟨by omega, by omega⟩) dX12_readName_96 (fun f342 ef342 H locs hP hD hS => ?_)
                    have hf342 : ∀ j, inb (bA 12 31 j) (f342 j) := fun j => full_i _
                    have hP : va_P (dC, dI) classes (WM h g ca (u2 (u2 (u2 iv 12 34 n2) 12 37 n3) 12 38 n4) lv (u2 (u2 fa 12 30 f19) 12 31 f342) la) H := hP
                    have hD : va_D A (WM h g ca (u2 (u2 (u2 iv 12 34 n2) 12 37 n3) 12 38 n4) lv (u2 (u2 fa 12 30 f19) 12 31 f342) la) := hD
                    obtain ⟨v343, ev343⟩ : ∃ y : Int32, y = x308_2 + 1 := ⟨_, rfl⟩
                    have tv343 := z_add ev343 rfl (by decide : (1 : Int32).toInt = 1) (by omega) (by omega)
                    refine lv_iinc (v := v343) (lv' := [(2, .int v343), (0, .ref h), (1, .int k)]) hx hb dX12_readName_97 hl (k := 0) rfl (by rw [ev343]; rfl) (by decide) rfl (fun ls hl => ?_)
                    refine lv_goto (tgt := 67) hx hb dX12_readName_100 (by decide) ?_
                    exact ih309 v343 f342 ⟨by omega, by omega⟩ hf342 (show ∀ j : Nat, (j : Int) < 8 * (k).toInt → f342 j = (fa 12 31) j from fun j hj => by rw [ef342, upd_ne (by show j ≠ (v339 : Int32).toInt.toNat; omega)]; exact hq309_0 j hj) (show ∀ j : Nat, (j : Int) < (v343 : Int32).toInt → f342 (8 * ((k).toInt).toNat + j) = (fa 12 32) (((n3 : Int32).toInt).toNat + j) from (fun j hj => by
                          by_cases hj2 : (j : Int) < (x308_2 : Int32).toInt
                          · rw [ef342, upd_ne (by show _ ≠ (v339 : Int32).toInt.toNat; omega)]; exact hq309_1 j hj2
                          · have hj4 : 8 * (k.toInt).toNat + j = (v339 : Int32).toNatClampNeg := by show _ = (v339 : Int32).toInt.toNat; omega
                            rw [hj4, ef342, upd_eq, ev341]
                            exact congrArg (fa 12 32) (by show (v340 : Int32).toInt.toNat = _; omega))) (show (v343 : Int32).toInt ≤ (n4 : Int32).toInt from by omega) (show 0 ≤ (v343 : Int32).toInt from by omega) (by omega) _ _ ls hP hD hS (lv_sub hl [0, 1, 2] rfl)
              have : (0 : Int32).toInt = 0 := (by decide)
              exact lp309 9 0 (fa 12 31) ⟨by decide, by decide⟩ (hI.2 12 31) (show ∀ j : Nat, (j : Int) < 8 * (k).toInt → (fa 12 31) j = (fa 12 31) j from fun j hj => rfl) (show ∀ j : Nat, (j : Int) < (0 : Int32).toInt → (fa 12 31) (8 * ((k).toInt).toNat + j) = (fa 12 32) (((n3 : Int32).toInt).toNat + j) from fun j hj => absurd hj (by omega)) (show (0 : Int32).toInt ≤ (n4 : Int32).toInt from by omega) (show 0 ≤ (0 : Int32).toInt from by omega) (by first | decide | omega) _ _ ls hP hD hS (lv_sub hl [0, 1, 2] rfl)
            · exact absurd c18 (by decide)
          · skip
            have fr17 : ¬ (((iv 12 35) : Int32).toInt = 0) := fr17
            exfalso; omega
    · skip
      have fr10 : ¬ (((iv 12 35) : Int32).toInt = 0) := fr10
      exfalso; omega
set_option maxHeartbeats 4000000 in
set_option maxRecDepth 100000 in
/-- X12_leastOf -/
theorem c_X12_leastOf_r (l : Launch) (dC : Nat → ClassId) (dI : Nat → Nat → Nat) (a : Int32) : Met l yX12_leastOf (wc yX12_leastOf cX12_leastOf 1 (some .int)) ({ frames := 0, cells := 0, slots := 0, locals := 0 } : Room) (pR (dC, dI) classes [] [] [.int a]) (vp_Si (fun r => (0 ≤ r.toInt ∧ r.toInt ≤ 1) ∧ ((((a.toInt = 1 ∨ a.toInt = 3) ∧ r.toInt = 1) ∨ (¬ (a.toInt = 1 ∨ a.toInt = 3) ∧ r.toInt = 0))))) 0 0 (fun _ => False) := by
  refine Met.ofW (cc := cX12_leastOf) (maxL := 1) (ret := (some .int)) (by decide) rfl ?_
  intro p e s m args below meth c s₁ B hml hv
  obtain ⟨rfl, hP, hK⟩ := hv
  have hx := B.exec
  have hb := B.bytes
  have hr := B.returns
  have ht := tb_tl (atoms_spec (ws := wc yX12_leastOf cX12_leastOf 1 (some .int)) B.pre)
  have hown : s.vm.findClass RX12 = some m.cls := findClass_of_methodNamed B.named
  have hlocks := B.notSynchronized
  have hl := lv_entry [.int a] (n := 1) (Nat.le_of_ble_eq_true rfl)
  rw [lg_entry_eq]
  generalize (lg_sl [.int a] ++ List.replicate (1 - (lg_sl [.int a]).length) Slot.unset).toArray = ls at hl ⊢
  have hl : lv_has ls 1 [(0, .int a)] := hl
  refine lv_iload_n hx hb dX12_leastOf_0 rfl (lv_at hl 0 rfl) ?_
  refine lv_iconst (v := 1) hx hb dX12_leastOf_1 (by decide) ?_
  refine lv_icmp_eq (tgt := 10) hx hb dX12_leastOf_2 (by decide) (fun c1 => ?_) (fun c1 => ?_)
  · have fc1 := z_eq (rfl : (a).toInt = _) (by decide : (1 : Int32).toInt = 1) c1
    refine lv_iconst (v := 1) hx hb dX12_leastOf_10 (by decide) ?_
    refine lv_goto (tgt := 15) hx hb dX12_leastOf_11 (by decide) ?_
    have : (1 : Int32).toInt = 1 := (by decide)
    exact W.iret (v := 1) hx hb hr (fun t ht9 hW => ⟨1, rfl, ⟨⟨by decide, by decide⟩, (show ((((a).toInt = 1 ∨ (a).toInt = 3) ∧ (1 : Int32).toInt = 1) ∨ (¬ ((a).toInt = 1 ∨ (a).toInt = 3) ∧ (1 : Int32).toInt = 0)) from by omega)⟩, ht9⟩) (fun q hq => by cases hq) dX12_leastOf_15
  · have fc1 := z_ne (rfl : (a).toInt = _) (by decide : (1 : Int32).toInt = 1) c1
    refine lv_iload_n hx hb dX12_leastOf_5 rfl (lv_at hl 0 rfl) ?_
    refine lv_iconst (v := 3) hx hb dX12_leastOf_6 (by decide) ?_
    refine lv_icmp_ne (tgt := 14) hx hb dX12_leastOf_7 (by decide) (fun c2 => ?_) (fun c2 => ?_)
    · have fc2 := z_ne (rfl : (a).toInt = _) (by decide : (3 : Int32).toInt = 3) c2
      refine lv_iconst (v := 0) hx hb dX12_leastOf_14 (by decide) ?_
      have : (0 : Int32).toInt = 0 := (by decide)
      exact W.iret (v := 0) hx hb hr (fun t ht9 hW => ⟨0, rfl, ⟨⟨by decide, by decide⟩, (show ((((a).toInt = 1 ∨ (a).toInt = 3) ∧ (0 : Int32).toInt = 1) ∨ (¬ ((a).toInt = 1 ∨ (a).toInt = 3) ∧ (0 : Int32).toInt = 0)) from by omega)⟩, ht9⟩) (fun q hq => by cases hq) dX12_leastOf_15
    · have fc2 := z_eq (rfl : (a).toInt = _) (by decide : (3 : Int32).toInt = 3) c2
      refine lv_iconst (v := 1) hx hb dX12_leastOf_10 (by decide) ?_
      refine lv_goto (tgt := 15) hx hb dX12_leastOf_11 (by decide) ?_
      have : (1 : Int32).toInt = 1 := (by decide)
      exact W.iret (v := 1) hx hb hr (fun t ht9 hW => ⟨1, rfl, ⟨⟨by decide, by decide⟩, (show ((((a).toInt = 1 ∨ (a).toInt = 3) ∧ (1 : Int32).toInt = 1) ∨ (¬ ((a).toInt = 1 ∨ (a).toInt = 3) ∧ (1 : Int32).toInt = 0)) from by omega)⟩, ht9⟩) (fun q hq => by cases hq) dX12_leastOf_15
set_option maxHeartbeats 4000000 in
set_option maxRecDepth 100000 in
/-- X12_mostOf -/
theorem c_X12_mostOf_r (l : Launch) (dC : Nat → ClassId) (dI : Nat → Nat → Nat) (a : Int32) : Met l yX12_mostOf (wc yX12_mostOf cX12_mostOf 1 (some .int)) ({ frames := 0, cells := 0, slots := 0, locals := 0 } : Room) (pR (dC, dI) classes [] [] [.int a]) (vp_Si (fun r => (2 ≤ r.toInt ∧ r.toInt ≤ 999) ∧ (((a.toInt = 0 ∧ r.toInt = 300) ∨ (a.toInt = 1 ∧ r.toInt = 9) ∨ (a.toInt = 2 ∧ r.toInt = 200) ∨ (a.toInt = 3 ∧ r.toInt = 2) ∨ ((a.toInt < 0 ∨ 3 < a.toInt) ∧ r.toInt = 999))))) 0 0 (fun _ => False) := by
  refine Met.ofW (cc := cX12_mostOf) (maxL := 1) (ret := (some .int)) (by decide) rfl ?_
  intro p e s m args below meth c s₁ B hml hv
  obtain ⟨rfl, hP, hK⟩ := hv
  have hx := B.exec
  have hb := B.bytes
  have hr := B.returns
  have ht := tb_tl (atoms_spec (ws := wc yX12_mostOf cX12_mostOf 1 (some .int)) B.pre)
  have hown : s.vm.findClass RX12 = some m.cls := findClass_of_methodNamed B.named
  have hlocks := B.notSynchronized
  have hl := lv_entry [.int a] (n := 1) (Nat.le_of_ble_eq_true rfl)
  rw [lg_entry_eq]
  generalize (lg_sl [.int a] ++ List.replicate (1 - (lg_sl [.int a]).length) Slot.unset).toArray = ls at hl ⊢
  have hl : lv_has ls 1 [(0, .int a)] := hl
  refine lv_iload_n hx hb dX12_mostOf_0 rfl (lv_at hl 0 rfl) ?_
  rcases sw_0_3 a with h1 | rfl | rfl | rfl | rfl
  · refine lv_tableOut (tgt := 45) hx hb dX12_mostOf_1 h1 (by decide) ?_
    refine lv_sipush (v := 999) hx hb dX12_mostOf_45 (by decide) ?_
    have : (999 : Int32).toInt = 999 := (by decide)
    exact W.iret (v := 999) hx hb hr (fun t ht9 hW => ⟨999, rfl, ⟨⟨by decide, by decide⟩, (show (((a).toInt = 0 ∧ (999 : Int32).toInt = 300) ∨ ((a).toInt = 1 ∧ (999 : Int32).toInt = 9) ∨ ((a).toInt = 2 ∧ (999 : Int32).toInt = 200) ∨ ((a).toInt = 3 ∧ (999 : Int32).toInt = 2) ∨ (((a).toInt < 0 ∨ 3 < (a).toInt) ∧ (999 : Int32).toInt = 999)) from by omega)⟩, ht9⟩) (fun q hq => by cases hq) dX12_mostOf_48
  · refine lv_tableIn (tgt := 32) (off := 31) hx hb dX12_mostOf_1 (by decide) (by decide) rfl (by decide) ?_
    refine lv_sipush (v := 300) hx hb dX12_mostOf_32 (by decide) ?_
    have : (0 : Int32).toInt = 0 := (by decide)
    have : (300 : Int32).toInt = 300 := (by decide)
    exact W.iret (v := 300) hx hb hr (fun t ht9 hW => ⟨300, rfl, ⟨⟨by decide, by decide⟩, (show (((0 : Int32).toInt = 0 ∧ (300 : Int32).toInt = 300) ∨ ((0 : Int32).toInt = 1 ∧ (300 : Int32).toInt = 9) ∨ ((0 : Int32).toInt = 2 ∧ (300 : Int32).toInt = 200) ∨ ((0 : Int32).toInt = 3 ∧ (300 : Int32).toInt = 2) ∨ (((0 : Int32).toInt < 0 ∨ 3 < (0 : Int32).toInt) ∧ (300 : Int32).toInt = 999)) from by omega)⟩, ht9⟩) (fun q hq => by cases hq) dX12_mostOf_35
  · refine lv_tableIn (tgt := 36) (off := 35) hx hb dX12_mostOf_1 (by decide) (by decide) rfl (by decide) ?_
    refine lv_bipush (v := 9) hx hb dX12_mostOf_36 (by decide) ?_
    have : (1 : Int32).toInt = 1 := (by decide)
    have : (9 : Int32).toInt = 9 := (by decide)
    exact W.iret (v := 9) hx hb hr (fun t ht9 hW => ⟨9, rfl, ⟨⟨by decide, by decide⟩, (show (((1 : Int32).toInt = 0 ∧ (9 : Int32).toInt = 300) ∨ ((1 : Int32).toInt = 1 ∧ (9 : Int32).toInt = 9) ∨ ((1 : Int32).toInt = 2 ∧ (9 : Int32).toInt = 200) ∨ ((1 : Int32).toInt = 3 ∧ (9 : Int32).toInt = 2) ∨ (((1 : Int32).toInt < 0 ∨ 3 < (1 : Int32).toInt) ∧ (9 : Int32).toInt = 999)) from by omega)⟩, ht9⟩) (fun q hq => by cases hq) dX12_mostOf_38
  · refine lv_tableIn (tgt := 39) (off := 38) hx hb dX12_mostOf_1 (by decide) (by decide) rfl (by decide) ?_
    refine lv_sipush (v := 200) hx hb dX12_mostOf_39 (by decide) ?_
    have : (2 : Int32).toInt = 2 := (by decide)
    have : (200 : Int32).toInt = 200 := (by decide)
    exact W.iret (v := 200) hx hb hr (fun t ht9 hW => ⟨200, rfl, ⟨⟨by decide, by decide⟩, (show (((2 : Int32).toInt = 0 ∧ (200 : Int32).toInt = 300) ∨ ((2 : Int32).toInt = 1 ∧ (200 : Int32).toInt = 9) ∨ ((2 : Int32).toInt = 2 ∧ (200 : Int32).toInt = 200) ∨ ((2 : Int32).toInt = 3 ∧ (200 : Int32).toInt = 2) ∨ (((2 : Int32).toInt < 0 ∨ 3 < (2 : Int32).toInt) ∧ (200 : Int32).toInt = 999)) from by omega)⟩, ht9⟩) (fun q hq => by cases hq) dX12_mostOf_42
  · refine lv_tableIn (tgt := 43) (off := 42) hx hb dX12_mostOf_1 (by decide) (by decide) rfl (by decide) ?_
    refine lv_iconst (v := 2) hx hb dX12_mostOf_43 (by decide) ?_
    have : (3 : Int32).toInt = 3 := (by decide)
    have : (2 : Int32).toInt = 2 := (by decide)
    exact W.iret (v := 2) hx hb hr (fun t ht9 hW => ⟨2, rfl, ⟨⟨by decide, by decide⟩, (show (((3 : Int32).toInt = 0 ∧ (2 : Int32).toInt = 300) ∨ ((3 : Int32).toInt = 1 ∧ (2 : Int32).toInt = 9) ∨ ((3 : Int32).toInt = 2 ∧ (2 : Int32).toInt = 200) ∨ ((3 : Int32).toInt = 3 ∧ (2 : Int32).toInt = 2) ∨ (((3 : Int32).toInt < 0 ∨ 3 < (3 : Int32).toInt) ∧ (2 : Int32).toInt = 999)) from by omega)⟩, ht9⟩) (fun q hq => by cases hq) dX12_mostOf_44
theorem loN_e {a r : Int} (h : ((a = 1 ∨ a = 3) ∧ r = 1) ∨ (¬ (a = 1 ∨ a = 3) ∧ r = 0)) : r = loN a := by
  unfold loN; split
  · omega
  · omega
theorem hiN_e {a r : Int} (h : (a = 0 ∧ r = 300) ∨ (a = 1 ∧ r = 9) ∨ (a = 2 ∧ r = 200) ∨ (a = 3 ∧ r = 2) ∨ ((a < 0 ∨ 3 < a) ∧ r = 999)) : r = hiN a := by
  unfold hiN; split
  · omega
  · split
    · omega
    · split
      · omega
      · split
        · omega
        · omega
