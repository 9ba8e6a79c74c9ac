/-! ===== er2 ===== -/
set_option maxHeartbeats 4000000 in
set_option maxRecDepth 100000 in
/-- X12_errorOf -/
theorem c_X12_errorOf_x0 (l : Launch) (dC : Nat → ClassId) (dI : Nat → Nat → Nat) (h : Nat) (g : Nat → Nat → Nat) (ca : Nat → Nat → ClassId) (iv : Nat → Nat → Int32) (lv : Nat → Nat → Int64) (fa : Nat → Nat → Nat → Int32) (la : Nat → Nat → Nat → Int64) (hI : IX iv fa) (a : Int32) (b : Int32) : Met l yX12_errorOf (wc yX12_errorOf cX12_errorOf 8 (some .int)) ({ frames := 0, cells := 0, slots := 0, locals := 0 } : Room) (pR (dC, dI) classes (WM h g ca iv lv fa la) (TM ca) [.ref h, .int a, .int b, .int 0]) (vp_Si (fun r => (True) ∧ (r.toInt = er0 (fa 12 15) (tLa (fa 12 14) (fa 12 16) a b ((iv 12 13).toInt).toNat) (tFi (fa 12 14) (fa 12 16) a b ((iv 12 13).toInt).toNat)))) 0 0 (fun _ => False) := by
  refine Met.ofW (cc := cX12_errorOf) (maxL := 8) (ret := (some .int)) (by decide) rfl ?_
  intro p e s m args below meth c s₁ B hml hv
  obtain ⟨rfl, hP, hK⟩ := hv
  have hx := B.exec
  have hb := B.bytes
  have hr := B.returns
  have ht := tb_tl (atoms_spec (ws := wc yX12_errorOf cX12_errorOf 8 (some .int)) B.pre)
  have hown : s.vm.findClass RX12 = some m.cls := findClass_of_methodNamed B.named
  have hlocks := B.notSynchronized
  have hl := lv_entry [.ref h, .int a, .int b, .int 0] (n := 8) (Nat.le_of_ble_eq_true rfl)
  rw [lg_entry_eq]
  generalize (lg_sl [.ref h, .int a, .int b, .int 0] ++ List.replicate (8 - (lg_sl [.ref h, .int a, .int b, .int 0]).length) Slot.unset).toArray = ls at hl ⊢
  have hl : lv_has ls 8 [(0, .ref h), (1, .int a), (2, .int b), (3, .int 0)] := hl
  refine lv_iconst (v := (-1)) hx hb dX12_errorOf_0 (by decide) ?_
  refine lv_istore (lv' := [(4, .int (-1)), (0, .ref h), (1, .int a), (2, .int b), (3, .int 0)]) hx hb dX12_errorOf_1 hl (by decide) rfl (fun ls hl => ?_)
  refine lv_iconst (v := (-1)) hx hb dX12_errorOf_3 (by decide) ?_
  refine lv_istore (lv' := [(5, .int (-1)), (4, .int (-1)), (0, .ref h), (1, .int a), (2, .int b), (3, .int 0)]) hx hb dX12_errorOf_4 hl (by decide) rfl (fun ls hl => ?_)
  refine lv_iconst (v := 0) hx hb dX12_errorOf_6 (by decide) ?_
  refine lv_istore (lv' := [(6, .int 0), (5, .int (-1)), (4, .int (-1)), (0, .ref h), (1, .int a), (2, .int b), (3, .int 0)]) hx hb dX12_errorOf_7 hl (by decide) rfl (fun ls hl => ?_)
  have i_12_13 : 0 ≤ (iv 12 13).toInt ∧ (iv 12 13).toInt ≤ 30 := hI.1 12 13
  have lp645 : ∀ (nn645 : Nat) (x644_6 : Int32) (x644_5 : Int32) (x644_4 : Int32), 0 ≤ x644_6.toInt ∧ x644_6.toInt ≤ 30 → (-1) ≤ x644_5.toInt ∧ x644_5.toInt ≤ 29 → (-1) ≤ x644_4.toInt ∧ x644_4.toInt ≤ 29 → ((x644_4 : Int32).toInt = tLa (fa 12 14) (fa 12 16) a b ((x644_6 : Int32).toInt).toNat) → ((x644_5 : Int32).toInt = tFi (fa 12 14) (fa 12 16) a b ((x644_6 : Int32).toInt).toNat) → (x644_6 : Int32).toInt ≤ ((iv 12 13) : Int32).toInt → 30 - x644_6.toInt < (nn645 : Int) → ∀ (ls : Array Slot), lv_has ls 8 [(6, .int x644_6), (5, .int x644_5), (4, .int x644_4), (0, .ref h), (1, .int a), (2, .int b), (3, .int 0)] → W p l e ({ frames := 0, cells := 0, slots := 0, locals := 0 } : Room) s m ([.ref h, .int a, .int b, .int 0] : List Value).toArray below meth c s.heap [] 0 0 (MQ below (vp_Si (fun r => (True) ∧ (r.toInt = er0 (fa 12 15) (tLa (fa 12 14) (fa 12 16) a b ((iv 12 13).toInt).toNat) (tFi (fa 12 14) (fa 12 16) a b ((iv 12 13).toInt).toNat)))) ([.ref h, .int a, .int b, .int 0] : List Value).toArray s 0 0 (fun _ => False)) (F0 m 9 ls []) := by
    intro nn645
    induction nn645 with
    | zero => intro x644_6 x644_5 x644_4 hx644_6 hx644_5 hx644_4 hq645_0 hq645_1 hq645_2 hm645; exfalso; omega
    | succ nn645 ih645 =>
      intro x644_6 x644_5 x644_4 hx644_6 hx644_5 hx644_4 hq645_0 hq645_1 hq645_2 hm645 ls hl
      refine lv_iload hx hb dX12_errorOf_9 (lv_at hl 0 rfl) ?_
      refine lv_aload_n hx hb dX12_errorOf_11 rfl (lv_at hl 3 rfl) ?_
      refine gM_12_13 hx hb ht hown hK hP m_1152 (v := (iv 12 13)) rfl dX12_errorOf_12 ?_
      refine lv_icmp_ge (tgt := 80) hx hb dX12_errorOf_15 (by decide) (fun c646 => ?_) (fun c646 => ?_)
      · have fc646 := z_le (rfl : ((iv 12 13)).toInt = _) (rfl : (x644_6).toInt = _) c646
        refine lv_iload hx hb dX12_errorOf_80 (lv_at hl 2 rfl) ?_
        refine lv_if_ge (tgt := 92) hx hb dX12_errorOf_82 (by decide) (fun c647 => ?_) (fun c647 => ?_)
        · have fc647 := z_le (by decide : (0 : Int32).toInt = 0) (rfl : (x644_4).toInt = _) c647
          refine lv_aload_n hx hb dX12_errorOf_92 rfl (lv_at hl 3 rfl) ?_
          refine gM_12_15 hx hb ht hown hK hP m_1154 dX12_errorOf_93 ?_
          refine lv_iload hx hb dX12_errorOf_96 (lv_at hl 2 rfl) ?_
          refine lv_if_ge (tgt := 106) hx hb dX12_errorOf_98 (by decide) (fun c648 => ?_) (fun c648 => ?_)
          · skip
            refine lv_iload hx hb dX12_errorOf_106 (lv_at hl 2 rfl) ?_
            refine lM_12_15 hx hb hK hP (f := (fa 12 15)) rfl (vp_in_iff.mpr ⟨by omega, by omega⟩) dX12_errorOf_108 ?_
            refine lv_topi (fun v649 ev649 => ?_)
            refine lv_istore (lv' := [(6, .int v649), (5, .int x644_5), (4, .int x644_4), (0, .ref h), (1, .int a), (2, .int b), (3, .int 0)]) hx hb dX12_errorOf_109 hl (by decide) rfl (fun ls hl => ?_)
            refine lv_aload_n hx hb dX12_errorOf_111 rfl (lv_at hl 3 rfl) ?_
            refine gM_12_15 hx hb ht hown hK hP m_1154 dX12_errorOf_112 ?_
            refine lv_iload hx hb dX12_errorOf_115 (lv_at hl 1 rfl) ?_
            refine lv_if_ge (tgt := 125) hx hb dX12_errorOf_117 (by decide) (fun c650 => ?_) (fun c650 => ?_)
            · have fc650 := z_le (by decide : (0 : Int32).toInt = 0) (rfl : (x644_5).toInt = _) c650
              refine lv_iload hx hb dX12_errorOf_125 (lv_at hl 1 rfl) ?_
              refine lM_12_15 hx hb hK hP (f := (fa 12 15)) rfl (vp_in_iff.mpr ⟨by omega, by omega⟩) dX12_errorOf_127 ?_
              refine lv_topi (fun v651 ev651 => ?_)
              refine lv_istore (lv' := [(7, .int v651), (6, .int v649), (5, .int x644_5), (4, .int x644_4), (0, .ref h), (1, .int a), (2, .int b), (3, .int 0)]) hx hb dX12_errorOf_128 hl (by decide) rfl (fun ls hl => ?_)
              refine lv_iload_n hx hb dX12_errorOf_130 rfl (lv_at hl 7 rfl) ?_
              refine lv_iload hx hb dX12_errorOf_131 (lv_at hl 1 rfl) ?_
              refine lv_iload hx hb dX12_errorOf_133 (lv_at hl 0 rfl) ?_
              refine lv_icmp_le (tgt := 142) hx hb dX12_errorOf_135 (by decide) (fun c652 => ?_) (fun c652 => ?_)
              · have fc652 := z_le (rfl : (v649).toInt = _) (rfl : (v651).toInt = _) c652
                refine lv_iconst (v := 0) hx hb dX12_errorOf_142 (by decide) ?_
                refine lv_icmp_ne (tgt := 151) hx hb dX12_errorOf_143 (by decide) (fun c653 => ?_) (fun c653 => ?_)
                · exact absurd rfl c653
                · skip
                  refine lv_iload hx hb dX12_errorOf_146 (lv_at hl 1 rfl) ?_
                  refine lv_goto (tgt := 153) hx hb dX12_errorOf_148 (by decide) ?_
                  exact W.iret (v := v649) hx hb hr (fun t ht9 hW => ⟨v649, rfl, ⟨trivial, (show (v649 : Int32).toInt = er0 (fa 12 15) (tLa (fa 12 14) (fa 12 16) a b (((iv 12 13) : Int32).toInt).toNat) (tFi (fa 12 14) (fa 12 16) a b (((iv 12 13) : Int32).toInt).toNat) from (by
                          have ha9 := hq645_0
                          have hb9 := hq645_1
                          have he9 : (x644_6 : Int32).toInt = (iv 12 13).toInt := (by omega)
                          rw [he9] at ha9 hb9
                          have := congrArg Int32.toInt (show v649 = fa 12 15 ((x644_4 : Int32).toInt).toNat from ev649)
                          have := congrArg Int32.toInt (show v651 = fa 12 15 ((x644_5 : Int32).toInt).toNat from ev651)
                          rw [← ha9, ← hb9]; unfold er0
                          split
                          · omega
                          · split
                            · omega
                            · split
                              · omega
                              · omega))⟩, ht9⟩) (fun q hq => by cases hq) dX12_errorOf_153
              · have fc652 := z_nle (rfl : (v649).toInt = _) (rfl : (v651).toInt = _) c652
                refine lv_iconst (v := 1) hx hb dX12_errorOf_138 (by decide) ?_
                refine lv_goto (tgt := 143) hx hb dX12_errorOf_139 (by decide) ?_
                refine lv_icmp_ne (tgt := 151) hx hb dX12_errorOf_143 (by decide) (fun c654 => ?_) (fun c654 => ?_)
                · skip
                  refine lv_iload hx hb dX12_errorOf_151 (lv_at hl 0 rfl) ?_
                  exact W.iret (v := v651) hx hb hr (fun t ht9 hW => ⟨v651, rfl, ⟨trivial, (show (v651 : Int32).toInt = er0 (fa 12 15) (tLa (fa 12 14) (fa 12 16) a b (((iv 12 13) : Int32).toInt).toNat) (tFi (fa 12 14) (fa 12 16) a b (((iv 12 13) : Int32).toInt).toNat) from (by
                          have ha9 := hq645_0
                          have hb9 := hq645_1
                          have he9 : (x644_6 : Int32).toInt = (iv 12 13).toInt := (by omega)
                          rw [he9] at ha9 hb9
                          have := congrArg Int32.toInt (show v649 = fa 12 15 ((x644_4 : Int32).toInt).toNat from ev649)
                          have := congrArg Int32.toInt (show v651 = fa 12 15 ((x644_5 : Int32).toInt).toNat from ev651)
                          rw [← ha9, ← hb9]; unfold er0
                          split
                          · omega
                          · split
                            · omega
                            · split
                              · omega
                              · omega))⟩, ht9⟩) (fun q hq => by cases hq) dX12_errorOf_153
                · exact absurd c654 (by decide)
            · have fc650 := z_nle (by decide : (0 : Int32).toInt = 0) (rfl : (x644_5).toInt = _) c650
              refine lv_iload hx hb dX12_errorOf_120 (lv_at hl 2 rfl) ?_
              refine lv_goto (tgt := 127) hx hb dX12_errorOf_122 (by decide) ?_
              refine lM_12_15 hx hb hK hP (f := (fa 12 15)) rfl (vp_in_iff.mpr ⟨by omega, by omega⟩) dX12_errorOf_127 ?_
              refine lv_topi (fun v655 ev655 => ?_)
              obtain rfl : v649 = v655 := ev649.trans ev655.symm
              refine lv_istore (lv' := [(7, .int v649), (6, .int v649), (5, .int x644_5), (4, .int x644_4), (0, .ref h), (1, .int a), (2, .int b), (3, .int 0)]) hx hb dX12_errorOf_128 hl (by decide) rfl (fun ls hl => ?_)
              refine lv_iload_n hx hb dX12_errorOf_130 rfl (lv_at hl 7 rfl) ?_
              refine lv_iload hx hb dX12_errorOf_131 (lv_at hl 1 rfl) ?_
              refine lv_iload hx hb dX12_errorOf_133 (lv_at hl 0 rfl) ?_
              refine lv_icmp_le (tgt := 142) hx hb dX12_errorOf_135 (by decide) (fun c656 => ?_) (fun c656 => ?_)
              · have fc656 := z_le (rfl : (v649).toInt = _) (rfl : (v649).toInt = _) c656
                refine lv_iconst (v := 0) hx hb dX12_errorOf_142 (by decide) ?_
                refine lv_icmp_ne (tgt := 151) hx hb dX12_errorOf_143 (by decide) (fun c657 => ?_) (fun c657 => ?_)
                · exact absurd rfl c657
                · skip
                  refine lv_iload hx hb dX12_errorOf_146 (lv_at hl 1 rfl) ?_
                  refine lv_goto (tgt := 153) hx hb dX12_errorOf_148 (by decide) ?_
                  exact W.iret (v := v649) hx hb hr (fun t ht9 hW => ⟨v649, rfl, ⟨trivial, (show (v649 : Int32).toInt = er0 (fa 12 15) (tLa (fa 12 14) (fa 12 16) a b (((iv 12 13) : Int32).toInt).toNat) (tFi (fa 12 14) (fa 12 16) a b (((iv 12 13) : Int32).toInt).toNat) from (by
                          have ha9 := hq645_0
                          have hb9 := hq645_1
                          have he9 : (x644_6 : Int32).toInt = (iv 12 13).toInt := (by omega)
                          rw [he9] at ha9 hb9
                          have := congrArg Int32.toInt (show v649 = fa 12 15 ((x644_4 : Int32).toInt).toNat from ev649)
                          rw [← ha9, ← hb9]; unfold er0
                          split
                          · omega
                          · split
                            · omega
                            · split
                              · omega
                              · omega))⟩, ht9⟩) (fun q hq => by cases hq) dX12_errorOf_153
              · have fc656 := z_nle (rfl : (v649).toInt = _) (rfl : (v649).toInt = _) c656
                refine lv_iconst (v := 1) hx hb dX12_errorOf_138 (by decide) ?_
                refine lv_goto (tgt := 143) hx hb dX12_errorOf_139 (by decide) ?_
                refine lv_icmp_ne (tgt := 151) hx hb dX12_errorOf_143 (by decide) (fun c658 => ?_) (fun c658 => ?_)
                · skip
                  refine lv_iload hx hb dX12_errorOf_151 (lv_at hl 0 rfl) ?_
                  exact W.iret (v := v649) hx hb hr (fun t ht9 hW => ⟨v649, rfl, ⟨trivial, (show (v649 : Int32).toInt = er0 (fa 12 15) (tLa (fa 12 14) (fa 12 16) a b (((iv 12 13) : Int32).toInt).toNat) (tFi (fa 12 14) (fa 12 16) a b (((iv 12 13) : Int32).toInt).toNat) from (by
                          have ha9 := hq645_0
                          have hb9 := hq645_1
                          have he9 : (x644_6 : Int32).toInt = (iv 12 13).toInt := (by omega)
                          rw [he9] at ha9 hb9
                          have := congrArg Int32.toInt (show v649 = fa 12 15 ((x644_4 : Int32).toInt).toNat from ev649)
                          rw [← ha9, ← hb9]; unfold er0
                          split
                          · omega
                          · split
                            · omega
                            · split
                              · omega
                              · omega))⟩, ht9⟩) (fun q hq => by cases hq) dX12_errorOf_153
                · exact absurd c658 (by decide)
          · have fc648 := z_nle (by decide : (0 : Int32).toInt = 0) (rfl : (x644_4).toInt = _) c648; exfalso; omega
        · have fc647 := z_nle (by decide : (0 : Int32).toInt = 0) (rfl : (x644_4).toInt = _) c647
          refine lv_iload hx hb dX12_errorOf_85 (lv_at hl 1 rfl) ?_
          refine lv_if_ge (tgt := 92) hx hb dX12_errorOf_87 (by decide) (fun c659 => ?_) (fun c659 => ?_)
          · have fc659 := z_le (by decide : (0 : Int32).toInt = 0) (rfl : (x644_5).toInt = _) c659
            refine lv_aload_n hx hb dX12_errorOf_92 rfl (lv_at hl 3 rfl) ?_
            refine gM_12_15 hx hb ht hown hK hP m_1154 dX12_errorOf_93 ?_
            refine lv_iload hx hb dX12_errorOf_96 (lv_at hl 2 rfl) ?_
            refine lv_if_ge (tgt := 106) hx hb dX12_errorOf_98 (by decide) (fun c660 => ?_) (fun c660 => ?_)
            · have fc660 := z_le (by decide : (0 : Int32).toInt = 0) (rfl : (x644_4).toInt = _) c660; exfalso; omega
            · skip
              refine lv_iload hx hb dX12_errorOf_101 (lv_at hl 1 rfl) ?_
              refine lv_goto (tgt := 108) hx hb dX12_errorOf_103 (by decide) ?_
              refine lM_12_15 hx hb hK hP (f := (fa 12 15)) rfl (vp_in_iff.mpr ⟨by omega, by omega⟩) dX12_errorOf_108 ?_
              refine lv_topi (fun v661 ev661 => ?_)
              refine lv_istore (lv' := [(6, .int v661), (5, .int x644_5), (4, .int x644_4), (0, .ref h), (1, .int a), (2, .int b), (3, .int 0)]) hx hb dX12_errorOf_109 hl (by decide) rfl (fun ls hl => ?_)
              refine lv_aload_n hx hb dX12_errorOf_111 rfl (lv_at hl 3 rfl) ?_
              refine gM_12_15 hx hb ht hown hK hP m_1154 dX12_errorOf_112 ?_
              refine lv_iload hx hb dX12_errorOf_115 (lv_at hl 1 rfl) ?_
              refine lv_if_ge (tgt := 125) hx hb dX12_errorOf_117 (by decide) (fun c662 => ?_) (fun c662 => ?_)
              · skip
                refine lv_iload hx hb dX12_errorOf_125 (lv_at hl 1 rfl) ?_
                refine lM_12_15 hx hb hK hP (f := (fa 12 15)) rfl (vp_in_iff.mpr ⟨by omega, by omega⟩) dX12_errorOf_127 ?_
                refine lv_topi (fun v663 ev663 => ?_)
                obtain rfl : v661 = v663 := ev661.trans ev663.symm
                refine lv_istore (lv' := [(7, .int v661), (6, .int v661), (5, .int x644_5), (4, .int x644_4), (0, .ref h), (1, .int a), (2, .int b), (3, .int 0)]) hx hb dX12_errorOf_128 hl (by decide) rfl (fun ls hl => ?_)
                refine lv_iload_n hx hb dX12_errorOf_130 rfl (lv_at hl 7 rfl) ?_
                refine lv_iload hx hb dX12_errorOf_131 (lv_at hl 1 rfl) ?_
                refine lv_iload hx hb dX12_errorOf_133 (lv_at hl 0 rfl) ?_
                refine lv_icmp_le (tgt := 142) hx hb dX12_errorOf_135 (by decide) (fun c664 => ?_) (fun c664 => ?_)
                · have fc664 := z_le (rfl : (v661).toInt = _) (rfl : (v661).toInt = _) c664
                  refine lv_iconst (v := 0) hx hb dX12_errorOf_142 (by decide) ?_
                  refine lv_icmp_ne (tgt := 151) hx hb dX12_errorOf_143 (by decide) (fun c665 => ?_) (fun c665 => ?_)
                  · exact absurd rfl c665
                  · skip
                    refine lv_iload hx hb dX12_errorOf_146 (lv_at hl 1 rfl) ?_
                    refine lv_goto (tgt := 153) hx hb dX12_errorOf_148 (by decide) ?_
                    exact W.iret (v := v661) hx hb hr (fun t ht9 hW => ⟨v661, rfl, ⟨trivial, (show (v661 : Int32).toInt = er0 (fa 12 15) (tLa (fa 12 14) (fa 12 16) a b (((iv 12 13) : Int32).toInt).toNat) (tFi (fa 12 14) (fa 12 16) a b (((iv 12 13) : Int32).toInt).toNat) from (by
                            have ha9 := hq645_0
                            have hb9 := hq645_1
                            have he9 : (x644_6 : Int32).toInt = (iv 12 13).toInt := (by omega)
                            rw [he9] at ha9 hb9
                            have := congrArg Int32.toInt (show v661 = fa 12 15 ((x644_5 : Int32).toInt).toNat from ev661)
                            rw [← ha9, ← hb9]; unfold er0
                            split
                            · omega
                            · split
                              · omega
                              · split
                                · omega
                                · omega))⟩, ht9⟩) (fun q hq => by cases hq) dX12_errorOf_153
                · have fc664 := z_nle (rfl : (v661).toInt = _) (rfl : (v661).toInt = _) c664
                  refine lv_iconst (v := 1) hx hb dX12_errorOf_138 (by decide) ?_
                  refine lv_goto (tgt := 143) hx hb dX12_errorOf_139 (by decide) ?_
                  refine lv_icmp_ne (tgt := 151) hx hb dX12_errorOf_143 (by decide) (fun c666 => ?_) (fun c666 => ?_)
                  · skip
                    refine lv_iload hx hb dX12_errorOf_151 (lv_at hl 0 rfl) ?_
                    exact W.iret (v := v661) hx hb hr (fun t ht9 hW => ⟨v661, rfl, ⟨trivial, (show (v661 : Int32).toInt = er0 (fa 12 15) (tLa (fa 12 14) (fa 12 16) a b (((iv 12 13) : Int32).toInt).toNat) (tFi (fa 12 14) (fa 12 16) a b (((iv 12 13) : Int32).toInt).toNat) from (by
                            have ha9 := hq645_0
                            have hb9 := hq645_1
                            have he9 : (x644_6 : Int32).toInt = (iv 12 13).toInt := (by omega)
                            rw [he9] at ha9 hb9
                            have := congrArg Int32.toInt (show v661 = fa 12 15 ((x644_5 : Int32).toInt).toNat from ev661)
                            rw [← ha9, ← hb9]; unfold er0
                            split
                            · omega
                            · split
                              · omega
                              · split
                                · omega
                                · omega))⟩, ht9⟩) (fun q hq => by cases hq) dX12_errorOf_153
                  · exact absurd c666 (by decide)
              · have fc662 := z_nle (by decide : (0 : Int32).toInt = 0) (rfl : (x644_5).toInt = _) c662; exfalso; omega
          · have fc659 := z_nle (by decide : (0 : Int32).toInt = 0) (rfl : (x644_5).toInt = _) c659
            refine lv_iconst (v := 0) hx hb dX12_errorOf_90 (by decide) ?_
            have : (0 : Int32).toInt = 0 := (by decide)
            exact W.iret (v := 0) hx hb hr (fun t ht9 hW => ⟨0, rfl, ⟨trivial, (show (0 : Int32).toInt = er0 (fa 12 15) (tLa (fa 12 14) (fa 12 16) a b (((iv 12 13) : Int32).toInt).toNat) (tFi (fa 12 14) (fa 12 16) a b (((iv 12 13) : Int32).toInt).toNat) from (by
                    have ha9 := hq645_0
                    have hb9 := hq645_1
                    have he9 : (x644_6 : Int32).toInt = (iv 12 13).toInt := (by omega)
                    rw [he9] at ha9 hb9
                    rw [← ha9, ← hb9]; unfold er0
                    split
                    · omega
                    · split
                      · omega
                      · split
                        · omega
                        · omega))⟩, ht9⟩) (fun q hq => by cases hq) dX12_errorOf_91
      · have fc646 := z_nle (rfl : ((iv 12 13)).toInt = _) (rfl : (x644_6).toInt = _) c646
        refine lv_aload_n hx hb dX12_errorOf_18 rfl (lv_at hl 3 rfl) ?_
        refine gM_12_14 hx hb ht hown hK hP m_1153 dX12_errorOf_19 ?_
        refine lv_iload hx hb dX12_errorOf_22 (lv_at hl 0 rfl) ?_
        refine lM_12_14 hx hb hK hP (f := (fa 12 14)) rfl (vp_in_iff.mpr ⟨by omega, by omega⟩) dX12_errorOf_24 ?_
        refine lv_topi (fun v667 ev667 => ?_)
        refine lv_iload_n hx hb dX12_errorOf_25 rfl (lv_at hl 4 rfl) ?_
        refine lv_icmp_ne (tgt := 74) hx hb dX12_errorOf_26 (by decide) (fun c668 => ?_) (fun c668 => ?_)
        · have fc668 := z_ne (rfl : (v667).toInt = _) (rfl : (a).toInt = _) c668
          obtain ⟨v669, ev669⟩ : ∃ y : Int32, y = x644_6 + 1 := ⟨_, rfl⟩
          have tv669 := z_add ev669 rfl (by decide : (1 : Int32).toInt = 1) (by omega) (by omega)
          refine lv_iinc (v := v669) (lv' := [(6, .int v669), (5, .int x644_5), (4, .int x644_4), (0, .ref h), (1, .int a), (2, .int b), (3, .int 0)]) hx hb dX12_errorOf_74 hl (k := 0) rfl (by rw [ev669]; rfl) (by decide) rfl (fun ls hl => ?_)
          refine lv_goto (tgt := 9) hx hb dX12_errorOf_77 (by decide) ?_
          exact ih645 v669 x644_5 x644_4 ⟨by omega, by omega⟩ ⟨by omega, by omega⟩ ⟨by omega, by omega⟩ (show (x644_4 : Int32).toInt = tLa (fa 12 14) (fa 12 16) a b ((v669 : Int32).toInt).toNat from (by have hc := la_step (sc := fa 12 14) (dy := fa 12 16) (s := a) (d := b) (t := x644_6) (t' := v669) (x := v667) (y := fa 12 16 (x644_6 : Int32).toNatClampNeg) (by omega) (by omega) ev667 rfl; have hq9 := hq645_0; rw [hc]; split <;> omega)) (show (x644_5 : Int32).toInt = tFi (fa 12 14) (fa 12 16) a b ((v669 : Int32).toInt).toNat from (by have hc := fi_step (sc := fa 12 14) (dy := fa 12 16) (s := a) (d := b) (t := x644_6) (t' := v669) (x := v667) (y := fa 12 16 (x644_6 : Int32).toNatClampNeg) (by omega) (by omega) ev667 rfl; have hq9 := hq645_1; rw [hc]; split <;> (try split) <;> omega)) (show (v669 : Int32).toInt ≤ ((iv 12 13) : Int32).toInt from by omega) (by omega) ls (lv_sub hl [0, 1, 2, 3, 4, 5, 6] rfl)
        · have fc668 := z_eq (rfl : (v667).toInt = _) (rfl : (a).toInt = _) c668
          refine lv_aload_n hx hb dX12_errorOf_29 rfl (lv_at hl 3 rfl) ?_
          refine gM_12_16 hx hb ht hown hK hP m_1155 dX12_errorOf_30 ?_
          refine lv_iload hx hb dX12_errorOf_33 (lv_at hl 0 rfl) ?_
          refine lM_12_16 hx hb hK hP (f := (fa 12 16)) rfl (vp_in_iff.mpr ⟨by omega, by omega⟩) dX12_errorOf_35 ?_
          refine lv_topi (fun v670 ev670 => ?_)
          refine lv_iload_n hx hb dX12_errorOf_36 rfl (lv_at hl 5 rfl) ?_
          refine lv_icmp_gt (tgt := 45) hx hb dX12_errorOf_37 (by decide) (fun c671 => ?_) (fun c671 => ?_)
          · have fc671 := z_lt (rfl : (b).toInt = _) (rfl : (v670).toInt = _) c671
            refine lv_iload hx hb dX12_errorOf_45 (lv_at hl 2 rfl) ?_
            refine lv_istore (lv' := [(4, .int x644_4), (6, .int x644_6), (5, .int x644_5), (0, .ref h), (1, .int a), (2, .int b), (3, .int 0)]) hx hb dX12_errorOf_47 hl (by decide) rfl (fun ls hl => ?_)
            refine lv_aload_n hx hb dX12_errorOf_49 rfl (lv_at hl 3 rfl) ?_
            refine gM_12_16 hx hb ht hown hK hP m_1155 dX12_errorOf_50 ?_
            refine lv_iload hx hb dX12_errorOf_53 (lv_at hl 1 rfl) ?_
            refine lM_12_16 hx hb hK hP (f := (fa 12 16)) rfl (vp_in_iff.mpr ⟨by omega, by omega⟩) dX12_errorOf_55 ?_
            refine lv_topi (fun v672 ev672 => ?_)
            obtain rfl : v670 = v672 := ev670.trans ev672.symm
            refine lv_iload_n hx hb dX12_errorOf_56 rfl (lv_at hl 5 rfl) ?_
            refine lv_icmp_le (tgt := 70) hx hb dX12_errorOf_57 (by decide) (fun c673 => ?_) (fun c673 => ?_)
            · have fc673 := z_le (rfl : (v670).toInt = _) (rfl : (b).toInt = _) c673
              refine lv_iload hx hb dX12_errorOf_70 (lv_at hl 2 rfl) ?_
              refine lv_istore (lv' := [(5, .int x644_5), (4, .int x644_4), (6, .int x644_6), (0, .ref h), (1, .int a), (2, .int b), (3, .int 0)]) hx hb dX12_errorOf_72 hl (by decide) rfl (fun ls hl => ?_)
              obtain ⟨v674, ev674⟩ : ∃ y : Int32, y = x644_6 + 1 := ⟨_, rfl⟩
              have tv674 := z_add ev674 rfl (by decide : (1 : Int32).toInt = 1) (by omega) (by omega)
              refine lv_iinc (v := v674) (lv' := [(6, .int v674), (5, .int x644_5), (4, .int x644_4), (0, .ref h), (1, .int a), (2, .int b), (3, .int 0)]) hx hb dX12_errorOf_74 hl (k := 2) rfl (by rw [ev674]; rfl) (by decide) rfl (fun ls hl => ?_)
              refine lv_goto (tgt := 9) hx hb dX12_errorOf_77 (by decide) ?_
              exact ih645 v674 x644_5 x644_4 ⟨by omega, by omega⟩ ⟨by omega, by omega⟩ ⟨by omega, by omega⟩ (show (x644_4 : Int32).toInt = tLa (fa 12 14) (fa 12 16) a b ((v674 : Int32).toInt).toNat from (by have hc := la_step (sc := fa 12 14) (dy := fa 12 16) (s := a) (d := b) (t := x644_6) (t' := v674) (x := v667) (y := v670) (by omega) (by omega) ev667 ev670; have hq9 := hq645_0; rw [hc]; split <;> omega)) (show (x644_5 : Int32).toInt = tFi (fa 12 14) (fa 12 16) a b ((v674 : Int32).toInt).toNat from (by have hc := fi_step (sc := fa 12 14) (dy := fa 12 16) (s := a) (d := b) (t := x644_6) (t' := v674) (x := v667) (y := v670) (by omega) (by omega) ev667 ev670; have hq9 := hq645_1; rw [hc]; split <;> (try split) <;> omega)) (show (v674 : Int32).toInt ≤ ((iv 12 13) : Int32).toInt from by omega) (by omega) ls (lv_sub hl [0, 1, 2, 3, 4, 5, 6] rfl)
            · have fc673 := z_nle (rfl : (v670).toInt = _) (rfl : (b).toInt = _) c673
              refine lv_iload hx hb dX12_errorOf_60 (lv_at hl 2 rfl) ?_
              refine lv_if_ge (tgt := 70) hx hb dX12_errorOf_62 (by decide) (fun c675 => ?_) (fun c675 => ?_)
              · have fc675 := z_le (by decide : (0 : Int32).toInt = 0) (rfl : (x644_5).toInt = _) c675
                refine lv_iload hx hb dX12_errorOf_70 (lv_at hl 2 rfl) ?_
                refine lv_istore (lv' := [(5, .int x644_5), (4, .int x644_4), (6, .int x644_6), (0, .ref h), (1, .int a), (2, .int b), (3, .int 0)]) hx hb dX12_errorOf_72 hl (by decide) rfl (fun ls hl => ?_)
                obtain ⟨v676, ev676⟩ : ∃ y : Int32, y = x644_6 + 1 := ⟨_, rfl⟩
                have tv676 := z_add ev676 rfl (by decide : (1 : Int32).toInt = 1) (by omega) (by omega)
                refine lv_iinc (v := v676) (lv' := [(6, .int v676), (5, .int x644_5), (4, .int x644_4), (0, .ref h), (1, .int a), (2, .int b), (3, .int 0)]) hx hb dX12_errorOf_74 hl (k := 2) rfl (by rw [ev676]; rfl) (by decide) rfl (fun ls hl => ?_)
                refine lv_goto (tgt := 9) hx hb dX12_errorOf_77 (by decide) ?_
                exact ih645 v676 x644_5 x644_4 ⟨by omega, by omega⟩ ⟨by omega, by omega⟩ ⟨by omega, by omega⟩ (show (x644_4 : Int32).toInt = tLa (fa 12 14) (fa 12 16) a b ((v676 : Int32).toInt).toNat from (by have hc := la_step (sc := fa 12 14) (dy := fa 12 16) (s := a) (d := b) (t := x644_6) (t' := v676) (x := v667) (y := v670) (by omega) (by omega) ev667 ev670; have hq9 := hq645_0; rw [hc]; split <;> omega)) (show (x644_5 : Int32).toInt = tFi (fa 12 14) (fa 12 16) a b ((v676 : Int32).toInt).toNat from (by have hc := fi_step (sc := fa 12 14) (dy := fa 12 16) (s := a) (d := b) (t := x644_6) (t' := v676) (x := v667) (y := v670) (by omega) (by omega) ev667 ev670; have hq9 := hq645_1; rw [hc]; split <;> (try split) <;> omega)) (show (v676 : Int32).toInt ≤ ((iv 12 13) : Int32).toInt from by omega) (by omega) ls (lv_sub hl [0, 1, 2, 3, 4, 5, 6] rfl)
              · have fc675 := z_nle (by decide : (0 : Int32).toInt = 0) (rfl : (x644_5).toInt = _) c675
                refine lv_iload hx hb dX12_errorOf_65 (lv_at hl 1 rfl) ?_
                refine lv_goto (tgt := 72) hx hb dX12_errorOf_67 (by decide) ?_
                refine lv_istore (lv' := [(5, .int x644_6), (4, .int x644_4), (6, .int x644_6), (0, .ref h), (1, .int a), (2, .int b), (3, .int 0)]) hx hb dX12_errorOf_72 hl (by decide) rfl (fun ls hl => ?_)
                obtain ⟨v677, ev677⟩ : ∃ y : Int32, y = x644_6 + 1 := ⟨_, rfl⟩
                have tv677 := z_add ev677 rfl (by decide : (1 : Int32).toInt = 1) (by omega) (by omega)
                refine lv_iinc (v := v677) (lv' := [(6, .int v677), (5, .int x644_6), (4, .int x644_4), (0, .ref h), (1, .int a), (2, .int b), (3, .int 0)]) hx hb dX12_errorOf_74 hl (k := 2) rfl (by rw [ev677]; rfl) (by decide) rfl (fun ls hl => ?_)
                refine lv_goto (tgt := 9) hx hb dX12_errorOf_77 (by decide) ?_
                exact ih645 v677 x644_6 x644_4 ⟨by omega, by omega⟩ ⟨by omega, by omega⟩ ⟨by omega, by omega⟩ (show (x644_4 : Int32).toInt = tLa (fa 12 14) (fa 12 16) a b ((v677 : Int32).toInt).toNat from (by have hc := la_step (sc := fa 12 14) (dy := fa 12 16) (s := a) (d := b) (t := x644_6) (t' := v677) (x := v667) (y := v670) (by omega) (by omega) ev667 ev670; have hq9 := hq645_0; rw [hc]; split <;> omega)) (show (x644_6 : Int32).toInt = tFi (fa 12 14) (fa 12 16) a b ((v677 : Int32).toInt).toNat from (by have hc := fi_step (sc := fa 12 14) (dy := fa 12 16) (s := a) (d := b) (t := x644_6) (t' := v677) (x := v667) (y := v670) (by omega) (by omega) ev667 ev670; have hq9 := hq645_1; rw [hc]; split <;> (try split) <;> omega)) (show (v677 : Int32).toInt ≤ ((iv 12 13) : Int32).toInt from by omega) (by omega) ls (lv_sub hl [0, 1, 2, 3, 4, 5, 6] rfl)
          · have fc671 := z_nlt (rfl : (b).toInt = _) (rfl : (v670).toInt = _) c671
            refine lv_iload hx hb dX12_errorOf_40 (lv_at hl 0 rfl) ?_
            refine lv_goto (tgt := 47) hx hb dX12_errorOf_42 (by decide) ?_
            refine lv_istore (lv' := [(4, .int x644_6), (6, .int x644_6), (5, .int x644_5), (0, .ref h), (1, .int a), (2, .int b), (3, .int 0)]) hx hb dX12_errorOf_47 hl (by decide) rfl (fun ls hl => ?_)
            refine lv_aload_n hx hb dX12_errorOf_49 rfl (lv_at hl 3 rfl) ?_
            refine gM_12_16 hx hb ht hown hK hP m_1155 dX12_errorOf_50 ?_
            refine lv_iload hx hb dX12_errorOf_53 (lv_at hl 1 rfl) ?_
            refine lM_12_16 hx hb hK hP (f := (fa 12 16)) rfl (vp_in_iff.mpr ⟨by omega, by omega⟩) dX12_errorOf_55 ?_
            refine lv_topi (fun v678 ev678 => ?_)
            obtain rfl : v670 = v678 := ev670.trans ev678.symm
            refine lv_iload_n hx hb dX12_errorOf_56 rfl (lv_at hl 5 rfl) ?_
            refine lv_icmp_le (tgt := 70) hx hb dX12_errorOf_57 (by decide) (fun c679 => ?_) (fun c679 => ?_)
            · have fc679 := z_le (rfl : (v670).toInt = _) (rfl : (b).toInt = _) c679
              refine lv_iload hx hb dX12_errorOf_70 (lv_at hl 2 rfl) ?_
              refine lv_istore (lv' := [(5, .int x644_5), (4, .int x644_6), (6, .int x644_6), (0, .ref h), (1, .int a), (2, .int b), (3, .int 0)]) hx hb dX12_errorOf_72 hl (by decide) rfl (fun ls hl => ?_)
              obtain ⟨v680, ev680⟩ : ∃ y : Int32, y = x644_6 + 1 := ⟨_, rfl⟩
              have tv680 := z_add ev680 rfl (by decide : (1 : Int32).toInt = 1) (by omega) (by omega)
              refine lv_iinc (v := v680) (lv' := [(6, .int v680), (5, .int x644_5), (4, .int x644_6), (0, .ref h), (1, .int a), (2, .int b), (3, .int 0)]) hx hb dX12_errorOf_74 hl (k := 2) rfl (by rw [ev680]; rfl) (by decide) rfl (fun ls hl => ?_)
              refine lv_goto (tgt := 9) hx hb dX12_errorOf_77 (by decide) ?_
              exact ih645 v680 x644_5 x644_6 ⟨by omega, by omega⟩ ⟨by omega, by omega⟩ ⟨by omega, by omega⟩ (show (x644_6 : Int32).toInt = tLa (fa 12 14) (fa 12 16) a b ((v680 : Int32).toInt).toNat from (by have hc := la_step (sc := fa 12 14) (dy := fa 12 16) (s := a) (d := b) (t := x644_6) (t' := v680) (x := v667) (y := v670) (by omega) (by omega) ev667 ev670; have hq9 := hq645_0; rw [hc]; split <;> omega)) (show (x644_5 : Int32).toInt = tFi (fa 12 14) (fa 12 16) a b ((v680 : Int32).toInt).toNat from (by have hc := fi_step (sc := fa 12 14) (dy := fa 12 16) (s := a) (d := b) (t := x644_6) (t' := v680) (x := v667) (y := v670) (by omega) (by omega) ev667 ev670; have hq9 := hq645_1; rw [hc]; split <;> (try split) <;> omega)) (show (v680 : Int32).toInt ≤ ((iv 12 13) : Int32).toInt from by omega) (by omega) ls (lv_sub hl [0, 1, 2, 3, 4, 5, 6] rfl)
            · have fc679 := z_nle (rfl : (v670).toInt = _) (rfl : (b).toInt = _) c679
              refine lv_iload hx hb dX12_errorOf_60 (lv_at hl 2 rfl) ?_
              refine lv_if_ge (tgt := 70) hx hb dX12_errorOf_62 (by decide) (fun c681 => ?_) (fun c681 => ?_)
              · have fc681 := z_le (by decide : (0 : Int32).toInt = 0) (rfl : (x644_5).toInt = _) c681
                refine lv_iload hx hb dX12_errorOf_70 (lv_at hl 2 rfl) ?_
                refine lv_istore (lv' := [(5, .int x644_5), (4, .int x644_6), (6, .int x644_6), (0, .ref h), (1, .int a), (2, .int b), (3, .int 0)]) hx hb dX12_errorOf_72 hl (by decide) rfl (fun ls hl => ?_)
                obtain ⟨v682, ev682⟩ : ∃ y : Int32, y = x644_6 + 1 := ⟨_, rfl⟩
                have tv682 := z_add ev682 rfl (by decide : (1 : Int32).toInt = 1) (by omega) (by omega)
                refine lv_iinc (v := v682) (lv' := [(6, .int v682), (5, .int x644_5), (4, .int x644_6), (0, .ref h), (1, .int a), (2, .int b), (3, .int 0)]) hx hb dX12_errorOf_74 hl (k := 2) rfl (by rw [ev682]; rfl) (by decide) rfl (fun ls hl => ?_)
                refine lv_goto (tgt := 9) hx hb dX12_errorOf_77 (by decide) ?_
                exact ih645 v682 x644_5 x644_6 ⟨by omega, by omega⟩ ⟨by omega, by omega⟩ ⟨by omega, by omega⟩ (show (x644_6 : Int32).toInt = tLa (fa 12 14) (fa 12 16) a b ((v682 : Int32).toInt).toNat from (by have hc := la_step (sc := fa 12 14) (dy := fa 12 16) (s := a) (d := b) (t := x644_6) (t' := v682) (x := v667) (y := v670) (by omega) (by omega) ev667 ev670; have hq9 := hq645_0; rw [hc]; split <;> omega)) (show (x644_5 : Int32).toInt = tFi (fa 12 14) (fa 12 16) a b ((v682 : Int32).toInt).toNat from (by have hc := fi_step (sc := fa 12 14) (dy := fa 12 16) (s := a) (d := b) (t := x644_6) (t' := v682) (x := v667) (y := v670) (by omega) (by omega) ev667 ev670; have hq9 := hq645_1; rw [hc]; split <;> (try split) <;> omega)) (show (v682 : Int32).toInt ≤ ((iv 12 13) : Int32).toInt from by omega) (by omega) ls (lv_sub hl [0, 1, 2, 3, 4, 5, 6] rfl)
              · have fc681 := z_nle (by decide : (0 : Int32).toInt = 0) (rfl : (x644_5).toInt = _) c681
                refine lv_iload hx hb dX12_errorOf_65 (lv_at hl 1 rfl) ?_
                refine lv_goto (tgt := 72) hx hb dX12_errorOf_67 (by decide) ?_
                refine lv_istore (lv' := [(5, .int x644_6), (4, .int x644_6), (6, .int x644_6), (0, .ref h), (1, .int a), (2, .int b), (3, .int 0)]) hx hb dX12_errorOf_72 hl (by decide) rfl (fun ls hl => ?_)
                obtain ⟨v683, ev683⟩ : ∃ y : Int32, y = x644_6 + 1 := ⟨_, rfl⟩
                have tv683 := z_add ev683 rfl (by decide : (1 : Int32).toInt = 1) (by omega) (by omega)
                refine lv_iinc (v := v683) (lv' := [(6, .int v683), (5, .int x644_6), (4, .int x644_6), (0, .ref h), (1, .int a), (2, .int b), (3, .int 0)]) hx hb dX12_errorOf_74 hl (k := 2) rfl (by rw [ev683]; rfl) (by decide) rfl (fun ls hl => ?_)
                refine lv_goto (tgt := 9) hx hb dX12_errorOf_77 (by decide) ?_
                exact ih645 v683 x644_6 x644_6 ⟨by omega, by omega⟩ ⟨by omega, by omega⟩ ⟨by omega, by omega⟩ (show (x644_6 : Int32).toInt = tLa (fa 12 14) (fa 12 16) a b ((v683 : Int32).toInt).toNat from (by have hc := la_step (sc := fa 12 14) (dy := fa 12 16) (s := a) (d := b) (t := x644_6) (t' := v683) (x := v667) (y := v670) (by omega) (by omega) ev667 ev670; have hq9 := hq645_0; rw [hc]; split <;> omega)) (show (x644_6 : Int32).toInt = tFi (fa 12 14) (fa 12 16) a b ((v683 : Int32).toInt).toNat from (by have hc := fi_step (sc := fa 12 14) (dy := fa 12 16) (s := a) (d := b) (t := x644_6) (t' := v683) (x := v667) (y := v670) (by omega) (by omega) ev667 ev670; have hq9 := hq645_1; rw [hc]; split <;> (try split) <;> omega)) (show (v683 : Int32).toInt ≤ ((iv 12 13) : Int32).toInt from by omega) (by omega) ls (lv_sub hl [0, 1, 2, 3, 4, 5, 6] rfl)
  have : (0 : Int32).toInt = 0 := (by decide)
  have : ((-1) : Int32).toInt = (-1) := (by decide)
  have i_12_13 : 0 ≤ (iv 12 13).toInt ∧ (iv 12 13).toInt ≤ 30 := hI.1 12 13
  exact lp645 31 0 (-1) (-1) ⟨by decide, by decide⟩ ⟨by decide, by decide⟩ ⟨by decide, by decide⟩ (show ((-1) : Int32).toInt = tLa (fa 12 14) (fa 12 16) a b ((0 : Int32).toInt).toNat from by show _ = (-1 : Int); omega) (show ((-1) : Int32).toInt = tFi (fa 12 14) (fa 12 16) a b ((0 : Int32).toInt).toNat from by show _ = (-1 : Int); omega) (show (0 : Int32).toInt ≤ ((iv 12 13) : Int32).toInt from by omega) (by first | decide | omega) ls (lv_sub hl [0, 1, 2, 3, 4, 5, 6] rfl)
set_option maxHeartbeats 4000000 in
set_option maxRecDepth 100000 in
/-- X12_errorOf -/
theorem c_X12_errorOf_x1 (l : Launch) (dC : Nat → ClassId) (dI : Nat → Nat → Nat) (h : Nat) (g : Nat → Nat → Nat) (ca : Nat → Nat → ClassId) (iv : Nat → Nat → Int32) (lv : Nat → Nat → Int64) (fa : Nat → Nat → Nat → Int32) (la : Nat → Nat → Nat → Int64) (hI : IX iv fa) (a : Int32) (b : Int32) : Met l yX12_errorOf (wc yX12_errorOf cX12_errorOf 8 (some .int)) ({ frames := 0, cells := 0, slots := 0, locals := 0 } : Room) (pR (dC, dI) classes (WM h g ca iv lv fa la) (TM ca) [.ref h, .int a, .int b, .int 1]) (vp_Si (fun r => (True) ∧ (r.toInt = er1 (fa 12 15) (tLa (fa 12 14) (fa 12 16) a b ((iv 12 13).toInt).toNat) (tFi (fa 12 14) (fa 12 16) a b ((iv 12 13).toInt).toNat)))) 0 0 (fun _ => False) := by
  refine Met.ofW (cc := cX12_errorOf) (maxL := 8) (ret := (some .int)) (by decide) rfl ?_
  intro p e s m args below meth c s₁ B hml hv
  obtain ⟨rfl, hP, hK⟩ := hv
  have hx := B.exec
  have hb := B.bytes
  have hr := B.returns
  have ht := tb_tl (atoms_spec (ws := wc yX12_errorOf cX12_errorOf 8 (some .int)) B.pre)
  have hown : s.vm.findClass RX12 = some m.cls := findClass_of_methodNamed B.named
  have hlocks := B.notSynchronized
  have hl := lv_entry [.ref h, .int a, .int b, .int 1] (n := 8) (Nat.le_of_ble_eq_true rfl)
  rw [lg_entry_eq]
  generalize (lg_sl [.ref h, .int a, .int b, .int 1] ++ List.replicate (8 - (lg_sl [.ref h, .int a, .int b, .int 1]).length) Slot.unset).toArray = ls at hl ⊢
  have hl : lv_has ls 8 [(0, .ref h), (1, .int a), (2, .int b), (3, .int 1)] := hl
  refine lv_iconst (v := (-1)) hx hb dX12_errorOf_0 (by decide) ?_
  refine lv_istore (lv' := [(4, .int (-1)), (0, .ref h), (1, .int a), (2, .int b), (3, .int 1)]) hx hb dX12_errorOf_1 hl (by decide) rfl (fun ls hl => ?_)
  refine lv_iconst (v := (-1)) hx hb dX12_errorOf_3 (by decide) ?_
  refine lv_istore (lv' := [(5, .int (-1)), (4, .int (-1)), (0, .ref h), (1, .int a), (2, .int b), (3, .int 1)]) hx hb dX12_errorOf_4 hl (by decide) rfl (fun ls hl => ?_)
  refine lv_iconst (v := 0) hx hb dX12_errorOf_6 (by decide) ?_
  refine lv_istore (lv' := [(6, .int 0), (5, .int (-1)), (4, .int (-1)), (0, .ref h), (1, .int a), (2, .int b), (3, .int 1)]) hx hb dX12_errorOf_7 hl (by decide) rfl (fun ls hl => ?_)
  have i_12_13 : 0 ≤ (iv 12 13).toInt ∧ (iv 12 13).toInt ≤ 30 := hI.1 12 13
  have lp645 : ∀ (nn645 : Nat) (x644_6 : Int32) (x644_5 : Int32) (x644_4 : Int32), 0 ≤ x644_6.toInt ∧ x644_6.toInt ≤ 30 → (-1) ≤ x644_5.toInt ∧ x644_5.toInt ≤ 29 → (-1) ≤ x644_4.toInt ∧ x644_4.toInt ≤ 29 → ((x644_4 : Int32).toInt = tLa (fa 12 14) (fa 12 16) a b ((x644_6 : Int32).toInt).toNat) → ((x644_5 : Int32).toInt = tFi (fa 12 14) (fa 12 16) a b ((x644_6 : Int32).toInt).toNat) → (x644_6 : Int32).toInt ≤ ((iv 12 13) : Int32).toInt → 30 - x644_6.toInt < (nn645 : Int) → ∀ (ls : Array Slot), lv_has ls 8 [(6, .int x644_6), (5, .int x644_5), (4, .int x644_4), (0, .ref h), (1, .int a), (2, .int b), (3, .int 1)] → W p l e ({ frames := 0, cells := 0, slots := 0, locals := 0 } : Room) s m ([.ref h, .int a, .int b, .int 1] : List Value).toArray below meth c s.heap [] 0 0 (MQ below (vp_Si (fun r => (True) ∧ (r.toInt = er1 (fa 12 15) (tLa (fa 12 14) (fa 12 16) a b ((iv 12 13).toInt).toNat) (tFi (fa 12 14) (fa 12 16) a b ((iv 12 13).toInt).toNat)))) ([.ref h, .int a, .int b, .int 1] : List Value).toArray s 0 0 (fun _ => False)) (F0 m 9 ls []) := by
    intro nn645
    induction nn645 with
    | zero => intro x644_6 x644_5 x644_4 hx644_6 hx644_5 hx644_4 hq645_0 hq645_1 hq645_2 hm645; exfalso; omega
    | succ nn645 ih645 =>
      intro x644_6 x644_5 x644_4 hx644_6 hx644_5 hx644_4 hq645_0 hq645_1 hq645_2 hm645 ls hl
      refine lv_iload hx hb dX12_errorOf_9 (lv_at hl 0 rfl) ?_
      refine lv_aload_n hx hb dX12_errorOf_11 rfl (lv_at hl 3 rfl) ?_
      refine gM_12_13 hx hb ht hown hK hP m_1152 (v := (iv 12 13)) rfl dX12_errorOf_12 ?_
      refine lv_icmp_ge (tgt := 80) hx hb dX12_errorOf_15 (by decide) (fun c646 => ?_) (fun c646 => ?_)
      · have fc646 := z_le (rfl : ((iv 12 13)).toInt = _) (rfl : (x644_6).toInt = _) c646
        refine lv_iload hx hb dX12_errorOf_80 (lv_at hl 2 rfl) ?_
        refine lv_if_ge (tgt := 92) hx hb dX12_errorOf_82 (by decide) (fun c647 => ?_) (fun c647 => ?_)
        · have fc647 := z_le (by decide : (0 : Int32).toInt = 0) (rfl : (x644_4).toInt = _) c647
          refine lv_aload_n hx hb dX12_errorOf_92 rfl (lv_at hl 3 rfl) ?_
          refine gM_12_15 hx hb ht hown hK hP m_1154 dX12_errorOf_93 ?_
          refine lv_iload hx hb dX12_errorOf_96 (lv_at hl 2 rfl) ?_
          refine lv_if_ge (tgt := 106) hx hb dX12_errorOf_98 (by decide) (fun c648 => ?_) (fun c648 => ?_)
          · skip
            refine lv_iload hx hb dX12_errorOf_106 (lv_at hl 2 rfl) ?_
            refine lM_12_15 hx hb hK hP (f := (fa 12 15)) rfl (vp_in_iff.mpr ⟨by omega, by omega⟩) dX12_errorOf_108 ?_
            refine lv_topi (fun v649 ev649 => ?_)
            refine lv_istore (lv' := [(6, .int v649), (5, .int x644_5), (4, .int x644_4), (0, .ref h), (1, .int a), (2, .int b), (3, .int 1)]) hx hb dX12_errorOf_109 hl (by decide) rfl (fun ls hl => ?_)
            refine lv_aload_n hx hb dX12_errorOf_111 rfl (lv_at hl 3 rfl) ?_
            refine gM_12_15 hx hb ht hown hK hP m_1154 dX12_errorOf_112 ?_
            refine lv_iload hx hb dX12_errorOf_115 (lv_at hl 1 rfl) ?_
            refine lv_if_ge (tgt := 125) hx hb dX12_errorOf_117 (by decide) (fun c650 => ?_) (fun c650 => ?_)
            · have fc650 := z_le (by decide : (0 : Int32).toInt = 0) (rfl : (x644_5).toInt = _) c650
              refine lv_iload hx hb dX12_errorOf_125 (lv_at hl 1 rfl) ?_
              refine lM_12_15 hx hb hK hP (f := (fa 12 15)) rfl (vp_in_iff.mpr ⟨by omega, by omega⟩) dX12_errorOf_127 ?_
              refine lv_topi (fun v651 ev651 => ?_)
              refine lv_istore (lv' := [(7, .int v651), (6, .int v649), (5, .int x644_5), (4, .int x644_4), (0, .ref h), (1, .int a), (2, .int b), (3, .int 1)]) hx hb dX12_errorOf_128 hl (by decide) rfl (fun ls hl => ?_)
              refine lv_iload_n hx hb dX12_errorOf_130 rfl (lv_at hl 7 rfl) ?_
              refine lv_iload hx hb dX12_errorOf_131 (lv_at hl 1 rfl) ?_
              refine lv_iload hx hb dX12_errorOf_133 (lv_at hl 0 rfl) ?_
              refine lv_icmp_le (tgt := 142) hx hb dX12_errorOf_135 (by decide) (fun c652 => ?_) (fun c652 => ?_)
              · have fc652 := z_le (rfl : (v649).toInt = _) (rfl : (v651).toInt = _) c652
                refine lv_iconst (v := 0) hx hb dX12_errorOf_142 (by decide) ?_
                refine lv_icmp_ne (tgt := 151) hx hb dX12_errorOf_143 (by decide) (fun c653 => ?_) (fun c653 => ?_)
                · skip
                  refine lv_iload hx hb dX12_errorOf_151 (lv_at hl 0 rfl) ?_
                  exact W.iret (v := v651) hx hb hr (fun t ht9 hW => ⟨v651, rfl, ⟨trivial, (show (v651 : Int32).toInt = er1 (fa 12 15) (tLa (fa 12 14) (fa 12 16) a b (((iv 12 13) : Int32).toInt).toNat) (tFi (fa 12 14) (fa 12 16) a b (((iv 12 13) : Int32).toInt).toNat) from (by
                          have ha9 := hq645_0
                          have hb9 := hq645_1
                          have he9 : (x644_6 : Int32).toInt = (iv 12 13).toInt := (by omega)
                          rw [he9] at ha9 hb9
                          have := congrArg Int32.toInt (show v649 = fa 12 15 ((x644_4 : Int32).toInt).toNat from ev649)
                          have := congrArg Int32.toInt (show v651 = fa 12 15 ((x644_5 : Int32).toInt).toNat from ev651)
                          rw [← ha9, ← hb9]; unfold er1
                          split
                          · omega
                          · split
                            · omega
                            · split
                              · omega
                              · omega))⟩, ht9⟩) (fun q hq => by cases hq) dX12_errorOf_153
                · exact absurd c653 (by decide)
              · have fc652 := z_nle (rfl : (v649).toInt = _) (rfl : (v651).toInt = _) c652
                refine lv_iconst (v := 1) hx hb dX12_errorOf_138 (by decide) ?_
                refine lv_goto (tgt := 143) hx hb dX12_errorOf_139 (by decide) ?_
                refine lv_icmp_ne (tgt := 151) hx hb dX12_errorOf_143 (by decide) (fun c654 => ?_) (fun c654 => ?_)
                · exact absurd rfl c654
                · skip
                  refine lv_iload hx hb dX12_errorOf_146 (lv_at hl 1 rfl) ?_
                  refine lv_goto (tgt := 153) hx hb dX12_errorOf_148 (by decide) ?_
                  exact W.iret (v := v649) hx hb hr (fun t ht9 hW => ⟨v649, rfl, ⟨trivial, (show (v649 : Int32).toInt = er1 (fa 12 15) (tLa (fa 12 14) (fa 12 16) a b (((iv 12 13) : Int32).toInt).toNat) (tFi (fa 12 14) (fa 12 16) a b (((iv 12 13) : Int32).toInt).toNat) from (by
                          have ha9 := hq645_0
                          have hb9 := hq645_1
                          have he9 : (x644_6 : Int32).toInt = (iv 12 13).toInt := (by omega)
                          rw [he9] at ha9 hb9
                          have := congrArg Int32.toInt (show v649 = fa 12 15 ((x644_4 : Int32).toInt).toNat from ev649)
                          have := congrArg Int32.toInt (show v651 = fa 12 15 ((x644_5 : Int32).toInt).toNat from ev651)
                          rw [← ha9, ← hb9]; unfold er1
                          split
                          · omega
                          · split
                            · omega
                            · split
                              · omega
                              · omega))⟩, ht9⟩) (fun q hq => by cases hq) dX12_errorOf_153
            · have fc650 := z_nle (by decide : (0 : Int32).toInt = 0) (rfl : (x644_5).toInt = _) c650
              refine lv_iload hx hb dX12_errorOf_120 (lv_at hl 2 rfl) ?_
              refine lv_goto (tgt := 127) hx hb dX12_errorOf_122 (by decide) ?_
              refine lM_12_15 hx hb hK hP (f := (fa 12 15)) rfl (vp_in_iff.mpr ⟨by omega, by omega⟩) dX12_errorOf_127 ?_
              refine lv_topi (fun v655 ev655 => ?_)
              obtain rfl : v649 = v655 := ev649.trans ev655.symm
              refine lv_istore (lv' := [(7, .int v649), (6, .int v649), (5, .int x644_5), (4, .int x644_4), (0, .ref h), (1, .int a), (2, .int b), (3, .int 1)]) hx hb dX12_errorOf_128 hl (by decide) rfl (fun ls hl => ?_)
              refine lv_iload_n hx hb dX12_errorOf_130 rfl (lv_at hl 7 rfl) ?_
              refine lv_iload hx hb dX12_errorOf_131 (lv_at hl 1 rfl) ?_
              refine lv_iload hx hb dX12_errorOf_133 (lv_at hl 0 rfl) ?_
              refine lv_icmp_le (tgt := 142) hx hb dX12_errorOf_135 (by decide) (fun c656 => ?_) (fun c656 => ?_)
              · have fc656 := z_le (rfl : (v649).toInt = _) (rfl : (v649).toInt = _) c656
                refine lv_iconst (v := 0) hx hb dX12_errorOf_142 (by decide) ?_
                refine lv_icmp_ne (tgt := 151) hx hb dX12_errorOf_143 (by decide) (fun c657 => ?_) (fun c657 => ?_)
                · skip
                  refine lv_iload hx hb dX12_errorOf_151 (lv_at hl 0 rfl) ?_
                  exact W.iret (v := v649) hx hb hr (fun t ht9 hW => ⟨v649, rfl, ⟨trivial, (show (v649 : Int32).toInt = er1 (fa 12 15) (tLa (fa 12 14) (fa 12 16) a b (((iv 12 13) : Int32).toInt).toNat) (tFi (fa 12 14) (fa 12 16) a b (((iv 12 13) : Int32).toInt).toNat) from (by
                          have ha9 := hq645_0
                          have hb9 := hq645_1
                          have he9 : (x644_6 : Int32).toInt = (iv 12 13).toInt := (by omega)
                          rw [he9] at ha9 hb9
                          have := congrArg Int32.toInt (show v649 = fa 12 15 ((x644_4 : Int32).toInt).toNat from ev649)
                          rw [← ha9, ← hb9]; unfold er1
                          split
                          · omega
                          · split
                            · omega
                            · split
                              · omega
                              · omega))⟩, ht9⟩) (fun q hq => by cases hq) dX12_errorOf_153
                · exact absurd c657 (by decide)
              · have fc656 := z_nle (rfl : (v649).toInt = _) (rfl : (v649).toInt = _) c656
                refine lv_iconst (v := 1) hx hb dX12_errorOf_138 (by decide) ?_
                refine lv_goto (tgt := 143) hx hb dX12_errorOf_139 (by decide) ?_
                refine lv_icmp_ne (tgt := 151) hx hb dX12_errorOf_143 (by decide) (fun c658 => ?_) (fun c658 => ?_)
                · exact absurd rfl c658
                · skip
                  refine lv_iload hx hb dX12_errorOf_146 (lv_at hl 1 rfl) ?_
                  refine lv_goto (tgt := 153) hx hb dX12_errorOf_148 (by decide) ?_
                  exact W.iret (v := v649) hx hb hr (fun t ht9 hW => ⟨v649, rfl, ⟨trivial, (show (v649 : Int32).toInt = er1 (fa 12 15) (tLa (fa 12 14) (fa 12 16) a b (((iv 12 13) : Int32).toInt).toNat) (tFi (fa 12 14) (fa 12 16) a b (((iv 12 13) : Int32).toInt).toNat) from (by
                          have ha9 := hq645_0
                          have hb9 := hq645_1
                          have he9 : (x644_6 : Int32).toInt = (iv 12 13).toInt := (by omega)
                          rw [he9] at ha9 hb9
                          have := congrArg Int32.toInt (show v649 = fa 12 15 ((x644_4 : Int32).toInt).toNat from ev649)
                          rw [← ha9, ← hb9]; unfold er1
                          split
                          · omega
                          · split
                            · omega
                            · split
                              · omega
                              · omega))⟩, ht9⟩) (fun q hq => by cases hq) dX12_errorOf_153
          · have fc648 := z_nle (by decide : (0 : Int32).toInt = 0) (rfl : (x644_4).toInt = _) c648; exfalso; omega
        · have fc647 := z_nle (by decide : (0 : Int32).toInt = 0) (rfl : (x644_4).toInt = _) c647
          refine lv_iload hx hb dX12_errorOf_85 (lv_at hl 1 rfl) ?_
          refine lv_if_ge (tgt := 92) hx hb dX12_errorOf_87 (by decide) (fun c659 => ?_) (fun c659 => ?_)
          · have fc659 := z_le (by decide : (0 : Int32).toInt = 0) (rfl : (x644_5).toInt = _) c659
            refine lv_aload_n hx hb dX12_errorOf_92 rfl (lv_at hl 3 rfl) ?_
            refine gM_12_15 hx hb ht hown hK hP m_1154 dX12_errorOf_93 ?_
            refine lv_iload hx hb dX12_errorOf_96 (lv_at hl 2 rfl) ?_
            refine lv_if_ge (tgt := 106) hx hb dX12_errorOf_98 (by decide) (fun c660 => ?_) (fun c660 => ?_)
            · have fc660 := z_le (by decide : (0 : Int32).toInt = 0) (rfl : (x644_4).toInt = _) c660; exfalso; omega
            · skip
              refine lv_iload hx hb dX12_errorOf_101 (lv_at hl 1 rfl) ?_
              refine lv_goto (tgt := 108) hx hb dX12_errorOf_103 (by decide) ?_
              refine lM_12_15 hx hb hK hP (f := (fa 12 15)) rfl (vp_in_iff.mpr ⟨by omega, by omega⟩) dX12_errorOf_108 ?_
              refine lv_topi (fun v661 ev661 => ?_)
              refine lv_istore (lv' := [(6, .int v661), (5, .int x644_5), (4, .int x644_4), (0, .ref h), (1, .int a), (2, .int b), (3, .int 1)]) hx hb dX12_errorOf_109 hl (by decide) rfl (fun ls hl => ?_)
              refine lv_aload_n hx hb dX12_errorOf_111 rfl (lv_at hl 3 rfl) ?_
              refine gM_12_15 hx hb ht hown hK hP m_1154 dX12_errorOf_112 ?_
              refine lv_iload hx hb dX12_errorOf_115 (lv_at hl 1 rfl) ?_
              refine lv_if_ge (tgt := 125) hx hb dX12_errorOf_117 (by decide) (fun c662 => ?_) (fun c662 => ?_)
              · skip
                refine lv_iload hx hb dX12_errorOf_125 (lv_at hl 1 rfl) ?_
                refine lM_12_15 hx hb hK hP (f := (fa 12 15)) rfl (vp_in_iff.mpr ⟨by omega, by omega⟩) dX12_errorOf_127 ?_
                refine lv_topi (fun v663 ev663 => ?_)
                obtain rfl : v661 = v663 := ev661.trans ev663.symm
                refine lv_istore (lv' := [(7, .int v661), (6, .int v661), (5, .int x644_5), (4, .int x644_4), (0, .ref h), (1, .int a), (2, .int b), (3, .int 1)]) hx hb dX12_errorOf_128 hl (by decide) rfl (fun ls hl => ?_)
                refine lv_iload_n hx hb dX12_errorOf_130 rfl (lv_at hl 7 rfl) ?_
                refine lv_iload hx hb dX12_errorOf_131 (lv_at hl 1 rfl) ?_
                refine lv_iload hx hb dX12_errorOf_133 (lv_at hl 0 rfl) ?_
                refine lv_icmp_le (tgt := 142) hx hb dX12_errorOf_135 (by decide) (fun c664 => ?_) (fun c664 => ?_)
                · have fc664 := z_le (rfl : (v661).toInt = _) (rfl : (v661).toInt = _) c664
                  refine lv_iconst (v := 0) hx hb dX12_errorOf_142 (by decide) ?_
                  refine lv_icmp_ne (tgt := 151) hx hb dX12_errorOf_143 (by decide) (fun c665 => ?_) (fun c665 => ?_)
                  · skip
                    refine lv_iload hx hb dX12_errorOf_151 (lv_at hl 0 rfl) ?_
                    exact W.iret (v := v661) hx hb hr (fun t ht9 hW => ⟨v661, rfl, ⟨trivial, (show (v661 : Int32).toInt = er1 (fa 12 15) (tLa (fa 12 14) (fa 12 16) a b (((iv 12 13) : Int32).toInt).toNat) (tFi (fa 12 14) (fa 12 16) a b (((iv 12 13) : Int32).toInt).toNat) from (by
                            have ha9 := hq645_0
                            have hb9 := hq645_1
                            have he9 : (x644_6 : Int32).toInt = (iv 12 13).toInt := (by omega)
                            rw [he9] at ha9 hb9
                            have := congrArg Int32.toInt (show v661 = fa 12 15 ((x644_5 : Int32).toInt).toNat from ev661)
                            rw [← ha9, ← hb9]; unfold er1
                            split
                            · omega
                            · split
                              · omega
                              · split
                                · omega
                                · omega))⟩, ht9⟩) (fun q hq => by cases hq) dX12_errorOf_153
                  · exact absurd c665 (by decide)
                · have fc664 := z_nle (rfl : (v661).toInt = _) (rfl : (v661).toInt = _) c664
                  refine lv_iconst (v := 1) hx hb dX12_errorOf_138 (by decide) ?_
                  refine lv_goto (tgt := 143) hx hb dX12_errorOf_139 (by decide) ?_
                  refine lv_icmp_ne (tgt := 151) hx hb dX12_errorOf_143 (by decide) (fun c666 => ?_) (fun c666 => ?_)
                  · exact absurd rfl c666
                  · skip
                    refine lv_iload hx hb dX12_errorOf_146 (lv_at hl 1 rfl) ?_
                    refine lv_goto (tgt := 153) hx hb dX12_errorOf_148 (by decide) ?_
                    exact W.iret (v := v661) hx hb hr (fun t ht9 hW => ⟨v661, rfl, ⟨trivial, (show (v661 : Int32).toInt = er1 (fa 12 15) (tLa (fa 12 14) (fa 12 16) a b (((iv 12 13) : Int32).toInt).toNat) (tFi (fa 12 14) (fa 12 16) a b (((iv 12 13) : Int32).toInt).toNat) from (by
                            have ha9 := hq645_0
                            have hb9 := hq645_1
                            have he9 : (x644_6 : Int32).toInt = (iv 12 13).toInt := (by omega)
                            rw [he9] at ha9 hb9
                            have := congrArg Int32.toInt (show v661 = fa 12 15 ((x644_5 : Int32).toInt).toNat from ev661)
                            rw [← ha9, ← hb9]; unfold er1
                            split
                            · omega
                            · split
                              · omega
                              · split
                                · omega
                                · omega))⟩, ht9⟩) (fun q hq => by cases hq) dX12_errorOf_153
              · have fc662 := z_nle (by decide : (0 : Int32).toInt = 0) (rfl : (x644_5).toInt = _) c662; exfalso; omega
          · have fc659 := z_nle (by decide : (0 : Int32).toInt = 0) (rfl : (x644_5).toInt = _) c659
            refine lv_iconst (v := 0) hx hb dX12_errorOf_90 (by decide) ?_
            have : (0 : Int32).toInt = 0 := (by decide)
            exact W.iret (v := 0) hx hb hr (fun t ht9 hW => ⟨0, rfl, ⟨trivial, (show (0 : Int32).toInt = er1 (fa 12 15) (tLa (fa 12 14) (fa 12 16) a b (((iv 12 13) : Int32).toInt).toNat) (tFi (fa 12 14) (fa 12 16) a b (((iv 12 13) : Int32).toInt).toNat) from (by
                    have ha9 := hq645_0
                    have hb9 := hq645_1
                    have he9 : (x644_6 : Int32).toInt = (iv 12 13).toInt := (by omega)
                    rw [he9] at ha9 hb9
                    rw [← ha9, ← hb9]; unfold er1
                    split
                    · omega
                    · split
                      · omega
                      · split
                        · omega
                        · omega))⟩, ht9⟩) (fun q hq => by cases hq) dX12_errorOf_91
      · have fc646 := z_nle (rfl : ((iv 12 13)).toInt = _) (rfl : (x644_6).toInt = _) c646
        refine lv_aload_n hx hb dX12_errorOf_18 rfl (lv_at hl 3 rfl) ?_
        refine gM_12_14 hx hb ht hown hK hP m_1153 dX12_errorOf_19 ?_
        refine lv_iload hx hb dX12_errorOf_22 (lv_at hl 0 rfl) ?_
        refine lM_12_14 hx hb hK hP (f := (fa 12 14)) rfl (vp_in_iff.mpr ⟨by omega, by omega⟩) dX12_errorOf_24 ?_
        refine lv_topi (fun v667 ev667 => ?_)
        refine lv_iload_n hx hb dX12_errorOf_25 rfl (lv_at hl 4 rfl) ?_
        refine lv_icmp_ne (tgt := 74) hx hb dX12_errorOf_26 (by decide) (fun c668 => ?_) (fun c668 => ?_)
        · have fc668 := z_ne (rfl : (v667).toInt = _) (rfl : (a).toInt = _) c668
          obtain ⟨v669, ev669⟩ : ∃ y : Int32, y = x644_6 + 1 := ⟨_, rfl⟩
          have tv669 := z_add ev669 rfl (by decide : (1 : Int32).toInt = 1) (by omega) (by omega)
          refine lv_iinc (v := v669) (lv' := [(6, .int v669), (5, .int x644_5), (4, .int x644_4), (0, .ref h), (1, .int a), (2, .int b), (3, .int 1)]) hx hb dX12_errorOf_74 hl (k := 0) rfl (by rw [ev669]; rfl) (by decide) rfl (fun ls hl => ?_)
          refine lv_goto (tgt := 9) hx hb dX12_errorOf_77 (by decide) ?_
          exact ih645 v669 x644_5 x644_4 ⟨by omega, by omega⟩ ⟨by omega, by omega⟩ ⟨by omega, by omega⟩ (show (x644_4 : Int32).toInt = tLa (fa 12 14) (fa 12 16) a b ((v669 : Int32).toInt).toNat from (by have hc := la_step (sc := fa 12 14) (dy := fa 12 16) (s := a) (d := b) (t := x644_6) (t' := v669) (x := v667) (y := fa 12 16 (x644_6 : Int32).toNatClampNeg) (by omega) (by omega) ev667 rfl; have hq9 := hq645_0; rw [hc]; split <;> omega)) (show (x644_5 : Int32).toInt = tFi (fa 12 14) (fa 12 16) a b ((v669 : Int32).toInt).toNat from (by have hc := fi_step (sc := fa 12 14) (dy := fa 12 16) (s := a) (d := b) (t := x644_6) (t' := v669) (x := v667) (y := fa 12 16 (x644_6 : Int32).toNatClampNeg) (by omega) (by omega) ev667 rfl; have hq9 := hq645_1; rw [hc]; split <;> (try split) <;> omega)) (show (v669 : Int32).toInt ≤ ((iv 12 13) : Int32).toInt from by omega) (by omega) ls (lv_sub hl [0, 1, 2, 3, 4, 5, 6] rfl)
        · have fc668 := z_eq (rfl : (v667).toInt = _) (rfl : (a).toInt = _) c668
          refine lv_aload_n hx hb dX12_errorOf_29 rfl (lv_at hl 3 rfl) ?_
          refine gM_12_16 hx hb ht hown hK hP m_1155 dX12_errorOf_30 ?_
          refine lv_iload hx hb dX12_errorOf_33 (lv_at hl 0 rfl) ?_
          refine lM_12_16 hx hb hK hP (f := (fa 12 16)) rfl (vp_in_iff.mpr ⟨by omega, by omega⟩) dX12_errorOf_35 ?_
          refine lv_topi (fun v670 ev670 => ?_)
          refine lv_iload_n hx hb dX12_errorOf_36 rfl (lv_at hl 5 rfl) ?_
          refine lv_icmp_gt (tgt := 45) hx hb dX12_errorOf_37 (by decide) (fun c671 => ?_) (fun c671 => ?_)
          · have fc671 := z_lt (rfl : (b).toInt = _) (rfl : (v670).toInt = _) c671
            refine lv_iload hx hb dX12_errorOf_45 (lv_at hl 2 rfl) ?_
            refine lv_istore (lv' := [(4, .int x644_4), (6, .int x644_6), (5, .int x644_5), (0, .ref h), (1, .int a), (2, .int b), (3, .int 1)]) hx hb dX12_errorOf_47 hl (by decide) rfl (fun ls hl => ?_)
            refine lv_aload_n hx hb dX12_errorOf_49 rfl (lv_at hl 3 rfl) ?_
            refine gM_12_16 hx hb ht hown hK hP m_1155 dX12_errorOf_50 ?_
            refine lv_iload hx hb dX12_errorOf_53 (lv_at hl 1 rfl) ?_
            refine lM_12_16 hx hb hK hP (f := (fa 12 16)) rfl (vp_in_iff.mpr ⟨by omega, by omega⟩) dX12_errorOf_55 ?_
            refine lv_topi (fun v672 ev672 => ?_)
            obtain rfl : v670 = v672 := ev670.trans ev672.symm
            refine lv_iload_n hx hb dX12_errorOf_56 rfl (lv_at hl 5 rfl) ?_
            refine lv_icmp_le (tgt := 70) hx hb dX12_errorOf_57 (by decide) (fun c673 => ?_) (fun c673 => ?_)
            · have fc673 := z_le (rfl : (v670).toInt = _) (rfl : (b).toInt = _) c673
              refine lv_iload hx hb dX12_errorOf_70 (lv_at hl 2 rfl) ?_
              refine lv_istore (lv' := [(5, .int x644_5), (4, .int x644_4), (6, .int x644_6), (0, .ref h), (1, .int a), (2, .int b), (3, .int 1)]) hx hb dX12_errorOf_72 hl (by decide) rfl (fun ls hl => ?_)
              obtain ⟨v674, ev674⟩ : ∃ y : Int32, y = x644_6 + 1 := ⟨_, rfl⟩
              have tv674 := z_add ev674 rfl (by decide : (1 : Int32).toInt = 1) (by omega) (by omega)
              refine lv_iinc (v := v674) (lv' := [(6, .int v674), (5, .int x644_5), (4, .int x644_4), (0, .ref h), (1, .int a), (2, .int b), (3, .int 1)]) hx hb dX12_errorOf_74 hl (k := 2) rfl (by rw [ev674]; rfl) (by decide) rfl (fun ls hl => ?_)
              refine lv_goto (tgt := 9) hx hb dX12_errorOf_77 (by decide) ?_
              exact ih645 v674 x644_5 x644_4 ⟨by omega, by omega⟩ ⟨by omega, by omega⟩ ⟨by omega, by omega⟩ (show (x644_4 : Int32).toInt = tLa (fa 12 14) (fa 12 16) a b ((v674 : Int32).toInt).toNat from (by have hc := la_step (sc := fa 12 14) (dy := fa 12 16) (s := a) (d := b) (t := x644_6) (t' := v674) (x := v667) (y := v670) (by omega) (by omega) ev667 ev670; have hq9 := hq645_0; rw [hc]; split <;> omega)) (show (x644_5 : Int32).toInt = tFi (fa 12 14) (fa 12 16) a b ((v674 : Int32).toInt).toNat from (by have hc := fi_step (sc := fa 12 14) (dy := fa 12 16) (s := a) (d := b) (t := x644_6) (t' := v674) (x := v667) (y := v670) (by omega) (by omega) ev667 ev670; have hq9 := hq645_1; rw [hc]; split <;> (try split) <;> omega)) (show (v674 : Int32).toInt ≤ ((iv 12 13) : Int32).toInt from by omega) (by omega) ls (lv_sub hl [0, 1, 2, 3, 4, 5, 6] rfl)
            · have fc673 := z_nle (rfl : (v670).toInt = _) (rfl : (b).toInt = _) c673
              refine lv_iload hx hb dX12_errorOf_60 (lv_at hl 2 rfl) ?_
              refine lv_if_ge (tgt := 70) hx hb dX12_errorOf_62 (by decide) (fun c675 => ?_) (fun c675 => ?_)
              · have fc675 := z_le (by decide : (0 : Int32).toInt = 0) (rfl : (x644_5).toInt = _) c675
                refine lv_iload hx hb dX12_errorOf_70 (lv_at hl 2 rfl) ?_
                refine lv_istore (lv' := [(5, .int x644_5), (4, .int x644_4), (6, .int x644_6), (0, .ref h), (1, .int a), (2, .int b), (3, .int 1)]) hx hb dX12_errorOf_72 hl (by decide) rfl (fun ls hl => ?_)
                obtain ⟨v676, ev676⟩ : ∃ y : Int32, y = x644_6 + 1 := ⟨_, rfl⟩
                have tv676 := z_add ev676 rfl (by decide : (1 : Int32).toInt = 1) (by omega) (by omega)
                refine lv_iinc (v := v676) (lv' := [(6, .int v676), (5, .int x644_5), (4, .int x644_4), (0, .ref h), (1, .int a), (2, .int b), (3, .int 1)]) hx hb dX12_errorOf_74 hl (k := 2) rfl (by rw [ev676]; rfl) (by decide) rfl (fun ls hl => ?_)
                refine lv_goto (tgt := 9) hx hb dX12_errorOf_77 (by decide) ?_
                exact ih645 v676 x644_5 x644_4 ⟨by omega, by omega⟩ ⟨by omega, by omega⟩ ⟨by omega, by omega⟩ (show (x644_4 : Int32).toInt = tLa (fa 12 14) (fa 12 16) a b ((v676 : Int32).toInt).toNat from (by have hc := la_step (sc := fa 12 14) (dy := fa 12 16) (s := a) (d := b) (t := x644_6) (t' := v676) (x := v667) (y := v670) (by omega) (by omega) ev667 ev670; have hq9 := hq645_0; rw [hc]; split <;> omega)) (show (x644_5 : Int32).toInt = tFi (fa 12 14) (fa 12 16) a b ((v676 : Int32).toInt).toNat from (by have hc := fi_step (sc := fa 12 14) (dy := fa 12 16) (s := a) (d := b) (t := x644_6) (t' := v676) (x := v667) (y := v670) (by omega) (by omega) ev667 ev670; have hq9 := hq645_1; rw [hc]; split <;> (try split) <;> omega)) (show (v676 : Int32).toInt ≤ ((iv 12 13) : Int32).toInt from by omega) (by omega) ls (lv_sub hl [0, 1, 2, 3, 4, 5, 6] rfl)
              · have fc675 := z_nle (by decide : (0 : Int32).toInt = 0) (rfl : (x644_5).toInt = _) c675
                refine lv_iload hx hb dX12_errorOf_65 (lv_at hl 1 rfl) ?_
                refine lv_goto (tgt := 72) hx hb dX12_errorOf_67 (by decide) ?_
                refine lv_istore (lv' := [(5, .int x644_6), (4, .int x644_4), (6, .int x644_6), (0, .ref h), (1, .int a), (2, .int b), (3, .int 1)]) hx hb dX12_errorOf_72 hl (by decide) rfl (fun ls hl => ?_)
                obtain ⟨v677, ev677⟩ : ∃ y : Int32, y = x644_6 + 1 := ⟨_, rfl⟩
                have tv677 := z_add ev677 rfl (by decide : (1 : Int32).toInt = 1) (by omega) (by omega)
                refine lv_iinc (v := v677) (lv' := [(6, .int v677), (5, .int x644_6), (4, .int x644_4), (0, .ref h), (1, .int a), (2, .int b), (3, .int 1)]) hx hb dX12_errorOf_74 hl (k := 2) rfl (by rw [ev677]; rfl) (by decide) rfl (fun ls hl => ?_)
                refine lv_goto (tgt := 9) hx hb dX12_errorOf_77 (by decide) ?_
                exact ih645 v677 x644_6 x644_4 ⟨by omega, by omega⟩ ⟨by omega, by omega⟩ ⟨by omega, by omega⟩ (show (x644_4 : Int32).toInt = tLa (fa 12 14) (fa 12 16) a b ((v677 : Int32).toInt).toNat from (by have hc := la_step (sc := fa 12 14) (dy := fa 12 16) (s := a) (d := b) (t := x644_6) (t' := v677) (x := v667) (y := v670) (by omega) (by omega) ev667 ev670; have hq9 := hq645_0; rw [hc]; split <;> omega)) (show (x644_6 : Int32).toInt = tFi (fa 12 14) (fa 12 16) a b ((v677 : Int32).toInt).toNat from (by have hc := fi_step (sc := fa 12 14) (dy := fa 12 16) (s := a) (d := b) (t := x644_6) (t' := v677) (x := v667) (y := v670) (by omega) (by omega) ev667 ev670; have hq9 := hq645_1; rw [hc]; split <;> (try split) <;> omega)) (show (v677 : Int32).toInt ≤ ((iv 12 13) : Int32).toInt from by omega) (by omega) ls (lv_sub hl [0, 1, 2, 3, 4, 5, 6] rfl)
          · have fc671 := z_nlt (rfl : (b).toInt = _) (rfl : (v670).toInt = _) c671
            refine lv_iload hx hb dX12_errorOf_40 (lv_at hl 0 rfl) ?_
            refine lv_goto (tgt := 47) hx hb dX12_errorOf_42 (by decide) ?_
            refine lv_istore (lv' := [(4, .int x644_6), (6, .int x644_6), (5, .int x644_5), (0, .ref h), (1, .int a), (2, .int b), (3, .int 1)]) hx hb dX12_errorOf_47 hl (by decide) rfl (fun ls hl => ?_)
            refine lv_aload_n hx hb dX12_errorOf_49 rfl (lv_at hl 3 rfl) ?_
            refine gM_12_16 hx hb ht hown hK hP m_1155 dX12_errorOf_50 ?_
            refine lv_iload hx hb dX12_errorOf_53 (lv_at hl 1 rfl) ?_
            refine lM_12_16 hx hb hK hP (f := (fa 12 16)) rfl (vp_in_iff.mpr ⟨by omega, by omega⟩) dX12_errorOf_55 ?_
            refine lv_topi (fun v678 ev678 => ?_)
            obtain rfl : v670 = v678 := ev670.trans ev678.symm
            refine lv_iload_n hx hb dX12_errorOf_56 rfl (lv_at hl 5 rfl) ?_
            refine lv_icmp_le (tgt := 70) hx hb dX12_errorOf_57 (by decide) (fun c679 => ?_) (fun c679 => ?_)
            · have fc679 := z_le (rfl : (v670).toInt = _) (rfl : (b).toInt = _) c679
              refine lv_iload hx hb dX12_errorOf_70 (lv_at hl 2 rfl) ?_
              refine lv_istore (lv' := [(5, .int x644_5), (4, .int x644_6), (6, .int x644_6), (0, .ref h), (1, .int a), (2, .int b), (3, .int 1)]) hx hb dX12_errorOf_72 hl (by decide) rfl (fun ls hl => ?_)
              obtain ⟨v680, ev680⟩ : ∃ y : Int32, y = x644_6 + 1 := ⟨_, rfl⟩
              have tv680 := z_add ev680 rfl (by decide : (1 : Int32).toInt = 1) (by omega) (by omega)
              refine lv_iinc (v := v680) (lv' := [(6, .int v680), (5, .int x644_5), (4, .int x644_6), (0, .ref h), (1, .int a), (2, .int b), (3, .int 1)]) hx hb dX12_errorOf_74 hl (k := 2) rfl (by rw [ev680]; rfl) (by decide) rfl (fun ls hl => ?_)
              refine lv_goto (tgt := 9) hx hb dX12_errorOf_77 (by decide) ?_
              exact ih645 v680 x644_5 x644_6 ⟨by omega, by omega⟩ ⟨by omega, by omega⟩ ⟨by omega, by omega⟩ (show (x644_6 : Int32).toInt = tLa (fa 12 14) (fa 12 16) a b ((v680 : Int32).toInt).toNat from (by have hc := la_step (sc := fa 12 14) (dy := fa 12 16) (s := a) (d := b) (t := x644_6) (t' := v680) (x := v667) (y := v670) (by omega) (by omega) ev667 ev670; have hq9 := hq645_0; rw [hc]; split <;> omega)) (show (x644_5 : Int32).toInt = tFi (fa 12 14) (fa 12 16) a b ((v680 : Int32).toInt).toNat from (by have hc := fi_step (sc := fa 12 14) (dy := fa 12 16) (s := a) (d := b) (t := x644_6) (t' := v680) (x := v667) (y := v670) (by omega) (by omega) ev667 ev670; have hq9 := hq645_1; rw [hc]; split <;> (try split) <;> omega)) (show (v680 : Int32).toInt ≤ ((iv 12 13) : Int32).toInt from by omega) (by omega) ls (lv_sub hl [0, 1, 2, 3, 4, 5, 6] rfl)
            · have fc679 := z_nle (rfl : (v670).toInt = _) (rfl : (b).toInt = _) c679
              refine lv_iload hx hb dX12_errorOf_60 (lv_at hl 2 rfl) ?_
              refine lv_if_ge (tgt := 70) hx hb dX12_errorOf_62 (by decide) (fun c681 => ?_) (fun c681 => ?_)
              · have fc681 := z_le (by decide : (0 : Int32).toInt = 0) (rfl : (x644_5).toInt = _) c681
                refine lv_iload hx hb dX12_errorOf_70 (lv_at hl 2 rfl) ?_
                refine lv_istore (lv' := [(5, .int x644_5), (4, .int x644_6), (6, .int x644_6), (0, .ref h), (1, .int a), (2, .int b), (3, .int 1)]) hx hb dX12_errorOf_72 hl (by decide) rfl (fun ls hl => ?_)
                obtain ⟨v682, ev682⟩ : ∃ y : Int32, y = x644_6 + 1 := ⟨_, rfl⟩
                have tv682 := z_add ev682 rfl (by decide : (1 : Int32).toInt = 1) (by omega) (by omega)
                refine lv_iinc (v := v682) (lv' := [(6, .int v682), (5, .int x644_5), (4, .int x644_6), (0, .ref h), (1, .int a), (2, .int b), (3, .int 1)]) hx hb dX12_errorOf_74 hl (k := 2) rfl (by rw [ev682]; rfl) (by decide) rfl (fun ls hl => ?_)
                refine lv_goto (tgt := 9) hx hb dX12_errorOf_77 (by decide) ?_
                exact ih645 v682 x644_5 x644_6 ⟨by omega, by omega⟩ ⟨by omega, by omega⟩ ⟨by omega, by omega⟩ (show (x644_6 : Int32).toInt = tLa (fa 12 14) (fa 12 16) a b ((v682 : Int32).toInt).toNat from (by have hc := la_step (sc := fa 12 14) (dy := fa 12 16) (s := a) (d := b) (t := x644_6) (t' := v682) (x := v667) (y := v670) (by omega) (by omega) ev667 ev670; have hq9 := hq645_0; rw [hc]; split <;> omega)) (show (x644_5 : Int32).toInt = tFi (fa 12 14) (fa 12 16) a b ((v682 : Int32).toInt).toNat from (by have hc := fi_step (sc := fa 12 14) (dy := fa 12 16) (s := a) (d := b) (t := x644_6) (t' := v682) (x := v667) (y := v670) (by omega) (by omega) ev667 ev670; have hq9 := hq645_1; rw [hc]; split <;> (try split) <;> omega)) (show (v682 : Int32).toInt ≤ ((iv 12 13) : Int32).toInt from by omega) (by omega) ls (lv_sub hl [0, 1, 2, 3, 4, 5, 6] rfl)
              · have fc681 := z_nle (by decide : (0 : Int32).toInt = 0) (rfl : (x644_5).toInt = _) c681
                refine lv_iload hx hb dX12_errorOf_65 (lv_at hl 1 rfl) ?_
                refine lv_goto (tgt := 72) hx hb dX12_errorOf_67 (by decide) ?_
                refine lv_istore (lv' := [(5, .int x644_6), (4, .int x644_6), (6, .int x644_6), (0, .ref h), (1, .int a), (2, .int b), (3, .int 1)]) hx hb dX12_errorOf_72 hl (by decide) rfl (fun ls hl => ?_)
                obtain ⟨v683, ev683⟩ : ∃ y : Int32, y = x644_6 + 1 := ⟨_, rfl⟩
                have tv683 := z_add ev683 rfl (by decide : (1 : Int32).toInt = 1) (by omega) (by omega)
                refine lv_iinc (v := v683) (lv' := [(6, .int v683), (5, .int x644_6), (4, .int x644_6), (0, .ref h), (1, .int a), (2, .int b), (3, .int 1)]) hx hb dX12_errorOf_74 hl (k := 2) rfl (by rw [ev683]; rfl) (by decide) rfl (fun ls hl => ?_)
                refine lv_goto (tgt := 9) hx hb dX12_errorOf_77 (by decide) ?_
                exact ih645 v683 x644_6 x644_6 ⟨by omega, by omega⟩ ⟨by omega, by omega⟩ ⟨by omega, by omega⟩ (show (x644_6 : Int32).toInt = tLa (fa 12 14) (fa 12 16) a b ((v683 : Int32).toInt).toNat from (by have hc := la_step (sc := fa 12 14) (dy := fa 12 16) (s := a) (d := b) (t := x644_6) (t' := v683) (x := v667) (y := v670) (by omega) (by omega) ev667 ev670; have hq9 := hq645_0; rw [hc]; split <;> omega)) (show (x644_6 : Int32).toInt = tFi (fa 12 14) (fa 12 16) a b ((v683 : Int32).toInt).toNat from (by have hc := fi_step (sc := fa 12 14) (dy := fa 12 16) (s := a) (d := b) (t := x644_6) (t' := v683) (x := v667) (y := v670) (by omega) (by omega) ev667 ev670; have hq9 := hq645_1; rw [hc]; split <;> (try split) <;> omega)) (show (v683 : Int32).toInt ≤ ((iv 12 13) : Int32).toInt from by omega) (by omega) ls (lv_sub hl [0, 1, 2, 3, 4, 5, 6] rfl)
  have : (0 : Int32).toInt = 0 := (by decide)
  have : ((-1) : Int32).toInt = (-1) := (by decide)
  have i_12_13 : 0 ≤ (iv 12 13).toInt ∧ (iv 12 13).toInt ≤ 30 := hI.1 12 13
  exact lp645 31 0 (-1) (-1) ⟨by decide, by decide⟩ ⟨by decide, by decide⟩ ⟨by decide, by decide⟩ (show ((-1) : Int32).toInt = tLa (fa 12 14) (fa 12 16) a b ((0 : Int32).toInt).toNat from by show _ = (-1 : Int); omega) (show ((-1) : Int32).toInt = tFi (fa 12 14) (fa 12 16) a b ((0 : Int32).toInt).toNat from by show _ = (-1 : Int); omega) (show (0 : Int32).toInt ≤ ((iv 12 13) : Int32).toInt from by omega) (by first | decide | omega) ls (lv_sub hl [0, 1, 2, 3, 4, 5, 6] rfl)
set_option maxHeartbeats 4000000 in
set_option maxRecDepth 100000 in
/-- X12_error -/
theorem c_X12_error_x (l : Launch) (dC : Nat → ClassId) (dI : Nat → Nat → Nat) (h : Nat) (g : Nat → Nat → Nat) (ca : Nat → Nat → ClassId) (iv : Nat → Nat → Int32) (lv : Nat → Nat → Int64) (fa : Nat → Nat → Nat → Int32) (la : Nat → Nat → Nat → Int64) (hI : IX iv fa) (a : Int32) (b : Int32) (d : Int32) : Met l yX12_error (wc yX12_error cX12_error 4 (some .int)) ({ frames := 2, cells := 0, slots := 0, locals := 45 } : Room) (pR (dC, dI) classes (WM h g ca iv lv fa la) (TM ca) [.ref h, .int a, .int b, .int d]) (vp_Si (fun r => (True) ∧ (((r.toInt = -100002 ∧ ¬ (0 ≤ a.toInt ∧ a.toInt ≤ 3 ∧ 0 ≤ b.toInt ∧ b.toInt ≤ 3000 ∧ 0 ≤ d.toInt ∧ d.toInt ≤ 1)) ∨ (0 ≤ a.toInt ∧ a.toInt ≤ 3 ∧ 0 ≤ b.toInt ∧ b.toInt ≤ 3000 ∧ 0 ≤ d.toInt ∧ d.toInt ≤ 1 ∧ d.toInt = 0 ∧ r.toInt = er0 (fa 12 15) (tLa (fa 12 14) (fa 12 16) a b ((iv 12 13).toInt).toNat) (tFi (fa 12 14) (fa 12 16) a b ((iv 12 13).toInt).toNat)) ∨ (0 ≤ a.toInt ∧ a.toInt ≤ 3 ∧ 0 ≤ b.toInt ∧ b.toInt ≤ 3000 ∧ 0 ≤ d.toInt ∧ d.toInt ≤ 1 ∧ d.toInt = 1 ∧ r.toInt = er1 (fa 12 15) (tLa (fa 12 14) (fa 12 16) a b ((iv 12 13).toInt).toNat) (tFi (fa 12 14) (fa 12 16) a b ((iv 12 13).toInt).toNat)))))) 0 0 (fun _ => False) := by
  refine Met.ofW (cc := cX12_error) (maxL := 4) (ret := (some .int)) (by decide) rfl ?_
  intro p e s m args below meth c s₁ B hml hv
  obtain ⟨rfl, hP, hK⟩ := hv
  have hx := B.exec
  have hb := B.bytes
  have hr := B.returns
  have ht := tb_tl (atoms_spec (ws := wc yX12_error cX12_error 4 (some .int)) B.pre)
  have hown : s.vm.findClass RX12 = some m.cls := findClass_of_methodNamed B.named
  have hlocks := B.notSynchronized
  have hl := lv_entry [.ref h, .int a, .int b, .int d] (n := 4) (Nat.le_of_ble_eq_true rfl)
  rw [lg_entry_eq]
  generalize (lg_sl [.ref h, .int a, .int b, .int d] ++ List.replicate (4 - (lg_sl [.ref h, .int a, .int b, .int d]).length) Slot.unset).toArray = ls at hl ⊢
  have hl : lv_has ls 4 [(0, .ref h), (1, .int a), (2, .int b), (3, .int d)] := hl
  refine lv_iload_n hx hb dX12_error_0 rfl (lv_at hl 1 rfl) ?_
  refine lv_i2l (v := (a.toInt64)) hx hb dX12_error_1 rfl ?_
  refine lv_lconst (v := 0) hx hb dX12_error_2 (by decide) ?_
  refine lv_ldc2 hx hb hown (ht _ m_1391) dX12_error_3 ?_
  refine vp_callSi (W.runS (As := [.long (a.toInt64), .long 0, .long 3]) (rest := []) ⟨hx, hb, hml, hown, ht⟩ (c_X12_in l dC dI (a.toInt64) 0 3 (a.toInt) (0) (3) ((Int32.toInt_toInt64 a).trans rfl) (by decide : (0 : Int64).toInt = 0) (by decide : (3 : Int64).toInt = 3)) (kS 3 ht m_1370 m_1371 m_89 m_1372 rfl rfl hd_X12_in_v ⟨Nat.le_of_ble_eq_true rfl, Nat.le_of_ble_eq_true rfl⟩) (sR noP (hK.sub (tys' := []) [] rfl)) rfl rfl hl.1 rfl (lv_room (Nat.le_of_ble_eq_true rfl)) dX12_error_6 ⟨Nat.le_of_ble_eq_true rfl, Nat.le_of_ble_eq_true rfl⟩) (fun r1 hr1 => ?_)
  rcases hr1 with ⟨rfl, fr1⟩ | ⟨rfl, fr1⟩
  · skip
    refine lv_if_eq (tgt := 29) hx hb dX12_error_9 (by decide) (fun c2 => ?_) (fun c2 => ?_)
    · exact absurd c2 (by decide)
    · skip
      refine lv_iload_n hx hb dX12_error_12 rfl (lv_at hl 2 rfl) ?_
      refine vp_callSi (W.runS (As := [.int b]) (rest := []) ⟨hx, hb, hml, hown, ht⟩ (c_X12_isDay l dC dI b) (kS 1 ht m_1422 m_1423 m_89 m_1424 rfl rfl hd_X12_isDay_v ⟨Nat.le_of_ble_eq_true rfl, Nat.le_of_ble_eq_true rfl⟩) (sR noP (hK.sub (tys' := []) [] rfl)) rfl rfl hl.1 rfl (lv_room (Nat.le_of_ble_eq_true rfl)) dX12_error_13 ⟨Nat.le_of_ble_eq_true rfl, Nat.le_of_ble_eq_true rfl⟩) (fun r3 hr3 => ?_)
      rcases hr3 with ⟨rfl, fr3⟩ | ⟨rfl, fr3⟩
      · skip
        refine lv_if_eq (tgt := 29) hx hb dX12_error_16 (by decide) (fun c4 => ?_) (fun c4 => ?_)
        · exact absurd c4 (by decide)
        · skip
          refine lv_iload_n hx hb dX12_error_19 rfl (lv_at hl 3 rfl) ?_
          refine lv_i2l (v := (d.toInt64)) hx hb dX12_error_20 rfl ?_
          refine lv_lconst (v := 0) hx hb dX12_error_21 (by decide) ?_
          refine lv_lconst (v := 1) hx hb dX12_error_22 (by decide) ?_
          refine vp_callSi (W.runS (As := [.long (d.toInt64), .long 0, .long 1]) (rest := []) ⟨hx, hb, hml, hown, ht⟩ (c_X12_in l dC dI (d.toInt64) 0 1 (d.toInt) (0) (1) ((Int32.toInt_toInt64 d).trans rfl) (by decide : (0 : Int64).toInt = 0) (by decide : (1 : Int64).toInt = 1)) (kS 3 ht m_1370 m_1371 m_89 m_1372 rfl rfl hd_X12_in_v ⟨Nat.le_of_ble_eq_true rfl, Nat.le_of_ble_eq_true rfl⟩) (sR noP (hK.sub (tys' := []) [] rfl)) rfl rfl hl.1 rfl (lv_room (Nat.le_of_ble_eq_true rfl)) dX12_error_23 ⟨Nat.le_of_ble_eq_true rfl, Nat.le_of_ble_eq_true rfl⟩) (fun r5 hr5 => ?_)
          rcases hr5 with ⟨rfl, fr5⟩ | ⟨rfl, fr5⟩
          · skip
            refine lv_if_ne (tgt := 32) hx hb dX12_error_26 (by decide) (fun c6 => ?_) (fun c6 => ?_)
            · skip
              refine lv_aload_n hx hb dX12_error_32 rfl (lv_at hl 0 rfl) ?_
              refine lv_iload_n hx hb dX12_error_33 rfl (lv_at hl 1 rfl) ?_
              refine lv_iload_n hx hb dX12_error_34 rfl (lv_at hl 2 rfl) ?_
              refine lv_iload_n hx hb dX12_error_35 rfl (lv_at hl 3 rfl) ?_
              refine lv_iconst (v := 1) hx hb dX12_error_36 (by decide) ?_
              refine lv_icmp_ne (tgt := 44) hx hb dX12_error_37 (by decide) (fun c7 => ?_) (fun c7 => ?_)
              · have fc7 := z_ne (rfl : (d).toInt = _) (by decide : (1 : Int32).toInt = 1) c7
                refine lv_iconst (v := 0) hx hb dX12_error_44 (by decide) ?_
                refine vp_callSi (W.runV (As := [.int a, .int b, .int 0]) (rest := []) ⟨hx, hb, hml, hown, ht⟩ (c_X12_errorOf_x0 l dC dI h g ca iv lv fa la hI a b) (kV 3 ht m_1426 m_1428 m_44 m_89 m_1429 rfl rfl hd_X12_errorOf_v ⟨Nat.le_of_ble_eq_true rfl, Nat.le_of_ble_eq_true rfl⟩) (vR hP hK (rM_12 hK hP)) rfl rfl hl.1 rfl (lv_room (Nat.le_of_ble_eq_true rfl)) dX12_error_45 ⟨Nat.le_of_ble_eq_true rfl, Nat.le_of_ble_eq_true rfl⟩) (fun r8 hr8 => ?_)
                obtain ⟨hr8, xr8_0⟩ := hr8
                have i_12_13 : 0 ≤ (iv 12 13).toInt ∧ (iv 12 13).toInt ≤ 30 := hI.1 12 13
                have xr8_0 : (r8 : Int32).toInt = er0 (fa 12 15) (tLa (fa 12 14) (fa 12 16) (a : Int32) (b : Int32) (((iv 12 13) : Int32).toInt).toNat) (tFi (fa 12 14) (fa 12 16) (a : Int32) (b : Int32) (((iv 12 13) : Int32).toInt).toNat) := xr8_0
                exact W.iret (v := r8) hx hb hr (fun t ht9 hW => ⟨r8, rfl, ⟨trivial, (show (((r8 : Int32).toInt = -100002 ∧ ¬ (0 ≤ (a).toInt ∧ (a).toInt ≤ 3 ∧ 0 ≤ (b).toInt ∧ (b).toInt ≤ 3000 ∧ 0 ≤ (d).toInt ∧ (d).toInt ≤ 1)) ∨ (0 ≤ (a).toInt ∧ (a).toInt ≤ 3 ∧ 0 ≤ (b).toInt ∧ (b).toInt ≤ 3000 ∧ 0 ≤ (d).toInt ∧ (d).toInt ≤ 1 ∧ (d).toInt = 0 ∧ (r8 : Int32).toInt = er0 (fa 12 15) (tLa (fa 12 14) (fa 12 16) a b (((iv 12 13) : Int32).toInt).toNat) (tFi (fa 12 14) (fa 12 16) a b (((iv 12 13) : Int32).toInt).toNat)) ∨ (0 ≤ (a).toInt ∧ (a).toInt ≤ 3 ∧ 0 ≤ (b).toInt ∧ (b).toInt ≤ 3000 ∧ 0 ≤ (d).toInt ∧ (d).toInt ≤ 1 ∧ (d).toInt = 1 ∧ (r8 : Int32).toInt = er1 (fa 12 15) (tLa (fa 12 14) (fa 12 16) a b (((iv 12 13) : Int32).toInt).toNat) (tFi (fa 12 14) (fa 12 16) a b (((iv 12 13) : Int32).toInt).toNat))) from by omega)⟩, ht9⟩) (fun q hq => by cases hq) dX12_error_48
              · have fc7 := z_eq (rfl : (d).toInt = _) (by decide : (1 : Int32).toInt = 1) c7
                refine lv_iconst (v := 1) hx hb dX12_error_40 (by decide) ?_
                refine lv_goto (tgt := 45) hx hb dX12_error_41 (by decide) ?_
                refine vp_callSi (W.runV (As := [.int a, .int b, .int 1]) (rest := []) ⟨hx, hb, hml, hown, ht⟩ (c_X12_errorOf_x1 l dC dI h g ca iv lv fa la hI a b) (kV 3 ht m_1426 m_1428 m_44 m_89 m_1429 rfl rfl hd_X12_errorOf_v ⟨Nat.le_of_ble_eq_true rfl, Nat.le_of_ble_eq_true rfl⟩) (vR hP hK (rM_12 hK hP)) rfl rfl hl.1 rfl (lv_room (Nat.le_of_ble_eq_true rfl)) dX12_error_45 ⟨Nat.le_of_ble_eq_true rfl, Nat.le_of_ble_eq_true rfl⟩) (fun r9 hr9 => ?_)
                obtain ⟨hr9, xr9_0⟩ := hr9
                have i_12_13 : 0 ≤ (iv 12 13).toInt ∧ (iv 12 13).toInt ≤ 30 := hI.1 12 13
                have xr9_0 : (r9 : Int32).toInt = er1 (fa 12 15) (tLa (fa 12 14) (fa 12 16) (a : Int32) (b : Int32) (((iv 12 13) : Int32).toInt).toNat) (tFi (fa 12 14) (fa 12 16) (a : Int32) (b : Int32) (((iv 12 13) : Int32).toInt).toNat) := xr9_0
                exact W.iret (v := r9) hx hb hr (fun t ht9 hW => ⟨r9, rfl, ⟨trivial, (show (((r9 : Int32).toInt = -100002 ∧ ¬ (0 ≤ (a).toInt ∧ (a).toInt ≤ 3 ∧ 0 ≤ (b).toInt ∧ (b).toInt ≤ 3000 ∧ 0 ≤ (d).toInt ∧ (d).toInt ≤ 1)) ∨ (0 ≤ (a).toInt ∧ (a).toInt ≤ 3 ∧ 0 ≤ (b).toInt ∧ (b).toInt ≤ 3000 ∧ 0 ≤ (d).toInt ∧ (d).toInt ≤ 1 ∧ (d).toInt = 0 ∧ (r9 : Int32).toInt = er0 (fa 12 15) (tLa (fa 12 14) (fa 12 16) a b (((iv 12 13) : Int32).toInt).toNat) (tFi (fa 12 14) (fa 12 16) a b (((iv 12 13) : Int32).toInt).toNat)) ∨ (0 ≤ (a).toInt ∧ (a).toInt ≤ 3 ∧ 0 ≤ (b).toInt ∧ (b).toInt ≤ 3000 ∧ 0 ≤ (d).toInt ∧ (d).toInt ≤ 1 ∧ (d).toInt = 1 ∧ (r9 : Int32).toInt = er1 (fa 12 15) (tLa (fa 12 14) (fa 12 16) a b (((iv 12 13) : Int32).toInt).toNat) (tFi (fa 12 14) (fa 12 16) a b (((iv 12 13) : Int32).toInt).toNat))) from by omega)⟩, ht9⟩) (fun q hq => by cases hq) dX12_error_48
            · exact absurd c6 (by decide)
          · skip
            refine lv_if_ne (tgt := 32) hx hb dX12_error_26 (by decide) (fun c10 => ?_) (fun c10 => ?_)
            · exact absurd rfl c10
            · skip
              refine lv_ldc hx hb hown (ht _ m_1373) dX12_error_29 ?_
              have : ((-100002) : Int32).toInt = (-100002) := (by decide)
              have i_12_13 : 0 ≤ (iv 12 13).toInt ∧ (iv 12 13).toInt ≤ 30 := hI.1 12 13
              exact W.iret (v := (-100002)) hx hb hr (fun t ht9 hW => ⟨(-100002), rfl, ⟨trivial, (show ((((-100002) : Int32).toInt = -100002 ∧ ¬ (0 ≤ (a).toInt ∧ (a).toInt ≤ 3 ∧ 0 ≤ (b).toInt ∧ (b).toInt ≤ 3000 ∧ 0 ≤ (d).toInt ∧ (d).toInt ≤ 1)) ∨ (0 ≤ (a).toInt ∧ (a).toInt ≤ 3 ∧ 0 ≤ (b).toInt ∧ (b).toInt ≤ 3000 ∧ 0 ≤ (d).toInt ∧ (d).toInt ≤ 1 ∧ (d).toInt = 0 ∧ ((-100002) : Int32).toInt = er0 (fa 12 15) (tLa (fa 12 14) (fa 12 16) a b (((iv 12 13) : Int32).toInt).toNat) (tFi (fa 12 14) (fa 12 16) a b (((iv 12 13) : Int32).toInt).toNat)) ∨ (0 ≤ (a).toInt ∧ (a).toInt ≤ 3 ∧ 0 ≤ (b).toInt ∧ (b).toInt ≤ 3000 ∧ 0 ≤ (d).toInt ∧ (d).toInt ≤ 1 ∧ (d).toInt = 1 ∧ ((-100002) : Int32).toInt = er1 (fa 12 15) (tLa (fa 12 14) (fa 12 16) a b (((iv 12 13) : Int32).toInt).toNat) (tFi (fa 12 14) (fa 12 16) a b (((iv 12 13) : Int32).toInt).toNat))) from by omega)⟩, ht9⟩) (fun q hq => by cases hq) dX12_error_31
      · skip
        refine lv_if_eq (tgt := 29) hx hb dX12_error_16 (by decide) (fun c11 => ?_) (fun c11 => ?_)
        · skip
          refine lv_ldc hx hb hown (ht _ m_1373) dX12_error_29 ?_
          have : ((-100002) : Int32).toInt = (-100002) := (by decide)
          have i_12_13 : 0 ≤ (iv 12 13).toInt ∧ (iv 12 13).toInt ≤ 30 := hI.1 12 13
          exact W.iret (v := (-100002)) hx hb hr (fun t ht9 hW => ⟨(-100002), rfl, ⟨trivial, (show ((((-100002) : Int32).toInt = -100002 ∧ ¬ (0 ≤ (a).toInt ∧ (a).toInt ≤ 3 ∧ 0 ≤ (b).toInt ∧ (b).toInt ≤ 3000 ∧ 0 ≤ (d).toInt ∧ (d).toInt ≤ 1)) ∨ (0 ≤ (a).toInt ∧ (a).toInt ≤ 3 ∧ 0 ≤ (b).toInt ∧ (b).toInt ≤ 3000 ∧ 0 ≤ (d).toInt ∧ (d).toInt ≤ 1 ∧ (d).toInt = 0 ∧ ((-100002) : Int32).toInt = er0 (fa 12 15) (tLa (fa 12 14) (fa 12 16) a b (((iv 12 13) : Int32).toInt).toNat) (tFi (fa 12 14) (fa 12 16) a b (((iv 12 13) : Int32).toInt).toNat)) ∨ (0 ≤ (a).toInt ∧ (a).toInt ≤ 3 ∧ 0 ≤ (b).toInt ∧ (b).toInt ≤ 3000 ∧ 0 ≤ (d).toInt ∧ (d).toInt ≤ 1 ∧ (d).toInt = 1 ∧ ((-100002) : Int32).toInt = er1 (fa 12 15) (tLa (fa 12 14) (fa 12 16) a b (((iv 12 13) : Int32).toInt).toNat) (tFi (fa 12 14) (fa 12 16) a b (((iv 12 13) : Int32).toInt).toNat))) from by omega)⟩, ht9⟩) (fun q hq => by cases hq) dX12_error_31
        · exact absurd rfl c11
  · skip
    refine lv_if_eq (tgt := 29) hx hb dX12_error_9 (by decide) (fun c12 => ?_) (fun c12 => ?_)
    · skip
      refine lv_ldc hx hb hown (ht _ m_1373) dX12_error_29 ?_
      have : ((-100002) : Int32).toInt = (-100002) := (by decide)
      have i_12_13 : 0 ≤ (iv 12 13).toInt ∧ (iv 12 13).toInt ≤ 30 := hI.1 12 13
      exact W.iret (v := (-100002)) hx hb hr (fun t ht9 hW => ⟨(-100002), rfl, ⟨trivial, (show ((((-100002) : Int32).toInt = -100002 ∧ ¬ (0 ≤ (a).toInt ∧ (a).toInt ≤ 3 ∧ 0 ≤ (b).toInt ∧ (b).toInt ≤ 3000 ∧ 0 ≤ (d).toInt ∧ (d).toInt ≤ 1)) ∨ (0 ≤ (a).toInt ∧ (a).toInt ≤ 3 ∧ 0 ≤ (b).toInt ∧ (b).toInt ≤ 3000 ∧ 0 ≤ (d).toInt ∧ (d).toInt ≤ 1 ∧ (d).toInt = 0 ∧ ((-100002) : Int32).toInt = er0 (fa 12 15) (tLa (fa 12 14) (fa 12 16) a b (((iv 12 13) : Int32).toInt).toNat) (tFi (fa 12 14) (fa 12 16) a b (((iv 12 13) : Int32).toInt).toNat)) ∨ (0 ≤ (a).toInt ∧ (a).toInt ≤ 3 ∧ 0 ≤ (b).toInt ∧ (b).toInt ≤ 3000 ∧ 0 ≤ (d).toInt ∧ (d).toInt ≤ 1 ∧ (d).toInt = 1 ∧ ((-100002) : Int32).toInt = er1 (fa 12 15) (tLa (fa 12 14) (fa 12 16) a b (((iv 12 13) : Int32).toInt).toNat) (tFi (fa 12 14) (fa 12 16) a b (((iv 12 13) : Int32).toInt).toNat))) from by omega)⟩, ht9⟩) (fun q hq => by cases hq) dX12_error_31
    · exact absurd rfl c12
