/-! ===== na1 ===== -/

/-- which name clauses tell of a mean, S the sum of T sizes -/
def mN (k f s : Nat → Int32) (kd : Int) (S T : Int32) : Nat → Prop := fun j => (k j).toInt = kd ∧ (f j * T).toInt ≤ S.toInt ∧ S.toInt < (s j * T).toInt
def vN : Nat → Int := fun j => 100 * ((j / 12 : Nat) : Int) + ((j % 12 : Nat) : Int)
def NaX (n : Int) (d c k f s : Nat → Int32) (S T : Int32) (D v : Int) : Prop := ∃ (on : Nat → Prop) (q : Int), OnR n on d (St c (mX k 7) f) D ∧ BestS n.toNat on d c (mN k f s 6 S T) vN (-1) v q
def NaY (n : Int) (d c k f s : Nat → Int32) (S T : Int32) (D v : Int) : Prop := ∃ (on : Nat → Prop) (q : Int), OnR n on d (St c (mX k 3) f) D ∧ BestS n.toNat on d c (mN k f s 2 S T) vN (-1) v q
theorem Bk_named {n D v w : Int} {S T : Int32} {dx cx kx fx sx lx dy cy ky ny fy sy wy ly : Nat → Int32} (h : BkE n dx cx kx fx sx lx dy cy ky ny fy sy wy ly) (hc : ∀ j : Nat, (cx j).toInt ≤ 12) (x : NaX n dx cx kx fx sx S T D v) (y : NaY n dy cy ky fy sy S T D w) : v = w := by
  obtain ⟨on, s, x1, x2⟩ := x
  obtain ⟨on', s', y1, y2⟩ := y
  refine BestS_un (fun r hr => Bk_on h x1 y1 r (by omega)) (fun r hr => ⟨(h r (by omega)).1, (h r (by omega)).2.1⟩) (fun r j hr h1 h2 => ?_) (fun r hr => hc r) x2 y2
  have z := (h r (by omega)).2.2.2.2 j h1 h2
  have k := ClE_k z
  refine ⟨?_, fun _ => rfl⟩
  show ((kx j).toInt = 6 ∧ (fx j * T).toInt ≤ S.toInt ∧ S.toInt < (sx j * T).toInt) ↔ ((ky j).toInt = 2 ∧ (fy j * T).toInt ≤ S.toInt ∧ S.toInt < (sy j * T).toInt)
  rw [z.2.1]
  constructor
  · rintro ⟨a, b, c⟩
    rw [(z.2.2.1 a).1] at c
    exact ⟨by omega, b, c⟩
  · rintro ⟨a, b, c⟩
    have a6 : (kx j).toInt = 6 := by omega
    rw [← (z.2.2.1 a6).1] at c
    exact ⟨a6, b, c⟩
set_option maxHeartbeats 4000000 in
set_option maxRecDepth 100000 in
/-- X1_lastNaming -/
theorem c_X1_lastNaming_f (l : Launch) (dC : Nat → ClassId) (dI : Nat → Nat → Nat) (h : Nat) (g : Nat → Nat → Nat) (ca : Nat → Nat → ClassId) (iv : Nat → Nat → Int32) (lv : Nat → Nat → Int64) (fa : Nat → Nat → Nat → Int32) (la : Nat → Nat → Nat → Int64) (hI : IX iv fa) (a : Int32) (b : Int32) (d : Int32) (h_a : 0 ≤ a.toInt ∧ a.toInt ≤ 7) : Met l yX1_lastNaming (wc yX1_lastNaming cX1_lastNaming 7 (some .int)) ({ frames := 0, cells := 0, slots := 0, locals := 0 } : Room) (pR (dC, dI) classes (WX h g ca iv lv fa la) (TX ca) [.ref (g 11 3), .int a, .int b, .int d]) (vp_Si (fun r => ((-1) ≤ r.toInt ∧ r.toInt ≤ 11) ∧ (La (12 * a.toInt) (12 * a.toInt + ((fa 1 1) (a.toInt).toNat).toInt) (12 * a.toInt) (mN (fa 1 2) (fa 1 3) (fa 1 4) 6 b d) r.toInt))) 0 0 (fun _ => False) := by
  refine Met.ofW (cc := cX1_lastNaming) (maxL := 7) (ret := (some .int)) (by decide) rfl ?_
  intro p e s m args below meth c s₁ B hml hv
  obtain ⟨rfl, hP, hK⟩ := hv
  have hx := B.exec
  have hb := B.bytes
  have hr := B.returns
  have ht := tb_tl (atoms_spec (ws := wc yX1_lastNaming cX1_lastNaming 7 (some .int)) B.pre)
  have hown : s.vm.findClass RX1 = some m.cls := findClass_of_methodNamed B.named
  have hlocks := B.notSynchronized
  have hl := lv_entry [.ref (g 11 3), .int a, .int b, .int d] (n := 7) (Nat.le_of_ble_eq_true rfl)
  rw [lg_entry_eq]
  generalize (lg_sl [.ref (g 11 3), .int a, .int b, .int d] ++ List.replicate (7 - (lg_sl [.ref (g 11 3), .int a, .int b, .int d]).length) Slot.unset).toArray = ls at hl ⊢
  have hl : lv_has ls 7 [(0, .ref (g 11 3)), (1, .int a), (2, .int b), (3, .int d)] := hl
  have hb9 : 0 ≤ (fa 1 1 (a.toInt).toNat).toInt ∧ (fa 1 1 (a.toInt).toNat).toInt ≤ 12 := hI.2 1 1 _
  refine lv_iconst (v := (-1)) hx hb dX1_lastNaming_0 (by decide) ?_
  refine lv_istore (lv' := [(4, .int (-1)), (0, .ref (g 11 3)), (1, .int a), (2, .int b), (3, .int d)]) hx hb dX1_lastNaming_1 hl (by decide) rfl (fun ls hl => ?_)
  refine lv_iconst (v := 0) hx hb dX1_lastNaming_3 (by decide) ?_
  refine lv_istore (lv' := [(5, .int 0), (4, .int (-1)), (0, .ref (g 11 3)), (1, .int a), (2, .int b), (3, .int d)]) hx hb dX1_lastNaming_4 hl (by decide) rfl (fun ls hl => ?_)
  have lp223 : ∀ (nn223 : Nat) (x222_5 : Int32) (x222_4 : Int32), 0 ≤ x222_5.toInt ∧ x222_5.toInt ≤ 12 → (-1) ≤ x222_4.toInt ∧ x222_4.toInt ≤ 11 → (La (12 * (a).toInt) (12 * (a).toInt + (x222_5 : Int32).toInt) (12 * (a).toInt) (mN (fa 1 2) (fa 1 3) (fa 1 4) 6 b d) (x222_4 : Int32).toInt) → (x222_5 : Int32).toInt ≤ ((fa 1 1) ((a).toInt).toNat).toInt → 12 - x222_5.toInt < (nn223 : Int) → ∀ (ls : Array Slot), lv_has ls 7 [(5, .int x222_5), (4, .int x222_4), (0, .ref (g 11 3)), (1, .int a), (2, .int b), (3, .int d)] → W p l e ({ frames := 0, cells := 0, slots := 0, locals := 0 } : Room) s m ([.ref (g 11 3), .int a, .int b, .int d] : List Value).toArray below meth c s.heap [] 0 0 (MQ below (vp_Si (fun r => ((-1) ≤ r.toInt ∧ r.toInt ≤ 11) ∧ (La (12 * a.toInt) (12 * a.toInt + ((fa 1 1) (a.toInt).toNat).toInt) (12 * a.toInt) (mN (fa 1 2) (fa 1 3) (fa 1 4) 6 b d) r.toInt))) ([.ref (g 11 3), .int a, .int b, .int d] : List Value).toArray s 0 0 (fun _ => False)) (F0 m 6 ls []) := by
    intro nn223
    induction nn223 with
    | zero => intro x222_5 x222_4 hx222_5 hx222_4 hq223_0 hq223_1 hm223; exfalso; omega
    | succ nn223 ih223 =>
      intro x222_5 x222_4 hx222_5 hx222_4 hq223_0 hq223_1 hm223 ls hl
      refine lv_iload hx hb dX1_lastNaming_6 (lv_at hl 0 rfl) ?_
      refine lv_aload_n hx hb dX1_lastNaming_8 rfl (lv_at hl 2 rfl) ?_
      refine gX_1_1 hx hb ht hown hK hP m_190 dX1_lastNaming_9 ?_
      refine lv_iload_n hx hb dX1_lastNaming_12 rfl (lv_at hl 3 rfl) ?_
      refine lX_1_1 hx hb hK hP (f := (fa 1 1)) rfl (vp_in_iff.mpr ⟨by omega, by omega⟩) dX1_lastNaming_13 ?_
      refine lv_topi (fun v224 ev224 => ?_)
      have tv224 : 0 ≤ v224.toInt ∧ v224.toInt ≤ 12 := by rw [ev224]; exact hI.2 1 1 _
      have hn9 := congrArg Int32.toInt (show v224 = fa 1 1 (a.toInt).toNat from ev224)
      refine lv_icmp_ge (tgt := 74) hx hb dX1_lastNaming_14 (by decide) (fun c225 => ?_) (fun c225 => ?_)
      · have fc225 := z_le (rfl : (v224).toInt = _) (rfl : (x222_5).toInt = _) c225
        refine lv_iload hx hb dX1_lastNaming_74 (lv_at hl 1 rfl) ?_
        exact W.iret (v := x222_4) hx hb hr (fun t ht9 hW => ⟨x222_4, rfl, ⟨⟨by omega, by omega⟩, (show La (12 * (a).toInt) (12 * (a).toInt + ((fa 1 1) ((a).toInt).toNat).toInt) (12 * (a).toInt) (mN (fa 1 2) (fa 1 3) (fa 1 4) 6 b d) (x222_4 : Int32).toInt from (by have hq9 := hq223_0; have he9 : (x222_5 : Int32).toInt = (fa 1 1 (a.toInt).toNat).toInt := (by omega); rw [he9] at hq9; exact hq9))⟩, ht9⟩) (fun q hq => by cases hq) dX1_lastNaming_76
      · have fc225 := z_nle (rfl : (v224).toInt = _) (rfl : (x222_5).toInt = _) c225
        refine lv_iload_n hx hb dX1_lastNaming_17 rfl (lv_at hl 3 rfl) ?_
        refine lv_bipush (v := 12) hx hb dX1_lastNaming_18 (by decide) ?_
        refine lv_imul hx hb dX1_lastNaming_20 ?_
        refine lv_topi (fun v226 ev226 => ?_)
        have tv226 := z_mul ev226 (rfl : (a).toInt = _) (by decide : (12 : Int32).toInt = 12) (by omega) (by omega)
        refine lv_iload hx hb dX1_lastNaming_21 (lv_at hl 0 rfl) ?_
        refine lv_iadd hx hb dX1_lastNaming_23 ?_
        refine lv_topi (fun v227 ev227 => ?_)
        have tv227 := z_add ev227 (rfl : (v226).toInt = _) (rfl : (x222_5).toInt = _) (by omega) (by omega)
        refine lv_istore (lv' := [(6, .int v227), (5, .int x222_5), (4, .int x222_4), (0, .ref (g 11 3)), (1, .int a), (2, .int b), (3, .int d)]) hx hb dX1_lastNaming_24 hl (by decide) rfl (fun ls hl => ?_)
        refine lv_aload_n hx hb dX1_lastNaming_26 rfl (lv_at hl 3 rfl) ?_
        refine gX_1_2 hx hb ht hown hK hP m_191 dX1_lastNaming_27 ?_
        refine lv_iload hx hb dX1_lastNaming_30 (lv_at hl 0 rfl) ?_
        refine lX_1_2 hx hb hK hP (f := (fa 1 2)) rfl (vp_in_iff.mpr ⟨by omega, by omega⟩) dX1_lastNaming_32 ?_
        refine lv_topi (fun v228 ev228 => ?_)
        refine lv_bipush (v := 6) hx hb dX1_lastNaming_33 (by decide) ?_
        refine lv_icmp_ne (tgt := 68) hx hb dX1_lastNaming_35 (by decide) (fun c229 => ?_) (fun c229 => ?_)
        · have fc229 := z_ne (rfl : (v228).toInt = _) (by decide : (6 : Int32).toInt = 6) c229
          obtain ⟨v230, ev230⟩ : ∃ y : Int32, y = x222_5 + 1 := ⟨_, rfl⟩
          have tv230 := z_add ev230 rfl (by decide : (1 : Int32).toInt = 1) (by omega) (by omega)
          refine lv_iinc (v := v230) (lv' := [(5, .int v230), (6, .int v227), (4, .int x222_4), (0, .ref (g 11 3)), (1, .int a), (2, .int b), (3, .int d)]) hx hb dX1_lastNaming_68 hl (k := 1) rfl (by rw [ev230]; rfl) (by decide) rfl (fun ls hl => ?_)
          refine lv_goto (tgt := 6) hx hb dX1_lastNaming_71 (by decide) ?_
          exact ih223 v230 x222_4 ⟨by omega, by omega⟩ ⟨by omega, by omega⟩ (show La (12 * (a).toInt) (12 * (a).toInt + (v230 : Int32).toInt) (12 * (a).toInt) (mN (fa 1 2) (fa 1 3) (fa 1 4) 6 b d) (x222_4 : Int32).toInt from (by
                have hv9 := congrArg Int32.toInt (show v228 = fa 1 2 ((v227 : Int32).toInt).toNat from ev228)
                exact La_n (c := ((v227 : Int32).toInt).toNat) (hi := 12 * a.toInt + (x222_5 : Int32).toInt) (by omega) (by omega) (show ¬ ((fa 1 2 ((v227 : Int32).toInt).toNat).toInt = 6 ∧ (fa 1 3 ((v227 : Int32).toInt).toNat * d).toInt ≤ b.toInt ∧ b.toInt < (fa 1 4 ((v227 : Int32).toInt).toNat * d).toInt) from by omega) hq223_0)) (show (v230 : Int32).toInt ≤ ((fa 1 1) ((a).toInt).toNat).toInt from by omega) (by omega) ls (lv_sub hl [0, 2, 3, 4, 5, 6] rfl)
        · have fc229 := z_eq (rfl : (v228).toInt = _) (by decide : (6 : Int32).toInt = 6) c229
          refine lv_aload_n hx hb dX1_lastNaming_38 rfl (lv_at hl 3 rfl) ?_
          refine gX_1_3 hx hb ht hown hK hP m_192 dX1_lastNaming_39 ?_
          refine lv_iload hx hb dX1_lastNaming_42 (lv_at hl 0 rfl) ?_
          refine lX_1_3 hx hb hK hP (f := (fa 1 3)) rfl (vp_in_iff.mpr ⟨by omega, by omega⟩) dX1_lastNaming_44 ?_
          refine lv_topi (fun v231 ev231 => ?_)
          refine lv_iload_n hx hb dX1_lastNaming_45 rfl (lv_at hl 6 rfl) ?_
          refine lv_imul hx hb dX1_lastNaming_46 ?_
          refine lv_topi (fun v232 ev232 => ?_)
          refine lv_iload_n hx hb dX1_lastNaming_47 rfl (lv_at hl 5 rfl) ?_
          refine lv_icmp_gt (tgt := 68) hx hb dX1_lastNaming_48 (by decide) (fun c233 => ?_) (fun c233 => ?_)
          · have fc233 := z_lt (rfl : (b).toInt = _) (rfl : (v232).toInt = _) c233
            obtain ⟨v234, ev234⟩ : ∃ y : Int32, y = x222_5 + 1 := ⟨_, rfl⟩
            have tv234 := z_add ev234 rfl (by decide : (1 : Int32).toInt = 1) (by omega) (by omega)
            refine lv_iinc (v := v234) (lv' := [(5, .int v234), (6, .int v227), (4, .int x222_4), (0, .ref (g 11 3)), (1, .int a), (2, .int b), (3, .int d)]) hx hb dX1_lastNaming_68 hl (k := 1) rfl (by rw [ev234]; rfl) (by decide) rfl (fun ls hl => ?_)
            refine lv_goto (tgt := 6) hx hb dX1_lastNaming_71 (by decide) ?_
            exact ih223 v234 x222_4 ⟨by omega, by omega⟩ ⟨by omega, by omega⟩ (show La (12 * (a).toInt) (12 * (a).toInt + (v234 : Int32).toInt) (12 * (a).toInt) (mN (fa 1 2) (fa 1 3) (fa 1 4) 6 b d) (x222_4 : Int32).toInt from (by
                  have hv9 := congrArg Int32.toInt (show v228 = fa 1 2 ((v227 : Int32).toInt).toNat from ev228)
                  have hp19 : (v232 : Int32).toInt = (fa 1 3 ((v227 : Int32).toInt).toNat * d).toInt := congrArg Int32.toInt (ev232.trans (congrArg (fun z => z * d) (show v231 = fa 1 3 ((v227 : Int32).toInt).toNat from ev231)))
                  exact La_n (c := ((v227 : Int32).toInt).toNat) (hi := 12 * a.toInt + (x222_5 : Int32).toInt) (by omega) (by omega) (show ¬ ((fa 1 2 ((v227 : Int32).toInt).toNat).toInt = 6 ∧ (fa 1 3 ((v227 : Int32).toInt).toNat * d).toInt ≤ b.toInt ∧ b.toInt < (fa 1 4 ((v227 : Int32).toInt).toNat * d).toInt) from by omega) hq223_0)) (show (v234 : Int32).toInt ≤ ((fa 1 1) ((a).toInt).toNat).toInt from by omega) (by omega) ls (lv_sub hl [0, 2, 3, 4, 5, 6] rfl)
          · have fc233 := z_nlt (rfl : (b).toInt = _) (rfl : (v232).toInt = _) c233
            refine lv_iload_n hx hb dX1_lastNaming_51 rfl (lv_at hl 5 rfl) ?_
            refine lv_aload_n hx hb dX1_lastNaming_52 rfl (lv_at hl 3 rfl) ?_
            refine gX_1_4 hx hb ht hown hK hP m_193 dX1_lastNaming_53 ?_
            refine lv_iload hx hb dX1_lastNaming_56 (lv_at hl 0 rfl) ?_
            refine lX_1_4 hx hb hK hP (f := (fa 1 4)) rfl (vp_in_iff.mpr ⟨by omega, by omega⟩) dX1_lastNaming_58 ?_
            refine lv_topi (fun v235 ev235 => ?_)
            refine lv_iload_n hx hb dX1_lastNaming_59 rfl (lv_at hl 6 rfl) ?_
            refine lv_imul hx hb dX1_lastNaming_60 ?_
            refine lv_topi (fun v236 ev236 => ?_)
            refine lv_icmp_ge (tgt := 68) hx hb dX1_lastNaming_61 (by decide) (fun c237 => ?_) (fun c237 => ?_)
            · have fc237 := z_le (rfl : (v236).toInt = _) (rfl : (b).toInt = _) c237
              obtain ⟨v238, ev238⟩ : ∃ y : Int32, y = x222_5 + 1 := ⟨_, rfl⟩
              have tv238 := z_add ev238 rfl (by decide : (1 : Int32).toInt = 1) (by omega) (by omega)
              refine lv_iinc (v := v238) (lv' := [(5, .int v238), (6, .int v227), (4, .int x222_4), (0, .ref (g 11 3)), (1, .int a), (2, .int b), (3, .int d)]) hx hb dX1_lastNaming_68 hl (k := 1) rfl (by rw [ev238]; rfl) (by decide) rfl (fun ls hl => ?_)
              refine lv_goto (tgt := 6) hx hb dX1_lastNaming_71 (by decide) ?_
              exact ih223 v238 x222_4 ⟨by omega, by omega⟩ ⟨by omega, by omega⟩ (show La (12 * (a).toInt) (12 * (a).toInt + (v238 : Int32).toInt) (12 * (a).toInt) (mN (fa 1 2) (fa 1 3) (fa 1 4) 6 b d) (x222_4 : Int32).toInt from (by
                    have hv9 := congrArg Int32.toInt (show v228 = fa 1 2 ((v227 : Int32).toInt).toNat from ev228)
                    have hp19 : (v232 : Int32).toInt = (fa 1 3 ((v227 : Int32).toInt).toNat * d).toInt := congrArg Int32.toInt (ev232.trans (congrArg (fun z => z * d) (show v231 = fa 1 3 ((v227 : Int32).toInt).toNat from ev231)))
                    have hp29 : (v236 : Int32).toInt = (fa 1 4 ((v227 : Int32).toInt).toNat * d).toInt := congrArg Int32.toInt (ev236.trans (congrArg (fun z => z * d) (show v235 = fa 1 4 ((v227 : Int32).toInt).toNat from ev235)))
                    exact La_n (c := ((v227 : Int32).toInt).toNat) (hi := 12 * a.toInt + (x222_5 : Int32).toInt) (by omega) (by omega) (show ¬ ((fa 1 2 ((v227 : Int32).toInt).toNat).toInt = 6 ∧ (fa 1 3 ((v227 : Int32).toInt).toNat * d).toInt ≤ b.toInt ∧ b.toInt < (fa 1 4 ((v227 : Int32).toInt).toNat * d).toInt) from by omega) hq223_0)) (show (v238 : Int32).toInt ≤ ((fa 1 1) ((a).toInt).toNat).toInt from by omega) (by omega) ls (lv_sub hl [0, 2, 3, 4, 5, 6] rfl)
            · have fc237 := z_nle (rfl : (v236).toInt = _) (rfl : (b).toInt = _) c237
              refine lv_iload hx hb dX1_lastNaming_64 (lv_at hl 1 rfl) ?_
              refine lv_istore (lv' := [(4, .int x222_5), (6, .int v227), (5, .int x222_5), (0, .ref (g 11 3)), (1, .int a), (2, .int b), (3, .int d)]) hx hb dX1_lastNaming_66 hl (by decide) rfl (fun ls hl => ?_)
              obtain ⟨v239, ev239⟩ : ∃ y : Int32, y = x222_5 + 1 := ⟨_, rfl⟩
              have tv239 := z_add ev239 rfl (by decide : (1 : Int32).toInt = 1) (by omega) (by omega)
              refine lv_iinc (v := v239) (lv' := [(5, .int v239), (4, .int x222_5), (6, .int v227), (0, .ref (g 11 3)), (1, .int a), (2, .int b), (3, .int d)]) hx hb dX1_lastNaming_68 hl (k := 2) rfl (by rw [ev239]; rfl) (by decide) rfl (fun ls hl => ?_)
              refine lv_goto (tgt := 6) hx hb dX1_lastNaming_71 (by decide) ?_
              exact ih223 v239 x222_5 ⟨by omega, by omega⟩ ⟨by omega, by omega⟩ (show La (12 * (a).toInt) (12 * (a).toInt + (v239 : Int32).toInt) (12 * (a).toInt) (mN (fa 1 2) (fa 1 3) (fa 1 4) 6 b d) (x222_5 : Int32).toInt from (by
                    have hv9 := congrArg Int32.toInt (show v228 = fa 1 2 ((v227 : Int32).toInt).toNat from ev228)
                    have hp19 : (v232 : Int32).toInt = (fa 1 3 ((v227 : Int32).toInt).toNat * d).toInt := congrArg Int32.toInt (ev232.trans (congrArg (fun z => z * d) (show v231 = fa 1 3 ((v227 : Int32).toInt).toNat from ev231)))
                    have hp29 : (v236 : Int32).toInt = (fa 1 4 ((v227 : Int32).toInt).toNat * d).toInt := congrArg Int32.toInt (ev236.trans (congrArg (fun z => z * d) (show v235 = fa 1 4 ((v227 : Int32).toInt).toNat from ev235)))
                    exact La_y (c := ((v227 : Int32).toInt).toNat) (hi := 12 * a.toInt + (x222_5 : Int32).toInt) (by omega) (by omega) (by omega) (show ((fa 1 2 ((v227 : Int32).toInt).toNat).toInt = 6 ∧ (fa 1 3 ((v227 : Int32).toInt).toNat * d).toInt ≤ b.toInt ∧ b.toInt < (fa 1 4 ((v227 : Int32).toInt).toNat * d).toInt) from ⟨by omega, by omega, by omega⟩) (by omega))) (show (v239 : Int32).toInt ≤ ((fa 1 1) ((a).toInt).toNat).toInt from by omega) (by omega) ls (lv_sub hl [0, 1, 3, 4, 5, 6] rfl)
  have : (0 : Int32).toInt = 0 := (by decide)
  have : ((-1) : Int32).toInt = (-1) := (by decide)
  exact lp223 13 0 (-1) ⟨by decide, by decide⟩ ⟨by decide, by decide⟩ (show La (12 * (a).toInt) (12 * (a).toInt + (0 : Int32).toInt) (12 * (a).toInt) (mN (fa 1 2) (fa 1 3) (fa 1 4) 6 b d) ((-1) : Int32).toInt from (by rw [show 12 * a.toInt + (0 : Int32).toInt = 12 * a.toInt from by have hz : (0 : Int32).toInt = 0 := (by decide); omega]; exact La_0)) (show (0 : Int32).toInt ≤ ((fa 1 1) ((a).toInt).toNat).toInt from by omega) (by first | decide | omega) ls (lv_sub hl [0, 1, 2, 3, 4, 5] rfl)
set_option maxHeartbeats 4000000 in
set_option maxRecDepth 100000 in
/-- X1_naming -/
theorem c_X1_naming_f (l : Launch) (dC : Nat → ClassId) (dI : Nat → Nat → Nat) (sz : Nat) (h : Nat) (g : Nat → Nat → Nat) (ca : Nat → Nat → ClassId) (iv : Nat → Nat → Int32) (lv : Nat → Nat → Int64) (fa : Nat → Nat → Nat → Int32) (la : Nat → Nat → Nat → Int64) (hI : IX iv fa) (a : Int32) (b : Int32) (d : Int32) (hJB : ∀ j : Nat, (j : Int) < (iv 1 7).toInt → 0 ≤ (fa 1 0 j).toInt) : Met l yX1_naming (wc yX1_naming cX1_naming 8 (some .int)) ({ frames := 3, cells := 0, slots := 0, locals := 67 } : Room) (pW (dC, dI) classes (WX h g ca iv lv fa la) (TX ca) sz [.ref (g 11 3), .int a, .int b, .int d]) (va_Qi (fun r (u : SS) => ∃ (na_1_6 : Nat → Int32), (∀ j, inb (bA 1 6 j) (na_1_6 j)) ∧ (NaX (iv 1 7).toInt (fa 1 0) (fa 1 1) (fa 1 2) (fa 1 3) (fa 1 4) a b d.toInt r.toInt) ∧ ((-1) ≤ r.toInt ∧ r.toInt ≤ 767) ∧ u = (iv, lv, (u2 fa 1 6 na_1_6), la)) (bX (dC, dI) h g ca (va_A (WX h g ca iv lv fa la) sz)) (va_A (WX h g ca iv lv fa la) sz)) 0 0 (va_A (WX h g ca iv lv fa la) sz) := by
  refine Met.ofW (cc := cX1_naming) (maxL := 8) (ret := (some .int)) (by decide) rfl ?_
  intro p e s m args below meth c s₁ B hml hv
  obtain ⟨rfl, hsz, hP, hK, hD0⟩ := hv
  have hx := B.exec
  have hb := B.bytes
  have hr := B.returns
  have ht := tb_tl (atoms_spec (ws := wc yX1_naming cX1_naming 8 (some .int)) B.pre)
  have hown : s.vm.findClass RX1 = some m.cls := findClass_of_methodNamed B.named
  have hlocks := B.notSynchronized
  subst hsz
  have hD := hD0.self (sz := s.heap.size)
  generalize hAe : va_A (WX h g ca iv lv fa la) s.heap.size = A at hD ⊢
  have hA : ∀ q : Nat, s.heap.size ≤ q → A q := fun q h => by rw [← hAe]; exact Or.inr h
  have hS : va_S A s.heap s.heap [] := va_S.rf
  have hl := lv_entry [.ref (g 11 3), .int a, .int b, .int d] (n := 8) (Nat.le_of_ble_eq_true rfl)
  rw [lg_entry_eq]
  generalize (lg_sl [.ref (g 11 3), .int a, .int b, .int d] ++ List.replicate (8 - (lg_sl [.ref (g 11 3), .int a, .int b, .int d]).length) Slot.unset).toArray = ls at hl ⊢
  have hl : lv_has ls 8 [(0, .ref (g 11 3)), (1, .int a), (2, .int b), (3, .int d)] := hl
  refine lv_aload_n hx hb dX1_naming_0 rfl (lv_at hl 0 rfl) ?_
  refine lv_iload_n hx hb dX1_naming_1 rfl (lv_at hl 3 rfl) ?_
  have hFc := free_all hD hS hA
  refine va_callv (va_runV (As := [.int d]) (rest := []) ⟨hx, hb, hml, hown, ht⟩ (c_X1_findCounting_f l dC dI s.heap.size h g ca iv lv fa la hI d) (kV 1 ht m_604 m_606 m_5 m_81 m_607 rfl rfl hd_X1_findCounting_v ⟨Nat.le_of_ble_eq_true rfl, Nat.le_of_ble_eq_true rfl⟩) (vW hP hK hD (rX_1 hK hP)) rfl rfl hl.1 rfl (lv_room (Nat.le_of_ble_eq_true rfl)) dX1_naming_2 ⟨Nat.le_of_ble_eq_true rfl, Nat.le_of_ble_eq_true rfl⟩) hS (fun q _ h => hFc q h) hFc (fun u t H1 locs ht9 hvm hr1 hB hz1 hk1 hS => ?_)
  obtain ⟨n2, hn2, xr1_0, rfl⟩ := hr1
  obtain ⟨hP, hD⟩ := hB
  rw [ht9] at hP
  generalize H1 = H at hP hS ⊢
  have hP : va_P (dC, dI) classes (WX h g ca iv lv (u2 fa 1 6 n2) la) H := hP
  have hD : va_D A (WX h g ca iv lv (u2 fa 1 6 n2) la) := (show va_D _ (WX h g ca iv lv (u2 fa 1 6 n2) la) from hD).weaken (fun _ _ _ h => hFc _ h)
  have i_1_7 : 0 ≤ (iv 1 7).toInt ∧ (iv 1 7).toInt ≤ 8 := hI.1 1 7
  have xr1_0 : OnR ((iv 1 7) : Int32).toInt (fun r => (n2 r).toInt = 1) (fa 1 0) (St (fa 1 1) (mX (fa 1 2) 7) (fa 1 3)) (d : Int32).toInt := xr1_0
  refine lv_iconst (v := (-1)) hx hb dX1_naming_5 (by decide) ?_
  refine lv_istore (lv' := [(4, .int (-1)), (0, .ref (g 11 3)), (1, .int a), (2, .int b), (3, .int d)]) hx hb dX1_naming_6 hl (by decide) rfl (fun ls hl => ?_)
  refine lv_iconst (v := (-1)) hx hb dX1_naming_8 (by decide) ?_
  refine lv_istore (lv' := [(5, .int (-1)), (4, .int (-1)), (0, .ref (g 11 3)), (1, .int a), (2, .int b), (3, .int d)]) hx hb dX1_naming_9 hl (by decide) rfl (fun ls hl => ?_)
  refine lv_iconst (v := 0) hx hb dX1_naming_11 (by decide) ?_
  refine lv_istore (lv' := [(6, .int 0), (5, .int (-1)), (4, .int (-1)), (0, .ref (g 11 3)), (1, .int a), (2, .int b), (3, .int d)]) hx hb dX1_naming_12 hl (by decide) rfl (fun ls hl => ?_)
  have lp139 : ∀ (nn139 : Nat) (x138_6 : Int32) (x138_5 : Int32) (x138_4 : Int32), 0 ≤ x138_6.toInt ∧ x138_6.toInt ≤ 8 → (-1) ≤ x138_5.toInt → (-1) ≤ x138_4.toInt ∧ x138_4.toInt ≤ 767 → (BestS ((x138_6 : Int32).toInt).toNat (fun r => (n2 r).toInt = 1) (fa 1 0) (fa 1 1) (mN (fa 1 2) (fa 1 3) (fa 1 4) 6 a b) vN (-1) (x138_4 : Int32).toInt (x138_5 : Int32).toInt) → (x138_6 : Int32).toInt ≤ ((iv 1 7) : Int32).toInt → -1 ≤ (x138_5 : Int32).toInt → 8 - x138_6.toInt < (nn139 : Int) → ∀ (H : Heap) (locs : List Loc), ∀ (ls : Array Slot), va_P (dC, dI) classes (WX h g ca iv lv (u2 fa 1 6 n2) la) H → va_D A (WX h g ca iv lv (u2 fa 1 6 n2) la) → va_S A s.heap H locs → lv_has ls 8 [(6, .int x138_6), (5, .int x138_5), (4, .int x138_4), (0, .ref (g 11 3)), (1, .int a), (2, .int b), (3, .int d)] → W p l e ({ frames := 3, cells := 0, slots := 0, locals := 67 } : Room) s m ([.ref (g 11 3), .int a, .int b, .int d] : List Value).toArray below meth c H locs 0 0 (MQ below (va_Qi (fun r (u : SS) => ∃ (na_1_6 : Nat → Int32), (∀ j, inb (bA 1 6 j) (na_1_6 j)) ∧ (NaX (iv 1 7).toInt (fa 1 0) (fa 1 1) (fa 1 2) (fa 1 3) (fa 1 4) a b d.toInt r.toInt) ∧ ((-1) ≤ r.toInt ∧ r.toInt ≤ 767) ∧ u = (iv, lv, (u2 fa 1 6 na_1_6), la)) (bX (dC, dI) h g ca A) A) ([.ref (g 11 3), .int a, .int b, .int d] : List Value).toArray s 0 0 A) (F0 m 14 ls []) := by
    intro nn139
    induction nn139 with
    | zero => intro x138_6 x138_5 x138_4 hx138_6 hx138_5 hx138_4 hq139_0 hq139_1 hq139_2 hm139; exfalso; omega
    | succ nn139 ih139 =>
      intro x138_6 x138_5 x138_4 hx138_6 hx138_5 hx138_4 hq139_0 hq139_1 hq139_2 hm139 H locs ls hP hD hS hl
      refine lv_iload hx hb dX1_naming_14 (lv_at hl 0 rfl) ?_
      refine lv_aload_n hx hb dX1_naming_16 rfl (lv_at hl 3 rfl) ?_
      refine gX_1_7 hx hb ht hown hK hP m_196 (v := (iv 1 7)) rfl dX1_naming_17 ?_
      refine lv_icmp_ge (tgt := 86) hx hb dX1_naming_20 (by decide) (fun c140 => ?_) (fun c140 => ?_)
      · have fc140 := z_le (rfl : ((iv 1 7)).toInt = _) (rfl : (x138_6).toInt = _) c140
        refine lv_iload hx hb dX1_naming_86 (lv_at hl 2 rfl) ?_
        have hP9 : va_P (dC, dI) classes (WX h g ca iv lv (u2 fa 1 6 n2) la) H := hP
        have hD9 : va_D A (WX h g ca iv lv (u2 fa 1 6 n2) la) := hD
        exact W.iret (v := x138_4) hx hb hr (fun t ht9 hW => ⟨⟨x138_4, (iv, lv, (u2 fa 1 6 n2), la), rfl, ⟨n2, hn2, (show NaX ((iv 1 7) : Int32).toInt (fa 1 0) (fa 1 1) (fa 1 2) (fa 1 3) (fa 1 4) a b (d).toInt (x138_4 : Int32).toInt from (by have hq9 := hq139_0; have he9 : (x138_6 : Int32).toInt = (iv 1 7).toInt := (by omega); rw [he9] at hq9; exact ⟨_, _, xr1_0, hq9⟩)), ⟨by omega, by omega⟩, rfl⟩, by rw [ht9]; exact hP9, hD9⟩, hS.F ht9⟩) hS.2.2 dX1_naming_88
      · have fc140 := z_nle (rfl : ((iv 1 7)).toInt = _) (rfl : (x138_6).toInt = _) c140
        refine lv_aload_n hx hb dX1_naming_23 rfl (lv_at hl 3 rfl) ?_
        refine lv_iload hx hb dX1_naming_24 (lv_at hl 0 rfl) ?_
        refine lv_iload_n hx hb dX1_naming_26 rfl (lv_at hl 4 rfl) ?_
        refine lv_iload_n hx hb dX1_naming_27 rfl (lv_at hl 5 rfl) ?_
        refine vp_callSi (W.runV (As := [.int x138_6, .int a, .int b]) (rest := []) ⟨hx, hb, hml, hown, ht⟩ (c_X1_lastNaming_f l dC dI h g ca iv lv (u2 fa 1 6 n2) la (IX_a (c := 1) (k := 6) hI hn2) x138_6 a b ⟨by omega, by omega⟩) (kV 3 ht m_969 m_971 m_39 m_81 m_972 rfl rfl hd_X1_lastNaming_v ⟨Nat.le_of_ble_eq_true rfl, Nat.le_of_ble_eq_true rfl⟩) (vR hP hK (rX_1 hK hP)) rfl rfl hl.1 rfl (lv_room (Nat.le_of_ble_eq_true rfl)) dX1_naming_28 ⟨Nat.le_of_ble_eq_true rfl, Nat.le_of_ble_eq_true rfl⟩) (fun r141 hr141 => ?_)
        obtain ⟨hr141, xr141_0⟩ := hr141
        have xr141_0 : La (12 * (x138_6 : Int32).toInt) (12 * (x138_6 : Int32).toInt + ((fa 1 1) ((x138_6 : Int32).toInt).toNat).toInt) (12 * (x138_6 : Int32).toInt) (mN (fa 1 2) (fa 1 3) (fa 1 4) 6 (a : Int32) (b : Int32)) (r141 : Int32).toInt := xr141_0
        refine lv_istore (lv' := [(7, .int r141), (6, .int x138_6), (5, .int x138_5), (4, .int x138_4), (0, .ref (g 11 3)), (1, .int a), (2, .int b), (3, .int d)]) hx hb dX1_naming_31 hl (by decide) rfl (fun ls hl => ?_)
        refine lv_aload_n hx hb dX1_naming_33 rfl (lv_at hl 4 rfl) ?_
        refine gX_1_6 hx hb ht hown hK hP m_195 dX1_naming_34 ?_
        refine lv_iload hx hb dX1_naming_37 (lv_at hl 1 rfl) ?_
        refine lX_1_6 hx hb hK hP (f := n2) rfl (vp_in_iff.mpr ⟨by omega, by omega⟩) dX1_naming_39 ?_
        refine lv_topi (fun v142 ev142 => ?_)
        have tv142 : 0 ≤ v142.toInt ∧ v142.toInt ≤ 1 := by rw [ev142]; exact hn2 _
        refine lv_if_eq (tgt := 80) hx hb dX1_naming_40 (by decide) (fun c143 => ?_) (fun c143 => ?_)
        · have fc143 := z_eq (rfl : (v142).toInt = _) (by decide : (0 : Int32).toInt = 0) c143
          obtain ⟨v144, ev144⟩ : ∃ y : Int32, y = x138_6 + 1 := ⟨_, rfl⟩
          have tv144 := z_add ev144 rfl (by decide : (1 : Int32).toInt = 1) (by omega) (by omega)
          refine lv_iinc (v := v144) (lv' := [(6, .int v144), (7, .int r141), (5, .int x138_5), (4, .int x138_4), (0, .ref (g 11 3)), (1, .int a), (2, .int b), (3, .int d)]) hx hb dX1_naming_80 hl (k := 1) rfl (by rw [ev144]; rfl) (by decide) rfl (fun ls hl => ?_)
          refine lv_goto (tgt := 14) hx hb dX1_naming_83 (by decide) ?_
          exact ih139 v144 x138_5 x138_4 ⟨by omega, by omega⟩ (by omega) ⟨by omega, by omega⟩ (show BestS ((v144 : Int32).toInt).toNat (fun r => (n2 r).toInt = 1) (fa 1 0) (fa 1 1) (mN (fa 1 2) (fa 1 3) (fa 1 4) 6 a b) vN (-1) (x138_4 : Int32).toInt (x138_5 : Int32).toInt from (by
                have ho9 := congrArg Int32.toInt (show v142 = n2 ((x138_6 : Int32).toInt).toNat from ev142)
                have hl9 := xr141_0
                have hc9 : ((((x138_6 : Int32).toInt).toNat : Nat) : Int) = (x138_6 : Int32).toInt := Int.toNat_of_nonneg (by omega)
                refine BestS_n (show ((v144 : Int32).toInt).toNat = ((x138_6 : Int32).toInt).toNat + 1 from by omega) (fun j h1 h2 h3 => ?_) hq139_0
                have h1 : (n2 ((x138_6 : Int32).toInt).toNat).toInt = 1 := h1
                rcases hl9 with ⟨y1, y2⟩ | ⟨k, y1, y2, y3, y4, y5⟩
                · exact y2 j (by omega) (by omega)
                · exfalso; omega)) (show (v144 : Int32).toInt ≤ ((iv 1 7) : Int32).toInt from by omega) (show -1 ≤ (x138_5 : Int32).toInt from by omega) (by omega) _ _ ls hP hD hS (lv_sub hl [0, 2, 3, 4, 5, 6, 7] rfl)
        · have fc143 := z_ne (rfl : (v142).toInt = _) (by decide : (0 : Int32).toInt = 0) c143
          refine lv_iload hx hb dX1_naming_43 (lv_at hl 0 rfl) ?_
          refine lv_iconst (v := (-1)) hx hb dX1_naming_45 (by decide) ?_
          refine lv_icmp_eq (tgt := 80) hx hb dX1_naming_46 (by decide) (fun c145 => ?_) (fun c145 => ?_)
          · have fc145 := z_eq (rfl : (r141).toInt = _) (by decide : ((-1) : Int32).toInt = (-1)) c145
            obtain ⟨v146, ev146⟩ : ∃ y : Int32, y = x138_6 + 1 := ⟨_, rfl⟩
            have tv146 := z_add ev146 rfl (by decide : (1 : Int32).toInt = 1) (by omega) (by omega)
            refine lv_iinc (v := v146) (lv' := [(6, .int v146), (7, .int r141), (5, .int x138_5), (4, .int x138_4), (0, .ref (g 11 3)), (1, .int a), (2, .int b), (3, .int d)]) hx hb dX1_naming_80 hl (k := 1) rfl (by rw [ev146]; rfl) (by decide) rfl (fun ls hl => ?_)
            refine lv_goto (tgt := 14) hx hb dX1_naming_83 (by decide) ?_
            exact ih139 v146 x138_5 x138_4 ⟨by omega, by omega⟩ (by omega) ⟨by omega, by omega⟩ (show BestS ((v146 : Int32).toInt).toNat (fun r => (n2 r).toInt = 1) (fa 1 0) (fa 1 1) (mN (fa 1 2) (fa 1 3) (fa 1 4) 6 a b) vN (-1) (x138_4 : Int32).toInt (x138_5 : Int32).toInt from (by
                  have ho9 := congrArg Int32.toInt (show v142 = n2 ((x138_6 : Int32).toInt).toNat from ev142)
                  have hl9 := xr141_0
                  have hc9 : ((((x138_6 : Int32).toInt).toNat : Nat) : Int) = (x138_6 : Int32).toInt := Int.toNat_of_nonneg (by omega)
                  refine BestS_n (show ((v146 : Int32).toInt).toNat = ((x138_6 : Int32).toInt).toNat + 1 from by omega) (fun j h1 h2 h3 => ?_) hq139_0
                  have h1 : (n2 ((x138_6 : Int32).toInt).toNat).toInt = 1 := h1
                  rcases hl9 with ⟨y1, y2⟩ | ⟨k, y1, y2, y3, y4, y5⟩
                  · exact y2 j (by omega) (by omega)
                  · exfalso; omega)) (show (v146 : Int32).toInt ≤ ((iv 1 7) : Int32).toInt from by omega) (show -1 ≤ (x138_5 : Int32).toInt from by omega) (by omega) _ _ ls hP hD hS (lv_sub hl [0, 2, 3, 4, 5, 6, 7] rfl)
          · have fc145 := z_ne (rfl : (r141).toInt = _) (by decide : ((-1) : Int32).toInt = (-1)) c145
            refine lv_aload_n hx hb dX1_naming_49 rfl (lv_at hl 4 rfl) ?_
            refine gX_1_0 hx hb ht hown hK hP m_189 dX1_naming_50 ?_
            refine lv_iload hx hb dX1_naming_53 (lv_at hl 1 rfl) ?_
            refine lX_1_0 hx hb hK hP (f := (fa 1 0)) rfl (vp_in_iff.mpr ⟨by omega, by omega⟩) dX1_naming_55 ?_
            refine lv_topi (fun v147 ev147 => ?_)
            refine lv_iload hx hb dX1_naming_56 (lv_at hl 2 rfl) ?_
            refine lv_icmp_lt (tgt := 80) hx hb dX1_naming_58 (by decide) (fun c148 => ?_) (fun c148 => ?_)
            · have fc148 := z_lt (rfl : (v147).toInt = _) (rfl : (x138_5).toInt = _) c148
              obtain ⟨v149, ev149⟩ : ∃ y : Int32, y = x138_6 + 1 := ⟨_, rfl⟩
              have tv149 := z_add ev149 rfl (by decide : (1 : Int32).toInt = 1) (by omega) (by omega)
              refine lv_iinc (v := v149) (lv' := [(6, .int v149), (7, .int r141), (5, .int x138_5), (4, .int x138_4), (0, .ref (g 11 3)), (1, .int a), (2, .int b), (3, .int d)]) hx hb dX1_naming_80 hl (k := 1) rfl (by rw [ev149]; rfl) (by decide) rfl (fun ls hl => ?_)
              refine lv_goto (tgt := 14) hx hb dX1_naming_83 (by decide) ?_
              exact ih139 v149 x138_5 x138_4 ⟨by omega, by omega⟩ (by omega) ⟨by omega, by omega⟩ (show BestS ((v149 : Int32).toInt).toNat (fun r => (n2 r).toInt = 1) (fa 1 0) (fa 1 1) (mN (fa 1 2) (fa 1 3) (fa 1 4) 6 a b) vN (-1) (x138_4 : Int32).toInt (x138_5 : Int32).toInt from (by
                    have ho9 := congrArg Int32.toInt (show v142 = n2 ((x138_6 : Int32).toInt).toNat from ev142)
                    have hl9 := xr141_0
                    have hc9 : ((((x138_6 : Int32).toInt).toNat : Nat) : Int) = (x138_6 : Int32).toInt := Int.toNat_of_nonneg (by omega)
                    have hd9 := congrArg Int32.toInt (show v147 = fa 1 0 ((x138_6 : Int32).toInt).toNat from ev147)
                    exact BestS_o (show ((v149 : Int32).toInt).toNat = ((x138_6 : Int32).toInt).toNat + 1 from by omega) (hJB ((x138_6 : Int32).toInt).toNat (by omega)) (by omega) hq139_0)) (show (v149 : Int32).toInt ≤ ((iv 1 7) : Int32).toInt from by omega) (show -1 ≤ (x138_5 : Int32).toInt from by omega) (by omega) _ _ ls hP hD hS (lv_sub hl [0, 2, 3, 4, 5, 6, 7] rfl)
            · have fc148 := z_nlt (rfl : (v147).toInt = _) (rfl : (x138_5).toInt = _) c148
              refine lv_iload hx hb dX1_naming_61 (lv_at hl 1 rfl) ?_
              refine lv_bipush (v := 100) hx hb dX1_naming_63 (by decide) ?_
              refine lv_imul hx hb dX1_naming_65 ?_
              refine lv_topi (fun v150 ev150 => ?_)
              have tv150 := z_mul ev150 (rfl : (x138_6).toInt = _) (by decide : (100 : Int32).toInt = 100) (by omega) (by omega)
              refine lv_iload hx hb dX1_naming_66 (lv_at hl 0 rfl) ?_
              refine lv_iadd hx hb dX1_naming_68 ?_
              refine lv_topi (fun v151 ev151 => ?_)
              have tv151 := z_add ev151 (rfl : (v150).toInt = _) (rfl : (r141).toInt = _) (by omega) (by omega)
              refine lv_istore (lv' := [(4, .int v151), (7, .int r141), (6, .int x138_6), (5, .int x138_5), (0, .ref (g 11 3)), (1, .int a), (2, .int b), (3, .int d)]) hx hb dX1_naming_69 hl (by decide) rfl (fun ls hl => ?_)
              refine lv_aload_n hx hb dX1_naming_71 rfl (lv_at hl 4 rfl) ?_
              refine gX_1_0 hx hb ht hown hK hP m_189 dX1_naming_72 ?_
              refine lv_iload hx hb dX1_naming_75 (lv_at hl 2 rfl) ?_
              refine lX_1_0 hx hb hK hP (f := (fa 1 0)) rfl (vp_in_iff.mpr ⟨by omega, by omega⟩) dX1_naming_77 ?_
              refine lv_topi (fun v152 ev152 => ?_)
              obtain rfl : v147 = v152 := ev147.trans ev152.symm
              refine lv_istore (lv' := [(5, .int v147), (4, .int v151), (7, .int r141), (6, .int x138_6), (0, .ref (g 11 3)), (1, .int a), (2, .int b), (3, .int d)]) hx hb dX1_naming_78 hl (by decide) rfl (fun ls hl => ?_)
              obtain ⟨v153, ev153⟩ : ∃ y : Int32, y = x138_6 + 1 := ⟨_, rfl⟩
              have tv153 := z_add ev153 rfl (by decide : (1 : Int32).toInt = 1) (by omega) (by omega)
              refine lv_iinc (v := v153) (lv' := [(6, .int v153), (5, .int v147), (4, .int v151), (7, .int r141), (0, .ref (g 11 3)), (1, .int a), (2, .int b), (3, .int d)]) hx hb dX1_naming_80 hl (k := 3) rfl (by rw [ev153]; rfl) (by decide) rfl (fun ls hl => ?_)
              refine lv_goto (tgt := 14) hx hb dX1_naming_83 (by decide) ?_
              exact ih139 v153 v147 v151 ⟨by omega, by omega⟩ (by omega) ⟨by omega, by omega⟩ (show BestS ((v153 : Int32).toInt).toNat (fun r => (n2 r).toInt = 1) (fa 1 0) (fa 1 1) (mN (fa 1 2) (fa 1 3) (fa 1 4) 6 a b) vN (-1) (v151 : Int32).toInt (v147 : Int32).toInt from (by
                    have ho9 := congrArg Int32.toInt (show v142 = n2 ((x138_6 : Int32).toInt).toNat from ev142)
                    have hl9 := xr141_0
                    have hc9 : ((((x138_6 : Int32).toInt).toNat : Nat) : Int) = (x138_6 : Int32).toInt := Int.toNat_of_nonneg (by omega)
                    have hd9 := congrArg Int32.toInt (show v147 = fa 1 0 ((x138_6 : Int32).toInt).toNat from ev147)
                    rcases hl9 with ⟨y1, y2⟩ | ⟨k, y1, y2, y3, y4, y5⟩
                    · exfalso; omega
                    · exact BestS_y (j := k) (show ((v153 : Int32).toInt).toNat = ((x138_6 : Int32).toInt).toNat + 1 from by omega) (show (n2 ((x138_6 : Int32).toInt).toNat).toInt = 1 from by omega) (by omega) (by omega) y4 (fun j' h1 h2 => y5 j' h1 (by omega)) (by omega) (show (v151 : Int32).toInt = 100 * ((k / 12 : Nat) : Int) + ((k % 12 : Nat) : Int) from by have hb9 : 0 ≤ (fa 1 1 ((x138_6 : Int32).toInt).toNat).toInt ∧ (fa 1 1 ((x138_6 : Int32).toInt).toNat).toInt ≤ 12 := hI.2 1 1 _; omega) (by omega) hq139_0)) (show (v153 : Int32).toInt ≤ ((iv 1 7) : Int32).toInt from by omega) (show -1 ≤ (v147 : Int32).toInt from by omega) (by omega) _ _ ls hP hD hS (lv_sub hl [0, 1, 2, 4, 5, 6, 7] rfl)
  have : (0 : Int32).toInt = 0 := (by decide)
  have : ((-1) : Int32).toInt = (-1) := (by decide)
  exact lp139 9 0 (-1) (-1) ⟨by decide, by decide⟩ (by decide) ⟨by decide, by decide⟩ (show BestS ((0 : Int32).toInt).toNat (fun r => (n2 r).toInt = 1) (fa 1 0) (fa 1 1) (mN (fa 1 2) (fa 1 3) (fa 1 4) 6 a b) vN (-1) ((-1) : Int32).toInt ((-1) : Int32).toInt from (by rw [show ((0 : Int32).toInt).toNat = 0 from by decide]; exact BestS_0)) (show (0 : Int32).toInt ≤ ((iv 1 7) : Int32).toInt from by omega) (show -1 ≤ ((-1) : Int32).toInt from by omega) (by first | decide | omega) _ _ ls hP hD hS (lv_sub hl [0, 1, 2, 3, 4, 5, 6] rfl)
set_option maxHeartbeats 4000000 in
set_option maxRecDepth 100000 in
/-- X11_named -/
theorem c_X11_named_f (l : Launch) (dC : Nat → ClassId) (dI : Nat → Nat → Nat) (sz : Nat) (h : Nat) (g : Nat → Nat → Nat) (ca : Nat → Nat → ClassId) (iv : Nat → Nat → Int32) (lv : Nat → Nat → Int64) (fa : Nat → Nat → Nat → Int32) (la : Nat → Nat → Nat → Int64) (hI : IX iv fa) (a : Int32) (b : Int32) (hJB : ∀ j : Nat, (j : Int) < (iv 1 7).toInt → 0 ≤ (fa 1 0 j).toInt) (hJZ : ∀ j : Nat, 0 ≤ (fa 0 5 j).toInt ∧ (fa 0 5 j).toInt ≤ 1998) : Met l yX11_named (wc yX11_named cX11_named 3 (some .int)) ({ frames := 4, cells := 0, slots := 0, locals := 94 } : Room) (pW (dC, dI) classes (WX h g ca iv lv fa la) (TX ca) sz [.ref h, .int a, .int b]) (va_Qi (fun r (u : SS) => ∃ (na_1_6 : Nat → Int32), (∀ j, inb (bA 1 6 j) (na_1_6 j)) ∧ (((r.toInt = -100001 ∧ ¬ (0 ≤ a.toInt ∧ a.toInt < (iv 0 7).toInt)) ∨ (r.toInt = -100002 ∧ (0 ≤ a.toInt ∧ a.toInt < (iv 0 7).toInt) ∧ ¬ (0 ≤ b.toInt ∧ b.toInt ≤ 3000)) ∨ ((0 ≤ a.toInt ∧ a.toInt < (iv 0 7).toInt) ∧ (0 ≤ b.toInt ∧ b.toInt ≤ 3000) ∧ ((fa 0 1) (a.toInt).toNat).toInt = 0 ∧ r.toInt = -1) ∨ ((0 ≤ a.toInt ∧ a.toInt < (iv 0 7).toInt) ∧ (0 ≤ b.toInt ∧ b.toInt ≤ 3000) ∧ 0 < ((fa 0 1) (a.toInt).toNat).toInt ∧ ∃ S : Int32, S.toInt = sI (fun k : Nat => ((fa 0 5) (12 * (a.toInt).toNat + k)).toInt) (((fa 0 1) (a.toInt).toNat).toInt).toNat ∧ NaX (iv 1 7).toInt (fa 1 0) (fa 1 1) (fa 1 2) (fa 1 3) (fa 1 4) S ((fa 0 1) (a.toInt).toNat) b.toInt r.toInt))) ∧ ((-100002) ≤ r.toInt ∧ r.toInt ≤ 767) ∧ u = (iv, lv, (u2 fa 1 6 na_1_6), la)) (bX (dC, dI) h g ca (va_A (WX h g ca iv lv fa la) sz)) (va_A (WX h g ca iv lv fa la) sz)) 0 0 (va_A (WX h g ca iv lv fa la) sz) := by
  refine Met.ofW (cc := cX11_named) (maxL := 3) (ret := (some .int)) (by decide) rfl ?_
  intro p e s m args below meth c s₁ B hml hv
  obtain ⟨rfl, hsz, hP, hK, hD0⟩ := hv
  have hx := B.exec
  have hb := B.bytes
  have hr := B.returns
  have ht := tb_tl (atoms_spec (ws := wc yX11_named cX11_named 3 (some .int)) B.pre)
  have hown : s.vm.findClass RX11 = some m.cls := findClass_of_methodNamed B.named
  have hlocks := B.notSynchronized
  subst hsz
  have hD := hD0.self (sz := s.heap.size)
  generalize hAe : va_A (WX h g ca iv lv fa la) s.heap.size = A at hD ⊢
  have hA : ∀ q : Nat, s.heap.size ≤ q → A q := fun q h => by rw [← hAe]; exact Or.inr h
  have hS : va_S A s.heap s.heap [] := va_S.rf
  have hl := lv_entry [.ref h, .int a, .int b] (n := 3) (Nat.le_of_ble_eq_true rfl)
  rw [lg_entry_eq]
  generalize (lg_sl [.ref h, .int a, .int b] ++ List.replicate (3 - (lg_sl [.ref h, .int a, .int b]).length) Slot.unset).toArray = ls at hl ⊢
  have hl : lv_has ls 3 [(0, .ref h), (1, .int a), (2, .int b)] := hl
  refine lv_aload_n hx hb dX11_named_0 rfl (lv_at hl 0 rfl) ?_
  refine gX_11_2 hx hb ht hown hK hP m_417 dX11_named_1 ?_
  refine lv_iload_n hx hb dX11_named_4 rfl (lv_at hl 1 rfl) ?_
  refine vp_callSi (W.runV (As := [.int a]) (rest := []) ⟨hx, hb, hml, hown, ht⟩ (c_X0_has l dC dI h g ca iv lv fa la hI a) (kV 1 ht m_472 m_473 m_474 m_80 m_475 rfl rfl hd_X0_has_v ⟨Nat.le_of_ble_eq_true rfl, Nat.le_of_ble_eq_true rfl⟩) (vR hP hK (rX_0 hK hP)) rfl rfl hl.1 rfl (lv_room (Nat.le_of_ble_eq_true rfl)) dX11_named_5 ⟨Nat.le_of_ble_eq_true rfl, Nat.le_of_ble_eq_true rfl⟩) (fun r1 hr1 => ?_)
  rcases hr1 with ⟨rfl, fr1⟩ | ⟨rfl, fr1⟩
  · skip
    have i_0_7 : 0 ≤ (iv 0 7).toInt ∧ (iv 0 7).toInt ≤ 10 := hI.1 0 7
    have fr1 : (0 ≤ (a : Int32).toInt ∧ (a : Int32).toInt < ((iv 0 7) : Int32).toInt) := fr1
    refine lv_if_ne (tgt := 14) hx hb dX11_named_8 (by decide) (fun c2 => ?_) (fun c2 => ?_)
    · skip
      refine lv_iload_n hx hb dX11_named_14 rfl (lv_at hl 2 rfl) ?_
      refine lv_iconst (v := 0) hx hb dX11_named_15 (by decide) ?_
      refine lv_sipush (v := 3000) hx hb dX11_named_16 (by decide) ?_
      refine vp_callSi (W.runS (As := [.int b, .int 0, .int 3000]) (rest := []) ⟨hx, hb, hml, hown, ht⟩ (c_X11_within l dC dI b 0 3000 (b.toInt) (0) (3000) (rfl : (b).toInt = _) (by decide : (0 : Int32).toInt = 0) (by decide : (3000 : Int32).toInt = 3000)) (kS 3 ht m_453 m_454 m_77 m_455 rfl rfl hd_X11_within_v ⟨Nat.le_of_ble_eq_true rfl, Nat.le_of_ble_eq_true rfl⟩) (sR noP (hK.sub (tys' := []) [] rfl)) rfl rfl hl.1 rfl (lv_room (Nat.le_of_ble_eq_true rfl)) dX11_named_19 ⟨Nat.le_of_ble_eq_true rfl, Nat.le_of_ble_eq_true rfl⟩) (fun r3 hr3 => ?_)
      rcases hr3 with ⟨rfl, fr3⟩ | ⟨rfl, fr3⟩
      · skip
        refine lv_if_ne (tgt := 28) hx hb dX11_named_22 (by decide) (fun c4 => ?_) (fun c4 => ?_)
        · skip
          refine lv_aload_n hx hb dX11_named_28 rfl (lv_at hl 0 rfl) ?_
          refine gX_11_2 hx hb ht hown hK hP m_417 dX11_named_29 ?_
          refine gX_0_1 hx hb ht hown hK hP m_155 dX11_named_32 ?_
          refine lv_iload_n hx hb dX11_named_35 rfl (lv_at hl 1 rfl) ?_
          refine lX_0_1 hx hb hK hP (f := (fa 0 1)) rfl (vp_in_iff.mpr ⟨by omega, by omega⟩) dX11_named_36 ?_
          refine lv_topi (fun v5 ev5 => ?_)
          have tv5 : 0 ≤ v5.toInt ∧ v5.toInt ≤ 12 := by rw [ev5]; exact hI.2 0 1 _
          have hn8 : v5 = fa 0 1 (a.toInt).toNat := ev5
          have hn9 := congrArg Int32.toInt hn8
          refine lv_if_ne (tgt := 42) hx hb dX11_named_37 (by decide) (fun c6 => ?_) (fun c6 => ?_)
          · have fc6 := z_ne (rfl : (v5).toInt = _) (by decide : (0 : Int32).toInt = 0) c6
            refine lv_aload_n hx hb dX11_named_42 rfl (lv_at hl 0 rfl) ?_
            refine gX_11_3 hx hb ht hown hK hP m_418 dX11_named_43 ?_
            refine lv_aload_n hx hb dX11_named_46 rfl (lv_at hl 0 rfl) ?_
            refine gX_11_2 hx hb ht hown hK hP m_417 dX11_named_47 ?_
            refine lv_iload_n hx hb dX11_named_50 rfl (lv_at hl 1 rfl) ?_
            refine vp_callSi (W.runV (As := [.int a]) (rest := [.ref (g 11 3)]) ⟨hx, hb, hml, hown, ht⟩ (c_X0_allSizes_z l dC dI h g ca iv lv fa la hI a ⟨by omega, by omega⟩ hJZ) (kV 1 ht m_953 m_954 m_955 m_80 m_956 rfl rfl hd_X0_allSizes_v ⟨Nat.le_of_ble_eq_true rfl, Nat.le_of_ble_eq_true rfl⟩) (vR hP hK (rX_0 hK hP)) rfl rfl hl.1 rfl (lv_room (Nat.le_of_ble_eq_true rfl)) dX11_named_51 ⟨Nat.le_of_ble_eq_true rfl, Nat.le_of_ble_eq_true rfl⟩) (fun r7 hr7 => ?_)
            obtain ⟨hr7, xr7_0⟩ := hr7
            have xr7_0 : (r7 : Int32).toInt = sI (fun k : Nat => ((fa 0 5) (12 * ((a : Int32).toInt).toNat + k)).toInt) ((((fa 0 1) ((a : Int32).toInt).toNat).toInt)).toNat := xr7_0
            refine lv_aload_n hx hb dX11_named_54 rfl (lv_at hl 0 rfl) ?_
            refine gX_11_2 hx hb ht hown hK hP m_417 dX11_named_55 ?_
            refine gX_0_1 hx hb ht hown hK hP m_155 dX11_named_58 ?_
            refine lv_iload_n hx hb dX11_named_61 rfl (lv_at hl 1 rfl) ?_
            refine lX_0_1 hx hb hK hP (f := (fa 0 1)) rfl (vp_in_iff.mpr ⟨by omega, by omega⟩) dX11_named_62 ?_
            refine lv_topi (fun v8 ev8 => ?_)
            obtain rfl : v5 = v8 := ev5.trans ev8.symm
            refine lv_iload_n hx hb dX11_named_63 rfl (lv_at hl 2 rfl) ?_
            have hFc := free_all hD hS hA
            refine va_calli (va_runV (As := [.int r7, .int v5, .int b]) (rest := []) ⟨hx, hb, hml, hown, ht⟩ (c_X1_naming_f l dC dI s.heap.size h g ca iv lv fa la hI r7 v5 b hJB) (kV 3 ht m_965 m_966 m_967 m_81 m_968 rfl rfl hd_X1_naming_v ⟨Nat.le_of_ble_eq_true rfl, Nat.le_of_ble_eq_true rfl⟩) (vW hP hK hD (rX_1 hK hP)) rfl rfl hl.1 rfl (lv_room (Nat.le_of_ble_eq_true rfl)) dX11_named_64 ⟨Nat.le_of_ble_eq_true rfl, Nat.le_of_ble_eq_true rfl⟩) hS (fun q _ h => hFc q h) hFc (fun r9 u t H1 locs ht9 hvm hr9 hB hz1 hk1 hS => ?_)
            obtain ⟨n10, hn10, xr9_0, hr9, rfl⟩ := hr9
            obtain ⟨hP, hD⟩ := hB
            rw [ht9] at hP
            generalize H1 = H at hP hS ⊢
            have hP : va_P (dC, dI) classes (WX h g ca iv lv (u2 fa 1 6 n10) la) H := hP
            have hD : va_D A (WX h g ca iv lv (u2 fa 1 6 n10) la) := (show va_D _ (WX h g ca iv lv (u2 fa 1 6 n10) la) from hD).weaken (fun _ _ _ h => hFc _ h)
            have i_1_7 : 0 ≤ (iv 1 7).toInt ∧ (iv 1 7).toInt ≤ 8 := hI.1 1 7
            have xr9_0 : NaX ((iv 1 7) : Int32).toInt (fa 1 0) (fa 1 1) (fa 1 2) (fa 1 3) (fa 1 4) (r7 : Int32) (v5 : Int32) (b : Int32).toInt (r9 : Int32).toInt := xr9_0
            have hP9 : va_P (dC, dI) classes (WX h g ca iv lv (u2 fa 1 6 n10) la) H := hP
            have hD9 : va_D A (WX h g ca iv lv (u2 fa 1 6 n10) la) := hD
            exact W.iret (v := r9) hx hb hr (fun t ht9 hW => ⟨⟨r9, (iv, lv, (u2 fa 1 6 n10), la), rfl, ⟨n10, hn10, (show (((r9 : Int32).toInt = -100001 ∧ ¬ (0 ≤ (a).toInt ∧ (a).toInt < (iv 0 7).toInt)) ∨ ((r9 : Int32).toInt = -100002 ∧ (0 ≤ (a).toInt ∧ (a).toInt < (iv 0 7).toInt) ∧ ¬ (0 ≤ (b).toInt ∧ (b).toInt ≤ 3000)) ∨ ((0 ≤ (a).toInt ∧ (a).toInt < (iv 0 7).toInt) ∧ (0 ≤ (b).toInt ∧ (b).toInt ≤ 3000) ∧ ((fa 0 1) ((a).toInt).toNat).toInt = 0 ∧ (r9 : Int32).toInt = -1) ∨ ((0 ≤ (a).toInt ∧ (a).toInt < (iv 0 7).toInt) ∧ (0 ≤ (b).toInt ∧ (b).toInt ≤ 3000) ∧ 0 < ((fa 0 1) ((a).toInt).toNat).toInt ∧ ∃ S : Int32, S.toInt = sI (fun k : Nat => ((fa 0 5) (12 * ((a).toInt).toNat + k)).toInt) (((fa 0 1) ((a).toInt).toNat).toInt).toNat ∧ NaX (iv 1 7).toInt (fa 1 0) (fa 1 1) (fa 1 2) (fa 1 3) (fa 1 4) S ((fa 0 1) ((a).toInt).toNat) (b).toInt (r9 : Int32).toInt)) from (by have hx9 := xr9_0; rw [hn8] at hx9; exact Or.inr (Or.inr (Or.inr ⟨⟨by omega, by omega⟩, ⟨by omega, by omega⟩, by omega, _, xr7_0, hx9⟩)))), ⟨by omega, by omega⟩, rfl⟩, by rw [ht9]; exact hP9, hD9⟩, hS.F ht9⟩) hS.2.2 dX11_named_67
          · have fc6 := z_eq (rfl : (v5).toInt = _) (by decide : (0 : Int32).toInt = 0) c6
            refine lv_iconst (v := (-1)) hx hb dX11_named_40 (by decide) ?_
            have : ((-1) : Int32).toInt = (-1) := (by decide)
            have hP9 : va_P (dC, dI) classes (WX h g ca iv lv (u2 fa 1 6 (fa 1 6)) la) s.heap := hP
            have hD9 : va_D A (WX h g ca iv lv (u2 fa 1 6 (fa 1 6)) la) := hD
            exact W.iret (v := (-1)) hx hb hr (fun t ht9 hW => ⟨⟨(-1), (iv, lv, (u2 fa 1 6 (fa 1 6)), la), rfl, ⟨(fa 1 6), (hI.2 1 6), (show ((((-1) : Int32).toInt = -100001 ∧ ¬ (0 ≤ (a).toInt ∧ (a).toInt < (iv 0 7).toInt)) ∨ (((-1) : Int32).toInt = -100002 ∧ (0 ≤ (a).toInt ∧ (a).toInt < (iv 0 7).toInt) ∧ ¬ (0 ≤ (b).toInt ∧ (b).toInt ≤ 3000)) ∨ ((0 ≤ (a).toInt ∧ (a).toInt < (iv 0 7).toInt) ∧ (0 ≤ (b).toInt ∧ (b).toInt ≤ 3000) ∧ ((fa 0 1) ((a).toInt).toNat).toInt = 0 ∧ ((-1) : Int32).toInt = -1) ∨ ((0 ≤ (a).toInt ∧ (a).toInt < (iv 0 7).toInt) ∧ (0 ≤ (b).toInt ∧ (b).toInt ≤ 3000) ∧ 0 < ((fa 0 1) ((a).toInt).toNat).toInt ∧ ∃ S : Int32, S.toInt = sI (fun k : Nat => ((fa 0 5) (12 * ((a).toInt).toNat + k)).toInt) (((fa 0 1) ((a).toInt).toNat).toInt).toNat ∧ NaX (iv 1 7).toInt (fa 1 0) (fa 1 1) (fa 1 2) (fa 1 3) (fa 1 4) S ((fa 0 1) ((a).toInt).toNat) (b).toInt ((-1) : Int32).toInt)) from Or.inr (Or.inr (Or.inl ⟨⟨by omega, by omega⟩, ⟨by omega, by omega⟩, by omega, by omega⟩))), ⟨by decide, by decide⟩, rfl⟩, by rw [ht9]; exact hP9, hD9⟩, hS.F ht9⟩) hS.2.2 dX11_named_41
        · exact absurd c4 (by decide)
      · skip
        refine lv_if_ne (tgt := 28) hx hb dX11_named_22 (by decide) (fun c11 => ?_) (fun c11 => ?_)
        · exact absurd rfl c11
        · skip
          refine lv_ldc hx hb hown (ht _ m_456) dX11_named_25 ?_
          have : ((-100002) : Int32).toInt = (-100002) := (by decide)
          have hP9 : va_P (dC, dI) classes (WX h g ca iv lv (u2 fa 1 6 (fa 1 6)) la) s.heap := hP
          have hD9 : va_D A (WX h g ca iv lv (u2 fa 1 6 (fa 1 6)) la) := hD
          exact W.iret (v := (-100002)) hx hb hr (fun t ht9 hW => ⟨⟨(-100002), (iv, lv, (u2 fa 1 6 (fa 1 6)), la), rfl, ⟨(fa 1 6), (hI.2 1 6), (show ((((-100002) : Int32).toInt = -100001 ∧ ¬ (0 ≤ (a).toInt ∧ (a).toInt < (iv 0 7).toInt)) ∨ (((-100002) : Int32).toInt = -100002 ∧ (0 ≤ (a).toInt ∧ (a).toInt < (iv 0 7).toInt) ∧ ¬ (0 ≤ (b).toInt ∧ (b).toInt ≤ 3000)) ∨ ((0 ≤ (a).toInt ∧ (a).toInt < (iv 0 7).toInt) ∧ (0 ≤ (b).toInt ∧ (b).toInt ≤ 3000) ∧ ((fa 0 1) ((a).toInt).toNat).toInt = 0 ∧ ((-100002) : Int32).toInt = -1) ∨ ((0 ≤ (a).toInt ∧ (a).toInt < (iv 0 7).toInt) ∧ (0 ≤ (b).toInt ∧ (b).toInt ≤ 3000) ∧ 0 < ((fa 0 1) ((a).toInt).toNat).toInt ∧ ∃ S : Int32, S.toInt = sI (fun k : Nat => ((fa 0 5) (12 * ((a).toInt).toNat + k)).toInt) (((fa 0 1) ((a).toInt).toNat).toInt).toNat ∧ NaX (iv 1 7).toInt (fa 1 0) (fa 1 1) (fa 1 2) (fa 1 3) (fa 1 4) S ((fa 0 1) ((a).toInt).toNat) (b).toInt ((-100002) : Int32).toInt)) from Or.inr (Or.inl ⟨by omega, ⟨by omega, by omega⟩, by omega⟩)), ⟨by decide, by decide⟩, rfl⟩, by rw [ht9]; exact hP9, hD9⟩, hS.F ht9⟩) hS.2.2 dX11_named_27
    · exact absurd c2 (by decide)
  · skip
    have i_0_7 : 0 ≤ (iv 0 7).toInt ∧ (iv 0 7).toInt ≤ 10 := hI.1 0 7
    have fr1 : ¬ (0 ≤ (a : Int32).toInt ∧ (a : Int32).toInt < ((iv 0 7) : Int32).toInt) := fr1
    refine lv_if_ne (tgt := 14) hx hb dX11_named_8 (by decide) (fun c12 => ?_) (fun c12 => ?_)
    · exact absurd rfl c12
    · skip
      refine lv_ldc hx hb hown (ht _ m_476) dX11_named_11 ?_
      have : ((-100001) : Int32).toInt = (-100001) := (by decide)
      have hP9 : va_P (dC, dI) classes (WX h g ca iv lv (u2 fa 1 6 (fa 1 6)) la) s.heap := hP
      have hD9 : va_D A (WX h g ca iv lv (u2 fa 1 6 (fa 1 6)) la) := hD
      exact W.iret (v := (-100001)) hx hb hr (fun t ht9 hW => ⟨⟨(-100001), (iv, lv, (u2 fa 1 6 (fa 1 6)), la), rfl, ⟨(fa 1 6), (hI.2 1 6), (show ((((-100001) : Int32).toInt = -100001 ∧ ¬ (0 ≤ (a).toInt ∧ (a).toInt < (iv 0 7).toInt)) ∨ (((-100001) : Int32).toInt = -100002 ∧ (0 ≤ (a).toInt ∧ (a).toInt < (iv 0 7).toInt) ∧ ¬ (0 ≤ (b).toInt ∧ (b).toInt ≤ 3000)) ∨ ((0 ≤ (a).toInt ∧ (a).toInt < (iv 0 7).toInt) ∧ (0 ≤ (b).toInt ∧ (b).toInt ≤ 3000) ∧ ((fa 0 1) ((a).toInt).toNat).toInt = 0 ∧ ((-100001) : Int32).toInt = -1) ∨ ((0 ≤ (a).toInt ∧ (a).toInt < (iv 0 7).toInt) ∧ (0 ≤ (b).toInt ∧ (b).toInt ≤ 3000) ∧ 0 < ((fa 0 1) ((a).toInt).toNat).toInt ∧ ∃ S : Int32, S.toInt = sI (fun k : Nat => ((fa 0 5) (12 * ((a).toInt).toNat + k)).toInt) (((fa 0 1) ((a).toInt).toNat).toInt).toNat ∧ NaX (iv 1 7).toInt (fa 1 0) (fa 1 1) (fa 1 2) (fa 1 3) (fa 1 4) S ((fa 0 1) ((a).toInt).toNat) (b).toInt ((-100001) : Int32).toInt)) from Or.inl ⟨by omega, by omega⟩), ⟨by decide, by decide⟩, rfl⟩, by rw [ht9]; exact hP9, hD9⟩, hS.F ht9⟩) hS.2.2 dX11_named_13
