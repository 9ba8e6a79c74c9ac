/-! ===== er1 ===== -/

/-- the last test of a scale by a day, the first behind it; -1 for none -/
def tLa (sc dy : Nat → Int32) (s d : Int32) : Nat → Int
  | 0 => -1
  | n + 1 => if (sc n).toInt = s.toInt ∧ (dy n).toInt ≤ d.toInt then (n : Int) else tLa sc dy s d n
def tFi (sc dy : Nat → Int32) (s d : Int32) : Nat → Int
  | 0 => -1
  | n + 1 => if 0 ≤ tFi sc dy s d n then tFi sc dy s d n else if (sc n).toInt = s.toInt ∧ d.toInt < (dy n).toInt then (n : Int) else -1
theorem la_step {sc dy : Nat → Int32} {s d t t' x y : Int32} (hs : t'.toInt = t.toInt + 1) (h0 : 0 ≤ t.toInt) (hx : x = sc t.toNatClampNeg) (hy : y = dy t.toNatClampNeg) : tLa sc dy s d t'.toInt.toNat = if x.toInt = s.toInt ∧ y.toInt ≤ d.toInt then t.toInt else tLa sc dy s d t.toInt.toNat := by
  have e : t'.toInt.toNat = t.toInt.toNat + 1 := by omega
  have e2 : ((t.toInt.toNat : Nat) : Int) = t.toInt := Int.toNat_of_nonneg h0
  rw [e, hx, hy]
  show (if (sc t.toInt.toNat).toInt = s.toInt ∧ (dy t.toInt.toNat).toInt ≤ d.toInt then ((t.toInt.toNat : Nat) : Int) else tLa sc dy s d t.toInt.toNat) = _
  rw [e2]; rfl
theorem fi_step {sc dy : Nat → Int32} {s d t t' x y : Int32} (hs : t'.toInt = t.toInt + 1) (h0 : 0 ≤ t.toInt) (hx : x = sc t.toNatClampNeg) (hy : y = dy t.toNatClampNeg) : tFi sc dy s d t'.toInt.toNat = if 0 ≤ tFi sc dy s d t.toInt.toNat then tFi sc dy s d t.toInt.toNat else if x.toInt = s.toInt ∧ d.toInt < y.toInt then t.toInt else -1 := by
  have e : t'.toInt.toNat = t.toInt.toNat + 1 := by omega
  have e2 : ((t.toInt.toNat : Nat) : Int) = t.toInt := Int.toNat_of_nonneg h0
  rw [e, hx, hy]
  show (if 0 ≤ tFi sc dy s d t.toInt.toNat then tFi sc dy s d t.toInt.toNat else if (sc t.toInt.toNat).toInt = s.toInt ∧ d.toInt < (dy t.toInt.toNat).toInt then ((t.toInt.toNat : Nat) : Int) else -1) = _
  rw [e2]; rfl
theorem fi_stay {sc dy : Nat → Int32} {s d : Int32} {m : Nat} (h : 0 ≤ tFi sc dy s d m) : ∀ n : Nat, m ≤ n → tFi sc dy s d n = tFi sc dy s d m
  | 0, hn => by rw [Nat.le_zero.mp hn]
  | n + 1, hn => by
    by_cases e : m = n + 1
    · rw [e]
    · have q := fi_stay h n (by omega)
      show (if 0 ≤ tFi sc dy s d n then tFi sc dy s d n else _) = _
      rw [if_pos (by rw [q]; exact h), q]
def er0 (dr : Nat → Int32) (l f : Int) : Int := if l = -1 ∧ f = -1 then 0 else if f = -1 then (dr l.toNat).toInt else if l = -1 then (dr f.toNat).toInt else min (dr l.toNat).toInt (dr f.toNat).toInt
def er1 (dr : Nat → Int32) (l f : Int) : Int := if l = -1 ∧ f = -1 then 0 else if f = -1 then (dr l.toNat).toInt else if l = -1 then (dr f.toNat).toInt else max (dr l.toNat).toInt (dr f.toNat).toInt
set_option maxHeartbeats 4000000 in
set_option maxRecDepth 100000 in
/-- X9_lastBy -/
theorem c_X9_lastBy_x (l : Launch) (dC : Nat → ClassId) (dI : Nat → Nat → Nat) (h : Nat) (g : Nat → Nat → Nat) (ca : Nat → Nat → ClassId) (iv : Nat → Nat → Int32) (lv : Nat → Nat → Int64) (fa : Nat → Nat → Nat → Int32) (la : Nat → Nat → Nat → Int64) (hI : IX iv fa) (a : Int32) (b : Int32) : Met l yX9_lastBy (wc yX9_lastBy cX9_lastBy 5 (some .int)) ({ frames := 0, cells := 0, slots := 0, locals := 0 } : Room) (pR (dC, dI) classes (WX h g ca iv lv fa la) (TX ca) [.ref (g 11 1), .int a, .int b]) (vp_Si (fun r => ((-1) ≤ r.toInt ∧ r.toInt ≤ 29) ∧ (r.toInt = tLa (fa 9 0) (fa 9 1) a b ((iv 9 3).toInt).toNat))) 0 0 (fun _ => False) := by
  refine Met.ofW (cc := cX9_lastBy) (maxL := 5) (ret := (some .int)) (by decide) rfl ?_
  intro p e s m args below meth c s₁ B hml hv
  obtain ⟨rfl, hP, hK⟩ := hv
  have hx := B.exec
  have hb := B.bytes
  have hr := B.returns
  have ht := tb_tl (atoms_spec (ws := wc yX9_lastBy cX9_lastBy 5 (some .int)) B.pre)
  have hown : s.vm.findClass RX9 = some m.cls := findClass_of_methodNamed B.named
  have hlocks := B.notSynchronized
  have hl := lv_entry [.ref (g 11 1), .int a, .int b] (n := 5) (Nat.le_of_ble_eq_true rfl)
  rw [lg_entry_eq]
  generalize (lg_sl [.ref (g 11 1), .int a, .int b] ++ List.replicate (5 - (lg_sl [.ref (g 11 1), .int a, .int b]).length) Slot.unset).toArray = ls at hl ⊢
  have hl : lv_has ls 5 [(0, .ref (g 11 1)), (1, .int a), (2, .int b)] := hl
  refine lv_iconst (v := (-1)) hx hb dX9_lastBy_0 (by decide) ?_
  refine lv_istore_n (lv' := [(3, .int (-1)), (0, .ref (g 11 1)), (1, .int a), (2, .int b)]) hx hb dX9_lastBy_1 rfl hl (by decide) rfl (fun ls hl => ?_)
  refine lv_iconst (v := 0) hx hb dX9_lastBy_2 (by decide) ?_
  refine lv_istore (lv' := [(4, .int 0), (3, .int (-1)), (0, .ref (g 11 1)), (1, .int a), (2, .int b)]) hx hb dX9_lastBy_3 hl (by decide) rfl (fun ls hl => ?_)
  have i_9_3 : 0 ≤ (iv 9 3).toInt ∧ (iv 9 3).toInt ≤ 30 := hI.1 9 3
  have lp155 : ∀ (nn155 : Nat) (x154_4 : Int32) (x154_3 : Int32), 0 ≤ x154_4.toInt ∧ x154_4.toInt ≤ 30 → (-1) ≤ x154_3.toInt ∧ x154_3.toInt ≤ 29 → ((x154_3 : Int32).toInt = tLa (fa 9 0) (fa 9 1) a b ((x154_4 : Int32).toInt).toNat) → (x154_4 : Int32).toInt ≤ ((iv 9 3) : Int32).toInt → 30 - x154_4.toInt < (nn155 : Int) → ∀ (ls : Array Slot), lv_has ls 5 [(4, .int x154_4), (3, .int x154_3), (0, .ref (g 11 1)), (1, .int a), (2, .int b)] → W p l e ({ frames := 0, cells := 0, slots := 0, locals := 0 } : Room) s m ([.ref (g 11 1), .int a, .int b] : List Value).toArray below meth c s.heap [] 0 0 (MQ below (vp_Si (fun r => ((-1) ≤ r.toInt ∧ r.toInt ≤ 29) ∧ (r.toInt = tLa (fa 9 0) (fa 9 1) a b ((iv 9 3).toInt).toNat))) ([.ref (g 11 1), .int a, .int b] : List Value).toArray s 0 0 (fun _ => False)) (F0 m 5 ls []) := by
    intro nn155
    induction nn155 with
    | zero => intro x154_4 x154_3 hx154_4 hx154_3 hq155_0 hq155_1 hm155; exfalso; omega
    | succ nn155 ih155 =>
      intro x154_4 x154_3 hx154_4 hx154_3 hq155_0 hq155_1 hm155 ls hl
      refine lv_iload hx hb dX9_lastBy_5 (lv_at hl 0 rfl) ?_
      refine lv_aload_n hx hb dX9_lastBy_7 rfl (lv_at hl 2 rfl) ?_
      refine gX_9_3 hx hb ht hown hK hP m_135 (v := (iv 9 3)) rfl dX9_lastBy_8 ?_
      refine lv_icmp_ge (tgt := 45) hx hb dX9_lastBy_11 (by decide) (fun c156 => ?_) (fun c156 => ?_)
      · have fc156 := z_le (rfl : ((iv 9 3)).toInt = _) (rfl : (x154_4).toInt = _) c156
        refine lv_iload_n hx hb dX9_lastBy_45 rfl (lv_at hl 1 rfl) ?_
        exact W.iret (v := x154_3) hx hb hr (fun t ht9 hW => ⟨x154_3, rfl, ⟨⟨by omega, by omega⟩, (show (x154_3 : Int32).toInt = tLa (fa 9 0) (fa 9 1) a b (((iv 9 3) : Int32).toInt).toNat from (by have hq9 := hq155_0; have he9 : (x154_4 : Int32).toInt = (iv 9 3).toInt := (by omega); rw [he9] at hq9; omega))⟩, ht9⟩) (fun q hq => by cases hq) dX9_lastBy_46
      · have fc156 := z_nle (rfl : ((iv 9 3)).toInt = _) (rfl : (x154_4).toInt = _) c156
        refine lv_aload_n hx hb dX9_lastBy_14 rfl (lv_at hl 2 rfl) ?_
        refine gX_9_0 hx hb ht hown hK hP m_132 dX9_lastBy_15 ?_
        refine lv_iload hx hb dX9_lastBy_18 (lv_at hl 0 rfl) ?_
        refine lX_9_0 hx hb hK hP (f := (fa 9 0)) rfl (vp_in_iff.mpr ⟨by omega, by omega⟩) dX9_lastBy_20 ?_
        refine lv_topi (fun v157 ev157 => ?_)
        refine lv_iload_n hx hb dX9_lastBy_21 rfl (lv_at hl 3 rfl) ?_
        refine lv_icmp_ne (tgt := 39) hx hb dX9_lastBy_22 (by decide) (fun c158 => ?_) (fun c158 => ?_)
        · have fc158 := z_ne (rfl : (v157).toInt = _) (rfl : (a).toInt = _) c158
          obtain ⟨v159, ev159⟩ : ∃ y : Int32, y = x154_4 + 1 := ⟨_, rfl⟩
          have tv159 := z_add ev159 rfl (by decide : (1 : Int32).toInt = 1) (by omega) (by omega)
          refine lv_iinc (v := v159) (lv' := [(4, .int v159), (3, .int x154_3), (0, .ref (g 11 1)), (1, .int a), (2, .int b)]) hx hb dX9_lastBy_39 hl (k := 0) rfl (by rw [ev159]; rfl) (by decide) rfl (fun ls hl => ?_)
          refine lv_goto (tgt := 5) hx hb dX9_lastBy_42 (by decide) ?_
          exact ih155 v159 x154_3 ⟨by omega, by omega⟩ ⟨by omega, by omega⟩ (show (x154_3 : Int32).toInt = tLa (fa 9 0) (fa 9 1) a b ((v159 : Int32).toInt).toNat from (by have hc := la_step (sc := fa 9 0) (dy := fa 9 1) (s := a) (d := b) (t := x154_4) (t' := v159) (x := v157) (y := fa 9 1 (x154_4 : Int32).toNatClampNeg) (by omega) (by omega) ev157 rfl; have hq9 := hq155_0; rw [hc]; split <;> omega)) (show (v159 : Int32).toInt ≤ ((iv 9 3) : Int32).toInt from by omega) (by omega) ls (lv_sub hl [0, 1, 2, 3, 4] rfl)
        · have fc158 := z_eq (rfl : (v157).toInt = _) (rfl : (a).toInt = _) c158
          refine lv_aload_n hx hb dX9_lastBy_25 rfl (lv_at hl 2 rfl) ?_
          refine gX_9_1 hx hb ht hown hK hP m_133 dX9_lastBy_26 ?_
          refine lv_iload hx hb dX9_lastBy_29 (lv_at hl 0 rfl) ?_
          refine lX_9_1 hx hb hK hP (f := (fa 9 1)) rfl (vp_in_iff.mpr ⟨by omega, by omega⟩) dX9_lastBy_31 ?_
          refine lv_topi (fun v160 ev160 => ?_)
          refine lv_iload_n hx hb dX9_lastBy_32 rfl (lv_at hl 4 rfl) ?_
          refine lv_icmp_gt (tgt := 39) hx hb dX9_lastBy_33 (by decide) (fun c161 => ?_) (fun c161 => ?_)
          · have fc161 := z_lt (rfl : (b).toInt = _) (rfl : (v160).toInt = _) c161
            obtain ⟨v162, ev162⟩ : ∃ y : Int32, y = x154_4 + 1 := ⟨_, rfl⟩
            have tv162 := z_add ev162 rfl (by decide : (1 : Int32).toInt = 1) (by omega) (by omega)
            refine lv_iinc (v := v162) (lv' := [(4, .int v162), (3, .int x154_3), (0, .ref (g 11 1)), (1, .int a), (2, .int b)]) hx hb dX9_lastBy_39 hl (k := 0) rfl (by rw [ev162]; rfl) (by decide) rfl (fun ls hl => ?_)
            refine lv_goto (tgt := 5) hx hb dX9_lastBy_42 (by decide) ?_
            exact ih155 v162 x154_3 ⟨by omega, by omega⟩ ⟨by omega, by omega⟩ (show (x154_3 : Int32).toInt = tLa (fa 9 0) (fa 9 1) a b ((v162 : Int32).toInt).toNat from (by have hc := la_step (sc := fa 9 0) (dy := fa 9 1) (s := a) (d := b) (t := x154_4) (t' := v162) (x := v157) (y := v160) (by omega) (by omega) ev157 ev160; have hq9 := hq155_0; rw [hc]; split <;> omega)) (show (v162 : Int32).toInt ≤ ((iv 9 3) : Int32).toInt from by omega) (by omega) ls (lv_sub hl [0, 1, 2, 3, 4] rfl)
          · have fc161 := z_nlt (rfl : (b).toInt = _) (rfl : (v160).toInt = _) c161
            refine lv_iload hx hb dX9_lastBy_36 (lv_at hl 0 rfl) ?_
            refine lv_istore_n (lv' := [(3, .int x154_4), (4, .int x154_4), (0, .ref (g 11 1)), (1, .int a), (2, .int b)]) hx hb dX9_lastBy_38 rfl hl (by decide) rfl (fun ls hl => ?_)
            obtain ⟨v163, ev163⟩ : ∃ y : Int32, y = x154_4 + 1 := ⟨_, rfl⟩
            have tv163 := z_add ev163 rfl (by decide : (1 : Int32).toInt = 1) (by omega) (by omega)
            refine lv_iinc (v := v163) (lv' := [(4, .int v163), (3, .int x154_4), (0, .ref (g 11 1)), (1, .int a), (2, .int b)]) hx hb dX9_lastBy_39 hl (k := 1) rfl (by rw [ev163]; rfl) (by decide) rfl (fun ls hl => ?_)
            refine lv_goto (tgt := 5) hx hb dX9_lastBy_42 (by decide) ?_
            exact ih155 v163 x154_4 ⟨by omega, by omega⟩ ⟨by omega, by omega⟩ (show (x154_4 : Int32).toInt = tLa (fa 9 0) (fa 9 1) a b ((v163 : Int32).toInt).toNat from (by have hc := la_step (sc := fa 9 0) (dy := fa 9 1) (s := a) (d := b) (t := x154_4) (t' := v163) (x := v157) (y := v160) (by omega) (by omega) ev157 ev160; have hq9 := hq155_0; rw [hc]; split <;> omega)) (show (v163 : Int32).toInt ≤ ((iv 9 3) : Int32).toInt from by omega) (by omega) ls (lv_sub hl [0, 1, 2, 3, 4] rfl)
  have : (0 : Int32).toInt = 0 := (by decide)
  have : ((-1) : Int32).toInt = (-1) := (by decide)
  have i_9_3 : 0 ≤ (iv 9 3).toInt ∧ (iv 9 3).toInt ≤ 30 := hI.1 9 3
  exact lp155 31 0 (-1) ⟨by decide, by decide⟩ ⟨by decide, by decide⟩ (show ((-1) : Int32).toInt = tLa (fa 9 0) (fa 9 1) a b ((0 : Int32).toInt).toNat from by show _ = (-1 : Int); omega) (show (0 : Int32).toInt ≤ ((iv 9 3) : Int32).toInt from by omega) (by first | decide | omega) ls (lv_sub hl [0, 1, 2, 3, 4] rfl)
set_option maxHeartbeats 4000000 in
set_option maxRecDepth 100000 in
/-- X9_firstAfter -/
theorem c_X9_firstAfter_x (l : Launch) (dC : Nat → ClassId) (dI : Nat → Nat → Nat) (h : Nat) (g : Nat → Nat → Nat) (ca : Nat → Nat → ClassId) (iv : Nat → Nat → Int32) (lv : Nat → Nat → Int64) (fa : Nat → Nat → Nat → Int32) (la : Nat → Nat → Nat → Int64) (hI : IX iv fa) (a : Int32) (b : Int32) : Met l yX9_firstAfter (wc yX9_firstAfter cX9_firstAfter 4 (some .int)) ({ frames := 0, cells := 0, slots := 0, locals := 0 } : Room) (pR (dC, dI) classes (WX h g ca iv lv fa la) (TX ca) [.ref (g 11 1), .int a, .int b]) (vp_Si (fun r => ((-1) ≤ r.toInt ∧ r.toInt ≤ 29) ∧ (r.toInt = tFi (fa 9 0) (fa 9 1) a b ((iv 9 3).toInt).toNat))) 0 0 (fun _ => False) := by
  refine Met.ofW (cc := cX9_firstAfter) (maxL := 4) (ret := (some .int)) (by decide) rfl ?_
  intro p e s m args below meth c s₁ B hml hv
  obtain ⟨rfl, hP, hK⟩ := hv
  have hx := B.exec
  have hb := B.bytes
  have hr := B.returns
  have ht := tb_tl (atoms_spec (ws := wc yX9_firstAfter cX9_firstAfter 4 (some .int)) B.pre)
  have hown : s.vm.findClass RX9 = some m.cls := findClass_of_methodNamed B.named
  have hlocks := B.notSynchronized
  have hl := lv_entry [.ref (g 11 1), .int a, .int b] (n := 4) (Nat.le_of_ble_eq_true rfl)
  rw [lg_entry_eq]
  generalize (lg_sl [.ref (g 11 1), .int a, .int b] ++ List.replicate (4 - (lg_sl [.ref (g 11 1), .int a, .int b]).length) Slot.unset).toArray = ls at hl ⊢
  have hl : lv_has ls 4 [(0, .ref (g 11 1)), (1, .int a), (2, .int b)] := hl
  refine lv_iconst (v := 0) hx hb dX9_firstAfter_0 (by decide) ?_
  refine lv_istore_n (lv' := [(3, .int 0), (0, .ref (g 11 1)), (1, .int a), (2, .int b)]) hx hb dX9_firstAfter_1 rfl hl (by decide) rfl (fun ls hl => ?_)
  have i_9_3 : 0 ≤ (iv 9 3).toInt ∧ (iv 9 3).toInt ≤ 30 := hI.1 9 3
  have lp138 : ∀ (nn138 : Nat) (x137_3 : Int32), 0 ≤ x137_3.toInt ∧ x137_3.toInt ≤ 30 → (tFi (fa 9 0) (fa 9 1) a b ((x137_3 : Int32).toInt).toNat = -1) → (x137_3 : Int32).toInt ≤ ((iv 9 3) : Int32).toInt → 30 - x137_3.toInt < (nn138 : Int) → ∀ (ls : Array Slot), lv_has ls 4 [(3, .int x137_3), (0, .ref (g 11 1)), (1, .int a), (2, .int b)] → W p l e ({ frames := 0, cells := 0, slots := 0, locals := 0 } : Room) s m ([.ref (g 11 1), .int a, .int b] : List Value).toArray below meth c s.heap [] 0 0 (MQ below (vp_Si (fun r => ((-1) ≤ r.toInt ∧ r.toInt ≤ 29) ∧ (r.toInt = tFi (fa 9 0) (fa 9 1) a b ((iv 9 3).toInt).toNat))) ([.ref (g 11 1), .int a, .int b] : List Value).toArray s 0 0 (fun _ => False)) (F0 m 2 ls []) := by
    intro nn138
    induction nn138 with
    | zero => intro x137_3 hx137_3 hq138_0 hq138_1 hm138; exfalso; omega
    | succ nn138 ih138 =>
      intro x137_3 hx137_3 hq138_0 hq138_1 hm138 ls hl
      refine lv_iload_n hx hb dX9_firstAfter_2 rfl (lv_at hl 0 rfl) ?_
      refine lv_aload_n hx hb dX9_firstAfter_3 rfl (lv_at hl 1 rfl) ?_
      refine gX_9_3 hx hb ht hown hK hP m_135 (v := (iv 9 3)) rfl dX9_firstAfter_4 ?_
      refine lv_icmp_ge (tgt := 38) hx hb dX9_firstAfter_7 (by decide) (fun c139 => ?_) (fun c139 => ?_)
      · have fc139 := z_le (rfl : ((iv 9 3)).toInt = _) (rfl : (x137_3).toInt = _) c139
        refine lv_iconst (v := (-1)) hx hb dX9_firstAfter_38 (by decide) ?_
        have : ((-1) : Int32).toInt = (-1) := (by decide)
        exact W.iret (v := (-1)) hx hb hr (fun t ht9 hW => ⟨(-1), rfl, ⟨⟨by decide, by decide⟩, (show ((-1) : Int32).toInt = tFi (fa 9 0) (fa 9 1) a b (((iv 9 3) : Int32).toInt).toNat from (by have hq9 := hq138_0; have he9 : (x137_3 : Int32).toInt = (iv 9 3).toInt := (by omega); rw [he9] at hq9; have hk : (-1 : Int32).toInt = -1 := (by decide); omega))⟩, ht9⟩) (fun q hq => by cases hq) dX9_firstAfter_39
      · have fc139 := z_nle (rfl : ((iv 9 3)).toInt = _) (rfl : (x137_3).toInt = _) c139
        refine lv_aload_n hx hb dX9_firstAfter_10 rfl (lv_at hl 1 rfl) ?_
        refine gX_9_0 hx hb ht hown hK hP m_132 dX9_firstAfter_11 ?_
        refine lv_iload_n hx hb dX9_firstAfter_14 rfl (lv_at hl 0 rfl) ?_
        refine lX_9_0 hx hb hK hP (f := (fa 9 0)) rfl (vp_in_iff.mpr ⟨by omega, by omega⟩) dX9_firstAfter_15 ?_
        refine lv_topi (fun v140 ev140 => ?_)
        refine lv_iload_n hx hb dX9_firstAfter_16 rfl (lv_at hl 2 rfl) ?_
        refine lv_icmp_ne (tgt := 32) hx hb dX9_firstAfter_17 (by decide) (fun c141 => ?_) (fun c141 => ?_)
        · have fc141 := z_ne (rfl : (v140).toInt = _) (rfl : (a).toInt = _) c141
          obtain ⟨v142, ev142⟩ : ∃ y : Int32, y = x137_3 + 1 := ⟨_, rfl⟩
          have tv142 := z_add ev142 rfl (by decide : (1 : Int32).toInt = 1) (by omega) (by omega)
          refine lv_iinc (v := v142) (lv' := [(3, .int v142), (0, .ref (g 11 1)), (1, .int a), (2, .int b)]) hx hb dX9_firstAfter_32 hl (k := 0) rfl (by rw [ev142]; rfl) (by decide) rfl (fun ls hl => ?_)
          refine lv_goto (tgt := 2) hx hb dX9_firstAfter_35 (by decide) ?_
          exact ih138 v142 ⟨by omega, by omega⟩ (show tFi (fa 9 0) (fa 9 1) a b ((v142 : Int32).toInt).toNat = -1 from (by have hc := fi_step (sc := fa 9 0) (dy := fa 9 1) (s := a) (d := b) (t := x137_3) (t' := v142) (x := v140) (y := fa 9 1 (x137_3 : Int32).toNatClampNeg) (by omega) (by omega) ev140 rfl; have hq9 := hq138_0; rw [hc]; split <;> (try split) <;> omega)) (show (v142 : Int32).toInt ≤ ((iv 9 3) : Int32).toInt from by omega) (by omega) ls (lv_sub hl [0, 1, 2, 3] rfl)
        · have fc141 := z_eq (rfl : (v140).toInt = _) (rfl : (a).toInt = _) c141
          refine lv_aload_n hx hb dX9_firstAfter_20 rfl (lv_at hl 1 rfl) ?_
          refine gX_9_1 hx hb ht hown hK hP m_133 dX9_firstAfter_21 ?_
          refine lv_iload_n hx hb dX9_firstAfter_24 rfl (lv_at hl 0 rfl) ?_
          refine lX_9_1 hx hb hK hP (f := (fa 9 1)) rfl (vp_in_iff.mpr ⟨by omega, by omega⟩) dX9_firstAfter_25 ?_
          refine lv_topi (fun v143 ev143 => ?_)
          refine lv_iload_n hx hb dX9_firstAfter_26 rfl (lv_at hl 3 rfl) ?_
          refine lv_icmp_le (tgt := 32) hx hb dX9_firstAfter_27 (by decide) (fun c144 => ?_) (fun c144 => ?_)
          · have fc144 := z_le (rfl : (v143).toInt = _) (rfl : (b).toInt = _) c144
            obtain ⟨v145, ev145⟩ : ∃ y : Int32, y = x137_3 + 1 := ⟨_, rfl⟩
            have tv145 := z_add ev145 rfl (by decide : (1 : Int32).toInt = 1) (by omega) (by omega)
            refine lv_iinc (v := v145) (lv' := [(3, .int v145), (0, .ref (g 11 1)), (1, .int a), (2, .int b)]) hx hb dX9_firstAfter_32 hl (k := 0) rfl (by rw [ev145]; rfl) (by decide) rfl (fun ls hl => ?_)
            refine lv_goto (tgt := 2) hx hb dX9_firstAfter_35 (by decide) ?_
            exact ih138 v145 ⟨by omega, by omega⟩ (show tFi (fa 9 0) (fa 9 1) a b ((v145 : Int32).toInt).toNat = -1 from (by have hc := fi_step (sc := fa 9 0) (dy := fa 9 1) (s := a) (d := b) (t := x137_3) (t' := v145) (x := v140) (y := v143) (by omega) (by omega) ev140 ev143; have hq9 := hq138_0; rw [hc]; split <;> (try split) <;> omega)) (show (v145 : Int32).toInt ≤ ((iv 9 3) : Int32).toInt from by omega) (by omega) ls (lv_sub hl [0, 1, 2, 3] rfl)
          · have fc144 := z_nle (rfl : (v143).toInt = _) (rfl : (b).toInt = _) c144
            refine lv_iload_n hx hb dX9_firstAfter_30 rfl (lv_at hl 0 rfl) ?_
            exact W.iret (v := x137_3) hx hb hr (fun t ht9 hW => ⟨x137_3, rfl, ⟨⟨by omega, by omega⟩, (show (x137_3 : Int32).toInt = tFi (fa 9 0) (fa 9 1) a b (((iv 9 3) : Int32).toInt).toNat from (by have hz : ((x137_3 : Int32) + 1).toInt = (x137_3 : Int32).toInt + 1 := z_add rfl rfl (by decide : (1 : Int32).toInt = 1) (by omega) (by omega); have hc := fi_step (sc := fa 9 0) (dy := fa 9 1) (s := a) (d := b) (t := x137_3) (t' := x137_3 + 1) (x := v140) (y := v143) hz (by omega) ev140 ev143; have hq9 := hq138_0; rw [if_neg (by omega), if_pos ⟨by omega, by omega⟩] at hc; have hs := fi_stay (sc := fa 9 0) (dy := fa 9 1) (s := a) (d := b) (m := ((x137_3 : Int32) + 1).toInt.toNat) (by omega) ((iv 9 3).toInt).toNat (by omega); omega))⟩, ht9⟩) (fun q hq => by cases hq) dX9_firstAfter_31
  have : (0 : Int32).toInt = 0 := (by decide)
  have i_9_3 : 0 ≤ (iv 9 3).toInt ∧ (iv 9 3).toInt ≤ 30 := hI.1 9 3
  exact lp138 31 0 ⟨by decide, by decide⟩ (show tFi (fa 9 0) (fa 9 1) a b ((0 : Int32).toInt).toNat = -1 from rfl) (show (0 : Int32).toInt ≤ ((iv 9 3) : Int32).toInt from by omega) (by first | decide | omega) ls (lv_sub hl [0, 1, 2, 3] rfl)
set_option maxHeartbeats 4000000 in
set_option maxRecDepth 100000 in
/-- X9_driftOf -/
theorem c_X9_driftOf_x (l : Launch) (dC : Nat → ClassId) (dI : Nat → Nat → Nat) (h : Nat) (g : Nat → Nat → Nat) (ca : Nat → Nat → ClassId) (iv : Nat → Nat → Int32) (lv : Nat → Nat → Int64) (fa : Nat → Nat → Nat → Int32) (la : Nat → Nat → Nat → Int64) (hI : IX iv fa) (a : Int32) (b : Int32) (h_a : (-1) ≤ a.toInt ∧ a.toInt ≤ 29) (h_b : (-1) ≤ b.toInt ∧ b.toInt ≤ 29) : Met l yX9_driftOf (wc yX9_driftOf cX9_driftOf 3 (some .int)) ({ frames := 0, cells := 0, slots := 0, locals := 0 } : Room) (pR (dC, dI) classes (WX h g ca iv lv fa la) (TX ca) [.ref (g 11 1), .int a, .int b]) (vp_Si (fun r => (True) ∧ (((a.toInt ≠ -1 ∧ r.toInt = ((fa 9 2) (a.toInt).toNat).toInt) ∨ (a.toInt = -1 ∧ b.toInt = -1 ∧ r.toInt = 0) ∨ (a.toInt = -1 ∧ b.toInt ≠ -1 ∧ r.toInt = ((fa 9 2) (b.toInt).toNat).toInt))))) 0 0 (fun _ => False) := by
  refine Met.ofW (cc := cX9_driftOf) (maxL := 3) (ret := (some .int)) (by decide) rfl ?_
  intro p e s m args below meth c s₁ B hml hv
  obtain ⟨rfl, hP, hK⟩ := hv
  have hx := B.exec
  have hb := B.bytes
  have hr := B.returns
  have ht := tb_tl (atoms_spec (ws := wc yX9_driftOf cX9_driftOf 3 (some .int)) B.pre)
  have hown : s.vm.findClass RX9 = some m.cls := findClass_of_methodNamed B.named
  have hlocks := B.notSynchronized
  have hl := lv_entry [.ref (g 11 1), .int a, .int b] (n := 3) (Nat.le_of_ble_eq_true rfl)
  rw [lg_entry_eq]
  generalize (lg_sl [.ref (g 11 1), .int a, .int b] ++ List.replicate (3 - (lg_sl [.ref (g 11 1), .int a, .int b]).length) Slot.unset).toArray = ls at hl ⊢
  have hl : lv_has ls 3 [(0, .ref (g 11 1)), (1, .int a), (2, .int b)] := hl
  refine lv_iload_n hx hb dX9_driftOf_0 rfl (lv_at hl 1 rfl) ?_
  refine lv_iconst (v := (-1)) hx hb dX9_driftOf_1 (by decide) ?_
  refine lv_icmp_eq (tgt := 12) hx hb dX9_driftOf_2 (by decide) (fun c1 => ?_) (fun c1 => ?_)
  · have fc1 := z_eq (rfl : (a).toInt = _) (by decide : ((-1) : Int32).toInt = (-1)) c1
    refine lv_iload_n hx hb dX9_driftOf_12 rfl (lv_at hl 2 rfl) ?_
    refine lv_iconst (v := (-1)) hx hb dX9_driftOf_13 (by decide) ?_
    refine lv_icmp_ne (tgt := 21) hx hb dX9_driftOf_14 (by decide) (fun c2 => ?_) (fun c2 => ?_)
    · have fc2 := z_ne (rfl : (b).toInt = _) (by decide : ((-1) : Int32).toInt = (-1)) c2
      refine lv_aload_n hx hb dX9_driftOf_21 rfl (lv_at hl 0 rfl) ?_
      refine gX_9_2 hx hb ht hown hK hP m_134 dX9_driftOf_22 ?_
      refine lv_iload_n hx hb dX9_driftOf_25 rfl (lv_at hl 2 rfl) ?_
      refine lX_9_2 hx hb hK hP (f := (fa 9 2)) rfl (vp_in_iff.mpr ⟨by omega, by omega⟩) dX9_driftOf_26 ?_
      refine lv_topi (fun v3 ev3 => ?_)
      exact W.iret (v := v3) hx hb hr (fun t ht9 hW => ⟨v3, rfl, ⟨trivial, (show (((a).toInt ≠ -1 ∧ (v3 : Int32).toInt = ((fa 9 2) ((a).toInt).toNat).toInt) ∨ ((a).toInt = -1 ∧ (b).toInt = -1 ∧ (v3 : Int32).toInt = 0) ∨ ((a).toInt = -1 ∧ (b).toInt ≠ -1 ∧ (v3 : Int32).toInt = ((fa 9 2) ((b).toInt).toNat).toInt)) from (by have := congrArg Int32.toInt (show v3 = fa 9 2 ((b : Int32).toInt).toNat from ev3); omega))⟩, ht9⟩) (fun q hq => by cases hq) dX9_driftOf_27
    · have fc2 := z_eq (rfl : (b).toInt = _) (by decide : ((-1) : Int32).toInt = (-1)) c2
      refine lv_iconst (v := 0) hx hb dX9_driftOf_17 (by decide) ?_
      refine lv_goto (tgt := 27) hx hb dX9_driftOf_18 (by decide) ?_
      have : (0 : Int32).toInt = 0 := (by decide)
      exact W.iret (v := 0) hx hb hr (fun t ht9 hW => ⟨0, rfl, ⟨trivial, (show (((a).toInt ≠ -1 ∧ (0 : Int32).toInt = ((fa 9 2) ((a).toInt).toNat).toInt) ∨ ((a).toInt = -1 ∧ (b).toInt = -1 ∧ (0 : Int32).toInt = 0) ∨ ((a).toInt = -1 ∧ (b).toInt ≠ -1 ∧ (0 : Int32).toInt = ((fa 9 2) ((b).toInt).toNat).toInt)) from (by omega))⟩, ht9⟩) (fun q hq => by cases hq) dX9_driftOf_27
  · have fc1 := z_ne (rfl : (a).toInt = _) (by decide : ((-1) : Int32).toInt = (-1)) c1
    refine lv_aload_n hx hb dX9_driftOf_5 rfl (lv_at hl 0 rfl) ?_
    refine gX_9_2 hx hb ht hown hK hP m_134 dX9_driftOf_6 ?_
    refine lv_iload_n hx hb dX9_driftOf_9 rfl (lv_at hl 1 rfl) ?_
    refine lX_9_2 hx hb hK hP (f := (fa 9 2)) rfl (vp_in_iff.mpr ⟨by omega, by omega⟩) dX9_driftOf_10 ?_
    refine lv_topi (fun v4 ev4 => ?_)
    exact W.iret (v := v4) hx hb hr (fun t ht9 hW => ⟨v4, rfl, ⟨trivial, (show (((a).toInt ≠ -1 ∧ (v4 : Int32).toInt = ((fa 9 2) ((a).toInt).toNat).toInt) ∨ ((a).toInt = -1 ∧ (b).toInt = -1 ∧ (v4 : Int32).toInt = 0) ∨ ((a).toInt = -1 ∧ (b).toInt ≠ -1 ∧ (v4 : Int32).toInt = ((fa 9 2) ((b).toInt).toNat).toInt)) from (by have := congrArg Int32.toInt (show v4 = fa 9 2 ((a : Int32).toInt).toNat from ev4); omega))⟩, ht9⟩) (fun q hq => by cases hq) dX9_driftOf_11
set_option maxHeartbeats 4000000 in
set_option maxRecDepth 100000 in
/-- X9_least -/
theorem c_X9_least_x (l : Launch) (dC : Nat → ClassId) (dI : Nat → Nat → Nat) (h : Nat) (g : Nat → Nat → Nat) (ca : Nat → Nat → ClassId) (iv : Nat → Nat → Int32) (lv : Nat → Nat → Int64) (fa : Nat → Nat → Nat → Int32) (la : Nat → Nat → Nat → Int64) (hI : IX iv fa) (a : Int32) (b : Int32) : Met l yX9_least (wc yX9_least cX9_least 5 (some .int)) ({ frames := 1, cells := 0, slots := 0, locals := 40 } : Room) (pR (dC, dI) classes (WX h g ca iv lv fa la) (TX ca) [.ref (g 11 1), .int a, .int b]) (vp_Si (fun r => (True) ∧ (r.toInt = er0 (fa 9 2) (tLa (fa 9 0) (fa 9 1) a b ((iv 9 3).toInt).toNat) (tFi (fa 9 0) (fa 9 1) a b ((iv 9 3).toInt).toNat)))) 0 0 (fun _ => False) := by
  refine Met.ofW (cc := cX9_least) (maxL := 5) (ret := (some .int)) (by decide) rfl ?_
  intro p e s m args below meth c s₁ B hml hv
  obtain ⟨rfl, hP, hK⟩ := hv
  have hx := B.exec
  have hb := B.bytes
  have hr := B.returns
  have ht := tb_tl (atoms_spec (ws := wc yX9_least cX9_least 5 (some .int)) B.pre)
  have hown : s.vm.findClass RX9 = some m.cls := findClass_of_methodNamed B.named
  have hlocks := B.notSynchronized
  have hl := lv_entry [.ref (g 11 1), .int a, .int b] (n := 5) (Nat.le_of_ble_eq_true rfl)
  rw [lg_entry_eq]
  generalize (lg_sl [.ref (g 11 1), .int a, .int b] ++ List.replicate (5 - (lg_sl [.ref (g 11 1), .int a, .int b]).length) Slot.unset).toArray = ls at hl ⊢
  have hl : lv_has ls 5 [(0, .ref (g 11 1)), (1, .int a), (2, .int b)] := hl
  refine lv_aload_n hx hb dX9_least_0 rfl (lv_at hl 0 rfl) ?_
  refine lv_iload_n hx hb dX9_least_1 rfl (lv_at hl 1 rfl) ?_
  refine lv_iload_n hx hb dX9_least_2 rfl (lv_at hl 2 rfl) ?_
  refine vp_callSi (W.runV (As := [.int a, .int b]) (rest := []) ⟨hx, hb, hml, hown, ht⟩ (c_X9_lastBy_x l dC dI h g ca iv lv fa la hI a b) (kV 2 ht m_538 m_540 m_1 m_79 m_541 rfl rfl hd_X9_lastBy_v ⟨Nat.le_of_ble_eq_true rfl, Nat.le_of_ble_eq_true rfl⟩) (vR hP hK (rX_9 hK hP)) rfl rfl hl.1 rfl (lv_room (Nat.le_of_ble_eq_true rfl)) dX9_least_3 ⟨Nat.le_of_ble_eq_true rfl, Nat.le_of_ble_eq_true rfl⟩) (fun r1 hr1 => ?_)
  obtain ⟨hr1, xr1_0⟩ := hr1
  have i_9_3 : 0 ≤ (iv 9 3).toInt ∧ (iv 9 3).toInt ≤ 30 := hI.1 9 3
  have xr1_0 : (r1 : Int32).toInt = tLa (fa 9 0) (fa 9 1) (a : Int32) (b : Int32) (((iv 9 3) : Int32).toInt).toNat := xr1_0
  refine lv_istore_n (lv' := [(3, .int r1), (0, .ref (g 11 1)), (1, .int a), (2, .int b)]) hx hb dX9_least_6 rfl hl (by decide) rfl (fun ls hl => ?_)
  refine lv_aload_n hx hb dX9_least_7 rfl (lv_at hl 1 rfl) ?_
  refine lv_iload_n hx hb dX9_least_8 rfl (lv_at hl 2 rfl) ?_
  refine lv_iload_n hx hb dX9_least_9 rfl (lv_at hl 3 rfl) ?_
  refine vp_callSi (W.runV (As := [.int a, .int b]) (rest := []) ⟨hx, hb, hml, hown, ht⟩ (c_X9_firstAfter_x l dC dI h g ca iv lv fa la hI a b) (kV 2 ht m_542 m_544 m_2 m_79 m_545 rfl rfl hd_X9_firstAfter_v ⟨Nat.le_of_ble_eq_true rfl, Nat.le_of_ble_eq_true rfl⟩) (vR hP hK (rX_9 hK hP)) rfl rfl hl.1 rfl (lv_room (Nat.le_of_ble_eq_true rfl)) dX9_least_10 ⟨Nat.le_of_ble_eq_true rfl, Nat.le_of_ble_eq_true rfl⟩) (fun r2 hr2 => ?_)
  obtain ⟨hr2, xr2_0⟩ := hr2
  have xr2_0 : (r2 : Int32).toInt = tFi (fa 9 0) (fa 9 1) (a : Int32) (b : Int32) (((iv 9 3) : Int32).toInt).toNat := xr2_0
  refine lv_istore (lv' := [(4, .int r2), (3, .int r1), (0, .ref (g 11 1)), (1, .int a), (2, .int b)]) hx hb dX9_least_13 hl (by decide) rfl (fun ls hl => ?_)
  refine lv_aload_n hx hb dX9_least_15 rfl (lv_at hl 2 rfl) ?_
  refine lv_iload_n hx hb dX9_least_16 rfl (lv_at hl 1 rfl) ?_
  refine lv_iload hx hb dX9_least_17 (lv_at hl 0 rfl) ?_
  refine vp_callSi (W.runV (As := [.int r1, .int r2]) (rest := []) ⟨hx, hb, hml, hown, ht⟩ (c_X9_driftOf_x l dC dI h g ca iv lv fa la hI r1 r2 ⟨by omega, by omega⟩ ⟨by omega, by omega⟩) (kV 2 ht m_546 m_548 m_3 m_79 m_549 rfl rfl hd_X9_driftOf_v ⟨Nat.le_of_ble_eq_true rfl, Nat.le_of_ble_eq_true rfl⟩) (vR hP hK (rX_9 hK hP)) rfl rfl hl.1 rfl (lv_room (Nat.le_of_ble_eq_true rfl)) dX9_least_19 ⟨Nat.le_of_ble_eq_true rfl, Nat.le_of_ble_eq_true rfl⟩) (fun r3 hr3 => ?_)
  obtain ⟨hr3, xr3_0⟩ := hr3
  have xr3_0 : (((r1 : Int32).toInt ≠ -1 ∧ (r3 : Int32).toInt = ((fa 9 2) ((r1 : Int32).toInt).toNat).toInt) ∨ ((r1 : Int32).toInt = -1 ∧ (r2 : Int32).toInt = -1 ∧ (r3 : Int32).toInt = 0) ∨ ((r1 : Int32).toInt = -1 ∧ (r2 : Int32).toInt ≠ -1 ∧ (r3 : Int32).toInt = ((fa 9 2) ((r2 : Int32).toInt).toNat).toInt)) := xr3_0
  refine lv_aload_n hx hb dX9_least_22 rfl (lv_at hl 2 rfl) ?_
  refine lv_iload hx hb dX9_least_23 (lv_at hl 0 rfl) ?_
  refine lv_iload_n hx hb dX9_least_25 rfl (lv_at hl 1 rfl) ?_
  refine vp_callSi (W.runV (As := [.int r2, .int r1]) (rest := [.int r3]) ⟨hx, hb, hml, hown, ht⟩ (c_X9_driftOf_x l dC dI h g ca iv lv fa la hI r2 r1 ⟨by omega, by omega⟩ ⟨by omega, by omega⟩) (kV 2 ht m_546 m_548 m_3 m_79 m_549 rfl rfl hd_X9_driftOf_v ⟨Nat.le_of_ble_eq_true rfl, Nat.le_of_ble_eq_true rfl⟩) (vR hP hK (rX_9 hK hP)) rfl rfl hl.1 rfl (lv_room (Nat.le_of_ble_eq_true rfl)) dX9_least_26 ⟨Nat.le_of_ble_eq_true rfl, Nat.le_of_ble_eq_true rfl⟩) (fun r4 hr4 => ?_)
  obtain ⟨hr4, xr4_0⟩ := hr4
  have xr4_0 : (((r2 : Int32).toInt ≠ -1 ∧ (r4 : Int32).toInt = ((fa 9 2) ((r2 : Int32).toInt).toNat).toInt) ∨ ((r2 : Int32).toInt = -1 ∧ (r1 : Int32).toInt = -1 ∧ (r4 : Int32).toInt = 0) ∨ ((r2 : Int32).toInt = -1 ∧ (r1 : Int32).toInt ≠ -1 ∧ (r4 : Int32).toInt = ((fa 9 2) ((r1 : Int32).toInt).toNat).toInt)) := xr4_0
  refine va_mmin hx hb (hml.trans hl.1.symm) hown (ht _ m_550) (ht _ m_551) (ht _ m_90) (ht _ m_552) (Nat.le_of_ble_eq_true rfl) (Nat.le_of_ble_eq_true rfl) (Nat.le_of_ble_eq_true rfl) (Nat.le_of_ble_eq_true rfl) dX9_least_29 ?_
  refine lv_topi (fun v5 ev5 => ?_)
  have tv5 := mm_or ev5
  have uv5 := mm_min ev5 (rfl : (r3).toInt = _) (rfl : (r4).toInt = _)
  exact W.iret (v := v5) hx hb hr (fun t ht9 hW => ⟨v5, rfl, ⟨trivial, (show (v5 : Int32).toInt = er0 (fa 9 2) (tLa (fa 9 0) (fa 9 1) a b (((iv 9 3) : Int32).toInt).toNat) (tFi (fa 9 0) (fa 9 1) a b (((iv 9 3) : Int32).toInt).toNat) from (by
          rw [← xr1_0, ← xr2_0]; unfold er0
          split
          · omega
          · split
            · omega
            · split
              · omega
              · omega))⟩, ht9⟩) (fun q hq => by cases hq) dX9_least_32
set_option maxHeartbeats 4000000 in
set_option maxRecDepth 100000 in
/-- X9_greatest -/
theorem c_X9_greatest_x (l : Launch) (dC : Nat → ClassId) (dI : Nat → Nat → Nat) (h : Nat) (g : Nat → Nat → Nat) (ca : Nat → Nat → ClassId) (iv : Nat → Nat → Int32) (lv : Nat → Nat → Int64) (fa : Nat → Nat → Nat → Int32) (la : Nat → Nat → Nat → Int64) (hI : IX iv fa) (a : Int32) (b : Int32) : Met l yX9_greatest (wc yX9_greatest cX9_greatest 5 (some .int)) ({ frames := 1, cells := 0, slots := 0, locals := 40 } : Room) (pR (dC, dI) classes (WX h g ca iv lv fa la) (TX ca) [.ref (g 11 1), .int a, .int b]) (vp_Si (fun r => (True) ∧ (r.toInt = er1 (fa 9 2) (tLa (fa 9 0) (fa 9 1) a b ((iv 9 3).toInt).toNat) (tFi (fa 9 0) (fa 9 1) a b ((iv 9 3).toInt).toNat)))) 0 0 (fun _ => False) := by
  refine Met.ofW (cc := cX9_greatest) (maxL := 5) (ret := (some .int)) (by decide) rfl ?_
  intro p e s m args below meth c s₁ B hml hv
  obtain ⟨rfl, hP, hK⟩ := hv
  have hx := B.exec
  have hb := B.bytes
  have hr := B.returns
  have ht := tb_tl (atoms_spec (ws := wc yX9_greatest cX9_greatest 5 (some .int)) B.pre)
  have hown : s.vm.findClass RX9 = some m.cls := findClass_of_methodNamed B.named
  have hlocks := B.notSynchronized
  have hl := lv_entry [.ref (g 11 1), .int a, .int b] (n := 5) (Nat.le_of_ble_eq_true rfl)
  rw [lg_entry_eq]
  generalize (lg_sl [.ref (g 11 1), .int a, .int b] ++ List.replicate (5 - (lg_sl [.ref (g 11 1), .int a, .int b]).length) Slot.unset).toArray = ls at hl ⊢
  have hl : lv_has ls 5 [(0, .ref (g 11 1)), (1, .int a), (2, .int b)] := hl
  refine lv_aload_n hx hb dX9_greatest_0 rfl (lv_at hl 0 rfl) ?_
  refine lv_iload_n hx hb dX9_greatest_1 rfl (lv_at hl 1 rfl) ?_
  refine lv_iload_n hx hb dX9_greatest_2 rfl (lv_at hl 2 rfl) ?_
  refine vp_callSi (W.runV (As := [.int a, .int b]) (rest := []) ⟨hx, hb, hml, hown, ht⟩ (c_X9_lastBy_x l dC dI h g ca iv lv fa la hI a b) (kV 2 ht m_538 m_540 m_1 m_79 m_541 rfl rfl hd_X9_lastBy_v ⟨Nat.le_of_ble_eq_true rfl, Nat.le_of_ble_eq_true rfl⟩) (vR hP hK (rX_9 hK hP)) rfl rfl hl.1 rfl (lv_room (Nat.le_of_ble_eq_true rfl)) dX9_greatest_3 ⟨Nat.le_of_ble_eq_true rfl, Nat.le_of_ble_eq_true rfl⟩) (fun r1 hr1 => ?_)
  obtain ⟨hr1, xr1_0⟩ := hr1
  have i_9_3 : 0 ≤ (iv 9 3).toInt ∧ (iv 9 3).toInt ≤ 30 := hI.1 9 3
  have xr1_0 : (r1 : Int32).toInt = tLa (fa 9 0) (fa 9 1) (a : Int32) (b : Int32) (((iv 9 3) : Int32).toInt).toNat := xr1_0
  refine lv_istore_n (lv' := [(3, .int r1), (0, .ref (g 11 1)), (1, .int a), (2, .int b)]) hx hb dX9_greatest_6 rfl hl (by decide) rfl (fun ls hl => ?_)
  refine lv_aload_n hx hb dX9_greatest_7 rfl (lv_at hl 1 rfl) ?_
  refine lv_iload_n hx hb dX9_greatest_8 rfl (lv_at hl 2 rfl) ?_
  refine lv_iload_n hx hb dX9_greatest_9 rfl (lv_at hl 3 rfl) ?_
  refine vp_callSi (W.runV (As := [.int a, .int b]) (rest := []) ⟨hx, hb, hml, hown, ht⟩ (c_X9_firstAfter_x l dC dI h g ca iv lv fa la hI a b) (kV 2 ht m_542 m_544 m_2 m_79 m_545 rfl rfl hd_X9_firstAfter_v ⟨Nat.le_of_ble_eq_true rfl, Nat.le_of_ble_eq_true rfl⟩) (vR hP hK (rX_9 hK hP)) rfl rfl hl.1 rfl (lv_room (Nat.le_of_ble_eq_true rfl)) dX9_greatest_10 ⟨Nat.le_of_ble_eq_true rfl, Nat.le_of_ble_eq_true rfl⟩) (fun r2 hr2 => ?_)
  obtain ⟨hr2, xr2_0⟩ := hr2
  have xr2_0 : (r2 : Int32).toInt = tFi (fa 9 0) (fa 9 1) (a : Int32) (b : Int32) (((iv 9 3) : Int32).toInt).toNat := xr2_0
  refine lv_istore (lv' := [(4, .int r2), (3, .int r1), (0, .ref (g 11 1)), (1, .int a), (2, .int b)]) hx hb dX9_greatest_13 hl (by decide) rfl (fun ls hl => ?_)
  refine lv_aload_n hx hb dX9_greatest_15 rfl (lv_at hl 2 rfl) ?_
  refine lv_iload_n hx hb dX9_greatest_16 rfl (lv_at hl 1 rfl) ?_
  refine lv_iload hx hb dX9_greatest_17 (lv_at hl 0 rfl) ?_
  refine vp_callSi (W.runV (As := [.int r1, .int r2]) (rest := []) ⟨hx, hb, hml, hown, ht⟩ (c_X9_driftOf_x l dC dI h g ca iv lv fa la hI r1 r2 ⟨by omega, by omega⟩ ⟨by omega, by omega⟩) (kV 2 ht m_546 m_548 m_3 m_79 m_549 rfl rfl hd_X9_driftOf_v ⟨Nat.le_of_ble_eq_true rfl, Nat.le_of_ble_eq_true rfl⟩) (vR hP hK (rX_9 hK hP)) rfl rfl hl.1 rfl (lv_room (Nat.le_of_ble_eq_true rfl)) dX9_greatest_19 ⟨Nat.le_of_ble_eq_true rfl, Nat.le_of_ble_eq_true rfl⟩) (fun r3 hr3 => ?_)
  obtain ⟨hr3, xr3_0⟩ := hr3
  have xr3_0 : (((r1 : Int32).toInt ≠ -1 ∧ (r3 : Int32).toInt = ((fa 9 2) ((r1 : Int32).toInt).toNat).toInt) ∨ ((r1 : Int32).toInt = -1 ∧ (r2 : Int32).toInt = -1 ∧ (r3 : Int32).toInt = 0) ∨ ((r1 : Int32).toInt = -1 ∧ (r2 : Int32).toInt ≠ -1 ∧ (r3 : Int32).toInt = ((fa 9 2) ((r2 : Int32).toInt).toNat).toInt)) := xr3_0
  refine lv_aload_n hx hb dX9_greatest_22 rfl (lv_at hl 2 rfl) ?_
  refine lv_iload hx hb dX9_greatest_23 (lv_at hl 0 rfl) ?_
  refine lv_iload_n hx hb dX9_greatest_25 rfl (lv_at hl 1 rfl) ?_
  refine vp_callSi (W.runV (As := [.int r2, .int r1]) (rest := [.int r3]) ⟨hx, hb, hml, hown, ht⟩ (c_X9_driftOf_x l dC dI h g ca iv lv fa la hI r2 r1 ⟨by omega, by omega⟩ ⟨by omega, by omega⟩) (kV 2 ht m_546 m_548 m_3 m_79 m_549 rfl rfl hd_X9_driftOf_v ⟨Nat.le_of_ble_eq_true rfl, Nat.le_of_ble_eq_true rfl⟩) (vR hP hK (rX_9 hK hP)) rfl rfl hl.1 rfl (lv_room (Nat.le_of_ble_eq_true rfl)) dX9_greatest_26 ⟨Nat.le_of_ble_eq_true rfl, Nat.le_of_ble_eq_true rfl⟩) (fun r4 hr4 => ?_)
  obtain ⟨hr4, xr4_0⟩ := hr4
  have xr4_0 : (((r2 : Int32).toInt ≠ -1 ∧ (r4 : Int32).toInt = ((fa 9 2) ((r2 : Int32).toInt).toNat).toInt) ∨ ((r2 : Int32).toInt = -1 ∧ (r1 : Int32).toInt = -1 ∧ (r4 : Int32).toInt = 0) ∨ ((r2 : Int32).toInt = -1 ∧ (r1 : Int32).toInt ≠ -1 ∧ (r4 : Int32).toInt = ((fa 9 2) ((r1 : Int32).toInt).toNat).toInt)) := xr4_0
  refine va_mmax hx hb (hml.trans hl.1.symm) hown (ht _ m_557) (ht _ m_558) (ht _ m_90) (ht _ m_559) (Nat.le_of_ble_eq_true rfl) (Nat.le_of_ble_eq_true rfl) (Nat.le_of_ble_eq_true rfl) (Nat.le_of_ble_eq_true rfl) dX9_greatest_29 ?_
  refine lv_topi (fun v5 ev5 => ?_)
  have tv5 := mm_or ev5
  have uv5 := mm_max ev5 (rfl : (r3).toInt = _) (rfl : (r4).toInt = _)
  exact W.iret (v := v5) hx hb hr (fun t ht9 hW => ⟨v5, rfl, ⟨trivial, (show (v5 : Int32).toInt = er1 (fa 9 2) (tLa (fa 9 0) (fa 9 1) a b (((iv 9 3) : Int32).toInt).toNat) (tFi (fa 9 0) (fa 9 1) a b (((iv 9 3) : Int32).toInt).toNat) from (by
          rw [← xr1_0, ← xr2_0]; unfold er1
          split
          · omega
          · split
            · omega
            · split
              · omega
              · omega))⟩, ht9⟩) (fun q hq => by cases hq) dX9_greatest_32
set_option maxHeartbeats 4000000 in
set_option maxRecDepth 100000 in
/-- X11_error -/
theorem c_X11_error_x (l : Launch) (dC : Nat → ClassId) (dI : Nat → Nat → Nat) (h : Nat) (g : Nat → Nat → Nat) (ca : Nat → Nat → ClassId) (iv : Nat → Nat → Int32) (lv : Nat → Nat → Int64) (fa : Nat → Nat → Nat → Int32) (la : Nat → Nat → Nat → Int64) (hI : IX iv fa) (a : Int32) (b : Int32) (d : Int32) : Met l yX11_error (wc yX11_error cX11_error 4 (some .int)) ({ frames := 2, cells := 0, slots := 0, locals := 64 } : Room) (pR (dC, dI) classes (WX h g ca iv lv fa la) (TX ca) [.ref h, .int a, .int b, .int d]) (vp_Si (fun r => (True) ∧ (((r.toInt = -100002 ∧ ¬ (0 ≤ a.toInt ∧ a.toInt ≤ 3 ∧ 0 ≤ b.toInt ∧ b.toInt ≤ 3000 ∧ 0 ≤ d.toInt ∧ d.toInt ≤ 1)) ∨ (0 ≤ a.toInt ∧ a.toInt ≤ 3 ∧ 0 ≤ b.toInt ∧ b.toInt ≤ 3000 ∧ 0 ≤ d.toInt ∧ d.toInt ≤ 1 ∧ d.toInt = 0 ∧ r.toInt = er0 (fa 9 2) (tLa (fa 9 0) (fa 9 1) a b ((iv 9 3).toInt).toNat) (tFi (fa 9 0) (fa 9 1) a b ((iv 9 3).toInt).toNat)) ∨ (0 ≤ a.toInt ∧ a.toInt ≤ 3 ∧ 0 ≤ b.toInt ∧ b.toInt ≤ 3000 ∧ 0 ≤ d.toInt ∧ d.toInt ≤ 1 ∧ d.toInt = 1 ∧ r.toInt = er1 (fa 9 2) (tLa (fa 9 0) (fa 9 1) a b ((iv 9 3).toInt).toNat) (tFi (fa 9 0) (fa 9 1) a b ((iv 9 3).toInt).toNat)))))) 0 0 (fun _ => False) := by
  refine Met.ofW (cc := cX11_error) (maxL := 4) (ret := (some .int)) (by decide) rfl ?_
  intro p e s m args below meth c s₁ B hml hv
  obtain ⟨rfl, hP, hK⟩ := hv
  have hx := B.exec
  have hb := B.bytes
  have hr := B.returns
  have ht := tb_tl (atoms_spec (ws := wc yX11_error cX11_error 4 (some .int)) B.pre)
  have hown : s.vm.findClass RX11 = some m.cls := findClass_of_methodNamed B.named
  have hlocks := B.notSynchronized
  have hl := lv_entry [.ref h, .int a, .int b, .int d] (n := 4) (Nat.le_of_ble_eq_true rfl)
  rw [lg_entry_eq]
  generalize (lg_sl [.ref h, .int a, .int b, .int d] ++ List.replicate (4 - (lg_sl [.ref h, .int a, .int b, .int d]).length) Slot.unset).toArray = ls at hl ⊢
  have hl : lv_has ls 4 [(0, .ref h), (1, .int a), (2, .int b), (3, .int d)] := hl
  refine lv_iload_n hx hb dX11_error_0 rfl (lv_at hl 1 rfl) ?_
  refine lv_iconst (v := 0) hx hb dX11_error_1 (by decide) ?_
  refine lv_iconst (v := 3) hx hb dX11_error_2 (by decide) ?_
  refine vp_callSi (W.runS (As := [.int a, .int 0, .int 3]) (rest := []) ⟨hx, hb, hml, hown, ht⟩ (c_X11_within l dC dI a 0 3 (a.toInt) (0) (3) (rfl : (a).toInt = _) (by decide : (0 : Int32).toInt = 0) (by decide : (3 : Int32).toInt = 3)) (kS 3 ht m_453 m_454 m_77 m_455 rfl rfl hd_X11_within_v ⟨Nat.le_of_ble_eq_true rfl, Nat.le_of_ble_eq_true rfl⟩) (sR noP (hK.sub (tys' := []) [] rfl)) rfl rfl hl.1 rfl (lv_room (Nat.le_of_ble_eq_true rfl)) dX11_error_3 ⟨Nat.le_of_ble_eq_true rfl, Nat.le_of_ble_eq_true rfl⟩) (fun r1 hr1 => ?_)
  rcases hr1 with ⟨rfl, fr1⟩ | ⟨rfl, fr1⟩
  · skip
    refine lv_if_eq (tgt := 29) hx hb dX11_error_6 (by decide) (fun c2 => ?_) (fun c2 => ?_)
    · exact absurd c2 (by decide)
    · skip
      refine lv_iload_n hx hb dX11_error_9 rfl (lv_at hl 2 rfl) ?_
      refine lv_iconst (v := 0) hx hb dX11_error_10 (by decide) ?_
      refine lv_sipush (v := 3000) hx hb dX11_error_11 (by decide) ?_
      refine vp_callSi (W.runS (As := [.int b, .int 0, .int 3000]) (rest := []) ⟨hx, hb, hml, hown, ht⟩ (c_X11_within l dC dI b 0 3000 (b.toInt) (0) (3000) (rfl : (b).toInt = _) (by decide : (0 : Int32).toInt = 0) (by decide : (3000 : Int32).toInt = 3000)) (kS 3 ht m_453 m_454 m_77 m_455 rfl rfl hd_X11_within_v ⟨Nat.le_of_ble_eq_true rfl, Nat.le_of_ble_eq_true rfl⟩) (sR noP (hK.sub (tys' := []) [] rfl)) rfl rfl hl.1 rfl (lv_room (Nat.le_of_ble_eq_true rfl)) dX11_error_14 ⟨Nat.le_of_ble_eq_true rfl, Nat.le_of_ble_eq_true rfl⟩) (fun r3 hr3 => ?_)
      rcases hr3 with ⟨rfl, fr3⟩ | ⟨rfl, fr3⟩
      · skip
        refine lv_if_eq (tgt := 29) hx hb dX11_error_17 (by decide) (fun c4 => ?_) (fun c4 => ?_)
        · exact absurd c4 (by decide)
        · skip
          refine lv_iload_n hx hb dX11_error_20 rfl (lv_at hl 3 rfl) ?_
          refine lv_iconst (v := 0) hx hb dX11_error_21 (by decide) ?_
          refine lv_iconst (v := 1) hx hb dX11_error_22 (by decide) ?_
          refine vp_callSi (W.runS (As := [.int d, .int 0, .int 1]) (rest := []) ⟨hx, hb, hml, hown, ht⟩ (c_X11_within l dC dI d 0 1 (d.toInt) (0) (1) (rfl : (d).toInt = _) (by decide : (0 : Int32).toInt = 0) (by decide : (1 : Int32).toInt = 1)) (kS 3 ht m_453 m_454 m_77 m_455 rfl rfl hd_X11_within_v ⟨Nat.le_of_ble_eq_true rfl, Nat.le_of_ble_eq_true rfl⟩) (sR noP (hK.sub (tys' := []) [] rfl)) rfl rfl hl.1 rfl (lv_room (Nat.le_of_ble_eq_true rfl)) dX11_error_23 ⟨Nat.le_of_ble_eq_true rfl, Nat.le_of_ble_eq_true rfl⟩) (fun r5 hr5 => ?_)
          rcases hr5 with ⟨rfl, fr5⟩ | ⟨rfl, fr5⟩
          · skip
            refine lv_if_ne (tgt := 32) hx hb dX11_error_26 (by decide) (fun c6 => ?_) (fun c6 => ?_)
            · skip
              refine lv_iload_n hx hb dX11_error_32 rfl (lv_at hl 3 rfl) ?_
              refine lv_if_ne (tgt := 48) hx hb dX11_error_33 (by decide) (fun c7 => ?_) (fun c7 => ?_)
              · have fc7 := z_ne (rfl : (d).toInt = _) (by decide : (0 : Int32).toInt = 0) c7
                refine lv_aload_n hx hb dX11_error_48 rfl (lv_at hl 0 rfl) ?_
                refine gX_11_1 hx hb ht hown hK hP m_416 dX11_error_49 ?_
                refine lv_iload_n hx hb dX11_error_52 rfl (lv_at hl 1 rfl) ?_
                refine lv_iload_n hx hb dX11_error_53 rfl (lv_at hl 2 rfl) ?_
                refine vp_callSi (W.runV (As := [.int a, .int b]) (rest := []) ⟨hx, hb, hml, hown, ht⟩ (c_X9_greatest_x l dC dI h g ca iv lv fa la hI a b) (kV 2 ht m_553 m_554 m_555 m_79 m_556 rfl rfl hd_X9_greatest_v ⟨Nat.le_of_ble_eq_true rfl, Nat.le_of_ble_eq_true rfl⟩) (vR hP hK (rX_9 hK hP)) rfl rfl hl.1 rfl (lv_room (Nat.le_of_ble_eq_true rfl)) dX11_error_54 ⟨Nat.le_of_ble_eq_true rfl, Nat.le_of_ble_eq_true rfl⟩) (fun r8 hr8 => ?_)
                obtain ⟨hr8, xr8_0⟩ := hr8
                have i_9_3 : 0 ≤ (iv 9 3).toInt ∧ (iv 9 3).toInt ≤ 30 := hI.1 9 3
                have xr8_0 : (r8 : Int32).toInt = er1 (fa 9 2) (tLa (fa 9 0) (fa 9 1) (a : Int32) (b : Int32) (((iv 9 3) : Int32).toInt).toNat) (tFi (fa 9 0) (fa 9 1) (a : Int32) (b : Int32) (((iv 9 3) : Int32).toInt).toNat) := xr8_0
                exact W.iret (v := r8) hx hb hr (fun t ht9 hW => ⟨r8, rfl, ⟨trivial, (show (((r8 : Int32).toInt = -100002 ∧ ¬ (0 ≤ (a).toInt ∧ (a).toInt ≤ 3 ∧ 0 ≤ (b).toInt ∧ (b).toInt ≤ 3000 ∧ 0 ≤ (d).toInt ∧ (d).toInt ≤ 1)) ∨ (0 ≤ (a).toInt ∧ (a).toInt ≤ 3 ∧ 0 ≤ (b).toInt ∧ (b).toInt ≤ 3000 ∧ 0 ≤ (d).toInt ∧ (d).toInt ≤ 1 ∧ (d).toInt = 0 ∧ (r8 : Int32).toInt = er0 (fa 9 2) (tLa (fa 9 0) (fa 9 1) a b (((iv 9 3) : Int32).toInt).toNat) (tFi (fa 9 0) (fa 9 1) a b (((iv 9 3) : Int32).toInt).toNat)) ∨ (0 ≤ (a).toInt ∧ (a).toInt ≤ 3 ∧ 0 ≤ (b).toInt ∧ (b).toInt ≤ 3000 ∧ 0 ≤ (d).toInt ∧ (d).toInt ≤ 1 ∧ (d).toInt = 1 ∧ (r8 : Int32).toInt = er1 (fa 9 2) (tLa (fa 9 0) (fa 9 1) a b (((iv 9 3) : Int32).toInt).toNat) (tFi (fa 9 0) (fa 9 1) a b (((iv 9 3) : Int32).toInt).toNat))) from by omega)⟩, ht9⟩) (fun q hq => by cases hq) dX11_error_57
              · have fc7 := z_eq (rfl : (d).toInt = _) (by decide : (0 : Int32).toInt = 0) c7
                refine lv_aload_n hx hb dX11_error_36 rfl (lv_at hl 0 rfl) ?_
                refine gX_11_1 hx hb ht hown hK hP m_416 dX11_error_37 ?_
                refine lv_iload_n hx hb dX11_error_40 rfl (lv_at hl 1 rfl) ?_
                refine lv_iload_n hx hb dX11_error_41 rfl (lv_at hl 2 rfl) ?_
                refine vp_callSi (W.runV (As := [.int a, .int b]) (rest := []) ⟨hx, hb, hml, hown, ht⟩ (c_X9_least_x l dC dI h g ca iv lv fa la hI a b) (kV 2 ht m_534 m_535 m_536 m_79 m_537 rfl rfl hd_X9_least_v ⟨Nat.le_of_ble_eq_true rfl, Nat.le_of_ble_eq_true rfl⟩) (vR hP hK (rX_9 hK hP)) rfl rfl hl.1 rfl (lv_room (Nat.le_of_ble_eq_true rfl)) dX11_error_42 ⟨Nat.le_of_ble_eq_true rfl, Nat.le_of_ble_eq_true rfl⟩) (fun r9 hr9 => ?_)
                obtain ⟨hr9, xr9_0⟩ := hr9
                have i_9_3 : 0 ≤ (iv 9 3).toInt ∧ (iv 9 3).toInt ≤ 30 := hI.1 9 3
                have xr9_0 : (r9 : Int32).toInt = er0 (fa 9 2) (tLa (fa 9 0) (fa 9 1) (a : Int32) (b : Int32) (((iv 9 3) : Int32).toInt).toNat) (tFi (fa 9 0) (fa 9 1) (a : Int32) (b : Int32) (((iv 9 3) : Int32).toInt).toNat) := xr9_0
                refine lv_goto (tgt := 57) hx hb dX11_error_45 (by decide) ?_
                exact W.iret (v := r9) hx hb hr (fun t ht9 hW => ⟨r9, rfl, ⟨trivial, (show (((r9 : Int32).toInt = -100002 ∧ ¬ (0 ≤ (a).toInt ∧ (a).toInt ≤ 3 ∧ 0 ≤ (b).toInt ∧ (b).toInt ≤ 3000 ∧ 0 ≤ (d).toInt ∧ (d).toInt ≤ 1)) ∨ (0 ≤ (a).toInt ∧ (a).toInt ≤ 3 ∧ 0 ≤ (b).toInt ∧ (b).toInt ≤ 3000 ∧ 0 ≤ (d).toInt ∧ (d).toInt ≤ 1 ∧ (d).toInt = 0 ∧ (r9 : Int32).toInt = er0 (fa 9 2) (tLa (fa 9 0) (fa 9 1) a b (((iv 9 3) : Int32).toInt).toNat) (tFi (fa 9 0) (fa 9 1) a b (((iv 9 3) : Int32).toInt).toNat)) ∨ (0 ≤ (a).toInt ∧ (a).toInt ≤ 3 ∧ 0 ≤ (b).toInt ∧ (b).toInt ≤ 3000 ∧ 0 ≤ (d).toInt ∧ (d).toInt ≤ 1 ∧ (d).toInt = 1 ∧ (r9 : Int32).toInt = er1 (fa 9 2) (tLa (fa 9 0) (fa 9 1) a b (((iv 9 3) : Int32).toInt).toNat) (tFi (fa 9 0) (fa 9 1) a b (((iv 9 3) : Int32).toInt).toNat))) from by omega)⟩, ht9⟩) (fun q hq => by cases hq) dX11_error_57
            · exact absurd c6 (by decide)
          · skip
            refine lv_if_ne (tgt := 32) hx hb dX11_error_26 (by decide) (fun c10 => ?_) (fun c10 => ?_)
            · exact absurd rfl c10
            · skip
              refine lv_ldc hx hb hown (ht _ m_456) dX11_error_29 ?_
              have : ((-100002) : Int32).toInt = (-100002) := (by decide)
              have i_9_3 : 0 ≤ (iv 9 3).toInt ∧ (iv 9 3).toInt ≤ 30 := hI.1 9 3
              exact W.iret (v := (-100002)) hx hb hr (fun t ht9 hW => ⟨(-100002), rfl, ⟨trivial, (show ((((-100002) : Int32).toInt = -100002 ∧ ¬ (0 ≤ (a).toInt ∧ (a).toInt ≤ 3 ∧ 0 ≤ (b).toInt ∧ (b).toInt ≤ 3000 ∧ 0 ≤ (d).toInt ∧ (d).toInt ≤ 1)) ∨ (0 ≤ (a).toInt ∧ (a).toInt ≤ 3 ∧ 0 ≤ (b).toInt ∧ (b).toInt ≤ 3000 ∧ 0 ≤ (d).toInt ∧ (d).toInt ≤ 1 ∧ (d).toInt = 0 ∧ ((-100002) : Int32).toInt = er0 (fa 9 2) (tLa (fa 9 0) (fa 9 1) a b (((iv 9 3) : Int32).toInt).toNat) (tFi (fa 9 0) (fa 9 1) a b (((iv 9 3) : Int32).toInt).toNat)) ∨ (0 ≤ (a).toInt ∧ (a).toInt ≤ 3 ∧ 0 ≤ (b).toInt ∧ (b).toInt ≤ 3000 ∧ 0 ≤ (d).toInt ∧ (d).toInt ≤ 1 ∧ (d).toInt = 1 ∧ ((-100002) : Int32).toInt = er1 (fa 9 2) (tLa (fa 9 0) (fa 9 1) a b (((iv 9 3) : Int32).toInt).toNat) (tFi (fa 9 0) (fa 9 1) a b (((iv 9 3) : Int32).toInt).toNat))) from by omega)⟩, ht9⟩) (fun q hq => by cases hq) dX11_error_31
      · skip
        refine lv_if_eq (tgt := 29) hx hb dX11_error_17 (by decide) (fun c11 => ?_) (fun c11 => ?_)
        · skip
          refine lv_ldc hx hb hown (ht _ m_456) dX11_error_29 ?_
          have : ((-100002) : Int32).toInt = (-100002) := (by decide)
          have i_9_3 : 0 ≤ (iv 9 3).toInt ∧ (iv 9 3).toInt ≤ 30 := hI.1 9 3
          exact W.iret (v := (-100002)) hx hb hr (fun t ht9 hW => ⟨(-100002), rfl, ⟨trivial, (show ((((-100002) : Int32).toInt = -100002 ∧ ¬ (0 ≤ (a).toInt ∧ (a).toInt ≤ 3 ∧ 0 ≤ (b).toInt ∧ (b).toInt ≤ 3000 ∧ 0 ≤ (d).toInt ∧ (d).toInt ≤ 1)) ∨ (0 ≤ (a).toInt ∧ (a).toInt ≤ 3 ∧ 0 ≤ (b).toInt ∧ (b).toInt ≤ 3000 ∧ 0 ≤ (d).toInt ∧ (d).toInt ≤ 1 ∧ (d).toInt = 0 ∧ ((-100002) : Int32).toInt = er0 (fa 9 2) (tLa (fa 9 0) (fa 9 1) a b (((iv 9 3) : Int32).toInt).toNat) (tFi (fa 9 0) (fa 9 1) a b (((iv 9 3) : Int32).toInt).toNat)) ∨ (0 ≤ (a).toInt ∧ (a).toInt ≤ 3 ∧ 0 ≤ (b).toInt ∧ (b).toInt ≤ 3000 ∧ 0 ≤ (d).toInt ∧ (d).toInt ≤ 1 ∧ (d).toInt = 1 ∧ ((-100002) : Int32).toInt = er1 (fa 9 2) (tLa (fa 9 0) (fa 9 1) a b (((iv 9 3) : Int32).toInt).toNat) (tFi (fa 9 0) (fa 9 1) a b (((iv 9 3) : Int32).toInt).toNat))) from by omega)⟩, ht9⟩) (fun q hq => by cases hq) dX11_error_31
        · exact absurd rfl c11
  · skip
    refine lv_if_eq (tgt := 29) hx hb dX11_error_6 (by decide) (fun c12 => ?_) (fun c12 => ?_)
    · skip
      refine lv_ldc hx hb hown (ht _ m_456) dX11_error_29 ?_
      have : ((-100002) : Int32).toInt = (-100002) := (by decide)
      have i_9_3 : 0 ≤ (iv 9 3).toInt ∧ (iv 9 3).toInt ≤ 30 := hI.1 9 3
      exact W.iret (v := (-100002)) hx hb hr (fun t ht9 hW => ⟨(-100002), rfl, ⟨trivial, (show ((((-100002) : Int32).toInt = -100002 ∧ ¬ (0 ≤ (a).toInt ∧ (a).toInt ≤ 3 ∧ 0 ≤ (b).toInt ∧ (b).toInt ≤ 3000 ∧ 0 ≤ (d).toInt ∧ (d).toInt ≤ 1)) ∨ (0 ≤ (a).toInt ∧ (a).toInt ≤ 3 ∧ 0 ≤ (b).toInt ∧ (b).toInt ≤ 3000 ∧ 0 ≤ (d).toInt ∧ (d).toInt ≤ 1 ∧ (d).toInt = 0 ∧ ((-100002) : Int32).toInt = er0 (fa 9 2) (tLa (fa 9 0) (fa 9 1) a b (((iv 9 3) : Int32).toInt).toNat) (tFi (fa 9 0) (fa 9 1) a b (((iv 9 3) : Int32).toInt).toNat)) ∨ (0 ≤ (a).toInt ∧ (a).toInt ≤ 3 ∧ 0 ≤ (b).toInt ∧ (b).toInt ≤ 3000 ∧ 0 ≤ (d).toInt ∧ (d).toInt ≤ 1 ∧ (d).toInt = 1 ∧ ((-100002) : Int32).toInt = er1 (fa 9 2) (tLa (fa 9 0) (fa 9 1) a b (((iv 9 3) : Int32).toInt).toNat) (tFi (fa 9 0) (fa 9 1) a b (((iv 9 3) : Int32).toInt).toNat))) from by omega)⟩, ht9⟩) (fun q hq => by cases hq) dX11_error_31
    · exact absurd rfl c12
/-! ===== er2 ===== -/
set_option maxHeartbeats 4000000 in
set_option maxRecDepth 100000 in
/-- X12_errorOf -/
theorem c_X12_errorOf_x0 (l : Launch) (dC : Nat → ClassId) (dI : Nat → Nat → Nat) (h : Nat) (g : Nat → Nat → Nat) (ca : Nat → Nat → ClassId) (iv : Nat → Nat → Int32) (lv : Nat → Nat → Int64) (fa : Nat → Nat → Nat → Int32) (la : Nat → Nat → Nat → Int64) (hI : IX iv fa) (a : Int32) (b : Int32) : Met l yX12_errorOf (wc yX12_errorOf cX12_errorOf 8 (some .int)) ({ frames := 0, cells := 0, slots := 0, locals := 0 } : Room) (pR (dC, dI) classes (WM h g ca iv lv fa la) (TM ca) [.ref h, .int a, .int b, .int 0]) (vp_Si (fun r => (True) ∧ (r.toInt = er0 (fa 12 15) (tLa (fa 12 14) (fa 12 16) a b ((iv 12 13).toInt).toNat) (tFi (fa 12 14) (fa 12 16) a b ((iv 12 13).toInt).toNat)))) 0 0 (fun _ => False) := by
  refine Met.ofW (cc := cX12_errorOf) (maxL := 8) (ret := (some .int)) (by decide) rfl ?_
  intro p e s m args below meth c s₁ B hml hv
  obtain ⟨rfl, hP, hK⟩ := hv
  have hx := B.exec
  have hb := B.bytes
  have hr := B.returns
  have ht := tb_tl (atoms_spec (ws := wc yX12_errorOf cX12_errorOf 8 (some .int)) B.pre)
  have hown : s.vm.findClass RX12 = some m.cls := findClass_of_methodNamed B.named
  have hlocks := B.notSynchronized
  have hl := lv_entry [.ref h, .int a, .int b, .int 0] (n := 8) (Nat.le_of_ble_eq_true rfl)
  rw [lg_entry_eq]
  generalize (lg_sl [.ref h, .int a, .int b, .int 0] ++ List.replicate (8 - (lg_sl [.ref h, .int a, .int b, .int 0]).length) Slot.unset).toArray = ls at hl ⊢
  have hl : lv_has ls 8 [(0, .ref h), (1, .int a), (2, .int b), (3, .int 0)] := hl
  refine lv_iconst (v := (-1)) hx hb dX12_errorOf_0 (by decide) ?_
  refine lv_istore (lv' := [(4, .int (-1)), (0, .ref h), (1, .int a), (2, .int b), (3, .int 0)]) hx hb dX12_errorOf_1 hl (by decide) rfl (fun ls hl => ?_)
  refine lv_iconst (v := (-1)) hx hb dX12_errorOf_3 (by decide) ?_
  refine lv_istore (lv' := [(5, .int (-1)), (4, .int (-1)), (0, .ref h), (1, .int a), (2, .int b), (3, .int 0)]) hx hb dX12_errorOf_4 hl (by decide) rfl (fun ls hl => ?_)
  refine lv_iconst (v := 0) hx hb dX12_errorOf_6 (by decide) ?_
  refine lv_istore (lv' := [(6, .int 0), (5, .int (-1)), (4, .int (-1)), (0, .ref h), (1, .int a), (2, .int b), (3, .int 0)]) hx hb dX12_errorOf_7 hl (by decide) rfl (fun ls hl => ?_)
  have i_12_13 : 0 ≤ (iv 12 13).toInt ∧ (iv 12 13).toInt ≤ 30 := hI.1 12 13
  have lp645 : ∀ (nn645 : Nat) (x644_6 : Int32) (x644_5 : Int32) (x644_4 : Int32), 0 ≤ x644_6.toInt ∧ x644_6.toInt ≤ 30 → (-1) ≤ x644_5.toInt ∧ x644_5.toInt ≤ 29 → (-1) ≤ x644_4.toInt ∧ x644_4.toInt ≤ 29 → ((x644_4 : Int32).toInt = tLa (fa 12 14) (fa 12 16) a b ((x644_6 : Int32).toInt).toNat) → ((x644_5 : Int32).toInt = tFi (fa 12 14) (fa 12 16) a b ((x644_6 : Int32).toInt).toNat) → (x644_6 : Int32).toInt ≤ ((iv 12 13) : Int32).toInt → 30 - x644_6.toInt < (nn645 : Int) → ∀ (ls : Array Slot), lv_has ls 8 [(6, .int x644_6), (5, .int x644_5), (4, .int x644_4), (0, .ref h), (1, .int a), (2, .int b), (3, .int 0)] → W p l e ({ frames := 0, cells := 0, slots := 0, locals := 0 } : Room) s m ([.ref h, .int a, .int b, .int 0] : List Value).toArray below meth c s.heap [] 0 0 (MQ below (vp_Si (fun r => (True) ∧ (r.toInt = er0 (fa 12 15) (tLa (fa 12 14) (fa 12 16) a b ((iv 12 13).toInt).toNat) (tFi (fa 12 14) (fa 12 16) a b ((iv 12 13).toInt).toNat)))) ([.ref h, .int a, .int b, .int 0] : List Value).toArray s 0 0 (fun _ => False)) (F0 m 9 ls []) := by
    intro nn645
    induction nn645 with
    | zero => intro x644_6 x644_5 x644_4 hx644_6 hx644_5 hx644_4 hq645_0 hq645_1 hq645_2 hm645; exfalso; omega
    | succ nn645 ih645 =>
      intro x644_6 x644_5 x644_4 hx644_6 hx644_5 hx644_4 hq645_0 hq645_1 hq645_2 hm645 ls hl
      refine lv_iload hx hb dX12_errorOf_9 (lv_at hl 0 rfl) ?_
      refine lv_aload_n hx hb dX12_errorOf_11 rfl (lv_at hl 3 rfl) ?_
      refine gM_12_13 hx hb ht hown hK hP m_1152 (v := (iv 12 13)) rfl dX12_errorOf_12 ?_
      refine lv_icmp_ge (tgt := 80) hx hb dX12_errorOf_15 (by decide) (fun c646 => ?_) (fun c646 => ?_)
      · have fc646 := z_le (rfl : ((iv 12 13)).toInt = _) (rfl : (x644_6).toInt = _) c646
        refine lv_iload hx hb dX12_errorOf_80 (lv_at hl 2 rfl) ?_
        refine lv_if_ge (tgt := 92) hx hb dX12_errorOf_82 (by decide) (fun c647 => ?_) (fun c647 => ?_)
        · have fc647 := z_le (by decide : (0 : Int32).toInt = 0) (rfl : (x644_4).toInt = _) c647
          refine lv_aload_n hx hb dX12_errorOf_92 rfl (lv_at hl 3 rfl) ?_
          refine gM_12_15 hx hb ht hown hK hP m_1154 dX12_errorOf_93 ?_
          refine lv_iload hx hb dX12_errorOf_96 (lv_at hl 2 rfl) ?_
          refine lv_if_ge (tgt := 106) hx hb dX12_errorOf_98 (by decide) (fun c648 => ?_) (fun c648 => ?_)
          · skip
            refine lv_iload hx hb dX12_errorOf_106 (lv_at hl 2 rfl) ?_
            refine lM_12_15 hx hb hK hP (f := (fa 12 15)) rfl (vp_in_iff.mpr ⟨by omega, by omega⟩) dX12_errorOf_108 ?_
            refine lv_topi (fun v649 ev649 => ?_)
            refine lv_istore (lv' := [(6, .int v649), (5, .int x644_5), (4, .int x644_4), (0, .ref h), (1, .int a), (2, .int b), (3, .int 0)]) hx hb dX12_errorOf_109 hl (by decide) rfl (fun ls hl => ?_)
            refine lv_aload_n hx hb dX12_errorOf_111 rfl (lv_at hl 3 rfl) ?_
            refine gM_12_15 hx hb ht hown hK hP m_1154 dX12_errorOf_112 ?_
            refine lv_iload hx hb dX12_errorOf_115 (lv_at hl 1 rfl) ?_
            refine lv_if_ge (tgt := 125) hx hb dX12_errorOf_117 (by decide) (fun c650 => ?_) (fun c650 => ?_)
            · have fc650 := z_le (by decide : (0 : Int32).toInt = 0) (rfl : (x644_5).toInt = _) c650
              refine lv_iload hx hb dX12_errorOf_125 (lv_at hl 1 rfl) ?_
              refine lM_12_15 hx hb hK hP (f := (fa 12 15)) rfl (vp_in_iff.mpr ⟨by omega, by omega⟩) dX12_errorOf_127 ?_
              refine lv_topi (fun v651 ev651 => ?_)
              refine lv_istore (lv' := [(7, .int v651), (6, .int v649), (5, .int x644_5), (4, .int x644_4), (0, .ref h), (1, .int a), (2, .int b), (3, .int 0)]) hx hb dX12_errorOf_128 hl (by decide) rfl (fun ls hl => ?_)
              refine lv_iload_n hx hb dX12_errorOf_130 rfl (lv_at hl 7 rfl) ?_
              refine lv_iload hx hb dX12_errorOf_131 (lv_at hl 1 rfl) ?_
              refine lv_iload hx hb dX12_errorOf_133 (lv_at hl 0 rfl) ?_
              refine lv_icmp_le (tgt := 142) hx hb dX12_errorOf_135 (by decide) (fun c652 => ?_) (fun c652 => ?_)
              · have fc652 := z_le (rfl : (v649).toInt = _) (rfl : (v651).toInt = _) c652
                refine lv_iconst (v := 0) hx hb dX12_errorOf_142 (by decide) ?_
                refine lv_icmp_ne (tgt := 151) hx hb dX12_errorOf_143 (by decide) (fun c653 => ?_) (fun c653 => ?_)
                · exact absurd rfl c653
                · skip
                  refine lv_iload hx hb dX12_errorOf_146 (lv_at hl 1 rfl) ?_
                  refine lv_goto (tgt := 153) hx hb dX12_errorOf_148 (by decide) ?_
                  exact W.iret (v := v649) hx hb hr (fun t ht9 hW => ⟨v649, rfl, ⟨trivial, (show (v649 : Int32).toInt = er0 (fa 12 15) (tLa (fa 12 14) (fa 12 16) a b (((iv 12 13) : Int32).toInt).toNat) (tFi (fa 12 14) (fa 12 16) a b (((iv 12 13) : Int32).toInt).toNat) from (by
                          have ha9 := hq645_0
                          have hb9 := hq645_1
                          have he9 : (x644_6 : Int32).toInt = (iv 12 13).toInt := (by omega)
                          rw [he9] at ha9 hb9
                          have := congrArg Int32.toInt (show v649 = fa 12 15 ((x644_4 : Int32).toInt).toNat from ev649)
                          have := congrArg Int32.toInt (show v651 = fa 12 15 ((x644_5 : Int32).toInt).toNat from ev651)
                          rw [← ha9, ← hb9]; unfold er0
                          split
                          · omega
                          · split
                            · omega
                            · split
                              · omega
                              · omega))⟩, ht9⟩) (fun q hq => by cases hq) dX12_errorOf_153
              · have fc652 := z_nle (rfl : (v649).toInt = _) (rfl : (v651).toInt = _) c652
                refine lv_iconst (v := 1) hx hb dX12_errorOf_138 (by decide) ?_
                refine lv_goto (tgt := 143) hx hb dX12_errorOf_139 (by decide) ?_
                refine lv_icmp_ne (tgt := 151) hx hb dX12_errorOf_143 (by decide) (fun c654 => ?_) (fun c654 => ?_)
                · skip
                  refine lv_iload hx hb dX12_errorOf_151 (lv_at hl 0 rfl) ?_
                  exact W.iret (v := v651) hx hb hr (fun t ht9 hW => ⟨v651, rfl, ⟨trivial, (show (v651 : Int32).toInt = er0 (fa 12 15) (tLa (fa 12 14) (fa 12 16) a b (((iv 12 13) : Int32).toInt).toNat) (tFi (fa 12 14) (fa 12 16) a b (((iv 12 13) : Int32).toInt).toNat) from (by
                          have ha9 := hq645_0
                          have hb9 := hq645_1
                          have he9 : (x644_6 : Int32).toInt = (iv 12 13).toInt := (by omega)
                          rw [he9] at ha9 hb9
                          have := congrArg Int32.toInt (show v649 = fa 12 15 ((x644_4 : Int32).toInt).toNat from ev649)
                          have := congrArg Int32.toInt (show v651 = fa 12 15 ((x644_5 : Int32).toInt).toNat from ev651)
                          rw [← ha9, ← hb9]; unfold er0
                          split
                          · omega
                          · split
                            · omega
                            · split
                              · omega
                              · omega))⟩, ht9⟩) (fun q hq => by cases hq) dX12_errorOf_153
                · exact absurd c654 (by decide)
            · have fc650 := z_nle (by decide : (0 : Int32).toInt = 0) (rfl : (x644_5).toInt = _) c650
              refine lv_iload hx hb dX12_errorOf_120 (lv_at hl 2 rfl) ?_
              refine lv_goto (tgt := 127) hx hb dX12_errorOf_122 (by decide) ?_
              refine lM_12_15 hx hb hK hP (f := (fa 12 15)) rfl (vp_in_iff.mpr ⟨by omega, by omega⟩) dX12_errorOf_127 ?_
              refine lv_topi (fun v655 ev655 => ?_)
              obtain rfl : v649 = v655 := ev649.trans ev655.symm
              refine lv_istore (lv' := [(7, .int v649), (6, .int v649), (5, .int x644_5), (4, .int x644_4), (0, .ref h), (1, .int a), (2, .int b), (3, .int 0)]) hx hb dX12_errorOf_128 hl (by decide) rfl (fun ls hl => ?_)
              refine lv_iload_n hx hb dX12_errorOf_130 rfl (lv_at hl 7 rfl) ?_
              refine lv_iload hx hb dX12_errorOf_131 (lv_at hl 1 rfl) ?_
              refine lv_iload hx hb dX12_errorOf_133 (lv_at hl 0 rfl) ?_
              refine lv_icmp_le (tgt := 142) hx hb dX12_errorOf_135 (by decide) (fun c656 => ?_) (fun c656 => ?_)
              · have fc656 := z_le (rfl : (v649).toInt = _) (rfl : (v649).toInt = _) c656
                refine lv_iconst (v := 0) hx hb dX12_errorOf_142 (by decide) ?_
                refine lv_icmp_ne (tgt := 151) hx hb dX12_errorOf_143 (by decide) (fun c657 => ?_) (fun c657 => ?_)
                · exact absurd rfl c657
                · skip
                  refine lv_iload hx hb dX12_errorOf_146 (lv_at hl 1 rfl) ?_
                  refine lv_goto (tgt := 153) hx hb dX12_errorOf_148 (by decide) ?_
                  exact W.iret (v := v649) hx hb hr (fun t ht9 hW => ⟨v649, rfl, ⟨trivial, (show (v649 : Int32).toInt = er0 (fa 12 15) (tLa (fa 12 14) (fa 12 16) a b (((iv 12 13) : Int32).toInt).toNat) (tFi (fa 12 14) (fa 12 16) a b (((iv 12 13) : Int32).toInt).toNat) from (by
                          have ha9 := hq645_0
                          have hb9 := hq645_1
                          have he9 : (x644_6 : Int32).toInt = (iv 12 13).toInt := (by omega)
                          rw [he9] at ha9 hb9
                          have := congrArg Int32.toInt (show v649 = fa 12 15 ((x644_4 : Int32).toInt).toNat from ev649)
                          rw [← ha9, ← hb9]; unfold er0
                          split
                          · omega
                          · split
                            · omega
                            · split
                              · omega
                              · omega))⟩, ht9⟩) (fun q hq => by cases hq) dX12_errorOf_153
              · have fc656 := z_nle (rfl : (v649).toInt = _) (rfl : (v649).toInt = _) c656
                refine lv_iconst (v := 1) hx hb dX12_errorOf_138 (by decide) ?_
                refine lv_goto (tgt := 143) hx hb dX12_errorOf_139 (by decide) ?_
                refine lv_icmp_ne (tgt := 151) hx hb dX12_errorOf_143 (by decide) (fun c658 => ?_) (fun c658 => ?_)
                · skip
                  refine lv_iload hx hb dX12_errorOf_151 (lv_at hl 0 rfl) ?_
                  exact W.iret (v := v649) hx hb hr (fun t ht9 hW => ⟨v649, rfl, ⟨trivial, (show (v649 : Int32).toInt = er0 (fa 12 15) (tLa (fa 12 14) (fa 12 16) a b (((iv 12 13) : Int32).toInt).toNat) (tFi (fa 12 14) (fa 12 16) a b (((iv 12 13) : Int32).toInt).toNat) from (by
                          have ha9 := hq645_0
                          have hb9 := hq645_1
                          have he9 : (x644_6 : Int32).toInt = (iv 12 13).toInt := (by omega)
                          rw [he9] at ha9 hb9
                          have := congrArg Int32.toInt (show v649 = fa 12 15 ((x644_4 : Int32).toInt).toNat from ev649)
                          rw [← ha9, ← hb9]; unfold er0
                          split
                          · omega
                          · split
                            · omega
                            · split
                              · omega
                              · omega))⟩, ht9⟩) (fun q hq => by cases hq) dX12_errorOf_153
                · exact absurd c658 (by decide)
          · have fc648 := z_nle (by decide : (0 : Int32).toInt = 0) (rfl : (x644_4).toInt = _) c648; exfalso; omega
        · have fc647 := z_nle (by decide : (0 : Int32).toInt = 0) (rfl : (x644_4).toInt = _) c647
          refine lv_iload hx hb dX12_errorOf_85 (lv_at hl 1 rfl) ?_
          refine lv_if_ge (tgt := 92) hx hb dX12_errorOf_87 (by decide) (fun c659 => ?_) (fun c659 => ?_)
          · have fc659 := z_le (by decide : (0 : Int32).toInt = 0) (rfl : (x644_5).toInt = _) c659
            refine lv_aload_n hx hb dX12_errorOf_92 rfl (lv_at hl 3 rfl) ?_
            refine gM_12_15 hx hb ht hown hK hP m_1154 dX12_errorOf_93 ?_
            refine lv_iload hx hb dX12_errorOf_96 (lv_at hl 2 rfl) ?_
            refine lv_if_ge (tgt := 106) hx hb dX12_errorOf_98 (by decide) (fun c660 => ?_) (fun c660 => ?_)
            · have fc660 := z_le (by decide : (0 : Int32).toInt = 0) (rfl : (x644_4).toInt = _) c660; exfalso; omega
            · skip
              refine lv_iload hx hb dX12_errorOf_101 (lv_at hl 1 rfl) ?_
              refine lv_goto (tgt := 108) hx hb dX12_errorOf_103 (by decide) ?_
              refine lM_12_15 hx hb hK hP (f := (fa 12 15)) rfl (vp_in_iff.mpr ⟨by omega, by omega⟩) dX12_errorOf_108 ?_
              refine lv_topi (fun v661 ev661 => ?_)
              refine lv_istore (lv' := [(6, .int v661), (5, .int x644_5), (4, .int x644_4), (0, .ref h), (1, .int a), (2, .int b), (3, .int 0)]) hx hb dX12_errorOf_109 hl (by decide) rfl (fun ls hl => ?_)
              refine lv_aload_n hx hb dX12_errorOf_111 rfl (lv_at hl 3 rfl) ?_
              refine gM_12_15 hx hb ht hown hK hP m_1154 dX12_errorOf_112 ?_
              refine lv_iload hx hb dX12_errorOf_115 (lv_at hl 1 rfl) ?_
              refine lv_if_ge (tgt := 125) hx hb dX12_errorOf_117 (by decide) (fun c662 => ?_) (fun c662 => ?_)
              · skip
                refine lv_iload hx hb dX12_errorOf_125 (lv_at hl 1 rfl) ?_
                refine lM_12_15 hx hb hK hP (f := (fa 12 15)) rfl (vp_in_iff.mpr ⟨by omega, by omega⟩) dX12_errorOf_127 ?_
                refine lv_topi (fun v663 ev663 => ?_)
                obtain rfl : v661 = v663 := ev661.trans ev663.symm
                refine lv_istore (lv' := [(7, .int v661), (6, .int v661), (5, .int x644_5), (4, .int x644_4), (0, .ref h), (1, .int a), (2, .int b), (3, .int 0)]) hx hb dX12_errorOf_128 hl (by decide) rfl (fun ls hl => ?_)
                refine lv_iload_n hx hb dX12_errorOf_130 rfl (lv_at hl 7 rfl) ?_
                refine lv_iload hx hb dX12_errorOf_131 (lv_at hl 1 rfl) ?_
                refine lv_iload hx hb dX12_errorOf_133 (lv_at hl 0 rfl) ?_
                refine lv_icmp_le (tgt := 142) hx hb dX12_errorOf_135 (by decide) (fun c664 => ?_) (fun c664 => ?_)
                · have fc664 := z_le (rfl : (v661).toInt = _) (rfl : (v661).toInt = _) c664
                  refine lv_iconst (v := 0) hx hb dX12_errorOf_142 (by decide) ?_
                  refine lv_icmp_ne (tgt := 151) hx hb dX12_errorOf_143 (by decide) (fun c665 => ?_) (fun c665 => ?_)
                  · exact absurd rfl c665
                  · skip
                    refine lv_iload hx hb dX12_errorOf_146 (lv_at hl 1 rfl) ?_
                    refine lv_goto (tgt := 153) hx hb dX12_errorOf_148 (by decide) ?_
                    exact W.iret (v := v661) hx hb hr (fun t ht9 hW => ⟨v661, rfl, ⟨trivial, (show (v661 : Int32).toInt = er0 (fa 12 15) (tLa (fa 12 14) (fa 12 16) a b (((iv 12 13) : Int32).toInt).toNat) (tFi (fa 12 14) (fa 12 16) a b (((iv 12 13) : Int32).toInt).toNat) from (by
                            have ha9 := hq645_0
                            have hb9 := hq645_1
                            have he9 : (x644_6 : Int32).toInt = (iv 12 13).toInt := (by omega)
                            rw [he9] at ha9 hb9
                            have := congrArg Int32.toInt (show v661 = fa 12 15 ((x644_5 : Int32).toInt).toNat from ev661)
                            rw [← ha9, ← hb9]; unfold er0
                            split
                            · omega
                            · split
                              · omega
                              · split
                                · omega
                                · omega))⟩, ht9⟩) (fun q hq => by cases hq) dX12_errorOf_153
                · have fc664 := z_nle (rfl : (v661).toInt = _) (rfl : (v661).toInt = _) c664
                  refine lv_iconst (v := 1) hx hb dX12_errorOf_138 (by decide) ?_
                  refine lv_goto (tgt := 143) hx hb dX12_errorOf_139 (by decide) ?_
                  refine lv_icmp_ne (tgt := 151) hx hb dX12_errorOf_143 (by decide) (fun c666 => ?_) (fun c666 => ?_)
                  · skip
                    refine lv_iload hx hb dX12_errorOf_151 (lv_at hl 0 rfl) ?_
                    exact W.iret (v := v661) hx hb hr (fun t ht9 hW => ⟨v661, rfl, ⟨trivial, (show (v661 : Int32).toInt = er0 (fa 12 15) (tLa (fa 12 14) (fa 12 16) a b (((iv 12 13) : Int32).toInt).toNat) (tFi (fa 12 14) (fa 12 16) a b (((iv 12 13) : Int32).toInt).toNat) from (by
                            have ha9 := hq645_0
                            have hb9 := hq645_1
                            have he9 : (x644_6 : Int32).toInt = (iv 12 13).toInt := (by omega)
                            rw [he9] at ha9 hb9
                            have := congrArg Int32.toInt (show v661 = fa 12 15 ((x644_5 : Int32).toInt).toNat from ev661)
                            rw [← ha9, ← hb9]; unfold er0
                            split
                            · omega
                            · split
                              · omega
                              · split
                                · omega
                                · omega))⟩, ht9⟩) (fun q hq => by cases hq) dX12_errorOf_153
                  · exact absurd c666 (by decide)
              · have fc662 := z_nle (by decide : (0 : Int32).toInt = 0) (rfl : (x644_5).toInt = _) c662; exfalso; omega
          · have fc659 := z_nle (by decide : (0 : Int32).toInt = 0) (rfl : (x644_5).toInt = _) c659
            refine lv_iconst (v := 0) hx hb dX12_errorOf_90 (by decide) ?_
            have : (0 : Int32).toInt = 0 := (by decide)
            exact W.iret (v := 0) hx hb hr (fun t ht9 hW => ⟨0, rfl, ⟨trivial, (show (0 : Int32).toInt = er0 (fa 12 15) (tLa (fa 12 14) (fa 12 16) a b (((iv 12 13) : Int32).toInt).toNat) (tFi (fa 12 14) (fa 12 16) a b (((iv 12 13) : Int32).toInt).toNat) from (by
                    have ha9 := hq645_0
                    have hb9 := hq645_1
                    have he9 : (x644_6 : Int32).toInt = (iv 12 13).toInt := (by omega)
                    rw [he9] at ha9 hb9
                    rw [← ha9, ← hb9]; unfold er0
                    split
                    · omega
                    · split
                      · omega
                      · split
                        · omega
                        · omega))⟩, ht9⟩) (fun q hq => by cases hq) dX12_errorOf_91
      · have fc646 := z_nle (rfl : ((iv 12 13)).toInt = _) (rfl : (x644_6).toInt = _) c646
        refine lv_aload_n hx hb dX12_errorOf_18 rfl (lv_at hl 3 rfl) ?_
        refine gM_12_14 hx hb ht hown hK hP m_1153 dX12_errorOf_19 ?_
        refine lv_iload hx hb dX12_errorOf_22 (lv_at hl 0 rfl) ?_
        refine lM_12_14 hx hb hK hP (f := (fa 12 14)) rfl (vp_in_iff.mpr ⟨by omega, by omega⟩) dX12_errorOf_24 ?_
        refine lv_topi (fun v667 ev667 => ?_)
        refine lv_iload_n hx hb dX12_errorOf_25 rfl (lv_at hl 4 rfl) ?_
        refine lv_icmp_ne (tgt := 74) hx hb dX12_errorOf_26 (by decide) (fun c668 => ?_) (fun c668 => ?_)
        · have fc668 := z_ne (rfl : (v667).toInt = _) (rfl : (a).toInt = _) c668
          obtain ⟨v669, ev669⟩ : ∃ y : Int32, y = x644_6 + 1 := ⟨_, rfl⟩
          have tv669 := z_add ev669 rfl (by decide : (1 : Int32).toInt = 1) (by omega) (by omega)
          refine lv_iinc (v := v669) (lv' := [(6, .int v669), (5, .int x644_5), (4, .int x644_4), (0, .ref h), (1, .int a), (2, .int b), (3, .int 0)]) hx hb dX12_errorOf_74 hl (k := 0) rfl (by rw [ev669]; rfl) (by decide) rfl (fun ls hl => ?_)
          refine lv_goto (tgt := 9) hx hb dX12_errorOf_77 (by decide) ?_
          exact ih645 v669 x644_5 x644_4 ⟨by omega, by omega⟩ ⟨by omega, by omega⟩ ⟨by omega, by omega⟩ (show (x644_4 : Int32).toInt = tLa (fa 12 14) (fa 12 16) a b ((v669 : Int32).toInt).toNat from (by have hc := la_step (sc := fa 12 14) (dy := fa 12 16) (s := a) (d := b) (t := x644_6) (t' := v669) (x := v667) (y := fa 12 16 (x644_6 : Int32).toNatClampNeg) (by omega) (by omega) ev667 rfl; have hq9 := hq645_0; rw [hc]; split <;> omega)) (show (x644_5 : Int32).toInt = tFi (fa 12 14) (fa 12 16) a b ((v669 : Int32).toInt).toNat from (by have hc := fi_step (sc := fa 12 14) (dy := fa 12 16) (s := a) (d := b) (t := x644_6) (t' := v669) (x := v667) (y := fa 12 16 (x644_6 : Int32).toNatClampNeg) (by omega) (by omega) ev667 rfl; have hq9 := hq645_1; rw [hc]; split <;> (try split) <;> omega)) (show (v669 : Int32).toInt ≤ ((iv 12 13) : Int32).toInt from by omega) (by omega) ls (lv_sub hl [0, 1, 2, 3, 4, 5, 6] rfl)
        · have fc668 := z_eq (rfl : (v667).toInt = _) (rfl : (a).toInt = _) c668
          refine lv_aload_n hx hb dX12_errorOf_29 rfl (lv_at hl 3 rfl) ?_
          refine gM_12_16 hx hb ht hown hK hP m_1155 dX12_errorOf_30 ?_
          refine lv_iload hx hb dX12_errorOf_33 (lv_at hl 0 rfl) ?_
          refine lM_12_16 hx hb hK hP (f := (fa 12 16)) rfl (vp_in_iff.mpr ⟨by omega, by omega⟩) dX12_errorOf_35 ?_
          refine lv_topi (fun v670 ev670 => ?_)
          refine lv_iload_n hx hb dX12_errorOf_36 rfl (lv_at hl 5 rfl) ?_
          refine lv_icmp_gt (tgt := 45) hx hb dX12_errorOf_37 (by decide) (fun c671 => ?_) (fun c671 => ?_)
          · have fc671 := z_lt (rfl : (b).toInt = _) (rfl : (v670).toInt = _) c671
            refine lv_iload hx hb dX12_errorOf_45 (lv_at hl 2 rfl) ?_
            refine lv_istore (lv' := [(4, .int x644_4), (6, .int x644_6), (5, .int x644_5), (0, .ref h), (1, .int a), (2, .int b), (3, .int 0)]) hx hb dX12_errorOf_47 hl (by decide) rfl (fun ls hl => ?_)
            refine lv_aload_n hx hb dX12_errorOf_49 rfl (lv_at hl 3 rfl) ?_
            refine gM_12_16 hx hb ht hown hK hP m_1155 dX12_errorOf_50 ?_
            refine lv_iload hx hb dX12_errorOf_53 (lv_at hl 1 rfl) ?_
            refine lM_12_16 hx hb hK hP (f := (fa 12 16)) rfl (vp_in_iff.mpr ⟨by omega, by omega⟩) dX12_errorOf_55 ?_
            refine lv_topi (fun v672 ev672 => ?_)
            obtain rfl : v670 = v672 := ev670.trans ev672.symm
            refine lv_iload_n hx hb dX12_errorOf_56 rfl (lv_at hl 5 rfl) ?_
            refine lv_icmp_le (tgt := 70) hx hb dX12_errorOf_57 (by decide) (fun c673 => ?_) (fun c673 => ?_)
            · have fc673 := z_le (rfl : (v670).toInt = _) (rfl : (b).toInt = _) c673
              refine lv_iload hx hb dX12_errorOf_70 (lv_at hl 2 rfl) ?_
              refine lv_istore (lv' := [(5, .int x644_5), (4, .int x644_4), (6, .int x644_6), (0, .ref h), (1, .int a), (2, .int b), (3, .int 0)]) hx hb dX12_errorOf_72 hl (by decide) rfl (fun ls hl => ?_)
              obtain ⟨v674, ev674⟩ : ∃ y : Int32, y = x644_6 + 1 := ⟨_, rfl⟩
              have tv674 := z_add ev674 rfl (by decide : (1 : Int32).toInt = 1) (by omega) (by omega)
              refine lv_iinc (v := v674) (lv' := [(6, .int v674), (5, .int x644_5), (4, .int x644_4), (0, .ref h), (1, .int a), (2, .int b), (3, .int 0)]) hx hb dX12_errorOf_74 hl (k := 2) rfl (by rw [ev674]; rfl) (by decide) rfl (fun ls hl => ?_)
              refine lv_goto (tgt := 9) hx hb dX12_errorOf_77 (by decide) ?_
              exact ih645 v674 x644_5 x644_4 ⟨by omega, by omega⟩ ⟨by omega, by omega⟩ ⟨by omega, by omega⟩ (show (x644_4 : Int32).toInt = tLa (fa 12 14) (fa 12 16) a b ((v674 : Int32).toInt).toNat from (by have hc := la_step (sc := fa 12 14) (dy := fa 12 16) (s := a) (d := b) (t := x644_6) (t' := v674) (x := v667) (y := v670) (by omega) (by omega) ev667 ev670; have hq9 := hq645_0; rw [hc]; split <;> omega)) (show (x644_5 : Int32).toInt = tFi (fa 12 14) (fa 12 16) a b ((v674 : Int32).toInt).toNat from (by have hc := fi_step (sc := fa 12 14) (dy := fa 12 16) (s := a) (d := b) (t := x644_6) (t' := v674) (x := v667) (y := v670) (by omega) (by omega) ev667 ev670; have hq9 := hq645_1; rw [hc]; split <;> (try split) <;> omega)) (show (v674 : Int32).toInt ≤ ((iv 12 13) : Int32).toInt from by omega) (by omega) ls (lv_sub hl [0, 1, 2, 3, 4, 5, 6] rfl)
            · have fc673 := z_nle (rfl : (v670).toInt = _) (rfl : (b).toInt = _) c673
              refine lv_iload hx hb dX12_errorOf_60 (lv_at hl 2 rfl) ?_
              refine lv_if_ge (tgt := 70) hx hb dX12_errorOf_62 (by decide) (fun c675 => ?_) (fun c675 => ?_)
              · have fc675 := z_le (by decide : (0 : Int32).toInt = 0) (rfl : (x644_5).toInt = _) c675
                refine lv_iload hx hb dX12_errorOf_70 (lv_at hl 2 rfl) ?_
                refine lv_istore (lv' := [(5, .int x644_5), (4, .int x644_4), (6, .int x644_6), (0, .ref h), (1, .int a), (2, .int b), (3, .int 0)]) hx hb dX12_errorOf_72 hl (by decide) rfl (fun ls hl => ?_)
                obtain ⟨v676, ev676⟩ : ∃ y : Int32, y = x644_6 + 1 := ⟨_, rfl⟩
                have tv676 := z_add ev676 rfl (by decide : (1 : Int32).toInt = 1) (by omega) (by omega)
                refine lv_iinc (v := v676) (lv' := [(6, .int v676), (5, .int x644_5), (4, .int x644_4), (0, .ref h), (1, .int a), (2, .int b), (3, .int 0)]) hx hb dX12_errorOf_74 hl (k := 2) rfl (by rw [ev676]; rfl) (by decide) rfl (fun ls hl => ?_)
                refine lv_goto (tgt := 9) hx hb dX12_errorOf_77 (by decide) ?_
                exact ih645 v676 x644_5 x644_4 ⟨by omega, by omega⟩ ⟨by omega, by omega⟩ ⟨by omega, by omega⟩ (show (x644_4 : Int32).toInt = tLa (fa 12 14) (fa 12 16) a b ((v676 : Int32).toInt).toNat from (by have hc := la_step (sc := fa 12 14) (dy := fa 12 16) (s := a) (d := b) (t := x644_6) (t' := v676) (x := v667) (y := v670) (by omega) (by omega) ev667 ev670; have hq9 := hq645_0; rw [hc]; split <;> omega)) (show (x644_5 : Int32).toInt = tFi (fa 12 14) (fa 12 16) a b ((v676 : Int32).toInt).toNat from (by have hc := fi_step (sc := fa 12 14) (dy := fa 12 16) (s := a) (d := b) (t := x644_6) (t' := v676) (x := v667) (y := v670) (by omega) (by omega) ev667 ev670; have hq9 := hq645_1; rw [hc]; split <;> (try split) <;> omega)) (show (v676 : Int32).toInt ≤ ((iv 12 13) : Int32).toInt from by omega) (by omega) ls (lv_sub hl [0, 1, 2, 3, 4, 5, 6] rfl)
              · have fc675 := z_nle (by decide : (0 : Int32).toInt = 0) (rfl : (x644_5).toInt = _) c675
                refine lv_iload hx hb dX12_errorOf_65 (lv_at hl 1 rfl) ?_
                refine lv_goto (tgt := 72) hx hb dX12_errorOf_67 (by decide) ?_
                refine lv_istore (lv' := [(5, .int x644_6), (4, .int x644_4), (6, .int x644_6), (0, .ref h), (1, .int a), (2, .int b), (3, .int 0)]) hx hb dX12_errorOf_72 hl (by decide) rfl (fun ls hl => ?_)
                obtain ⟨v677, ev677⟩ : ∃ y : Int32, y = x644_6 + 1 := ⟨_, rfl⟩
                have tv677 := z_add ev677 rfl (by decide : (1 : Int32).toInt = 1) (by omega) (by omega)
                refine lv_iinc (v := v677) (lv' := [(6, .int v677), (5, .int x644_6), (4, .int x644_4), (0, .ref h), (1, .int a), (2, .int b), (3, .int 0)]) hx hb dX12_errorOf_74 hl (k := 2) rfl (by rw [ev677]; rfl) (by decide) rfl (fun ls hl => ?_)
                refine lv_goto (tgt := 9) hx hb dX12_errorOf_77 (by decide) ?_
                exact ih645 v677 x644_6 x644_4 ⟨by omega, by omega⟩ ⟨by omega, by omega⟩ ⟨by omega, by omega⟩ (show (x644_4 : Int32).toInt = tLa (fa 12 14) (fa 12 16) a b ((v677 : Int32).toInt).toNat from (by have hc := la_step (sc := fa 12 14) (dy := fa 12 16) (s := a) (d := b) (t := x644_6) (t' := v677) (x := v667) (y := v670) (by omega) (by omega) ev667 ev670; have hq9 := hq645_0; rw [hc]; split <;> omega)) (show (x644_6 : Int32).toInt = tFi (fa 12 14) (fa 12 16) a b ((v677 : Int32).toInt).toNat from (by have hc := fi_step (sc := fa 12 14) (dy := fa 12 16) (s := a) (d := b) (t := x644_6) (t' := v677) (x := v667) (y := v670) (by omega) (by omega) ev667 ev670; have hq9 := hq645_1; rw [hc]; split <;> (try split) <;> omega)) (show (v677 : Int32).toInt ≤ ((iv 12 13) : Int32).toInt from by omega) (by omega) ls (lv_sub hl [0, 1, 2, 3, 4, 5, 6] rfl)
          · have fc671 := z_nlt (rfl : (b).toInt = _) (rfl : (v670).toInt = _) c671
            refine lv_iload hx hb dX12_errorOf_40 (lv_at hl 0 rfl) ?_
            refine lv_goto (tgt := 47) hx hb dX12_errorOf_42 (by decide) ?_
            refine lv_istore (lv' := [(4, .int x644_6), (6, .int x644_6), (5, .int x644_5), (0, .ref h), (1, .int a), (2, .int b), (3, .int 0)]) hx hb dX12_errorOf_47 hl (by decide) rfl (fun ls hl => ?_)
            refine lv_aload_n hx hb dX12_errorOf_49 rfl (lv_at hl 3 rfl) ?_
            refine gM_12_16 hx hb ht hown hK hP m_1155 dX12_errorOf_50 ?_
            refine lv_iload hx hb dX12_errorOf_53 (lv_at hl 1 rfl) ?_
            refine lM_12_16 hx hb hK hP (f := (fa 12 16)) rfl (vp_in_iff.mpr ⟨by omega, by omega⟩) dX12_errorOf_55 ?_
            refine lv_topi (fun v678 ev678 => ?_)
            obtain rfl : v670 = v678 := ev670.trans ev678.symm
            refine lv_iload_n hx hb dX12_errorOf_56 rfl (lv_at hl 5 rfl) ?_
            refine lv_icmp_le (tgt := 70) hx hb dX12_errorOf_57 (by decide) (fun c679 => ?_) (fun c679 => ?_)
            · have fc679 := z_le (rfl : (v670).toInt = _) (rfl : (b).toInt = _) c679
              refine lv_iload hx hb dX12_errorOf_70 (lv_at hl 2 rfl) ?_
              refine lv_istore (lv' := [(5, .int x644_5), (4, .int x644_6), (6, .int x644_6), (0, .ref h), (1, .int a), (2, .int b), (3, .int 0)]) hx hb dX12_errorOf_72 hl (by decide) rfl (fun ls hl => ?_)
              obtain ⟨v680, ev680⟩ : ∃ y : Int32, y = x644_6 + 1 := ⟨_, rfl⟩
              have tv680 := z_add ev680 rfl (by decide : (1 : Int32).toInt = 1) (by omega) (by omega)
              refine lv_iinc (v := v680) (lv' := [(6, .int v680), (5, .int x644_5), (4, .int x644_6), (0, .ref h), (1, .int a), (2, .int b), (3, .int 0)]) hx hb dX12_errorOf_74 hl (k := 2) rfl (by rw [ev680]; rfl) (by decide) rfl (fun ls hl => ?_)
              refine lv_goto (tgt := 9) hx hb dX12_errorOf_77 (by decide) ?_
              exact ih645 v680 x644_5 x644_6 ⟨by omega, by omega⟩ ⟨by omega, by omega⟩ ⟨by omega, by omega⟩ (show (x644_6 : Int32).toInt = tLa (fa 12 14) (fa 12 16) a b ((v680 : Int32).toInt).toNat from (by have hc := la_step (sc := fa 12 14) (dy := fa 12 16) (s := a) (d := b) (t := x644_6) (t' := v680) (x := v667) (y := v670) (by omega) (by omega) ev667 ev670; have hq9 := hq645_0; rw [hc]; split <;> omega)) (show (x644_5 : Int32).toInt = tFi (fa 12 14) (fa 12 16) a b ((v680 : Int32).toInt).toNat from (by have hc := fi_step (sc := fa 12 14) (dy := fa 12 16) (s := a) (d := b) (t := x644_6) (t' := v680) (x := v667) (y := v670) (by omega) (by omega) ev667 ev670; have hq9 := hq645_1; rw [hc]; split <;> (try split) <;> omega)) (show (v680 : Int32).toInt ≤ ((iv 12 13) : Int32).toInt from by omega) (by omega) ls (lv_sub hl [0, 1, 2, 3, 4, 5, 6] rfl)
            · have fc679 := z_nle (rfl : (v670).toInt = _) (rfl : (b).toInt = _) c679
              refine lv_iload hx hb dX12_errorOf_60 (lv_at hl 2 rfl) ?_
              refine lv_if_ge (tgt := 70) hx hb dX12_errorOf_62 (by decide) (fun c681 => ?_) (fun c681 => ?_)
              · have fc681 := z_le (by decide : (0 : Int32).toInt = 0) (rfl : (x644_5).toInt = _) c681
                refine lv_iload hx hb dX12_errorOf_70 (lv_at hl 2 rfl) ?_
                refine lv_istore (lv' := [(5, .int x644_5), (4, .int x644_6), (6, .int x644_6), (0, .ref h), (1, .int a), (2, .int b), (3, .int 0)]) hx hb dX12_errorOf_72 hl (by decide) rfl (fun ls hl => ?_)
                obtain ⟨v682, ev682⟩ : ∃ y : Int32, y = x644_6 + 1 := ⟨_, rfl⟩
                have tv682 := z_add ev682 rfl (by decide : (1 : Int32).toInt = 1) (by omega) (by omega)
                refine lv_iinc (v := v682) (lv' := [(6, .int v682), (5, .int x644_5), (4, .int x644_6), (0, .ref h), (1, .int a), (2, .int b), (3, .int 0)]) hx hb dX12_errorOf_74 hl (k := 2) rfl (by rw [ev682]; rfl) (by decide) rfl (fun ls hl => ?_)
                refine lv_goto (tgt := 9) hx hb dX12_errorOf_77 (by decide) ?_
                exact ih645 v682 x644_5 x644_6 ⟨by omega, by omega⟩ ⟨by omega, by omega⟩ ⟨by omega, by omega⟩ (show (x644_6 : Int32).toInt = tLa (fa 12 14) (fa 12 16) a b ((v682 : Int32).toInt).toNat from (by have hc := la_step (sc := fa 12 14) (dy := fa 12 16) (s := a) (d := b) (t := x644_6) (t' := v682) (x := v667) (y := v670) (by omega) (by omega) ev667 ev670; have hq9 := hq645_0; rw [hc]; split <;> omega)) (show (x644_5 : Int32).toInt = tFi (fa 12 14) (fa 12 16) a b ((v682 : Int32).toInt).toNat from (by have hc := fi_step (sc := fa 12 14) (dy := fa 12 16) (s := a) (d := b) (t := x644_6) (t' := v682) (x := v667) (y := v670) (by omega) (by omega) ev667 ev670; have hq9 := hq645_1; rw [hc]; split <;> (try split) <;> omega)) (show (v682 : Int32).toInt ≤ ((iv 12 13) : Int32).toInt from by omega) (by omega) ls (lv_sub hl [0, 1, 2, 3, 4, 5, 6] rfl)
              · have fc681 := z_nle (by decide : (0 : Int32).toInt = 0) (rfl : (x644_5).toInt = _) c681
                refine lv_iload hx hb dX12_errorOf_65 (lv_at hl 1 rfl) ?_
                refine lv_goto (tgt := 72) hx hb dX12_errorOf_67 (by decide) ?_
                refine lv_istore (lv' := [(5, .int x644_6), (4, .int x644_6), (6, .int x644_6), (0, .ref h), (1, .int a), (2, .int b), (3, .int 0)]) hx hb dX12_errorOf_72 hl (by decide) rfl (fun ls hl => ?_)
                obtain ⟨v683, ev683⟩ : ∃ y : Int32, y = x644_6 + 1 := ⟨_, rfl⟩
                have tv683 := z_add ev683 rfl (by decide : (1 : Int32).toInt = 1) (by omega) (by omega)
                refine lv_iinc (v := v683) (lv' := [(6, .int v683), (5, .int x644_6), (4, .int x644_6), (0, .ref h), (1, .int a), (2, .int b), (3, .int 0)]) hx hb dX12_errorOf_74 hl (k := 2) rfl (by rw [ev683]; rfl) (by decide) rfl (fun ls hl => ?_)
                refine lv_goto (tgt := 9) hx hb dX12_errorOf_77 (by decide) ?_
                exact ih645 v683 x644_6 x644_6 ⟨by omega, by omega⟩ ⟨by omega, by omega⟩ ⟨by omega, by omega⟩ (show (x644_6 : Int32).toInt = tLa (fa 12 14) (fa 12 16) a b ((v683 : Int32).toInt).toNat from (by have hc := la_step (sc := fa 12 14) (dy := fa 12 16) (s := a) (d := b) (t := x644_6) (t' := v683) (x := v667) (y := v670) (by omega) (by omega) ev667 ev670; have hq9 := hq645_0; rw [hc]; split <;> omega)) (show (x644_6 : Int32).toInt = tFi (fa 12 14) (fa 12 16) a b ((v683 : Int32).toInt).toNat from (by have hc := fi_step (sc := fa 12 14) (dy := fa 12 16) (s := a) (d := b) (t := x644_6) (t' := v683) (x := v667) (y := v670) (by omega) (by omega) ev667 ev670; have hq9 := hq645_1; rw [hc]; split <;> (try split) <;> omega)) (show (v683 : Int32).toInt ≤ ((iv 12 13) : Int32).toInt from by omega) (by omega) ls (lv_sub hl [0, 1, 2, 3, 4, 5, 6] rfl)
  have : (0 : Int32).toInt = 0 := (by decide)
  have : ((-1) : Int32).toInt = (-1) := (by decide)
  have i_12_13 : 0 ≤ (iv 12 13).toInt ∧ (iv 12 13).toInt ≤ 30 := hI.1 12 13
  exact lp645 31 0 (-1) (-1) ⟨by decide, by decide⟩ ⟨by decide, by decide⟩ ⟨by decide, by decide⟩ (show ((-1) : Int32).toInt = tLa (fa 12 14) (fa 12 16) a b ((0 : Int32).toInt).toNat from by show _ = (-1 : Int); omega) (show ((-1) : Int32).toInt = tFi (fa 12 14) (fa 12 16) a b ((0 : Int32).toInt).toNat from by show _ = (-1 : Int); omega) (show (0 : Int32).toInt ≤ ((iv 12 13) : Int32).toInt from by omega) (by first | decide | omega) ls (lv_sub hl [0, 1, 2, 3, 4, 5, 6] rfl)
set_option maxHeartbeats 4000000 in
set_option maxRecDepth 100000 in
/-- X12_errorOf -/
theorem c_X12_errorOf_x1 (l : Launch) (dC : Nat → ClassId) (dI : Nat → Nat → Nat) (h : Nat) (g : Nat → Nat → Nat) (ca : Nat → Nat → ClassId) (iv : Nat → Nat → Int32) (lv : Nat → Nat → Int64) (fa : Nat → Nat → Nat → Int32) (la : Nat → Nat → Nat → Int64) (hI : IX iv fa) (a : Int32) (b : Int32) : Met l yX12_errorOf (wc yX12_errorOf cX12_errorOf 8 (some .int)) ({ frames := 0, cells := 0, slots := 0, locals := 0 } : Room) (pR (dC, dI) classes (WM h g ca iv lv fa la) (TM ca) [.ref h, .int a, .int b, .int 1]) (vp_Si (fun r => (True) ∧ (r.toInt = er1 (fa 12 15) (tLa (fa 12 14) (fa 12 16) a b ((iv 12 13).toInt).toNat) (tFi (fa 12 14) (fa 12 16) a b ((iv 12 13).toInt).toNat)))) 0 0 (fun _ => False) := by
  refine Met.ofW (cc := cX12_errorOf) (maxL := 8) (ret := (some .int)) (by decide) rfl ?_
  intro p e s m args below meth c s₁ B hml hv
  obtain ⟨rfl, hP, hK⟩ := hv
  have hx := B.exec
  have hb := B.bytes
  have hr := B.returns
  have ht := tb_tl (atoms_spec (ws := wc yX12_errorOf cX12_errorOf 8 (some .int)) B.pre)
  have hown : s.vm.findClass RX12 = some m.cls := findClass_of_methodNamed B.named
  have hlocks := B.notSynchronized
  have hl := lv_entry [.ref h, .int a, .int b, .int 1] (n := 8) (Nat.le_of_ble_eq_true rfl)
  rw [lg_entry_eq]
  generalize (lg_sl [.ref h, .int a, .int b, .int 1] ++ List.replicate (8 - (lg_sl [.ref h, .int a, .int b, .int 1]).length) Slot.unset).toArray = ls at hl ⊢
  have hl : lv_has ls 8 [(0, .ref h), (1, .int a), (2, .int b), (3, .int 1)] := hl
  refine lv_iconst (v := (-1)) hx hb dX12_errorOf_0 (by decide) ?_
  refine lv_istore (lv' := [(4, .int (-1)), (0, .ref h), (1, .int a), (2, .int b), (3, .int 1)]) hx hb dX12_errorOf_1 hl (by decide) rfl (fun ls hl => ?_)
  refine lv_iconst (v := (-1)) hx hb dX12_errorOf_3 (by decide) ?_
  refine lv_istore (lv' := [(5, .int (-1)), (4, .int (-1)), (0, .ref h), (1, .int a), (2, .int b), (3, .int 1)]) hx hb dX12_errorOf_4 hl (by decide) rfl (fun ls hl => ?_)
  refine lv_iconst (v := 0) hx hb dX12_errorOf_6 (by decide) ?_
  refine lv_istore (lv' := [(6, .int 0), (5, .int (-1)), (4, .int (-1)), (0, .ref h), (1, .int a), (2, .int b), (3, .int 1)]) hx hb dX12_errorOf_7 hl (by decide) rfl (fun ls hl => ?_)
  have i_12_13 : 0 ≤ (iv 12 13).toInt ∧ (iv 12 13).toInt ≤ 30 := hI.1 12 13
  have lp645 : ∀ (nn645 : Nat) (x644_6 : Int32) (x644_5 : Int32) (x644_4 : Int32), 0 ≤ x644_6.toInt ∧ x644_6.toInt ≤ 30 → (-1) ≤ x644_5.toInt ∧ x644_5.toInt ≤ 29 → (-1) ≤ x644_4.toInt ∧ x644_4.toInt ≤ 29 → ((x644_4 : Int32).toInt = tLa (fa 12 14) (fa 12 16) a b ((x644_6 : Int32).toInt).toNat) → ((x644_5 : Int32).toInt = tFi (fa 12 14) (fa 12 16) a b ((x644_6 : Int32).toInt).toNat) → (x644_6 : Int32).toInt ≤ ((iv 12 13) : Int32).toInt → 30 - x644_6.toInt < (nn645 : Int) → ∀ (ls : Array Slot), lv_has ls 8 [(6, .int x644_6), (5, .int x644_5), (4, .int x644_4), (0, .ref h), (1, .int a), (2, .int b), (3, .int 1)] → W p l e ({ frames := 0, cells := 0, slots := 0, locals := 0 } : Room) s m ([.ref h, .int a, .int b, .int 1] : List Value).toArray below meth c s.heap [] 0 0 (MQ below (vp_Si (fun r => (True) ∧ (r.toInt = er1 (fa 12 15) (tLa (fa 12 14) (fa 12 16) a b ((iv 12 13).toInt).toNat) (tFi (fa 12 14) (fa 12 16) a b ((iv 12 13).toInt).toNat)))) ([.ref h, .int a, .int b, .int 1] : List Value).toArray s 0 0 (fun _ => False)) (F0 m 9 ls []) := by
    intro nn645
    induction nn645 with
    | zero => intro x644_6 x644_5 x644_4 hx644_6 hx644_5 hx644_4 hq645_0 hq645_1 hq645_2 hm645; exfalso; omega
    | succ nn645 ih645 =>
      intro x644_6 x644_5 x644_4 hx644_6 hx644_5 hx644_4 hq645_0 hq645_1 hq645_2 hm645 ls hl
      refine lv_iload hx hb dX12_errorOf_9 (lv_at hl 0 rfl) ?_
      refine lv_aload_n hx hb dX12_errorOf_11 rfl (lv_at hl 3 rfl) ?_
      refine gM_12_13 hx hb ht hown hK hP m_1152 (v := (iv 12 13)) rfl dX12_errorOf_12 ?_
      refine lv_icmp_ge (tgt := 80) hx hb dX12_errorOf_15 (by decide) (fun c646 => ?_) (fun c646 => ?_)
      · have fc646 := z_le (rfl : ((iv 12 13)).toInt = _) (rfl : (x644_6).toInt = _) c646
        refine lv_iload hx hb dX12_errorOf_80 (lv_at hl 2 rfl) ?_
        refine lv_if_ge (tgt := 92) hx hb dX12_errorOf_82 (by decide) (fun c647 => ?_) (fun c647 => ?_)
        · have fc647 := z_le (by decide : (0 : Int32).toInt = 0) (rfl : (x644_4).toInt = _) c647
          refine lv_aload_n hx hb dX12_errorOf_92 rfl (lv_at hl 3 rfl) ?_
          refine gM_12_15 hx hb ht hown hK hP m_1154 dX12_errorOf_93 ?_
          refine lv_iload hx hb dX12_errorOf_96 (lv_at hl 2 rfl) ?_
          refine lv_if_ge (tgt := 106) hx hb dX12_errorOf_98 (by decide) (fun c648 => ?_) (fun c648 => ?_)
          · skip
            refine lv_iload hx hb dX12_errorOf_106 (lv_at hl 2 rfl) ?_
            refine lM_12_15 hx hb hK hP (f := (fa 12 15)) rfl (vp_in_iff.mpr ⟨by omega, by omega⟩) dX12_errorOf_108 ?_
            refine lv_topi (fun v649 ev649 => ?_)
            refine lv_istore (lv' := [(6, .int v649), (5, .int x644_5), (4, .int x644_4), (0, .ref h), (1, .int a), (2, .int b), (3, .int 1)]) hx hb dX12_errorOf_109 hl (by decide) rfl (fun ls hl => ?_)
            refine lv_aload_n hx hb dX12_errorOf_111 rfl (lv_at hl 3 rfl) ?_
            refine gM_12_15 hx hb ht hown hK hP m_1154 dX12_errorOf_112 ?_
            refine lv_iload hx hb dX12_errorOf_115 (lv_at hl 1 rfl) ?_
            refine lv_if_ge (tgt := 125) hx hb dX12_errorOf_117 (by decide) (fun c650 => ?_) (fun c650 => ?_)
            · have fc650 := z_le (by decide : (0 : Int32).toInt = 0) (rfl : (x644_5).toInt = _) c650
              refine lv_iload hx hb dX12_errorOf_125 (lv_at hl 1 rfl) ?_
              refine lM_12_15 hx hb hK hP (f := (fa 12 15)) rfl (vp_in_iff.mpr ⟨by omega, by omega⟩) dX12_errorOf_127 ?_
              refine lv_topi (fun v651 ev651 => ?_)
              refine lv_istore (lv' := [(7, .int v651), (6, .int v649), (5, .int x644_5), (4, .int x644_4), (0, .ref h), (1, .int a), (2, .int b), (3, .int 1)]) hx hb dX12_errorOf_128 hl (by decide) rfl (fun ls hl => ?_)
              refine lv_iload_n hx hb dX12_errorOf_130 rfl (lv_at hl 7 rfl) ?_
              refine lv_iload hx hb dX12_errorOf_131 (lv_at hl 1 rfl) ?_
              refine lv_iload hx hb dX12_errorOf_133 (lv_at hl 0 rfl) ?_
              refine lv_icmp_le (tgt := 142) hx hb dX12_errorOf_135 (by decide) (fun c652 => ?_) (fun c652 => ?_)
              · have fc652 := z_le (rfl : (v649).toInt = _) (rfl : (v651).toInt = _) c652
                refine lv_iconst (v := 0) hx hb dX12_errorOf_142 (by decide) ?_
                refine lv_icmp_ne (tgt := 151) hx hb dX12_errorOf_143 (by decide) (fun c653 => ?_) (fun c653 => ?_)
                · skip
                  refine lv_iload hx hb dX12_errorOf_151 (lv_at hl 0 rfl) ?_
                  exact W.iret (v := v651) hx hb hr (fun t ht9 hW => ⟨v651, rfl, ⟨trivial, (show (v651 : Int32).toInt = er1 (fa 12 15) (tLa (fa 12 14) (fa 12 16) a b (((iv 12 13) : Int32).toInt).toNat) (tFi (fa 12 14) (fa 12 16) a b (((iv 12 13) : Int32).toInt).toNat) from (by
                          have ha9 := hq645_0
                          have hb9 := hq645_1
                          have he9 : (x644_6 : Int32).toInt = (iv 12 13).toInt := (by omega)
                          rw [he9] at ha9 hb9
                          have := congrArg Int32.toInt (show v649 = fa 12 15 ((x644_4 : Int32).toInt).toNat from ev649)
                          have := congrArg Int32.toInt (show v651 = fa 12 15 ((x644_5 : Int32).toInt).toNat from ev651)
                          rw [← ha9, ← hb9]; unfold er1
                          split
                          · omega
                          · split
                            · omega
                            · split
                              · omega
                              · omega))⟩, ht9⟩) (fun q hq => by cases hq) dX12_errorOf_153
                · exact absurd c653 (by decide)
              · have fc652 := z_nle (rfl : (v649).toInt = _) (rfl : (v651).toInt = _) c652
                refine lv_iconst (v := 1) hx hb dX12_errorOf_138 (by decide) ?_
                refine lv_goto (tgt := 143) hx hb dX12_errorOf_139 (by decide) ?_
                refine lv_icmp_ne (tgt := 151) hx hb dX12_errorOf_143 (by decide) (fun c654 => ?_) (fun c654 => ?_)
                · exact absurd rfl c654
                · skip
                  refine lv_iload hx hb dX12_errorOf_146 (lv_at hl 1 rfl) ?_
                  refine lv_goto (tgt := 153) hx hb dX12_errorOf_148 (by decide) ?_
                  exact W.iret (v := v649) hx hb hr (fun t ht9 hW => ⟨v649, rfl, ⟨trivial, (show (v649 : Int32).toInt = er1 (fa 12 15) (tLa (fa 12 14) (fa 12 16) a b (((iv 12 13) : Int32).toInt).toNat) (tFi (fa 12 14) (fa 12 16) a b (((iv 12 13) : Int32).toInt).toNat) from (by
                          have ha9 := hq645_0
                          have hb9 := hq645_1
                          have he9 : (x644_6 : Int32).toInt = (iv 12 13).toInt := (by omega)
                          rw [he9] at ha9 hb9
                          have := congrArg Int32.toInt (show v649 = fa 12 15 ((x644_4 : Int32).toInt).toNat from ev649)
                          have := congrArg Int32.toInt (show v651 = fa 12 15 ((x644_5 : Int32).toInt).toNat from ev651)
                          rw [← ha9, ← hb9]; unfold er1
                          split
                          · omega
                          · split
                            · omega
                            · split
                              · omega
                              · omega))⟩, ht9⟩) (fun q hq => by cases hq) dX12_errorOf_153
            · have fc650 := z_nle (by decide : (0 : Int32).toInt = 0) (rfl : (x644_5).toInt = _) c650
              refine lv_iload hx hb dX12_errorOf_120 (lv_at hl 2 rfl) ?_
              refine lv_goto (tgt := 127) hx hb dX12_errorOf_122 (by decide) ?_
              refine lM_12_15 hx hb hK hP (f := (fa 12 15)) rfl (vp_in_iff.mpr ⟨by omega, by omega⟩) dX12_errorOf_127 ?_
              refine lv_topi (fun v655 ev655 => ?_)
              obtain rfl : v649 = v655 := ev649.trans ev655.symm
              refine lv_istore (lv' := [(7, .int v649), (6, .int v649), (5, .int x644_5), (4, .int x644_4), (0, .ref h), (1, .int a), (2, .int b), (3, .int 1)]) hx hb dX12_errorOf_128 hl (by decide) rfl (fun ls hl => ?_)
              refine lv_iload_n hx hb dX12_errorOf_130 rfl (lv_at hl 7 rfl) ?_
              refine lv_iload hx hb dX12_errorOf_131 (lv_at hl 1 rfl) ?_
              refine lv_iload hx hb dX12_errorOf_133 (lv_at hl 0 rfl) ?_
              refine lv_icmp_le (tgt := 142) hx hb dX12_errorOf_135 (by decide) (fun c656 => ?_) (fun c656 => ?_)
              · have fc656 := z_le (rfl : (v649).toInt = _) (rfl : (v649).toInt = _) c656
                refine lv_iconst (v := 0) hx hb dX12_errorOf_142 (by decide) ?_
                refine lv_icmp_ne (tgt := 151) hx hb dX12_errorOf_143 (by decide) (fun c657 => ?_) (fun c657 => ?_)
                · skip
                  refine lv_iload hx hb dX12_errorOf_151 (lv_at hl 0 rfl) ?_
                  exact W.iret (v := v649) hx hb hr (fun t ht9 hW => ⟨v649, rfl, ⟨trivial, (show (v649 : Int32).toInt = er1 (fa 12 15) (tLa (fa 12 14) (fa 12 16) a b (((iv 12 13) : Int32).toInt).toNat) (tFi (fa 12 14) (fa 12 16) a b (((iv 12 13) : Int32).toInt).toNat) from (by
                          have ha9 := hq645_0
                          have hb9 := hq645_1
                          have he9 : (x644_6 : Int32).toInt = (iv 12 13).toInt := (by omega)
                          rw [he9] at ha9 hb9
                          have := congrArg Int32.toInt (show v649 = fa 12 15 ((x644_4 : Int32).toInt).toNat from ev649)
                          rw [← ha9, ← hb9]; unfold er1
                          split
                          · omega
                          · split
                            · omega
                            · split
                              · omega
                              · omega))⟩, ht9⟩) (fun q hq => by cases hq) dX12_errorOf_153
                · exact absurd c657 (by decide)
              · have fc656 := z_nle (rfl : (v649).toInt = _) (rfl : (v649).toInt = _) c656
                refine lv_iconst (v := 1) hx hb dX12_errorOf_138 (by decide) ?_
                refine lv_goto (tgt := 143) hx hb dX12_errorOf_139 (by decide) ?_
                refine lv_icmp_ne (tgt := 151) hx hb dX12_errorOf_143 (by decide) (fun c658 => ?_) (fun c658 => ?_)
                · exact absurd rfl c658
                · skip
                  refine lv_iload hx hb dX12_errorOf_146 (lv_at hl 1 rfl) ?_
                  refine lv_goto (tgt := 153) hx hb dX12_errorOf_148 (by decide) ?_
                  exact W.iret (v := v649) hx hb hr (fun t ht9 hW => ⟨v649, rfl, ⟨trivial, (show (v649 : Int32).toInt = er1 (fa 12 15) (tLa (fa 12 14) (fa 12 16) a b (((iv 12 13) : Int32).toInt).toNat) (tFi (fa 12 14) (fa 12 16) a b (((iv 12 13) : Int32).toInt).toNat) from (by
                          have ha9 := hq645_0
                          have hb9 := hq645_1
                          have he9 : (x644_6 : Int32).toInt = (iv 12 13).toInt := (by omega)
                          rw [he9] at ha9 hb9
                          have := congrArg Int32.toInt (show v649 = fa 12 15 ((x644_4 : Int32).toInt).toNat from ev649)
                          rw [← ha9, ← hb9]; unfold er1
                          split
                          · omega
                          · split
                            · omega
                            · split
                              · omega
                              · omega))⟩, ht9⟩) (fun q hq => by cases hq) dX12_errorOf_153
          · have fc648 := z_nle (by decide : (0 : Int32).toInt = 0) (rfl : (x644_4).toInt = _) c648; exfalso; omega
        · have fc647 := z_nle (by decide : (0 : Int32).toInt = 0) (rfl : (x644_4).toInt = _) c647
          refine lv_iload hx hb dX12_errorOf_85 (lv_at hl 1 rfl) ?_
          refine lv_if_ge (tgt := 92) hx hb dX12_errorOf_87 (by decide) (fun c659 => ?_) (fun c659 => ?_)
          · have fc659 := z_le (by decide : (0 : Int32).toInt = 0) (rfl : (x644_5).toInt = _) c659
            refine lv_aload_n hx hb dX12_errorOf_92 rfl (lv_at hl 3 rfl) ?_
            refine gM_12_15 hx hb ht hown hK hP m_1154 dX12_errorOf_93 ?_
            refine lv_iload hx hb dX12_errorOf_96 (lv_at hl 2 rfl) ?_
            refine lv_if_ge (tgt := 106) hx hb dX12_errorOf_98 (by decide) (fun c660 => ?_) (fun c660 => ?_)
            · have fc660 := z_le (by decide : (0 : Int32).toInt = 0) (rfl : (x644_4).toInt = _) c660; exfalso; omega
            · skip
              refine lv_iload hx hb dX12_errorOf_101 (lv_at hl 1 rfl) ?_
              refine lv_goto (tgt := 108) hx hb dX12_errorOf_103 (by decide) ?_
              refine lM_12_15 hx hb hK hP (f := (fa 12 15)) rfl (vp_in_iff.mpr ⟨by omega, by omega⟩) dX12_errorOf_108 ?_
              refine lv_topi (fun v661 ev661 => ?_)
              refine lv_istore (lv' := [(6, .int v661), (5, .int x644_5), (4, .int x644_4), (0, .ref h), (1, .int a), (2, .int b), (3, .int 1)]) hx hb dX12_errorOf_109 hl (by decide) rfl (fun ls hl => ?_)
              refine lv_aload_n hx hb dX12_errorOf_111 rfl (lv_at hl 3 rfl) ?_
              refine gM_12_15 hx hb ht hown hK hP m_1154 dX12_errorOf_112 ?_
              refine lv_iload hx hb dX12_errorOf_115 (lv_at hl 1 rfl) ?_
              refine lv_if_ge (tgt := 125) hx hb dX12_errorOf_117 (by decide) (fun c662 => ?_) (fun c662 => ?_)
              · skip
                refine lv_iload hx hb dX12_errorOf_125 (lv_at hl 1 rfl) ?_
                refine lM_12_15 hx hb hK hP (f := (fa 12 15)) rfl (vp_in_iff.mpr ⟨by omega, by omega⟩) dX12_errorOf_127 ?_
                refine lv_topi (fun v663 ev663 => ?_)
                obtain rfl : v661 = v663 := ev661.trans ev663.symm
                refine lv_istore (lv' := [(7, .int v661), (6, .int v661), (5, .int x644_5), (4, .int x644_4), (0, .ref h), (1, .int a), (2, .int b), (3, .int 1)]) hx hb dX12_errorOf_128 hl (by decide) rfl (fun ls hl => ?_)
                refine lv_iload_n hx hb dX12_errorOf_130 rfl (lv_at hl 7 rfl) ?_
                refine lv_iload hx hb dX12_errorOf_131 (lv_at hl 1 rfl) ?_
                refine lv_iload hx hb dX12_errorOf_133 (lv_at hl 0 rfl) ?_
                refine lv_icmp_le (tgt := 142) hx hb dX12_errorOf_135 (by decide) (fun c664 => ?_) (fun c664 => ?_)
                · have fc664 := z_le (rfl : (v661).toInt = _) (rfl : (v661).toInt = _) c664
                  refine lv_iconst (v := 0) hx hb dX12_errorOf_142 (by decide) ?_
                  refine lv_icmp_ne (tgt := 151) hx hb dX12_errorOf_143 (by decide) (fun c665 => ?_) (fun c665 => ?_)
                  · skip
                    refine lv_iload hx hb dX12_errorOf_151 (lv_at hl 0 rfl) ?_
                    exact W.iret (v := v661) hx hb hr (fun t ht9 hW => ⟨v661, rfl, ⟨trivial, (show (v661 : Int32).toInt = er1 (fa 12 15) (tLa (fa 12 14) (fa 12 16) a b (((iv 12 13) : Int32).toInt).toNat) (tFi (fa 12 14) (fa 12 16) a b (((iv 12 13) : Int32).toInt).toNat) from (by
                            have ha9 := hq645_0
                            have hb9 := hq645_1
                            have he9 : (x644_6 : Int32).toInt = (iv 12 13).toInt := (by omega)
                            rw [he9] at ha9 hb9
                            have := congrArg Int32.toInt (show v661 = fa 12 15 ((x644_5 : Int32).toInt).toNat from ev661)
                            rw [← ha9, ← hb9]; unfold er1
                            split
                            · omega
                            · split
                              · omega
                              · split
                                · omega
                                · omega))⟩, ht9⟩) (fun q hq => by cases hq) dX12_errorOf_153
                  · exact absurd c665 (by decide)
                · have fc664 := z_nle (rfl : (v661).toInt = _) (rfl : (v661).toInt = _) c664
                  refine lv_iconst (v := 1) hx hb dX12_errorOf_138 (by decide) ?_
                  refine lv_goto (tgt := 143) hx hb dX12_errorOf_139 (by decide) ?_
                  refine lv_icmp_ne (tgt := 151) hx hb dX12_errorOf_143 (by decide) (fun c666 => ?_) (fun c666 => ?_)
                  · exact absurd rfl c666
                  · skip
                    refine lv_iload hx hb dX12_errorOf_146 (lv_at hl 1 rfl) ?_
                    refine lv_goto (tgt := 153) hx hb dX12_errorOf_148 (by decide) ?_
                    exact W.iret (v := v661) hx hb hr (fun t ht9 hW => ⟨v661, rfl, ⟨trivial, (show (v661 : Int32).toInt = er1 (fa 12 15) (tLa (fa 12 14) (fa 12 16) a b (((iv 12 13) : Int32).toInt).toNat) (tFi (fa 12 14) (fa 12 16) a b (((iv 12 13) : Int32).toInt).toNat) from (by
                            have ha9 := hq645_0
                            have hb9 := hq645_1
                            have he9 : (x644_6 : Int32).toInt = (iv 12 13).toInt := (by omega)
                            rw [he9] at ha9 hb9
                            have := congrArg Int32.toInt (show v661 = fa 12 15 ((x644_5 : Int32).toInt).toNat from ev661)
                            rw [← ha9, ← hb9]; unfold er1
                            split
                            · omega
                            · split
                              · omega
                              · split
                                · omega
                                · omega))⟩, ht9⟩) (fun q hq => by cases hq) dX12_errorOf_153
              · have fc662 := z_nle (by decide : (0 : Int32).toInt = 0) (rfl : (x644_5).toInt = _) c662; exfalso; omega
          · have fc659 := z_nle (by decide : (0 : Int32).toInt = 0) (rfl : (x644_5).toInt = _) c659
            refine lv_iconst (v := 0) hx hb dX12_errorOf_90 (by decide) ?_
            have : (0 : Int32).toInt = 0 := (by decide)
            exact W.iret (v := 0) hx hb hr (fun t ht9 hW => ⟨0, rfl, ⟨trivial, (show (0 : Int32).toInt = er1 (fa 12 15) (tLa (fa 12 14) (fa 12 16) a b (((iv 12 13) : Int32).toInt).toNat) (tFi (fa 12 14) (fa 12 16) a b (((iv 12 13) : Int32).toInt).toNat) from (by
                    have ha9 := hq645_0
                    have hb9 := hq645_1
                    have he9 : (x644_6 : Int32).toInt = (iv 12 13).toInt := (by omega)
                    rw [he9] at ha9 hb9
                    rw [← ha9, ← hb9]; unfold er1
                    split
                    · omega
                    · split
                      · omega
                      · split
                        · omega
                        · omega))⟩, ht9⟩) (fun q hq => by cases hq) dX12_errorOf_91
      · have fc646 := z_nle (rfl : ((iv 12 13)).toInt = _) (rfl : (x644_6).toInt = _) c646
        refine lv_aload_n hx hb dX12_errorOf_18 rfl (lv_at hl 3 rfl) ?_
        refine gM_12_14 hx hb ht hown hK hP m_1153 dX12_errorOf_19 ?_
        refine lv_iload hx hb dX12_errorOf_22 (lv_at hl 0 rfl) ?_
        refine lM_12_14 hx hb hK hP (f := (fa 12 14)) rfl (vp_in_iff.mpr ⟨by omega, by omega⟩) dX12_errorOf_24 ?_
        refine lv_topi (fun v667 ev667 => ?_)
        refine lv_iload_n hx hb dX12_errorOf_25 rfl (lv_at hl 4 rfl) ?_
        refine lv_icmp_ne (tgt := 74) hx hb dX12_errorOf_26 (by decide) (fun c668 => ?_) (fun c668 => ?_)
        · have fc668 := z_ne (rfl : (v667).toInt = _) (rfl : (a).toInt = _) c668
          obtain ⟨v669, ev669⟩ : ∃ y : Int32, y = x644_6 + 1 := ⟨_, rfl⟩
          have tv669 := z_add ev669 rfl (by decide : (1 : Int32).toInt = 1) (by omega) (by omega)
          refine lv_iinc (v := v669) (lv' := [(6, .int v669), (5, .int x644_5), (4, .int x644_4), (0, .ref h), (1, .int a), (2, .int b), (3, .int 1)]) hx hb dX12_errorOf_74 hl (k := 0) rfl (by rw [ev669]; rfl) (by decide) rfl (fun ls hl => ?_)
          refine lv_goto (tgt := 9) hx hb dX12_errorOf_77 (by decide) ?_
          exact ih645 v669 x644_5 x644_4 ⟨by omega, by omega⟩ ⟨by omega, by omega⟩ ⟨by omega, by omega⟩ (show (x644_4 : Int32).toInt = tLa (fa 12 14) (fa 12 16) a b ((v669 : Int32).toInt).toNat from (by have hc := la_step (sc := fa 12 14) (dy := fa 12 16) (s := a) (d := b) (t := x644_6) (t' := v669) (x := v667) (y := fa 12 16 (x644_6 : Int32).toNatClampNeg) (by omega) (by omega) ev667 rfl; have hq9 := hq645_0; rw [hc]; split <;> omega)) (show (x644_5 : Int32).toInt = tFi (fa 12 14) (fa 12 16) a b ((v669 : Int32).toInt).toNat from (by have hc := fi_step (sc := fa 12 14) (dy := fa 12 16) (s := a) (d := b) (t := x644_6) (t' := v669) (x := v667) (y := fa 12 16 (x644_6 : Int32).toNatClampNeg) (by omega) (by omega) ev667 rfl; have hq9 := hq645_1; rw [hc]; split <;> (try split) <;> omega)) (show (v669 : Int32).toInt ≤ ((iv 12 13) : Int32).toInt from by omega) (by omega) ls (lv_sub hl [0, 1, 2, 3, 4, 5, 6] rfl)
        · have fc668 := z_eq (rfl : (v667).toInt = _) (rfl : (a).toInt = _) c668
          refine lv_aload_n hx hb dX12_errorOf_29 rfl (lv_at hl 3 rfl) ?_
          refine gM_12_16 hx hb ht hown hK hP m_1155 dX12_errorOf_30 ?_
          refine lv_iload hx hb dX12_errorOf_33 (lv_at hl 0 rfl) ?_
          refine lM_12_16 hx hb hK hP (f := (fa 12 16)) rfl (vp_in_iff.mpr ⟨by omega, by omega⟩) dX12_errorOf_35 ?_
          refine lv_topi (fun v670 ev670 => ?_)
          refine lv_iload_n hx hb dX12_errorOf_36 rfl (lv_at hl 5 rfl) ?_
          refine lv_icmp_gt (tgt := 45) hx hb dX12_errorOf_37 (by decide) (fun c671 => ?_) (fun c671 => ?_)
          · have fc671 := z_lt (rfl : (b).toInt = _) (rfl : (v670).toInt = _) c671
            refine lv_iload hx hb dX12_errorOf_45 (lv_at hl 2 rfl) ?_
            refine lv_istore (lv' := [(4, .int x644_4), (6, .int x644_6), (5, .int x644_5), (0, .ref h), (1, .int a), (2, .int b), (3, .int 1)]) hx hb dX12_errorOf_47 hl (by decide) rfl (fun ls hl => ?_)
            refine lv_aload_n hx hb dX12_errorOf_49 rfl (lv_at hl 3 rfl) ?_
            refine gM_12_16 hx hb ht hown hK hP m_1155 dX12_errorOf_50 ?_
            refine lv_iload hx hb dX12_errorOf_53 (lv_at hl 1 rfl) ?_
            refine lM_12_16 hx hb hK hP (f := (fa 12 16)) rfl (vp_in_iff.mpr ⟨by omega, by omega⟩) dX12_errorOf_55 ?_
            refine lv_topi (fun v672 ev672 => ?_)
            obtain rfl : v670 = v672 := ev670.trans ev672.symm
            refine lv_iload_n hx hb dX12_errorOf_56 rfl (lv_at hl 5 rfl) ?_
            refine lv_icmp_le (tgt := 70) hx hb dX12_errorOf_57 (by decide) (fun c673 => ?_) (fun c673 => ?_)
            · have fc673 := z_le (rfl : (v670).toInt = _) (rfl : (b).toInt = _) c673
              refine lv_iload hx hb dX12_errorOf_70 (lv_at hl 2 rfl) ?_
              refine lv_istore (lv' := [(5, .int x644_5), (4, .int x644_4), (6, .int x644_6), (0, .ref h), (1, .int a), (2, .int b), (3, .int 1)]) hx hb dX12_errorOf_72 hl (by decide) rfl (fun ls hl => ?_)
              obtain ⟨v674, ev674⟩ : ∃ y : Int32, y = x644_6 + 1 := ⟨_, rfl⟩
              have tv674 := z_add ev674 rfl (by decide : (1 : Int32).toInt = 1) (by omega) (by omega)
              refine lv_iinc (v := v674) (lv' := [(6, .int v674), (5, .int x644_5), (4, .int x644_4), (0, .ref h), (1, .int a), (2, .int b), (3, .int 1)]) hx hb dX12_errorOf_74 hl (k := 2) rfl (by rw [ev674]; rfl) (by decide) rfl (fun ls hl => ?_)
              refine lv_goto (tgt := 9) hx hb dX12_errorOf_77 (by decide) ?_
              exact ih645 v674 x644_5 x644_4 ⟨by omega, by omega⟩ ⟨by omega, by omega⟩ ⟨by omega, by omega⟩ (show (x644_4 : Int32).toInt = tLa (fa 12 14) (fa 12 16) a b ((v674 : Int32).toInt).toNat from (by have hc := la_step (sc := fa 12 14) (dy := fa 12 16) (s := a) (d := b) (t := x644_6) (t' := v674) (x := v667) (y := v670) (by omega) (by omega) ev667 ev670; have hq9 := hq645_0; rw [hc]; split <;> omega)) (show (x644_5 : Int32).toInt = tFi (fa 12 14) (fa 12 16) a b ((v674 : Int32).toInt).toNat from (by have hc := fi_step (sc := fa 12 14) (dy := fa 12 16) (s := a) (d := b) (t := x644_6) (t' := v674) (x := v667) (y := v670) (by omega) (by omega) ev667 ev670; have hq9 := hq645_1; rw [hc]; split <;> (try split) <;> omega)) (show (v674 : Int32).toInt ≤ ((iv 12 13) : Int32).toInt from by omega) (by omega) ls (lv_sub hl [0, 1, 2, 3, 4, 5, 6] rfl)
            · have fc673 := z_nle (rfl : (v670).toInt = _) (rfl : (b).toInt = _) c673
              refine lv_iload hx hb dX12_errorOf_60 (lv_at hl 2 rfl) ?_
              refine lv_if_ge (tgt := 70) hx hb dX12_errorOf_62 (by decide) (fun c675 => ?_) (fun c675 => ?_)
              · have fc675 := z_le (by decide : (0 : Int32).toInt = 0) (rfl : (x644_5).toInt = _) c675
                refine lv_iload hx hb dX12_errorOf_70 (lv_at hl 2 rfl) ?_
                refine lv_istore (lv' := [(5, .int x644_5), (4, .int x644_4), (6, .int x644_6), (0, .ref h), (1, .int a), (2, .int b), (3, .int 1)]) hx hb dX12_errorOf_72 hl (by decide) rfl (fun ls hl => ?_)
                obtain ⟨v676, ev676⟩ : ∃ y : Int32, y = x644_6 + 1 := ⟨_, rfl⟩
                have tv676 := z_add ev676 rfl (by decide : (1 : Int32).toInt = 1) (by omega) (by omega)
                refine lv_iinc (v := v676) (lv' := [(6, .int v676), (5, .int x644_5), (4, .int x644_4), (0, .ref h), (1, .int a), (2, .int b), (3, .int 1)]) hx hb dX12_errorOf_74 hl (k := 2) rfl (by rw [ev676]; rfl) (by decide) rfl (fun ls hl => ?_)
                refine lv_goto (tgt := 9) hx hb dX12_errorOf_77 (by decide) ?_
                exact ih645 v676 x644_5 x644_4 ⟨by omega, by omega⟩ ⟨by omega, by omega⟩ ⟨by omega, by omega⟩ (show (x644_4 : Int32).toInt = tLa (fa 12 14) (fa 12 16) a b ((v676 : Int32).toInt).toNat from (by have hc := la_step (sc := fa 12 14) (dy := fa 12 16) (s := a) (d := b) (t := x644_6) (t' := v676) (x := v667) (y := v670) (by omega) (by omega) ev667 ev670; have hq9 := hq645_0; rw [hc]; split <;> omega)) (show (x644_5 : Int32).toInt = tFi (fa 12 14) (fa 12 16) a b ((v676 : Int32).toInt).toNat from (by have hc := fi_step (sc := fa 12 14) (dy := fa 12 16) (s := a) (d := b) (t := x644_6) (t' := v676) (x := v667) (y := v670) (by omega) (by omega) ev667 ev670; have hq9 := hq645_1; rw [hc]; split <;> (try split) <;> omega)) (show (v676 : Int32).toInt ≤ ((iv 12 13) : Int32).toInt from by omega) (by omega) ls (lv_sub hl [0, 1, 2, 3, 4, 5, 6] rfl)
              · have fc675 := z_nle (by decide : (0 : Int32).toInt = 0) (rfl : (x644_5).toInt = _) c675
                refine lv_iload hx hb dX12_errorOf_65 (lv_at hl 1 rfl) ?_
                refine lv_goto (tgt := 72) hx hb dX12_errorOf_67 (by decide) ?_
                refine lv_istore (lv' := [(5, .int x644_6), (4, .int x644_4), (6, .int x644_6), (0, .ref h), (1, .int a), (2, .int b), (3, .int 1)]) hx hb dX12_errorOf_72 hl (by decide) rfl (fun ls hl => ?_)
                obtain ⟨v677, ev677⟩ : ∃ y : Int32, y = x644_6 + 1 := ⟨_, rfl⟩
                have tv677 := z_add ev677 rfl (by decide : (1 : Int32).toInt = 1) (by omega) (by omega)
                refine lv_iinc (v := v677) (lv' := [(6, .int v677), (5, .int x644_6), (4, .int x644_4), (0, .ref h), (1, .int a), (2, .int b), (3, .int 1)]) hx hb dX12_errorOf_74 hl (k := 2) rfl (by rw [ev677]; rfl) (by decide) rfl (fun ls hl => ?_)
                refine lv_goto (tgt := 9) hx hb dX12_errorOf_77 (by decide) ?_
                exact ih645 v677 x644_6 x644_4 ⟨by omega, by omega⟩ ⟨by omega, by omega⟩ ⟨by omega, by omega⟩ (show (x644_4 : Int32).toInt = tLa (fa 12 14) (fa 12 16) a b ((v677 : Int32).toInt).toNat from (by have hc := la_step (sc := fa 12 14) (dy := fa 12 16) (s := a) (d := b) (t := x644_6) (t' := v677) (x := v667) (y := v670) (by omega) (by omega) ev667 ev670; have hq9 := hq645_0; rw [hc]; split <;> omega)) (show (x644_6 : Int32).toInt = tFi (fa 12 14) (fa 12 16) a b ((v677 : Int32).toInt).toNat from (by have hc := fi_step (sc := fa 12 14) (dy := fa 12 16) (s := a) (d := b) (t := x644_6) (t' := v677) (x := v667) (y := v670) (by omega) (by omega) ev667 ev670; have hq9 := hq645_1; rw [hc]; split <;> (try split) <;> omega)) (show (v677 : Int32).toInt ≤ ((iv 12 13) : Int32).toInt from by omega) (by omega) ls (lv_sub hl [0, 1, 2, 3, 4, 5, 6] rfl)
          · have fc671 := z_nlt (rfl : (b).toInt = _) (rfl : (v670).toInt = _) c671
            refine lv_iload hx hb dX12_errorOf_40 (lv_at hl 0 rfl) ?_
            refine lv_goto (tgt := 47) hx hb dX12_errorOf_42 (by decide) ?_
            refine lv_istore (lv' := [(4, .int x644_6), (6, .int x644_6), (5, .int x644_5), (0, .ref h), (1, .int a), (2, .int b), (3, .int 1)]) hx hb dX12_errorOf_47 hl (by decide) rfl (fun ls hl => ?_)
            refine lv_aload_n hx hb dX12_errorOf_49 rfl (lv_at hl 3 rfl) ?_
            refine gM_12_16 hx hb ht hown hK hP m_1155 dX12_errorOf_50 ?_
            refine lv_iload hx hb dX12_errorOf_53 (lv_at hl 1 rfl) ?_
            refine lM_12_16 hx hb hK hP (f := (fa 12 16)) rfl (vp_in_iff.mpr ⟨by omega, by omega⟩) dX12_errorOf_55 ?_
            refine lv_topi (fun v678 ev678 => ?_)
            obtain rfl : v670 = v678 := ev670.trans ev678.symm
            refine lv_iload_n hx hb dX12_errorOf_56 rfl (lv_at hl 5 rfl) ?_
            refine lv_icmp_le (tgt := 70) hx hb dX12_errorOf_57 (by decide) (fun c679 => ?_) (fun c679 => ?_)
            · have fc679 := z_le (rfl : (v670).toInt = _) (rfl : (b).toInt = _) c679
              refine lv_iload hx hb dX12_errorOf_70 (lv_at hl 2 rfl) ?_
              refine lv_istore (lv' := [(5, .int x644_5), (4, .int x644_6), (6, .int x644_6), (0, .ref h), (1, .int a), (2, .int b), (3, .int 1)]) hx hb dX12_errorOf_72 hl (by decide) rfl (fun ls hl => ?_)
              obtain ⟨v680, ev680⟩ : ∃ y : Int32, y = x644_6 + 1 := ⟨_, rfl⟩
              have tv680 := z_add ev680 rfl (by decide : (1 : Int32).toInt = 1) (by omega) (by omega)
              refine lv_iinc (v := v680) (lv' := [(6, .int v680), (5, .int x644_5), (4, .int x644_6), (0, .ref h), (1, .int a), (2, .int b), (3, .int 1)]) hx hb dX12_errorOf_74 hl (k := 2) rfl (by rw [ev680]; rfl) (by decide) rfl (fun ls hl => ?_)
              refine lv_goto (tgt := 9) hx hb dX12_errorOf_77 (by decide) ?_
              exact ih645 v680 x644_5 x644_6 ⟨by omega, by omega⟩ ⟨by omega, by omega⟩ ⟨by omega, by omega⟩ (show (x644_6 : Int32).toInt = tLa (fa 12 14) (fa 12 16) a b ((v680 : Int32).toInt).toNat from (by have hc := la_step (sc := fa 12 14) (dy := fa 12 16) (s := a) (d := b) (t := x644_6) (t' := v680) (x := v667) (y := v670) (by omega) (by omega) ev667 ev670; have hq9 := hq645_0; rw [hc]; split <;> omega)) (show (x644_5 : Int32).toInt = tFi (fa 12 14) (fa 12 16) a b ((v680 : Int32).toInt).toNat from (by have hc := fi_step (sc := fa 12 14) (dy := fa 12 16) (s := a) (d := b) (t := x644_6) (t' := v680) (x := v667) (y := v670) (by omega) (by omega) ev667 ev670; have hq9 := hq645_1; rw [hc]; split <;> (try split) <;> omega)) (show (v680 : Int32).toInt ≤ ((iv 12 13) : Int32).toInt from by omega) (by omega) ls (lv_sub hl [0, 1, 2, 3, 4, 5, 6] rfl)
            · have fc679 := z_nle (rfl : (v670).toInt = _) (rfl : (b).toInt = _) c679
              refine lv_iload hx hb dX12_errorOf_60 (lv_at hl 2 rfl) ?_
              refine lv_if_ge (tgt := 70) hx hb dX12_errorOf_62 (by decide) (fun c681 => ?_) (fun c681 => ?_)
              · have fc681 := z_le (by decide : (0 : Int32).toInt = 0) (rfl : (x644_5).toInt = _) c681
                refine lv_iload hx hb dX12_errorOf_70 (lv_at hl 2 rfl) ?_
                refine lv_istore (lv' := [(5, .int x644_5), (4, .int x644_6), (6, .int x644_6), (0, .ref h), (1, .int a), (2, .int b), (3, .int 1)]) hx hb dX12_errorOf_72 hl (by decide) rfl (fun ls hl => ?_)
                obtain ⟨v682, ev682⟩ : ∃ y : Int32, y = x644_6 + 1 := ⟨_, rfl⟩
                have tv682 := z_add ev682 rfl (by decide : (1 : Int32).toInt = 1) (by omega) (by omega)
                refine lv_iinc (v := v682) (lv' := [(6, .int v682), (5, .int x644_5), (4, .int x644_6), (0, .ref h), (1, .int a), (2, .int b), (3, .int 1)]) hx hb dX12_errorOf_74 hl (k := 2) rfl (by rw [ev682]; rfl) (by decide) rfl (fun ls hl => ?_)
                refine lv_goto (tgt := 9) hx hb dX12_errorOf_77 (by decide) ?_
                exact ih645 v682 x644_5 x644_6 ⟨by omega, by omega⟩ ⟨by omega, by omega⟩ ⟨by omega, by omega⟩ (show (x644_6 : Int32).toInt = tLa (fa 12 14) (fa 12 16) a b ((v682 : Int32).toInt).toNat from (by have hc := la_step (sc := fa 12 14) (dy := fa 12 16) (s := a) (d := b) (t := x644_6) (t' := v682) (x := v667) (y := v670) (by omega) (by omega) ev667 ev670; have hq9 := hq645_0; rw [hc]; split <;> omega)) (show (x644_5 : Int32).toInt = tFi (fa 12 14) (fa 12 16) a b ((v682 : Int32).toInt).toNat from (by have hc := fi_step (sc := fa 12 14) (dy := fa 12 16) (s := a) (d := b) (t := x644_6) (t' := v682) (x := v667) (y := v670) (by omega) (by omega) ev667 ev670; have hq9 := hq645_1; rw [hc]; split <;> (try split) <;> omega)) (show (v682 : Int32).toInt ≤ ((iv 12 13) : Int32).toInt from by omega) (by omega) ls (lv_sub hl [0, 1, 2, 3, 4, 5, 6] rfl)
              · have fc681 := z_nle (by decide : (0 : Int32).toInt = 0) (rfl : (x644_5).toInt = _) c681
                refine lv_iload hx hb dX12_errorOf_65 (lv_at hl 1 rfl) ?_
                refine lv_goto (tgt := 72) hx hb dX12_errorOf_67 (by decide) ?_
                refine lv_istore (lv' := [(5, .int x644_6), (4, .int x644_6), (6, .int x644_6), (0, .ref h), (1, .int a), (2, .int b), (3, .int 1)]) hx hb dX12_errorOf_72 hl (by decide) rfl (fun ls hl => ?_)
                obtain ⟨v683, ev683⟩ : ∃ y : Int32, y = x644_6 + 1 := ⟨_, rfl⟩
                have tv683 := z_add ev683 rfl (by decide : (1 : Int32).toInt = 1) (by omega) (by omega)
                refine lv_iinc (v := v683) (lv' := [(6, .int v683), (5, .int x644_6), (4, .int x644_6), (0, .ref h), (1, .int a), (2, .int b), (3, .int 1)]) hx hb dX12_errorOf_74 hl (k := 2) rfl (by rw [ev683]; rfl) (by decide) rfl (fun ls hl => ?_)
                refine lv_goto (tgt := 9) hx hb dX12_errorOf_77 (by decide) ?_
                exact ih645 v683 x644_6 x644_6 ⟨by omega, by omega⟩ ⟨by omega, by omega⟩ ⟨by omega, by omega⟩ (show (x644_6 : Int32).toInt = tLa (fa 12 14) (fa 12 16) a b ((v683 : Int32).toInt).toNat from (by have hc := la_step (sc := fa 12 14) (dy := fa 12 16) (s := a) (d := b) (t := x644_6) (t' := v683) (x := v667) (y := v670) (by omega) (by omega) ev667 ev670; have hq9 := hq645_0; rw [hc]; split <;> omega)) (show (x644_6 : Int32).toInt = tFi (fa 12 14) (fa 12 16) a b ((v683 : Int32).toInt).toNat from (by have hc := fi_step (sc := fa 12 14) (dy := fa 12 16) (s := a) (d := b) (t := x644_6) (t' := v683) (x := v667) (y := v670) (by omega) (by omega) ev667 ev670; have hq9 := hq645_1; rw [hc]; split <;> (try split) <;> omega)) (show (v683 : Int32).toInt ≤ ((iv 12 13) : Int32).toInt from by omega) (by omega) ls (lv_sub hl [0, 1, 2, 3, 4, 5, 6] rfl)
  have : (0 : Int32).toInt = 0 := (by decide)
  have : ((-1) : Int32).toInt = (-1) := (by decide)
  have i_12_13 : 0 ≤ (iv 12 13).toInt ∧ (iv 12 13).toInt ≤ 30 := hI.1 12 13
  exact lp645 31 0 (-1) (-1) ⟨by decide, by decide⟩ ⟨by decide, by decide⟩ ⟨by decide, by decide⟩ (show ((-1) : Int32).toInt = tLa (fa 12 14) (fa 12 16) a b ((0 : Int32).toInt).toNat from by show _ = (-1 : Int); omega) (show ((-1) : Int32).toInt = tFi (fa 12 14) (fa 12 16) a b ((0 : Int32).toInt).toNat from by show _ = (-1 : Int); omega) (show (0 : Int32).toInt ≤ ((iv 12 13) : Int32).toInt from by omega) (by first | decide | omega) ls (lv_sub hl [0, 1, 2, 3, 4, 5, 6] rfl)
set_option maxHeartbeats 4000000 in
set_option maxRecDepth 100000 in
/-- X12_error -/
theorem c_X12_error_x (l : Launch) (dC : Nat → ClassId) (dI : Nat → Nat → Nat) (h : Nat) (g : Nat → Nat → Nat) (ca : Nat → Nat → ClassId) (iv : Nat → Nat → Int32) (lv : Nat → Nat → Int64) (fa : Nat → Nat → Nat → Int32) (la : Nat → Nat → Nat → Int64) (hI : IX iv fa) (a : Int32) (b : Int32) (d : Int32) : Met l yX12_error (wc yX12_error cX12_error 4 (some .int)) ({ frames := 2, cells := 0, slots := 0, locals := 45 } : Room) (pR (dC, dI) classes (WM h g ca iv lv fa la) (TM ca) [.ref h, .int a, .int b, .int d]) (vp_Si (fun r => (True) ∧ (((r.toInt = -100002 ∧ ¬ (0 ≤ a.toInt ∧ a.toInt ≤ 3 ∧ 0 ≤ b.toInt ∧ b.toInt ≤ 3000 ∧ 0 ≤ d.toInt ∧ d.toInt ≤ 1)) ∨ (0 ≤ a.toInt ∧ a.toInt ≤ 3 ∧ 0 ≤ b.toInt ∧ b.toInt ≤ 3000 ∧ 0 ≤ d.toInt ∧ d.toInt ≤ 1 ∧ d.toInt = 0 ∧ r.toInt = er0 (fa 12 15) (tLa (fa 12 14) (fa 12 16) a b ((iv 12 13).toInt).toNat) (tFi (fa 12 14) (fa 12 16) a b ((iv 12 13).toInt).toNat)) ∨ (0 ≤ a.toInt ∧ a.toInt ≤ 3 ∧ 0 ≤ b.toInt ∧ b.toInt ≤ 3000 ∧ 0 ≤ d.toInt ∧ d.toInt ≤ 1 ∧ d.toInt = 1 ∧ r.toInt = er1 (fa 12 15) (tLa (fa 12 14) (fa 12 16) a b ((iv 12 13).toInt).toNat) (tFi (fa 12 14) (fa 12 16) a b ((iv 12 13).toInt).toNat)))))) 0 0 (fun _ => False) := by
  refine Met.ofW (cc := cX12_error) (maxL := 4) (ret := (some .int)) (by decide) rfl ?_
  intro p e s m args below meth c s₁ B hml hv
  obtain ⟨rfl, hP, hK⟩ := hv
  have hx := B.exec
  have hb := B.bytes
  have hr := B.returns
  have ht := tb_tl (atoms_spec (ws := wc yX12_error cX12_error 4 (some .int)) B.pre)
  have hown : s.vm.findClass RX12 = some m.cls := findClass_of_methodNamed B.named
  have hlocks := B.notSynchronized
  have hl := lv_entry [.ref h, .int a, .int b, .int d] (n := 4) (Nat.le_of_ble_eq_true rfl)
  rw [lg_entry_eq]
  generalize (lg_sl [.ref h, .int a, .int b, .int d] ++ List.replicate (4 - (lg_sl [.ref h, .int a, .int b, .int d]).length) Slot.unset).toArray = ls at hl ⊢
  have hl : lv_has ls 4 [(0, .ref h), (1, .int a), (2, .int b), (3, .int d)] := hl
  refine lv_iload_n hx hb dX12_error_0 rfl (lv_at hl 1 rfl) ?_
  refine lv_i2l (v := (a.toInt64)) hx hb dX12_error_1 rfl ?_
  refine lv_lconst (v := 0) hx hb dX12_error_2 (by decide) ?_
  refine lv_ldc2 hx hb hown (ht _ m_1391) dX12_error_3 ?_
  refine vp_callSi (W.runS (As := [.long (a.toInt64), .long 0, .long 3]) (rest := []) ⟨hx, hb, hml, hown, ht⟩ (c_X12_in l dC dI (a.toInt64) 0 3 (a.toInt) (0) (3) ((Int32.toInt_toInt64 a).trans rfl) (by decide : (0 : Int64).toInt = 0) (by decide : (3 : Int64).toInt = 3)) (kS 3 ht m_1370 m_1371 m_89 m_1372 rfl rfl hd_X12_in_v ⟨Nat.le_of_ble_eq_true rfl, Nat.le_of_ble_eq_true rfl⟩) (sR noP (hK.sub (tys' := []) [] rfl)) rfl rfl hl.1 rfl (lv_room (Nat.le_of_ble_eq_true rfl)) dX12_error_6 ⟨Nat.le_of_ble_eq_true rfl, Nat.le_of_ble_eq_true rfl⟩) (fun r1 hr1 => ?_)
  rcases hr1 with ⟨rfl, fr1⟩ | ⟨rfl, fr1⟩
  · skip
    refine lv_if_eq (tgt := 29) hx hb dX12_error_9 (by decide) (fun c2 => ?_) (fun c2 => ?_)
    · exact absurd c2 (by decide)
    · skip
      refine lv_iload_n hx hb dX12_error_12 rfl (lv_at hl 2 rfl) ?_
      refine vp_callSi (W.runS (As := [.int b]) (rest := []) ⟨hx, hb, hml, hown, ht⟩ (c_X12_isDay l dC dI b) (kS 1 ht m_1422 m_1423 m_89 m_1424 rfl rfl hd_X12_isDay_v ⟨Nat.le_of_ble_eq_true rfl, Nat.le_of_ble_eq_true rfl⟩) (sR noP (hK.sub (tys' := []) [] rfl)) rfl rfl hl.1 rfl (lv_room (Nat.le_of_ble_eq_true rfl)) dX12_error_13 ⟨Nat.le_of_ble_eq_true rfl, Nat.le_of_ble_eq_true rfl⟩) (fun r3 hr3 => ?_)
      rcases hr3 with ⟨rfl, fr3⟩ | ⟨rfl, fr3⟩
      · skip
        refine lv_if_eq (tgt := 29) hx hb dX12_error_16 (by decide) (fun c4 => ?_) (fun c4 => ?_)
        · exact absurd c4 (by decide)
        · skip
          refine lv_iload_n hx hb dX12_error_19 rfl (lv_at hl 3 rfl) ?_
          refine lv_i2l (v := (d.toInt64)) hx hb dX12_error_20 rfl ?_
          refine lv_lconst (v := 0) hx hb dX12_error_21 (by decide) ?_
          refine lv_lconst (v := 1) hx hb dX12_error_22 (by decide) ?_
          refine vp_callSi (W.runS (As := [.long (d.toInt64), .long 0, .long 1]) (rest := []) ⟨hx, hb, hml, hown, ht⟩ (c_X12_in l dC dI (d.toInt64) 0 1 (d.toInt) (0) (1) ((Int32.toInt_toInt64 d).trans rfl) (by decide : (0 : Int64).toInt = 0) (by decide : (1 : Int64).toInt = 1)) (kS 3 ht m_1370 m_1371 m_89 m_1372 rfl rfl hd_X12_in_v ⟨Nat.le_of_ble_eq_true rfl, Nat.le_of_ble_eq_true rfl⟩) (sR noP (hK.sub (tys' := []) [] rfl)) rfl rfl hl.1 rfl (lv_room (Nat.le_of_ble_eq_true rfl)) dX12_error_23 ⟨Nat.le_of_ble_eq_true rfl, Nat.le_of_ble_eq_true rfl⟩) (fun r5 hr5 => ?_)
          rcases hr5 with ⟨rfl, fr5⟩ | ⟨rfl, fr5⟩
          · skip
            refine lv_if_ne (tgt := 32) hx hb dX12_error_26 (by decide) (fun c6 => ?_) (fun c6 => ?_)
            · skip
              refine lv_aload_n hx hb dX12_error_32 rfl (lv_at hl 0 rfl) ?_
              refine lv_iload_n hx hb dX12_error_33 rfl (lv_at hl 1 rfl) ?_
              refine lv_iload_n hx hb dX12_error_34 rfl (lv_at hl 2 rfl) ?_
              refine lv_iload_n hx hb dX12_error_35 rfl (lv_at hl 3 rfl) ?_
              refine lv_iconst (v := 1) hx hb dX12_error_36 (by decide) ?_
              refine lv_icmp_ne (tgt := 44) hx hb dX12_error_37 (by decide) (fun c7 => ?_) (fun c7 => ?_)
              · have fc7 := z_ne (rfl : (d).toInt = _) (by decide : (1 : Int32).toInt = 1) c7
                refine lv_iconst (v := 0) hx hb dX12_error_44 (by decide) ?_
                refine vp_callSi (W.runV (As := [.int a, .int b, .int 0]) (rest := []) ⟨hx, hb, hml, hown, ht⟩ (c_X12_errorOf_x0 l dC dI h g ca iv lv fa la hI a b) (kV 3 ht m_1426 m_1428 m_44 m_89 m_1429 rfl rfl hd_X12_errorOf_v ⟨Nat.le_of_ble_eq_true rfl, Nat.le_of_ble_eq_true rfl⟩) (vR hP hK (rM_12 hK hP)) rfl rfl hl.1 rfl (lv_room (Nat.le_of_ble_eq_true rfl)) dX12_error_45 ⟨Nat.le_of_ble_eq_true rfl, Nat.le_of_ble_eq_true rfl⟩) (fun r8 hr8 => ?_)
                obtain ⟨hr8, xr8_0⟩ := hr8
                have i_12_13 : 0 ≤ (iv 12 13).toInt ∧ (iv 12 13).toInt ≤ 30 := hI.1 12 13
                have xr8_0 : (r8 : Int32).toInt = er0 (fa 12 15) (tLa (fa 12 14) (fa 12 16) (a : Int32) (b : Int32) (((iv 12 13) : Int32).toInt).toNat) (tFi (fa 12 14) (fa 12 16) (a : Int32) (b : Int32) (((iv 12 13) : Int32).toInt).toNat) := xr8_0
                exact W.iret (v := r8) hx hb hr (fun t ht9 hW => ⟨r8, rfl, ⟨trivial, (show (((r8 : Int32).toInt = -100002 ∧ ¬ (0 ≤ (a).toInt ∧ (a).toInt ≤ 3 ∧ 0 ≤ (b).toInt ∧ (b).toInt ≤ 3000 ∧ 0 ≤ (d).toInt ∧ (d).toInt ≤ 1)) ∨ (0 ≤ (a).toInt ∧ (a).toInt ≤ 3 ∧ 0 ≤ (b).toInt ∧ (b).toInt ≤ 3000 ∧ 0 ≤ (d).toInt ∧ (d).toInt ≤ 1 ∧ (d).toInt = 0 ∧ (r8 : Int32).toInt = er0 (fa 12 15) (tLa (fa 12 14) (fa 12 16) a b (((iv 12 13) : Int32).toInt).toNat) (tFi (fa 12 14) (fa 12 16) a b (((iv 12 13) : Int32).toInt).toNat)) ∨ (0 ≤ (a).toInt ∧ (a).toInt ≤ 3 ∧ 0 ≤ (b).toInt ∧ (b).toInt ≤ 3000 ∧ 0 ≤ (d).toInt ∧ (d).toInt ≤ 1 ∧ (d).toInt = 1 ∧ (r8 : Int32).toInt = er1 (fa 12 15) (tLa (fa 12 14) (fa 12 16) a b (((iv 12 13) : Int32).toInt).toNat) (tFi (fa 12 14) (fa 12 16) a b (((iv 12 13) : Int32).toInt).toNat))) from by omega)⟩, ht9⟩) (fun q hq => by cases hq) dX12_error_48
              · have fc7 := z_eq (rfl : (d).toInt = _) (by decide : (1 : Int32).toInt = 1) c7
                refine lv_iconst (v := 1) hx hb dX12_error_40 (by decide) ?_
                refine lv_goto (tgt := 45) hx hb dX12_error_41 (by decide) ?_
                refine vp_callSi (W.runV (As := [.int a, .int b, .int 1]) (rest := []) ⟨hx, hb, hml, hown, ht⟩ (c_X12_errorOf_x1 l dC dI h g ca iv lv fa la hI a b) (kV 3 ht m_1426 m_1428 m_44 m_89 m_1429 rfl rfl hd_X12_errorOf_v ⟨Nat.le_of_ble_eq_true rfl, Nat.le_of_ble_eq_true rfl⟩) (vR hP hK (rM_12 hK hP)) rfl rfl hl.1 rfl (lv_room (Nat.le_of_ble_eq_true rfl)) dX12_error_45 ⟨Nat.le_of_ble_eq_true rfl, Nat.le_of_ble_eq_true rfl⟩) (fun r9 hr9 => ?_)
                obtain ⟨hr9, xr9_0⟩ := hr9
                have i_12_13 : 0 ≤ (iv 12 13).toInt ∧ (iv 12 13).toInt ≤ 30 := hI.1 12 13
                have xr9_0 : (r9 : Int32).toInt = er1 (fa 12 15) (tLa (fa 12 14) (fa 12 16) (a : Int32) (b : Int32) (((iv 12 13) : Int32).toInt).toNat) (tFi (fa 12 14) (fa 12 16) (a : Int32) (b : Int32) (((iv 12 13) : Int32).toInt).toNat) := xr9_0
                exact W.iret (v := r9) hx hb hr (fun t ht9 hW => ⟨r9, rfl, ⟨trivial, (show (((r9 : Int32).toInt = -100002 ∧ ¬ (0 ≤ (a).toInt ∧ (a).toInt ≤ 3 ∧ 0 ≤ (b).toInt ∧ (b).toInt ≤ 3000 ∧ 0 ≤ (d).toInt ∧ (d).toInt ≤ 1)) ∨ (0 ≤ (a).toInt ∧ (a).toInt ≤ 3 ∧ 0 ≤ (b).toInt ∧ (b).toInt ≤ 3000 ∧ 0 ≤ (d).toInt ∧ (d).toInt ≤ 1 ∧ (d).toInt = 0 ∧ (r9 : Int32).toInt = er0 (fa 12 15) (tLa (fa 12 14) (fa 12 16) a b (((iv 12 13) : Int32).toInt).toNat) (tFi (fa 12 14) (fa 12 16) a b (((iv 12 13) : Int32).toInt).toNat)) ∨ (0 ≤ (a).toInt ∧ (a).toInt ≤ 3 ∧ 0 ≤ (b).toInt ∧ (b).toInt ≤ 3000 ∧ 0 ≤ (d).toInt ∧ (d).toInt ≤ 1 ∧ (d).toInt = 1 ∧ (r9 : Int32).toInt = er1 (fa 12 15) (tLa (fa 12 14) (fa 12 16) a b (((iv 12 13) : Int32).toInt).toNat) (tFi (fa 12 14) (fa 12 16) a b (((iv 12 13) : Int32).toInt).toNat))) from by omega)⟩, ht9⟩) (fun q hq => by cases hq) dX12_error_48
            · exact absurd c6 (by decide)
          · skip
            refine lv_if_ne (tgt := 32) hx hb dX12_error_26 (by decide) (fun c10 => ?_) (fun c10 => ?_)
            · exact absurd rfl c10
            · skip
              refine lv_ldc hx hb hown (ht _ m_1373) dX12_error_29 ?_
              have : ((-100002) : Int32).toInt = (-100002) := (by decide)
              have i_12_13 : 0 ≤ (iv 12 13).toInt ∧ (iv 12 13).toInt ≤ 30 := hI.1 12 13
              exact W.iret (v := (-100002)) hx hb hr (fun t ht9 hW => ⟨(-100002), rfl, ⟨trivial, (show ((((-100002) : Int32).toInt = -100002 ∧ ¬ (0 ≤ (a).toInt ∧ (a).toInt ≤ 3 ∧ 0 ≤ (b).toInt ∧ (b).toInt ≤ 3000 ∧ 0 ≤ (d).toInt ∧ (d).toInt ≤ 1)) ∨ (0 ≤ (a).toInt ∧ (a).toInt ≤ 3 ∧ 0 ≤ (b).toInt ∧ (b).toInt ≤ 3000 ∧ 0 ≤ (d).toInt ∧ (d).toInt ≤ 1 ∧ (d).toInt = 0 ∧ ((-100002) : Int32).toInt = er0 (fa 12 15) (tLa (fa 12 14) (fa 12 16) a b (((iv 12 13) : Int32).toInt).toNat) (tFi (fa 12 14) (fa 12 16) a b (((iv 12 13) : Int32).toInt).toNat)) ∨ (0 ≤ (a).toInt ∧ (a).toInt ≤ 3 ∧ 0 ≤ (b).toInt ∧ (b).toInt ≤ 3000 ∧ 0 ≤ (d).toInt ∧ (d).toInt ≤ 1 ∧ (d).toInt = 1 ∧ ((-100002) : Int32).toInt = er1 (fa 12 15) (tLa (fa 12 14) (fa 12 16) a b (((iv 12 13) : Int32).toInt).toNat) (tFi (fa 12 14) (fa 12 16) a b (((iv 12 13) : Int32).toInt).toNat))) from by omega)⟩, ht9⟩) (fun q hq => by cases hq) dX12_error_31
      · skip
        refine lv_if_eq (tgt := 29) hx hb dX12_error_16 (by decide) (fun c11 => ?_) (fun c11 => ?_)
        · skip
          refine lv_ldc hx hb hown (ht _ m_1373) dX12_error_29 ?_
          have : ((-100002) : Int32).toInt = (-100002) := (by decide)
          have i_12_13 : 0 ≤ (iv 12 13).toInt ∧ (iv 12 13).toInt ≤ 30 := hI.1 12 13
          exact W.iret (v := (-100002)) hx hb hr (fun t ht9 hW => ⟨(-100002), rfl, ⟨trivial, (show ((((-100002) : Int32).toInt = -100002 ∧ ¬ (0 ≤ (a).toInt ∧ (a).toInt ≤ 3 ∧ 0 ≤ (b).toInt ∧ (b).toInt ≤ 3000 ∧ 0 ≤ (d).toInt ∧ (d).toInt ≤ 1)) ∨ (0 ≤ (a).toInt ∧ (a).toInt ≤ 3 ∧ 0 ≤ (b).toInt ∧ (b).toInt ≤ 3000 ∧ 0 ≤ (d).toInt ∧ (d).toInt ≤ 1 ∧ (d).toInt = 0 ∧ ((-100002) : Int32).toInt = er0 (fa 12 15) (tLa (fa 12 14) (fa 12 16) a b (((iv 12 13) : Int32).toInt).toNat) (tFi (fa 12 14) (fa 12 16) a b (((iv 12 13) : Int32).toInt).toNat)) ∨ (0 ≤ (a).toInt ∧ (a).toInt ≤ 3 ∧ 0 ≤ (b).toInt ∧ (b).toInt ≤ 3000 ∧ 0 ≤ (d).toInt ∧ (d).toInt ≤ 1 ∧ (d).toInt = 1 ∧ ((-100002) : Int32).toInt = er1 (fa 12 15) (tLa (fa 12 14) (fa 12 16) a b (((iv 12 13) : Int32).toInt).toNat) (tFi (fa 12 14) (fa 12 16) a b (((iv 12 13) : Int32).toInt).toNat))) from by omega)⟩, ht9⟩) (fun q hq => by cases hq) dX12_error_31
        · exact absurd rfl c11
  · skip
    refine lv_if_eq (tgt := 29) hx hb dX12_error_9 (by decide) (fun c12 => ?_) (fun c12 => ?_)
    · skip
      refine lv_ldc hx hb hown (ht _ m_1373) dX12_error_29 ?_
      have : ((-100002) : Int32).toInt = (-100002) := (by decide)
      have i_12_13 : 0 ≤ (iv 12 13).toInt ∧ (iv 12 13).toInt ≤ 30 := hI.1 12 13
      exact W.iret (v := (-100002)) hx hb hr (fun t ht9 hW => ⟨(-100002), rfl, ⟨trivial, (show ((((-100002) : Int32).toInt = -100002 ∧ ¬ (0 ≤ (a).toInt ∧ (a).toInt ≤ 3 ∧ 0 ≤ (b).toInt ∧ (b).toInt ≤ 3000 ∧ 0 ≤ (d).toInt ∧ (d).toInt ≤ 1)) ∨ (0 ≤ (a).toInt ∧ (a).toInt ≤ 3 ∧ 0 ≤ (b).toInt ∧ (b).toInt ≤ 3000 ∧ 0 ≤ (d).toInt ∧ (d).toInt ≤ 1 ∧ (d).toInt = 0 ∧ ((-100002) : Int32).toInt = er0 (fa 12 15) (tLa (fa 12 14) (fa 12 16) a b (((iv 12 13) : Int32).toInt).toNat) (tFi (fa 12 14) (fa 12 16) a b (((iv 12 13) : Int32).toInt).toNat)) ∨ (0 ≤ (a).toInt ∧ (a).toInt ≤ 3 ∧ 0 ≤ (b).toInt ∧ (b).toInt ≤ 3000 ∧ 0 ≤ (d).toInt ∧ (d).toInt ≤ 1 ∧ (d).toInt = 1 ∧ ((-100002) : Int32).toInt = er1 (fa 12 15) (tLa (fa 12 14) (fa 12 16) a b (((iv 12 13) : Int32).toInt).toNat) (tFi (fa 12 14) (fa 12 16) a b (((iv 12 13) : Int32).toInt).toNat))) from by omega)⟩, ht9⟩) (fun q hq => by cases hq) dX12_error_31
    · exact absurd rfl c12
/-! ===== er3 ===== -/
set_option maxHeartbeats 4000000 in
set_option maxRecDepth 100000 in
/-- X9_note -/
theorem c_X9_note_x (l : Launch) (dC : Nat → ClassId) (dI : Nat → Nat → Nat) (sz : Nat) (h : Nat) (g : Nat → Nat → Nat) (ca : Nat → Nat → ClassId) (iv : Nat → Nat → Int32) (lv : Nat → Nat → Int64) (fa : Nat → Nat → Nat → Int32) (la : Nat → Nat → Nat → Int64) (hI : IX iv fa) (a : Int32) (b : Int32) (d : Int32) (q_9_3 : 0 ≤ (iv 9 3).toInt ∧ (iv 9 3).toInt ≤ 29) : Met l yX9_note (wc yX9_note cX9_note 4 (some .int)) ({ frames := 0, cells := 0, slots := 0, locals := 0 } : Room) (pW (dC, dI) classes (WX h g ca iv lv fa la) (TX ca) sz [.ref (g 11 1), .int a, .int b, .int d]) (va_Qi (fun r (u : SS) => ∃ (na_9_0 : Nat → Int32) (na_9_1 : Nat → Int32) (na_9_2 : Nat → Int32) (ni_9_3 : Int32), inb (bI 9 3) ni_9_3 ∧ ni_9_3.toInt = (iv 9 3).toInt + 1 ∧ (((r.toInt < 0 ∧ ∀ j : Nat, na_9_0 j = (fa 9 0) j ∧ na_9_1 j = (fa 9 1) j ∧ na_9_2 j = (fa 9 2) j) ∨ (0 ≤ r.toInt ∧ (∀ j : Nat, j ≠ ((iv 9 3).toInt).toNat → na_9_0 j = (fa 9 0) j ∧ na_9_1 j = (fa 9 1) j ∧ na_9_2 j = (fa 9 2) j) ∧ na_9_0 ((iv 9 3).toInt).toNat = a ∧ na_9_1 ((iv 9 3).toInt).toNat = b ∧ (na_9_2 ((iv 9 3).toInt).toNat).toInt = d.toInt))) ∧ (r.toInt = (iv 9 3).toInt + 1) ∧ (1 ≤ r.toInt ∧ r.toInt ≤ 30) ∧ u = ((u2 iv 9 3 ni_9_3), lv, (u2 (u2 (u2 fa 9 0 na_9_0) 9 1 na_9_1) 9 2 na_9_2), la)) (bX (dC, dI) h g ca (va_A (WX h g ca iv lv fa la) sz)) (va_A (WX h g ca iv lv fa la) sz)) 0 0 (va_A (WX h g ca iv lv fa la) sz) := by
  refine Met.ofW (cc := cX9_note) (maxL := 4) (ret := (some .int)) (by decide) rfl ?_
  intro p e s m args below meth c s₁ B hml hv
  obtain ⟨rfl, hsz, hP, hK, hD0⟩ := hv
  have hx := B.exec
  have hb := B.bytes
  have hr := B.returns
  have ht := tb_tl (atoms_spec (ws := wc yX9_note cX9_note 4 (some .int)) B.pre)
  have hown : s.vm.findClass RX9 = some m.cls := findClass_of_methodNamed B.named
  have hlocks := B.notSynchronized
  subst hsz
  have hD := hD0.self (sz := s.heap.size)
  generalize hAe : va_A (WX h g ca iv lv fa la) s.heap.size = A at hD ⊢
  have hA : ∀ q : Nat, s.heap.size ≤ q → A q := fun q h => by rw [← hAe]; exact Or.inr h
  have hS : va_S A s.heap s.heap [] := va_S.rf
  have hl := lv_entry [.ref (g 11 1), .int a, .int b, .int d] (n := 4) (Nat.le_of_ble_eq_true rfl)
  rw [lg_entry_eq]
  generalize (lg_sl [.ref (g 11 1), .int a, .int b, .int d] ++ List.replicate (4 - (lg_sl [.ref (g 11 1), .int a, .int b, .int d]).length) Slot.unset).toArray = ls at hl ⊢
  have hl : lv_has ls 4 [(0, .ref (g 11 1)), (1, .int a), (2, .int b), (3, .int d)] := hl
  refine lv_aload_n hx hb dX9_note_0 rfl (lv_at hl 0 rfl) ?_
  refine gX_9_0 hx hb ht hown hK hP m_132 dX9_note_1 ?_
  refine lv_aload_n hx hb dX9_note_4 rfl (lv_at hl 0 rfl) ?_
  have i_9_3 : 0 ≤ (iv 9 3).toInt ∧ (iv 9 3).toInt ≤ 30 := hI.1 9 3
  refine gX_9_3 hx hb ht hown hK hP m_135 (v := (iv 9 3)) rfl dX9_note_5 ?_
  refine lv_iload_n hx hb dX9_note_8 rfl (lv_at hl 1 rfl) ?_
  refine tX_9_0 hx hb hK hP hD hS (f0 := (fa 9 0)) rfl (i := (iv 9 3)) (x := a) (vp_in_iff.mpr ⟨by omega, by omega⟩) dX9_note_9 (fun f1 ef1 H locs hP hD hS => ?_)
  have hf1 : ∀ j, inb (bA 9 0 j) (f1 j) := fun j => full_i _
  refine lv_aload_n hx hb dX9_note_10 rfl (lv_at hl 0 rfl) ?_
  refine gX_9_1 hx hb ht hown hK hP m_133 dX9_note_11 ?_
  refine lv_aload_n hx hb dX9_note_14 rfl (lv_at hl 0 rfl) ?_
  refine gX_9_3 hx hb ht hown hK hP m_135 (v := (iv 9 3)) rfl dX9_note_15 ?_
  refine lv_iload_n hx hb dX9_note_18 rfl (lv_at hl 2 rfl) ?_
  refine tX_9_1 hx hb hK hP hD hS (f0 := (fa 9 1)) rfl (i := (iv 9 3)) (x := b) (vp_in_iff.mpr ⟨by omega, by omega⟩) dX9_note_19 (fun f2 ef2 H locs hP hD hS => ?_)
  have hf2 : ∀ j, inb (bA 9 1 j) (f2 j) := fun j => full_i _
  refine lv_aload_n hx hb dX9_note_20 rfl (lv_at hl 0 rfl) ?_
  refine gX_9_2 hx hb ht hown hK hP m_134 dX9_note_21 ?_
  refine lv_aload_n hx hb dX9_note_24 rfl (lv_at hl 0 rfl) ?_
  refine gX_9_3 hx hb ht hown hK hP m_135 (v := (iv 9 3)) rfl dX9_note_25 ?_
  refine lv_iload_n hx hb dX9_note_28 rfl (lv_at hl 3 rfl) ?_
  refine tX_9_2 hx hb hK hP hD hS (f0 := (fa 9 2)) rfl (i := (iv 9 3)) (x := d) (vp_in_iff.mpr ⟨by omega, by omega⟩) dX9_note_29 (fun f3 ef3 H locs hP hD hS => ?_)
  have hf3 : ∀ j, inb (bA 9 2 j) (f3 j) := fun j => full_i _
  refine lv_aload_n hx hb dX9_note_30 rfl (lv_at hl 0 rfl) ?_
  refine lv_dup hx hb dX9_note_31 rfl ?_
  refine gX_9_3 hx hb ht hown hK hP m_135 (v := (iv 9 3)) rfl dX9_note_32 ?_
  refine lv_iconst (v := 1) hx hb dX9_note_35 (by decide) ?_
  refine lv_iadd hx hb dX9_note_36 ?_
  refine lv_topi (fun v4 ev4 => ?_)
  have tv4 := z_add ev4 (rfl : ((iv 9 3)).toInt = _) (by decide : (1 : Int32).toInt = 1) (by omega) (by omega)
  refine pX_9_3 (v := v4) hx hb ht hown hK hP hD hS m_135 dX9_note_37 (fun H locs hP hD hS => ?_)
  refine lv_aload_n hx hb dX9_note_40 rfl (lv_at hl 0 rfl) ?_
  refine gX_9_3 hx hb ht hown hK hP m_135 (v := v4) rfl dX9_note_41 ?_
  have hP9 : va_P (dC, dI) classes (WX h g ca (u2 iv 9 3 v4) lv (u2 (u2 (u2 fa 9 0 f1) 9 1 f2) 9 2 f3) la) H := hP
  have hD9 : va_D A (WX h g ca (u2 iv 9 3 v4) lv (u2 (u2 (u2 fa 9 0 f1) 9 1 f2) 9 2 f3) la) := hD
  exact W.iret (v := v4) hx hb hr (fun t ht9 hW => ⟨⟨v4, ((u2 iv 9 3 v4), lv, (u2 (u2 (u2 fa 9 0 f1) 9 1 f2) 9 2 f3), la), rfl, ⟨f1, f2, f3, v4, (show inb (0, 30) v4 from ⟨by omega, by omega⟩), (by omega), (show (((v4 : Int32).toInt < 0 ∧ ∀ j : Nat, f1 j = (fa 9 0) j ∧ f2 j = (fa 9 1) j ∧ f3 j = (fa 9 2) j) ∨ (0 ≤ (v4 : Int32).toInt ∧ (∀ j : Nat, j ≠ ((iv 9 3).toInt).toNat → f1 j = (fa 9 0) j ∧ f2 j = (fa 9 1) j ∧ f3 j = (fa 9 2) j) ∧ f1 ((iv 9 3).toInt).toNat = a ∧ f2 ((iv 9 3).toInt).toNat = b ∧ (f3 ((iv 9 3).toInt).toNat).toInt = (d).toInt)) from Or.inr ⟨by omega, fun j hj => ⟨(by rw [ef1, upd_ne (show j ≠ ((iv 9 3) : Int32).toNatClampNeg from hj)]), (by rw [ef2, upd_ne (show j ≠ ((iv 9 3) : Int32).toNatClampNeg from hj)]), (by rw [ef3, upd_ne (show j ≠ ((iv 9 3) : Int32).toNatClampNeg from hj)])⟩, (by rw [ef1]; exact upd_eq), (by rw [ef2]; exact upd_eq), (by rw [ef3]; exact (congrArg Int32.toInt upd_eq).trans (by omega))⟩), (show (v4 : Int32).toInt = (iv 9 3).toInt + 1 from by omega), ⟨by omega, by omega⟩, rfl⟩, by rw [ht9]; exact hP9, hD9⟩, hS.F ht9⟩) hS.2.2 dX9_note_44
set_option maxHeartbeats 4000000 in
set_option maxRecDepth 100000 in
/-- X11_test -/
theorem c_X11_test_x (l : Launch) (dC : Nat → ClassId) (dI : Nat → Nat → Nat) (sz : Nat) (h : Nat) (g : Nat → Nat → Nat) (ca : Nat → Nat → ClassId) (iv : Nat → Nat → Int32) (lv : Nat → Nat → Int64) (fa : Nat → Nat → Nat → Int32) (la : Nat → Nat → Nat → Int64) (hI : IX iv fa) (a : Int32) (b : Int32) (d : Int32) : Met l yX11_test (wc yX11_test cX11_test 4 (some .int)) ({ frames := 1, cells := 0, slots := 0, locals := 23 } : Room) (pW (dC, dI) classes (WX h g ca iv lv fa la) (TX ca) sz [.ref h, .int a, .int b, .int d]) (va_Qi (fun r (u : SS) => ∃ (na_9_0 : Nat → Int32) (na_9_1 : Nat → Int32) (na_9_2 : Nat → Int32) (ni_9_3 : Int32), inb (bI 9 3) ni_9_3 ∧ (((r.toInt = -100002 ∧ ¬ (0 ≤ a.toInt ∧ a.toInt ≤ 3 ∧ 1 ≤ b.toInt ∧ b.toInt ≤ 9999 ∧ 1 ≤ d.toInt ∧ d.toInt ≤ 9999) ∧ (ni_9_3).toInt = (iv 9 3).toInt) ∨ (r.toInt = -100004 ∧ (0 ≤ a.toInt ∧ a.toInt ≤ 3 ∧ 1 ≤ b.toInt ∧ b.toInt ≤ 9999 ∧ 1 ≤ d.toInt ∧ d.toInt ≤ 9999) ∧ 30 ≤ (iv 9 3).toInt ∧ (ni_9_3).toInt = (iv 9 3).toInt) ∨ ((0 ≤ a.toInt ∧ a.toInt ≤ 3 ∧ 1 ≤ b.toInt ∧ b.toInt ≤ 9999 ∧ 1 ≤ d.toInt ∧ d.toInt ≤ 9999) ∧ (iv 9 3).toInt < 30 ∧ r.toInt = (iv 9 3).toInt + 1 ∧ (ni_9_3).toInt = (iv 9 3).toInt + 1))) ∧ (((r.toInt < 0 ∧ ∀ j : Nat, na_9_0 j = (fa 9 0) j ∧ na_9_1 j = (fa 9 1) j ∧ na_9_2 j = (fa 9 2) j) ∨ (0 ≤ r.toInt ∧ (∀ j : Nat, j ≠ ((iv 9 3).toInt).toNat → na_9_0 j = (fa 9 0) j ∧ na_9_1 j = (fa 9 1) j ∧ na_9_2 j = (fa 9 2) j) ∧ na_9_0 ((iv 9 3).toInt).toNat = a ∧ na_9_1 ((iv 9 3).toInt).toNat = (iv 11 10) ∧ (na_9_2 ((iv 9 3).toInt).toNat).toInt = b.toInt - d.toInt))) ∧ ((-100004) ≤ r.toInt ∧ r.toInt ≤ 30) ∧ u = ((u2 iv 9 3 ni_9_3), lv, (u2 (u2 (u2 fa 9 0 na_9_0) 9 1 na_9_1) 9 2 na_9_2), la)) (bX (dC, dI) h g ca (va_A (WX h g ca iv lv fa la) sz)) (va_A (WX h g ca iv lv fa la) sz)) 0 0 (va_A (WX h g ca iv lv fa la) sz) := by
  refine Met.ofW (cc := cX11_test) (maxL := 4) (ret := (some .int)) (by decide) rfl ?_
  intro p e s m args below meth c s₁ B hml hv
  obtain ⟨rfl, hsz, hP, hK, hD0⟩ := hv
  have hx := B.exec
  have hb := B.bytes
  have hr := B.returns
  have ht := tb_tl (atoms_spec (ws := wc yX11_test cX11_test 4 (some .int)) B.pre)
  have hown : s.vm.findClass RX11 = some m.cls := findClass_of_methodNamed B.named
  have hlocks := B.notSynchronized
  subst hsz
  have hD := hD0.self (sz := s.heap.size)
  generalize hAe : va_A (WX h g ca iv lv fa la) s.heap.size = A at hD ⊢
  have hA : ∀ q : Nat, s.heap.size ≤ q → A q := fun q h => by rw [← hAe]; exact Or.inr h
  have hS : va_S A s.heap s.heap [] := va_S.rf
  have hl := lv_entry [.ref h, .int a, .int b, .int d] (n := 4) (Nat.le_of_ble_eq_true rfl)
  rw [lg_entry_eq]
  generalize (lg_sl [.ref h, .int a, .int b, .int d] ++ List.replicate (4 - (lg_sl [.ref h, .int a, .int b, .int d]).length) Slot.unset).toArray = ls at hl ⊢
  have hl : lv_has ls 4 [(0, .ref h), (1, .int a), (2, .int b), (3, .int d)] := hl
  refine lv_iload_n hx hb dX11_test_0 rfl (lv_at hl 1 rfl) ?_
  refine lv_iconst (v := 0) hx hb dX11_test_1 (by decide) ?_
  refine lv_iconst (v := 3) hx hb dX11_test_2 (by decide) ?_
  refine vp_callSi (W.runS (As := [.int a, .int 0, .int 3]) (rest := []) ⟨hx, hb, hml, hown, ht⟩ (c_X11_within l dC dI a 0 3 (a.toInt) (0) (3) (rfl : (a).toInt = _) (by decide : (0 : Int32).toInt = 0) (by decide : (3 : Int32).toInt = 3)) (kS 3 ht m_453 m_454 m_77 m_455 rfl rfl hd_X11_within_v ⟨Nat.le_of_ble_eq_true rfl, Nat.le_of_ble_eq_true rfl⟩) (sR noP (hK.sub (tys' := []) [] rfl)) rfl rfl hl.1 rfl (lv_room (Nat.le_of_ble_eq_true rfl)) dX11_test_3 ⟨Nat.le_of_ble_eq_true rfl, Nat.le_of_ble_eq_true rfl⟩) (fun r1 hr1 => ?_)
  rcases hr1 with ⟨rfl, fr1⟩ | ⟨rfl, fr1⟩
  · skip
    refine lv_if_eq (tgt := 31) hx hb dX11_test_6 (by decide) (fun c2 => ?_) (fun c2 => ?_)
    · exact absurd c2 (by decide)
    · skip
      refine lv_iload_n hx hb dX11_test_9 rfl (lv_at hl 2 rfl) ?_
      refine lv_iconst (v := 1) hx hb dX11_test_10 (by decide) ?_
      refine lv_sipush (v := 9999) hx hb dX11_test_11 (by decide) ?_
      refine vp_callSi (W.runS (As := [.int b, .int 1, .int 9999]) (rest := []) ⟨hx, hb, hml, hown, ht⟩ (c_X11_within l dC dI b 1 9999 (b.toInt) (1) (9999) (rfl : (b).toInt = _) (by decide : (1 : Int32).toInt = 1) (by decide : (9999 : Int32).toInt = 9999)) (kS 3 ht m_453 m_454 m_77 m_455 rfl rfl hd_X11_within_v ⟨Nat.le_of_ble_eq_true rfl, Nat.le_of_ble_eq_true rfl⟩) (sR noP (hK.sub (tys' := []) [] rfl)) rfl rfl hl.1 rfl (lv_room (Nat.le_of_ble_eq_true rfl)) dX11_test_14 ⟨Nat.le_of_ble_eq_true rfl, Nat.le_of_ble_eq_true rfl⟩) (fun r3 hr3 => ?_)
      rcases hr3 with ⟨rfl, fr3⟩ | ⟨rfl, fr3⟩
      · skip
        refine lv_if_eq (tgt := 31) hx hb dX11_test_17 (by decide) (fun c4 => ?_) (fun c4 => ?_)
        · exact absurd c4 (by decide)
        · skip
          refine lv_iload_n hx hb dX11_test_20 rfl (lv_at hl 3 rfl) ?_
          refine lv_iconst (v := 1) hx hb dX11_test_21 (by decide) ?_
          refine lv_sipush (v := 9999) hx hb dX11_test_22 (by decide) ?_
          refine vp_callSi (W.runS (As := [.int d, .int 1, .int 9999]) (rest := []) ⟨hx, hb, hml, hown, ht⟩ (c_X11_within l dC dI d 1 9999 (d.toInt) (1) (9999) (rfl : (d).toInt = _) (by decide : (1 : Int32).toInt = 1) (by decide : (9999 : Int32).toInt = 9999)) (kS 3 ht m_453 m_454 m_77 m_455 rfl rfl hd_X11_within_v ⟨Nat.le_of_ble_eq_true rfl, Nat.le_of_ble_eq_true rfl⟩) (sR noP (hK.sub (tys' := []) [] rfl)) rfl rfl hl.1 rfl (lv_room (Nat.le_of_ble_eq_true rfl)) dX11_test_25 ⟨Nat.le_of_ble_eq_true rfl, Nat.le_of_ble_eq_true rfl⟩) (fun r5 hr5 => ?_)
          rcases hr5 with ⟨rfl, fr5⟩ | ⟨rfl, fr5⟩
          · skip
            refine lv_if_ne (tgt := 34) hx hb dX11_test_28 (by decide) (fun c6 => ?_) (fun c6 => ?_)
            · skip
              refine lv_aload_n hx hb dX11_test_34 rfl (lv_at hl 0 rfl) ?_
              refine gX_11_1 hx hb ht hown hK hP m_416 dX11_test_35 ?_
              have i_9_3 : 0 ≤ (iv 9 3).toInt ∧ (iv 9 3).toInt ≤ 30 := hI.1 9 3
              refine gX_9_3 hx hb ht hown hK hP m_136 (v := (iv 9 3)) rfl dX11_test_38 ?_
              refine lv_bipush (v := 30) hx hb dX11_test_41 (by decide) ?_
              refine lv_icmp_lt (tgt := 49) hx hb dX11_test_43 (by decide) (fun c7 => ?_) (fun c7 => ?_)
              · have fc7 := z_lt (rfl : ((iv 9 3)).toInt = _) (by decide : (30 : Int32).toInt = 30) c7
                refine lv_aload_n hx hb dX11_test_49 rfl (lv_at hl 0 rfl) ?_
                refine gX_11_1 hx hb ht hown hK hP m_416 dX11_test_50 ?_
                refine lv_iload_n hx hb dX11_test_53 rfl (lv_at hl 1 rfl) ?_
                refine lv_aload_n hx hb dX11_test_54 rfl (lv_at hl 0 rfl) ?_
                have i_11_10 : 0 ≤ (iv 11 10).toInt ∧ (iv 11 10).toInt ≤ 3000 := hI.1 11 10
                refine gX_11_10 hx hb ht hown hK hP m_425 (v := (iv 11 10)) rfl dX11_test_55 ?_
                refine lv_iload_n hx hb dX11_test_58 rfl (lv_at hl 2 rfl) ?_
                refine lv_iload_n hx hb dX11_test_59 rfl (lv_at hl 3 rfl) ?_
                refine lv_isub hx hb dX11_test_60 ?_
                refine lv_topi (fun v8 ev8 => ?_)
                have tv8 := z_sub ev8 (rfl : (b).toInt = _) (rfl : (d).toInt = _) (by omega) (by omega)
                have hFc := free_all hD hS hA
                refine va_calli (va_runV (As := [.int a, .int (iv 11 10), .int v8]) (rest := []) ⟨hx, hb, hml, hown, ht⟩ (c_X9_note_x l dC dI s.heap.size h g ca iv lv fa la hI a (iv 11 10) v8 (show 0 ≤ ((iv 9 3) : Int32).toInt ∧ ((iv 9 3) : Int32).toInt ≤ 29 from ⟨by omega, by omega⟩)) (kV 3 ht m_526 m_527 m_528 m_79 m_529 rfl rfl hd_X9_note_v ⟨Nat.le_of_ble_eq_true rfl, Nat.le_of_ble_eq_true rfl⟩) (vW hP hK hD (rX_9 hK hP)) rfl rfl hl.1 rfl (lv_room (Nat.le_of_ble_eq_true rfl)) dX11_test_61 ⟨Nat.le_of_ble_eq_true rfl, Nat.le_of_ble_eq_true rfl⟩) hS (fun q _ h => hFc q h) hFc (fun r9 u t H1 locs ht9 hvm hr9 hB hz1 hk1 hS => ?_)
                obtain ⟨n10, n11, n12, n13, hn13, dn13, xr9_0, xr9_1, hr9, rfl⟩ := hr9
                have hn10 : ∀ j, inb (bA 9 0 j) (n10 j) := fun j => full_i _
                have hn11 : ∀ j, inb (bA 9 1 j) (n11 j) := fun j => full_i _
                have hn12 : ∀ j, inb (bA 9 2 j) (n12 j) := fun j => full_i _
                have dn13 : n13.toInt = ((iv 9 3) : Int32).toInt + 1 := dn13
                have hn13 : 0 ≤ n13.toInt ∧ n13.toInt ≤ 30 := hn13
                obtain ⟨hP, hD⟩ := hB
                rw [ht9] at hP
                generalize H1 = H at hP hS ⊢
                have hP : va_P (dC, dI) classes (WX h g ca (u2 iv 9 3 n13) lv (u2 (u2 (u2 fa 9 0 n10) 9 1 n11) 9 2 n12) la) H := hP
                have hD : va_D A (WX h g ca (u2 iv 9 3 n13) lv (u2 (u2 (u2 fa 9 0 n10) 9 1 n11) 9 2 n12) la) := (show va_D _ (WX h g ca (u2 iv 9 3 n13) lv (u2 (u2 (u2 fa 9 0 n10) 9 1 n11) 9 2 n12) la) from hD).weaken (fun _ _ _ h => hFc _ h)
                have xr9_0 : (((r9 : Int32).toInt < 0 ∧ ∀ j : Nat, n10 j = (fa 9 0) j ∧ n11 j = (fa 9 1) j ∧ n12 j = (fa 9 2) j) ∨ (0 ≤ (r9 : Int32).toInt ∧ (∀ j : Nat, j ≠ (((iv 9 3) : Int32).toInt).toNat → n10 j = (fa 9 0) j ∧ n11 j = (fa 9 1) j ∧ n12 j = (fa 9 2) j) ∧ n10 (((iv 9 3) : Int32).toInt).toNat = (a : Int32) ∧ n11 (((iv 9 3) : Int32).toInt).toNat = ((iv 11 10) : Int32) ∧ (n12 (((iv 9 3) : Int32).toInt).toNat).toInt = (v8 : Int32).toInt)) := xr9_0
                have xr9_1 : (r9 : Int32).toInt = ((iv 9 3) : Int32).toInt + 1 := xr9_1
                have hP9 : va_P (dC, dI) classes (WX h g ca (u2 iv 9 3 n13) lv (u2 (u2 (u2 fa 9 0 n10) 9 1 n11) 9 2 n12) la) H := hP
                have hD9 : va_D A (WX h g ca (u2 iv 9 3 n13) lv (u2 (u2 (u2 fa 9 0 n10) 9 1 n11) 9 2 n12) la) := hD
                exact W.iret (v := r9) hx hb hr (fun t ht9 hW => ⟨⟨r9, ((u2 iv 9 3 n13), lv, (u2 (u2 (u2 fa 9 0 n10) 9 1 n11) 9 2 n12), la), rfl, ⟨n10, n11, n12, n13, (show inb (0, 30) n13 from ⟨by omega, by omega⟩), (show (((r9 : Int32).toInt = -100002 ∧ ¬ (0 ≤ (a).toInt ∧ (a).toInt ≤ 3 ∧ 1 ≤ (b).toInt ∧ (b).toInt ≤ 9999 ∧ 1 ≤ (d).toInt ∧ (d).toInt ≤ 9999) ∧ (n13 : Int32).toInt = (iv 9 3).toInt) ∨ ((r9 : Int32).toInt = -100004 ∧ (0 ≤ (a).toInt ∧ (a).toInt ≤ 3 ∧ 1 ≤ (b).toInt ∧ (b).toInt ≤ 9999 ∧ 1 ≤ (d).toInt ∧ (d).toInt ≤ 9999) ∧ 30 ≤ (iv 9 3).toInt ∧ (n13 : Int32).toInt = (iv 9 3).toInt) ∨ ((0 ≤ (a).toInt ∧ (a).toInt ≤ 3 ∧ 1 ≤ (b).toInt ∧ (b).toInt ≤ 9999 ∧ 1 ≤ (d).toInt ∧ (d).toInt ≤ 9999) ∧ (iv 9 3).toInt < 30 ∧ (r9 : Int32).toInt = (iv 9 3).toInt + 1 ∧ (n13 : Int32).toInt = (iv 9 3).toInt + 1)) from by omega), (show (((r9 : Int32).toInt < 0 ∧ ∀ j : Nat, n10 j = (fa 9 0) j ∧ n11 j = (fa 9 1) j ∧ n12 j = (fa 9 2) j) ∨ (0 ≤ (r9 : Int32).toInt ∧ (∀ j : Nat, j ≠ ((iv 9 3).toInt).toNat → n10 j = (fa 9 0) j ∧ n11 j = (fa 9 1) j ∧ n12 j = (fa 9 2) j) ∧ n10 ((iv 9 3).toInt).toNat = a ∧ n11 ((iv 9 3).toInt).toNat = (iv 11 10) ∧ (n12 ((iv 9 3).toInt).toNat).toInt = (b).toInt - (d).toInt)) from (by
                      rcases xr9_0 with ⟨q, -⟩ | ⟨-, q, q0, q1, q2⟩
                      · exfalso; omega
                      · exact Or.inr ⟨by omega, q, q0, q1, by omega⟩)), ⟨by omega, by omega⟩, rfl⟩, by rw [ht9]; exact hP9, hD9⟩, hS.F ht9⟩) hS.2.2 dX11_test_64
              · have fc7 := z_nlt (rfl : ((iv 9 3)).toInt = _) (by decide : (30 : Int32).toInt = 30) c7
                refine lv_ldc hx hb hown (ht _ m_463) dX11_test_46 ?_
                have : ((-100004) : Int32).toInt = (-100004) := (by decide)
                have hP9 : va_P (dC, dI) classes (WX h g ca (u2 iv 9 3 (iv 9 3)) lv (u2 (u2 (u2 fa 9 0 (fa 9 0)) 9 1 (fa 9 1)) 9 2 (fa 9 2)) la) s.heap := hP
                have hD9 : va_D A (WX h g ca (u2 iv 9 3 (iv 9 3)) lv (u2 (u2 (u2 fa 9 0 (fa 9 0)) 9 1 (fa 9 1)) 9 2 (fa 9 2)) la) := hD
                exact W.iret (v := (-100004)) hx hb hr (fun t ht9 hW => ⟨⟨(-100004), ((u2 iv 9 3 (iv 9 3)), lv, (u2 (u2 (u2 fa 9 0 (fa 9 0)) 9 1 (fa 9 1)) 9 2 (fa 9 2)), la), rfl, ⟨(fa 9 0), (fa 9 1), (fa 9 2), (iv 9 3), (hI.1 9 3), (show ((((-100004) : Int32).toInt = -100002 ∧ ¬ (0 ≤ (a).toInt ∧ (a).toInt ≤ 3 ∧ 1 ≤ (b).toInt ∧ (b).toInt ≤ 9999 ∧ 1 ≤ (d).toInt ∧ (d).toInt ≤ 9999) ∧ ((iv 9 3) : Int32).toInt = (iv 9 3).toInt) ∨ (((-100004) : Int32).toInt = -100004 ∧ (0 ≤ (a).toInt ∧ (a).toInt ≤ 3 ∧ 1 ≤ (b).toInt ∧ (b).toInt ≤ 9999 ∧ 1 ≤ (d).toInt ∧ (d).toInt ≤ 9999) ∧ 30 ≤ (iv 9 3).toInt ∧ ((iv 9 3) : Int32).toInt = (iv 9 3).toInt) ∨ ((0 ≤ (a).toInt ∧ (a).toInt ≤ 3 ∧ 1 ≤ (b).toInt ∧ (b).toInt ≤ 9999 ∧ 1 ≤ (d).toInt ∧ (d).toInt ≤ 9999) ∧ (iv 9 3).toInt < 30 ∧ ((-100004) : Int32).toInt = (iv 9 3).toInt + 1 ∧ ((iv 9 3) : Int32).toInt = (iv 9 3).toInt + 1)) from by omega), (show ((((-100004) : Int32).toInt < 0 ∧ ∀ j : Nat, (fa 9 0) j = (fa 9 0) j ∧ (fa 9 1) j = (fa 9 1) j ∧ (fa 9 2) j = (fa 9 2) j) ∨ (0 ≤ ((-100004) : Int32).toInt ∧ (∀ j : Nat, j ≠ ((iv 9 3).toInt).toNat → (fa 9 0) j = (fa 9 0) j ∧ (fa 9 1) j = (fa 9 1) j ∧ (fa 9 2) j = (fa 9 2) j) ∧ (fa 9 0) ((iv 9 3).toInt).toNat = a ∧ (fa 9 1) ((iv 9 3).toInt).toNat = (iv 11 10) ∧ ((fa 9 2) ((iv 9 3).toInt).toNat).toInt = (b).toInt - (d).toInt)) from Or.inl ⟨by omega, fun j => ⟨rfl, rfl, rfl⟩⟩), ⟨by decide, by decide⟩, rfl⟩, by rw [ht9]; exact hP9, hD9⟩, hS.F ht9⟩) hS.2.2 dX11_test_48
            · exact absurd c6 (by decide)
          · skip
            refine lv_if_ne (tgt := 34) hx hb dX11_test_28 (by decide) (fun c14 => ?_) (fun c14 => ?_)
            · exact absurd rfl c14
            · skip
              refine lv_ldc hx hb hown (ht _ m_456) dX11_test_31 ?_
              have : ((-100002) : Int32).toInt = (-100002) := (by decide)
              have i_9_3 : 0 ≤ (iv 9 3).toInt ∧ (iv 9 3).toInt ≤ 30 := hI.1 9 3
              have hP9 : va_P (dC, dI) classes (WX h g ca (u2 iv 9 3 (iv 9 3)) lv (u2 (u2 (u2 fa 9 0 (fa 9 0)) 9 1 (fa 9 1)) 9 2 (fa 9 2)) la) s.heap := hP
              have hD9 : va_D A (WX h g ca (u2 iv 9 3 (iv 9 3)) lv (u2 (u2 (u2 fa 9 0 (fa 9 0)) 9 1 (fa 9 1)) 9 2 (fa 9 2)) la) := hD
              exact W.iret (v := (-100002)) hx hb hr (fun t ht9 hW => ⟨⟨(-100002), ((u2 iv 9 3 (iv 9 3)), lv, (u2 (u2 (u2 fa 9 0 (fa 9 0)) 9 1 (fa 9 1)) 9 2 (fa 9 2)), la), rfl, ⟨(fa 9 0), (fa 9 1), (fa 9 2), (iv 9 3), (hI.1 9 3), (show ((((-100002) : Int32).toInt = -100002 ∧ ¬ (0 ≤ (a).toInt ∧ (a).toInt ≤ 3 ∧ 1 ≤ (b).toInt ∧ (b).toInt ≤ 9999 ∧ 1 ≤ (d).toInt ∧ (d).toInt ≤ 9999) ∧ ((iv 9 3) : Int32).toInt = (iv 9 3).toInt) ∨ (((-100002) : Int32).toInt = -100004 ∧ (0 ≤ (a).toInt ∧ (a).toInt ≤ 3 ∧ 1 ≤ (b).toInt ∧ (b).toInt ≤ 9999 ∧ 1 ≤ (d).toInt ∧ (d).toInt ≤ 9999) ∧ 30 ≤ (iv 9 3).toInt ∧ ((iv 9 3) : Int32).toInt = (iv 9 3).toInt) ∨ ((0 ≤ (a).toInt ∧ (a).toInt ≤ 3 ∧ 1 ≤ (b).toInt ∧ (b).toInt ≤ 9999 ∧ 1 ≤ (d).toInt ∧ (d).toInt ≤ 9999) ∧ (iv 9 3).toInt < 30 ∧ ((-100002) : Int32).toInt = (iv 9 3).toInt + 1 ∧ ((iv 9 3) : Int32).toInt = (iv 9 3).toInt + 1)) from by omega), (show ((((-100002) : Int32).toInt < 0 ∧ ∀ j : Nat, (fa 9 0) j = (fa 9 0) j ∧ (fa 9 1) j = (fa 9 1) j ∧ (fa 9 2) j = (fa 9 2) j) ∨ (0 ≤ ((-100002) : Int32).toInt ∧ (∀ j : Nat, j ≠ ((iv 9 3).toInt).toNat → (fa 9 0) j = (fa 9 0) j ∧ (fa 9 1) j = (fa 9 1) j ∧ (fa 9 2) j = (fa 9 2) j) ∧ (fa 9 0) ((iv 9 3).toInt).toNat = a ∧ (fa 9 1) ((iv 9 3).toInt).toNat = (iv 11 10) ∧ ((fa 9 2) ((iv 9 3).toInt).toNat).toInt = (b).toInt - (d).toInt)) from Or.inl ⟨by omega, fun j => ⟨rfl, rfl, rfl⟩⟩), ⟨by decide, by decide⟩, rfl⟩, by rw [ht9]; exact hP9, hD9⟩, hS.F ht9⟩) hS.2.2 dX11_test_33
      · skip
        refine lv_if_eq (tgt := 31) hx hb dX11_test_17 (by decide) (fun c15 => ?_) (fun c15 => ?_)
        · skip
          refine lv_ldc hx hb hown (ht _ m_456) dX11_test_31 ?_
          have : ((-100002) : Int32).toInt = (-100002) := (by decide)
          have i_9_3 : 0 ≤ (iv 9 3).toInt ∧ (iv 9 3).toInt ≤ 30 := hI.1 9 3
          have hP9 : va_P (dC, dI) classes (WX h g ca (u2 iv 9 3 (iv 9 3)) lv (u2 (u2 (u2 fa 9 0 (fa 9 0)) 9 1 (fa 9 1)) 9 2 (fa 9 2)) la) s.heap := hP
          have hD9 : va_D A (WX h g ca (u2 iv 9 3 (iv 9 3)) lv (u2 (u2 (u2 fa 9 0 (fa 9 0)) 9 1 (fa 9 1)) 9 2 (fa 9 2)) la) := hD
          exact W.iret (v := (-100002)) hx hb hr (fun t ht9 hW => ⟨⟨(-100002), ((u2 iv 9 3 (iv 9 3)), lv, (u2 (u2 (u2 fa 9 0 (fa 9 0)) 9 1 (fa 9 1)) 9 2 (fa 9 2)), la), rfl, ⟨(fa 9 0), (fa 9 1), (fa 9 2), (iv 9 3), (hI.1 9 3), (show ((((-100002) : Int32).toInt = -100002 ∧ ¬ (0 ≤ (a).toInt ∧ (a).toInt ≤ 3 ∧ 1 ≤ (b).toInt ∧ (b).toInt ≤ 9999 ∧ 1 ≤ (d).toInt ∧ (d).toInt ≤ 9999) ∧ ((iv 9 3) : Int32).toInt = (iv 9 3).toInt) ∨ (((-100002) : Int32).toInt = -100004 ∧ (0 ≤ (a).toInt ∧ (a).toInt ≤ 3 ∧ 1 ≤ (b).toInt ∧ (b).toInt ≤ 9999 ∧ 1 ≤ (d).toInt ∧ (d).toInt ≤ 9999) ∧ 30 ≤ (iv 9 3).toInt ∧ ((iv 9 3) : Int32).toInt = (iv 9 3).toInt) ∨ ((0 ≤ (a).toInt ∧ (a).toInt ≤ 3 ∧ 1 ≤ (b).toInt ∧ (b).toInt ≤ 9999 ∧ 1 ≤ (d).toInt ∧ (d).toInt ≤ 9999) ∧ (iv 9 3).toInt < 30 ∧ ((-100002) : Int32).toInt = (iv 9 3).toInt + 1 ∧ ((iv 9 3) : Int32).toInt = (iv 9 3).toInt + 1)) from by omega), (show ((((-100002) : Int32).toInt < 0 ∧ ∀ j : Nat, (fa 9 0) j = (fa 9 0) j ∧ (fa 9 1) j = (fa 9 1) j ∧ (fa 9 2) j = (fa 9 2) j) ∨ (0 ≤ ((-100002) : Int32).toInt ∧ (∀ j : Nat, j ≠ ((iv 9 3).toInt).toNat → (fa 9 0) j = (fa 9 0) j ∧ (fa 9 1) j = (fa 9 1) j ∧ (fa 9 2) j = (fa 9 2) j) ∧ (fa 9 0) ((iv 9 3).toInt).toNat = a ∧ (fa 9 1) ((iv 9 3).toInt).toNat = (iv 11 10) ∧ ((fa 9 2) ((iv 9 3).toInt).toNat).toInt = (b).toInt - (d).toInt)) from Or.inl ⟨by omega, fun j => ⟨rfl, rfl, rfl⟩⟩), ⟨by decide, by decide⟩, rfl⟩, by rw [ht9]; exact hP9, hD9⟩, hS.F ht9⟩) hS.2.2 dX11_test_33
        · exact absurd rfl c15
  · skip
    refine lv_if_eq (tgt := 31) hx hb dX11_test_6 (by decide) (fun c16 => ?_) (fun c16 => ?_)
    · skip
      refine lv_ldc hx hb hown (ht _ m_456) dX11_test_31 ?_
      have : ((-100002) : Int32).toInt = (-100002) := (by decide)
      have i_9_3 : 0 ≤ (iv 9 3).toInt ∧ (iv 9 3).toInt ≤ 30 := hI.1 9 3
      have hP9 : va_P (dC, dI) classes (WX h g ca (u2 iv 9 3 (iv 9 3)) lv (u2 (u2 (u2 fa 9 0 (fa 9 0)) 9 1 (fa 9 1)) 9 2 (fa 9 2)) la) s.heap := hP
      have hD9 : va_D A (WX h g ca (u2 iv 9 3 (iv 9 3)) lv (u2 (u2 (u2 fa 9 0 (fa 9 0)) 9 1 (fa 9 1)) 9 2 (fa 9 2)) la) := hD
      exact W.iret (v := (-100002)) hx hb hr (fun t ht9 hW => ⟨⟨(-100002), ((u2 iv 9 3 (iv 9 3)), lv, (u2 (u2 (u2 fa 9 0 (fa 9 0)) 9 1 (fa 9 1)) 9 2 (fa 9 2)), la), rfl, ⟨(fa 9 0), (fa 9 1), (fa 9 2), (iv 9 3), (hI.1 9 3), (show ((((-100002) : Int32).toInt = -100002 ∧ ¬ (0 ≤ (a).toInt ∧ (a).toInt ≤ 3 ∧ 1 ≤ (b).toInt ∧ (b).toInt ≤ 9999 ∧ 1 ≤ (d).toInt ∧ (d).toInt ≤ 9999) ∧ ((iv 9 3) : Int32).toInt = (iv 9 3).toInt) ∨ (((-100002) : Int32).toInt = -100004 ∧ (0 ≤ (a).toInt ∧ (a).toInt ≤ 3 ∧ 1 ≤ (b).toInt ∧ (b).toInt ≤ 9999 ∧ 1 ≤ (d).toInt ∧ (d).toInt ≤ 9999) ∧ 30 ≤ (iv 9 3).toInt ∧ ((iv 9 3) : Int32).toInt = (iv 9 3).toInt) ∨ ((0 ≤ (a).toInt ∧ (a).toInt ≤ 3 ∧ 1 ≤ (b).toInt ∧ (b).toInt ≤ 9999 ∧ 1 ≤ (d).toInt ∧ (d).toInt ≤ 9999) ∧ (iv 9 3).toInt < 30 ∧ ((-100002) : Int32).toInt = (iv 9 3).toInt + 1 ∧ ((iv 9 3) : Int32).toInt = (iv 9 3).toInt + 1)) from by omega), (show ((((-100002) : Int32).toInt < 0 ∧ ∀ j : Nat, (fa 9 0) j = (fa 9 0) j ∧ (fa 9 1) j = (fa 9 1) j ∧ (fa 9 2) j = (fa 9 2) j) ∨ (0 ≤ ((-100002) : Int32).toInt ∧ (∀ j : Nat, j ≠ ((iv 9 3).toInt).toNat → (fa 9 0) j = (fa 9 0) j ∧ (fa 9 1) j = (fa 9 1) j ∧ (fa 9 2) j = (fa 9 2) j) ∧ (fa 9 0) ((iv 9 3).toInt).toNat = a ∧ (fa 9 1) ((iv 9 3).toInt).toNat = (iv 11 10) ∧ ((fa 9 2) ((iv 9 3).toInt).toNat).toInt = (b).toInt - (d).toInt)) from Or.inl ⟨by omega, fun j => ⟨rfl, rfl, rfl⟩⟩), ⟨by decide, by decide⟩, rfl⟩, by rw [ht9]; exact hP9, hD9⟩, hS.F ht9⟩) hS.2.2 dX11_test_33
    · exact absurd rfl c16
set_option maxHeartbeats 4000000 in
set_option maxRecDepth 100000 in
/-- X12_test -/
theorem c_X12_test_x (l : Launch) (dC : Nat → ClassId) (dI : Nat → Nat → Nat) (sz : Nat) (h : Nat) (g : Nat → Nat → Nat) (ca : Nat → Nat → ClassId) (iv : Nat → Nat → Int32) (lv : Nat → Nat → Int64) (fa : Nat → Nat → Nat → Int32) (la : Nat → Nat → Nat → Int64) (hI : IX iv fa) (a : Int32) (b : Int32) (d : Int32) : Met l yX12_test (wc yX12_test cX12_test 4 (some .int)) ({ frames := 2, cells := 0, slots := 0, locals := 45 } : Room) (pW (dC, dI) classes (WM h g ca iv lv fa la) (TM ca) sz [.ref h, .int a, .int b, .int d]) (va_Qi (fun r (u : SS) => ∃ (na_12_14 : Nat → Int32) (na_12_15 : Nat → Int32) (na_12_16 : Nat → Int32) (ni_12_13 : Int32), inb (bI 12 13) ni_12_13 ∧ (((r.toInt = -100002 ∧ ¬ (0 ≤ a.toInt ∧ a.toInt ≤ 3 ∧ 1 ≤ b.toInt ∧ b.toInt ≤ 9999 ∧ 1 ≤ d.toInt ∧ d.toInt ≤ 9999) ∧ (ni_12_13).toInt = (iv 12 13).toInt) ∨ (r.toInt = -100004 ∧ (0 ≤ a.toInt ∧ a.toInt ≤ 3 ∧ 1 ≤ b.toInt ∧ b.toInt ≤ 9999 ∧ 1 ≤ d.toInt ∧ d.toInt ≤ 9999) ∧ 30 ≤ (iv 12 13).toInt ∧ (ni_12_13).toInt = (iv 12 13).toInt) ∨ ((0 ≤ a.toInt ∧ a.toInt ≤ 3 ∧ 1 ≤ b.toInt ∧ b.toInt ≤ 9999 ∧ 1 ≤ d.toInt ∧ d.toInt ≤ 9999) ∧ (iv 12 13).toInt < 30 ∧ r.toInt = (iv 12 13).toInt + 1 ∧ (ni_12_13).toInt = (iv 12 13).toInt + 1))) ∧ (((r.toInt < 0 ∧ ∀ j : Nat, na_12_14 j = (fa 12 14) j ∧ na_12_16 j = (fa 12 16) j ∧ na_12_15 j = (fa 12 15) j) ∨ (0 ≤ r.toInt ∧ (∀ j : Nat, j ≠ ((iv 12 13).toInt).toNat → na_12_14 j = (fa 12 14) j ∧ na_12_16 j = (fa 12 16) j ∧ na_12_15 j = (fa 12 15) j) ∧ na_12_14 ((iv 12 13).toInt).toNat = a ∧ na_12_16 ((iv 12 13).toInt).toNat = (iv 12 0) ∧ (na_12_15 ((iv 12 13).toInt).toNat).toInt = b.toInt - d.toInt))) ∧ ((-100004) ≤ r.toInt ∧ r.toInt ≤ 30) ∧ u = ((u2 iv 12 13 ni_12_13), lv, (u2 (u2 (u2 fa 12 14 na_12_14) 12 15 na_12_15) 12 16 na_12_16), la)) (bM (dC, dI) h g ca (va_A (WM h g ca iv lv fa la) sz)) (va_A (WM h g ca iv lv fa la) sz)) 0 0 (va_A (WM h g ca iv lv fa la) sz) := by
  refine Met.ofW (cc := cX12_test) (maxL := 4) (ret := (some .int)) (by decide) rfl ?_
  intro p e s m args below meth c s₁ B hml hv
  obtain ⟨rfl, hsz, hP, hK, hD0⟩ := hv
  have hx := B.exec
  have hb := B.bytes
  have hr := B.returns
  have ht := tb_tl (atoms_spec (ws := wc yX12_test cX12_test 4 (some .int)) B.pre)
  have hown : s.vm.findClass RX12 = some m.cls := findClass_of_methodNamed B.named
  have hlocks := B.notSynchronized
  subst hsz
  have hD := hD0.self (sz := s.heap.size)
  generalize hAe : va_A (WM h g ca iv lv fa la) s.heap.size = A at hD ⊢
  have hA : ∀ q : Nat, s.heap.size ≤ q → A q := fun q h => by rw [← hAe]; exact Or.inr h
  have hS : va_S A s.heap s.heap [] := va_S.rf
  have hl := lv_entry [.ref h, .int a, .int b, .int d] (n := 4) (Nat.le_of_ble_eq_true rfl)
  rw [lg_entry_eq]
  generalize (lg_sl [.ref h, .int a, .int b, .int d] ++ List.replicate (4 - (lg_sl [.ref h, .int a, .int b, .int d]).length) Slot.unset).toArray = ls at hl ⊢
  have hl : lv_has ls 4 [(0, .ref h), (1, .int a), (2, .int b), (3, .int d)] := hl
  refine lv_iload_n hx hb dX12_test_0 rfl (lv_at hl 1 rfl) ?_
  refine lv_i2l (v := (a.toInt64)) hx hb dX12_test_1 rfl ?_
  refine lv_lconst (v := 0) hx hb dX12_test_2 (by decide) ?_
  refine lv_ldc2 hx hb hown (ht _ m_1391) dX12_test_3 ?_
  refine vp_callSi (W.runS (As := [.long (a.toInt64), .long 0, .long 3]) (rest := []) ⟨hx, hb, hml, hown, ht⟩ (c_X12_in l dC dI (a.toInt64) 0 3 (a.toInt) (0) (3) ((Int32.toInt_toInt64 a).trans rfl) (by decide : (0 : Int64).toInt = 0) (by decide : (3 : Int64).toInt = 3)) (kS 3 ht m_1370 m_1371 m_89 m_1372 rfl rfl hd_X12_in_v ⟨Nat.le_of_ble_eq_true rfl, Nat.le_of_ble_eq_true rfl⟩) (sR noP (hK.sub (tys' := []) [] rfl)) rfl rfl hl.1 rfl (lv_room (Nat.le_of_ble_eq_true rfl)) dX12_test_6 ⟨Nat.le_of_ble_eq_true rfl, Nat.le_of_ble_eq_true rfl⟩) (fun r1 hr1 => ?_)
  rcases hr1 with ⟨rfl, fr1⟩ | ⟨rfl, fr1⟩
  · skip
    refine lv_if_eq (tgt := 26) hx hb dX12_test_9 (by decide) (fun c2 => ?_) (fun c2 => ?_)
    · exact absurd c2 (by decide)
    · skip
      refine lv_iload_n hx hb dX12_test_12 rfl (lv_at hl 2 rfl) ?_
      refine vp_callSi (W.runS (As := [.int b]) (rest := []) ⟨hx, hb, hml, hown, ht⟩ (c_X12_isWeight l dC dI b) (kS 1 ht m_1415 m_1416 m_89 m_1417 rfl rfl hd_X12_isWeight_v ⟨Nat.le_of_ble_eq_true rfl, Nat.le_of_ble_eq_true rfl⟩) (sR noP (hK.sub (tys' := []) [] rfl)) rfl rfl hl.1 rfl (lv_room (Nat.le_of_ble_eq_true rfl)) dX12_test_13 ⟨Nat.le_of_ble_eq_true rfl, Nat.le_of_ble_eq_true rfl⟩) (fun r3 hr3 => ?_)
      rcases hr3 with ⟨rfl, fr3⟩ | ⟨rfl, fr3⟩
      · skip
        refine lv_if_eq (tgt := 26) hx hb dX12_test_16 (by decide) (fun c4 => ?_) (fun c4 => ?_)
        · exact absurd c4 (by decide)
        · skip
          refine lv_iload_n hx hb dX12_test_19 rfl (lv_at hl 3 rfl) ?_
          refine vp_callSi (W.runS (As := [.int d]) (rest := []) ⟨hx, hb, hml, hown, ht⟩ (c_X12_isWeight l dC dI d) (kS 1 ht m_1415 m_1416 m_89 m_1417 rfl rfl hd_X12_isWeight_v ⟨Nat.le_of_ble_eq_true rfl, Nat.le_of_ble_eq_true rfl⟩) (sR noP (hK.sub (tys' := []) [] rfl)) rfl rfl hl.1 rfl (lv_room (Nat.le_of_ble_eq_true rfl)) dX12_test_20 ⟨Nat.le_of_ble_eq_true rfl, Nat.le_of_ble_eq_true rfl⟩) (fun r5 hr5 => ?_)
          rcases hr5 with ⟨rfl, fr5⟩ | ⟨rfl, fr5⟩
          · skip
            refine lv_if_ne (tgt := 29) hx hb dX12_test_23 (by decide) (fun c6 => ?_) (fun c6 => ?_)
            · skip
              refine lv_aload_n hx hb dX12_test_29 rfl (lv_at hl 0 rfl) ?_
              have i_12_13 : 0 ≤ (iv 12 13).toInt ∧ (iv 12 13).toInt ≤ 30 := hI.1 12 13
              refine gM_12_13 hx hb ht hown hK hP m_1152 (v := (iv 12 13)) rfl dX12_test_30 ?_
              refine lv_bipush (v := 30) hx hb dX12_test_33 (by decide) ?_
              refine lv_icmp_ne (tgt := 41) hx hb dX12_test_35 (by decide) (fun c7 => ?_) (fun c7 => ?_)
              · have fc7 := z_ne (rfl : ((iv 12 13)).toInt = _) (by decide : (30 : Int32).toInt = 30) c7
                refine lv_aload_n hx hb dX12_test_41 rfl (lv_at hl 0 rfl) ?_
                refine gM_12_14 hx hb ht hown hK hP m_1153 dX12_test_42 ?_
                refine lv_aload_n hx hb dX12_test_45 rfl (lv_at hl 0 rfl) ?_
                refine gM_12_13 hx hb ht hown hK hP m_1152 (v := (iv 12 13)) rfl dX12_test_46 ?_
                refine lv_iload_n hx hb dX12_test_49 rfl (lv_at hl 1 rfl) ?_
                refine tM_12_14 hx hb hK hP hD hS (f0 := (fa 12 14)) rfl (i := (iv 12 13)) (x := a) (vp_in_iff.mpr ⟨by omega, by omega⟩) dX12_test_50 (fun f8 ef8 H locs hP hD hS => ?_)
                have hf8 : ∀ j, inb (bA 12 14 j) (f8 j) := fun j => full_i _
                refine lv_aload_n hx hb dX12_test_51 rfl (lv_at hl 0 rfl) ?_
                refine gM_12_15 hx hb ht hown hK hP m_1154 dX12_test_52 ?_
                refine lv_aload_n hx hb dX12_test_55 rfl (lv_at hl 0 rfl) ?_
                refine gM_12_13 hx hb ht hown hK hP m_1152 (v := (iv 12 13)) rfl dX12_test_56 ?_
                refine lv_iload_n hx hb dX12_test_59 rfl (lv_at hl 2 rfl) ?_
                refine lv_iload_n hx hb dX12_test_60 rfl (lv_at hl 3 rfl) ?_
                refine lv_isub hx hb dX12_test_61 ?_
                refine lv_topi (fun v9 ev9 => ?_)
                have tv9 := z_sub ev9 (rfl : (b).toInt = _) (rfl : (d).toInt = _) (by omega) (by omega)
                refine tM_12_15 hx hb hK hP hD hS (f0 := (fa 12 15)) rfl (i := (iv 12 13)) (x := v9) (vp_in_iff.mpr ⟨by omega, by omega⟩) dX12_test_62 (fun f10 ef10 H locs hP hD hS => ?_)
                have hf10 : ∀ j, inb (bA 12 15 j) (f10 j) := fun j => full_i _
                refine lv_aload_n hx hb dX12_test_63 rfl (lv_at hl 0 rfl) ?_
                refine gM_12_16 hx hb ht hown hK hP m_1155 dX12_test_64 ?_
                refine lv_aload_n hx hb dX12_test_67 rfl (lv_at hl 0 rfl) ?_
                refine gM_12_13 hx hb ht hown hK hP m_1152 (v := (iv 12 13)) rfl dX12_test_68 ?_
                refine lv_aload_n hx hb dX12_test_71 rfl (lv_at hl 0 rfl) ?_
                have i_12_0 : 0 ≤ (iv 12 0).toInt ∧ (iv 12 0).toInt ≤ 3000 := hI.1 12 0
                refine gM_12_0 hx hb ht hown hK hP m_1139 (v := (iv 12 0)) rfl dX12_test_72 ?_
                refine tM_12_16 hx hb hK hP hD hS (f0 := (fa 12 16)) rfl (i := (iv 12 13)) (x := (iv 12 0)) (vp_in_iff.mpr ⟨by omega, by omega⟩) dX12_test_75 (fun f11 ef11 H locs hP hD hS => ?_)
                have hf11 : ∀ j, inb (bA 12 16 j) (f11 j) := fun j => full_i _
                refine lv_aload_n hx hb dX12_test_76 rfl (lv_at hl 0 rfl) ?_
                refine lv_dup hx hb dX12_test_77 rfl ?_
                refine gM_12_13 hx hb ht hown hK hP m_1152 (v := (iv 12 13)) rfl dX12_test_78 ?_
                refine lv_iconst (v := 1) hx hb dX12_test_81 (by decide) ?_
                refine lv_iadd hx hb dX12_test_82 ?_
                refine lv_topi (fun v12 ev12 => ?_)
                have tv12 := z_add ev12 (rfl : ((iv 12 13)).toInt = _) (by decide : (1 : Int32).toInt = 1) (by omega) (by omega)
                refine pM_12_13 (v := v12) hx hb ht hown hK hP hD hS m_1152 dX12_test_83 (fun H locs hP hD hS => ?_)
                refine lv_aload_n hx hb dX12_test_86 rfl (lv_at hl 0 rfl) ?_
                refine gM_12_13 hx hb ht hown hK hP m_1152 (v := v12) rfl dX12_test_87 ?_
                have hP9 : va_P (dC, dI) classes (WM h g ca (u2 iv 12 13 v12) lv (u2 (u2 (u2 fa 12 14 f8) 12 15 f10) 12 16 f11) la) H := hP
                have hD9 : va_D A (WM h g ca (u2 iv 12 13 v12) lv (u2 (u2 (u2 fa 12 14 f8) 12 15 f10) 12 16 f11) la) := hD
                exact W.iret (v := v12) hx hb hr (fun t ht9 hW => ⟨⟨v12, ((u2 iv 12 13 v12), lv, (u2 (u2 (u2 fa 12 14 f8) 12 15 f10) 12 16 f11), la), rfl, ⟨f8, f10, f11, v12, (show inb (0, 30) v12 from ⟨by omega, by omega⟩), (show (((v12 : Int32).toInt = -100002 ∧ ¬ (0 ≤ (a).toInt ∧ (a).toInt ≤ 3 ∧ 1 ≤ (b).toInt ∧ (b).toInt ≤ 9999 ∧ 1 ≤ (d).toInt ∧ (d).toInt ≤ 9999) ∧ (v12 : Int32).toInt = (iv 12 13).toInt) ∨ ((v12 : Int32).toInt = -100004 ∧ (0 ≤ (a).toInt ∧ (a).toInt ≤ 3 ∧ 1 ≤ (b).toInt ∧ (b).toInt ≤ 9999 ∧ 1 ≤ (d).toInt ∧ (d).toInt ≤ 9999) ∧ 30 ≤ (iv 12 13).toInt ∧ (v12 : Int32).toInt = (iv 12 13).toInt) ∨ ((0 ≤ (a).toInt ∧ (a).toInt ≤ 3 ∧ 1 ≤ (b).toInt ∧ (b).toInt ≤ 9999 ∧ 1 ≤ (d).toInt ∧ (d).toInt ≤ 9999) ∧ (iv 12 13).toInt < 30 ∧ (v12 : Int32).toInt = (iv 12 13).toInt + 1 ∧ (v12 : Int32).toInt = (iv 12 13).toInt + 1)) from by omega), (show (((v12 : Int32).toInt < 0 ∧ ∀ j : Nat, f8 j = (fa 12 14) j ∧ f11 j = (fa 12 16) j ∧ f10 j = (fa 12 15) j) ∨ (0 ≤ (v12 : Int32).toInt ∧ (∀ j : Nat, j ≠ ((iv 12 13).toInt).toNat → f8 j = (fa 12 14) j ∧ f11 j = (fa 12 16) j ∧ f10 j = (fa 12 15) j) ∧ f8 ((iv 12 13).toInt).toNat = a ∧ f11 ((iv 12 13).toInt).toNat = (iv 12 0) ∧ (f10 ((iv 12 13).toInt).toNat).toInt = (b).toInt - (d).toInt)) from Or.inr ⟨by omega, fun j hj => ⟨(by rw [ef8, upd_ne (show j ≠ ((iv 12 13) : Int32).toNatClampNeg from hj)]), (by rw [ef11, upd_ne (show j ≠ ((iv 12 13) : Int32).toNatClampNeg from hj)]), (by rw [ef10, upd_ne (show j ≠ ((iv 12 13) : Int32).toNatClampNeg from hj)])⟩, (by rw [ef8]; exact upd_eq), (by rw [ef11]; exact upd_eq), (by rw [ef10]; exact (congrArg Int32.toInt upd_eq).trans (by omega))⟩), ⟨by omega, by omega⟩, rfl⟩, by rw [ht9]; exact hP9, hD9⟩, hS.F ht9⟩) hS.2.2 dX12_test_90
              · have fc7 := z_eq (rfl : ((iv 12 13)).toInt = _) (by decide : (30 : Int32).toInt = 30) c7
                refine lv_ldc hx hb hown (ht _ m_1380) dX12_test_38 ?_
                have : ((-100004) : Int32).toInt = (-100004) := (by decide)
                have hP9 : va_P (dC, dI) classes (WM h g ca (u2 iv 12 13 (iv 12 13)) lv (u2 (u2 (u2 fa 12 14 (fa 12 14)) 12 15 (fa 12 15)) 12 16 (fa 12 16)) la) s.heap := hP
                have hD9 : va_D A (WM h g ca (u2 iv 12 13 (iv 12 13)) lv (u2 (u2 (u2 fa 12 14 (fa 12 14)) 12 15 (fa 12 15)) 12 16 (fa 12 16)) la) := hD
                exact W.iret (v := (-100004)) hx hb hr (fun t ht9 hW => ⟨⟨(-100004), ((u2 iv 12 13 (iv 12 13)), lv, (u2 (u2 (u2 fa 12 14 (fa 12 14)) 12 15 (fa 12 15)) 12 16 (fa 12 16)), la), rfl, ⟨(fa 12 14), (fa 12 15), (fa 12 16), (iv 12 13), (hI.1 12 13), (show ((((-100004) : Int32).toInt = -100002 ∧ ¬ (0 ≤ (a).toInt ∧ (a).toInt ≤ 3 ∧ 1 ≤ (b).toInt ∧ (b).toInt ≤ 9999 ∧ 1 ≤ (d).toInt ∧ (d).toInt ≤ 9999) ∧ ((iv 12 13) : Int32).toInt = (iv 12 13).toInt) ∨ (((-100004) : Int32).toInt = -100004 ∧ (0 ≤ (a).toInt ∧ (a).toInt ≤ 3 ∧ 1 ≤ (b).toInt ∧ (b).toInt ≤ 9999 ∧ 1 ≤ (d).toInt ∧ (d).toInt ≤ 9999) ∧ 30 ≤ (iv 12 13).toInt ∧ ((iv 12 13) : Int32).toInt = (iv 12 13).toInt) ∨ ((0 ≤ (a).toInt ∧ (a).toInt ≤ 3 ∧ 1 ≤ (b).toInt ∧ (b).toInt ≤ 9999 ∧ 1 ≤ (d).toInt ∧ (d).toInt ≤ 9999) ∧ (iv 12 13).toInt < 30 ∧ ((-100004) : Int32).toInt = (iv 12 13).toInt + 1 ∧ ((iv 12 13) : Int32).toInt = (iv 12 13).toInt + 1)) from by omega), (show ((((-100004) : Int32).toInt < 0 ∧ ∀ j : Nat, (fa 12 14) j = (fa 12 14) j ∧ (fa 12 16) j = (fa 12 16) j ∧ (fa 12 15) j = (fa 12 15) j) ∨ (0 ≤ ((-100004) : Int32).toInt ∧ (∀ j : Nat, j ≠ ((iv 12 13).toInt).toNat → (fa 12 14) j = (fa 12 14) j ∧ (fa 12 16) j = (fa 12 16) j ∧ (fa 12 15) j = (fa 12 15) j) ∧ (fa 12 14) ((iv 12 13).toInt).toNat = a ∧ (fa 12 16) ((iv 12 13).toInt).toNat = (iv 12 0) ∧ ((fa 12 15) ((iv 12 13).toInt).toNat).toInt = (b).toInt - (d).toInt)) from Or.inl ⟨by omega, fun j => ⟨rfl, rfl, rfl⟩⟩), ⟨by decide, by decide⟩, rfl⟩, by rw [ht9]; exact hP9, hD9⟩, hS.F ht9⟩) hS.2.2 dX12_test_40
            · exact absurd c6 (by decide)
          · skip
            refine lv_if_ne (tgt := 29) hx hb dX12_test_23 (by decide) (fun c13 => ?_) (fun c13 => ?_)
            · exact absurd rfl c13
            · skip
              refine lv_ldc hx hb hown (ht _ m_1373) dX12_test_26 ?_
              have : ((-100002) : Int32).toInt = (-100002) := (by decide)
              have i_12_13 : 0 ≤ (iv 12 13).toInt ∧ (iv 12 13).toInt ≤ 30 := hI.1 12 13
              have hP9 : va_P (dC, dI) classes (WM h g ca (u2 iv 12 13 (iv 12 13)) lv (u2 (u2 (u2 fa 12 14 (fa 12 14)) 12 15 (fa 12 15)) 12 16 (fa 12 16)) la) s.heap := hP
              have hD9 : va_D A (WM h g ca (u2 iv 12 13 (iv 12 13)) lv (u2 (u2 (u2 fa 12 14 (fa 12 14)) 12 15 (fa 12 15)) 12 16 (fa 12 16)) la) := hD
              exact W.iret (v := (-100002)) hx hb hr (fun t ht9 hW => ⟨⟨(-100002), ((u2 iv 12 13 (iv 12 13)), lv, (u2 (u2 (u2 fa 12 14 (fa 12 14)) 12 15 (fa 12 15)) 12 16 (fa 12 16)), la), rfl, ⟨(fa 12 14), (fa 12 15), (fa 12 16), (iv 12 13), (hI.1 12 13), (show ((((-100002) : Int32).toInt = -100002 ∧ ¬ (0 ≤ (a).toInt ∧ (a).toInt ≤ 3 ∧ 1 ≤ (b).toInt ∧ (b).toInt ≤ 9999 ∧ 1 ≤ (d).toInt ∧ (d).toInt ≤ 9999) ∧ ((iv 12 13) : Int32).toInt = (iv 12 13).toInt) ∨ (((-100002) : Int32).toInt = -100004 ∧ (0 ≤ (a).toInt ∧ (a).toInt ≤ 3 ∧ 1 ≤ (b).toInt ∧ (b).toInt ≤ 9999 ∧ 1 ≤ (d).toInt ∧ (d).toInt ≤ 9999) ∧ 30 ≤ (iv 12 13).toInt ∧ ((iv 12 13) : Int32).toInt = (iv 12 13).toInt) ∨ ((0 ≤ (a).toInt ∧ (a).toInt ≤ 3 ∧ 1 ≤ (b).toInt ∧ (b).toInt ≤ 9999 ∧ 1 ≤ (d).toInt ∧ (d).toInt ≤ 9999) ∧ (iv 12 13).toInt < 30 ∧ ((-100002) : Int32).toInt = (iv 12 13).toInt + 1 ∧ ((iv 12 13) : Int32).toInt = (iv 12 13).toInt + 1)) from by omega), (show ((((-100002) : Int32).toInt < 0 ∧ ∀ j : Nat, (fa 12 14) j = (fa 12 14) j ∧ (fa 12 16) j = (fa 12 16) j ∧ (fa 12 15) j = (fa 12 15) j) ∨ (0 ≤ ((-100002) : Int32).toInt ∧ (∀ j : Nat, j ≠ ((iv 12 13).toInt).toNat → (fa 12 14) j = (fa 12 14) j ∧ (fa 12 16) j = (fa 12 16) j ∧ (fa 12 15) j = (fa 12 15) j) ∧ (fa 12 14) ((iv 12 13).toInt).toNat = a ∧ (fa 12 16) ((iv 12 13).toInt).toNat = (iv 12 0) ∧ ((fa 12 15) ((iv 12 13).toInt).toNat).toInt = (b).toInt - (d).toInt)) from Or.inl ⟨by omega, fun j => ⟨rfl, rfl, rfl⟩⟩), ⟨by decide, by decide⟩, rfl⟩, by rw [ht9]; exact hP9, hD9⟩, hS.F ht9⟩) hS.2.2 dX12_test_28
      · skip
        refine lv_if_eq (tgt := 26) hx hb dX12_test_16 (by decide) (fun c14 => ?_) (fun c14 => ?_)
        · skip
          refine lv_ldc hx hb hown (ht _ m_1373) dX12_test_26 ?_
          have : ((-100002) : Int32).toInt = (-100002) := (by decide)
          have i_12_13 : 0 ≤ (iv 12 13).toInt ∧ (iv 12 13).toInt ≤ 30 := hI.1 12 13
          have hP9 : va_P (dC, dI) classes (WM h g ca (u2 iv 12 13 (iv 12 13)) lv (u2 (u2 (u2 fa 12 14 (fa 12 14)) 12 15 (fa 12 15)) 12 16 (fa 12 16)) la) s.heap := hP
          have hD9 : va_D A (WM h g ca (u2 iv 12 13 (iv 12 13)) lv (u2 (u2 (u2 fa 12 14 (fa 12 14)) 12 15 (fa 12 15)) 12 16 (fa 12 16)) la) := hD
          exact W.iret (v := (-100002)) hx hb hr (fun t ht9 hW => ⟨⟨(-100002), ((u2 iv 12 13 (iv 12 13)), lv, (u2 (u2 (u2 fa 12 14 (fa 12 14)) 12 15 (fa 12 15)) 12 16 (fa 12 16)), la), rfl, ⟨(fa 12 14), (fa 12 15), (fa 12 16), (iv 12 13), (hI.1 12 13), (show ((((-100002) : Int32).toInt = -100002 ∧ ¬ (0 ≤ (a).toInt ∧ (a).toInt ≤ 3 ∧ 1 ≤ (b).toInt ∧ (b).toInt ≤ 9999 ∧ 1 ≤ (d).toInt ∧ (d).toInt ≤ 9999) ∧ ((iv 12 13) : Int32).toInt = (iv 12 13).toInt) ∨ (((-100002) : Int32).toInt = -100004 ∧ (0 ≤ (a).toInt ∧ (a).toInt ≤ 3 ∧ 1 ≤ (b).toInt ∧ (b).toInt ≤ 9999 ∧ 1 ≤ (d).toInt ∧ (d).toInt ≤ 9999) ∧ 30 ≤ (iv 12 13).toInt ∧ ((iv 12 13) : Int32).toInt = (iv 12 13).toInt) ∨ ((0 ≤ (a).toInt ∧ (a).toInt ≤ 3 ∧ 1 ≤ (b).toInt ∧ (b).toInt ≤ 9999 ∧ 1 ≤ (d).toInt ∧ (d).toInt ≤ 9999) ∧ (iv 12 13).toInt < 30 ∧ ((-100002) : Int32).toInt = (iv 12 13).toInt + 1 ∧ ((iv 12 13) : Int32).toInt = (iv 12 13).toInt + 1)) from by omega), (show ((((-100002) : Int32).toInt < 0 ∧ ∀ j : Nat, (fa 12 14) j = (fa 12 14) j ∧ (fa 12 16) j = (fa 12 16) j ∧ (fa 12 15) j = (fa 12 15) j) ∨ (0 ≤ ((-100002) : Int32).toInt ∧ (∀ j : Nat, j ≠ ((iv 12 13).toInt).toNat → (fa 12 14) j = (fa 12 14) j ∧ (fa 12 16) j = (fa 12 16) j ∧ (fa 12 15) j = (fa 12 15) j) ∧ (fa 12 14) ((iv 12 13).toInt).toNat = a ∧ (fa 12 16) ((iv 12 13).toInt).toNat = (iv 12 0) ∧ ((fa 12 15) ((iv 12 13).toInt).toNat).toInt = (b).toInt - (d).toInt)) from Or.inl ⟨by omega, fun j => ⟨rfl, rfl, rfl⟩⟩), ⟨by decide, by decide⟩, rfl⟩, by rw [ht9]; exact hP9, hD9⟩, hS.F ht9⟩) hS.2.2 dX12_test_28
        · exact absurd rfl c14
  · skip
    refine lv_if_eq (tgt := 26) hx hb dX12_test_9 (by decide) (fun c15 => ?_) (fun c15 => ?_)
    · skip
      refine lv_ldc hx hb hown (ht _ m_1373) dX12_test_26 ?_
      have : ((-100002) : Int32).toInt = (-100002) := (by decide)
      have i_12_13 : 0 ≤ (iv 12 13).toInt ∧ (iv 12 13).toInt ≤ 30 := hI.1 12 13
      have hP9 : va_P (dC, dI) classes (WM h g ca (u2 iv 12 13 (iv 12 13)) lv (u2 (u2 (u2 fa 12 14 (fa 12 14)) 12 15 (fa 12 15)) 12 16 (fa 12 16)) la) s.heap := hP
      have hD9 : va_D A (WM h g ca (u2 iv 12 13 (iv 12 13)) lv (u2 (u2 (u2 fa 12 14 (fa 12 14)) 12 15 (fa 12 15)) 12 16 (fa 12 16)) la) := hD
      exact W.iret (v := (-100002)) hx hb hr (fun t ht9 hW => ⟨⟨(-100002), ((u2 iv 12 13 (iv 12 13)), lv, (u2 (u2 (u2 fa 12 14 (fa 12 14)) 12 15 (fa 12 15)) 12 16 (fa 12 16)), la), rfl, ⟨(fa 12 14), (fa 12 15), (fa 12 16), (iv 12 13), (hI.1 12 13), (show ((((-100002) : Int32).toInt = -100002 ∧ ¬ (0 ≤ (a).toInt ∧ (a).toInt ≤ 3 ∧ 1 ≤ (b).toInt ∧ (b).toInt ≤ 9999 ∧ 1 ≤ (d).toInt ∧ (d).toInt ≤ 9999) ∧ ((iv 12 13) : Int32).toInt = (iv 12 13).toInt) ∨ (((-100002) : Int32).toInt = -100004 ∧ (0 ≤ (a).toInt ∧ (a).toInt ≤ 3 ∧ 1 ≤ (b).toInt ∧ (b).toInt ≤ 9999 ∧ 1 ≤ (d).toInt ∧ (d).toInt ≤ 9999) ∧ 30 ≤ (iv 12 13).toInt ∧ ((iv 12 13) : Int32).toInt = (iv 12 13).toInt) ∨ ((0 ≤ (a).toInt ∧ (a).toInt ≤ 3 ∧ 1 ≤ (b).toInt ∧ (b).toInt ≤ 9999 ∧ 1 ≤ (d).toInt ∧ (d).toInt ≤ 9999) ∧ (iv 12 13).toInt < 30 ∧ ((-100002) : Int32).toInt = (iv 12 13).toInt + 1 ∧ ((iv 12 13) : Int32).toInt = (iv 12 13).toInt + 1)) from by omega), (show ((((-100002) : Int32).toInt < 0 ∧ ∀ j : Nat, (fa 12 14) j = (fa 12 14) j ∧ (fa 12 16) j = (fa 12 16) j ∧ (fa 12 15) j = (fa 12 15) j) ∨ (0 ≤ ((-100002) : Int32).toInt ∧ (∀ j : Nat, j ≠ ((iv 12 13).toInt).toNat → (fa 12 14) j = (fa 12 14) j ∧ (fa 12 16) j = (fa 12 16) j ∧ (fa 12 15) j = (fa 12 15) j) ∧ (fa 12 14) ((iv 12 13).toInt).toNat = a ∧ (fa 12 16) ((iv 12 13).toInt).toNat = (iv 12 0) ∧ ((fa 12 15) ((iv 12 13).toInt).toNat).toInt = (b).toInt - (d).toInt)) from Or.inl ⟨by omega, fun j => ⟨rfl, rfl, rfl⟩⟩), ⟨by decide, by decide⟩, rfl⟩, by rw [ht9]; exact hP9, hD9⟩, hS.F ht9⟩) hS.2.2 dX12_test_28
    · exact absurd rfl c15
/-! ===== rd0 ===== -/
def w_let (t : Nat → Int) (s e : Int) : Prop := e - s = 3 ∧ t (s.toNat + 0) = 108 ∧ t (s.toNat + 1) = 101 ∧ t (s.toNat + 2) = 116
def w_take (t : Nat → Int) (s e : Int) : Prop := e - s = 4 ∧ t (s.toNat + 0) = 116 ∧ t (s.toNat + 1) = 97 ∧ t (s.toNat + 2) = 107 ∧ t (s.toNat + 3) = 101
def w_name (t : Nat → Int) (s e : Int) : Prop := e - s = 4 ∧ t (s.toNat + 0) = 110 ∧ t (s.toNat + 1) = 97 ∧ t (s.toNat + 2) = 109 ∧ t (s.toNat + 3) = 101
def w_strike (t : Nat → Int) (s e : Int) : Prop := e - s = 6 ∧ t (s.toNat + 0) = 115 ∧ t (s.toNat + 1) = 116 ∧ t (s.toNat + 2) = 114 ∧ t (s.toNat + 3) = 105 ∧ t (s.toNat + 4) = 107 ∧ t (s.toNat + 5) = 101
def w_water (t : Nat → Int) (s e : Int) : Prop := e - s = 5 ∧ t (s.toNat + 0) = 119 ∧ t (s.toNat + 1) = 97 ∧ t (s.toNat + 2) = 116 ∧ t (s.toNat + 3) = 101 ∧ t (s.toNat + 4) = 114
def w_skeins (t : Nat → Int) (s e : Int) : Prop := e - s = 6 ∧ t (s.toNat + 0) = 115 ∧ t (s.toNat + 1) = 107 ∧ t (s.toNat + 2) = 101 ∧ t (s.toNat + 3) = 105 ∧ t (s.toNat + 4) = 110 ∧ t (s.toNat + 5) = 115
def w_part (t : Nat → Int) (s e : Int) : Prop := e - s = 4 ∧ t (s.toNat + 0) = 112 ∧ t (s.toNat + 1) = 97 ∧ t (s.toNat + 2) = 114 ∧ t (s.toNat + 3) = 116
def w_looks (t : Nat → Int) (s e : Int) : Prop := e - s = 5 ∧ t (s.toNat + 0) = 108 ∧ t (s.toNat + 1) = 111 ∧ t (s.toNat + 2) = 111 ∧ t (s.toNat + 3) = 107 ∧ t (s.toNat + 4) = 115
def w_fee (t : Nat → Int) (s e : Int) : Prop := e - s = 3 ∧ t (s.toNat + 0) = 102 ∧ t (s.toNat + 1) = 101 ∧ t (s.toNat + 2) = 101
def w_mean (t : Nat → Int) (s e : Int) : Prop := e - s = 4 ∧ t (s.toNat + 0) = 109 ∧ t (s.toNat + 1) = 101 ∧ t (s.toNat + 2) = 97 ∧ t (s.toNat + 3) = 110
def w_least (t : Nat → Int) (s e : Int) : Prop := e - s = 5 ∧ t (s.toNat + 0) = 108 ∧ t (s.toNat + 1) = 101 ∧ t (s.toNat + 2) = 97 ∧ t (s.toNat + 3) = 115 ∧ t (s.toNat + 4) = 116
def w_middle (t : Nat → Int) (s e : Int) : Prop := e - s = 6 ∧ t (s.toNat + 0) = 109 ∧ t (s.toNat + 1) = 105 ∧ t (s.toNat + 2) = 100 ∧ t (s.toNat + 3) = 100 ∧ t (s.toNat + 4) = 108 ∧ t (s.toNat + 5) = 101
def w_to (t : Nat → Int) (s e : Int) : Prop := e - s = 2 ∧ t (s.toNat + 0) = 116 ∧ t (s.toNat + 1) = 111
noncomputable def kwK (t : Nat → Int) (s e : Int) : Int := @ite Int (w_let t s e) (Classical.propDecidable _) 0 (@ite Int (w_take t s e) (Classical.propDecidable _) 1 (@ite Int (w_name t s e) (Classical.propDecidable _) 2 (@ite Int (w_strike t s e) (Classical.propDecidable _) 3 (-1))))
theorem kwK_b (t : Nat → Int) (s e : Int) : -1 ≤ kwK t s e ∧ kwK t s e ≤ 3 := by
  unfold kwK
  split
  · exact ⟨by decide, by decide⟩
  · skip
    split
    · exact ⟨by decide, by decide⟩
    · skip
      split
      · exact ⟨by decide, by decide⟩
      · skip
        split
        · exact ⟨by decide, by decide⟩
        · exact ⟨by decide, by decide⟩
noncomputable def kwN (t : Nat → Int) (s e : Int) : Int := @ite Int (w_water t s e) (Classical.propDecidable _) 0 (@ite Int (w_skeins t s e) (Classical.propDecidable _) 1 (@ite Int (w_part t s e) (Classical.propDecidable _) 2 (@ite Int (w_looks t s e) (Classical.propDecidable _) 3 (@ite Int (w_fee t s e) (Classical.propDecidable _) 4 (-1)))))
theorem kwN_b (t : Nat → Int) (s e : Int) : -1 ≤ kwN t s e ∧ kwN t s e ≤ 4 := by
  unfold kwN
  split
  · exact ⟨by decide, by decide⟩
  · skip
    split
    · exact ⟨by decide, by decide⟩
    · skip
      split
      · exact ⟨by decide, by decide⟩
      · skip
        split
        · exact ⟨by decide, by decide⟩
        · skip
          split
          · exact ⟨by decide, by decide⟩
          · exact ⟨by decide, by decide⟩
noncomputable def kwW (t : Nat → Int) (s e : Int) : Int := @ite Int (w_mean t s e) (Classical.propDecidable _) 0 (@ite Int (w_least t s e) (Classical.propDecidable _) 1 (@ite Int (w_middle t s e) (Classical.propDecidable _) 2 (-1)))
theorem kwW_b (t : Nat → Int) (s e : Int) : -1 ≤ kwW t s e ∧ kwW t s e ≤ 2 := by
  unfold kwW
  split
  · exact ⟨by decide, by decide⟩
  · skip
    split
    · exact ⟨by decide, by decide⟩
    · skip
      split
      · exact ⟨by decide, by decide⟩
      · exact ⟨by decide, by decide⟩

/-- blanks are passed over, from a to b -/
def Sk (t : Nat → Int) (n a b : Int) : Prop := a ≤ b ∧ (∀ j : Nat, a ≤ (j : Int) → (j : Int) < b → (j : Int) < n ∧ t j = 32) ∧ ¬ (b < n ∧ t b.toNat = 32)
/-- a run of signs in bounds, from a to b -/
def Rn (t : Nat → Int) (n lo hi a b : Int) : Prop := a ≤ b ∧ (∀ j : Nat, a ≤ (j : Int) → (j : Int) < b → (j : Int) < n ∧ lo ≤ t j ∧ t j ≤ hi) ∧ ¬ (b < n ∧ lo ≤ t b.toNat ∧ t b.toNat ≤ hi)
theorem Sk_un {t : Nat → Int} {n a b b' : Int} (h0 : 0 ≤ a) (h : Sk t n a b) (k : Sk t n a b') : b = b' := by
  obtain ⟨h1, h2, h3⟩ := h
  obtain ⟨k1, k2, k3⟩ := k
  by_cases q : b < b'
  · have z := k2 b.toNat (by omega) (by omega)
    exact absurd (⟨by omega, z.2⟩ : b < n ∧ t b.toNat = 32) h3
  · by_cases q' : b' < b
    · have z := h2 b'.toNat (by omega) (by omega)
      exact absurd (⟨by omega, z.2⟩ : b' < n ∧ t b'.toNat = 32) k3
    · omega
theorem Rn_un {t : Nat → Int} {n lo hi a b b' : Int} (h0 : 0 ≤ a) (h : Rn t n lo hi a b) (k : Rn t n lo hi a b') : b = b' := by
  obtain ⟨h1, h2, h3⟩ := h
  obtain ⟨k1, k2, k3⟩ := k
  by_cases q : b < b'
  · have z := k2 b.toNat (by omega) (by omega)
    exact absurd (⟨by omega, z.2⟩ : b < n ∧ lo ≤ t b.toNat ∧ t b.toNat ≤ hi) h3
  · by_cases q' : b' < b
    · have z := h2 b'.toNat (by omega) (by omega)
      exact absurd (⟨by omega, z.2⟩ : b' < n ∧ lo ≤ t b'.toNat ∧ t b'.toNat ≤ hi) k3
    · omega
theorem Sk_id {t : Nat → Int} {n a b : Int} (h : Sk t n a b) : Sk t n b b := ⟨Int.le_refl _, fun j h1 h2 => absurd h1 (by omega), h.2.2⟩
/-- what a run of figures is worth -/
def dv (t : Nat → Int) (s : Nat) : Nat → Int
  | 0 => 0
  | k + 1 => 10 * dv t s k + (t (s + k) - 48)
theorem dv_b {t : Nat → Int} {s : Nat} : ∀ k : Nat, (∀ j : Nat, j < k → 48 ≤ t (s + j) ∧ t (s + j) ≤ 57) → 0 ≤ dv t s k ∧ (k ≤ 0 → dv t s k ≤ 0) ∧ (k ≤ 1 → dv t s k ≤ 9) ∧ (k ≤ 2 → dv t s k ≤ 99) ∧ (k ≤ 3 → dv t s k ≤ 999) ∧ (k ≤ 4 → dv t s k ≤ 9999)
  | 0, _ => by
    have e : dv t s 0 = 0 := rfl
    rw [e]; exact ⟨by decide, fun _ => by decide, fun _ => by decide, fun _ => by decide, fun _ => by decide, fun _ => by decide⟩
  | k + 1, h => by
    have q := dv_b k (fun j hj => h j (by omega))
    have z := h k (by omega)
    have e : dv t s (k + 1) = 10 * dv t s k + (t (s + k) - 48) := rfl
    rw [e]
    exact ⟨by omega, fun _ => by omega, fun _ => by omega, fun _ => by omega, fun _ => by omega, fun _ => by omega⟩
/-- of a run of figures -/
theorem dv_r {t : Nat → Int} {n s e k : Int} (h0 : 0 ≤ s) (h : ∀ j : Nat, s ≤ (j : Int) → (j : Int) < e → (j : Int) < n ∧ 48 ≤ t j ∧ t j ≤ 57) (hk : s ≤ k) (hk2 : k ≤ e) : 0 ≤ dv t s.toNat (k - s).toNat ∧ (k - s ≤ 0 → dv t s.toNat (k - s).toNat ≤ 0) ∧ (k - s ≤ 1 → dv t s.toNat (k - s).toNat ≤ 9) ∧ (k - s ≤ 2 → dv t s.toNat (k - s).toNat ≤ 99) ∧ (k - s ≤ 3 → dv t s.toNat (k - s).toNat ≤ 999) ∧ (k - s ≤ 4 → dv t s.toNat (k - s).toNat ≤ 9999) := by
  have q := dv_b (t := t) (s := s.toNat) (k - s).toNat (fun j hj => (h (s.toNat + j) (by omega) (by omega)).2)
  exact ⟨q.1, fun h => q.2.1 (by omega), fun h => q.2.2.1 (by omega), fun h => q.2.2.2.1 (by omega), fun h => q.2.2.2.2.1 (by omega), fun h => q.2.2.2.2.2 (by omega)⟩
theorem dv_s {t : Nat → Int} {s k k' x : Int} (h0 : 0 ≤ s) (hk : s ≤ k) (h1 : k' = k + 1) (hx : x = t k.toNat) : dv t s.toNat (k' - s).toNat = 10 * dv t s.toNat (k - s).toNat + (x - 48) := by
  have e : (k' - s).toNat = (k - s).toNat + 1 := by omega
  have e2 : s.toNat + (k - s).toNat = k.toNat := by omega
  rw [e, hx]
  show 10 * dv t s.toNat (k - s).toNat + (t (s.toNat + (k - s).toNat) - 48) = _
  rw [e2]
/-- a number in bounds is read at a: f is the fault (0: none), p its place, v the number, b the place behind it -/
def Num (t : Nat → Int) (n lo hi a f p v b : Int) : Prop := ∃ s e : Int, Sk t n a s ∧ Rn t n 48 57 s e ∧ ((e = s ∧ f = 1 ∧ p = s) ∨ (s < e ∧ ¬ (e - s ≤ 4 ∧ lo ≤ dv t s.toNat (e - s).toNat ∧ dv t s.toNat (e - s).toNat ≤ hi) ∧ f = 2 ∧ p = s) ∨ (s < e ∧ (e - s ≤ 4 ∧ lo ≤ dv t s.toNat (e - s).toNat ∧ dv t s.toNat (e - s).toNat ≤ hi) ∧ f = 0 ∧ v = dv t s.toNat (e - s).toNat ∧ b = e))
theorem Num_un {t : Nat → Int} {n lo hi a f p v b f' p' v' b' : Int} (h0 : 0 ≤ a) (h : Num t n lo hi a f p v b) (k : Num t n lo hi a f' p' v' b') : f = f' ∧ (f = 0 ∨ p = p') ∧ (f ≠ 0 ∨ (v = v' ∧ b = b' ∧ a ≤ b)) := by
  obtain ⟨s, e, h1, h2, h3⟩ := h
  obtain ⟨s', e', k1, k2, k3⟩ := k
  have es := Sk_un h0 h1 k1
  subst es
  have hs := h1.1
  have ee := Rn_un (by omega) h2 k2
  subst ee
  have he := h2.1
  rcases h3 with ⟨a1, a2, a3⟩ | ⟨a1, a2, a3, a4⟩ | ⟨a1, a2, a3, a4, a5⟩
  · rcases k3 with ⟨c1, c2, c3⟩ | ⟨c1, c2, c3, c4⟩ | ⟨c1, c2, c3, c4, c5⟩
    · exact ⟨by omega, Or.inr (by omega), Or.inl (by omega)⟩
    · omega
    · omega
  · rcases k3 with ⟨c1, c2, c3⟩ | ⟨c1, c2, c3, c4⟩ | ⟨c1, c2, c3, c4, c5⟩
    · omega
    · exact ⟨by omega, Or.inr (by omega), Or.inl (by omega)⟩
    · exact absurd c2 a2
  · rcases k3 with ⟨c1, c2, c3⟩ | ⟨c1, c2, c3, c4⟩ | ⟨c1, c2, c3, c4, c5⟩
    · omega
    · exact absurd a2 c2
    · exact ⟨by omega, Or.inl (by omega), Or.inr ⟨by omega, by omega, by omega⟩⟩
/-- a number is the same where the blanks before it are passed over first -/
theorem Num_sk {t : Nat → Int} {n lo hi a s f p v b : Int} (h0 : 0 ≤ a) (hs : Sk t n a s) (h : Num t n lo hi s f p v b) : Num t n lo hi a f p v b := by
  obtain ⟨s', e, h1, h2, h3⟩ := h
  have es := Sk_un (by have := hs.1; omega) (Sk_id hs) h1
  subst es
  exact ⟨s, e, hs, h2, h3⟩
/-- a semicolon is read at a -/
def StpR (t : Nat → Int) (n a f p b : Int) : Prop := ∃ s : Int, Sk t n a s ∧ ((¬ (s < n ∧ t s.toNat = 59) ∧ f = 1 ∧ p = s) ∨ ((s < n ∧ t s.toNat = 59) ∧ f = 0 ∧ b = s + 1))
theorem StpR_un {t : Nat → Int} {n a f p b f' p' b' : Int} (h0 : 0 ≤ a) (h : StpR t n a f p b) (k : StpR t n a f' p' b') : f = f' ∧ (f = 0 ∨ p = p') ∧ (f ≠ 0 ∨ (b = b' ∧ a ≤ b)) := by
  obtain ⟨s, h1, h3⟩ := h
  obtain ⟨s', k1, k3⟩ := k
  have es := Sk_un h0 h1 k1
  subst es
  have hs := h1.1
  rcases h3 with ⟨a1, a2, a3⟩ | ⟨a1, a2, a3⟩
  · rcases k3 with ⟨c1, c2, c3⟩ | ⟨c1, c2, c3⟩
    · exact ⟨by omega, Or.inr (by omega), Or.inl (by omega)⟩
    · exact absurd c1 a1
  · rcases k3 with ⟨c1, c2, c3⟩ | ⟨c1, c2, c3⟩
    · exact absurd a1 c1
    · exact ⟨by omega, Or.inl (by omega), Or.inr ⟨by omega, by omega⟩⟩
def loN (r : Int) : Int := if r = 1 ∨ r = 3 then 1 else 0
def hiN (r : Int) : Int := if r = 0 then 300 else if r = 1 then 9 else if r = 2 then 200 else if r = 3 then 2 else 999
/-- the four clauses, each behind its first word, at a; kd, v1, v2, wd: what it says where it is good -/
def LetR (t : Nat → Int) (n a f p b kd v1 : Int) : Prop := ∃ s e : Int, Sk t n a s ∧ Rn t n 97 122 s e ∧ ((kwN t s e = -1 ∧ f = 1 ∧ p = s) ∨ (0 ≤ kwN t s e ∧ ∃ f1 p1 b1 : Int, Num t n (loN (kwN t s e)) (hiN (kwN t s e)) e f1 p1 v1 b1 ∧ ((f1 ≠ 0 ∧ f = f1 ∧ p = p1) ∨ (f1 = 0 ∧ kd = kwN t s e ∧ StpR t n b1 f p b))))
def TakR (t : Nat → Int) (n a f p b kd v1 : Int) : Prop := ∃ s e : Int, Sk t n a s ∧ Rn t n 97 122 s e ∧ ((kwW t s e = -1 ∧ f = 1 ∧ p = s) ∨ (0 ≤ kwW t s e ∧ kd = 5 ∧ v1 = kwW t s e ∧ StpR t n e f p b))
def StrR (t : Nat → Int) (n R a f p b kd v1 : Int) : Prop := ∃ f1 p1 b1 : Int, Num t n 0 9999 a f1 p1 v1 b1 ∧ ((f1 ≠ 0 ∧ f = f1 ∧ p = p1) ∨ (f1 = 0 ∧ R ≤ v1 ∧ f = 3 ∧ Sk t n a p) ∨ (f1 = 0 ∧ v1 < R ∧ kd = 7 ∧ StpR t n b1 f p b))
def NamR (t : Nat → Int) (n a f p b kd v1 v2 : Int) (wd : Nat → Int) : Prop := ∃ s e : Int, Sk t n a s ∧ Rn t n 97 122 s e ∧ ((e = s ∧ f = 1 ∧ p = s) ∨ (8 < e - s ∧ f = 4 ∧ p = s) ∨ ((s < e ∧ e - s ≤ 8) ∧ (∀ j : Nat, j < 8 → ((j : Int) < e - s → wd j = t (s.toNat + j)) ∧ (e - s ≤ (j : Int) → wd j = 0)) ∧ ∃ f1 p1 b1 : Int, Num t n 0 9999 e f1 p1 v1 b1 ∧ ((f1 ≠ 0 ∧ f = f1 ∧ p = p1) ∨ (f1 = 0 ∧ ∃ s2 e2 : Int, Sk t n b1 s2 ∧ Rn t n 97 122 s2 e2 ∧ ((¬ w_to t s2 e2 ∧ f = 1 ∧ p = s2) ∨ (w_to t s2 e2 ∧ ∃ f2 p2 b2 : Int, Num t n (v1 + 1) 9999 e2 f2 p2 v2 b2 ∧ ((f2 ≠ 0 ∧ f = f2 ∧ p = p2) ∨ (f2 = 0 ∧ kd = 6 ∧ StpR t n b2 f p b))))))))
theorem LetR_un {t : Nat → Int} {n a f p b kd v1 f' p' b' kd' v1' : Int} (h0 : 0 ≤ a) (h : LetR t n a f p b kd v1) (k : LetR t n a f' p' b' kd' v1') : f = f' ∧ (f = 0 ∨ p = p') ∧ (f ≠ 0 ∨ (b = b' ∧ a ≤ b ∧ kd = kd' ∧ v1 = v1' ∧ 0 ≤ kd ∧ kd ≤ 4)) := by
  obtain ⟨s, e, h1, h2, h3⟩ := h
  obtain ⟨s', e', k1, k2, k3⟩ := k
  have es := Sk_un h0 h1 k1
  subst es
  have hs := h1.1
  have ee := Rn_un (by omega) h2 k2
  subst ee
  have he := h2.1
  have hb := kwN_b t s e
  rcases h3 with ⟨a1, a2, a3⟩ | ⟨a1, f1, p1, b1, hn, h3⟩
  · rcases k3 with ⟨c1, c2, c3⟩ | ⟨c1, -⟩
    · exact ⟨by omega, Or.inr (by omega), Or.inl (by omega)⟩
    · omega
  · rcases k3 with ⟨c1, c2, c3⟩ | ⟨c1, f1', p1', b1', kn, k3⟩
    · omega
    · have u := Num_un (by omega) hn kn
      rcases h3 with ⟨a1, a2, a3⟩ | ⟨a1, a2, a3⟩
      · rcases k3 with ⟨c1, c2, c3⟩ | ⟨c1, c2, c3⟩
        · exact ⟨by omega, Or.inr (by omega), Or.inl (by omega)⟩
        · omega
      · rcases k3 with ⟨c1, c2, c3⟩ | ⟨c1, c2, c3⟩
        · omega
        · obtain ⟨u1, u2, u3⟩ := u.2.2.resolve_left (by omega)
          rw [← u2] at c3
          have w := StpR_un (by omega) a3 c3
          exact ⟨w.1, w.2.1, w.2.2.imp id (fun q => ⟨q.1, by omega, by omega, u1, by omega, by omega⟩)⟩
theorem TakR_un {t : Nat → Int} {n a f p b kd v1 f' p' b' kd' v1' : Int} (h0 : 0 ≤ a) (h : TakR t n a f p b kd v1) (k : TakR t n a f' p' b' kd' v1') : f = f' ∧ (f = 0 ∨ p = p') ∧ (f ≠ 0 ∨ (b = b' ∧ a ≤ b ∧ kd = kd' ∧ v1 = v1' ∧ kd = 5)) := by
  obtain ⟨s, e, h1, h2, h3⟩ := h
  obtain ⟨s', e', k1, k2, k3⟩ := k
  have es := Sk_un h0 h1 k1
  subst es
  have hs := h1.1
  have ee := Rn_un (by omega) h2 k2
  subst ee
  have he := h2.1
  rcases h3 with ⟨a1, a2, a3⟩ | ⟨a1, a2, a3, a4⟩
  · rcases k3 with ⟨c1, c2, c3⟩ | ⟨c1, c2, c3, c4⟩
    · exact ⟨by omega, Or.inr (by omega), Or.inl (by omega)⟩
    · omega
  · rcases k3 with ⟨c1, c2, c3⟩ | ⟨c1, c2, c3, c4⟩
    · omega
    · have w := StpR_un (by omega) a4 c4
      exact ⟨w.1, w.2.1, w.2.2.imp id (fun q => ⟨q.1, by omega, by omega, by omega, a2⟩)⟩
theorem StrR_un {t : Nat → Int} {n R a f p b kd v1 f' p' b' kd' v1' : Int} (h0 : 0 ≤ a) (h : StrR t n R a f p b kd v1) (k : StrR t n R a f' p' b' kd' v1') : f = f' ∧ (f = 0 ∨ p = p') ∧ (f ≠ 0 ∨ (b = b' ∧ a ≤ b ∧ kd = kd' ∧ v1 = v1' ∧ kd = 7)) := by
  obtain ⟨f1, p1, b1, hn, h3⟩ := h
  obtain ⟨f1', p1', b1', kn, k3⟩ := k
  have u := Num_un h0 hn kn
  rcases h3 with ⟨a1, a2, a3⟩ | ⟨a1, a2, a3, a4⟩ | ⟨a1, a2, a3, a4⟩
  · rcases k3 with ⟨c1, c2, c3⟩ | ⟨c1, c2, c3, c4⟩ | ⟨c1, c2, c3, c4⟩
    · exact ⟨by omega, Or.inr (by omega), Or.inl (by omega)⟩
    · omega
    · omega
  · rcases k3 with ⟨c1, c2, c3⟩ | ⟨c1, c2, c3, c4⟩ | ⟨c1, c2, c3, c4⟩
    · omega
    · exact ⟨by omega, Or.inr (Sk_un h0 a4 c4), Or.inl (by omega)⟩
    · have := u.2.2.resolve_left (by omega)
      omega
  · rcases k3 with ⟨c1, c2, c3⟩ | ⟨c1, c2, c3, c4⟩ | ⟨c1, c2, c3, c4⟩
    · omega
    · have := u.2.2.resolve_left (by omega)
      omega
    · obtain ⟨u1, u2, u3⟩ := u.2.2.resolve_left (by omega)
      rw [← u2] at c4
      have w := StpR_un (by omega) a4 c4
      exact ⟨w.1, w.2.1, w.2.2.imp id (fun q => ⟨q.1, by omega, by omega, u1, a3⟩)⟩
theorem NamR_un {t : Nat → Int} {n a f p b kd v1 v2 f' p' b' kd' v1' v2' : Int} {wd wd' : Nat → Int} (h0 : 0 ≤ a) (h : NamR t n a f p b kd v1 v2 wd) (k : NamR t n a f' p' b' kd' v1' v2' wd') : f = f' ∧ (f = 0 ∨ p = p') ∧ (f ≠ 0 ∨ (b = b' ∧ a ≤ b ∧ kd = kd' ∧ v1 = v1' ∧ v2 = v2' ∧ (∀ j : Nat, j < 8 → wd j = wd' j) ∧ kd = 6)) := by
  obtain ⟨s, e, h1, h2, h3⟩ := h
  obtain ⟨s', e', k1, k2, k3⟩ := k
  have es := Sk_un h0 h1 k1
  subst es
  have hs := h1.1
  have ee := Rn_un (by omega) h2 k2
  subst ee
  have he := h2.1
  rcases h3 with ⟨a1, a2, a3⟩ | ⟨a1, a2, a3⟩ | ⟨a1, a2, f1, p1, b1, hn, h3⟩
  · rcases k3 with ⟨c1, c2, c3⟩ | ⟨c1, c2, c3⟩ | ⟨c1, -⟩
    · exact ⟨by omega, Or.inr (by omega), Or.inl (by omega)⟩
    · omega
    · omega
  · rcases k3 with ⟨c1, c2, c3⟩ | ⟨c1, c2, c3⟩ | ⟨c1, -⟩
    · omega
    · exact ⟨by omega, Or.inr (by omega), Or.inl (by omega)⟩
    · omega
  · rcases k3 with ⟨c1, c2, c3⟩ | ⟨c1, c2, c3⟩ | ⟨c1, c2, f1', p1', b1', kn, k3⟩
    · omega
    · omega
    · have u := Num_un (by omega) hn kn
      have hw : ∀ j : Nat, j < 8 → wd j = wd' j := by
        intro j hj
        by_cases q : (j : Int) < e - s
        · rw [(a2 j hj).1 q, (c2 j hj).1 q]
        · rw [(a2 j hj).2 (by omega), (c2 j hj).2 (by omega)]
      rcases h3 with ⟨a1, a2, a3⟩ | ⟨a1, s2, e2, g1, g2, h3⟩
      · rcases k3 with ⟨c1, c2, c3⟩ | ⟨c1, -⟩
        · exact ⟨by omega, Or.inr (by omega), Or.inl (by omega)⟩
        · omega
      · rcases k3 with ⟨c1, c2, c3⟩ | ⟨c1, s2', e2', l1, l2, k3⟩
        · omega
        · obtain ⟨u1, u2, u3⟩ := u.2.2.resolve_left (by omega)
          subst u1
          subst u2
          have es := Sk_un (by omega) g1 l1
          subst es
          have hs2 := g1.1
          have ee := Rn_un (by omega) g2 l2
          subst ee
          have he2 := g2.1
          rcases h3 with ⟨a1, a2, a3⟩ | ⟨a1, f2, p2, b2, hm, h3⟩
          · rcases k3 with ⟨c1, c2, c3⟩ | ⟨c1, -⟩
            · exact ⟨by omega, Or.inr (by omega), Or.inl (by omega)⟩
            · exact absurd c1 a1
          · rcases k3 with ⟨c1, c2, c3⟩ | ⟨c1, f2', p2', b2', km, k3⟩
            · exact absurd a1 c1
            · have u := Num_un (by omega) hm km
              rcases h3 with ⟨a1, a2, a3⟩ | ⟨a1, a2, a3⟩
              · rcases k3 with ⟨c1, c2, c3⟩ | ⟨c1, c2, c3⟩
                · exact ⟨by omega, Or.inr (by omega), Or.inl (by omega)⟩
                · omega
              · rcases k3 with ⟨c1, c2, c3⟩ | ⟨c1, c2, c3⟩
                · omega
                · obtain ⟨u1, u2, u3⟩ := u.2.2.resolve_left (by omega)
                  rw [← u2] at c3
                  have w := StpR_un (by omega) a3 c3
                  exact ⟨w.1, w.2.1, w.2.2.imp id (fun q => ⟨q.1, by omega, by omega, rfl, u1, hw, a2⟩)⟩
/-- a clause at s, where a word may begin; c clauses stand before it, R rules -/
def ClR (t : Nat → Int) (n R s c f p b kd v1 v2 : Int) (wd : Nat → Int) : Prop := ∃ e : Int, Rn t n 97 122 s e ∧ ((kwK t s e = -1 ∧ f = 1 ∧ p = s) ∨ (0 ≤ kwK t s e ∧ 12 ≤ c ∧ f = 5 ∧ p = s) ∨ (kwK t s e = 0 ∧ c < 12 ∧ LetR t n e f p b kd v1) ∨ (kwK t s e = 1 ∧ c < 12 ∧ TakR t n e f p b kd v1) ∨ (kwK t s e = 2 ∧ c < 12 ∧ NamR t n e f p b kd v1 v2 wd) ∨ (kwK t s e = 3 ∧ c < 12 ∧ StrR t n R e f p b kd v1))
theorem ClR_un {t : Nat → Int} {n R s c f p b kd v1 v2 f' p' b' kd' v1' v2' : Int} {wd wd' : Nat → Int} (h0 : 0 ≤ s) (h : ClR t n R s c f p b kd v1 v2 wd) (k : ClR t n R s c f' p' b' kd' v1' v2' wd') : f = f' ∧ (f = 0 ∨ p = p') ∧ (f ≠ 0 ∨ (b = b' ∧ 0 ≤ b ∧ c < 12 ∧ kd = kd' ∧ v1 = v1' ∧ (kd = 6 → v2 = v2' ∧ ∀ j : Nat, j < 8 → wd j = wd' j))) := by
  obtain ⟨e, h2, h3⟩ := h
  obtain ⟨e', k2, k3⟩ := k
  have ee := Rn_un h0 h2 k2
  subst ee
  have he := h2.1
  rcases h3 with ⟨a1, a2, a3⟩ | ⟨a1, a2, a3, a4⟩ | ⟨a1, a2, a3⟩ | ⟨a1, a2, a3⟩ | ⟨a1, a2, a3⟩ | ⟨a1, a2, a3⟩
  · rcases k3 with ⟨c1, c2, c3⟩ | ⟨c1, -⟩ | ⟨c1, -⟩ | ⟨c1, -⟩ | ⟨c1, -⟩ | ⟨c1, -⟩
    · exact ⟨by omega, Or.inr (by omega), Or.inl (by omega)⟩
    · omega
    · omega
    · omega
    · omega
    · omega
  · rcases k3 with ⟨c1, -⟩ | ⟨c1, c2, c3, c4⟩ | ⟨c1, c2, -⟩ | ⟨c1, c2, -⟩ | ⟨c1, c2, -⟩ | ⟨c1, c2, -⟩
    · omega
    · exact ⟨by omega, Or.inr (by omega), Or.inl (by omega)⟩
    · omega
    · omega
    · omega
    · omega
  · rcases k3 with ⟨c1, -⟩ | ⟨c1, c2, -⟩ | ⟨c1, c2, c3⟩ | ⟨c1, -⟩ | ⟨c1, -⟩ | ⟨c1, -⟩
    · omega
    · omega
    · have w := LetR_un (by omega) a3 c3
      exact ⟨w.1, w.2.1, w.2.2.imp id (fun q => ⟨q.1, by omega, a2, q.2.2.1, q.2.2.2.1, fun z => by omega⟩)⟩
    · omega
    · omega
    · omega
  · rcases k3 with ⟨c1, -⟩ | ⟨c1, c2, -⟩ | ⟨c1, -⟩ | ⟨c1, c2, c3⟩ | ⟨c1, -⟩ | ⟨c1, -⟩
    · omega
    · omega
    · omega
    · have w := TakR_un (by omega) a3 c3
      exact ⟨w.1, w.2.1, w.2.2.imp id (fun q => ⟨q.1, by omega, a2, q.2.2.1, q.2.2.2.1, fun z => by omega⟩)⟩
    · omega
    · omega
  · rcases k3 with ⟨c1, -⟩ | ⟨c1, c2, -⟩ | ⟨c1, -⟩ | ⟨c1, -⟩ | ⟨c1, c2, c3⟩ | ⟨c1, -⟩
    · omega
    · omega
    · omega
    · omega
    · have w := NamR_un (by omega) a3 c3
      exact ⟨w.1, w.2.1, w.2.2.imp id (fun q => ⟨q.1, by omega, a2, q.2.2.1, q.2.2.2.1, fun z => ⟨q.2.2.2.2.1, q.2.2.2.2.2.1⟩⟩)⟩
    · omega
  · rcases k3 with ⟨c1, -⟩ | ⟨c1, c2, -⟩ | ⟨c1, -⟩ | ⟨c1, -⟩ | ⟨c1, -⟩ | ⟨c1, c2, c3⟩
    · omega
    · omega
    · omega
    · omega
    · omega
    · have w := StrR_un (by omega) a3 c3
      exact ⟨w.1, w.2.1, w.2.2.imp id (fun q => ⟨q.1, by omega, a2, q.2.2.1, q.2.2.2.1, fun z => by omega⟩)⟩
theorem NamR_cg {t : Nat → Int} {n a f p b kd v1 v2 : Int} {wd wd' : Nat → Int} (hw : ∀ j : Nat, j < 8 → wd j = wd' j) (h : NamR t n a f p b kd v1 v2 wd) : NamR t n a f p b kd v1 v2 wd' := by
  obtain ⟨s, e, h1, h2, h3⟩ := h
  refine ⟨s, e, h1, h2, ?_⟩
  rcases h3 with h3 | h3 | ⟨a1, a2, a3⟩
  · exact Or.inl h3
  · exact Or.inr (Or.inl h3)
  · exact Or.inr (Or.inr ⟨a1, fun j hj => by rw [← hw j hj]; exact a2 j hj, a3⟩)
theorem ClR_cg {t : Nat → Int} {n R s c f p b kd v1 v2 : Int} {wd wd' : Nat → Int} (hw : ∀ j : Nat, j < 8 → wd j = wd' j) (h : ClR t n R s c f p b kd v1 v2 wd) : ClR t n R s c f p b kd v1 v2 wd' := by
  obtain ⟨e, h2, h3⟩ := h
  refine ⟨e, h2, ?_⟩
  rcases h3 with h3 | h3 | h3 | h3 | ⟨a1, a2, a3⟩ | h3
  · exact Or.inl h3
  · exact Or.inr (Or.inl h3)
  · exact Or.inr (Or.inr (Or.inl h3))
  · exact Or.inr (Or.inr (Or.inr (Or.inl h3)))
  · exact Or.inr (Or.inr (Or.inr (Or.inr (Or.inl ⟨a1, a2, NamR_cg hw a3⟩))))
  · exact Or.inr (Or.inr (Or.inr (Or.inr (Or.inr h3))))
/-- so many clauses are good, and a is the place behind them -/
def Pf (t : Nat → Int) (n R : Int) (kd v1 v2 : Nat → Int) (wd : Nat → Nat → Int) : Nat → Int → Prop
  | 0, a => a = 0
  | c + 1, b => ∃ a s p : Int, Pf t n R kd v1 v2 wd c a ∧ Sk t n a s ∧ s < n ∧ ClR t n R s (c : Int) 0 p b (kd c) (v1 c) (v2 c) (wd c)
theorem Pf_S {t : Nat → Int} {n R : Int} {kd v1 v2 : Nat → Int} {wd : Nat → Nat → Int} {c : Nat} {a s p b : Int} (h1 : Pf t n R kd v1 v2 wd c a) (h2 : Sk t n a s) (h3 : s < n) (h4 : ClR t n R s (c : Int) 0 p b (kd c) (v1 c) (v2 c) (wd c)) : Pf t n R kd v1 v2 wd (c + 1) b := ⟨a, s, p, h1, h2, h3, h4⟩
theorem Pf_cg {t : Nat → Int} {n R : Int} {kd v1 v2 kd' v1' v2' : Nat → Int} {wd wd' : Nat → Nat → Int} : ∀ (c : Nat) (a : Int), (∀ i : Nat, i < c → kd i = kd' i ∧ v1 i = v1' i ∧ v2 i = v2' i ∧ ∀ j : Nat, j < 8 → wd i j = wd' i j) → Pf t n R kd v1 v2 wd c a → Pf t n R kd' v1' v2' wd' c a
  | 0, a, _, h => h
  | c + 1, b, hq, h => by
    obtain ⟨a, s, p, h1, h2, h3, h4⟩ := h
    have q := hq c (Nat.lt_succ_self c)
    rw [q.1, q.2.1, q.2.2.1] at h4
    exact ⟨a, s, p, Pf_cg c a (fun i hi => hq i (Nat.lt_succ_of_lt hi)) h1, h2, h3, ClR_cg q.2.2.2 h4⟩
theorem Pf_un {t : Nat → Int} {n R : Int} {kd v1 v2 kd' v1' v2' : Nat → Int} {wd wd' : Nat → Nat → Int} : ∀ (c : Nat) (a a' : Int), Pf t n R kd v1 v2 wd c a → Pf t n R kd' v1' v2' wd' c a' → a = a' ∧ 0 ≤ a ∧ ∀ i : Nat, i < c → kd i = kd' i ∧ v1 i = v1' i ∧ (kd i = 6 → v2 i = v2' i ∧ ∀ j : Nat, j < 8 → wd i j = wd' i j)
  | 0, a, a', h, k => by
    have h : a = 0 := h
    have k : a' = 0 := k
    exact ⟨by omega, by omega, fun i hi => absurd hi (Nat.not_lt_zero i)⟩
  | c + 1, b, b', h, k => by
    obtain ⟨a, s, p, h1, h2, h3, h4⟩ := h
    obtain ⟨a', s', p', k1, k2, k3, k4⟩ := k
    obtain ⟨ea, ha, hd⟩ := Pf_un c a a' h1 k1
    subst ea
    have es := Sk_un ha h2 k2
    subst es
    have hs := h2.1
    have w := ClR_un (by omega) h4 k4
    obtain ⟨w1, w2, w3, w4, w5, w6⟩ := w.2.2.resolve_left (fun q => q rfl)
    refine ⟨w1, w2, fun i hi => ?_⟩
    by_cases e : i = c
    · rw [e]; exact ⟨w4, w5, w6⟩
    · exact hd i (by omega)
/-- a longer reading begins with a shorter one -/
theorem Pf_le {t : Nat → Int} {n R : Int} {kd v1 v2 : Nat → Int} {wd : Nat → Nat → Int} {c : Nat} : ∀ (d : Nat) (b : Int), c < d → Pf t n R kd v1 v2 wd d b → ∃ b' : Int, Pf t n R kd v1 v2 wd (c + 1) b'
  | 0, _, h, _ => absurd h (Nat.not_lt_zero c)
  | d + 1, b, h, k => by
    by_cases e : c = d
    · rw [e]; exact ⟨b, k⟩
    · obtain ⟨a, s, p, h1, -⟩ := k
      exact Pf_le d a (by omega) h1
/-- the whole text: f its fault (0: none), p the fault's place, c how many clauses are good before that -/
def Out (t : Nat → Int) (n R f p : Int) (c : Nat) (kd v1 v2 : Nat → Int) (wd : Nat → Nat → Int) : Prop := ∃ a s : Int, Pf t n R kd v1 v2 wd c a ∧ Sk t n a s ∧ ((n ≤ s ∧ f = 0) ∨ (s < n ∧ f ≠ 0 ∧ ∃ (b k x y : Int) (w : Nat → Int), ClR t n R s (c : Int) f p b k x y w))
theorem Out_no {t : Nat → Int} {n R f p : Int} {kd v1 v2 kd' v1' v2' : Nat → Int} {wd wd' : Nat → Nat → Int} {c d : Nat} {b : Int} (h : Out t n R f p c kd v1 v2 wd) (k : Pf t n R kd' v1' v2' wd' d b) (hc : c < d) : False := by
  obtain ⟨b', a', s', p', k1, k2, k3, k4⟩ := Pf_le d b hc k
  obtain ⟨a, s, h1, h2, h3⟩ := h
  obtain ⟨ea, ha, -⟩ := Pf_un c a a' h1 k1
  subst ea
  have es := Sk_un ha h2 k2
  subst es
  rcases h3 with ⟨a1, -⟩ | ⟨a1, a2, b9, k9, x9, y9, w9, a3⟩
  · omega
  · have hs := h2.1
    exact a2 (ClR_un (by omega) a3 k4).1
theorem Out_un {t : Nat → Int} {n R f p f' p' : Int} {kd v1 v2 kd' v1' v2' : Nat → Int} {wd wd' : Nat → Nat → Int} {c c' : Nat} (h : Out t n R f p c kd v1 v2 wd) (k : Out t n R f' p' c' kd' v1' v2' wd') : c = c' ∧ f = f' ∧ (f = 0 ∨ p = p') ∧ ∀ i : Nat, i < c → kd i = kd' i ∧ v1 i = v1' i ∧ (kd i = 6 → v2 i = v2' i ∧ ∀ j : Nat, j < 8 → wd i j = wd' i j) := by
  have hcc : c = c' := by
    have h9 := h
    have k9 := k
    obtain ⟨a, s, h1, -⟩ := h9
    obtain ⟨a', s', k1, -⟩ := k9
    rcases Nat.lt_trichotomy c c' with q | q | q
    · exact (Out_no h k1 q).elim
    · exact q
    · exact (Out_no k h1 q).elim
  subst hcc
  obtain ⟨a, s, h1, h2, h3⟩ := h
  obtain ⟨a', s', k1, k2, k3⟩ := k
  obtain ⟨ea, ha, hd⟩ := Pf_un c a a' h1 k1
  subst ea
  have es := Sk_un ha h2 k2
  subst es
  have hs := h2.1
  refine ⟨rfl, ?_, ?_, hd⟩
  · rcases h3 with ⟨a1, a2⟩ | ⟨a1, a2, b9, k9, x9, y9, w9, a3⟩
    · rcases k3 with ⟨c1, c2⟩ | ⟨c1, -⟩
      · omega
      · omega
    · rcases k3 with ⟨c1, c2⟩ | ⟨c1, c2, b8, k8, x8, y8, w8, c3⟩
      · omega
      · exact (ClR_un (by omega) a3 c3).1
  · rcases h3 with ⟨a1, a2⟩ | ⟨a1, a2, b9, k9, x9, y9, w9, a3⟩
    · exact Or.inl a2
    · rcases k3 with ⟨c1, c2⟩ | ⟨c1, c2, b8, k8, x8, y8, w8, c3⟩
      · omega
      · exact (ClR_un (by omega) a3 c3).2.1

theorem nar_byte_id {x : Int32} (h : -128 ≤ x.toInt ∧ x.toInt ≤ 127) : vp_nar .byte x = x := by
  have e : x.toInt8.toInt32 = x := by
    apply Int32.toInt_inj.mp
    rw [Int8.toInt_toInt32, Int32.toInt_toInt8, Int.bmod_def]; omega
  exact e
theorem tab_lo {r : Int32} (h : 0 ≤ r.toInt ∧ r.toInt ≤ 4) : (C_LN r.toNatClampNeg).toInt = loN r.toInt := by
  rcases (by omega : r.toInt = 0 ∨ r.toInt = 1 ∨ r.toInt = 2 ∨ r.toInt = 3 ∨ r.toInt = 4) with q | q | q | q | q
  · rw [show r = 0 from z_of (by decide) q]; decide
  · rw [show r = 1 from z_of (by decide) q]; decide
  · rw [show r = 2 from z_of (by decide) q]; decide
  · rw [show r = 3 from z_of (by decide) q]; decide
  · rw [show r = 4 from z_of (by decide) q]; decide
theorem tab_hi {r : Int32} (h : 0 ≤ r.toInt ∧ r.toInt ≤ 4) : (C_MN r.toNatClampNeg).toInt = hiN r.toInt := by
  rcases (by omega : r.toInt = 0 ∨ r.toInt = 1 ∨ r.toInt = 2 ∨ r.toInt = 3 ∨ r.toInt = 4) with q | q | q | q | q
  · rw [show r = 0 from z_of (by decide) q]; decide
  · rw [show r = 1 from z_of (by decide) q]; decide
  · rw [show r = 2 from z_of (by decide) q]; decide
  · rw [show r = 3 from z_of (by decide) q]; decide
  · rw [show r = 4 from z_of (by decide) q]; decide
theorem loN_b (r : Int) : 0 ≤ loN r ∧ loN r ≤ 1 := by
  unfold loN; split
  · exact ⟨by decide, by decide⟩
  · exact ⟨by decide, by decide⟩
