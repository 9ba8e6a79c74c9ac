/-! ===== er1 ===== -/

/-- the last test of a scale by a day, the first behind it; -1 for none -/
def tLa (sc dy : Nat → Int32) (s d : Int32) : Nat → Int
  | 0 => -1
  | n + 1 => if (sc n).toInt = s.toInt ∧ (dy n).toInt ≤ d.toInt then (n : Int) else tLa sc dy s d n
def tFi (sc dy : Nat → Int32) (s d : Int32) : Nat → Int
  | 0 => -1
  | n + 1 => if 0 ≤ tFi sc dy s d n then tFi sc dy s d n else if (sc n).toInt = s.toInt ∧ d.toInt < (dy n).toInt then (n : Int) else -1
theorem la_step {sc dy : Nat → Int32} {s d t t' x y : Int32} (hs : t'.toInt = t.toInt + 1) (h0 : 0 ≤ t.toInt) (hx : x = sc t.toNatClampNeg) (hy : y = dy t.toNatClampNeg) : tLa sc dy s d t'.toInt.toNat = if x.toInt = s.toInt ∧ y.toInt ≤ d.toInt then t.toInt else tLa sc dy s d t.toInt.toNat := by
  have e : t'.toInt.toNat = t.toInt.toNat + 1 := by omega
  have e2 : ((t.toInt.toNat : Nat) : Int) = t.toInt := Int.toNat_of_nonneg h0
  rw [e, hx, hy]
  show (if (sc t.toInt.toNat).toInt = s.toInt ∧ (dy t.toInt.toNat).toInt ≤ d.toInt then ((t.toInt.toNat : Nat) : Int) else tLa sc dy s d t.toInt.toNat) = _
  rw [e2]; rfl
theorem fi_step {sc dy : Nat → Int32} {s d t t' x y : Int32} (hs : t'.toInt = t.toInt + 1) (h0 : 0 ≤ t.toInt) (hx : x = sc t.toNatClampNeg) (hy : y = dy t.toNatClampNeg) : tFi sc dy s d t'.toInt.toNat = if 0 ≤ tFi sc dy s d t.toInt.toNat then tFi sc dy s d t.toInt.toNat else if x.toInt = s.toInt ∧ d.toInt < y.toInt then t.toInt else -1 := by
  have e : t'.toInt.toNat = t.toInt.toNat + 1 := by omega
  have e2 : ((t.toInt.toNat : Nat) : Int) = t.toInt := Int.toNat_of_nonneg h0
  rw [e, hx, hy]
  show (if 0 ≤ tFi sc dy s d t.toInt.toNat then tFi sc dy s d t.toInt.toNat else if (sc t.toInt.toNat).toInt = s.toInt ∧ d.toInt < (dy t.toInt.toNat).toInt then ((t.toInt.toNat : Nat) : Int) else -1) = _
  rw [e2]; rfl
theorem fi_stay {sc dy : Nat → Int32} {s d : Int32} {m : Nat} (h : 0 ≤ tFi sc dy s d m) : ∀ n : Nat, m ≤ n → tFi sc dy s d n = tFi sc dy s d m
  | 0, hn => by rw [Nat.le_zero.mp hn]
  | n + 1, hn => by
    by_cases e : m = n + 1
    · rw [e]
    · have q := fi_stay h n (by omega)
      show (if 0 ≤ tFi sc dy s d n then tFi sc dy s d n else _) = _
      rw [if_pos (by rw [q]; exact h), q]
def er0 (dr : Nat → Int32) (l f : Int) : Int := if l = -1 ∧ f = -1 then 0 else if f = -1 then (dr l.toNat).toInt else if l = -1 then (dr f.toNat).toInt else min (dr l.toNat).toInt (dr f.toNat).toInt
def er1 (dr : Nat → Int32) (l f : Int) : Int := if l = -1 ∧ f = -1 then 0 else if f = -1 then (dr l.toNat).toInt else if l = -1 then (dr f.toNat).toInt else max (dr l.toNat).toInt (dr f.toNat).toInt
set_option maxHeartbeats 4000000 in
set_option maxRecDepth 100000 in
/-- X9_lastBy -/
theorem c_X9_lastBy_x (l : Launch) (dC : Nat → ClassId) (dI : Nat → Nat → Nat) (h : Nat) (g : Nat → Nat → Nat) (ca : Nat → Nat → ClassId) (iv : Nat → Nat → Int32) (lv : Nat → Nat → Int64) (fa : Nat → Nat → Nat → Int32) (la : Nat → Nat → Nat → Int64) (hI : IX iv fa) (a : Int32) (b : Int32) : Met l yX9_lastBy (wc yX9_lastBy cX9_lastBy 5 (some .int)) ({ frames := 0, cells := 0, slots := 0, locals := 0 } : Room) (pR (dC, dI) classes (WX h g ca iv lv fa la) (TX ca) [.ref (g 11 1), .int a, .int b]) (vp_Si (fun r => ((-1) ≤ r.toInt ∧ r.toInt ≤ 29) ∧ (r.toInt = tLa (fa 9 0) (fa 9 1) a b ((iv 9 3).toInt).toNat))) 0 0 (fun _ => False) := by
  refine Met.ofW (cc := cX9_lastBy) (maxL := 5) (ret := (some .int)) (by decide) rfl ?_
  intro p e s m args below meth c s₁ B hml hv
  obtain ⟨rfl, hP, hK⟩ := hv
  have hx := B.exec
  have hb := B.bytes
  have hr := B.returns
  have ht := tb_tl (atoms_spec (ws := wc yX9_lastBy cX9_lastBy 5 (some .int)) B.pre)
  have hown : s.vm.findClass RX9 = some m.cls := findClass_of_methodNamed B.named
  have hlocks := B.notSynchronized
  have hl := lv_entry [.ref (g 11 1), .int a, .int b] (n := 5) (Nat.le_of_ble_eq_true rfl)
  rw [lg_entry_eq]
  generalize (lg_sl [.ref (g 11 1), .int a, .int b] ++ List.replicate (5 - (lg_sl [.ref (g 11 1), .int a, .int b]).length) Slot.unset).toArray = ls at hl ⊢
  have hl : lv_has ls 5 [(0, .ref (g 11 1)), (1, .int a), (2, .int b)] := hl
  refine lv_iconst (v := (-1)) hx hb dX9_lastBy_0 (by decide) ?_
  refine lv_istore_n (lv' := [(3, .int (-1)), (0, .ref (g 11 1)), (1, .int a), (2, .int b)]) hx hb dX9_lastBy_1 rfl hl (by decide) rfl (fun ls hl => ?_)
  refine lv_iconst (v := 0) hx hb dX9_lastBy_2 (by decide) ?_
  refine lv_istore (lv' := [(4, .int 0), (3, .int (-1)), (0, .ref (g 11 1)), (1, .int a), (2, .int b)]) hx hb dX9_lastBy_3 hl (by decide) rfl (fun ls hl => ?_)
  have i_9_3 : 0 ≤ (iv 9 3).toInt ∧ (iv 9 3).toInt ≤ 30 := hI.1 9 3
  have lp155 : ∀ (nn155 : Nat) (x154_4 : Int32) (x154_3 : Int32), 0 ≤ x154_4.toInt ∧ x154_4.toInt ≤ 30 → (-1) ≤ x154_3.toInt ∧ x154_3.toInt ≤ 29 → ((x154_3 : Int32).toInt = tLa (fa 9 0) (fa 9 1) a b ((x154_4 : Int32).toInt).toNat) → (x154_4 : Int32).toInt ≤ ((iv 9 3) : Int32).toInt → 30 - x154_4.toInt < (nn155 : Int) → ∀ (ls : Array Slot), lv_has ls 5 [(4, .int x154_4), (3, .int x154_3), (0, .ref (g 11 1)), (1, .int a), (2, .int b)] → W p l e ({ frames := 0, cells := 0, slots := 0, locals := 0 } : Room) s m ([.ref (g 11 1), .int a, .int b] : List Value).toArray below meth c s.heap [] 0 0 (MQ below (vp_Si (fun r => ((-1) ≤ r.toInt ∧ r.toInt ≤ 29) ∧ (r.toInt = tLa (fa 9 0) (fa 9 1) a b ((iv 9 3).toInt).toNat))) ([.ref (g 11 1), .int a, .int b] : List Value).toArray s 0 0 (fun _ => False)) (F0 m 5 ls []) := by
    intro nn155
    induction nn155 with
    | zero => intro x154_4 x154_3 hx154_4 hx154_3 hq155_0 hq155_1 hm155; exfalso; omega
    | succ nn155 ih155 =>
      intro x154_4 x154_3 hx154_4 hx154_3 hq155_0 hq155_1 hm155 ls hl
      refine lv_iload hx hb dX9_lastBy_5 (lv_at hl 0 rfl) ?_
      refine lv_aload_n hx hb dX9_lastBy_7 rfl (lv_at hl 2 rfl) ?_
      refine gX_9_3 hx hb ht hown hK hP m_135 (v := (iv 9 3)) rfl dX9_lastBy_8 ?_
      refine lv_icmp_ge (tgt := 45) hx hb dX9_lastBy_11 (by decide) (fun c156 => ?_) (fun c156 => ?_)
      · have fc156 := z_le (rfl : ((iv 9 3)).toInt = _) (rfl : (x154_4).toInt = _) c156
        refine lv_iload_n hx hb dX9_lastBy_45 rfl (lv_at hl 1 rfl) ?_
        exact W.iret (v := x154_3) hx hb hr (fun t ht9 hW => ⟨x154_3, rfl, ⟨⟨by omega, by omega⟩, (show (x154_3 : Int32).toInt = tLa (fa 9 0) (fa 9 1) a b (((iv 9 3) : Int32).toInt).toNat from (by have hq9 := hq155_0; have he9 : (x154_4 : Int32).toInt = (iv 9 3).toInt := (by omega); rw [he9] at hq9; omega))⟩, ht9⟩) (fun q hq => by cases hq) dX9_lastBy_46
      · have fc156 := z_nle (rfl : ((iv 9 3)).toInt = _) (rfl : (x154_4).toInt = _) c156
        refine lv_aload_n hx hb dX9_lastBy_14 rfl (lv_at hl 2 rfl) ?_
        refine gX_9_0 hx hb ht hown hK hP m_132 dX9_lastBy_15 ?_
        refine lv_iload hx hb dX9_lastBy_18 (lv_at hl 0 rfl) ?_
        refine lX_9_0 hx hb hK hP (f := (fa 9 0)) rfl (vp_in_iff.mpr ⟨by omega, by omega⟩) dX9_lastBy_20 ?_
        refine lv_topi (fun v157 ev157 => ?_)
        refine lv_iload_n hx hb dX9_lastBy_21 rfl (lv_at hl 3 rfl) ?_
        refine lv_icmp_ne (tgt := 39) hx hb dX9_lastBy_22 (by decide) (fun c158 => ?_) (fun c158 => ?_)
        · have fc158 := z_ne (rfl : (v157).toInt = _) (rfl : (a).toInt = _) c158
          obtain ⟨v159, ev159⟩ : ∃ y : Int32, y = x154_4 + 1 := ⟨_, rfl⟩
          have tv159 := z_add ev159 rfl (by decide : (1 : Int32).toInt = 1) (by omega) (by omega)
          refine lv_iinc (v := v159) (lv' := [(4, .int v159), (3, .int x154_3), (0, .ref (g 11 1)), (1, .int a), (2, .int b)]) hx hb dX9_lastBy_39 hl (k := 0) rfl (by rw [ev159]; rfl) (by decide) rfl (fun ls hl => ?_)
          refine lv_goto (tgt := 5) hx hb dX9_lastBy_42 (by decide) ?_
          exact ih155 v159 x154_3 ⟨by omega, by omega⟩ ⟨by omega, by omega⟩ (show (x154_3 : Int32).toInt = tLa (fa 9 0) (fa 9 1) a b ((v159 : Int32).toInt).toNat from (by have hc := la_step (sc := fa 9 0) (dy := fa 9 1) (s := a) (d := b) (t := x154_4) (t' := v159) (x := v157) (y := fa 9 1 (x154_4 : Int32).toNatClampNeg) (by omega) (by omega) ev157 rfl; have hq9 := hq155_0; rw [hc]; split <;> omega)) (show (v159 : Int32).toInt ≤ ((iv 9 3) : Int32).toInt from by omega) (by omega) ls (lv_sub hl [0, 1, 2, 3, 4] rfl)
        · have fc158 := z_eq (rfl : (v157).toInt = _) (rfl : (a).toInt = _) c158
          refine lv_aload_n hx hb dX9_lastBy_25 rfl (lv_at hl 2 rfl) ?_
          refine gX_9_1 hx hb ht hown hK hP m_133 dX9_lastBy_26 ?_
          refine lv_iload hx hb dX9_lastBy_29 (lv_at hl 0 rfl) ?_
          refine lX_9_1 hx hb hK hP (f := (fa 9 1)) rfl (vp_in_iff.mpr ⟨by omega, by omega⟩) dX9_lastBy_31 ?_
          refine lv_topi (fun v160 ev160 => ?_)
          refine lv_iload_n hx hb dX9_lastBy_32 rfl (lv_at hl 4 rfl) ?_
          refine lv_icmp_gt (tgt := 39) hx hb dX9_lastBy_33 (by decide) (fun c161 => ?_) (fun c161 => ?_)
          · have fc161 := z_lt (rfl : (b).toInt = _) (rfl : (v160).toInt = _) c161
            obtain ⟨v162, ev162⟩ : ∃ y : Int32, y = x154_4 + 1 := ⟨_, rfl⟩
            have tv162 := z_add ev162 rfl (by decide : (1 : Int32).toInt = 1) (by omega) (by omega)
            refine lv_iinc (v := v162) (lv' := [(4, .int v162), (3, .int x154_3), (0, .ref (g 11 1)), (1, .int a), (2, .int b)]) hx hb dX9_lastBy_39 hl (k := 0) rfl (by rw [ev162]; rfl) (by decide) rfl (fun ls hl => ?_)
            refine lv_goto (tgt := 5) hx hb dX9_lastBy_42 (by decide) ?_
            exact ih155 v162 x154_3 ⟨by omega, by omega⟩ ⟨by omega, by omega⟩ (show (x154_3 : Int32).toInt = tLa (fa 9 0) (fa 9 1) a b ((v162 : Int32).toInt).toNat from (by have hc := la_step (sc := fa 9 0) (dy := fa 9 1) (s := a) (d := b) (t := x154_4) (t' := v162) (x := v157) (y := v160) (by omega) (by omega) ev157 ev160; have hq9 := hq155_0; rw [hc]; split <;> omega)) (show (v162 : Int32).toInt ≤ ((iv 9 3) : Int32).toInt from by omega) (by omega) ls (lv_sub hl [0, 1, 2, 3, 4] rfl)
          · have fc161 := z_nlt (rfl : (b).toInt = _) (rfl : (v160).toInt = _) c161
            refine lv_iload hx hb dX9_lastBy_36 (lv_at hl 0 rfl) ?_
            refine lv_istore_n (lv' := [(3, .int x154_4), (4, .int x154_4), (0, .ref (g 11 1)), (1, .int a), (2, .int b)]) hx hb dX9_lastBy_38 rfl hl (by decide) rfl (fun ls hl => ?_)
            obtain ⟨v163, ev163⟩ : ∃ y : Int32, y = x154_4 + 1 := ⟨_, rfl⟩
            have tv163 := z_add ev163 rfl (by decide : (1 : Int32).toInt = 1) (by omega) (by omega)
            refine lv_iinc (v := v163) (lv' := [(4, .int v163), (3, .int x154_4), (0, .ref (g 11 1)), (1, .int a), (2, .int b)]) hx hb dX9_lastBy_39 hl (k := 1) rfl (by rw [ev163]; rfl) (by decide) rfl (fun ls hl => ?_)
            refine lv_goto (tgt := 5) hx hb dX9_lastBy_42 (by decide) ?_
            exact ih155 v163 x154_4 ⟨by omega, by omega⟩ ⟨by omega, by omega⟩ (show (x154_4 : Int32).toInt = tLa (fa 9 0) (fa 9 1) a b ((v163 : Int32).toInt).toNat from (by have hc := la_step (sc := fa 9 0) (dy := fa 9 1) (s := a) (d := b) (t := x154_4) (t' := v163) (x := v157) (y := v160) (by omega) (by omega) ev157 ev160; have hq9 := hq155_0; rw [hc]; split <;> omega)) (show (v163 : Int32).toInt ≤ ((iv 9 3) : Int32).toInt from by omega) (by omega) ls (lv_sub hl [0, 1, 2, 3, 4] rfl)
  have : (0 : Int32).toInt = 0 := (by decide)
  have : ((-1) : Int32).toInt = (-1) := (by decide)
  have i_9_3 : 0 ≤ (iv 9 3).toInt ∧ (iv 9 3).toInt ≤ 30 := hI.1 9 3
  exact lp155 31 0 (-1) ⟨by decide, by decide⟩ ⟨by decide, by decide⟩ (show ((-1) : Int32).toInt = tLa (fa 9 0) (fa 9 1) a b ((0 : Int32).toInt).toNat from by show _ = (-1 : Int); omega) (show (0 : Int32).toInt ≤ ((iv 9 3) : Int32).toInt from by omega) (by first | decide | omega) ls (lv_sub hl [0, 1, 2, 3, 4] rfl)
set_option maxHeartbeats 4000000 in
set_option maxRecDepth 100000 in
/-- X9_firstAfter -/
theorem c_X9_firstAfter_x (l : Launch) (dC : Nat → ClassId) (dI : Nat → Nat → Nat) (h : Nat) (g : Nat → Nat → Nat) (ca : Nat → Nat → ClassId) (iv : Nat → Nat → Int32) (lv : Nat → Nat → Int64) (fa : Nat → Nat → Nat → Int32) (la : Nat → Nat → Nat → Int64) (hI : IX iv fa) (a : Int32) (b : Int32) : Met l yX9_firstAfter (wc yX9_firstAfter cX9_firstAfter 4 (some .int)) ({ frames := 0, cells := 0, slots := 0, locals := 0 } : Room) (pR (dC, dI) classes (WX h g ca iv lv fa la) (TX ca) [.ref (g 11 1), .int a, .int b]) (vp_Si (fun r => ((-1) ≤ r.toInt ∧ r.toInt ≤ 29) ∧ (r.toInt = tFi (fa 9 0) (fa 9 1) a b ((iv 9 3).toInt).toNat))) 0 0 (fun _ => False) := by
  refine Met.ofW (cc := cX9_firstAfter) (maxL := 4) (ret := (some .int)) (by decide) rfl ?_
  intro p e s m args below meth c s₁ B hml hv
  obtain ⟨rfl, hP, hK⟩ := hv
  have hx := B.exec
  have hb := B.bytes
  have hr := B.returns
  have ht := tb_tl (atoms_spec (ws := wc yX9_firstAfter cX9_firstAfter 4 (some .int)) B.pre)
  have hown : s.vm.findClass RX9 = some m.cls := findClass_of_methodNamed B.named
  have hlocks := B.notSynchronized
  have hl := lv_entry [.ref (g 11 1), .int a, .int b] (n := 4) (Nat.le_of_ble_eq_true rfl)
  rw [lg_entry_eq]
  generalize (lg_sl [.ref (g 11 1), .int a, .int b] ++ List.replicate (4 - (lg_sl [.ref (g 11 1), .int a, .int b]).length) Slot.unset).toArray = ls at hl ⊢
  have hl : lv_has ls 4 [(0, .ref (g 11 1)), (1, .int a), (2, .int b)] := hl
  refine lv_iconst (v := 0) hx hb dX9_firstAfter_0 (by decide) ?_
  refine lv_istore_n (lv' := [(3, .int 0), (0, .ref (g 11 1)), (1, .int a), (2, .int b)]) hx hb dX9_firstAfter_1 rfl hl (by decide) rfl (fun ls hl => ?_)
  have i_9_3 : 0 ≤ (iv 9 3).toInt ∧ (iv 9 3).toInt ≤ 30 := hI.1 9 3
  have lp138 : ∀ (nn138 : Nat) (x137_3 : Int32), 0 ≤ x137_3.toInt ∧ x137_3.toInt ≤ 30 → (tFi (fa 9 0) (fa 9 1) a b ((x137_3 : Int32).toInt).toNat = -1) → (x137_3 : Int32).toInt ≤ ((iv 9 3) : Int32).toInt → 30 - x137_3.toInt < (nn138 : Int) → ∀ (ls : Array Slot), lv_has ls 4 [(3, .int x137_3), (0, .ref (g 11 1)), (1, .int a), (2, .int b)] → W p l e ({ frames := 0, cells := 0, slots := 0, locals := 0 } : Room) s m ([.ref (g 11 1), .int a, .int b] : List Value).toArray below meth c s.heap [] 0 0 (MQ below (vp_Si (fun r => ((-1) ≤ r.toInt ∧ r.toInt ≤ 29) ∧ (r.toInt = tFi (fa 9 0) (fa 9 1) a b ((iv 9 3).toInt).toNat))) ([.ref (g 11 1), .int a, .int b] : List Value).toArray s 0 0 (fun _ => False)) (F0 m 2 ls []) := by
    intro nn138
    induction nn138 with
    | zero => intro x137_3 hx137_3 hq138_0 hq138_1 hm138; exfalso; omega
    | succ nn138 ih138 =>
      intro x137_3 hx137_3 hq138_0 hq138_1 hm138 ls hl
      refine lv_iload_n hx hb dX9_firstAfter_2 rfl (lv_at hl 0 rfl) ?_
      refine lv_aload_n hx hb dX9_firstAfter_3 rfl (lv_at hl 1 rfl) ?_
      refine gX_9_3 hx hb ht hown hK hP m_135 (v := (iv 9 3)) rfl dX9_firstAfter_4 ?_
      refine lv_icmp_ge (tgt := 38) hx hb dX9_firstAfter_7 (by decide) (fun c139 => ?_) (fun c139 => ?_)
      · have fc139 := z_le (rfl : ((iv 9 3)).toInt = _) (rfl : (x137_3).toInt = _) c139
        refine lv_iconst (v := (-1)) hx hb dX9_firstAfter_38 (by decide) ?_
        have : ((-1) : Int32).toInt = (-1) := (by decide)
        exact W.iret (v := (-1)) hx hb hr (fun t ht9 hW => ⟨(-1), rfl, ⟨⟨by decide, by decide⟩, (show ((-1) : Int32).toInt = tFi (fa 9 0) (fa 9 1) a b (((iv 9 3) : Int32).toInt).toNat from (by have hq9 := hq138_0; have he9 : (x137_3 : Int32).toInt = (iv 9 3).toInt := (by omega); rw [he9] at hq9; have hk : (-1 : Int32).toInt = -1 := (by decide); omega))⟩, ht9⟩) (fun q hq => by cases hq) dX9_firstAfter_39
      · have fc139 := z_nle (rfl : ((iv 9 3)).toInt = _) (rfl : (x137_3).toInt = _) c139
        refine lv_aload_n hx hb dX9_firstAfter_10 rfl (lv_at hl 1 rfl) ?_
        refine gX_9_0 hx hb ht hown hK hP m_132 dX9_firstAfter_11 ?_
        refine lv_iload_n hx hb dX9_firstAfter_14 rfl (lv_at hl 0 rfl) ?_
        refine lX_9_0 hx hb hK hP (f := (fa 9 0)) rfl (vp_in_iff.mpr ⟨by omega, by omega⟩) dX9_firstAfter_15 ?_
        refine lv_topi (fun v140 ev140 => ?_)
        refine lv_iload_n hx hb dX9_firstAfter_16 rfl (lv_at hl 2 rfl) ?_
        refine lv_icmp_ne (tgt := 32) hx hb dX9_firstAfter_17 (by decide) (fun c141 => ?_) (fun c141 => ?_)
        · have fc141 := z_ne (rfl : (v140).toInt = _) (rfl : (a).toInt = _) c141
          obtain ⟨v142, ev142⟩ : ∃ y : Int32, y = x137_3 + 1 := ⟨_, rfl⟩
          have tv142 := z_add ev142 rfl (by decide : (1 : Int32).toInt = 1) (by omega) (by omega)
          refine lv_iinc (v := v142) (lv' := [(3, .int v142), (0, .ref (g 11 1)), (1, .int a), (2, .int b)]) hx hb dX9_firstAfter_32 hl (k := 0) rfl (by rw [ev142]; rfl) (by decide) rfl (fun ls hl => ?_)
          refine lv_goto (tgt := 2) hx hb dX9_firstAfter_35 (by decide) ?_
          exact ih138 v142 ⟨by omega, by omega⟩ (show tFi (fa 9 0) (fa 9 1) a b ((v142 : Int32).toInt).toNat = -1 from (by have hc := fi_step (sc := fa 9 0) (dy := fa 9 1) (s := a) (d := b) (t := x137_3) (t' := v142) (x := v140) (y := fa 9 1 (x137_3 : Int32).toNatClampNeg) (by omega) (by omega) ev140 rfl; have hq9 := hq138_0; rw [hc]; split <;> (try split) <;> omega)) (show (v142 : Int32).toInt ≤ ((iv 9 3) : Int32).toInt from by omega) (by omega) ls (lv_sub hl [0, 1, 2, 3] rfl)
        · have fc141 := z_eq (rfl : (v140).toInt = _) (rfl : (a).toInt = _) c141
          refine lv_aload_n hx hb dX9_firstAfter_20 rfl (lv_at hl 1 rfl) ?_
          refine gX_9_1 hx hb ht hown hK hP m_133 dX9_firstAfter_21 ?_
          refine lv_iload_n hx hb dX9_firstAfter_24 rfl (lv_at hl 0 rfl) ?_
          refine lX_9_1 hx hb hK hP (f := (fa 9 1)) rfl (vp_in_iff.mpr ⟨by omega, by omega⟩) dX9_firstAfter_25 ?_
          refine lv_topi (fun v143 ev143 => ?_)
          refine lv_iload_n hx hb dX9_firstAfter_26 rfl (lv_at hl 3 rfl) ?_
          refine lv_icmp_le (tgt := 32) hx hb dX9_firstAfter_27 (by decide) (fun c144 => ?_) (fun c144 => ?_)
          · have fc144 := z_le (rfl : (v143).toInt = _) (rfl : (b).toInt = _) c144
            obtain ⟨v145, ev145⟩ : ∃ y : Int32, y = x137_3 + 1 := ⟨_, rfl⟩
            have tv145 := z_add ev145 rfl (by decide : (1 : Int32).toInt = 1) (by omega) (by omega)
            refine lv_iinc (v := v145) (lv' := [(3, .int v145), (0, .ref (g 11 1)), (1, .int a), (2, .int b)]) hx hb dX9_firstAfter_32 hl (k := 0) rfl (by rw [ev145]; rfl) (by decide) rfl (fun ls hl => ?_)
            refine lv_goto (tgt := 2) hx hb dX9_firstAfter_35 (by decide) ?_
            exact ih138 v145 ⟨by omega, by omega⟩ (show tFi (fa 9 0) (fa 9 1) a b ((v145 : Int32).toInt).toNat = -1 from (by have hc := fi_step (sc := fa 9 0) (dy := fa 9 1) (s := a) (d := b) (t := x137_3) (t' := v145) (x := v140) (y := v143) (by omega) (by omega) ev140 ev143; have hq9 := hq138_0; rw [hc]; split <;> (try split) <;> omega)) (show (v145 : Int32).toInt ≤ ((iv 9 3) : Int32).toInt from by omega) (by omega) ls (lv_sub hl [0, 1, 2, 3] rfl)
          · have fc144 := z_nle (rfl : (v143).toInt = _) (rfl : (b).toInt = _) c144
            refine lv_iload_n hx hb dX9_firstAfter_30 rfl (lv_at hl 0 rfl) ?_
            exact W.iret (v := x137_3) hx hb hr (fun t ht9 hW => ⟨x137_3, rfl, ⟨⟨by omega, by omega⟩, (show (x137_3 : Int32).toInt = tFi (fa 9 0) (fa 9 1) a b (((iv 9 3) : Int32).toInt).toNat from (by have hz : ((x137_3 : Int32) + 1).toInt = (x137_3 : Int32).toInt + 1 := z_add rfl rfl (by decide : (1 : Int32).toInt = 1) (by omega) (by omega); have hc := fi_step (sc := fa 9 0) (dy := fa 9 1) (s := a) (d := b) (t := x137_3) (t' := x137_3 + 1) (x := v140) (y := v143) hz (by omega) ev140 ev143; have hq9 := hq138_0; rw [if_neg (by omega), if_pos ⟨by omega, by omega⟩] at hc; have hs := fi_stay (sc := fa 9 0) (dy := fa 9 1) (s := a) (d := b) (m := ((x137_3 : Int32) + 1).toInt.toNat) (by omega) ((iv 9 3).toInt).toNat (by omega); omega))⟩, ht9⟩) (fun q hq => by cases hq) dX9_firstAfter_31
  have : (0 : Int32).toInt = 0 := (by decide)
  have i_9_3 : 0 ≤ (iv 9 3).toInt ∧ (iv 9 3).toInt ≤ 30 := hI.1 9 3
  exact lp138 31 0 ⟨by decide, by decide⟩ (show tFi (fa 9 0) (fa 9 1) a b ((0 : Int32).toInt).toNat = -1 from rfl) (show (0 : Int32).toInt ≤ ((iv 9 3) : Int32).toInt from by omega) (by first | decide | omega) ls (lv_sub hl [0, 1, 2, 3] rfl)
set_option maxHeartbeats 4000000 in
set_option maxRecDepth 100000 in
/-- X9_driftOf -/
theorem c_X9_driftOf_x (l : Launch) (dC : Nat → ClassId) (dI : Nat → Nat → Nat) (h : Nat) (g : Nat → Nat → Nat) (ca : Nat → Nat → ClassId) (iv : Nat → Nat → Int32) (lv : Nat → Nat → Int64) (fa : Nat → Nat → Nat → Int32) (la : Nat → Nat → Nat → Int64) (hI : IX iv fa) (a : Int32) (b : Int32) (h_a : (-1) ≤ a.toInt ∧ a.toInt ≤ 29) (h_b : (-1) ≤ b.toInt ∧ b.toInt ≤ 29) : Met l yX9_driftOf (wc yX9_driftOf cX9_driftOf 3 (some .int)) ({ frames := 0, cells := 0, slots := 0, locals := 0 } : Room) (pR (dC, dI) classes (WX h g ca iv lv fa la) (TX ca) [.ref (g 11 1), .int a, .int b]) (vp_Si (fun r => (True) ∧ (((a.toInt ≠ -1 ∧ r.toInt = ((fa 9 2) (a.toInt).toNat).toInt) ∨ (a.toInt = -1 ∧ b.toInt = -1 ∧ r.toInt = 0) ∨ (a.toInt = -1 ∧ b.toInt ≠ -1 ∧ r.toInt = ((fa 9 2) (b.toInt).toNat).toInt))))) 0 0 (fun _ => False) := by
  refine Met.ofW (cc := cX9_driftOf) (maxL := 3) (ret := (some .int)) (by decide) rfl ?_
  intro p e s m args below meth c s₁ B hml hv
  obtain ⟨rfl, hP, hK⟩ := hv
  have hx := B.exec
  have hb := B.bytes
  have hr := B.returns
  have ht := tb_tl (atoms_spec (ws := wc yX9_driftOf cX9_driftOf 3 (some .int)) B.pre)
  have hown : s.vm.findClass RX9 = some m.cls := findClass_of_methodNamed B.named
  have hlocks := B.notSynchronized
  have hl := lv_entry [.ref (g 11 1), .int a, .int b] (n := 3) (Nat.le_of_ble_eq_true rfl)
  rw [lg_entry_eq]
  generalize (lg_sl [.ref (g 11 1), .int a, .int b] ++ List.replicate (3 - (lg_sl [.ref (g 11 1), .int a, .int b]).length) Slot.unset).toArray = ls at hl ⊢
  have hl : lv_has ls 3 [(0, .ref (g 11 1)), (1, .int a), (2, .int b)] := hl
  refine lv_iload_n hx hb dX9_driftOf_0 rfl (lv_at hl 1 rfl) ?_
  refine lv_iconst (v := (-1)) hx hb dX9_driftOf_1 (by decide) ?_
  refine lv_icmp_eq (tgt := 12) hx hb dX9_driftOf_2 (by decide) (fun c1 => ?_) (fun c1 => ?_)
  · have fc1 := z_eq (rfl : (a).toInt = _) (by decide : ((-1) : Int32).toInt = (-1)) c1
    refine lv_iload_n hx hb dX9_driftOf_12 rfl (lv_at hl 2 rfl) ?_
    refine lv_iconst (v := (-1)) hx hb dX9_driftOf_13 (by decide) ?_
    refine lv_icmp_ne (tgt := 21) hx hb dX9_driftOf_14 (by decide) (fun c2 => ?_) (fun c2 => ?_)
    · have fc2 := z_ne (rfl : (b).toInt = _) (by decide : ((-1) : Int32).toInt = (-1)) c2
      refine lv_aload_n hx hb dX9_driftOf_21 rfl (lv_at hl 0 rfl) ?_
      refine gX_9_2 hx hb ht hown hK hP m_134 dX9_driftOf_22 ?_
      refine lv_iload_n hx hb dX9_driftOf_25 rfl (lv_at hl 2 rfl) ?_
      refine lX_9_2 hx hb hK hP (f := (fa 9 2)) rfl (vp_in_iff.mpr ⟨by omega, by omega⟩) dX9_driftOf_26 ?_
      refine lv_topi (fun v3 ev3 => ?_)
      exact W.iret (v := v3) hx hb hr (fun t ht9 hW => ⟨v3, rfl, ⟨trivial, (show (((a).toInt ≠ -1 ∧ (v3 : Int32).toInt = ((fa 9 2) ((a).toInt).toNat).toInt) ∨ ((a).toInt = -1 ∧ (b).toInt = -1 ∧ (v3 : Int32).toInt = 0) ∨ ((a).toInt = -1 ∧ (b).toInt ≠ -1 ∧ (v3 : Int32).toInt = ((fa 9 2) ((b).toInt).toNat).toInt)) from (by have := congrArg Int32.toInt (show v3 = fa 9 2 ((b : Int32).toInt).toNat from ev3); omega))⟩, ht9⟩) (fun q hq => by cases hq) dX9_driftOf_27
    · have fc2 := z_eq (rfl : (b).toInt = _) (by decide : ((-1) : Int32).toInt = (-1)) c2
      refine lv_iconst (v := 0) hx hb dX9_driftOf_17 (by decide) ?_
      refine lv_goto (tgt := 27) hx hb dX9_driftOf_18 (by decide) ?_
      have : (0 : Int32).toInt = 0 := (by decide)
      exact W.iret (v := 0) hx hb hr (fun t ht9 hW => ⟨0, rfl, ⟨trivial, (show (((a).toInt ≠ -1 ∧ (0 : Int32).toInt = ((fa 9 2) ((a).toInt).toNat).toInt) ∨ ((a).toInt = -1 ∧ (b).toInt = -1 ∧ (0 : Int32).toInt = 0) ∨ ((a).toInt = -1 ∧ (b).toInt ≠ -1 ∧ (0 : Int32).toInt = ((fa 9 2) ((b).toInt).toNat).toInt)) from (by omega))⟩, ht9⟩) (fun q hq => by cases hq) dX9_driftOf_27
  · have fc1 := z_ne (rfl : (a).toInt = _) (by decide : ((-1) : Int32).toInt = (-1)) c1
    refine lv_aload_n hx hb dX9_driftOf_5 rfl (lv_at hl 0 rfl) ?_
    refine gX_9_2 hx hb ht hown hK hP m_134 dX9_driftOf_6 ?_
    refine lv_iload_n hx hb dX9_driftOf_9 rfl (lv_at hl 1 rfl) ?_
    refine lX_9_2 hx hb hK hP (f := (fa 9 2)) rfl (vp_in_iff.mpr ⟨by omega, by omega⟩) dX9_driftOf_10 ?_
    refine lv_topi (fun v4 ev4 => ?_)
    exact W.iret (v := v4) hx hb hr (fun t ht9 hW => ⟨v4, rfl, ⟨trivial, (show (((a).toInt ≠ -1 ∧ (v4 : Int32).toInt = ((fa 9 2) ((a).toInt).toNat).toInt) ∨ ((a).toInt = -1 ∧ (b).toInt = -1 ∧ (v4 : Int32).toInt = 0) ∨ ((a).toInt = -1 ∧ (b).toInt ≠ -1 ∧ (v4 : Int32).toInt = ((fa 9 2) ((b).toInt).toNat).toInt)) from (by have := congrArg Int32.toInt (show v4 = fa 9 2 ((a : Int32).toInt).toNat from ev4); omega))⟩, ht9⟩) (fun q hq => by cases hq) dX9_driftOf_11
set_option maxHeartbeats 4000000 in
set_option maxRecDepth 100000 in
/-- X9_least -/
theorem c_X9_least_x (l : Launch) (dC : Nat → ClassId) (dI : Nat → Nat → Nat) (h : Nat) (g : Nat → Nat → Nat) (ca : Nat → Nat → ClassId) (iv : Nat → Nat → Int32) (lv : Nat → Nat → Int64) (fa : Nat → Nat → Nat → Int32) (la : Nat → Nat → Nat → Int64) (hI : IX iv fa) (a : Int32) (b : Int32) : Met l yX9_least (wc yX9_least cX9_least 5 (some .int)) ({ frames := 1, cells := 0, slots := 0, locals := 40 } : Room) (pR (dC, dI) classes (WX h g ca iv lv fa la) (TX ca) [.ref (g 11 1), .int a, .int b]) (vp_Si (fun r => (True) ∧ (r.toInt = er0 (fa 9 2) (tLa (fa 9 0) (fa 9 1) a b ((iv 9 3).toInt).toNat) (tFi (fa 9 0) (fa 9 1) a b ((iv 9 3).toInt).toNat)))) 0 0 (fun _ => False) := by
  refine Met.ofW (cc := cX9_least) (maxL := 5) (ret := (some .int)) (by decide) rfl ?_
  intro p e s m args below meth c s₁ B hml hv
  obtain ⟨rfl, hP, hK⟩ := hv
  have hx := B.exec
  have hb := B.bytes
  have hr := B.returns
  have ht := tb_tl (atoms_spec (ws := wc yX9_least cX9_least 5 (some .int)) B.pre)
  have hown : s.vm.findClass RX9 = some m.cls := findClass_of_methodNamed B.named
  have hlocks := B.notSynchronized
  have hl := lv_entry [.ref (g 11 1), .int a, .int b] (n := 5) (Nat.le_of_ble_eq_true rfl)
  rw [lg_entry_eq]
  generalize (lg_sl [.ref (g 11 1), .int a, .int b] ++ List.replicate (5 - (lg_sl [.ref (g 11 1), .int a, .int b]).length) Slot.unset).toArray = ls at hl ⊢
  have hl : lv_has ls 5 [(0, .ref (g 11 1)), (1, .int a), (2, .int b)] := hl
  refine lv_aload_n hx hb dX9_least_0 rfl (lv_at hl 0 rfl) ?_
  refine lv_iload_n hx hb dX9_least_1 rfl (lv_at hl 1 rfl) ?_
  refine lv_iload_n hx hb dX9_least_2 rfl (lv_at hl 2 rfl) ?_
  refine vp_callSi (W.runV (As := [.int a, .int b]) (rest := []) ⟨hx, hb, hml, hown, ht⟩ (c_X9_lastBy_x l dC dI h g ca iv lv fa la hI a b) (kV 2 ht m_538 m_540 m_1 m_79 m_541 rfl rfl hd_X9_lastBy_v ⟨Nat.le_of_ble_eq_true rfl, Nat.le_of_ble_eq_true rfl⟩) (vR hP hK (rX_9 hK hP)) rfl rfl hl.1 rfl (lv_room (Nat.le_of_ble_eq_true rfl)) dX9_least_3 ⟨Nat.le_of_ble_eq_true rfl, Nat.le_of_ble_eq_true rfl⟩) (fun r1 hr1 => ?_)
  obtain ⟨hr1, xr1_0⟩ := hr1
  have i_9_3 : 0 ≤ (iv 9 3).toInt ∧ (iv 9 3).toInt ≤ 30 := hI.1 9 3
  have xr1_0 : (r1 : Int32).toInt = tLa (fa 9 0) (fa 9 1) (a : Int32) (b : Int32) (((iv 9 3) : Int32).toInt).toNat := xr1_0
  refine lv_istore_n (lv' := [(3, .int r1), (0, .ref (g 11 1)), (1, .int a), (2, .int b)]) hx hb dX9_least_6 rfl hl (by decide) rfl (fun ls hl => ?_)
  refine lv_aload_n hx hb dX9_least_7 rfl (lv_at hl 1 rfl) ?_
  refine lv_iload_n hx hb dX9_least_8 rfl (lv_at hl 2 rfl) ?_
  refine lv_iload_n hx hb dX9_least_9 rfl (lv_at hl 3 rfl) ?_
  refine vp_callSi (W.runV (As := [.int a, .int b]) (rest := []) ⟨hx, hb, hml, hown, ht⟩ (c_X9_firstAfter_x l dC dI h g ca iv lv fa la hI a b) (kV 2 ht m_542 m_544 m_2 m_79 m_545 rfl rfl hd_X9_firstAfter_v ⟨Nat.le_of_ble_eq_true rfl, Nat.le_of_ble_eq_true rfl⟩) (vR hP hK (rX_9 hK hP)) rfl rfl hl.1 rfl (lv_room (Nat.le_of_ble_eq_true rfl)) dX9_least_10 ⟨Nat.le_of_ble_eq_true rfl, Nat.le_of_ble_eq_true rfl⟩) (fun r2 hr2 => ?_)
  obtain ⟨hr2, xr2_0⟩ := hr2
  have xr2_0 : (r2 : Int32).toInt = tFi (fa 9 0) (fa 9 1) (a : Int32) (b : Int32) (((iv 9 3) : Int32).toInt).toNat := xr2_0
  refine lv_istore (lv' := [(4, .int r2), (3, .int r1), (0, .ref (g 11 1)), (1, .int a), (2, .int b)]) hx hb dX9_least_13 hl (by decide) rfl (fun ls hl => ?_)
  refine lv_aload_n hx hb dX9_least_15 rfl (lv_at hl 2 rfl) ?_
  refine lv_iload_n hx hb dX9_least_16 rfl (lv_at hl 1 rfl) ?_
  refine lv_iload hx hb dX9_least_17 (lv_at hl 0 rfl) ?_
  refine vp_callSi (W.runV (As := [.int r1, .int r2]) (rest := []) ⟨hx, hb, hml, hown, ht⟩ (c_X9_driftOf_x l dC dI h g ca iv lv fa la hI r1 r2 ⟨by omega, by omega⟩ ⟨by omega, by omega⟩) (kV 2 ht m_546 m_548 m_3 m_79 m_549 rfl rfl hd_X9_driftOf_v ⟨Nat.le_of_ble_eq_true rfl, Nat.le_of_ble_eq_true rfl⟩) (vR hP hK (rX_9 hK hP)) rfl rfl hl.1 rfl (lv_room (Nat.le_of_ble_eq_true rfl)) dX9_least_19 ⟨Nat.le_of_ble_eq_true rfl, Nat.le_of_ble_eq_true rfl⟩) (fun r3 hr3 => ?_)
  obtain ⟨hr3, xr3_0⟩ := hr3
  have xr3_0 : (((r1 : Int32).toInt ≠ -1 ∧ (r3 : Int32).toInt = ((fa 9 2) ((r1 : Int32).toInt).toNat).toInt) ∨ ((r1 : Int32).toInt = -1 ∧ (r2 : Int32).toInt = -1 ∧ (r3 : Int32).toInt = 0) ∨ ((r1 : Int32).toInt = -1 ∧ (r2 : Int32).toInt ≠ -1 ∧ (r3 : Int32).toInt = ((fa 9 2) ((r2 : Int32).toInt).toNat).toInt)) := xr3_0
  refine lv_aload_n hx hb dX9_least_22 rfl (lv_at hl 2 rfl) ?_
  refine lv_iload hx hb dX9_least_23 (lv_at hl 0 rfl) ?_
  refine lv_iload_n hx hb dX9_least_25 rfl (lv_at hl 1 rfl) ?_
  refine vp_callSi (W.runV (As := [.int r2, .int r1]) (rest := [.int r3]) ⟨hx, hb, hml, hown, ht⟩ (c_X9_driftOf_x l dC dI h g ca iv lv fa la hI r2 r1 ⟨by omega, by omega⟩ ⟨by omega, by omega⟩) (kV 2 ht m_546 m_548 m_3 m_79 m_549 rfl rfl hd_X9_driftOf_v ⟨Nat.le_of_ble_eq_true rfl, Nat.le_of_ble_eq_true rfl⟩) (vR hP hK (rX_9 hK hP)) rfl rfl hl.1 rfl (lv_room (Nat.le_of_ble_eq_true rfl)) dX9_least_26 ⟨Nat.le_of_ble_eq_true rfl, Nat.le_of_ble_eq_true rfl⟩) (fun r4 hr4 => ?_)
  obtain ⟨hr4, xr4_0⟩ := hr4
  have xr4_0 : (((r2 : Int32).toInt ≠ -1 ∧ (r4 : Int32).toInt = ((fa 9 2) ((r2 : Int32).toInt).toNat).toInt) ∨ ((r2 : Int32).toInt = -1 ∧ (r1 : Int32).toInt = -1 ∧ (r4 : Int32).toInt = 0) ∨ ((r2 : Int32).toInt = -1 ∧ (r1 : Int32).toInt ≠ -1 ∧ (r4 : Int32).toInt = ((fa 9 2) ((r1 : Int32).toInt).toNat).toInt)) := xr4_0
  refine va_mmin hx hb (hml.trans hl.1.symm) hown (ht _ m_550) (ht _ m_551) (ht _ m_90) (ht _ m_552) (Nat.le_of_ble_eq_true rfl) (Nat.le_of_ble_eq_true rfl) (Nat.le_of_ble_eq_true rfl) (Nat.le_of_ble_eq_true rfl) dX9_least_29 ?_
  refine lv_topi (fun v5 ev5 => ?_)
  have tv5 := mm_or ev5
  have uv5 := mm_min ev5 (rfl : (r3).toInt = _) (rfl : (r4).toInt = _)
  exact W.iret (v := v5) hx hb hr (fun t ht9 hW => ⟨v5, rfl, ⟨trivial, (show (v5 : Int32).toInt = er0 (fa 9 2) (tLa (fa 9 0) (fa 9 1) a b (((iv 9 3) : Int32).toInt).toNat) (tFi (fa 9 0) (fa 9 1) a b (((iv 9 3) : Int32).toInt).toNat) from (by
          rw [← xr1_0, ← xr2_0]; unfold er0
          split
          · omega
          · split
            · omega
            · split
              · omega
              · omega))⟩, ht9⟩) (fun q hq => by cases hq) dX9_least_32
set_option maxHeartbeats 4000000 in
set_option maxRecDepth 100000 in
/-- X9_greatest -/
theorem c_X9_greatest_x (l : Launch) (dC : Nat → ClassId) (dI : Nat → Nat → Nat) (h : Nat) (g : Nat → Nat → Nat) (ca : Nat → Nat → ClassId) (iv : Nat → Nat → Int32) (lv : Nat → Nat → Int64) (fa : Nat → Nat → Nat → Int32) (la : Nat → Nat → Nat → Int64) (hI : IX iv fa) (a : Int32) (b : Int32) : Met l yX9_greatest (wc yX9_greatest cX9_greatest 5 (some .int)) ({ frames := 1, cells := 0, slots := 0, locals := 40 } : Room) (pR (dC, dI) classes (WX h g ca iv lv fa la) (TX ca) [.ref (g 11 1), .int a, .int b]) (vp_Si (fun r => (True) ∧ (r.toInt = er1 (fa 9 2) (tLa (fa 9 0) (fa 9 1) a b ((iv 9 3).toInt).toNat) (tFi (fa 9 0) (fa 9 1) a b ((iv 9 3).toInt).toNat)))) 0 0 (fun _ => False) := by
  refine Met.ofW (cc := cX9_greatest) (maxL := 5) (ret := (some .int)) (by decide) rfl ?_
  intro p e s m args below meth c s₁ B hml hv
  obtain ⟨rfl, hP, hK⟩ := hv
  have hx := B.exec
  have hb := B.bytes
  have hr := B.returns
  have ht := tb_tl (atoms_spec (ws := wc yX9_greatest cX9_greatest 5 (some .int)) B.pre)
  have hown : s.vm.findClass RX9 = some m.cls := findClass_of_methodNamed B.named
  have hlocks := B.notSynchronized
  have hl := lv_entry [.ref (g 11 1), .int a, .int b] (n := 5) (Nat.le_of_ble_eq_true rfl)
  rw [lg_entry_eq]
  generalize (lg_sl [.ref (g 11 1), .int a, .int b] ++ List.replicate (5 - (lg_sl [.ref (g 11 1), .int a, .int b]).length) Slot.unset).toArray = ls at hl ⊢
  have hl : lv_has ls 5 [(0, .ref (g 11 1)), (1, .int a), (2, .int b)] := hl
  refine lv_aload_n hx hb dX9_greatest_0 rfl (lv_at hl 0 rfl) ?_
  refine lv_iload_n hx hb dX9_greatest_1 rfl (lv_at hl 1 rfl) ?_
  refine lv_iload_n hx hb dX9_greatest_2 rfl (lv_at hl 2 rfl) ?_
  refine vp_callSi (W.runV (As := [.int a, .int b]) (rest := []) ⟨hx, hb, hml, hown, ht⟩ (c_X9_lastBy_x l dC dI h g ca iv lv fa la hI a b) (kV 2 ht m_538 m_540 m_1 m_79 m_541 rfl rfl hd_X9_lastBy_v ⟨Nat.le_of_ble_eq_true rfl, Nat.le_of_ble_eq_true rfl⟩) (vR hP hK (rX_9 hK hP)) rfl rfl hl.1 rfl (lv_room (Nat.le_of_ble_eq_true rfl)) dX9_greatest_3 ⟨Nat.le_of_ble_eq_true rfl, Nat.le_of_ble_eq_true rfl⟩) (fun r1 hr1 => ?_)
  obtain ⟨hr1, xr1_0⟩ := hr1
  have i_9_3 : 0 ≤ (iv 9 3).toInt ∧ (iv 9 3).toInt ≤ 30 := hI.1 9 3
  have xr1_0 : (r1 : Int32).toInt = tLa (fa 9 0) (fa 9 1) (a : Int32) (b : Int32) (((iv 9 3) : Int32).toInt).toNat := xr1_0
  refine lv_istore_n (lv' := [(3, .int r1), (0, .ref (g 11 1)), (1, .int a), (2, .int b)]) hx hb dX9_greatest_6 rfl hl (by decide) rfl (fun ls hl => ?_)
  refine lv_aload_n hx hb dX9_greatest_7 rfl (lv_at hl 1 rfl) ?_
  refine lv_iload_n hx hb dX9_greatest_8 rfl (lv_at hl 2 rfl) ?_
  refine lv_iload_n hx hb dX9_greatest_9 rfl (lv_at hl 3 rfl) ?_
  refine vp_callSi (W.runV (As := [.int a, .int b]) (rest := []) ⟨hx, hb, hml, hown, ht⟩ (c_X9_firstAfter_x l dC dI h g ca iv lv fa la hI a b) (kV 2 ht m_542 m_544 m_2 m_79 m_545 rfl rfl hd_X9_firstAfter_v ⟨Nat.le_of_ble_eq_true rfl, Nat.le_of_ble_eq_true rfl⟩) (vR hP hK (rX_9 hK hP)) rfl rfl hl.1 rfl (lv_room (Nat.le_of_ble_eq_true rfl)) dX9_greatest_10 ⟨Nat.le_of_ble_eq_true rfl, Nat.le_of_ble_eq_true rfl⟩) (fun r2 hr2 => ?_)
  obtain ⟨hr2, xr2_0⟩ := hr2
  have xr2_0 : (r2 : Int32).toInt = tFi (fa 9 0) (fa 9 1) (a : Int32) (b : Int32) (((iv 9 3) : Int32).toInt).toNat := xr2_0
  refine lv_istore (lv' := [(4, .int r2), (3, .int r1), (0, .ref (g 11 1)), (1, .int a), (2, .int b)]) hx hb dX9_greatest_13 hl (by decide) rfl (fun ls hl => ?_)
  refine lv_aload_n hx hb dX9_greatest_15 rfl (lv_at hl 2 rfl) ?_
  refine lv_iload_n hx hb dX9_greatest_16 rfl (lv_at hl 1 rfl) ?_
  refine lv_iload hx hb dX9_greatest_17 (lv_at hl 0 rfl) ?_
  refine vp_callSi (W.runV (As := [.int r1, .int r2]) (rest := []) ⟨hx, hb, hml, hown, ht⟩ (c_X9_driftOf_x l dC dI h g ca iv lv fa la hI r1 r2 ⟨by omega, by omega⟩ ⟨by omega, by omega⟩) (kV 2 ht m_546 m_548 m_3 m_79 m_549 rfl rfl hd_X9_driftOf_v ⟨Nat.le_of_ble_eq_true rfl, Nat.le_of_ble_eq_true rfl⟩) (vR hP hK (rX_9 hK hP)) rfl rfl hl.1 rfl (lv_room (Nat.le_of_ble_eq_true rfl)) dX9_greatest_19 ⟨Nat.le_of_ble_eq_true rfl, Nat.le_of_ble_eq_true rfl⟩) (fun r3 hr3 => ?_)
  obtain ⟨hr3, xr3_0⟩ := hr3
  have xr3_0 : (((r1 : Int32).toInt ≠ -1 ∧ (r3 : Int32).toInt = ((fa 9 2) ((r1 : Int32).toInt).toNat).toInt) ∨ ((r1 : Int32).toInt = -1 ∧ (r2 : Int32).toInt = -1 ∧ (r3 : Int32).toInt = 0) ∨ ((r1 : Int32).toInt = -1 ∧ (r2 : Int32).toInt ≠ -1 ∧ (r3 : Int32).toInt = ((fa 9 2) ((r2 : Int32).toInt).toNat).toInt)) := xr3_0
  refine lv_aload_n hx hb dX9_greatest_22 rfl (lv_at hl 2 rfl) ?_
  refine lv_iload hx hb dX9_greatest_23 (lv_at hl 0 rfl) ?_
  refine lv_iload_n hx hb dX9_greatest_25 rfl (lv_at hl 1 rfl) ?_
  refine vp_callSi (W.runV (As := [.int r2, .int r1]) (rest := [.int r3]) ⟨hx, hb, hml, hown, ht⟩ (c_X9_driftOf_x l dC dI h g ca iv lv fa la hI r2 r1 ⟨by omega, by omega⟩ ⟨by omega, by omega⟩) (kV 2 ht m_546 m_548 m_3 m_79 m_549 rfl rfl hd_X9_driftOf_v ⟨Nat.le_of_ble_eq_true rfl, Nat.le_of_ble_eq_true rfl⟩) (vR hP hK (rX_9 hK hP)) rfl rfl hl.1 rfl (lv_room (Nat.le_of_ble_eq_true rfl)) dX9_greatest_26 ⟨Nat.le_of_ble_eq_true rfl, Nat.le_of_ble_eq_true rfl⟩) (fun r4 hr4 => ?_)
  obtain ⟨hr4, xr4_0⟩ := hr4
  have xr4_0 : (((r2 : Int32).toInt ≠ -1 ∧ (r4 : Int32).toInt = ((fa 9 2) ((r2 : Int32).toInt).toNat).toInt) ∨ ((r2 : Int32).toInt = -1 ∧ (r1 : Int32).toInt = -1 ∧ (r4 : Int32).toInt = 0) ∨ ((r2 : Int32).toInt = -1 ∧ (r1 : Int32).toInt ≠ -1 ∧ (r4 : Int32).toInt = ((fa 9 2) ((r1 : Int32).toInt).toNat).toInt)) := xr4_0
  refine va_mmax hx hb (hml.trans hl.1.symm) hown (ht _ m_557) (ht _ m_558) (ht _ m_90) (ht _ m_559) (Nat.le_of_ble_eq_true rfl) (Nat.le_of_ble_eq_true rfl) (Nat.le_of_ble_eq_true rfl) (Nat.le_of_ble_eq_true rfl) dX9_greatest_29 ?_
  refine lv_topi (fun v5 ev5 => ?_)
  have tv5 := mm_or ev5
  have uv5 := mm_max ev5 (rfl : (r3).toInt = _) (rfl : (r4).toInt = _)
  exact W.iret (v := v5) hx hb hr (fun t ht9 hW => ⟨v5, rfl, ⟨trivial, (show (v5 : Int32).toInt = er1 (fa 9 2) (tLa (fa 9 0) (fa 9 1) a b (((iv 9 3) : Int32).toInt).toNat) (tFi (fa 9 0) (fa 9 1) a b (((iv 9 3) : Int32).toInt).toNat) from (by
          rw [← xr1_0, ← xr2_0]; unfold er1
          split
          · omega
          · split
            · omega
            · split
              · omega
              · omega))⟩, ht9⟩) (fun q hq => by cases hq) dX9_greatest_32
set_option maxHeartbeats 4000000 in
set_option maxRecDepth 100000 in
/-- X11_error -/
theorem c_X11_error_x (l : Launch) (dC : Nat → ClassId) (dI : Nat → Nat → Nat) (h : Nat) (g : Nat → Nat → Nat) (ca : Nat → Nat → ClassId) (iv : Nat → Nat → Int32) (lv : Nat → Nat → Int64) (fa : Nat → Nat → Nat → Int32) (la : Nat → Nat → Nat → Int64) (hI : IX iv fa) (a : Int32) (b : Int32) (d : Int32) : Met l yX11_error (wc yX11_error cX11_error 4 (some .int)) ({ frames := 2, cells := 0, slots := 0, locals := 64 } : Room) (pR (dC, dI) classes (WX h g ca iv lv fa la) (TX ca) [.ref h, .int a, .int b, .int d]) (vp_Si (fun r => (True) ∧ (((r.toInt = -100002 ∧ ¬ (0 ≤ a.toInt ∧ a.toInt ≤ 3 ∧ 0 ≤ b.toInt ∧ b.toInt ≤ 3000 ∧ 0 ≤ d.toInt ∧ d.toInt ≤ 1)) ∨ (0 ≤ a.toInt ∧ a.toInt ≤ 3 ∧ 0 ≤ b.toInt ∧ b.toInt ≤ 3000 ∧ 0 ≤ d.toInt ∧ d.toInt ≤ 1 ∧ d.toInt = 0 ∧ r.toInt = er0 (fa 9 2) (tLa (fa 9 0) (fa 9 1) a b ((iv 9 3).toInt).toNat) (tFi (fa 9 0) (fa 9 1) a b ((iv 9 3).toInt).toNat)) ∨ (0 ≤ a.toInt ∧ a.toInt ≤ 3 ∧ 0 ≤ b.toInt ∧ b.toInt ≤ 3000 ∧ 0 ≤ d.toInt ∧ d.toInt ≤ 1 ∧ d.toInt = 1 ∧ r.toInt = er1 (fa 9 2) (tLa (fa 9 0) (fa 9 1) a b ((iv 9 3).toInt).toNat) (tFi (fa 9 0) (fa 9 1) a b ((iv 9 3).toInt).toNat)))))) 0 0 (fun _ => False) := by
  refine Met.ofW (cc := cX11_error) (maxL := 4) (ret := (some .int)) (by decide) rfl ?_
  intro p e s m args below meth c s₁ B hml hv
  obtain ⟨rfl, hP, hK⟩ := hv
  have hx := B.exec
  have hb := B.bytes
  have hr := B.returns
  have ht := tb_tl (atoms_spec (ws := wc yX11_error cX11_error 4 (some .int)) B.pre)
  have hown : s.vm.findClass RX11 = some m.cls := findClass_of_methodNamed B.named
  have hlocks := B.notSynchronized
  have hl := lv_entry [.ref h, .int a, .int b, .int d] (n := 4) (Nat.le_of_ble_eq_true rfl)
  rw [lg_entry_eq]
  generalize (lg_sl [.ref h, .int a, .int b, .int d] ++ List.replicate (4 - (lg_sl [.ref h, .int a, .int b, .int d]).length) Slot.unset).toArray = ls at hl ⊢
  have hl : lv_has ls 4 [(0, .ref h), (1, .int a), (2, .int b), (3, .int d)] := hl
  refine lv_iload_n hx hb dX11_error_0 rfl (lv_at hl 1 rfl) ?_
  refine lv_iconst (v := 0) hx hb dX11_error_1 (by decide) ?_
  refine lv_iconst (v := 3) hx hb dX11_error_2 (by decide) ?_
  refine vp_callSi (W.runS (As := [.int a, .int 0, .int 3]) (rest := []) ⟨hx, hb, hml, hown, ht⟩ (c_X11_within l dC dI a 0 3 (a.toInt) (0) (3) (rfl : (a).toInt = _) (by decide : (0 : Int32).toInt = 0) (by decide : (3 : Int32).toInt = 3)) (kS 3 ht m_453 m_454 m_77 m_455 rfl rfl hd_X11_within_v ⟨Nat.le_of_ble_eq_true rfl, Nat.le_of_ble_eq_true rfl⟩) (sR noP (hK.sub (tys' := []) [] rfl)) rfl rfl hl.1 rfl (lv_room (Nat.le_of_ble_eq_true rfl)) dX11_error_3 ⟨Nat.le_of_ble_eq_true rfl, Nat.le_of_ble_eq_true rfl⟩) (fun r1 hr1 => ?_)
  rcases hr1 with ⟨rfl, fr1⟩ | ⟨rfl, fr1⟩
  · skip
    refine lv_if_eq (tgt := 29) hx hb dX11_error_6 (by decide) (fun c2 => ?_) (fun c2 => ?_)
    · exact absurd c2 (by decide)
    · skip
      refine lv_iload_n hx hb dX11_error_9 rfl (lv_at hl 2 rfl) ?_
      refine lv_iconst (v := 0) hx hb dX11_error_10 (by decide) ?_
      refine lv_sipush (v := 3000) hx hb dX11_error_11 (by decide) ?_
      refine vp_callSi (W.runS (As := [.int b, .int 0, .int 3000]) (rest := []) ⟨hx, hb, hml, hown, ht⟩ (c_X11_within l dC dI b 0 3000 (b.toInt) (0) (3000) (rfl : (b).toInt = _) (by decide : (0 : Int32).toInt = 0) (by decide : (3000 : Int32).toInt = 3000)) (kS 3 ht m_453 m_454 m_77 m_455 rfl rfl hd_X11_within_v ⟨Nat.le_of_ble_eq_true rfl, Nat.le_of_ble_eq_true rfl⟩) (sR noP (hK.sub (tys' := []) [] rfl)) rfl rfl hl.1 rfl (lv_room (Nat.le_of_ble_eq_true rfl)) dX11_error_14 ⟨Nat.le_of_ble_eq_true rfl, Nat.le_of_ble_eq_true rfl⟩) (fun r3 hr3 => ?_)
      rcases hr3 with ⟨rfl, fr3⟩ | ⟨rfl, fr3⟩
      · skip
        refine lv_if_eq (tgt := 29) hx hb dX11_error_17 (by decide) (fun c4 => ?_) (fun c4 => ?_)
        · exact absurd c4 (by decide)
        · skip
          refine lv_iload_n hx hb dX11_error_20 rfl (lv_at hl 3 rfl) ?_
          refine lv_iconst (v := 0) hx hb dX11_error_21 (by decide) ?_
          refine lv_iconst (v := 1) hx hb dX11_error_22 (by decide) ?_
          refine vp_callSi (W.runS (As := [.int d, .int 0, .int 1]) (rest := []) ⟨hx, hb, hml, hown, ht⟩ (c_X11_within l dC dI d 0 1 (d.toInt) (0) (1) (rfl : (d).toInt = _) (by decide : (0 : Int32).toInt = 0) (by decide : (1 : Int32).toInt = 1)) (kS 3 ht m_453 m_454 m_77 m_455 rfl rfl hd_X11_within_v ⟨Nat.le_of_ble_eq_true rfl, Nat.le_of_ble_eq_true rfl⟩) (sR noP (hK.sub (tys' := []) [] rfl)) rfl rfl hl.1 rfl (lv_room (Nat.le_of_ble_eq_true rfl)) dX11_error_23 ⟨Nat.le_of_ble_eq_true rfl, Nat.le_of_ble_eq_true rfl⟩) (fun r5 hr5 => ?_)
          rcases hr5 with ⟨rfl, fr5⟩ | ⟨rfl, fr5⟩
          · skip
            refine lv_if_ne (tgt := 32) hx hb dX11_error_26 (by decide) (fun c6 => ?_) (fun c6 => ?_)
            · skip
              refine lv_iload_n hx hb dX11_error_32 rfl (lv_at hl 3 rfl) ?_
              refine lv_if_ne (tgt := 48) hx hb dX11_error_33 (by decide) (fun c7 => ?_) (fun c7 => ?_)
              · have fc7 := z_ne (rfl : (d).toInt = _) (by decide : (0 : Int32).toInt = 0) c7
                refine lv_aload_n hx hb dX11_error_48 rfl (lv_at hl 0 rfl) ?_
                refine gX_11_1 hx hb ht hown hK hP m_416 dX11_error_49 ?_
                refine lv_iload_n hx hb dX11_error_52 rfl (lv_at hl 1 rfl) ?_
                refine lv_iload_n hx hb dX11_error_53 rfl (lv_at hl 2 rfl) ?_
                refine vp_callSi (W.runV (As := [.int a, .int b]) (rest := []) ⟨hx, hb, hml, hown, ht⟩ (c_X9_greatest_x l dC dI h g ca iv lv fa la hI a b) (kV 2 ht m_553 m_554 m_555 m_79 m_556 rfl rfl hd_X9_greatest_v ⟨Nat.le_of_ble_eq_true rfl, Nat.le_of_ble_eq_true rfl⟩) (vR hP hK (rX_9 hK hP)) rfl rfl hl.1 rfl (lv_room (Nat.le_of_ble_eq_true rfl)) dX11_error_54 ⟨Nat.le_of_ble_eq_true rfl, Nat.le_of_ble_eq_true rfl⟩) (fun r8 hr8 => ?_)
                obtain ⟨hr8, xr8_0⟩ := hr8
                have i_9_3 : 0 ≤ (iv 9 3).toInt ∧ (iv 9 3).toInt ≤ 30 := hI.1 9 3
                have xr8_0 : (r8 : Int32).toInt = er1 (fa 9 2) (tLa (fa 9 0) (fa 9 1) (a : Int32) (b : Int32) (((iv 9 3) : Int32).toInt).toNat) (tFi (fa 9 0) (fa 9 1) (a : Int32) (b : Int32) (((iv 9 3) : Int32).toInt).toNat) := xr8_0
                exact W.iret (v := r8) hx hb hr (fun t ht9 hW => ⟨r8, rfl, ⟨trivial, (show (((r8 : Int32).toInt = -100002 ∧ ¬ (0 ≤ (a).toInt ∧ (a).toInt ≤ 3 ∧ 0 ≤ (b).toInt ∧ (b).toInt ≤ 3000 ∧ 0 ≤ (d).toInt ∧ (d).toInt ≤ 1)) ∨ (0 ≤ (a).toInt ∧ (a).toInt ≤ 3 ∧ 0 ≤ (b).toInt ∧ (b).toInt ≤ 3000 ∧ 0 ≤ (d).toInt ∧ (d).toInt ≤ 1 ∧ (d).toInt = 0 ∧ (r8 : Int32).toInt = er0 (fa 9 2) (tLa (fa 9 0) (fa 9 1) a b (((iv 9 3) : Int32).toInt).toNat) (tFi (fa 9 0) (fa 9 1) a b (((iv 9 3) : Int32).toInt).toNat)) ∨ (0 ≤ (a).toInt ∧ (a).toInt ≤ 3 ∧ 0 ≤ (b).toInt ∧ (b).toInt ≤ 3000 ∧ 0 ≤ (d).toInt ∧ (d).toInt ≤ 1 ∧ (d).toInt = 1 ∧ (r8 : Int32).toInt = er1 (fa 9 2) (tLa (fa 9 0) (fa 9 1) a b (((iv 9 3) : Int32).toInt).toNat) (tFi (fa 9 0) (fa 9 1) a b (((iv 9 3) : Int32).toInt).toNat))) from by omega)⟩, ht9⟩) (fun q hq => by cases hq) dX11_error_57
              · have fc7 := z_eq (rfl : (d).toInt = _) (by decide : (0 : Int32).toInt = 0) c7
                refine lv_aload_n hx hb dX11_error_36 rfl (lv_at hl 0 rfl) ?_
                refine gX_11_1 hx hb ht hown hK hP m_416 dX11_error_37 ?_
                refine lv_iload_n hx hb dX11_error_40 rfl (lv_at hl 1 rfl) ?_
                refine lv_iload_n hx hb dX11_error_41 rfl (lv_at hl 2 rfl) ?_
                refine vp_callSi (W.runV (As := [.int a, .int b]) (rest := []) ⟨hx, hb, hml, hown, ht⟩ (c_X9_least_x l dC dI h g ca iv lv fa la hI a b) (kV 2 ht m_534 m_535 m_536 m_79 m_537 rfl rfl hd_X9_least_v ⟨Nat.le_of_ble_eq_true rfl, Nat.le_of_ble_eq_true rfl⟩) (vR hP hK (rX_9 hK hP)) rfl rfl hl.1 rfl (lv_room (Nat.le_of_ble_eq_true rfl)) dX11_error_42 ⟨Nat.le_of_ble_eq_true rfl, Nat.le_of_ble_eq_true rfl⟩) (fun r9 hr9 => ?_)
                obtain ⟨hr9, xr9_0⟩ := hr9
                have i_9_3 : 0 ≤ (iv 9 3).toInt ∧ (iv 9 3).toInt ≤ 30 := hI.1 9 3
                have xr9_0 : (r9 : Int32).toInt = er0 (fa 9 2) (tLa (fa 9 0) (fa 9 1) (a : Int32) (b : Int32) (((iv 9 3) : Int32).toInt).toNat) (tFi (fa 9 0) (fa 9 1) (a : Int32) (b : Int32) (((iv 9 3) : Int32).toInt).toNat) := xr9_0
                refine lv_goto (tgt := 57) hx hb dX11_error_45 (by decide) ?_
                exact W.iret (v := r9) hx hb hr (fun t ht9 hW => ⟨r9, rfl, ⟨trivial, (show (((r9 : Int32).toInt = -100002 ∧ ¬ (0 ≤ (a).toInt ∧ (a).toInt ≤ 3 ∧ 0 ≤ (b).toInt ∧ (b).toInt ≤ 3000 ∧ 0 ≤ (d).toInt ∧ (d).toInt ≤ 1)) ∨ (0 ≤ (a).toInt ∧ (a).toInt ≤ 3 ∧ 0 ≤ (b).toInt ∧ (b).toInt ≤ 3000 ∧ 0 ≤ (d).toInt ∧ (d).toInt ≤ 1 ∧ (d).toInt = 0 ∧ (r9 : Int32).toInt = er0 (fa 9 2) (tLa (fa 9 0) (fa 9 1) a b (((iv 9 3) : Int32).toInt).toNat) (tFi (fa 9 0) (fa 9 1) a b (((iv 9 3) : Int32).toInt).toNat)) ∨ (0 ≤ (a).toInt ∧ (a).toInt ≤ 3 ∧ 0 ≤ (b).toInt ∧ (b).toInt ≤ 3000 ∧ 0 ≤ (d).toInt ∧ (d).toInt ≤ 1 ∧ (d).toInt = 1 ∧ (r9 : Int32).toInt = er1 (fa 9 2) (tLa (fa 9 0) (fa 9 1) a b (((iv 9 3) : Int32).toInt).toNat) (tFi (fa 9 0) (fa 9 1) a b (((iv 9 3) : Int32).toInt).toNat))) from by omega)⟩, ht9⟩) (fun q hq => by cases hq) dX11_error_57
            · exact absurd c6 (by decide)
          · skip
            refine lv_if_ne (tgt := 32) hx hb dX11_error_26 (by decide) (fun c10 => ?_) (fun c10 => ?_)
            · exact absurd rfl c10
            · skip
              refine lv_ldc hx hb hown (ht _ m_456) dX11_error_29 ?_
              have : ((-100002) : Int32).toInt = (-100002) := (by decide)
              have i_9_3 : 0 ≤ (iv 9 3).toInt ∧ (iv 9 3).toInt ≤ 30 := hI.1 9 3
              exact W.iret (v := (-100002)) hx hb hr (fun t ht9 hW => ⟨(-100002), rfl, ⟨trivial, (show ((((-100002) : Int32).toInt = -100002 ∧ ¬ (0 ≤ (a).toInt ∧ (a).toInt ≤ 3 ∧ 0 ≤ (b).toInt ∧ (b).toInt ≤ 3000 ∧ 0 ≤ (d).toInt ∧ (d).toInt ≤ 1)) ∨ (0 ≤ (a).toInt ∧ (a).toInt ≤ 3 ∧ 0 ≤ (b).toInt ∧ (b).toInt ≤ 3000 ∧ 0 ≤ (d).toInt ∧ (d).toInt ≤ 1 ∧ (d).toInt = 0 ∧ ((-100002) : Int32).toInt = er0 (fa 9 2) (tLa (fa 9 0) (fa 9 1) a b (((iv 9 3) : Int32).toInt).toNat) (tFi (fa 9 0) (fa 9 1) a b (((iv 9 3) : Int32).toInt).toNat)) ∨ (0 ≤ (a).toInt ∧ (a).toInt ≤ 3 ∧ 0 ≤ (b).toInt ∧ (b).toInt ≤ 3000 ∧ 0 ≤ (d).toInt ∧ (d).toInt ≤ 1 ∧ (d).toInt = 1 ∧ ((-100002) : Int32).toInt = er1 (fa 9 2) (tLa (fa 9 0) (fa 9 1) a b (((iv 9 3) : Int32).toInt).toNat) (tFi (fa 9 0) (fa 9 1) a b (((iv 9 3) : Int32).toInt).toNat))) from by omega)⟩, ht9⟩) (fun q hq => by cases hq) dX11_error_31
      · skip
        refine lv_if_eq (tgt := 29) hx hb dX11_error_17 (by decide) (fun c11 => ?_) (fun c11 => ?_)
        · skip
          refine lv_ldc hx hb hown (ht _ m_456) dX11_error_29 ?_
          have : ((-100002) : Int32).toInt = (-100002) := (by decide)
          have i_9_3 : 0 ≤ (iv 9 3).toInt ∧ (iv 9 3).toInt ≤ 30 := hI.1 9 3
          exact W.iret (v := (-100002)) hx hb hr (fun t ht9 hW => ⟨(-100002), rfl, ⟨trivial, (show ((((-100002) : Int32).toInt = -100002 ∧ ¬ (0 ≤ (a).toInt ∧ (a).toInt ≤ 3 ∧ 0 ≤ (b).toInt ∧ (b).toInt ≤ 3000 ∧ 0 ≤ (d).toInt ∧ (d).toInt ≤ 1)) ∨ (0 ≤ (a).toInt ∧ (a).toInt ≤ 3 ∧ 0 ≤ (b).toInt ∧ (b).toInt ≤ 3000 ∧ 0 ≤ (d).toInt ∧ (d).toInt ≤ 1 ∧ (d).toInt = 0 ∧ ((-100002) : Int32).toInt = er0 (fa 9 2) (tLa (fa 9 0) (fa 9 1) a b (((iv 9 3) : Int32).toInt).toNat) (tFi (fa 9 0) (fa 9 1) a b (((iv 9 3) : Int32).toInt).toNat)) ∨ (0 ≤ (a).toInt ∧ (a).toInt ≤ 3 ∧ 0 ≤ (b).toInt ∧ (b).toInt ≤ 3000 ∧ 0 ≤ (d).toInt ∧ (d).toInt ≤ 1 ∧ (d).toInt = 1 ∧ ((-100002) : Int32).toInt = er1 (fa 9 2) (tLa (fa 9 0) (fa 9 1) a b (((iv 9 3) : Int32).toInt).toNat) (tFi (fa 9 0) (fa 9 1) a b (((iv 9 3) : Int32).toInt).toNat))) from by omega)⟩, ht9⟩) (fun q hq => by cases hq) dX11_error_31
        · exact absurd rfl c11
  · skip
    refine lv_if_eq (tgt := 29) hx hb dX11_error_6 (by decide) (fun c12 => ?_) (fun c12 => ?_)
    · skip
      refine lv_ldc hx hb hown (ht _ m_456) dX11_error_29 ?_
      have : ((-100002) : Int32).toInt = (-100002) := (by decide)
      have i_9_3 : 0 ≤ (iv 9 3).toInt ∧ (iv 9 3).toInt ≤ 30 := hI.1 9 3
      exact W.iret (v := (-100002)) hx hb hr (fun t ht9 hW => ⟨(-100002), rfl, ⟨trivial, (show ((((-100002) : Int32).toInt = -100002 ∧ ¬ (0 ≤ (a).toInt ∧ (a).toInt ≤ 3 ∧ 0 ≤ (b).toInt ∧ (b).toInt ≤ 3000 ∧ 0 ≤ (d).toInt ∧ (d).toInt ≤ 1)) ∨ (0 ≤ (a).toInt ∧ (a).toInt ≤ 3 ∧ 0 ≤ (b).toInt ∧ (b).toInt ≤ 3000 ∧ 0 ≤ (d).toInt ∧ (d).toInt ≤ 1 ∧ (d).toInt = 0 ∧ ((-100002) : Int32).toInt = er0 (fa 9 2) (tLa (fa 9 0) (fa 9 1) a b (((iv 9 3) : Int32).toInt).toNat) (tFi (fa 9 0) (fa 9 1) a b (((iv 9 3) : Int32).toInt).toNat)) ∨ (0 ≤ (a).toInt ∧ (a).toInt ≤ 3 ∧ 0 ≤ (b).toInt ∧ (b).toInt ≤ 3000 ∧ 0 ≤ (d).toInt ∧ (d).toInt ≤ 1 ∧ (d).toInt = 1 ∧ ((-100002) : Int32).toInt = er1 (fa 9 2) (tLa (fa 9 0) (fa 9 1) a b (((iv 9 3) : Int32).toInt).toNat) (tFi (fa 9 0) (fa 9 1) a b (((iv 9 3) : Int32).toInt).toNat))) from by omega)⟩, ht9⟩) (fun q hq => by cases hq) dX11_error_31
    · exact absurd rfl c12
