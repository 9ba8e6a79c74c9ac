/-! ===== la2 ===== -/

theorem f1_of {v : Int} (h : fLo 1 ≤ v ∧ v ≤ fHi 1) : 1 ≤ v := by
  have e : fLo 1 = 1 := by decide
  omega
theorem f0_of {v : Int} (h : fLo 0 ≤ v ∧ v ≤ fHi 0) : 0 ≤ v ∧ v ≤ 300 := by
  have e : fLo 0 = 0 := by decide
  have e2 : fHi 0 = 300 := by decide
  omega
/-- the class: what a bale is settled by -/
def LwS (F : Int → Int → Prop) (rw_ : Nat → Int32) (b d : Int) (n : Nat) (D R : Nat → Int64) (C : Nat → Int32) (i j r : Int) : Prop := (∀ l : Nat, l < 3 → R l = sX rw_ b d l 3 n ∧ D l = sX rw_ b d l 4 n ∧ C l = nX rw_ b d l n) ∧ WpR F (C 0).toInt (C 1).toInt (C 2).toInt (fun pt => difL (D 0) (R 0) (D 1) (R 1) pt) (i = 0 ∧ j = 0) (twX D R i j) (thX D R i j) r
/-- the reference: likewise -/
def LwT (F : Int → Int → Prop) (ob ol dy lo ra dr : Nat → Int32) (b d : Int) (n : Nat) (D R : Nat → Int64) (up dn r : Int) : Prop := (∀ l : Nat, l < 3 → R l = sY ob ol dy lo ra b d l n ∧ D l = sY ob ol dy lo dr b d l n) ∧ WpR F (nY ob ol dy lo b d 0 n).toInt (nY ob ol dy lo b d 1 n).toInt (nY ob ol dy lo b d 2 n).toInt (fun pt => difL (D 0) (R 0) (D 1) (R 1) pt) (up = (D 0).toInt ∧ dn = (R 0).toInt) (twY D R up dn) (thY D R up dn) r
theorem bdX {rw_ : Nat → Int32} {a : Int32} {d : Int} {n : Nat} {D R : Nat → Int64} {C : Nat → Int32} (hn : n ≤ 60) (hw : ∀ s : Nat, s < n → (100 ≤ (rw_ (9 * s + 3)).toInt ∧ (rw_ (9 * s + 3)).toInt ≤ 9999) ∧ (50 ≤ (rw_ (9 * s + 4)).toInt ∧ (rw_ (9 * s + 4)).toInt ≤ 9999)) (hc : ∀ l : Int32, cn0 (fun s => rw_ (9 * s + 0)) (fun s => rw_ (9 * s + 1)) a l n ≤ 12) (P : ∀ l : Nat, l < 3 → R l = sX rw_ a.toInt d l 3 n ∧ D l = sX rw_ a.toInt d l 4 n ∧ C l = nX rw_ a.toInt d l n) {l : Nat} (hl : l < 3) (k : Int32) (hk : (l : Int) = k.toInt) : bdL (C l).toInt (D l) (R l) := by
  obtain ⟨p1, p2, p3⟩ := P l hl
  rw [p1, p2, p3, hk]
  exact sX_b hn hw (hc k)
theorem bdY {ob ol dy lo ra dr : Nat → Int32} {a : Int32} {d : Int} {n : Nat} {D R : Nat → Int64} (hn : n ≤ 60) (hw : ∀ s : Nat, s < n → (100 ≤ (ra s).toInt ∧ (ra s).toInt ≤ 9999) ∧ (50 ≤ (dr s).toInt ∧ (dr s).toInt ≤ 9999)) (hc : ∀ l : Int32, cn0 ob ol a l n ≤ 12) (P : ∀ l : Nat, l < 3 → R l = sY ob ol dy lo ra a.toInt d l n ∧ D l = sY ob ol dy lo dr a.toInt d l n) {l : Nat} (hl : l < 3) (k : Int32) (hk : (l : Int) = k.toInt) : bdL (nY ob ol dy lo a.toInt d l n).toInt (D l) (R l) := by
  obtain ⟨p1, p2⟩ := P l hl
  rw [p1, p2, hk]
  exact sY_b hn hw (hc k)
theorem rs_b {D R : Nat → Int64} {i j up dn : Int} (hi : ok1 D R i) (hj : ok1 D R j) (h : rsY D R i j up dn) : 1 ≤ up ∧ up ≤ 28794240288 ∧ 1 ≤ dn ∧ dn ≤ 28794240288 := by
  have b := up_b hi hj
  obtain ⟨-, -, a1, a2, a3, a4⟩ := hi
  rcases h with ⟨-, e1, e2⟩ | ⟨-, e1, e2⟩
  · omega
  · omega
theorem tp_ok {D R : Nat → Int64} {c0 c1 c2 : Int} {a b c : Int64} {i j w : Int} (h0 : bdL c0 (D 0) (R 0)) (h1 : bdL c1 (D 1) (R 1)) (h2 : bdL c2 (D 2) (R 2)) (p0 : 1 ≤ c0) (p1 : 1 ≤ c1) (p2 : 1 ≤ c2) (h : tpY a b c i j w) : ok1 D R i ∧ ok1 D R j := by
  have k0 := ok1_0 h0 p0
  have k1 := ok1_1 h1 p1
  have k2 := ok1_2 h2 p2
  have all : ∀ q : Int, (q = 0 ∨ q = 1 ∨ q = 2) → ok1 D R q := by
    intro q hq
    rcases hq with rfl | rfl | rfl
    · exact k0
    · exact k1
    · exact k2
  have hij : (i = 0 ∨ i = 1 ∨ i = 2) ∧ (j = 0 ∨ j = 1 ∨ j = 2) := by
    unfold tpY nrR l3R m3R at h
    omega
  exact ⟨all i hij.1, all j hij.2⟩
/-- what the reference's result may be, where a bale is settled -/
theorem LwT_b {F : Int → Int → Prop} {ob ol dy lo ra dr : Nat → Int32} {a : Int32} {d : Int} {n : Nat} {D R : Nat → Int64} {up dn r : Int} (hf : ∀ v : Int, F 1 v → 1 ≤ v) (hn : n ≤ 60) (hw : ∀ s : Nat, s < n → (100 ≤ (ra s).toInt ∧ (ra s).toInt ≤ 9999) ∧ (50 ≤ (dr s).toInt ∧ (dr s).toInt ≤ 9999)) (hc : ∀ l : Int32, cn0 ob ol a l n ≤ 12) (h : LwT F ob ol dy lo ra dr a.toInt d n D R up dn r) (hr : r = 1) : 1 ≤ up ∧ up ≤ 28794240288 ∧ 1 ≤ dn ∧ dn ≤ 28794240288 := by
  obtain ⟨P, W⟩ := h
  have h0 := bdY (l := 0) hn hw hc P (by decide) 0 (by decide)
  have h1 := bdY (l := 1) hn hw hc P (by decide) 1 (by decide)
  have h2 := bdY (l := 2) hn hw hc P (by decide) 2 (by decide)
  refine WpR_el hf (fun p q => ?_) (fun w p0 p1 q => ?_) (fun w p0 p1 p2 q => ?_) W hr
  · have k := ok1_0 h0 p
    exact rs_b k k (Or.inl ⟨rfl, q.1, q.2⟩)
  · obtain ⟨i, j, q1, q2⟩ := q
    have k := ok_2 h0 h1 p0 p1 q1
    exact rs_b k.1 k.2 q2
  · obtain ⟨i, j, q1, q2⟩ := q
    have k := tp_ok h0 h1 h2 p0 p1 p2 q1
    exact rs_b k.1 k.2 q2
/-- both sides are settled alike -/
theorem Lw_un {F G : Int → Int → Prop} {rw_ ob ol dy lo ra dr : Nat → Int32} {a : Int32} {d : Int} {n : Nat} {D R D' R' : Nat → Int64} {C : Nat → Int32} {i j up dn r s : Int} (hF : ∀ a v w : Int, 0 ≤ a → a ≤ 5 → F a v → G a w → v = w) (hb : ∀ a v : Int, 0 ≤ a → a ≤ 5 → F a v → fLo a ≤ v ∧ v ≤ fHi a) (hn : n ≤ 60) (hw : ∀ s : Nat, s < n → (100 ≤ (rw_ (9 * s + 3)).toInt ∧ (rw_ (9 * s + 3)).toInt ≤ 9999) ∧ (50 ≤ (rw_ (9 * s + 4)).toInt ∧ (rw_ (9 * s + 4)).toInt ≤ 9999)) (hc : ∀ l : Int32, cn0 (fun s => rw_ (9 * s + 0)) (fun s => rw_ (9 * s + 1)) a l n ≤ 12)
    (hE : ∀ l : Nat, l < 3 → sX rw_ a.toInt d l 3 n = sY ob ol dy lo ra a.toInt d l n ∧ sX rw_ a.toInt d l 4 n = sY ob ol dy lo dr a.toInt d l n ∧ nX rw_ a.toInt d l n = nY ob ol dy lo a.toInt d l n) (x : LwS F rw_ a.toInt d n D R C i j r) (y : LwT G ob ol dy lo ra dr a.toInt d n D' R' up dn s) : r = s ∧ (r = 1 → FrE D R i j up dn) := by
  obtain ⟨P, W⟩ := x
  obtain ⟨Q, V⟩ := y
  have h0 := bdX (l := 0) hn hw hc P (by decide) 0 (by decide)
  have h1 := bdX (l := 1) hn hw hc P (by decide) 1 (by decide)
  have h2 := bdX (l := 2) hn hw hc P (by decide) 2 (by decide)
  have c0 : nY ob ol dy lo a.toInt d 0 n = C 0 := ((P 0 (by decide)).2.2.trans (hE 0 (by decide)).2.2).symm
  have c1 : nY ob ol dy lo a.toInt d 1 n = C 1 := ((P 1 (by decide)).2.2.trans (hE 1 (by decide)).2.2).symm
  have c2 : nY ob ol dy lo a.toInt d 2 n = C 2 := ((P 2 (by decide)).2.2.trans (hE 2 (by decide)).2.2).symm
  rw [c0, c1, c2] at V
  refine Wp_fr hF hb (fun l hl => ?_) h0 h1 h2 W V
  exact ⟨((P l hl).2.1.trans (hE l hl).2.1).trans (Q l hl).2.symm, ((P l hl).1.trans (hE l hl).1).trans (Q l hl).1.symm⟩
/-- a weight in least terms: its upper or its lower number -/
def ltX (a b w r : Int) : Prop := (w = 0 ∧ r = a / gN a b) ∨ (w ≠ 0 ∧ r = b / gN a b)
def ltY (a b w r : Int) : Prop := (w = 0 ∧ r = a) ∨ (w ≠ 0 ∧ r = b)
theorem lt_xy {D R : Nat → Int64} {i j up dn y LU LD w r s : Int} (hy : 0 < y) (h : FrE D R i j up dn) (k : LwY up dn y LU LD) (x : ltX (upI D R i j * y) (loI R i j * 1000) w r) (z : ltY LU LD w s) : r = s := by
  obtain ⟨h1, h2, h3, h4⟩ := h
  have q := lw_un h3 h4 h2 hy h1 k
  rcases x with ⟨x1, x2⟩ | ⟨x1, x2⟩
  · rcases z with ⟨z1, z2⟩ | ⟨z1, z2⟩
    · rw [x2, z2]; exact q.1
    · exact absurd x1 z1
  · rcases z with ⟨z1, z2⟩ | ⟨z1, z2⟩
    · exact absurd z1 x1
    · rw [x2, z2]; exact q.2.1
/-- GROSS times a thousand and water -/
theorem y_x {g r : Int32} {k w : Int64} (ek : k = 1000 + r.toInt64) (e : w = g.toInt64 * k) (hg : 1 ≤ g.toInt ∧ g.toInt ≤ 99999) (hr : 0 ≤ r.toInt ∧ r.toInt ≤ 300) : w.toInt = g.toInt * (1000 + r.toInt) ∧ 1000 ≤ w.toInt ∧ w.toInt ≤ 129998700 := by
  have hk : k.toInt = 1000 + r.toInt := l_add ek (by decide : (1000 : Int64).toInt = 1000) (Int32.toInt_toInt64 _) (by omega) (by omega)
  have q := mul_b hg.1 hg.2 (by omega : 1000 ≤ 1000 + r.toInt) (by omega : 1000 + r.toInt ≤ 1300) (by decide) (by decide)
  have e1 : w.toInt = g.toInt * (1000 + r.toInt) := l_mul e (Int32.toInt_toInt64 _) hk (by omega) (by omega)
  exact ⟨e1, by omega, by omega⟩
theorem y_y {g r k : Int32} {w : Int64} (hk : k.toInt = 1000 + r.toInt) (e : w = g.toInt64 * k.toInt64) (hg : 1 ≤ g.toInt ∧ g.toInt ≤ 99999) (hr : 0 ≤ r.toInt ∧ r.toInt ≤ 300) : w.toInt = g.toInt * (1000 + r.toInt) ∧ 1000 ≤ w.toInt ∧ w.toInt ≤ 129998700 := by
  have q := mul_b hg.1 hg.2 (by omega : 1000 ≤ 1000 + r.toInt) (by omega : 1000 + r.toInt ≤ 1300) (by decide) (by decide)
  have e1 : w.toInt = g.toInt * (1000 + r.toInt) := l_mul e (Int32.toInt_toInt64 _) ((Int32.toInt_toInt64 _).trans hk) (by omega) (by omega)
  exact ⟨e1, by omega, by omega⟩
/-- a common divisor, and what is left -/
theorem gdi {x y : Int} (hx : 1 ≤ x) (hy : 1 ≤ y) : 1 ≤ gN x y ∧ (1 ≤ x / gN x y ∧ x / gN x y ≤ x) ∧ (1 ≤ y / gN x y ∧ y / gN x y ≤ y) := by
  obtain ⟨a, rfl⟩ := Int.eq_ofNat_of_zero_le (show 0 ≤ x from by omega)
  obtain ⟨b, rfl⟩ := Int.eq_ofNat_of_zero_le (show 0 ≤ y from by omega)
  have hg : 0 < Nat.gcd a b := Nat.gcd_pos_of_pos_left _ (by omega)
  have z1 : 0 < a / Nat.gcd a b := Nat.div_gcd_pos_of_pos_left _ (by omega)
  have z2 : 0 < b / Nat.gcd a b := Nat.div_gcd_pos_of_pos_right _ (by omega)
  have z3 : a / Nat.gcd a b ≤ a := Nat.div_le_self _ _
  have z4 : b / Nat.gcd a b ≤ b := Nat.div_le_self _ _
  rw [gN_k, gN_k2, gN_c]
  exact ⟨by omega, ⟨by omega, by omega⟩, by omega, by omega⟩
set_option maxHeartbeats 4000000 in
set_option maxRecDepth 100000 in
/-- X3_lesserOf -/
theorem c_X3_lesserOf_w (l : Launch) (dC : Nat → ClassId) (dI : Nat → Nat → Nat) (h : Nat) (g : Nat → Nat → Nat) (ca : Nat → Nat → ClassId) (iv : Nat → Nat → Int32) (lv : Nat → Nat → Int64) (fa : Nat → Nat → Nat → Int32) (la : Nat → Nat → Nat → Int64) (hI : IX iv fa) (a : Int32) (b : Int32) (h_a : 0 ≤ a.toInt ∧ a.toInt ≤ 2) (h_b : 0 ≤ b.toInt ∧ b.toInt ≤ 2) : Met l yX3_lesserOf (wc yX3_lesserOf cX3_lesserOf 3 (some .int)) ({ frames := 0, cells := 0, slots := 0, locals := 0 } : Room) (pR (dC, dI) classes (WX h g ca iv lv fa la) (TX ca) [.ref (g 11 5), .int a, .int b]) (vp_Si (fun r => (0 ≤ r.toInt ∧ r.toInt ≤ 2) ∧ (r.toInt = ((lsN (la 30 1) (la 30 0) (a.toInt).toNat (b.toInt).toNat : Nat) : Int)) ∧ ((r.toInt = a.toInt ∨ r.toInt = b.toInt)))) 0 0 (fun _ => False) := by
  refine Met.ofW (cc := cX3_lesserOf) (maxL := 3) (ret := (some .int)) (by decide) rfl ?_
  intro p e s m args below meth c s₁ B hml hv
  obtain ⟨rfl, hP, hK⟩ := hv
  have hx := B.exec
  have hb := B.bytes
  have hr := B.returns
  have ht := tb_tl (atoms_spec (ws := wc yX3_lesserOf cX3_lesserOf 3 (some .int)) B.pre)
  have hown : s.vm.findClass RX3 = some m.cls := findClass_of_methodNamed B.named
  have hlocks := B.notSynchronized
  have hl := lv_entry [.ref (g 11 5), .int a, .int b] (n := 3) (Nat.le_of_ble_eq_true rfl)
  rw [lg_entry_eq]
  generalize (lg_sl [.ref (g 11 5), .int a, .int b] ++ List.replicate (3 - (lg_sl [.ref (g 11 5), .int a, .int b]).length) Slot.unset).toArray = ls at hl ⊢
  have hl : lv_has ls 3 [(0, .ref (g 11 5)), (1, .int a), (2, .int b)] := hl
  refine lv_aload_n hx hb dX3_lesserOf_0 rfl (lv_at hl 0 rfl) ?_
  refine gX_3_2 hx hb ht hown hK hP m_281 dX3_lesserOf_1 ?_
  refine gX_30_1 hx hb ht hown hK hP m_265 dX3_lesserOf_4 ?_
  refine lv_iload_n hx hb dX3_lesserOf_7 rfl (lv_at hl 2 rfl) ?_
  refine lX_30_1 hx hb hK hP (f := (la 30 1)) rfl (vp_in_iff.mpr ⟨by omega, by omega⟩) dX3_lesserOf_8 ?_
  refine lv_topl (fun w1 ew1 => ?_)
  refine lv_aload_n hx hb dX3_lesserOf_9 rfl (lv_at hl 0 rfl) ?_
  refine gX_3_2 hx hb ht hown hK hP m_281 dX3_lesserOf_10 ?_
  refine gX_30_0 hx hb ht hown hK hP m_262 dX3_lesserOf_13 ?_
  refine lv_iload_n hx hb dX3_lesserOf_16 rfl (lv_at hl 1 rfl) ?_
  refine lX_30_0 hx hb hK hP (f := (la 30 0)) rfl (vp_in_iff.mpr ⟨by omega, by omega⟩) dX3_lesserOf_17 ?_
  refine lv_topl (fun w2 ew2 => ?_)
  refine lv_lmul hx hb dX3_lesserOf_18 ?_
  refine lv_topl (fun w3 ew3 => ?_)
  refine lv_aload_n hx hb dX3_lesserOf_19 rfl (lv_at hl 0 rfl) ?_
  refine gX_3_2 hx hb ht hown hK hP m_281 dX3_lesserOf_20 ?_
  refine gX_30_1 hx hb ht hown hK hP m_265 dX3_lesserOf_23 ?_
  refine lv_iload_n hx hb dX3_lesserOf_26 rfl (lv_at hl 1 rfl) ?_
  refine lX_30_1 hx hb hK hP (f := (la 30 1)) rfl (vp_in_iff.mpr ⟨by omega, by omega⟩) dX3_lesserOf_27 ?_
  refine lv_topl (fun w4 ew4 => ?_)
  refine lv_aload_n hx hb dX3_lesserOf_28 rfl (lv_at hl 0 rfl) ?_
  refine gX_3_2 hx hb ht hown hK hP m_281 dX3_lesserOf_29 ?_
  refine gX_30_0 hx hb ht hown hK hP m_262 dX3_lesserOf_32 ?_
  refine lv_iload_n hx hb dX3_lesserOf_35 rfl (lv_at hl 2 rfl) ?_
  refine lX_30_0 hx hb hK hP (f := (la 30 0)) rfl (vp_in_iff.mpr ⟨by omega, by omega⟩) dX3_lesserOf_36 ?_
  refine lv_topl (fun w5 ew5 => ?_)
  refine lv_lmul hx hb dX3_lesserOf_37 ?_
  refine lv_topl (fun w6 ew6 => ?_)
  refine W.lcmp hx hb dX3_lesserOf_38 ?_
  refine lv_topi (fun v7 ev7 => ?_)
  refine lv_if_ge (tgt := 46) hx hb dX3_lesserOf_39 (by decide) (fun c8 => ?_) (fun c8 => ?_)
  · have fc8 := zc_nlt ev7 (rfl : (w3).toInt = _) (rfl : (w6).toInt = _) (Int32.not_lt.mpr c8)
    refine lv_iload_n hx hb dX3_lesserOf_46 rfl (lv_at hl 1 rfl) ?_
    exact W.iret (v := a) hx hb hr (fun t ht9 hW => ⟨a, rfl, ⟨⟨by omega, by omega⟩, (show (a : Int32).toInt = ((lsN (la 30 1) (la 30 0) ((a).toInt).toNat ((b).toInt).toNat : Nat) : Int) from (by rw [lsN_n (fun z9 => absurd z9 (Int.not_lt.mpr (show ((la 30 1) a.toInt.toNat * (la 30 0) b.toInt.toNat).toInt ≤ ((la 30 1) b.toInt.toNat * (la 30 0) a.toInt.toNat).toInt from by have h9 := fc8; simp only [ew6, ew5, ew4, ew3, ew2, ew1] at h9; exact h9)))]; show a.toInt = ((a.toInt.toNat : Nat) : Int); omega)), (show ((a : Int32).toInt = (a).toInt ∨ (a : Int32).toInt = (b).toInt) from by omega)⟩, ht9⟩) (fun q hq => by cases hq) dX3_lesserOf_47
  · have fc8 := zc_lt ev7 (rfl : (w3).toInt = _) (rfl : (w6).toInt = _) (Int32.not_le.mp c8)
    refine lv_iload_n hx hb dX3_lesserOf_42 rfl (lv_at hl 2 rfl) ?_
    refine lv_goto (tgt := 47) hx hb dX3_lesserOf_43 (by decide) ?_
    exact W.iret (v := b) hx hb hr (fun t ht9 hW => ⟨b, rfl, ⟨⟨by omega, by omega⟩, (show (b : Int32).toInt = ((lsN (la 30 1) (la 30 0) ((a).toInt).toNat ((b).toInt).toNat : Nat) : Int) from (by rw [lsN_y (show ((la 30 1) b.toInt.toNat * (la 30 0) a.toInt.toNat).toInt < ((la 30 1) a.toInt.toNat * (la 30 0) b.toInt.toNat).toInt from by have h9 := fc8; simp only [ew6, ew5, ew4, ew3, ew2, ew1] at h9; exact h9)]; show b.toInt = ((b.toInt.toNat : Nat) : Int); omega)), (show ((b : Int32).toInt = (a).toInt ∨ (b : Int32).toInt = (b).toInt) from by omega)⟩, ht9⟩) (fun q hq => by cases hq) dX3_lesserOf_47
set_option maxHeartbeats 4000000 in
set_option maxRecDepth 100000 in
/-- X3_settle -/
theorem c_X3_settle_w (l : Launch) (dC : Nat → ClassId) (dI : Nat → Nat → Nat) (sz : Nat) (h : Nat) (g : Nat → Nat → Nat) (ca : Nat → Nat → ClassId) (iv : Nat → Nat → Int32) (lv : Nat → Nat → Int64) (fa : Nat → Nat → Nat → Int32) (la : Nat → Nat → Nat → Int64) (hI : IX iv fa) (a : Int32) (b : Int32) (h_a : 0 ≤ a.toInt ∧ a.toInt ≤ 2) (h_b : 0 ≤ b.toInt ∧ b.toInt ≤ 2) : Met l yX3_settle (wc yX3_settle cX3_settle 3 (some .int)) ({ frames := 0, cells := 0, slots := 0, locals := 0 } : Room) (pW (dC, dI) classes (WX h g ca iv lv fa la) (TX ca) sz [.ref (g 11 5), .int a, .int b]) (va_Qi (fun r (u : SS) => ∃ (ni_3_3 : Int32) (ni_3_4 : Int32), inb (bI 3 3) ni_3_3 ∧ inb (bI 3 4) ni_3_4 ∧ ((ni_3_3).toInt = a.toInt) ∧ ((ni_3_4).toInt = b.toInt) ∧ (r.toInt = 1) ∧ (1 ≤ r.toInt ∧ r.toInt ≤ 1) ∧ u = ((u2 (u2 iv 3 3 ni_3_3) 3 4 ni_3_4), lv, fa, la)) (bX (dC, dI) h g ca (va_A (WX h g ca iv lv fa la) sz)) (va_A (WX h g ca iv lv fa la) sz)) 0 0 (va_A (WX h g ca iv lv fa la) sz) := by
  refine Met.ofW (cc := cX3_settle) (maxL := 3) (ret := (some .int)) (by decide) rfl ?_
  intro p e s m args below meth c s₁ B hml hv
  obtain ⟨rfl, hsz, hP, hK, hD0⟩ := hv
  have hx := B.exec
  have hb := B.bytes
  have hr := B.returns
  have ht := tb_tl (atoms_spec (ws := wc yX3_settle cX3_settle 3 (some .int)) B.pre)
  have hown : s.vm.findClass RX3 = some m.cls := findClass_of_methodNamed B.named
  have hlocks := B.notSynchronized
  subst hsz
  have hD := hD0.self (sz := s.heap.size)
  generalize hAe : va_A (WX h g ca iv lv fa la) s.heap.size = A at hD ⊢
  have hA : ∀ q : Nat, s.heap.size ≤ q → A q := fun q h => by rw [← hAe]; exact Or.inr h
  have hS : va_S A s.heap s.heap [] := va_S.rf
  have hl := lv_entry [.ref (g 11 5), .int a, .int b] (n := 3) (Nat.le_of_ble_eq_true rfl)
  rw [lg_entry_eq]
  generalize (lg_sl [.ref (g 11 5), .int a, .int b] ++ List.replicate (3 - (lg_sl [.ref (g 11 5), .int a, .int b]).length) Slot.unset).toArray = ls at hl ⊢
  have hl : lv_has ls 3 [(0, .ref (g 11 5)), (1, .int a), (2, .int b)] := hl
  refine lv_aload_n hx hb dX3_settle_0 rfl (lv_at hl 0 rfl) ?_
  refine lv_iload_n hx hb dX3_settle_1 rfl (lv_at hl 1 rfl) ?_
  refine pX_3_3 (v := a) hx hb ht hown hK hP hD hS m_283 dX3_settle_2 (fun H locs hP hD hS => ?_)
  refine lv_aload_n hx hb dX3_settle_5 rfl (lv_at hl 0 rfl) ?_
  refine lv_iload_n hx hb dX3_settle_6 rfl (lv_at hl 2 rfl) ?_
  refine pX_3_4 (v := b) hx hb ht hown hK hP hD hS m_284 dX3_settle_7 (fun H locs hP hD hS => ?_)
  refine lv_iconst (v := 1) hx hb dX3_settle_10 (by decide) ?_
  have : (1 : Int32).toInt = 1 := (by decide)
  have hP9 : va_P (dC, dI) classes (WX h g ca (u2 (u2 iv 3 3 a) 3 4 b) lv fa la) H := hP
  have hD9 : va_D A (WX h g ca (u2 (u2 iv 3 3 a) 3 4 b) lv fa la) := hD
  exact W.iret (v := 1) hx hb hr (fun t ht9 hW => ⟨⟨1, ((u2 (u2 iv 3 3 a) 3 4 b), lv, fa, la), rfl, ⟨a, b, (show inb (0, 2) a from ⟨by omega, by omega⟩), (show inb (0, 2) b from ⟨by omega, by omega⟩), (show (a : Int32).toInt = (a).toInt from by omega), (show (b : Int32).toInt = (b).toInt from by omega), (show (1 : Int32).toInt = 1 from by omega), ⟨by decide, by decide⟩, rfl⟩, by rw [ht9]; exact hP9, hD9⟩, hS.F ht9⟩) hS.2.2 dX3_settle_11
set_option maxHeartbeats 4000000 in
set_option maxRecDepth 100000 in
/-- X3_settleByTwo -/
theorem c_X3_settleByTwo_w (l : Launch) (dC : Nat → ClassId) (dI : Nat → Nat → Nat) (sz : Nat) (h : Nat) (g : Nat → Nat → Nat) (ca : Nat → Nat → ClassId) (iv : Nat → Nat → Int32) (lv : Nat → Nat → Int64) (fa : Nat → Nat → Nat → Int32) (la : Nat → Nat → Nat → Int64) (hI : IX iv fa) (a : Int32) : Met l yX3_settleByTwo (wc yX3_settleByTwo cX3_settleByTwo 3 (some .int)) ({ frames := 1, cells := 0, slots := 0, locals := 22 } : Room) (pW (dC, dI) classes (WX h g ca iv lv fa la) (TX ca) sz [.ref (g 11 5), .int a]) (va_Qi (fun r (u : SS) => ∃ (ni_3_3 : Int32) (ni_3_4 : Int32), inb (bI 3 3) ni_3_3 ∧ inb (bI 3 4) ni_3_4 ∧ (twX (la 30 1) (la 30 0) (ni_3_3).toInt (ni_3_4).toInt a.toInt) ∧ (r.toInt = 1) ∧ (1 ≤ r.toInt ∧ r.toInt ≤ 1) ∧ u = ((u2 (u2 iv 3 3 ni_3_3) 3 4 ni_3_4), lv, fa, la)) (bX (dC, dI) h g ca (va_A (WX h g ca iv lv fa la) sz)) (va_A (WX h g ca iv lv fa la) sz)) 0 0 (va_A (WX h g ca iv lv fa la) sz) := by
  refine Met.ofW (cc := cX3_settleByTwo) (maxL := 3) (ret := (some .int)) (by decide) rfl ?_
  intro p e s m args below meth c s₁ B hml hv
  obtain ⟨rfl, hsz, hP, hK, hD0⟩ := hv
  have hx := B.exec
  have hb := B.bytes
  have hr := B.returns
  have ht := tb_tl (atoms_spec (ws := wc yX3_settleByTwo cX3_settleByTwo 3 (some .int)) B.pre)
  have hown : s.vm.findClass RX3 = some m.cls := findClass_of_methodNamed B.named
  have hlocks := B.notSynchronized
  subst hsz
  have hD := hD0.self (sz := s.heap.size)
  generalize hAe : va_A (WX h g ca iv lv fa la) s.heap.size = A at hD ⊢
  have hA : ∀ q : Nat, s.heap.size ≤ q → A q := fun q h => by rw [← hAe]; exact Or.inr h
  have hS : va_S A s.heap s.heap [] := va_S.rf
  have hl := lv_entry [.ref (g 11 5), .int a] (n := 3) (Nat.le_of_ble_eq_true rfl)
  rw [lg_entry_eq]
  generalize (lg_sl [.ref (g 11 5), .int a] ++ List.replicate (3 - (lg_sl [.ref (g 11 5), .int a]).length) Slot.unset).toArray = ls at hl ⊢
  have hl : lv_has ls 3 [(0, .ref (g 11 5)), (1, .int a)] := hl
  refine lv_iload_n hx hb dX3_settleByTwo_0 rfl (lv_at hl 1 rfl) ?_
  refine lv_iconst (v := 1) hx hb dX3_settleByTwo_1 (by decide) ?_
  refine lv_icmp_eq (tgt := 12) hx hb dX3_settleByTwo_2 (by decide) (fun c1 => ?_) (fun c1 => ?_)
  · have fc1 := z_eq (rfl : (a).toInt = _) (by decide : (1 : Int32).toInt = 1) c1
    refine lv_aload_n hx hb dX3_settleByTwo_12 rfl (lv_at hl 0 rfl) ?_
    refine lv_iconst (v := 0) hx hb dX3_settleByTwo_13 (by decide) ?_
    refine lv_iconst (v := 1) hx hb dX3_settleByTwo_14 (by decide) ?_
    refine vp_callSi (W.runV (As := [.int 0, .int 1]) (rest := []) ⟨hx, hb, hml, hown, ht⟩ (c_X3_lesserOf_w l dC dI h g ca iv lv fa la hI 0 1 ⟨by decide, by decide⟩ ⟨by decide, by decide⟩) (kV 2 ht m_638 m_640 m_11 m_83 m_641 rfl rfl hd_X3_lesserOf_v ⟨Nat.le_of_ble_eq_true rfl, Nat.le_of_ble_eq_true rfl⟩) (vR hP hK (rX_3 hK hP)) rfl rfl hl.1 rfl (lv_room (Nat.le_of_ble_eq_true rfl)) dX3_settleByTwo_15 ⟨Nat.le_of_ble_eq_true rfl, Nat.le_of_ble_eq_true rfl⟩) (fun r2 hr2 => ?_)
    obtain ⟨hr2, xr2_0, xr2_1⟩ := hr2
    have : (0 : Int32).toInt = 0 := (by decide)
    have : (1 : Int32).toInt = 1 := (by decide)
    have xr2_0 : (r2 : Int32).toInt = ((lsN (la 30 1) (la 30 0) ((0 : Int32).toInt).toNat ((1 : Int32).toInt).toNat : Nat) : Int) := xr2_0
    have xr2_1 : ((r2 : Int32).toInt = (0 : Int32).toInt ∨ (r2 : Int32).toInt = (1 : Int32).toInt) := xr2_1
    refine lv_istore_n (lv' := [(2, .int r2), (0, .ref (g 11 5)), (1, .int a)]) hx hb dX3_settleByTwo_18 rfl hl (by decide) rfl (fun ls hl => ?_)
    refine lv_aload_n hx hb dX3_settleByTwo_19 rfl (lv_at hl 1 rfl) ?_
    refine lv_iload_n hx hb dX3_settleByTwo_20 rfl (lv_at hl 0 rfl) ?_
    refine lv_iload_n hx hb dX3_settleByTwo_21 rfl (lv_at hl 0 rfl) ?_
    have hFc := free_all hD hS hA
    refine va_calli (va_runV (As := [.int r2, .int r2]) (rest := []) ⟨hx, hb, hml, hown, ht⟩ (c_X3_settle_w l dC dI s.heap.size h g ca iv lv fa la hI r2 r2 ⟨by omega, by omega⟩ ⟨by omega, by omega⟩) (kV 2 ht m_622 m_624 m_9 m_83 m_625 rfl rfl hd_X3_settle_v ⟨Nat.le_of_ble_eq_true rfl, Nat.le_of_ble_eq_true rfl⟩) (vW hP hK hD (rX_3 hK hP)) rfl rfl hl.1 rfl (lv_room (Nat.le_of_ble_eq_true rfl)) dX3_settleByTwo_22 ⟨Nat.le_of_ble_eq_true rfl, Nat.le_of_ble_eq_true rfl⟩) hS (fun q _ h => hFc q h) hFc (fun r3 u t H1 locs ht9 hvm hr3 hB hz1 hk1 hS => ?_)
    obtain ⟨n4, n5, hn4, hn5, xr3_0, xr3_1, xr3_2, hr3, rfl⟩ := hr3
    have hn4 : 0 ≤ n4.toInt ∧ n4.toInt ≤ 2 := hn4
    have hn5 : 0 ≤ n5.toInt ∧ n5.toInt ≤ 2 := hn5
    obtain ⟨hP, hD⟩ := hB
    rw [ht9] at hP
    generalize H1 = H at hP hS ⊢
    have hP : va_P (dC, dI) classes (WX h g ca (u2 (u2 iv 3 3 n4) 3 4 n5) lv fa la) H := hP
    have hD : va_D A (WX h g ca (u2 (u2 iv 3 3 n4) 3 4 n5) lv fa la) := (show va_D _ (WX h g ca (u2 (u2 iv 3 3 n4) 3 4 n5) lv fa la) from hD).weaken (fun _ _ _ h => hFc _ h)
    have xr3_0 : (n4 : Int32).toInt = (r2 : Int32).toInt := xr3_0
    have xr3_1 : (n5 : Int32).toInt = (r2 : Int32).toInt := xr3_1
    have xr3_2 : (r3 : Int32).toInt = 1 := xr3_2
    have hP9 : va_P (dC, dI) classes (WX h g ca (u2 (u2 iv 3 3 n4) 3 4 n5) lv fa la) H := hP
    have hD9 : va_D A (WX h g ca (u2 (u2 iv 3 3 n4) 3 4 n5) lv fa la) := hD
    exact W.iret (v := r3) hx hb hr (fun t ht9 hW => ⟨⟨r3, ((u2 (u2 iv 3 3 n4) 3 4 n5), lv, fa, la), rfl, ⟨n4, n5, (show inb (0, 2) n4 from ⟨by omega, by omega⟩), (show inb (0, 2) n5 from ⟨by omega, by omega⟩), (show twX (la 30 1) (la 30 0) (n4 : Int32).toInt (n5 : Int32).toInt (a).toInt from (by have h1 : (r2 : Int32).toInt = ((lsN (la 30 1) (la 30 0) 0 1 : Nat) : Int) := xr2_0; unfold twX; exact Or.inr ⟨by omega, by omega, by omega⟩)), (show (r3 : Int32).toInt = 1 from by omega), ⟨by omega, by omega⟩, rfl⟩, by rw [ht9]; exact hP9, hD9⟩, hS.F ht9⟩) hS.2.2 dX3_settleByTwo_25
  · have fc1 := z_ne (rfl : (a).toInt = _) (by decide : (1 : Int32).toInt = 1) c1
    refine lv_aload_n hx hb dX3_settleByTwo_5 rfl (lv_at hl 0 rfl) ?_
    refine lv_iconst (v := 0) hx hb dX3_settleByTwo_6 (by decide) ?_
    refine lv_iconst (v := 1) hx hb dX3_settleByTwo_7 (by decide) ?_
    have hFc := free_all hD hS hA
    refine va_calli (va_runV (As := [.int 0, .int 1]) (rest := []) ⟨hx, hb, hml, hown, ht⟩ (c_X3_settle_w l dC dI s.heap.size h g ca iv lv fa la hI 0 1 ⟨by decide, by decide⟩ ⟨by decide, by decide⟩) (kV 2 ht m_622 m_624 m_9 m_83 m_625 rfl rfl hd_X3_settle_v ⟨Nat.le_of_ble_eq_true rfl, Nat.le_of_ble_eq_true rfl⟩) (vW hP hK hD (rX_3 hK hP)) rfl rfl hl.1 rfl (lv_room (Nat.le_of_ble_eq_true rfl)) dX3_settleByTwo_8 ⟨Nat.le_of_ble_eq_true rfl, Nat.le_of_ble_eq_true rfl⟩) hS (fun q _ h => hFc q h) hFc (fun r6 u t H1 locs ht9 hvm hr6 hB hz1 hk1 hS => ?_)
    obtain ⟨n7, n8, hn7, hn8, xr6_0, xr6_1, xr6_2, hr6, rfl⟩ := hr6
    have hn7 : 0 ≤ n7.toInt ∧ n7.toInt ≤ 2 := hn7
    have hn8 : 0 ≤ n8.toInt ∧ n8.toInt ≤ 2 := hn8
    obtain ⟨hP, hD⟩ := hB
    rw [ht9] at hP
    generalize H1 = H at hP hS ⊢
    have hP : va_P (dC, dI) classes (WX h g ca (u2 (u2 iv 3 3 n7) 3 4 n8) lv fa la) H := hP
    have hD : va_D A (WX h g ca (u2 (u2 iv 3 3 n7) 3 4 n8) lv fa la) := (show va_D _ (WX h g ca (u2 (u2 iv 3 3 n7) 3 4 n8) lv fa la) from hD).weaken (fun _ _ _ h => hFc _ h)
    have : (0 : Int32).toInt = 0 := (by decide)
    have xr6_0 : (n7 : Int32).toInt = (0 : Int32).toInt := xr6_0
    have : (1 : Int32).toInt = 1 := (by decide)
    have xr6_1 : (n8 : Int32).toInt = (1 : Int32).toInt := xr6_1
    have xr6_2 : (r6 : Int32).toInt = 1 := xr6_2
    have hP9 : va_P (dC, dI) classes (WX h g ca (u2 (u2 iv 3 3 n7) 3 4 n8) lv fa la) H := hP
    have hD9 : va_D A (WX h g ca (u2 (u2 iv 3 3 n7) 3 4 n8) lv fa la) := hD
    exact W.iret (v := r6) hx hb hr (fun t ht9 hW => ⟨⟨r6, ((u2 (u2 iv 3 3 n7) 3 4 n8), lv, fa, la), rfl, ⟨n7, n8, (show inb (0, 2) n7 from ⟨by omega, by omega⟩), (show inb (0, 2) n8 from ⟨by omega, by omega⟩), (show twX (la 30 1) (la 30 0) (n7 : Int32).toInt (n8 : Int32).toInt (a).toInt from (by unfold twX; exact Or.inl ⟨by omega, by omega, by omega⟩)), (show (r6 : Int32).toInt = 1 from by omega), ⟨by omega, by omega⟩, rfl⟩, by rw [ht9]; exact hP9, hD9⟩, hS.F ht9⟩) hS.2.2 dX3_settleByTwo_11
set_option maxHeartbeats 4000000 in
set_option maxRecDepth 100000 in
/-- X7_level -/
theorem c_X7_level_w0 (l : Launch) (dC : Nat → ClassId) (dI : Nat → Nat → Nat) (h : Nat) (g : Nat → Nat → Nat) (ca : Nat → Nat → ClassId) (iv : Nat → Nat → Int32) (lv : Nat → Nat → Int64) (fa : Nat → Nat → Nat → Int32) (la : Nat → Nat → Nat → Int64) (hI : IX iv fa) : Met l yX7_level (wc yX7_level cX7_level 2 (some .long)) ({ frames := 0, cells := 0, slots := 0, locals := 0 } : Room) (pR (dC, dI) classes (WX h g ca iv lv fa la) (TX ca) [.ref (g 3 2), .int 0]) (vp_Sl (fun r => (True) ∧ (r.toInt = ((la 30 1) 0 * (la 30 0) 1 * (la 30 0) 2).toInt))) 0 0 (fun _ => False) := by
  refine Met.ofW (cc := cX7_level) (maxL := 2) (ret := (some .long)) (by decide) rfl ?_
  intro p e s m args below meth c s₁ B hml hv
  obtain ⟨rfl, hP, hK⟩ := hv
  have hx := B.exec
  have hb := B.bytes
  have hr := B.returns
  have ht := tb_tl (atoms_spec (ws := wc yX7_level cX7_level 2 (some .long)) B.pre)
  have hown : s.vm.findClass RX7 = some m.cls := findClass_of_methodNamed B.named
  have hlocks := B.notSynchronized
  have hl := lv_entry [.ref (g 3 2), .int 0] (n := 2) (Nat.le_of_ble_eq_true rfl)
  rw [lg_entry_eq]
  generalize (lg_sl [.ref (g 3 2), .int 0] ++ List.replicate (2 - (lg_sl [.ref (g 3 2), .int 0]).length) Slot.unset).toArray = ls at hl ⊢
  have hl : lv_has ls 2 [(0, .ref (g 3 2)), (1, .int 0)] := hl
  refine lv_aload_n hx hb dX7_level_0 rfl (lv_at hl 0 rfl) ?_
  refine gX_30_1 hx hb ht hown hK hP m_264 dX7_level_1 ?_
  refine lv_iload_n hx hb dX7_level_4 rfl (lv_at hl 1 rfl) ?_
  refine lX_30_1 hx hb hK hP (f := (la 30 1)) rfl (vp_in_iff.mpr (by decide)) dX7_level_5 ?_
  refine lv_topl (fun w1 ew1 => ?_)
  refine lv_aload_n hx hb dX7_level_6 rfl (lv_at hl 0 rfl) ?_
  refine gX_30_0 hx hb ht hown hK hP m_261 dX7_level_7 ?_
  refine lv_iload_n hx hb dX7_level_10 rfl (lv_at hl 1 rfl) ?_
  refine lv_iconst (v := 1) hx hb dX7_level_11 (by decide) ?_
  refine lv_iadd hx hb dX7_level_12 ?_
  refine lv_topi (fun v2 ev2 => ?_)
  obtain rfl : 1 = v2 := (ev2.trans (by decide)).symm
  refine lv_iconst (v := 3) hx hb dX7_level_13 (by decide) ?_
  refine lv_irem hx hb dX7_level_14 (by decide) ?_
  refine lv_topi (fun v3 ev3 => ?_)
  obtain rfl : 1 = v3 := (ev3.trans (by decide)).symm
  refine lX_30_0 hx hb hK hP (f := (la 30 0)) rfl (vp_in_iff.mpr (by decide)) dX7_level_15 ?_
  refine lv_topl (fun w4 ew4 => ?_)
  refine lv_lmul hx hb dX7_level_16 ?_
  refine lv_topl (fun w5 ew5 => ?_)
  refine lv_aload_n hx hb dX7_level_17 rfl (lv_at hl 0 rfl) ?_
  refine gX_30_0 hx hb ht hown hK hP m_261 dX7_level_18 ?_
  refine lv_iload_n hx hb dX7_level_21 rfl (lv_at hl 1 rfl) ?_
  refine lv_iconst (v := 2) hx hb dX7_level_22 (by decide) ?_
  refine lv_iadd hx hb dX7_level_23 ?_
  refine lv_topi (fun v6 ev6 => ?_)
  obtain rfl : 2 = v6 := (ev6.trans (by decide)).symm
  refine lv_iconst (v := 3) hx hb dX7_level_24 (by decide) ?_
  refine lv_irem hx hb dX7_level_25 (by decide) ?_
  refine lv_topi (fun v7 ev7 => ?_)
  obtain rfl : 2 = v7 := (ev7.trans (by decide)).symm
  refine lX_30_0 hx hb hK hP (f := (la 30 0)) rfl (vp_in_iff.mpr (by decide)) dX7_level_26 ?_
  refine lv_topl (fun w8 ew8 => ?_)
  refine lv_lmul hx hb dX7_level_27 ?_
  refine lv_topl (fun w9 ew9 => ?_)
  exact W.lret (v := w9) hx hb hr (fun t ht9 hW => ⟨w9, rfl, ⟨trivial, (show (w9 : Int64).toInt = ((la 30 1) 0 * (la 30 0) 1 * (la 30 0) 2).toInt from congrArg Int64.toInt (by first | (simp only [ew9, ew8, ew5, ew4, ew1]; rfl) | simp only [ew9, ew8, ew5, ew4, ew1] | rfl))⟩, ht9⟩) (fun q hq => by cases hq) dX7_level_28
set_option maxHeartbeats 4000000 in
set_option maxRecDepth 100000 in
/-- X7_level -/
theorem c_X7_level_w1 (l : Launch) (dC : Nat → ClassId) (dI : Nat → Nat → Nat) (h : Nat) (g : Nat → Nat → Nat) (ca : Nat → Nat → ClassId) (iv : Nat → Nat → Int32) (lv : Nat → Nat → Int64) (fa : Nat → Nat → Nat → Int32) (la : Nat → Nat → Nat → Int64) (hI : IX iv fa) : Met l yX7_level (wc yX7_level cX7_level 2 (some .long)) ({ frames := 0, cells := 0, slots := 0, locals := 0 } : Room) (pR (dC, dI) classes (WX h g ca iv lv fa la) (TX ca) [.ref (g 3 2), .int 1]) (vp_Sl (fun r => (True) ∧ (r.toInt = ((la 30 1) 1 * (la 30 0) 2 * (la 30 0) 0).toInt))) 0 0 (fun _ => False) := by
  refine Met.ofW (cc := cX7_level) (maxL := 2) (ret := (some .long)) (by decide) rfl ?_
  intro p e s m args below meth c s₁ B hml hv
  obtain ⟨rfl, hP, hK⟩ := hv
  have hx := B.exec
  have hb := B.bytes
  have hr := B.returns
  have ht := tb_tl (atoms_spec (ws := wc yX7_level cX7_level 2 (some .long)) B.pre)
  have hown : s.vm.findClass RX7 = some m.cls := findClass_of_methodNamed B.named
  have hlocks := B.notSynchronized
  have hl := lv_entry [.ref (g 3 2), .int 1] (n := 2) (Nat.le_of_ble_eq_true rfl)
  rw [lg_entry_eq]
  generalize (lg_sl [.ref (g 3 2), .int 1] ++ List.replicate (2 - (lg_sl [.ref (g 3 2), .int 1]).length) Slot.unset).toArray = ls at hl ⊢
  have hl : lv_has ls 2 [(0, .ref (g 3 2)), (1, .int 1)] := hl
  refine lv_aload_n hx hb dX7_level_0 rfl (lv_at hl 0 rfl) ?_
  refine gX_30_1 hx hb ht hown hK hP m_264 dX7_level_1 ?_
  refine lv_iload_n hx hb dX7_level_4 rfl (lv_at hl 1 rfl) ?_
  refine lX_30_1 hx hb hK hP (f := (la 30 1)) rfl (vp_in_iff.mpr (by decide)) dX7_level_5 ?_
  refine lv_topl (fun w1 ew1 => ?_)
  refine lv_aload_n hx hb dX7_level_6 rfl (lv_at hl 0 rfl) ?_
  refine gX_30_0 hx hb ht hown hK hP m_261 dX7_level_7 ?_
  refine lv_iload_n hx hb dX7_level_10 rfl (lv_at hl 1 rfl) ?_
  refine lv_iconst (v := 1) hx hb dX7_level_11 (by decide) ?_
  refine lv_iadd hx hb dX7_level_12 ?_
  refine lv_topi (fun v2 ev2 => ?_)
  obtain rfl : 2 = v2 := (ev2.trans (by decide)).symm
  refine lv_iconst (v := 3) hx hb dX7_level_13 (by decide) ?_
  refine lv_irem hx hb dX7_level_14 (by decide) ?_
  refine lv_topi (fun v3 ev3 => ?_)
  obtain rfl : 2 = v3 := (ev3.trans (by decide)).symm
  refine lX_30_0 hx hb hK hP (f := (la 30 0)) rfl (vp_in_iff.mpr (by decide)) dX7_level_15 ?_
  refine lv_topl (fun w4 ew4 => ?_)
  refine lv_lmul hx hb dX7_level_16 ?_
  refine lv_topl (fun w5 ew5 => ?_)
  refine lv_aload_n hx hb dX7_level_17 rfl (lv_at hl 0 rfl) ?_
  refine gX_30_0 hx hb ht hown hK hP m_261 dX7_level_18 ?_
  refine lv_iload_n hx hb dX7_level_21 rfl (lv_at hl 1 rfl) ?_
  refine lv_iconst (v := 2) hx hb dX7_level_22 (by decide) ?_
  refine lv_iadd hx hb dX7_level_23 ?_
  refine lv_topi (fun v6 ev6 => ?_)
  obtain rfl : 3 = v6 := (ev6.trans (by decide)).symm
  refine lv_iconst (v := 3) hx hb dX7_level_24 (by decide) ?_
  refine lv_irem hx hb dX7_level_25 (by decide) ?_
  refine lv_topi (fun v7 ev7 => ?_)
  obtain rfl : 0 = v7 := (ev7.trans (by decide)).symm
  refine lX_30_0 hx hb hK hP (f := (la 30 0)) rfl (vp_in_iff.mpr (by decide)) dX7_level_26 ?_
  refine lv_topl (fun w8 ew8 => ?_)
  refine lv_lmul hx hb dX7_level_27 ?_
  refine lv_topl (fun w9 ew9 => ?_)
  exact W.lret (v := w9) hx hb hr (fun t ht9 hW => ⟨w9, rfl, ⟨trivial, (show (w9 : Int64).toInt = ((la 30 1) 1 * (la 30 0) 2 * (la 30 0) 0).toInt from congrArg Int64.toInt (by first | (simp only [ew9, ew8, ew5, ew4, ew1]; rfl) | simp only [ew9, ew8, ew5, ew4, ew1] | rfl))⟩, ht9⟩) (fun q hq => by cases hq) dX7_level_28
set_option maxHeartbeats 4000000 in
set_option maxRecDepth 100000 in
/-- X7_level -/
theorem c_X7_level_w2 (l : Launch) (dC : Nat → ClassId) (dI : Nat → Nat → Nat) (h : Nat) (g : Nat → Nat → Nat) (ca : Nat → Nat → ClassId) (iv : Nat → Nat → Int32) (lv : Nat → Nat → Int64) (fa : Nat → Nat → Nat → Int32) (la : Nat → Nat → Nat → Int64) (hI : IX iv fa) : Met l yX7_level (wc yX7_level cX7_level 2 (some .long)) ({ frames := 0, cells := 0, slots := 0, locals := 0 } : Room) (pR (dC, dI) classes (WX h g ca iv lv fa la) (TX ca) [.ref (g 3 2), .int 2]) (vp_Sl (fun r => (True) ∧ (r.toInt = ((la 30 1) 2 * (la 30 0) 0 * (la 30 0) 1).toInt))) 0 0 (fun _ => False) := by
  refine Met.ofW (cc := cX7_level) (maxL := 2) (ret := (some .long)) (by decide) rfl ?_
  intro p e s m args below meth c s₁ B hml hv
  obtain ⟨rfl, hP, hK⟩ := hv
  have hx := B.exec
  have hb := B.bytes
  have hr := B.returns
  have ht := tb_tl (atoms_spec (ws := wc yX7_level cX7_level 2 (some .long)) B.pre)
  have hown : s.vm.findClass RX7 = some m.cls := findClass_of_methodNamed B.named
  have hlocks := B.notSynchronized
  have hl := lv_entry [.ref (g 3 2), .int 2] (n := 2) (Nat.le_of_ble_eq_true rfl)
  rw [lg_entry_eq]
  generalize (lg_sl [.ref (g 3 2), .int 2] ++ List.replicate (2 - (lg_sl [.ref (g 3 2), .int 2]).length) Slot.unset).toArray = ls at hl ⊢
  have hl : lv_has ls 2 [(0, .ref (g 3 2)), (1, .int 2)] := hl
  refine lv_aload_n hx hb dX7_level_0 rfl (lv_at hl 0 rfl) ?_
  refine gX_30_1 hx hb ht hown hK hP m_264 dX7_level_1 ?_
  refine lv_iload_n hx hb dX7_level_4 rfl (lv_at hl 1 rfl) ?_
  refine lX_30_1 hx hb hK hP (f := (la 30 1)) rfl (vp_in_iff.mpr (by decide)) dX7_level_5 ?_
  refine lv_topl (fun w1 ew1 => ?_)
  refine lv_aload_n hx hb dX7_level_6 rfl (lv_at hl 0 rfl) ?_
  refine gX_30_0 hx hb ht hown hK hP m_261 dX7_level_7 ?_
  refine lv_iload_n hx hb dX7_level_10 rfl (lv_at hl 1 rfl) ?_
  refine lv_iconst (v := 1) hx hb dX7_level_11 (by decide) ?_
  refine lv_iadd hx hb dX7_level_12 ?_
  refine lv_topi (fun v2 ev2 => ?_)
  obtain rfl : 3 = v2 := (ev2.trans (by decide)).symm
  refine lv_iconst (v := 3) hx hb dX7_level_13 (by decide) ?_
  refine lv_irem hx hb dX7_level_14 (by decide) ?_
  refine lv_topi (fun v3 ev3 => ?_)
  obtain rfl : 0 = v3 := (ev3.trans (by decide)).symm
  refine lX_30_0 hx hb hK hP (f := (la 30 0)) rfl (vp_in_iff.mpr (by decide)) dX7_level_15 ?_
  refine lv_topl (fun w4 ew4 => ?_)
  refine lv_lmul hx hb dX7_level_16 ?_
  refine lv_topl (fun w5 ew5 => ?_)
  refine lv_aload_n hx hb dX7_level_17 rfl (lv_at hl 0 rfl) ?_
  refine gX_30_0 hx hb ht hown hK hP m_261 dX7_level_18 ?_
  refine lv_iload_n hx hb dX7_level_21 rfl (lv_at hl 1 rfl) ?_
  refine lv_iconst (v := 2) hx hb dX7_level_22 (by decide) ?_
  refine lv_iadd hx hb dX7_level_23 ?_
  refine lv_topi (fun v6 ev6 => ?_)
  obtain rfl : 4 = v6 := (ev6.trans (by decide)).symm
  refine lv_iconst (v := 3) hx hb dX7_level_24 (by decide) ?_
  refine lv_irem hx hb dX7_level_25 (by decide) ?_
  refine lv_topi (fun v7 ev7 => ?_)
  obtain rfl : 1 = v7 := (ev7.trans (by decide)).symm
  refine lX_30_0 hx hb hK hP (f := (la 30 0)) rfl (vp_in_iff.mpr (by decide)) dX7_level_26 ?_
  refine lv_topl (fun w8 ew8 => ?_)
  refine lv_lmul hx hb dX7_level_27 ?_
  refine lv_topl (fun w9 ew9 => ?_)
  exact W.lret (v := w9) hx hb hr (fun t ht9 hW => ⟨w9, rfl, ⟨trivial, (show (w9 : Int64).toInt = ((la 30 1) 2 * (la 30 0) 0 * (la 30 0) 1).toInt from congrArg Int64.toInt (by first | (simp only [ew9, ew8, ew5, ew4, ew1]; rfl) | simp only [ew9, ew8, ew5, ew4, ew1] | rfl))⟩, ht9⟩) (fun q hq => by cases hq) dX7_level_28
set_option maxHeartbeats 4000000 in
set_option maxRecDepth 100000 in
/-- X3_settleByNearest -/
theorem c_X3_settleByNearest_w (l : Launch) (dC : Nat → ClassId) (dI : Nat → Nat → Nat) (sz : Nat) (h : Nat) (g : Nat → Nat → Nat) (ca : Nat → Nat → ClassId) (iv : Nat → Nat → Int32) (lv : Nat → Nat → Int64) (fa : Nat → Nat → Nat → Int32) (la : Nat → Nat → Nat → Int64) (hI : IX iv fa) : Met l yX3_settleByNearest (wc yX3_settleByNearest cX3_settleByNearest 7 (some .int)) ({ frames := 1, cells := 0, slots := 0, locals := 40 } : Room) (pW (dC, dI) classes (WX h g ca iv lv fa la) (TX ca) sz [.ref (g 11 5)]) (va_Qi (fun r (u : SS) => ∃ (ni_3_3 : Int32) (ni_3_4 : Int32), inb (bI 3 3) ni_3_3 ∧ inb (bI 3 4) ni_3_4 ∧ (nrR ((la 30 1) 0 * (la 30 0) 1 * (la 30 0) 2) ((la 30 1) 1 * (la 30 0) 2 * (la 30 0) 0) ((la 30 1) 2 * (la 30 0) 0 * (la 30 0) 1) (ni_3_3).toInt (ni_3_4).toInt) ∧ (r.toInt = 1) ∧ (1 ≤ r.toInt ∧ r.toInt ≤ 1) ∧ u = ((u2 (u2 iv 3 3 ni_3_3) 3 4 ni_3_4), lv, fa, la)) (bX (dC, dI) h g ca (va_A (WX h g ca iv lv fa la) sz)) (va_A (WX h g ca iv lv fa la) sz)) 0 0 (va_A (WX h g ca iv lv fa la) sz) := by
  refine Met.ofW (cc := cX3_settleByNearest) (maxL := 7) (ret := (some .int)) (by decide) rfl ?_
  intro p e s m args below meth c s₁ B hml hv
  obtain ⟨rfl, hsz, hP, hK, hD0⟩ := hv
  have hx := B.exec
  have hb := B.bytes
  have hr := B.returns
  have ht := tb_tl (atoms_spec (ws := wc yX3_settleByNearest cX3_settleByNearest 7 (some .int)) B.pre)
  have hown : s.vm.findClass RX3 = some m.cls := findClass_of_methodNamed B.named
  have hlocks := B.notSynchronized
  subst hsz
  have hD := hD0.self (sz := s.heap.size)
  generalize hAe : va_A (WX h g ca iv lv fa la) s.heap.size = A at hD ⊢
  have hA : ∀ q : Nat, s.heap.size ≤ q → A q := fun q h => by rw [← hAe]; exact Or.inr h
  have hS : va_S A s.heap s.heap [] := va_S.rf
  have hl := lv_entry [.ref (g 11 5)] (n := 7) (Nat.le_of_ble_eq_true rfl)
  rw [lg_entry_eq]
  generalize (lg_sl [.ref (g 11 5)] ++ List.replicate (7 - (lg_sl [.ref (g 11 5)]).length) Slot.unset).toArray = ls at hl ⊢
  have hl : lv_has ls 7 [(0, .ref (g 11 5))] := hl
  refine lv_aload_n hx hb dX3_settleByNearest_0 rfl (lv_at hl 0 rfl) ?_
  refine gX_3_2 hx hb ht hown hK hP m_281 dX3_settleByNearest_1 ?_
  refine lv_iconst (v := 0) hx hb dX3_settleByNearest_4 (by decide) ?_
  refine vp_callSl (W.runV (As := [.int 0]) (rest := []) ⟨hx, hb, hml, hown, ht⟩ (c_X7_level_w0 l dC dI h g ca iv lv fa la hI) (kV 1 ht m_654 m_655 m_656 m_84 m_657 rfl rfl hd_X7_level_v ⟨Nat.le_of_ble_eq_true rfl, Nat.le_of_ble_eq_true rfl⟩) (vR hP hK (rX_30 hK hP)) rfl rfl hl.1 rfl (lv_room (Nat.le_of_ble_eq_true rfl)) dX3_settleByNearest_5 ⟨Nat.le_of_ble_eq_true rfl, Nat.le_of_ble_eq_true rfl⟩) (fun r1 hr1 => ?_)
  obtain ⟨hr1, xr1_0⟩ := hr1
  have xr1_0 : (r1 : Int64).toInt = ((la 30 1) 0 * (la 30 0) 1 * (la 30 0) 2).toInt := xr1_0
  refine lv_aload_n hx hb dX3_settleByNearest_8 rfl (lv_at hl 0 rfl) ?_
  refine gX_3_2 hx hb ht hown hK hP m_281 dX3_settleByNearest_9 ?_
  refine lv_iconst (v := 1) hx hb dX3_settleByNearest_12 (by decide) ?_
  refine vp_callSl (W.runV (As := [.int 1]) (rest := [.long r1]) ⟨hx, hb, hml, hown, ht⟩ (c_X7_level_w1 l dC dI h g ca iv lv fa la hI) (kV 1 ht m_654 m_655 m_656 m_84 m_657 rfl rfl hd_X7_level_v ⟨Nat.le_of_ble_eq_true rfl, Nat.le_of_ble_eq_true rfl⟩) (vR hP hK (rX_30 hK hP)) rfl rfl hl.1 rfl (lv_room (Nat.le_of_ble_eq_true rfl)) dX3_settleByNearest_13 ⟨Nat.le_of_ble_eq_true rfl, Nat.le_of_ble_eq_true rfl⟩) (fun r2 hr2 => ?_)
  obtain ⟨hr2, xr2_0⟩ := hr2
  have xr2_0 : (r2 : Int64).toInt = ((la 30 1) 1 * (la 30 0) 2 * (la 30 0) 0).toInt := xr2_0
  refine lv_lsub hx hb dX3_settleByNearest_16 ?_
  refine lv_topl (fun w3 ew3 => ?_)
  refine va_mabs_long hx hb (hml.trans hl.1.symm) hown (ht _ m_658) (ht _ m_632) (ht _ m_90) (ht _ m_633) (Nat.le_of_ble_eq_true rfl) (Nat.le_of_ble_eq_true rfl) (Nat.le_of_ble_eq_true rfl) (Nat.le_of_ble_eq_true rfl) dX3_settleByNearest_17 ?_
  refine lv_topl (fun w4 ew4 => ?_)
  have kp : w4 = absL ((la 30 1) 0 * (la 30 0) 1 * (la 30 0) 2 - (la 30 1) 1 * (la 30 0) 2 * (la 30 0) 0) := by rw [ew4, ew3, Int64.toInt_inj.mp xr1_0, Int64.toInt_inj.mp xr2_0]; rfl
  refine lv_lstore_n (lv' := [(1, .long w4), (0, .ref (g 11 5))]) hx hb dX3_settleByNearest_20 rfl hl (by decide) rfl (fun ls hl => ?_)
  refine lv_aload_n hx hb dX3_settleByNearest_21 rfl (lv_at hl 1 rfl) ?_
  refine gX_3_2 hx hb ht hown hK hP m_281 dX3_settleByNearest_22 ?_
  refine lv_iconst (v := 0) hx hb dX3_settleByNearest_25 (by decide) ?_
  refine vp_callSl (W.runV (As := [.int 0]) (rest := []) ⟨hx, hb, hml, hown, ht⟩ (c_X7_level_w0 l dC dI h g ca iv lv fa la hI) (kV 1 ht m_654 m_655 m_656 m_84 m_657 rfl rfl hd_X7_level_v ⟨Nat.le_of_ble_eq_true rfl, Nat.le_of_ble_eq_true rfl⟩) (vR hP hK (rX_30 hK hP)) rfl rfl hl.1 rfl (lv_room (Nat.le_of_ble_eq_true rfl)) dX3_settleByNearest_26 ⟨Nat.le_of_ble_eq_true rfl, Nat.le_of_ble_eq_true rfl⟩) (fun r5 hr5 => ?_)
  obtain ⟨hr5, xr5_0⟩ := hr5
  have xr5_0 : (r5 : Int64).toInt = ((la 30 1) 0 * (la 30 0) 1 * (la 30 0) 2).toInt := xr5_0
  refine lv_aload_n hx hb dX3_settleByNearest_29 rfl (lv_at hl 1 rfl) ?_
  refine gX_3_2 hx hb ht hown hK hP m_281 dX3_settleByNearest_30 ?_
  refine lv_iconst (v := 2) hx hb dX3_settleByNearest_33 (by decide) ?_
  refine vp_callSl (W.runV (As := [.int 2]) (rest := [.long r5]) ⟨hx, hb, hml, hown, ht⟩ (c_X7_level_w2 l dC dI h g ca iv lv fa la hI) (kV 1 ht m_654 m_655 m_656 m_84 m_657 rfl rfl hd_X7_level_v ⟨Nat.le_of_ble_eq_true rfl, Nat.le_of_ble_eq_true rfl⟩) (vR hP hK (rX_30 hK hP)) rfl rfl hl.1 rfl (lv_room (Nat.le_of_ble_eq_true rfl)) dX3_settleByNearest_34 ⟨Nat.le_of_ble_eq_true rfl, Nat.le_of_ble_eq_true rfl⟩) (fun r6 hr6 => ?_)
  obtain ⟨hr6, xr6_0⟩ := hr6
  have xr6_0 : (r6 : Int64).toInt = ((la 30 1) 2 * (la 30 0) 0 * (la 30 0) 1).toInt := xr6_0
  refine lv_lsub hx hb dX3_settleByNearest_37 ?_
  refine lv_topl (fun w7 ew7 => ?_)
  refine va_mabs_long hx hb (hml.trans hl.1.symm) hown (ht _ m_658) (ht _ m_632) (ht _ m_90) (ht _ m_633) (Nat.le_of_ble_eq_true rfl) (Nat.le_of_ble_eq_true rfl) (Nat.le_of_ble_eq_true rfl) (Nat.le_of_ble_eq_true rfl) dX3_settleByNearest_38 ?_
  refine lv_topl (fun w8 ew8 => ?_)
  have kq : w8 = absL ((la 30 1) 0 * (la 30 0) 1 * (la 30 0) 2 - (la 30 1) 2 * (la 30 0) 0 * (la 30 0) 1) := by rw [ew8, ew7, Int64.toInt_inj.mp xr5_0, Int64.toInt_inj.mp xr6_0]; rfl
  refine lv_lstore_n (lv' := [(3, .long w8), (1, .long w4), (0, .ref (g 11 5))]) hx hb dX3_settleByNearest_41 rfl hl (by decide) rfl (fun ls hl => ?_)
  refine lv_aload_n hx hb dX3_settleByNearest_42 rfl (lv_at hl 2 rfl) ?_
  refine gX_3_2 hx hb ht hown hK hP m_281 dX3_settleByNearest_43 ?_
  refine lv_iconst (v := 1) hx hb dX3_settleByNearest_46 (by decide) ?_
  refine vp_callSl (W.runV (As := [.int 1]) (rest := []) ⟨hx, hb, hml, hown, ht⟩ (c_X7_level_w1 l dC dI h g ca iv lv fa la hI) (kV 1 ht m_654 m_655 m_656 m_84 m_657 rfl rfl hd_X7_level_v ⟨Nat.le_of_ble_eq_true rfl, Nat.le_of_ble_eq_true rfl⟩) (vR hP hK (rX_30 hK hP)) rfl rfl hl.1 rfl (lv_room (Nat.le_of_ble_eq_true rfl)) dX3_settleByNearest_47 ⟨Nat.le_of_ble_eq_true rfl, Nat.le_of_ble_eq_true rfl⟩) (fun r9 hr9 => ?_)
  obtain ⟨hr9, xr9_0⟩ := hr9
  have xr9_0 : (r9 : Int64).toInt = ((la 30 1) 1 * (la 30 0) 2 * (la 30 0) 0).toInt := xr9_0
  refine lv_aload_n hx hb dX3_settleByNearest_50 rfl (lv_at hl 2 rfl) ?_
  refine gX_3_2 hx hb ht hown hK hP m_281 dX3_settleByNearest_51 ?_
  refine lv_iconst (v := 2) hx hb dX3_settleByNearest_54 (by decide) ?_
  refine vp_callSl (W.runV (As := [.int 2]) (rest := [.long r9]) ⟨hx, hb, hml, hown, ht⟩ (c_X7_level_w2 l dC dI h g ca iv lv fa la hI) (kV 1 ht m_654 m_655 m_656 m_84 m_657 rfl rfl hd_X7_level_v ⟨Nat.le_of_ble_eq_true rfl, Nat.le_of_ble_eq_true rfl⟩) (vR hP hK (rX_30 hK hP)) rfl rfl hl.1 rfl (lv_room (Nat.le_of_ble_eq_true rfl)) dX3_settleByNearest_55 ⟨Nat.le_of_ble_eq_true rfl, Nat.le_of_ble_eq_true rfl⟩) (fun r10 hr10 => ?_)
  obtain ⟨hr10, xr10_0⟩ := hr10
  have xr10_0 : (r10 : Int64).toInt = ((la 30 1) 2 * (la 30 0) 0 * (la 30 0) 1).toInt := xr10_0
  refine lv_lsub hx hb dX3_settleByNearest_58 ?_
  refine lv_topl (fun w11 ew11 => ?_)
  refine va_mabs_long hx hb (hml.trans hl.1.symm) hown (ht _ m_658) (ht _ m_632) (ht _ m_90) (ht _ m_633) (Nat.le_of_ble_eq_true rfl) (Nat.le_of_ble_eq_true rfl) (Nat.le_of_ble_eq_true rfl) (Nat.le_of_ble_eq_true rfl) dX3_settleByNearest_59 ?_
  refine lv_topl (fun w12 ew12 => ?_)
  have kr : w12 = absL ((la 30 1) 1 * (la 30 0) 2 * (la 30 0) 0 - (la 30 1) 2 * (la 30 0) 0 * (la 30 0) 1) := by rw [ew12, ew11, Int64.toInt_inj.mp xr9_0, Int64.toInt_inj.mp xr10_0]; rfl
  refine lv_lstore (lv' := [(5, .long w12), (3, .long w8), (1, .long w4), (0, .ref (g 11 5))]) hx hb dX3_settleByNearest_62 hl (by decide) rfl (fun ls hl => ?_)
  refine lv_lload_n hx hb dX3_settleByNearest_64 rfl (lv_at hl 2 rfl) ?_
  refine lv_lload_n hx hb dX3_settleByNearest_65 rfl (lv_at hl 1 rfl) ?_
  refine W.lcmp hx hb dX3_settleByNearest_66 ?_
  refine lv_topi (fun v13 ev13 => ?_)
  refine lv_if_gt (tgt := 84) hx hb dX3_settleByNearest_67 (by decide) (fun c14 => ?_) (fun c14 => ?_)
  · have fc14 := zc_gt ev13 (rfl : (w4).toInt = _) (rfl : (w8).toInt = _) c14
    refine lv_lload_n hx hb dX3_settleByNearest_84 rfl (lv_at hl 1 rfl) ?_
    refine lv_lload hx hb dX3_settleByNearest_85 (lv_at hl 0 rfl) ?_
    refine W.lcmp hx hb dX3_settleByNearest_87 ?_
    refine lv_topi (fun v15 ev15 => ?_)
    refine lv_if_gt (tgt := 100) hx hb dX3_settleByNearest_88 (by decide) (fun c16 => ?_) (fun c16 => ?_)
    · have fc16 := zc_gt ev15 (rfl : (w8).toInt = _) (rfl : (w12).toInt = _) c16
      refine lv_aload_n hx hb dX3_settleByNearest_100 rfl (lv_at hl 3 rfl) ?_
      refine lv_iconst (v := 1) hx hb dX3_settleByNearest_101 (by decide) ?_
      refine lv_iconst (v := 2) hx hb dX3_settleByNearest_102 (by decide) ?_
      have hFc := free_all hD hS hA
      refine va_calli (va_runV (As := [.int 1, .int 2]) (rest := []) ⟨hx, hb, hml, hown, ht⟩ (c_X3_settle_w l dC dI s.heap.size h g ca iv lv fa la hI 1 2 ⟨by decide, by decide⟩ ⟨by decide, by decide⟩) (kV 2 ht m_622 m_624 m_9 m_83 m_625 rfl rfl hd_X3_settle_v ⟨Nat.le_of_ble_eq_true rfl, Nat.le_of_ble_eq_true rfl⟩) (vW hP hK hD (rX_3 hK hP)) rfl rfl hl.1 rfl (lv_room (Nat.le_of_ble_eq_true rfl)) dX3_settleByNearest_103 ⟨Nat.le_of_ble_eq_true rfl, Nat.le_of_ble_eq_true rfl⟩) hS (fun q _ h => hFc q h) hFc (fun r17 u t H1 locs ht9 hvm hr17 hB hz1 hk1 hS => ?_)
      obtain ⟨n18, n19, hn18, hn19, xr17_0, xr17_1, xr17_2, hr17, rfl⟩ := hr17
      have hn18 : 0 ≤ n18.toInt ∧ n18.toInt ≤ 2 := hn18
      have hn19 : 0 ≤ n19.toInt ∧ n19.toInt ≤ 2 := hn19
      obtain ⟨hP, hD⟩ := hB
      rw [ht9] at hP
      generalize H1 = H at hP hS ⊢
      have hP : va_P (dC, dI) classes (WX h g ca (u2 (u2 iv 3 3 n18) 3 4 n19) lv fa la) H := hP
      have hD : va_D A (WX h g ca (u2 (u2 iv 3 3 n18) 3 4 n19) lv fa la) := (show va_D _ (WX h g ca (u2 (u2 iv 3 3 n18) 3 4 n19) lv fa la) from hD).weaken (fun _ _ _ h => hFc _ h)
      have : (1 : Int32).toInt = 1 := (by decide)
      have xr17_0 : (n18 : Int32).toInt = (1 : Int32).toInt := xr17_0
      have : (2 : Int32).toInt = 2 := (by decide)
      have xr17_1 : (n19 : Int32).toInt = (2 : Int32).toInt := xr17_1
      have xr17_2 : (r17 : Int32).toInt = 1 := xr17_2
      have hP9 : va_P (dC, dI) classes (WX h g ca (u2 (u2 iv 3 3 n18) 3 4 n19) lv fa la) H := hP
      have hD9 : va_D A (WX h g ca (u2 (u2 iv 3 3 n18) 3 4 n19) lv fa la) := hD
      exact W.iret (v := r17) hx hb hr (fun t ht9 hW => ⟨⟨r17, ((u2 (u2 iv 3 3 n18) 3 4 n19), lv, fa, la), rfl, ⟨n18, n19, (show inb (0, 2) n18 from ⟨by omega, by omega⟩), (show inb (0, 2) n19 from ⟨by omega, by omega⟩), (show nrR ((la 30 1) 0 * (la 30 0) 1 * (la 30 0) 2) ((la 30 1) 1 * (la 30 0) 2 * (la 30 0) 0) ((la 30 1) 2 * (la 30 0) 0 * (la 30 0) 1) (n18 : Int32).toInt (n19 : Int32).toInt from (by unfold nrR; rw [← kp, ← kq, ← kr]; omega)), (show (r17 : Int32).toInt = 1 from by omega), ⟨by omega, by omega⟩, rfl⟩, by rw [ht9]; exact hP9, hD9⟩, hS.F ht9⟩) hS.2.2 dX3_settleByNearest_106
    · have fc16 := zc_ngt ev15 (rfl : (w8).toInt = _) (rfl : (w12).toInt = _) c16
      refine lv_aload_n hx hb dX3_settleByNearest_91 rfl (lv_at hl 3 rfl) ?_
      refine lv_iconst (v := 0) hx hb dX3_settleByNearest_92 (by decide) ?_
      refine lv_iconst (v := 2) hx hb dX3_settleByNearest_93 (by decide) ?_
      have hFc := free_all hD hS hA
      refine va_calli (va_runV (As := [.int 0, .int 2]) (rest := []) ⟨hx, hb, hml, hown, ht⟩ (c_X3_settle_w l dC dI s.heap.size h g ca iv lv fa la hI 0 2 ⟨by decide, by decide⟩ ⟨by decide, by decide⟩) (kV 2 ht m_622 m_624 m_9 m_83 m_625 rfl rfl hd_X3_settle_v ⟨Nat.le_of_ble_eq_true rfl, Nat.le_of_ble_eq_true rfl⟩) (vW hP hK hD (rX_3 hK hP)) rfl rfl hl.1 rfl (lv_room (Nat.le_of_ble_eq_true rfl)) dX3_settleByNearest_94 ⟨Nat.le_of_ble_eq_true rfl, Nat.le_of_ble_eq_true rfl⟩) hS (fun q _ h => hFc q h) hFc (fun r20 u t H1 locs ht9 hvm hr20 hB hz1 hk1 hS => ?_)
      obtain ⟨n21, n22, hn21, hn22, xr20_0, xr20_1, xr20_2, hr20, rfl⟩ := hr20
      have hn21 : 0 ≤ n21.toInt ∧ n21.toInt ≤ 2 := hn21
      have hn22 : 0 ≤ n22.toInt ∧ n22.toInt ≤ 2 := hn22
      obtain ⟨hP, hD⟩ := hB
      rw [ht9] at hP
      generalize H1 = H at hP hS ⊢
      have hP : va_P (dC, dI) classes (WX h g ca (u2 (u2 iv 3 3 n21) 3 4 n22) lv fa la) H := hP
      have hD : va_D A (WX h g ca (u2 (u2 iv 3 3 n21) 3 4 n22) lv fa la) := (show va_D _ (WX h g ca (u2 (u2 iv 3 3 n21) 3 4 n22) lv fa la) from hD).weaken (fun _ _ _ h => hFc _ h)
      have : (0 : Int32).toInt = 0 := (by decide)
      have xr20_0 : (n21 : Int32).toInt = (0 : Int32).toInt := xr20_0
      have : (2 : Int32).toInt = 2 := (by decide)
      have xr20_1 : (n22 : Int32).toInt = (2 : Int32).toInt := xr20_1
      have xr20_2 : (r20 : Int32).toInt = 1 := xr20_2
      refine lv_goto (tgt := 106) hx hb dX3_settleByNearest_97 (by decide) ?_
      have hP9 : va_P (dC, dI) classes (WX h g ca (u2 (u2 iv 3 3 n21) 3 4 n22) lv fa la) H := hP
      have hD9 : va_D A (WX h g ca (u2 (u2 iv 3 3 n21) 3 4 n22) lv fa la) := hD
      exact W.iret (v := r20) hx hb hr (fun t ht9 hW => ⟨⟨r20, ((u2 (u2 iv 3 3 n21) 3 4 n22), lv, fa, la), rfl, ⟨n21, n22, (show inb (0, 2) n21 from ⟨by omega, by omega⟩), (show inb (0, 2) n22 from ⟨by omega, by omega⟩), (show nrR ((la 30 1) 0 * (la 30 0) 1 * (la 30 0) 2) ((la 30 1) 1 * (la 30 0) 2 * (la 30 0) 0) ((la 30 1) 2 * (la 30 0) 0 * (la 30 0) 1) (n21 : Int32).toInt (n22 : Int32).toInt from (by unfold nrR; rw [← kp, ← kq, ← kr]; omega)), (show (r20 : Int32).toInt = 1 from by omega), ⟨by omega, by omega⟩, rfl⟩, by rw [ht9]; exact hP9, hD9⟩, hS.F ht9⟩) hS.2.2 dX3_settleByNearest_106
  · have fc14 := zc_ngt ev13 (rfl : (w4).toInt = _) (rfl : (w8).toInt = _) c14
    refine lv_lload_n hx hb dX3_settleByNearest_70 rfl (lv_at hl 2 rfl) ?_
    refine lv_lload hx hb dX3_settleByNearest_71 (lv_at hl 0 rfl) ?_
    refine W.lcmp hx hb dX3_settleByNearest_73 ?_
    refine lv_topi (fun v23 ev23 => ?_)
    refine lv_if_gt (tgt := 84) hx hb dX3_settleByNearest_74 (by decide) (fun c24 => ?_) (fun c24 => ?_)
    · have fc24 := zc_gt ev23 (rfl : (w4).toInt = _) (rfl : (w12).toInt = _) c24
      refine lv_lload_n hx hb dX3_settleByNearest_84 rfl (lv_at hl 1 rfl) ?_
      refine lv_lload hx hb dX3_settleByNearest_85 (lv_at hl 0 rfl) ?_
      refine W.lcmp hx hb dX3_settleByNearest_87 ?_
      refine lv_topi (fun v25 ev25 => ?_)
      refine lv_if_gt (tgt := 100) hx hb dX3_settleByNearest_88 (by decide) (fun c26 => ?_) (fun c26 => ?_)
      · have fc26 := zc_gt ev25 (rfl : (w8).toInt = _) (rfl : (w12).toInt = _) c26
        refine lv_aload_n hx hb dX3_settleByNearest_100 rfl (lv_at hl 3 rfl) ?_
        refine lv_iconst (v := 1) hx hb dX3_settleByNearest_101 (by decide) ?_
        refine lv_iconst (v := 2) hx hb dX3_settleByNearest_102 (by decide) ?_
        have hFc := free_all hD hS hA
        refine va_calli (va_runV (As := [.int 1, .int 2]) (rest := []) ⟨hx, hb, hml, hown, ht⟩ (c_X3_settle_w l dC dI s.heap.size h g ca iv lv fa la hI 1 2 ⟨by decide, by decide⟩ ⟨by decide, by decide⟩) (kV 2 ht m_622 m_624 m_9 m_83 m_625 rfl rfl hd_X3_settle_v ⟨Nat.le_of_ble_eq_true rfl, Nat.le_of_ble_eq_true rfl⟩) (vW hP hK hD (rX_3 hK hP)) rfl rfl hl.1 rfl (lv_room (Nat.le_of_ble_eq_true rfl)) dX3_settleByNearest_103 ⟨Nat.le_of_ble_eq_true rfl, Nat.le_of_ble_eq_true rfl⟩) hS (fun q _ h => hFc q h) hFc (fun r27 u t H1 locs ht9 hvm hr27 hB hz1 hk1 hS => ?_)
        obtain ⟨n28, n29, hn28, hn29, xr27_0, xr27_1, xr27_2, hr27, rfl⟩ := hr27
        have hn28 : 0 ≤ n28.toInt ∧ n28.toInt ≤ 2 := hn28
        have hn29 : 0 ≤ n29.toInt ∧ n29.toInt ≤ 2 := hn29
        obtain ⟨hP, hD⟩ := hB
        rw [ht9] at hP
        generalize H1 = H at hP hS ⊢
        have hP : va_P (dC, dI) classes (WX h g ca (u2 (u2 iv 3 3 n28) 3 4 n29) lv fa la) H := hP
        have hD : va_D A (WX h g ca (u2 (u2 iv 3 3 n28) 3 4 n29) lv fa la) := (show va_D _ (WX h g ca (u2 (u2 iv 3 3 n28) 3 4 n29) lv fa la) from hD).weaken (fun _ _ _ h => hFc _ h)
        have : (1 : Int32).toInt = 1 := (by decide)
        have xr27_0 : (n28 : Int32).toInt = (1 : Int32).toInt := xr27_0
        have : (2 : Int32).toInt = 2 := (by decide)
        have xr27_1 : (n29 : Int32).toInt = (2 : Int32).toInt := xr27_1
        have xr27_2 : (r27 : Int32).toInt = 1 := xr27_2
        have hP9 : va_P (dC, dI) classes (WX h g ca (u2 (u2 iv 3 3 n28) 3 4 n29) lv fa la) H := hP
        have hD9 : va_D A (WX h g ca (u2 (u2 iv 3 3 n28) 3 4 n29) lv fa la) := hD
        exact W.iret (v := r27) hx hb hr (fun t ht9 hW => ⟨⟨r27, ((u2 (u2 iv 3 3 n28) 3 4 n29), lv, fa, la), rfl, ⟨n28, n29, (show inb (0, 2) n28 from ⟨by omega, by omega⟩), (show inb (0, 2) n29 from ⟨by omega, by omega⟩), (show nrR ((la 30 1) 0 * (la 30 0) 1 * (la 30 0) 2) ((la 30 1) 1 * (la 30 0) 2 * (la 30 0) 0) ((la 30 1) 2 * (la 30 0) 0 * (la 30 0) 1) (n28 : Int32).toInt (n29 : Int32).toInt from (by unfold nrR; rw [← kp, ← kq, ← kr]; omega)), (show (r27 : Int32).toInt = 1 from by omega), ⟨by omega, by omega⟩, rfl⟩, by rw [ht9]; exact hP9, hD9⟩, hS.F ht9⟩) hS.2.2 dX3_settleByNearest_106
      · have fc26 := zc_ngt ev25 (rfl : (w8).toInt = _) (rfl : (w12).toInt = _) c26
        refine lv_aload_n hx hb dX3_settleByNearest_91 rfl (lv_at hl 3 rfl) ?_
        refine lv_iconst (v := 0) hx hb dX3_settleByNearest_92 (by decide) ?_
        refine lv_iconst (v := 2) hx hb dX3_settleByNearest_93 (by decide) ?_
        have hFc := free_all hD hS hA
        refine va_calli (va_runV (As := [.int 0, .int 2]) (rest := []) ⟨hx, hb, hml, hown, ht⟩ (c_X3_settle_w l dC dI s.heap.size h g ca iv lv fa la hI 0 2 ⟨by decide, by decide⟩ ⟨by decide, by decide⟩) (kV 2 ht m_622 m_624 m_9 m_83 m_625 rfl rfl hd_X3_settle_v ⟨Nat.le_of_ble_eq_true rfl, Nat.le_of_ble_eq_true rfl⟩) (vW hP hK hD (rX_3 hK hP)) rfl rfl hl.1 rfl (lv_room (Nat.le_of_ble_eq_true rfl)) dX3_settleByNearest_94 ⟨Nat.le_of_ble_eq_true rfl, Nat.le_of_ble_eq_true rfl⟩) hS (fun q _ h => hFc q h) hFc (fun r30 u t H1 locs ht9 hvm hr30 hB hz1 hk1 hS => ?_)
        obtain ⟨n31, n32, hn31, hn32, xr30_0, xr30_1, xr30_2, hr30, rfl⟩ := hr30
        have hn31 : 0 ≤ n31.toInt ∧ n31.toInt ≤ 2 := hn31
        have hn32 : 0 ≤ n32.toInt ∧ n32.toInt ≤ 2 := hn32
        obtain ⟨hP, hD⟩ := hB
        rw [ht9] at hP
        generalize H1 = H at hP hS ⊢
        have hP : va_P (dC, dI) classes (WX h g ca (u2 (u2 iv 3 3 n31) 3 4 n32) lv fa la) H := hP
        have hD : va_D A (WX h g ca (u2 (u2 iv 3 3 n31) 3 4 n32) lv fa la) := (show va_D _ (WX h g ca (u2 (u2 iv 3 3 n31) 3 4 n32) lv fa la) from hD).weaken (fun _ _ _ h => hFc _ h)
        have : (0 : Int32).toInt = 0 := (by decide)
        have xr30_0 : (n31 : Int32).toInt = (0 : Int32).toInt := xr30_0
        have : (2 : Int32).toInt = 2 := (by decide)
        have xr30_1 : (n32 : Int32).toInt = (2 : Int32).toInt := xr30_1
        have xr30_2 : (r30 : Int32).toInt = 1 := xr30_2
        refine lv_goto (tgt := 106) hx hb dX3_settleByNearest_97 (by decide) ?_
        have hP9 : va_P (dC, dI) classes (WX h g ca (u2 (u2 iv 3 3 n31) 3 4 n32) lv fa la) H := hP
        have hD9 : va_D A (WX h g ca (u2 (u2 iv 3 3 n31) 3 4 n32) lv fa la) := hD
        exact W.iret (v := r30) hx hb hr (fun t ht9 hW => ⟨⟨r30, ((u2 (u2 iv 3 3 n31) 3 4 n32), lv, fa, la), rfl, ⟨n31, n32, (show inb (0, 2) n31 from ⟨by omega, by omega⟩), (show inb (0, 2) n32 from ⟨by omega, by omega⟩), (show nrR ((la 30 1) 0 * (la 30 0) 1 * (la 30 0) 2) ((la 30 1) 1 * (la 30 0) 2 * (la 30 0) 0) ((la 30 1) 2 * (la 30 0) 0 * (la 30 0) 1) (n31 : Int32).toInt (n32 : Int32).toInt from (by unfold nrR; rw [← kp, ← kq, ← kr]; omega)), (show (r30 : Int32).toInt = 1 from by omega), ⟨by omega, by omega⟩, rfl⟩, by rw [ht9]; exact hP9, hD9⟩, hS.F ht9⟩) hS.2.2 dX3_settleByNearest_106
    · have fc24 := zc_ngt ev23 (rfl : (w4).toInt = _) (rfl : (w12).toInt = _) c24
      refine lv_aload_n hx hb dX3_settleByNearest_77 rfl (lv_at hl 3 rfl) ?_
      refine lv_iconst (v := 0) hx hb dX3_settleByNearest_78 (by decide) ?_
      refine lv_iconst (v := 1) hx hb dX3_settleByNearest_79 (by decide) ?_
      have hFc := free_all hD hS hA
      refine va_calli (va_runV (As := [.int 0, .int 1]) (rest := []) ⟨hx, hb, hml, hown, ht⟩ (c_X3_settle_w l dC dI s.heap.size h g ca iv lv fa la hI 0 1 ⟨by decide, by decide⟩ ⟨by decide, by decide⟩) (kV 2 ht m_622 m_624 m_9 m_83 m_625 rfl rfl hd_X3_settle_v ⟨Nat.le_of_ble_eq_true rfl, Nat.le_of_ble_eq_true rfl⟩) (vW hP hK hD (rX_3 hK hP)) rfl rfl hl.1 rfl (lv_room (Nat.le_of_ble_eq_true rfl)) dX3_settleByNearest_80 ⟨Nat.le_of_ble_eq_true rfl, Nat.le_of_ble_eq_true rfl⟩) hS (fun q _ h => hFc q h) hFc (fun r33 u t H1 locs ht9 hvm hr33 hB hz1 hk1 hS => ?_)
      obtain ⟨n34, n35, hn34, hn35, xr33_0, xr33_1, xr33_2, hr33, rfl⟩ := hr33
      have hn34 : 0 ≤ n34.toInt ∧ n34.toInt ≤ 2 := hn34
      have hn35 : 0 ≤ n35.toInt ∧ n35.toInt ≤ 2 := hn35
      obtain ⟨hP, hD⟩ := hB
      rw [ht9] at hP
      generalize H1 = H at hP hS ⊢
      have hP : va_P (dC, dI) classes (WX h g ca (u2 (u2 iv 3 3 n34) 3 4 n35) lv fa la) H := hP
      have hD : va_D A (WX h g ca (u2 (u2 iv 3 3 n34) 3 4 n35) lv fa la) := (show va_D _ (WX h g ca (u2 (u2 iv 3 3 n34) 3 4 n35) lv fa la) from hD).weaken (fun _ _ _ h => hFc _ h)
      have : (0 : Int32).toInt = 0 := (by decide)
      have xr33_0 : (n34 : Int32).toInt = (0 : Int32).toInt := xr33_0
      have : (1 : Int32).toInt = 1 := (by decide)
      have xr33_1 : (n35 : Int32).toInt = (1 : Int32).toInt := xr33_1
      have xr33_2 : (r33 : Int32).toInt = 1 := xr33_2
      have hP9 : va_P (dC, dI) classes (WX h g ca (u2 (u2 iv 3 3 n34) 3 4 n35) lv fa la) H := hP
      have hD9 : va_D A (WX h g ca (u2 (u2 iv 3 3 n34) 3 4 n35) lv fa la) := hD
      exact W.iret (v := r33) hx hb hr (fun t ht9 hW => ⟨⟨r33, ((u2 (u2 iv 3 3 n34) 3 4 n35), lv, fa, la), rfl, ⟨n34, n35, (show inb (0, 2) n34 from ⟨by omega, by omega⟩), (show inb (0, 2) n35 from ⟨by omega, by omega⟩), (show nrR ((la 30 1) 0 * (la 30 0) 1 * (la 30 0) 2) ((la 30 1) 1 * (la 30 0) 2 * (la 30 0) 0) ((la 30 1) 2 * (la 30 0) 0 * (la 30 0) 1) (n34 : Int32).toInt (n35 : Int32).toInt from (by unfold nrR; rw [← kp, ← kq, ← kr]; omega)), (show (r33 : Int32).toInt = 1 from by omega), ⟨by omega, by omega⟩, rfl⟩, by rw [ht9]; exact hP9, hD9⟩, hS.F ht9⟩) hS.2.2 dX3_settleByNearest_83
set_option maxHeartbeats 4000000 in
set_option maxRecDepth 100000 in
/-- X3_middleLook -/
theorem c_X3_middleLook_w (l : Launch) (dC : Nat → ClassId) (dI : Nat → Nat → Nat) (h : Nat) (g : Nat → Nat → Nat) (ca : Nat → Nat → ClassId) (iv : Nat → Nat → Int32) (lv : Nat → Nat → Int64) (fa : Nat → Nat → Nat → Int32) (la : Nat → Nat → Nat → Int64) (hI : IX iv fa) : Met l yX3_middleLook (wc yX3_middleLook cX3_middleLook 3 (some .int)) ({ frames := 1, cells := 0, slots := 0, locals := 22 } : Room) (pR (dC, dI) classes (WX h g ca iv lv fa la) (TX ca) [.ref (g 11 5)]) (vp_Si (fun r => (0 ≤ r.toInt ∧ r.toInt ≤ 2) ∧ (r.toInt = ((mdN (la 30 1) (la 30 0) : Nat) : Int)))) 0 0 (fun _ => False) := by
  refine Met.ofW (cc := cX3_middleLook) (maxL := 3) (ret := (some .int)) (by decide) rfl ?_
  intro p e s m args below meth c s₁ B hml hv
  obtain ⟨rfl, hP, hK⟩ := hv
  have hx := B.exec
  have hb := B.bytes
  have hr := B.returns
  have ht := tb_tl (atoms_spec (ws := wc yX3_middleLook cX3_middleLook 3 (some .int)) B.pre)
  have hown : s.vm.findClass RX3 = some m.cls := findClass_of_methodNamed B.named
  have hlocks := B.notSynchronized
  have hl := lv_entry [.ref (g 11 5)] (n := 3) (Nat.le_of_ble_eq_true rfl)
  rw [lg_entry_eq]
  generalize (lg_sl [.ref (g 11 5)] ++ List.replicate (3 - (lg_sl [.ref (g 11 5)]).length) Slot.unset).toArray = ls at hl ⊢
  have hl : lv_has ls 3 [(0, .ref (g 11 5))] := hl
  refine lv_aload_n hx hb dX3_middleLook_0 rfl (lv_at hl 0 rfl) ?_
  refine lv_iconst (v := 0) hx hb dX3_middleLook_1 (by decide) ?_
  refine lv_iconst (v := 1) hx hb dX3_middleLook_2 (by decide) ?_
  refine vp_callSi (W.runV (As := [.int 0, .int 1]) (rest := []) ⟨hx, hb, hml, hown, ht⟩ (c_X3_lesserOf_w l dC dI h g ca iv lv fa la hI 0 1 ⟨by decide, by decide⟩ ⟨by decide, by decide⟩) (kV 2 ht m_638 m_640 m_11 m_83 m_641 rfl rfl hd_X3_lesserOf_v ⟨Nat.le_of_ble_eq_true rfl, Nat.le_of_ble_eq_true rfl⟩) (vR hP hK (rX_3 hK hP)) rfl rfl hl.1 rfl (lv_room (Nat.le_of_ble_eq_true rfl)) dX3_middleLook_3 ⟨Nat.le_of_ble_eq_true rfl, Nat.le_of_ble_eq_true rfl⟩) (fun r1 hr1 => ?_)
  obtain ⟨hr1, xr1_0, xr1_1⟩ := hr1
  have : (0 : Int32).toInt = 0 := (by decide)
  have : (1 : Int32).toInt = 1 := (by decide)
  have xr1_0 : (r1 : Int32).toInt = ((lsN (la 30 1) (la 30 0) ((0 : Int32).toInt).toNat ((1 : Int32).toInt).toNat : Nat) : Int) := xr1_0
  have xr1_1 : ((r1 : Int32).toInt = (0 : Int32).toInt ∨ (r1 : Int32).toInt = (1 : Int32).toInt) := xr1_1
  refine lv_istore_n (lv' := [(1, .int r1), (0, .ref (g 11 5))]) hx hb dX3_middleLook_6 rfl hl (by decide) rfl (fun ls hl => ?_)
  refine lv_iconst (v := 1) hx hb dX3_middleLook_7 (by decide) ?_
  refine lv_iload_n hx hb dX3_middleLook_8 rfl (lv_at hl 0 rfl) ?_
  refine lv_isub hx hb dX3_middleLook_9 ?_
  refine lv_topi (fun v2 ev2 => ?_)
  have tv2 := z_sub ev2 (by decide : (1 : Int32).toInt = 1) (rfl : (r1).toInt = _) (by omega) (by omega)
  refine lv_istore_n (lv' := [(2, .int v2), (1, .int r1), (0, .ref (g 11 5))]) hx hb dX3_middleLook_10 rfl hl (by decide) rfl (fun ls hl => ?_)
  refine lv_aload_n hx hb dX3_middleLook_11 rfl (lv_at hl 2 rfl) ?_
  refine lv_iload_n hx hb dX3_middleLook_12 rfl (lv_at hl 1 rfl) ?_
  refine lv_iconst (v := 2) hx hb dX3_middleLook_13 (by decide) ?_
  refine vp_callSi (W.runV (As := [.int r1, .int 2]) (rest := []) ⟨hx, hb, hml, hown, ht⟩ (c_X3_lesserOf_w l dC dI h g ca iv lv fa la hI r1 2 ⟨by omega, by omega⟩ ⟨by decide, by decide⟩) (kV 2 ht m_638 m_640 m_11 m_83 m_641 rfl rfl hd_X3_lesserOf_v ⟨Nat.le_of_ble_eq_true rfl, Nat.le_of_ble_eq_true rfl⟩) (vR hP hK (rX_3 hK hP)) rfl rfl hl.1 rfl (lv_room (Nat.le_of_ble_eq_true rfl)) dX3_middleLook_14 ⟨Nat.le_of_ble_eq_true rfl, Nat.le_of_ble_eq_true rfl⟩) (fun r3 hr3 => ?_)
  obtain ⟨hr3, xr3_0, xr3_1⟩ := hr3
  have : (2 : Int32).toInt = 2 := (by decide)
  have xr3_0 : (r3 : Int32).toInt = ((lsN (la 30 1) (la 30 0) ((r1 : Int32).toInt).toNat ((2 : Int32).toInt).toNat : Nat) : Int) := xr3_0
  have xr3_1 : ((r3 : Int32).toInt = (r1 : Int32).toInt ∨ (r3 : Int32).toInt = (2 : Int32).toInt) := xr3_1
  refine lv_iconst (v := 2) hx hb dX3_middleLook_17 (by decide) ?_
  refine lv_icmp_ne (tgt := 23) hx hb dX3_middleLook_18 (by decide) (fun c4 => ?_) (fun c4 => ?_)
  · have fc4 := z_ne (rfl : (r3).toInt = _) (by decide : (2 : Int32).toInt = 2) c4
    refine lv_aload_n hx hb dX3_middleLook_23 rfl (lv_at hl 2 rfl) ?_
    refine lv_iload_n hx hb dX3_middleLook_24 rfl (lv_at hl 0 rfl) ?_
    refine lv_iconst (v := 2) hx hb dX3_middleLook_25 (by decide) ?_
    have : 0 ≤ (v2 : Int32).toInt ∧ (v2 : Int32).toInt ≤ 2 := ⟨by omega, by omega⟩
    refine vp_callSi (W.runV (As := [.int v2, .int 2]) (rest := []) ⟨hx, hb, hml, hown, ht⟩ (c_X3_lesserOf_w l dC dI h g ca iv lv fa la hI v2 2 ⟨by omega, by omega⟩ ⟨by decide, by decide⟩) (kV 2 ht m_638 m_640 m_11 m_83 m_641 rfl rfl hd_X3_lesserOf_v ⟨Nat.le_of_ble_eq_true rfl, Nat.le_of_ble_eq_true rfl⟩) (vR hP hK (rX_3 hK hP)) rfl rfl hl.1 rfl (lv_room (Nat.le_of_ble_eq_true rfl)) dX3_middleLook_26 ⟨Nat.le_of_ble_eq_true rfl, Nat.le_of_ble_eq_true rfl⟩) (fun r5 hr5 => ?_)
    obtain ⟨hr5, xr5_0, xr5_1⟩ := hr5
    have xr5_0 : (r5 : Int32).toInt = ((lsN (la 30 1) (la 30 0) ((v2 : Int32).toInt).toNat ((2 : Int32).toInt).toNat : Nat) : Int) := xr5_0
    have xr5_1 : ((r5 : Int32).toInt = (v2 : Int32).toInt ∨ (r5 : Int32).toInt = (2 : Int32).toInt) := xr5_1
    refine lv_iconst (v := 2) hx hb dX3_middleLook_29 (by decide) ?_
    refine lv_icmp_ne (tgt := 37) hx hb dX3_middleLook_30 (by decide) (fun c6 => ?_) (fun c6 => ?_)
    · have fc6 := z_ne (rfl : (r5).toInt = _) (by decide : (2 : Int32).toInt = 2) c6
      refine lv_iload_n hx hb dX3_middleLook_37 rfl (lv_at hl 0 rfl) ?_
      exact W.iret (v := v2) hx hb hr (fun t ht9 hW => ⟨v2, rfl, ⟨⟨by omega, by omega⟩, (show (v2 : Int32).toInt = ((mdN (la 30 1) (la 30 0) : Nat) : Int) from (by have h1 : (r1 : Int32).toInt = ((lsN (la 30 1) (la 30 0) 0 1 : Nat) : Int) := xr1_0; have h0 : (r1 : Int32).toInt.toNat = lsN (la 30 1) (la 30 0) 0 1 := (by omega); have h2 : (r3 : Int32).toInt = ((lsN (la 30 1) (la 30 0) (r1 : Int32).toInt.toNat 2 : Nat) : Int) := xr3_0; rw [h0] at h2; have h4 : (v2 : Int32).toInt.toNat = 1 - lsN (la 30 1) (la 30 0) 0 1 := (by omega); have h3 : (r5 : Int32).toInt = ((lsN (la 30 1) (la 30 0) (v2 : Int32).toInt.toNat 2 : Nat) : Int) := xr5_0; rw [h4] at h3; unfold mdN; rw [if_neg (by omega), if_neg (by omega)]; omega))⟩, ht9⟩) (fun q hq => by cases hq) dX3_middleLook_38
    · have fc6 := z_eq (rfl : (r5).toInt = _) (by decide : (2 : Int32).toInt = 2) c6
      refine lv_iconst (v := 2) hx hb dX3_middleLook_33 (by decide) ?_
      refine lv_goto (tgt := 38) hx hb dX3_middleLook_34 (by decide) ?_
      exact W.iret (v := 2) hx hb hr (fun t ht9 hW => ⟨2, rfl, ⟨⟨by decide, by decide⟩, (show (2 : Int32).toInt = ((mdN (la 30 1) (la 30 0) : Nat) : Int) from (by have h1 : (r1 : Int32).toInt = ((lsN (la 30 1) (la 30 0) 0 1 : Nat) : Int) := xr1_0; have h0 : (r1 : Int32).toInt.toNat = lsN (la 30 1) (la 30 0) 0 1 := (by omega); have h2 : (r3 : Int32).toInt = ((lsN (la 30 1) (la 30 0) (r1 : Int32).toInt.toNat 2 : Nat) : Int) := xr3_0; rw [h0] at h2; have h4 : (v2 : Int32).toInt.toNat = 1 - lsN (la 30 1) (la 30 0) 0 1 := (by omega); have h3 : (r5 : Int32).toInt = ((lsN (la 30 1) (la 30 0) (v2 : Int32).toInt.toNat 2 : Nat) : Int) := xr5_0; rw [h4] at h3; unfold mdN; rw [if_neg (by omega), if_pos (by omega)]; omega))⟩, ht9⟩) (fun q hq => by cases hq) dX3_middleLook_38
  · have fc4 := z_eq (rfl : (r3).toInt = _) (by decide : (2 : Int32).toInt = 2) c4
    refine lv_iload_n hx hb dX3_middleLook_21 rfl (lv_at hl 1 rfl) ?_
    exact W.iret (v := r1) hx hb hr (fun t ht9 hW => ⟨r1, rfl, ⟨⟨by omega, by omega⟩, (show (r1 : Int32).toInt = ((mdN (la 30 1) (la 30 0) : Nat) : Int) from (by have h1 : (r1 : Int32).toInt = ((lsN (la 30 1) (la 30 0) 0 1 : Nat) : Int) := xr1_0; have h0 : (r1 : Int32).toInt.toNat = lsN (la 30 1) (la 30 0) 0 1 := (by omega); have h2 : (r3 : Int32).toInt = ((lsN (la 30 1) (la 30 0) (r1 : Int32).toInt.toNat 2 : Nat) : Int) := xr3_0; rw [h0] at h2; rw [show mdN (la 30 1) (la 30 0) = lsN (la 30 1) (la 30 0) 0 1 from if_pos (by omega)]; omega))⟩, ht9⟩) (fun q hq => by cases hq) dX3_middleLook_22
set_option maxHeartbeats 4000000 in
set_option maxRecDepth 100000 in
/-- X3_settleByThree -/
theorem c_X3_settleByThree_w (l : Launch) (dC : Nat → ClassId) (dI : Nat → Nat → Nat) (sz : Nat) (h : Nat) (g : Nat → Nat → Nat) (ca : Nat → Nat → ClassId) (iv : Nat → Nat → Int32) (lv : Nat → Nat → Int64) (fa : Nat → Nat → Nat → Int32) (la : Nat → Nat → Nat → Int64) (hI : IX iv fa) (a : Int32) : Met l yX3_settleByThree (wc yX3_settleByThree cX3_settleByThree 3 (some .int)) ({ frames := 2, cells := 0, slots := 0, locals := 66 } : Room) (pW (dC, dI) classes (WX h g ca iv lv fa la) (TX ca) sz [.ref (g 11 5), .int a]) (va_Qi (fun r (u : SS) => ∃ (ni_3_3 : Int32) (ni_3_4 : Int32), inb (bI 3 3) ni_3_3 ∧ inb (bI 3 4) ni_3_4 ∧ (thX (la 30 1) (la 30 0) (ni_3_3).toInt (ni_3_4).toInt a.toInt) ∧ (r.toInt = 1) ∧ (1 ≤ r.toInt ∧ r.toInt ≤ 1) ∧ u = ((u2 (u2 iv 3 3 ni_3_3) 3 4 ni_3_4), lv, fa, la)) (bX (dC, dI) h g ca (va_A (WX h g ca iv lv fa la) sz)) (va_A (WX h g ca iv lv fa la) sz)) 0 0 (va_A (WX h g ca iv lv fa la) sz) := by
  refine Met.ofW (cc := cX3_settleByThree) (maxL := 3) (ret := (some .int)) (by decide) rfl ?_
  intro p e s m args below meth c s₁ B hml hv
  obtain ⟨rfl, hsz, hP, hK, hD0⟩ := hv
  have hx := B.exec
  have hb := B.bytes
  have hr := B.returns
  have ht := tb_tl (atoms_spec (ws := wc yX3_settleByThree cX3_settleByThree 3 (some .int)) B.pre)
  have hown : s.vm.findClass RX3 = some m.cls := findClass_of_methodNamed B.named
  have hlocks := B.notSynchronized
  subst hsz
  have hD := hD0.self (sz := s.heap.size)
  generalize hAe : va_A (WX h g ca iv lv fa la) s.heap.size = A at hD ⊢
  have hA : ∀ q : Nat, s.heap.size ≤ q → A q := fun q h => by rw [← hAe]; exact Or.inr h
  have hS : va_S A s.heap s.heap [] := va_S.rf
  have hl := lv_entry [.ref (g 11 5), .int a] (n := 3) (Nat.le_of_ble_eq_true rfl)
  rw [lg_entry_eq]
  generalize (lg_sl [.ref (g 11 5), .int a] ++ List.replicate (3 - (lg_sl [.ref (g 11 5), .int a]).length) Slot.unset).toArray = ls at hl ⊢
  have hl : lv_has ls 3 [(0, .ref (g 11 5)), (1, .int a)] := hl
  refine lv_iload_n hx hb dX3_settleByThree_0 rfl (lv_at hl 1 rfl) ?_
  refine lv_iconst (v := 1) hx hb dX3_settleByThree_1 (by decide) ?_
  refine lv_icmp_ne (tgt := 24) hx hb dX3_settleByThree_2 (by decide) (fun c1 => ?_) (fun c1 => ?_)
  · have fc1 := z_ne (rfl : (a).toInt = _) (by decide : (1 : Int32).toInt = 1) c1
    refine lv_iload_n hx hb dX3_settleByThree_24 rfl (lv_at hl 1 rfl) ?_
    refine lv_iconst (v := 2) hx hb dX3_settleByThree_25 (by decide) ?_
    refine lv_icmp_ne (tgt := 41) hx hb dX3_settleByThree_26 (by decide) (fun c2 => ?_) (fun c2 => ?_)
    · have fc2 := z_ne (rfl : (a).toInt = _) (by decide : (2 : Int32).toInt = 2) c2
      refine lv_aload_n hx hb dX3_settleByThree_41 rfl (lv_at hl 0 rfl) ?_
      have hFc := free_all hD hS hA
      refine va_calli (va_runV (As := []) (rest := []) ⟨hx, hb, hml, hown, ht⟩ (c_X3_settleByNearest_w l dC dI s.heap.size h g ca iv lv fa la hI) (kV 0 ht m_650 m_652 m_14 m_83 m_653 rfl rfl hd_X3_settleByNearest_v ⟨Nat.le_of_ble_eq_true rfl, Nat.le_of_ble_eq_true rfl⟩) (vW hP hK hD (rX_3 hK hP)) rfl rfl hl.1 rfl (lv_room (Nat.le_of_ble_eq_true rfl)) dX3_settleByThree_42 ⟨Nat.le_of_ble_eq_true rfl, Nat.le_of_ble_eq_true rfl⟩) hS (fun q _ h => hFc q h) hFc (fun r3 u t H1 locs ht9 hvm hr3 hB hz1 hk1 hS => ?_)
      obtain ⟨n4, n5, hn4, hn5, xr3_0, xr3_1, hr3, rfl⟩ := hr3
      have hn4 : 0 ≤ n4.toInt ∧ n4.toInt ≤ 2 := hn4
      have hn5 : 0 ≤ n5.toInt ∧ n5.toInt ≤ 2 := hn5
      obtain ⟨hP, hD⟩ := hB
      rw [ht9] at hP
      generalize H1 = H at hP hS ⊢
      have hP : va_P (dC, dI) classes (WX h g ca (u2 (u2 iv 3 3 n4) 3 4 n5) lv fa la) H := hP
      have hD : va_D A (WX h g ca (u2 (u2 iv 3 3 n4) 3 4 n5) lv fa la) := (show va_D _ (WX h g ca (u2 (u2 iv 3 3 n4) 3 4 n5) lv fa la) from hD).weaken (fun _ _ _ h => hFc _ h)
      have xr3_0 : nrR ((la 30 1) 0 * (la 30 0) 1 * (la 30 0) 2) ((la 30 1) 1 * (la 30 0) 2 * (la 30 0) 0) ((la 30 1) 2 * (la 30 0) 0 * (la 30 0) 1) (n4 : Int32).toInt (n5 : Int32).toInt := xr3_0
      have xr3_1 : (r3 : Int32).toInt = 1 := xr3_1
      have hP9 : va_P (dC, dI) classes (WX h g ca (u2 (u2 iv 3 3 n4) 3 4 n5) lv fa la) H := hP
      have hD9 : va_D A (WX h g ca (u2 (u2 iv 3 3 n4) 3 4 n5) lv fa la) := hD
      exact W.iret (v := r3) hx hb hr (fun t ht9 hW => ⟨⟨r3, ((u2 (u2 iv 3 3 n4) 3 4 n5), lv, fa, la), rfl, ⟨n4, n5, (show inb (0, 2) n4 from ⟨by omega, by omega⟩), (show inb (0, 2) n5 from ⟨by omega, by omega⟩), (show thX (la 30 1) (la 30 0) (n4 : Int32).toInt (n5 : Int32).toInt (a).toInt from (by unfold thX; exact Or.inr (Or.inr ⟨by omega, by omega, xr3_0⟩))), (show (r3 : Int32).toInt = 1 from by omega), ⟨by omega, by omega⟩, rfl⟩, by rw [ht9]; exact hP9, hD9⟩, hS.F ht9⟩) hS.2.2 dX3_settleByThree_45
    · have fc2 := z_eq (rfl : (a).toInt = _) (by decide : (2 : Int32).toInt = 2) c2
      refine lv_aload_n hx hb dX3_settleByThree_29 rfl (lv_at hl 0 rfl) ?_
      refine vp_callSi (W.runV (As := []) (rest := []) ⟨hx, hb, hml, hown, ht⟩ (c_X3_middleLook_w l dC dI h g ca iv lv fa la hI) (kV 0 ht m_646 m_648 m_13 m_83 m_649 rfl rfl hd_X3_middleLook_v ⟨Nat.le_of_ble_eq_true rfl, Nat.le_of_ble_eq_true rfl⟩) (vR hP hK (rX_3 hK hP)) rfl rfl hl.1 rfl (lv_room (Nat.le_of_ble_eq_true rfl)) dX3_settleByThree_30 ⟨Nat.le_of_ble_eq_true rfl, Nat.le_of_ble_eq_true rfl⟩) (fun r6 hr6 => ?_)
      obtain ⟨hr6, xr6_0⟩ := hr6
      have xr6_0 : (r6 : Int32).toInt = ((mdN (la 30 1) (la 30 0) : Nat) : Int) := xr6_0
      refine lv_istore_n (lv' := [(2, .int r6), (0, .ref (g 11 5)), (1, .int a)]) hx hb dX3_settleByThree_33 rfl hl (by decide) rfl (fun ls hl => ?_)
      refine lv_aload_n hx hb dX3_settleByThree_34 rfl (lv_at hl 1 rfl) ?_
      refine lv_iload_n hx hb dX3_settleByThree_35 rfl (lv_at hl 0 rfl) ?_
      refine lv_iload_n hx hb dX3_settleByThree_36 rfl (lv_at hl 0 rfl) ?_
      have hFc := free_all hD hS hA
      refine va_calli (va_runV (As := [.int r6, .int r6]) (rest := []) ⟨hx, hb, hml, hown, ht⟩ (c_X3_settle_w l dC dI s.heap.size h g ca iv lv fa la hI r6 r6 ⟨by omega, by omega⟩ ⟨by omega, by omega⟩) (kV 2 ht m_622 m_624 m_9 m_83 m_625 rfl rfl hd_X3_settle_v ⟨Nat.le_of_ble_eq_true rfl, Nat.le_of_ble_eq_true rfl⟩) (vW hP hK hD (rX_3 hK hP)) rfl rfl hl.1 rfl (lv_room (Nat.le_of_ble_eq_true rfl)) dX3_settleByThree_37 ⟨Nat.le_of_ble_eq_true rfl, Nat.le_of_ble_eq_true rfl⟩) hS (fun q _ h => hFc q h) hFc (fun r7 u t H1 locs ht9 hvm hr7 hB hz1 hk1 hS => ?_)
      obtain ⟨n8, n9, hn8, hn9, xr7_0, xr7_1, xr7_2, hr7, rfl⟩ := hr7
      have hn8 : 0 ≤ n8.toInt ∧ n8.toInt ≤ 2 := hn8
      have hn9 : 0 ≤ n9.toInt ∧ n9.toInt ≤ 2 := hn9
      obtain ⟨hP, hD⟩ := hB
      rw [ht9] at hP
      generalize H1 = H at hP hS ⊢
      have hP : va_P (dC, dI) classes (WX h g ca (u2 (u2 iv 3 3 n8) 3 4 n9) lv fa la) H := hP
      have hD : va_D A (WX h g ca (u2 (u2 iv 3 3 n8) 3 4 n9) lv fa la) := (show va_D _ (WX h g ca (u2 (u2 iv 3 3 n8) 3 4 n9) lv fa la) from hD).weaken (fun _ _ _ h => hFc _ h)
      have xr7_0 : (n8 : Int32).toInt = (r6 : Int32).toInt := xr7_0
      have xr7_1 : (n9 : Int32).toInt = (r6 : Int32).toInt := xr7_1
      have xr7_2 : (r7 : Int32).toInt = 1 := xr7_2
      have hP9 : va_P (dC, dI) classes (WX h g ca (u2 (u2 iv 3 3 n8) 3 4 n9) lv fa la) H := hP
      have hD9 : va_D A (WX h g ca (u2 (u2 iv 3 3 n8) 3 4 n9) lv fa la) := hD
      exact W.iret (v := r7) hx hb hr (fun t ht9 hW => ⟨⟨r7, ((u2 (u2 iv 3 3 n8) 3 4 n9), lv, fa, la), rfl, ⟨n8, n9, (show inb (0, 2) n8 from ⟨by omega, by omega⟩), (show inb (0, 2) n9 from ⟨by omega, by omega⟩), (show thX (la 30 1) (la 30 0) (n8 : Int32).toInt (n9 : Int32).toInt (a).toInt from (by have h2 := xr6_0; unfold thX; exact Or.inr (Or.inl ⟨by omega, by omega, by omega⟩))), (show (r7 : Int32).toInt = 1 from by omega), ⟨by omega, by omega⟩, rfl⟩, by rw [ht9]; exact hP9, hD9⟩, hS.F ht9⟩) hS.2.2 dX3_settleByThree_40
  · have fc1 := z_eq (rfl : (a).toInt = _) (by decide : (1 : Int32).toInt = 1) c1
    refine lv_aload_n hx hb dX3_settleByThree_5 rfl (lv_at hl 0 rfl) ?_
    refine lv_aload_n hx hb dX3_settleByThree_6 rfl (lv_at hl 0 rfl) ?_
    refine lv_iconst (v := 0) hx hb dX3_settleByThree_7 (by decide) ?_
    refine lv_iconst (v := 1) hx hb dX3_settleByThree_8 (by decide) ?_
    refine vp_callSi (W.runV (As := [.int 0, .int 1]) (rest := [.ref (g 11 5)]) ⟨hx, hb, hml, hown, ht⟩ (c_X3_lesserOf_w l dC dI h g ca iv lv fa la hI 0 1 ⟨by decide, by decide⟩ ⟨by decide, by decide⟩) (kV 2 ht m_638 m_640 m_11 m_83 m_641 rfl rfl hd_X3_lesserOf_v ⟨Nat.le_of_ble_eq_true rfl, Nat.le_of_ble_eq_true rfl⟩) (vR hP hK (rX_3 hK hP)) rfl rfl hl.1 rfl (lv_room (Nat.le_of_ble_eq_true rfl)) dX3_settleByThree_9 ⟨Nat.le_of_ble_eq_true rfl, Nat.le_of_ble_eq_true rfl⟩) (fun r10 hr10 => ?_)
    obtain ⟨hr10, xr10_0, xr10_1⟩ := hr10
    have : (0 : Int32).toInt = 0 := (by decide)
    have : (1 : Int32).toInt = 1 := (by decide)
    have xr10_0 : (r10 : Int32).toInt = ((lsN (la 30 1) (la 30 0) ((0 : Int32).toInt).toNat ((1 : Int32).toInt).toNat : Nat) : Int) := xr10_0
    have xr10_1 : ((r10 : Int32).toInt = (0 : Int32).toInt ∨ (r10 : Int32).toInt = (1 : Int32).toInt) := xr10_1
    refine lv_iconst (v := 2) hx hb dX3_settleByThree_12 (by decide) ?_
    refine vp_callSi (W.runV (As := [.int r10, .int 2]) (rest := []) ⟨hx, hb, hml, hown, ht⟩ (c_X3_lesserOf_w l dC dI h g ca iv lv fa la hI r10 2 ⟨by omega, by omega⟩ ⟨by decide, by decide⟩) (kV 2 ht m_638 m_640 m_11 m_83 m_641 rfl rfl hd_X3_lesserOf_v ⟨Nat.le_of_ble_eq_true rfl, Nat.le_of_ble_eq_true rfl⟩) (vR hP hK (rX_3 hK hP)) rfl rfl hl.1 rfl (lv_room (Nat.le_of_ble_eq_true rfl)) dX3_settleByThree_13 ⟨Nat.le_of_ble_eq_true rfl, Nat.le_of_ble_eq_true rfl⟩) (fun r11 hr11 => ?_)
    obtain ⟨hr11, xr11_0, xr11_1⟩ := hr11
    have : (2 : Int32).toInt = 2 := (by decide)
    have xr11_0 : (r11 : Int32).toInt = ((lsN (la 30 1) (la 30 0) ((r10 : Int32).toInt).toNat ((2 : Int32).toInt).toNat : Nat) : Int) := xr11_0
    have xr11_1 : ((r11 : Int32).toInt = (r10 : Int32).toInt ∨ (r11 : Int32).toInt = (2 : Int32).toInt) := xr11_1
    refine lv_istore_n (lv' := [(2, .int r11), (0, .ref (g 11 5)), (1, .int a)]) hx hb dX3_settleByThree_16 rfl hl (by decide) rfl (fun ls hl => ?_)
    refine lv_aload_n hx hb dX3_settleByThree_17 rfl (lv_at hl 1 rfl) ?_
    refine lv_iload_n hx hb dX3_settleByThree_18 rfl (lv_at hl 0 rfl) ?_
    refine lv_iload_n hx hb dX3_settleByThree_19 rfl (lv_at hl 0 rfl) ?_
    have hFc := free_all hD hS hA
    refine va_calli (va_runV (As := [.int r11, .int r11]) (rest := []) ⟨hx, hb, hml, hown, ht⟩ (c_X3_settle_w l dC dI s.heap.size h g ca iv lv fa la hI r11 r11 ⟨by omega, by omega⟩ ⟨by omega, by omega⟩) (kV 2 ht m_622 m_624 m_9 m_83 m_625 rfl rfl hd_X3_settle_v ⟨Nat.le_of_ble_eq_true rfl, Nat.le_of_ble_eq_true rfl⟩) (vW hP hK hD (rX_3 hK hP)) rfl rfl hl.1 rfl (lv_room (Nat.le_of_ble_eq_true rfl)) dX3_settleByThree_20 ⟨Nat.le_of_ble_eq_true rfl, Nat.le_of_ble_eq_true rfl⟩) hS (fun q _ h => hFc q h) hFc (fun r12 u t H1 locs ht9 hvm hr12 hB hz1 hk1 hS => ?_)
    obtain ⟨n13, n14, hn13, hn14, xr12_0, xr12_1, xr12_2, hr12, rfl⟩ := hr12
    have hn13 : 0 ≤ n13.toInt ∧ n13.toInt ≤ 2 := hn13
    have hn14 : 0 ≤ n14.toInt ∧ n14.toInt ≤ 2 := hn14
    obtain ⟨hP, hD⟩ := hB
    rw [ht9] at hP
    generalize H1 = H at hP hS ⊢
    have hP : va_P (dC, dI) classes (WX h g ca (u2 (u2 iv 3 3 n13) 3 4 n14) lv fa la) H := hP
    have hD : va_D A (WX h g ca (u2 (u2 iv 3 3 n13) 3 4 n14) lv fa la) := (show va_D _ (WX h g ca (u2 (u2 iv 3 3 n13) 3 4 n14) lv fa la) from hD).weaken (fun _ _ _ h => hFc _ h)
    have xr12_0 : (n13 : Int32).toInt = (r11 : Int32).toInt := xr12_0
    have xr12_1 : (n14 : Int32).toInt = (r11 : Int32).toInt := xr12_1
    have xr12_2 : (r12 : Int32).toInt = 1 := xr12_2
    have hP9 : va_P (dC, dI) classes (WX h g ca (u2 (u2 iv 3 3 n13) 3 4 n14) lv fa la) H := hP
    have hD9 : va_D A (WX h g ca (u2 (u2 iv 3 3 n13) 3 4 n14) lv fa la) := hD
    exact W.iret (v := r12) hx hb hr (fun t ht9 hW => ⟨⟨r12, ((u2 (u2 iv 3 3 n13) 3 4 n14), lv, fa, la), rfl, ⟨n13, n14, (show inb (0, 2) n13 from ⟨by omega, by omega⟩), (show inb (0, 2) n14 from ⟨by omega, by omega⟩), (show thX (la 30 1) (la 30 0) (n13 : Int32).toInt (n14 : Int32).toInt (a).toInt from (by have h1 : (r10 : Int32).toInt = ((lsN (la 30 1) (la 30 0) 0 1 : Nat) : Int) := xr10_0; have h0 : (r10 : Int32).toInt.toNat = lsN (la 30 1) (la 30 0) 0 1 := (by omega); have h2 : (r11 : Int32).toInt = ((lsN (la 30 1) (la 30 0) (r10 : Int32).toInt.toNat 2 : Nat) : Int) := xr11_0; rw [h0] at h2; unfold thX; exact Or.inl ⟨by omega, by omega, by omega⟩)), (show (r12 : Int32).toInt = 1 from by omega), ⟨by omega, by omega⟩, rfl⟩, by rw [ht9]; exact hP9, hD9⟩, hS.F ht9⟩) hS.2.2 dX3_settleByThree_23
