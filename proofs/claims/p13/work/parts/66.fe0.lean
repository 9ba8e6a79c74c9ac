/-! ===== fe0 ===== -/
/-- the byte that the class takes, and the reference's -/
def xb (a : Int64) (y : Int32) : Int32 := vp_nar .byte ((a.toUInt64 >>> (y.toInt64.toUInt64 &&& Int64.toUInt64 63)).toInt64.toInt32.toInt8.toInt32)
def yb (a : Int64) (y : Int32) : Int32 := ((a >>> (y.toInt64 &&& 63)) &&& 255).toInt32
theorem bz2 {z : Nat} : Int.bmod (Int.bmod ((z % 256 : Nat) : Int) (2 ^ 64)) (2 ^ 32) = ((z % 256 : Nat) : Int) := by
  rw [Int.bmod_def, Int.bmod_def]; omega
theorem bz3 {z : Nat} : Int.bmod (z : Int) 256 = sg ((z % 256 : Nat) : Int) ∧ 0 ≤ ((z % 256 : Nat) : Int) := by
  have hg := sg_i ((z % 256 : Nat) : Int)
  rw [Int.bmod_def]
  exact ⟨by omega, by omega⟩
theorem bz1_0 {zN zM : Nat} (v5 : Int.bmod (zN : Int) (2 ^ 64) / ((2 ^ 0 : Nat) : Int) = Int.bmod (zM : Int) (2 ^ 64)) : zM % 256 = zN / 2 ^ 0 % 256 := by
  rw [Int.bmod_def, Int.bmod_def] at v5
  omega
theorem bz1_1 {zN zM : Nat} (v5 : Int.bmod (zN : Int) (2 ^ 64) / ((2 ^ 8 : Nat) : Int) = Int.bmod (zM : Int) (2 ^ 64)) : zM % 256 = zN / 2 ^ 8 % 256 := by
  rw [Int.bmod_def, Int.bmod_def] at v5
  omega
theorem bz1_2 {zN zM : Nat} (v5 : Int.bmod (zN : Int) (2 ^ 64) / ((2 ^ 16 : Nat) : Int) = Int.bmod (zM : Int) (2 ^ 64)) : zM % 256 = zN / 2 ^ 16 % 256 := by
  rw [Int.bmod_def, Int.bmod_def] at v5
  omega
theorem bz1_3 {zN zM : Nat} (v5 : Int.bmod (zN : Int) (2 ^ 64) / ((2 ^ 24 : Nat) : Int) = Int.bmod (zM : Int) (2 ^ 64)) : zM % 256 = zN / 2 ^ 24 % 256 := by
  rw [Int.bmod_def, Int.bmod_def] at v5
  omega
theorem bz1_4 {zN zM : Nat} (v5 : Int.bmod (zN : Int) (2 ^ 64) / ((2 ^ 32 : Nat) : Int) = Int.bmod (zM : Int) (2 ^ 64)) : zM % 256 = zN / 2 ^ 32 % 256 := by
  rw [Int.bmod_def, Int.bmod_def] at v5
  omega
theorem bz1_5 {zN zM : Nat} (v5 : Int.bmod (zN : Int) (2 ^ 64) / ((2 ^ 40 : Nat) : Int) = Int.bmod (zM : Int) (2 ^ 64)) : zM % 256 = zN / 2 ^ 40 % 256 := by
  rw [Int.bmod_def, Int.bmod_def] at v5
  omega
theorem bz1_6 {zN zM : Nat} (v5 : Int.bmod (zN : Int) (2 ^ 64) / ((2 ^ 48 : Nat) : Int) = Int.bmod (zM : Int) (2 ^ 64)) : zM % 256 = zN / 2 ^ 48 % 256 := by
  rw [Int.bmod_def, Int.bmod_def] at v5
  omega
theorem bz1_7 {zN zM : Nat} (v5 : Int.bmod (zN : Int) (2 ^ 64) / ((2 ^ 56 : Nat) : Int) = Int.bmod (zM : Int) (2 ^ 64)) : zM % 256 = zN / 2 ^ 56 % 256 := by
  rw [Int.bmod_def, Int.bmod_def] at v5
  omega
theorem byt_0 (a : Int64) : (xb a 0).toInt = sg (yb a 0).toInt ∧ 0 ≤ (yb a 0).toInt := by
  obtain ⟨zN, hN⟩ : ∃ zN : Nat, a.toBitVec.toNat = zN := ⟨_, rfl⟩
  have e1 : ((0 : Int32).toInt64.toUInt64 &&& Int64.toUInt64 63) = (0 : UInt64) := by decide
  have u1 : (a.toUInt64 >>> (0 : UInt64)).toNat = zN / 2 ^ 0 := by
    rw [UInt64.toNat_shiftRight]
    show a.toBitVec.toNat >>> 0 = _
    rw [hN]; exact Nat.shiftRight_eq_div_pow zN 0
  have u3 : ((a.toUInt64 >>> (0 : UInt64)).toInt64).toInt = Int.bmod ((zN / 2 ^ 0 : Nat) : Int) (2 ^ 64) := by
    have h := BitVec.toInt_eq_toNat_bmod (a.toUInt64 >>> (0 : UInt64)).toBitVec
    have h2 : (a.toUInt64 >>> (0 : UInt64)).toBitVec.toNat = zN / 2 ^ 0 := u1
    rw [h2] at h; exact h
  have hx : (xb a 0).toInt = Int.bmod (Int.bmod (Int.bmod (Int.bmod ((zN / 2 ^ 0 : Nat) : Int) (2 ^ 64)) (2 ^ 32)) 256) 256 := by
    unfold xb; rw [e1]
    show ((a.toUInt64 >>> (0 : UInt64)).toInt64.toInt32.toInt8.toInt32.toInt8.toInt32).toInt = _
    rw [Int8.toInt_toInt32, Int32.toInt_toInt8, Int8.toInt_toInt32, Int32.toInt_toInt8, Int64.toInt_toInt32, u3]
  have e2 : ((0 : Int32).toInt64 &&& 63) = (0 : Int64) := by decide
  have v1 : (a >>> (0 : Int64)).toBitVec = a.toBitVec.sshiftRight 0 := by
    show a.toBitVec.sshiftRight (((0 : Int64).toBitVec.smod 64).toNat) = _
    rw [show ((0 : Int64).toBitVec.smod 64).toNat = 0 from by decide]
  have v2 : (a >>> (0 : Int64)).toBitVec.toInt = a.toBitVec.toInt / ((2 ^ 0 : Nat) : Int) := by
    rw [v1, BitVec.toInt_sshiftRight]; exact Int.shiftRight_eq_div_pow _ 0
  have v3 := BitVec.toInt_eq_toNat_bmod a.toBitVec
  rw [hN] at v3
  have v4 := BitVec.toInt_eq_toNat_bmod (a >>> (0 : Int64)).toBitVec
  obtain ⟨zM, hM⟩ : ∃ zM : Nat, (a >>> (0 : Int64)).toBitVec.toNat = zM := ⟨_, rfl⟩
  rw [hM, v2, v3] at v4
  have hq : zM % 256 = zN / 2 ^ 0 % 256 := bz1_0 v4
  have v5 : ((a >>> (0 : Int64)) &&& 255).toBitVec.toNat = zM % 256 := by
    show ((a >>> (0 : Int64)).toBitVec &&& (255 : Int64).toBitVec).toNat = _
    rw [BitVec.toNat_and, hM]; exact Nat.and_two_pow_sub_one_eq_mod zM 8
  have v6 : ((a >>> (0 : Int64)) &&& 255).toInt = Int.bmod ((zM % 256 : Nat) : Int) (2 ^ 64) := by
    have h := BitVec.toInt_eq_toNat_bmod ((a >>> (0 : Int64)) &&& 255).toBitVec
    rw [v5] at h; exact h
  have hy : (yb a 0).toInt = Int.bmod (Int.bmod ((zM % 256 : Nat) : Int) (2 ^ 64)) (2 ^ 32) := by
    unfold yb; rw [e2, Int64.toInt_toInt32, v6]
  have hy2 : (yb a 0).toInt = ((zN / 2 ^ 0 % 256 : Nat) : Int) := by
    rw [hy, hq]; exact bz2
  have hx2 : (xb a 0).toInt = Int.bmod ((zN / 2 ^ 0 : Nat) : Int) 256 := by
    rw [hx]
    rw [Int.bmod_bmod_of_dvd (by decide : (256 : Nat) ∣ 256), Int.bmod_bmod_of_dvd (by decide : (256 : Nat) ∣ (2 ^ 32)), Int.bmod_bmod_of_dvd (by decide : (256 : Nat) ∣ (2 ^ 64))]
  rw [hy2, hx2]
  exact bz3
theorem byt_1 (a : Int64) : (xb a 8).toInt = sg (yb a 8).toInt ∧ 0 ≤ (yb a 8).toInt := by
  obtain ⟨zN, hN⟩ : ∃ zN : Nat, a.toBitVec.toNat = zN := ⟨_, rfl⟩
  have e1 : ((8 : Int32).toInt64.toUInt64 &&& Int64.toUInt64 63) = (8 : UInt64) := by decide
  have u1 : (a.toUInt64 >>> (8 : UInt64)).toNat = zN / 2 ^ 8 := by
    rw [UInt64.toNat_shiftRight]
    show a.toBitVec.toNat >>> 8 = _
    rw [hN]; exact Nat.shiftRight_eq_div_pow zN 8
  have u3 : ((a.toUInt64 >>> (8 : UInt64)).toInt64).toInt = Int.bmod ((zN / 2 ^ 8 : Nat) : Int) (2 ^ 64) := by
    have h := BitVec.toInt_eq_toNat_bmod (a.toUInt64 >>> (8 : UInt64)).toBitVec
    have h2 : (a.toUInt64 >>> (8 : UInt64)).toBitVec.toNat = zN / 2 ^ 8 := u1
    rw [h2] at h; exact h
  have hx : (xb a 8).toInt = Int.bmod (Int.bmod (Int.bmod (Int.bmod ((zN / 2 ^ 8 : Nat) : Int) (2 ^ 64)) (2 ^ 32)) 256) 256 := by
    unfold xb; rw [e1]
    show ((a.toUInt64 >>> (8 : UInt64)).toInt64.toInt32.toInt8.toInt32.toInt8.toInt32).toInt = _
    rw [Int8.toInt_toInt32, Int32.toInt_toInt8, Int8.toInt_toInt32, Int32.toInt_toInt8, Int64.toInt_toInt32, u3]
  have e2 : ((8 : Int32).toInt64 &&& 63) = (8 : Int64) := by decide
  have v1 : (a >>> (8 : Int64)).toBitVec = a.toBitVec.sshiftRight 8 := by
    show a.toBitVec.sshiftRight (((8 : Int64).toBitVec.smod 64).toNat) = _
    rw [show ((8 : Int64).toBitVec.smod 64).toNat = 8 from by decide]
  have v2 : (a >>> (8 : Int64)).toBitVec.toInt = a.toBitVec.toInt / ((2 ^ 8 : Nat) : Int) := by
    rw [v1, BitVec.toInt_sshiftRight]; exact Int.shiftRight_eq_div_pow _ 8
  have v3 := BitVec.toInt_eq_toNat_bmod a.toBitVec
  rw [hN] at v3
  have v4 := BitVec.toInt_eq_toNat_bmod (a >>> (8 : Int64)).toBitVec
  obtain ⟨zM, hM⟩ : ∃ zM : Nat, (a >>> (8 : Int64)).toBitVec.toNat = zM := ⟨_, rfl⟩
  rw [hM, v2, v3] at v4
  have hq : zM % 256 = zN / 2 ^ 8 % 256 := bz1_1 v4
  have v5 : ((a >>> (8 : Int64)) &&& 255).toBitVec.toNat = zM % 256 := by
    show ((a >>> (8 : Int64)).toBitVec &&& (255 : Int64).toBitVec).toNat = _
    rw [BitVec.toNat_and, hM]; exact Nat.and_two_pow_sub_one_eq_mod zM 8
  have v6 : ((a >>> (8 : Int64)) &&& 255).toInt = Int.bmod ((zM % 256 : Nat) : Int) (2 ^ 64) := by
    have h := BitVec.toInt_eq_toNat_bmod ((a >>> (8 : Int64)) &&& 255).toBitVec
    rw [v5] at h; exact h
  have hy : (yb a 8).toInt = Int.bmod (Int.bmod ((zM % 256 : Nat) : Int) (2 ^ 64)) (2 ^ 32) := by
    unfold yb; rw [e2, Int64.toInt_toInt32, v6]
  have hy2 : (yb a 8).toInt = ((zN / 2 ^ 8 % 256 : Nat) : Int) := by
    rw [hy, hq]; exact bz2
  have hx2 : (xb a 8).toInt = Int.bmod ((zN / 2 ^ 8 : Nat) : Int) 256 := by
    rw [hx]
    rw [Int.bmod_bmod_of_dvd (by decide : (256 : Nat) ∣ 256), Int.bmod_bmod_of_dvd (by decide : (256 : Nat) ∣ (2 ^ 32)), Int.bmod_bmod_of_dvd (by decide : (256 : Nat) ∣ (2 ^ 64))]
  rw [hy2, hx2]
  exact bz3
theorem byt_2 (a : Int64) : (xb a 16).toInt = sg (yb a 16).toInt ∧ 0 ≤ (yb a 16).toInt := by
  obtain ⟨zN, hN⟩ : ∃ zN : Nat, a.toBitVec.toNat = zN := ⟨_, rfl⟩
  have e1 : ((16 : Int32).toInt64.toUInt64 &&& Int64.toUInt64 63) = (16 : UInt64) := by decide
  have u1 : (a.toUInt64 >>> (16 : UInt64)).toNat = zN / 2 ^ 16 := by
    rw [UInt64.toNat_shiftRight]
    show a.toBitVec.toNat >>> 16 = _
    rw [hN]; exact Nat.shiftRight_eq_div_pow zN 16
  have u3 : ((a.toUInt64 >>> (16 : UInt64)).toInt64).toInt = Int.bmod ((zN / 2 ^ 16 : Nat) : Int) (2 ^ 64) := by
    have h := BitVec.toInt_eq_toNat_bmod (a.toUInt64 >>> (16 : UInt64)).toBitVec
    have h2 : (a.toUInt64 >>> (16 : UInt64)).toBitVec.toNat = zN / 2 ^ 16 := u1
    rw [h2] at h; exact h
  have hx : (xb a 16).toInt = Int.bmod (Int.bmod (Int.bmod (Int.bmod ((zN / 2 ^ 16 : Nat) : Int) (2 ^ 64)) (2 ^ 32)) 256) 256 := by
    unfold xb; rw [e1]
    show ((a.toUInt64 >>> (16 : UInt64)).toInt64.toInt32.toInt8.toInt32.toInt8.toInt32).toInt = _
    rw [Int8.toInt_toInt32, Int32.toInt_toInt8, Int8.toInt_toInt32, Int32.toInt_toInt8, Int64.toInt_toInt32, u3]
  have e2 : ((16 : Int32).toInt64 &&& 63) = (16 : Int64) := by decide
  have v1 : (a >>> (16 : Int64)).toBitVec = a.toBitVec.sshiftRight 16 := by
    show a.toBitVec.sshiftRight (((16 : Int64).toBitVec.smod 64).toNat) = _
    rw [show ((16 : Int64).toBitVec.smod 64).toNat = 16 from by decide]
  have v2 : (a >>> (16 : Int64)).toBitVec.toInt = a.toBitVec.toInt / ((2 ^ 16 : Nat) : Int) := by
    rw [v1, BitVec.toInt_sshiftRight]; exact Int.shiftRight_eq_div_pow _ 16
  have v3 := BitVec.toInt_eq_toNat_bmod a.toBitVec
  rw [hN] at v3
  have v4 := BitVec.toInt_eq_toNat_bmod (a >>> (16 : Int64)).toBitVec
  obtain ⟨zM, hM⟩ : ∃ zM : Nat, (a >>> (16 : Int64)).toBitVec.toNat = zM := ⟨_, rfl⟩
  rw [hM, v2, v3] at v4
  have hq : zM % 256 = zN / 2 ^ 16 % 256 := bz1_2 v4
  have v5 : ((a >>> (16 : Int64)) &&& 255).toBitVec.toNat = zM % 256 := by
    show ((a >>> (16 : Int64)).toBitVec &&& (255 : Int64).toBitVec).toNat = _
    rw [BitVec.toNat_and, hM]; exact Nat.and_two_pow_sub_one_eq_mod zM 8
  have v6 : ((a >>> (16 : Int64)) &&& 255).toInt = Int.bmod ((zM % 256 : Nat) : Int) (2 ^ 64) := by
    have h := BitVec.toInt_eq_toNat_bmod ((a >>> (16 : Int64)) &&& 255).toBitVec
    rw [v5] at h; exact h
  have hy : (yb a 16).toInt = Int.bmod (Int.bmod ((zM % 256 : Nat) : Int) (2 ^ 64)) (2 ^ 32) := by
    unfold yb; rw [e2, Int64.toInt_toInt32, v6]
  have hy2 : (yb a 16).toInt = ((zN / 2 ^ 16 % 256 : Nat) : Int) := by
    rw [hy, hq]; exact bz2
  have hx2 : (xb a 16).toInt = Int.bmod ((zN / 2 ^ 16 : Nat) : Int) 256 := by
    rw [hx]
    rw [Int.bmod_bmod_of_dvd (by decide : (256 : Nat) ∣ 256), Int.bmod_bmod_of_dvd (by decide : (256 : Nat) ∣ (2 ^ 32)), Int.bmod_bmod_of_dvd (by decide : (256 : Nat) ∣ (2 ^ 64))]
  rw [hy2, hx2]
  exact bz3
theorem byt_3 (a : Int64) : (xb a 24).toInt = sg (yb a 24).toInt ∧ 0 ≤ (yb a 24).toInt := by
  obtain ⟨zN, hN⟩ : ∃ zN : Nat, a.toBitVec.toNat = zN := ⟨_, rfl⟩
  have e1 : ((24 : Int32).toInt64.toUInt64 &&& Int64.toUInt64 63) = (24 : UInt64) := by decide
  have u1 : (a.toUInt64 >>> (24 : UInt64)).toNat = zN / 2 ^ 24 := by
    rw [UInt64.toNat_shiftRight]
    show a.toBitVec.toNat >>> 24 = _
    rw [hN]; exact Nat.shiftRight_eq_div_pow zN 24
  have u3 : ((a.toUInt64 >>> (24 : UInt64)).toInt64).toInt = Int.bmod ((zN / 2 ^ 24 : Nat) : Int) (2 ^ 64) := by
    have h := BitVec.toInt_eq_toNat_bmod (a.toUInt64 >>> (24 : UInt64)).toBitVec
    have h2 : (a.toUInt64 >>> (24 : UInt64)).toBitVec.toNat = zN / 2 ^ 24 := u1
    rw [h2] at h; exact h
  have hx : (xb a 24).toInt = Int.bmod (Int.bmod (Int.bmod (Int.bmod ((zN / 2 ^ 24 : Nat) : Int) (2 ^ 64)) (2 ^ 32)) 256) 256 := by
    unfold xb; rw [e1]
    show ((a.toUInt64 >>> (24 : UInt64)).toInt64.toInt32.toInt8.toInt32.toInt8.toInt32).toInt = _
    rw [Int8.toInt_toInt32, Int32.toInt_toInt8, Int8.toInt_toInt32, Int32.toInt_toInt8, Int64.toInt_toInt32, u3]
  have e2 : ((24 : Int32).toInt64 &&& 63) = (24 : Int64) := by decide
  have v1 : (a >>> (24 : Int64)).toBitVec = a.toBitVec.sshiftRight 24 := by
    show a.toBitVec.sshiftRight (((24 : Int64).toBitVec.smod 64).toNat) = _
    rw [show ((24 : Int64).toBitVec.smod 64).toNat = 24 from by decide]
  have v2 : (a >>> (24 : Int64)).toBitVec.toInt = a.toBitVec.toInt / ((2 ^ 24 : Nat) : Int) := by
    rw [v1, BitVec.toInt_sshiftRight]; exact Int.shiftRight_eq_div_pow _ 24
  have v3 := BitVec.toInt_eq_toNat_bmod a.toBitVec
  rw [hN] at v3
  have v4 := BitVec.toInt_eq_toNat_bmod (a >>> (24 : Int64)).toBitVec
  obtain ⟨zM, hM⟩ : ∃ zM : Nat, (a >>> (24 : Int64)).toBitVec.toNat = zM := ⟨_, rfl⟩
  rw [hM, v2, v3] at v4
  have hq : zM % 256 = zN / 2 ^ 24 % 256 := bz1_3 v4
  have v5 : ((a >>> (24 : Int64)) &&& 255).toBitVec.toNat = zM % 256 := by
    show ((a >>> (24 : Int64)).toBitVec &&& (255 : Int64).toBitVec).toNat = _
    rw [BitVec.toNat_and, hM]; exact Nat.and_two_pow_sub_one_eq_mod zM 8
  have v6 : ((a >>> (24 : Int64)) &&& 255).toInt = Int.bmod ((zM % 256 : Nat) : Int) (2 ^ 64) := by
    have h := BitVec.toInt_eq_toNat_bmod ((a >>> (24 : Int64)) &&& 255).toBitVec
    rw [v5] at h; exact h
  have hy : (yb a 24).toInt = Int.bmod (Int.bmod ((zM % 256 : Nat) : Int) (2 ^ 64)) (2 ^ 32) := by
    unfold yb; rw [e2, Int64.toInt_toInt32, v6]
  have hy2 : (yb a 24).toInt = ((zN / 2 ^ 24 % 256 : Nat) : Int) := by
    rw [hy, hq]; exact bz2
  have hx2 : (xb a 24).toInt = Int.bmod ((zN / 2 ^ 24 : Nat) : Int) 256 := by
    rw [hx]
    rw [Int.bmod_bmod_of_dvd (by decide : (256 : Nat) ∣ 256), Int.bmod_bmod_of_dvd (by decide : (256 : Nat) ∣ (2 ^ 32)), Int.bmod_bmod_of_dvd (by decide : (256 : Nat) ∣ (2 ^ 64))]
  rw [hy2, hx2]
  exact bz3
theorem byt_4 (a : Int64) : (xb a 32).toInt = sg (yb a 32).toInt ∧ 0 ≤ (yb a 32).toInt := by
  obtain ⟨zN, hN⟩ : ∃ zN : Nat, a.toBitVec.toNat = zN := ⟨_, rfl⟩
  have e1 : ((32 : Int32).toInt64.toUInt64 &&& Int64.toUInt64 63) = (32 : UInt64) := by decide
  have u1 : (a.toUInt64 >>> (32 : UInt64)).toNat = zN / 2 ^ 32 := by
    rw [UInt64.toNat_shiftRight]
    show a.toBitVec.toNat >>> 32 = _
    rw [hN]; exact Nat.shiftRight_eq_div_pow zN 32
  have u3 : ((a.toUInt64 >>> (32 : UInt64)).toInt64).toInt = Int.bmod ((zN / 2 ^ 32 : Nat) : Int) (2 ^ 64) := by
    have h := BitVec.toInt_eq_toNat_bmod (a.toUInt64 >>> (32 : UInt64)).toBitVec
    have h2 : (a.toUInt64 >>> (32 : UInt64)).toBitVec.toNat = zN / 2 ^ 32 := u1
    rw [h2] at h; exact h
  have hx : (xb a 32).toInt = Int.bmod (Int.bmod (Int.bmod (Int.bmod ((zN / 2 ^ 32 : Nat) : Int) (2 ^ 64)) (2 ^ 32)) 256) 256 := by
    unfold xb; rw [e1]
    show ((a.toUInt64 >>> (32 : UInt64)).toInt64.toInt32.toInt8.toInt32.toInt8.toInt32).toInt = _
    rw [Int8.toInt_toInt32, Int32.toInt_toInt8, Int8.toInt_toInt32, Int32.toInt_toInt8, Int64.toInt_toInt32, u3]
  have e2 : ((32 : Int32).toInt64 &&& 63) = (32 : Int64) := by decide
  have v1 : (a >>> (32 : Int64)).toBitVec = a.toBitVec.sshiftRight 32 := by
    show a.toBitVec.sshiftRight (((32 : Int64).toBitVec.smod 64).toNat) = _
    rw [show ((32 : Int64).toBitVec.smod 64).toNat = 32 from by decide]
  have v2 : (a >>> (32 : Int64)).toBitVec.toInt = a.toBitVec.toInt / ((2 ^ 32 : Nat) : Int) := by
    rw [v1, BitVec.toInt_sshiftRight]; exact Int.shiftRight_eq_div_pow _ 32
  have v3 := BitVec.toInt_eq_toNat_bmod a.toBitVec
  rw [hN] at v3
  have v4 := BitVec.toInt_eq_toNat_bmod (a >>> (32 : Int64)).toBitVec
  obtain ⟨zM, hM⟩ : ∃ zM : Nat, (a >>> (32 : Int64)).toBitVec.toNat = zM := ⟨_, rfl⟩
  rw [hM, v2, v3] at v4
  have hq : zM % 256 = zN / 2 ^ 32 % 256 := bz1_4 v4
  have v5 : ((a >>> (32 : Int64)) &&& 255).toBitVec.toNat = zM % 256 := by
    show ((a >>> (32 : Int64)).toBitVec &&& (255 : Int64).toBitVec).toNat = _
    rw [BitVec.toNat_and, hM]; exact Nat.and_two_pow_sub_one_eq_mod zM 8
  have v6 : ((a >>> (32 : Int64)) &&& 255).toInt = Int.bmod ((zM % 256 : Nat) : Int) (2 ^ 64) := by
    have h := BitVec.toInt_eq_toNat_bmod ((a >>> (32 : Int64)) &&& 255).toBitVec
    rw [v5] at h; exact h
  have hy : (yb a 32).toInt = Int.bmod (Int.bmod ((zM % 256 : Nat) : Int) (2 ^ 64)) (2 ^ 32) := by
    unfold yb; rw [e2, Int64.toInt_toInt32, v6]
  have hy2 : (yb a 32).toInt = ((zN / 2 ^ 32 % 256 : Nat) : Int) := by
    rw [hy, hq]; exact bz2
  have hx2 : (xb a 32).toInt = Int.bmod ((zN / 2 ^ 32 : Nat) : Int) 256 := by
    rw [hx]
    rw [Int.bmod_bmod_of_dvd (by decide : (256 : Nat) ∣ 256), Int.bmod_bmod_of_dvd (by decide : (256 : Nat) ∣ (2 ^ 32)), Int.bmod_bmod_of_dvd (by decide : (256 : Nat) ∣ (2 ^ 64))]
  rw [hy2, hx2]
  exact bz3
theorem byt_5 (a : Int64) : (xb a 40).toInt = sg (yb a 40).toInt ∧ 0 ≤ (yb a 40).toInt := by
  obtain ⟨zN, hN⟩ : ∃ zN : Nat, a.toBitVec.toNat = zN := ⟨_, rfl⟩
  have e1 : ((40 : Int32).toInt64.toUInt64 &&& Int64.toUInt64 63) = (40 : UInt64) := by decide
  have u1 : (a.toUInt64 >>> (40 : UInt64)).toNat = zN / 2 ^ 40 := by
    rw [UInt64.toNat_shiftRight]
    show a.toBitVec.toNat >>> 40 = _
    rw [hN]; exact Nat.shiftRight_eq_div_pow zN 40
  have u3 : ((a.toUInt64 >>> (40 : UInt64)).toInt64).toInt = Int.bmod ((zN / 2 ^ 40 : Nat) : Int) (2 ^ 64) := by
    have h := BitVec.toInt_eq_toNat_bmod (a.toUInt64 >>> (40 : UInt64)).toBitVec
    have h2 : (a.toUInt64 >>> (40 : UInt64)).toBitVec.toNat = zN / 2 ^ 40 := u1
    rw [h2] at h; exact h
  have hx : (xb a 40).toInt = Int.bmod (Int.bmod (Int.bmod (Int.bmod ((zN / 2 ^ 40 : Nat) : Int) (2 ^ 64)) (2 ^ 32)) 256) 256 := by
    unfold xb; rw [e1]
    show ((a.toUInt64 >>> (40 : UInt64)).toInt64.toInt32.toInt8.toInt32.toInt8.toInt32).toInt = _
    rw [Int8.toInt_toInt32, Int32.toInt_toInt8, Int8.toInt_toInt32, Int32.toInt_toInt8, Int64.toInt_toInt32, u3]
  have e2 : ((40 : Int32).toInt64 &&& 63) = (40 : Int64) := by decide
  have v1 : (a >>> (40 : Int64)).toBitVec = a.toBitVec.sshiftRight 40 := by
    show a.toBitVec.sshiftRight (((40 : Int64).toBitVec.smod 64).toNat) = _
    rw [show ((40 : Int64).toBitVec.smod 64).toNat = 40 from by decide]
  have v2 : (a >>> (40 : Int64)).toBitVec.toInt = a.toBitVec.toInt / ((2 ^ 40 : Nat) : Int) := by
    rw [v1, BitVec.toInt_sshiftRight]; exact Int.shiftRight_eq_div_pow _ 40
  have v3 := BitVec.toInt_eq_toNat_bmod a.toBitVec
  rw [hN] at v3
  have v4 := BitVec.toInt_eq_toNat_bmod (a >>> (40 : Int64)).toBitVec
  obtain ⟨zM, hM⟩ : ∃ zM : Nat, (a >>> (40 : Int64)).toBitVec.toNat = zM := ⟨_, rfl⟩
  rw [hM, v2, v3] at v4
  have hq : zM % 256 = zN / 2 ^ 40 % 256 := bz1_5 v4
  have v5 : ((a >>> (40 : Int64)) &&& 255).toBitVec.toNat = zM % 256 := by
    show ((a >>> (40 : Int64)).toBitVec &&& (255 : Int64).toBitVec).toNat = _
    rw [BitVec.toNat_and, hM]; exact Nat.and_two_pow_sub_one_eq_mod zM 8
  have v6 : ((a >>> (40 : Int64)) &&& 255).toInt = Int.bmod ((zM % 256 : Nat) : Int) (2 ^ 64) := by
    have h := BitVec.toInt_eq_toNat_bmod ((a >>> (40 : Int64)) &&& 255).toBitVec
    rw [v5] at h; exact h
  have hy : (yb a 40).toInt = Int.bmod (Int.bmod ((zM % 256 : Nat) : Int) (2 ^ 64)) (2 ^ 32) := by
    unfold yb; rw [e2, Int64.toInt_toInt32, v6]
  have hy2 : (yb a 40).toInt = ((zN / 2 ^ 40 % 256 : Nat) : Int) := by
    rw [hy, hq]; exact bz2
  have hx2 : (xb a 40).toInt = Int.bmod ((zN / 2 ^ 40 : Nat) : Int) 256 := by
    rw [hx]
    rw [Int.bmod_bmod_of_dvd (by decide : (256 : Nat) ∣ 256), Int.bmod_bmod_of_dvd (by decide : (256 : Nat) ∣ (2 ^ 32)), Int.bmod_bmod_of_dvd (by decide : (256 : Nat) ∣ (2 ^ 64))]
  rw [hy2, hx2]
  exact bz3
theorem byt_6 (a : Int64) : (xb a 48).toInt = sg (yb a 48).toInt ∧ 0 ≤ (yb a 48).toInt := by
  obtain ⟨zN, hN⟩ : ∃ zN : Nat, a.toBitVec.toNat = zN := ⟨_, rfl⟩
  have e1 : ((48 : Int32).toInt64.toUInt64 &&& Int64.toUInt64 63) = (48 : UInt64) := by decide
  have u1 : (a.toUInt64 >>> (48 : UInt64)).toNat = zN / 2 ^ 48 := by
    rw [UInt64.toNat_shiftRight]
    show a.toBitVec.toNat >>> 48 = _
    rw [hN]; exact Nat.shiftRight_eq_div_pow zN 48
  have u3 : ((a.toUInt64 >>> (48 : UInt64)).toInt64).toInt = Int.bmod ((zN / 2 ^ 48 : Nat) : Int) (2 ^ 64) := by
    have h := BitVec.toInt_eq_toNat_bmod (a.toUInt64 >>> (48 : UInt64)).toBitVec
    have h2 : (a.toUInt64 >>> (48 : UInt64)).toBitVec.toNat = zN / 2 ^ 48 := u1
    rw [h2] at h; exact h
  have hx : (xb a 48).toInt = Int.bmod (Int.bmod (Int.bmod (Int.bmod ((zN / 2 ^ 48 : Nat) : Int) (2 ^ 64)) (2 ^ 32)) 256) 256 := by
    unfold xb; rw [e1]
    show ((a.toUInt64 >>> (48 : UInt64)).toInt64.toInt32.toInt8.toInt32.toInt8.toInt32).toInt = _
    rw [Int8.toInt_toInt32, Int32.toInt_toInt8, Int8.toInt_toInt32, Int32.toInt_toInt8, Int64.toInt_toInt32, u3]
  have e2 : ((48 : Int32).toInt64 &&& 63) = (48 : Int64) := by decide
  have v1 : (a >>> (48 : Int64)).toBitVec = a.toBitVec.sshiftRight 48 := by
    show a.toBitVec.sshiftRight (((48 : Int64).toBitVec.smod 64).toNat) = _
    rw [show ((48 : Int64).toBitVec.smod 64).toNat = 48 from by decide]
  have v2 : (a >>> (48 : Int64)).toBitVec.toInt = a.toBitVec.toInt / ((2 ^ 48 : Nat) : Int) := by
    rw [v1, BitVec.toInt_sshiftRight]; exact Int.shiftRight_eq_div_pow _ 48
  have v3 := BitVec.toInt_eq_toNat_bmod a.toBitVec
  rw [hN] at v3
  have v4 := BitVec.toInt_eq_toNat_bmod (a >>> (48 : Int64)).toBitVec
  obtain ⟨zM, hM⟩ : ∃ zM : Nat, (a >>> (48 : Int64)).toBitVec.toNat = zM := ⟨_, rfl⟩
  rw [hM, v2, v3] at v4
  have hq : zM % 256 = zN / 2 ^ 48 % 256 := bz1_6 v4
  have v5 : ((a >>> (48 : Int64)) &&& 255).toBitVec.toNat = zM % 256 := by
    show ((a >>> (48 : Int64)).toBitVec &&& (255 : Int64).toBitVec).toNat = _
    rw [BitVec.toNat_and, hM]; exact Nat.and_two_pow_sub_one_eq_mod zM 8
  have v6 : ((a >>> (48 : Int64)) &&& 255).toInt = Int.bmod ((zM % 256 : Nat) : Int) (2 ^ 64) := by
    have h := BitVec.toInt_eq_toNat_bmod ((a >>> (48 : Int64)) &&& 255).toBitVec
    rw [v5] at h; exact h
  have hy : (yb a 48).toInt = Int.bmod (Int.bmod ((zM % 256 : Nat) : Int) (2 ^ 64)) (2 ^ 32) := by
    unfold yb; rw [e2, Int64.toInt_toInt32, v6]
  have hy2 : (yb a 48).toInt = ((zN / 2 ^ 48 % 256 : Nat) : Int) := by
    rw [hy, hq]; exact bz2
  have hx2 : (xb a 48).toInt = Int.bmod ((zN / 2 ^ 48 : Nat) : Int) 256 := by
    rw [hx]
    rw [Int.bmod_bmod_of_dvd (by decide : (256 : Nat) ∣ 256), Int.bmod_bmod_of_dvd (by decide : (256 : Nat) ∣ (2 ^ 32)), Int.bmod_bmod_of_dvd (by decide : (256 : Nat) ∣ (2 ^ 64))]
  rw [hy2, hx2]
  exact bz3
theorem byt_7 (a : Int64) : (xb a 56).toInt = sg (yb a 56).toInt ∧ 0 ≤ (yb a 56).toInt := by
  obtain ⟨zN, hN⟩ : ∃ zN : Nat, a.toBitVec.toNat = zN := ⟨_, rfl⟩
  have e1 : ((56 : Int32).toInt64.toUInt64 &&& Int64.toUInt64 63) = (56 : UInt64) := by decide
  have u1 : (a.toUInt64 >>> (56 : UInt64)).toNat = zN / 2 ^ 56 := by
    rw [UInt64.toNat_shiftRight]
    show a.toBitVec.toNat >>> 56 = _
    rw [hN]; exact Nat.shiftRight_eq_div_pow zN 56
  have u3 : ((a.toUInt64 >>> (56 : UInt64)).toInt64).toInt = Int.bmod ((zN / 2 ^ 56 : Nat) : Int) (2 ^ 64) := by
    have h := BitVec.toInt_eq_toNat_bmod (a.toUInt64 >>> (56 : UInt64)).toBitVec
    have h2 : (a.toUInt64 >>> (56 : UInt64)).toBitVec.toNat = zN / 2 ^ 56 := u1
    rw [h2] at h; exact h
  have hx : (xb a 56).toInt = Int.bmod (Int.bmod (Int.bmod (Int.bmod ((zN / 2 ^ 56 : Nat) : Int) (2 ^ 64)) (2 ^ 32)) 256) 256 := by
    unfold xb; rw [e1]
    show ((a.toUInt64 >>> (56 : UInt64)).toInt64.toInt32.toInt8.toInt32.toInt8.toInt32).toInt = _
    rw [Int8.toInt_toInt32, Int32.toInt_toInt8, Int8.toInt_toInt32, Int32.toInt_toInt8, Int64.toInt_toInt32, u3]
  have e2 : ((56 : Int32).toInt64 &&& 63) = (56 : Int64) := by decide
  have v1 : (a >>> (56 : Int64)).toBitVec = a.toBitVec.sshiftRight 56 := by
    show a.toBitVec.sshiftRight (((56 : Int64).toBitVec.smod 64).toNat) = _
    rw [show ((56 : Int64).toBitVec.smod 64).toNat = 56 from by decide]
  have v2 : (a >>> (56 : Int64)).toBitVec.toInt = a.toBitVec.toInt / ((2 ^ 56 : Nat) : Int) := by
    rw [v1, BitVec.toInt_sshiftRight]; exact Int.shiftRight_eq_div_pow _ 56
  have v3 := BitVec.toInt_eq_toNat_bmod a.toBitVec
  rw [hN] at v3
  have v4 := BitVec.toInt_eq_toNat_bmod (a >>> (56 : Int64)).toBitVec
  obtain ⟨zM, hM⟩ : ∃ zM : Nat, (a >>> (56 : Int64)).toBitVec.toNat = zM := ⟨_, rfl⟩
  rw [hM, v2, v3] at v4
  have hq : zM % 256 = zN / 2 ^ 56 % 256 := bz1_7 v4
  have v5 : ((a >>> (56 : Int64)) &&& 255).toBitVec.toNat = zM % 256 := by
    show ((a >>> (56 : Int64)).toBitVec &&& (255 : Int64).toBitVec).toNat = _
    rw [BitVec.toNat_and, hM]; exact Nat.and_two_pow_sub_one_eq_mod zM 8
  have v6 : ((a >>> (56 : Int64)) &&& 255).toInt = Int.bmod ((zM % 256 : Nat) : Int) (2 ^ 64) := by
    have h := BitVec.toInt_eq_toNat_bmod ((a >>> (56 : Int64)) &&& 255).toBitVec
    rw [v5] at h; exact h
  have hy : (yb a 56).toInt = Int.bmod (Int.bmod ((zM % 256 : Nat) : Int) (2 ^ 64)) (2 ^ 32) := by
    unfold yb; rw [e2, Int64.toInt_toInt32, v6]
  have hy2 : (yb a 56).toInt = ((zN / 2 ^ 56 % 256 : Nat) : Int) := by
    rw [hy, hq]; exact bz2
  have hx2 : (xb a 56).toInt = Int.bmod ((zN / 2 ^ 56 : Nat) : Int) 256 := by
    rw [hx]
    rw [Int.bmod_bmod_of_dvd (by decide : (256 : Nat) ∣ 256), Int.bmod_bmod_of_dvd (by decide : (256 : Nat) ∣ (2 ^ 32)), Int.bmod_bmod_of_dvd (by decide : (256 : Nat) ∣ (2 ^ 64))]
  rw [hy2, hx2]
  exact bz3
theorem byt {a : Int64} {m : Int} (h : 0 ≤ m ∧ m ≤ 7) : (xb a (Int32.ofInt (8 * m))).toInt = sg (yb a (Int32.ofInt (8 * m))).toInt ∧ 0 ≤ (yb a (Int32.ofInt (8 * m))).toInt := by
  rcases (by omega : m = 0 ∨ m = 1 ∨ m = 2 ∨ m = 3 ∨ m = 4 ∨ m = 5 ∨ m = 6 ∨ m = 7) with rfl | rfl | rfl | rfl | rfl | rfl | rfl | rfl
  · exact byt_0 a
  · exact byt_1 a
  · exact byt_2 a
  · exact byt_3 a
  · exact byt_4 a
  · exact byt_5 a
  · exact byt_6 a
  · exact byt_7 a
