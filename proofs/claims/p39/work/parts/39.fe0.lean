/-! ===== fe0 ===== -/
/-- the byte that the class takes, and the reference's -/
def xb (a : Int64) (y : Int32) : Int32 := vp_nar .byte ((a.toUInt64 >>> (y.toInt64.toUInt64 &&& Int64.toUInt64 63)).toInt64.toInt32.toInt8.toInt32)
def yb (a : Int64) (y : Int32) : Int32 := ((a >>> (y.toInt64 &&& 63)) &&& 255).toInt32
theorem bz2 {z : Nat} : Int.bmod (Int.bmod ((z % 256 : Nat) : Int) (2 ^ 64)) (2 ^ 32) = ((z % 256 : Nat) : Int) := by
  rw [Int.bmod_def, Int.bmod_def]; omega
theorem bz3 {z : Nat} : Int.bmod (z : Int) 256 = sg ((z % 256 : Nat) : Int) ∧ 0 ≤ ((z % 256 : Nat) : Int) := by
  have hg := sg_i ((z % 256 : Nat) : Int)
  rw [Int.bmod_def]
  exact ⟨by omega, by omega⟩
theorem bz1_0 {zN zM : Nat} (v5 : Int.bmod (zN : Int) (2 ^ 64) / ((2 ^ 0 : Nat) : Int) = Int.bmod (zM : Int) (2 ^ 64)) : zM % 256 = zN / 2 ^ 0 % 256 := by
  rw [Int.bmod_def, Int.bmod_def] at v5
  omega
theorem bz1_1 {zN zM : Nat} (v5 : Int.bmod (zN : Int) (2 ^ 64) / ((2 ^ 8 : Nat) : Int) = Int.bmod (zM : Int) (2 ^ 64)) : zM % 256 = zN / 2 ^ 8 % 256 := by
  rw [Int.bmod_def, Int.bmod_def] at v5
  omega
theorem bz1_2 {zN zM : Nat} (v5 : Int.bmod (zN : Int) (2 ^ 64) / ((2 ^ 16 : Nat) : Int) = Int.bmod (zM : Int) (2 ^ 64)) : zM % 256 = zN / 2 ^ 16 % 256 := by
  rw [Int.bmod_def, Int.bmod_def] at v5
  omega
theorem bz1_3 {zN zM : Nat} (v5 : Int.bmod (zN : Int) (2 ^ 64) / ((2 ^ 24 : Nat) : Int) = Int.bmod (zM : Int) (2 ^ 64)) : zM % 256 = zN / 2 ^ 24 % 256 := by
  rw [Int.bmod_def, Int.bmod_def] at v5
  omega
theorem bz1_4 {zN zM : Nat} (v5 : Int.bmod (zN : Int) (2 ^ 64) / ((2 ^ 32 : Nat) : Int) = Int.bmod (zM : Int) (2 ^ 64)) : zM % 256 = zN / 2 ^ 32 % 256 := by
  rw [Int.bmod_def, Int.bmod_def] at v5
  omega
theorem bz1_5 {zN zM : Nat} (v5 : Int.bmod (zN : Int) (2 ^ 64) / ((2 ^ 40 : Nat) : Int) = Int.bmod (zM : Int) (2 ^ 64)) : zM % 256 = zN / 2 ^ 40 % 256 := by
  rw [Int.bmod_def, Int.bmod_def] at v5
  omega
theorem bz1_6 {zN zM : Nat} (v5 : Int.bmod (zN : Int) (2 ^ 64) / ((2 ^ 48 : Nat) : Int) = Int.bmod (zM : Int) (2 ^ 64)) : zM % 256 = zN / 2 ^ 48 % 256 := by
  rw [Int.bmod_def, Int.bmod_def] at v5
  omega
theorem bz1_7 {zN zM : Nat} (v5 : Int.bmod (zN : Int) (2 ^ 64) / ((2 ^ 56 : Nat) : Int) = Int.bmod (zM : Int) (2 ^ 64)) : zM % 256 = zN / 2 ^ 56 % 256 := by
  rw [Int.bmod_def, Int.bmod_def] at v5
  omega
theorem byt_0 (a : Int64) : (xb a 0).toInt = sg (yb a 0).toInt ∧ 0 ≤ (yb a 0).toInt := by
  obtain ⟨zN, hN⟩ : ∃ zN : Nat, a.toBitVec.toNat = zN := ⟨_, rfl⟩
  have e1 : ((0 : Int32).toInt64.toUInt64 &&& Int64.toUInt64 63) = (0 : UInt64) := by decide
  have u1 : (a.toUInt64 >>> (0 : UInt64)).toNat = zN / 2 ^ 0 := by
    rw [UInt64.toNat_shiftRight]
    show a.toBitVec.toNat >>> 0 = _
    rw [hN]; exact Nat.shiftRight_eq_div_pow zN 0
  have u3 : ((a.toUInt64 >>> (0 : UInt64)).toInt64).toInt = Int.bmod ((zN / 2 ^ 0 : Nat) : Int) (2 ^ 64) := by
    have h := BitVec.toInt_eq_toNat_bmod (a.toUInt64 >>> (0 : UInt64)).toBitVec
    have h2 : (a.toUInt64 >>> (0 : UInt64)).toBitVec.toNat = zN / 2 ^ 0 := u1
    rw [h2] at h; exact h
  have hx : (xb a 0).toInt = Int.bmod (Int.bmod (Int.bmod (Int.bmod ((zN / 2 ^ 0 : Nat) : Int) (2 ^ 64)) (2 ^ 32)) 256) 256 := by
    unfold xb; rw [e1]
    show ((a.toUInt64 >>> (0 : UInt64)).toInt64.toInt32.toInt8.toInt32.toInt8.toInt32).toInt = _
    rw [Int8.toInt_toInt32, Int32.toInt_toInt8, Int8.toInt_toInt32, Int32.toInt_toInt8, Int64.toInt_toInt32, u3]
  have e2 : ((0 : Int32).toInt64 &&& 63) = (0 : Int64) := by decide
  have v1 : (a >>> (0 : Int64)).toBitVec = a.toBitVec.sshiftRight 0 := by
    show a.toBitVec.sshiftRight (((0 : Int64).toBitVec.smod 64).toNat) = _
    rw [show ((0 : Int64).toBitVec.smod 64).toNat = 0 from by decide]
  have v2 : (a >>> (0 : Int64)).toBitVec.toInt = a.toBitVec.toInt / ((2 ^ 0 : Nat) : Int) := by
    rw [v1, BitVec.toInt_sshiftRight]; exact Int.shiftRight_eq_div_pow _ 0
  have v3 := BitVec.toInt_eq_toNat_bmod a.toBitVec
  rw [hN] at v3
  have v4 := BitVec.toInt_eq_toNat_bmod (a >>> (0 : Int64)).toBitVec
  obtain ⟨zM, hM⟩ : ∃ zM : Nat, (a >>> (0 : Int64)).toBitVec.toNat = zM := ⟨_, rfl⟩
  rw [hM, v2, v3] at v4
  have hq : zM % 256 = zN / 2 ^ 0 % 256 := bz1_0 v4
  have v5 : ((a >>> (0 : Int64)) &&& 255).toBitVec.toNat = zM % 256 := by
    show ((a >>> (0 : Int64)).toBitVec &&& (255 : Int64).toBitVec).toNat = _
    rw [BitVec.toNat_and, hM]; exact Nat.and_two_pow_sub_one_eq_mod zM 8
  have v6 : ((a >>> (0 : Int64)) &&& 255).toInt = Int.bmod ((zM % 256 : Nat) : Int) (2 ^ 64) := by
    have h := BitVec.toInt_eq_toNat_bmod ((a >>> (0 : Int64)) &&& 255).toBitVec
    rw [v5] at h; exact h
  have hy : (yb a 0).toInt = Int.bmod (Int.bmod ((zM % 256 : Nat) : Int) (2 ^ 64)) (2 ^ 32) := by
    unfold yb; rw [e2, Int64.toInt_toInt32, v6]
  have hy2 : (yb a 0).toInt = ((zN / 2 ^ 0 % 256 : Nat) : Int) := by
    rw [hy, hq]; exact bz2
  have hx2 : (xb a 0).toInt = Int.bmod ((zN / 2 ^ 0 : Nat) : Int) 256 := by
    rw [hx]
    rw [Int.bmod_bmod_of_dvd (by decide : (256 : Nat) ∣ 256), Int.bmod_bmod_of_dvd (by decide : (256 : Nat) ∣ (2 ^ 32)), Int.bmod_bmod_of_dvd (by decide : (256 : Nat) ∣ (2 ^ 64))]
  rw [hy2, hx2]
  exact bz3
theorem byt_1 (a : Int64) : (xb a 8).toInt = sg (yb a 8).toInt ∧ 0 ≤ (yb a 8).toInt := by
  obtain ⟨zN, hN⟩ : ∃ zN : Nat, a.toBitVec.toNat = zN := ⟨_, rfl⟩
  have e1 : ((8 : Int32).toInt64.toUInt64 &&& Int64.toUInt64 63) = (8 : UInt64) := by decide
  have u1 : (a.toUInt64 >>> (8 : UInt64)).toNat = zN / 2 ^ 8 := by
    rw [UInt64.toNat_shiftRight]
    show a.toBitVec.toNat >>> 8 = _
    rw [hN]; exact Nat.shiftRight_eq_div_pow zN 8
  have u3 : ((a.toUInt64 >>> (8 : UInt64)).toInt64).toInt = Int.bmod ((zN / 2 ^ 8 : Nat) : Int) (2 ^ 64) := by
    have h := BitVec.toInt_eq_toNat_bmod (a.toUInt64 >>> (8 : UInt64)).toBitVec
    have h2 : (a.toUInt64 >>> (8 : UInt64)).toBitVec.toNat = zN / 2 ^ 8 := u1
    rw [h2] at h; exact h
  have hx : (xb a 8).toInt = Int.bmod (Int.bmod (Int.bmod (Int.bmod ((zN / 2 ^ 8 : Nat) : Int) (2 ^ 64)) (2 ^ 32)) 256) 256 := by
    unfold xb; rw [e1]
    show ((a.toUInt64 >>> (8 : UInt64)).toInt64.toInt32.toInt8.toInt32.toInt8.toInt32).toInt = _
    rw [Int8.toInt_toInt32, Int32.toInt_toInt8, Int8.toInt_toInt32, Int32.toInt_toInt8, Int64.toInt_toInt32, u3]
  have e2 : ((8 : Int32).toInt64 &&& 63) = (8 : Int64) := by decide
  have v1 : (a >>> (8 : Int64)).toBitVec = a.toBitVec.sshiftRight 8 := by
    show a.toBitVec.sshiftRight (((8 : Int64).toBitVec.smod 64).toNat) = _
    rw [show ((8 : Int64).toBitVec.smod 64).toNat = 8 from by decide]
  have v2 : (a >>> (8 : Int64)).toBitVec.toInt = a.toBitVec.toInt / ((2 ^ 8 : Nat) : Int) := by
    rw [v1, BitVec.toInt_sshiftRight]; exact Int.shiftRight_eq_div_pow _ 8
  have v3 := BitVec.toInt_eq_toNat_bmod a.toBitVec
  rw [hN] at v3
  have v4 := BitVec.toInt_eq_toNat_bmod (a >>> (8 : Int64)).toBitVec
  obtain ⟨zM, hM⟩ : ∃ zM : Nat, (a >>> (8 : Int64)).toBitVec.toNat = zM := ⟨_, rfl⟩
  rw [hM, v2, v3] at v4
  have hq : zM % 256 = zN / 2 ^ 8 % 256 := bz1_1 v4
  have v5 : ((a >>> (8 : Int64)) &&& 255).toBitVec.toNat = zM % 256 := by
    show ((a >>> (8 : Int64)).toBitVec &&& (255 : Int64).toBitVec).toNat = _
    rw [BitVec.toNat_and, hM]; exact Nat.and_two_pow_sub_one_eq_mod zM 8
  have v6 : ((a >>> (8 : Int64)) &&& 255).toInt = Int.bmod ((zM % 256 : Nat) : Int) (2 ^ 64) := by
    have h := BitVec.toInt_eq_toNat_bmod ((a >>> (8 : Int64)) &&& 255).toBitVec
    rw [v5] at h; exact h
  have hy : (yb a 8).toInt = Int.bmod (Int.bmod ((zM % 256 : Nat) : Int) (2 ^ 64)) (2 ^ 32) := by
    unfold yb; rw [e2, Int64.toInt_toInt32, v6]
  have hy2 : (yb a 8).toInt = ((zN / 2 ^ 8 % 256 : Nat) : Int) := by
    rw [hy, hq]; exact bz2
  have hx2 : (xb a 8).toInt = Int.bmod ((zN / 2 ^ 8 : Nat) : Int) 256 := by
    rw [hx]
    rw [Int.bmod_bmod_of_dvd (by decide : (256 : Nat) ∣ 256), Int.bmod_bmod_of_dvd (by decide : (256 : Nat) ∣ (2 ^ 32)), Int.bmod_bmod_of_dvd (by decide : (256 : Nat) ∣ (2 ^ 64))]
  rw [hy2, hx2]
  exact bz3
theorem byt_2 (a : Int64) : (xb a 16).toInt = sg (yb a 16).toInt ∧ 0 ≤ (yb a 16).toInt := by
  obtain ⟨zN, hN⟩ : ∃ zN : Nat, a.toBitVec.toNat = zN := ⟨_, rfl⟩
  have e1 : ((16 : Int32).toInt64.toUInt64 &&& Int64.toUInt64 63) = (16 : UInt64) := by decide
  have u1 : (a.toUInt64 >>> (16 : UInt64)).toNat = zN / 2 ^ 16 := by
    rw [UInt64.toNat_shiftRight]
    show a.toBitVec.toNat >>> 16 = _
    rw [hN]; exact Nat.shiftRight_eq_div_pow zN 16
  have u3 : ((a.toUInt64 >>> (16 : UInt64)).toInt64).toInt = Int.bmod ((zN / 2 ^ 16 : Nat) : Int) (2 ^ 64) := by
    have h := BitVec.toInt_eq_toNat_bmod (a.toUInt64 >>> (16 : UInt64)).toBitVec
    have h2 : (a.toUInt64 >>> (16 : UInt64)).toBitVec.toNat = zN / 2 ^ 16 := u1
    rw [h2] at h; exact h
  have hx : (xb a 16).toInt = Int.bmod (Int.bmod (Int.bmod (Int.bmod ((zN / 2 ^ 16 : Nat) : Int) (2 ^ 64)) (2 ^ 32)) 256) 256 := by
    unfold xb; rw [e1]
    show ((a.toUInt64 >>> (16 : UInt64)).toInt64.toInt32.toInt8.toInt32.toInt8.toInt32).toInt = _
    rw [Int8.toInt_toInt32, Int32.toInt_toInt8, Int8.toInt_toInt32, Int32.toInt_toInt8, Int64.toInt_toInt32, u3]
  have e2 : ((16 : Int32).toInt64 &&& 63) = (16 : Int64) := by decide
  have v1 : (a >>> (16 : Int64)).toBitVec = a.toBitVec.sshiftRight 16 := by
    show a.toBitVec.sshiftRight (((16 : Int64).toBitVec.smod 64).toNat) = _
    rw [show ((16 : Int64).toBitVec.smod 64).toNat = 16 from by decide]
  have v2 : (a >>> (16 : Int64)).toBitVec.toInt = a.toBitVec.toInt / ((2 ^ 16 : Nat) : Int) := by
    rw [v1, BitVec.toInt_sshiftRight]; exact Int.shiftRight_eq_div_pow _ 16
  have v3 := BitVec.toInt_eq_toNat_bmod a.toBitVec
  rw [hN] at v3
  have v4 := BitVec.toInt_eq_toNat_bmod (a >>> (16 : Int64)).toBitVec
  obtain ⟨zM, hM⟩ : ∃ zM : Nat, (a >>> (16 : Int64)).toBitVec.toNat = zM := ⟨_, rfl⟩
  rw [hM, v2, v3] at v4
  have hq : zM % 256 = zN / 2 ^ 16 % 256 := bz1_2 v4
  have v5 : ((a >>> (16 : Int64)) &&& 255).toBitVec.toNat = zM % 256 := by
    show ((a >>> (16 : Int64)).toBitVec &&& (255 : Int64).toBitVec).toNat = _
    rw [BitVec.toNat_and, hM]; exact Nat.and_two_pow_sub_one_eq_mod zM 8
  have v6 : ((a >>> (16 : Int64)) &&& 255).toInt = Int.bmod ((zM % 256 : Nat) : Int) (2 ^ 64) := by
    have h := BitVec.toInt_eq_toNat_bmod ((a >>> (16 : Int64)) &&& 255).toBitVec
    rw [v5] at h; exact h
  have hy : (yb a 16).toInt = Int.bmod (Int.bmod ((zM % 256 : Nat) : Int) (2 ^ 64)) (2 ^ 32) := by
    unfold yb; rw [e2, Int64.toInt_toInt32, v6]
  have hy2 : (yb a 16).toInt = ((zN / 2 ^ 16 % 256 : Nat) : Int) := by
    rw [hy, hq]; exact bz2
  have hx2 : (xb a 16).toInt = Int.bmod ((zN / 2 ^ 16 : Nat) : Int) 256 := by
    rw [hx]
    rw [Int.bmod_bmod_of_dvd (by decide : (256 : Nat) ∣ 256), Int.bmod_bmod_of_dvd (by decide : (256 : Nat) ∣ (2 ^ 32)), Int.bmod_bmod_of_dvd (by decide : (256 : Nat) ∣ (2 ^ 64))]
  rw [hy2, hx2]
  exact bz3
theorem byt_3 (a : Int64) : (xb a 24).toInt = sg (yb a 24).toInt ∧ 0 ≤ (yb a 24).toInt := by
  obtain ⟨zN, hN⟩ : ∃ zN : Nat, a.toBitVec.toNat = zN := ⟨_, rfl⟩
  have e1 : ((24 : Int32).toInt64.toUInt64 &&& Int64.toUInt64 63) = (24 : UInt64) := by decide
  have u1 : (a.toUInt64 >>> (24 : UInt64)).toNat = zN / 2 ^ 24 := by
    rw [UInt64.toNat_shiftRight]
    show a.toBitVec.toNat >>> 24 = _
    rw [hN]; exact Nat.shiftRight_eq_div_pow zN 24
  have u3 : ((a.toUInt64 >>> (24 : UInt64)).toInt64).toInt = Int.bmod ((zN / 2 ^ 24 : Nat) : Int) (2 ^ 64) := by
    have h := BitVec.toInt_eq_toNat_bmod (a.toUInt64 >>> (24 : UInt64)).toBitVec
    have h2 : (a.toUInt64 >>> (24 : UInt64)).toBitVec.toNat = zN / 2 ^ 24 := u1
    rw [h2] at h; exact h
  have hx : (xb a 24).toInt = Int.bmod (Int.bmod (Int.bmod (Int.bmod ((zN / 2 ^ 24 : Nat) : Int) (2 ^ 64)) (2 ^ 32)) 256) 256 := by
    unfold xb; rw [e1]
    show ((a.toUInt64 >>> (24 : UInt64)).toInt64.toInt32.toInt8.toInt32.toInt8.toInt32).toInt = _
    rw [Int8.toInt_toInt32, Int32.toInt_toInt8, Int8.toInt_toInt32, Int32.toInt_toInt8, Int64.toInt_toInt32, u3]
  have e2 : ((24 : Int32).toInt64 &&& 63) = (24 : Int64) := by decide
  have v1 : (a >>> (24 : Int64)).toBitVec = a.toBitVec.sshiftRight 24 := by
    show a.toBitVec.sshiftRight (((24 : Int64).toBitVec.smod 64).toNat) = _
    rw [show ((24 : Int64).toBitVec.smod 64).toNat = 24 from by decide]
  have v2 : (a >>> (24 : Int64)).toBitVec.toInt = a.toBitVec.toInt / ((2 ^ 24 : Nat) : Int) := by
    rw [v1, BitVec.toInt_sshiftRight]; exact Int.shiftRight_eq_div_pow _ 24
  have v3 := BitVec.toInt_eq_toNat_bmod a.toBitVec
  rw [hN] at v3
  have v4 := BitVec.toInt_eq_toNat_bmod (a >>> (24 : Int64)).toBitVec
  obtain ⟨zM, hM⟩ : ∃ zM : Nat, (a >>> (24 : Int64)).toBitVec.toNat = zM := ⟨_, rfl⟩
  rw [hM, v2, v3] at v4
  have hq : zM % 256 = zN / 2 ^ 24 % 256 := bz1_3 v4
  have v5 : ((a >>> (24 : Int64)) &&& 255).toBitVec.toNat = zM % 256 := by
    show ((a >>> (24 : Int64)).toBitVec &&& (255 : Int64).toBitVec).toNat = _
    rw [BitVec.toNat_and, hM]; exact Nat.and_two_pow_sub_one_eq_mod zM 8
  have v6 : ((a >>> (24 : Int64)) &&& 255).toInt = Int.bmod ((zM % 256 : Nat) : Int) (2 ^ 64) := by
    have h := BitVec.toInt_eq_toNat_bmod ((a >>> (24 : Int64)) &&& 255).toBitVec
    rw [v5] at h; exact h
  have hy : (yb a 24).toInt = Int.bmod (Int.bmod ((zM % 256 : Nat) : Int) (2 ^ 64)) (2 ^ 32) := by
    unfold yb; rw [e2, Int64.toInt_toInt32, v6]
  have hy2 : (yb a 24).toInt = ((zN / 2 ^ 24 % 256 : Nat) : Int) := by
    rw [hy, hq]; exact bz2
  have hx2 : (xb a 24).toInt = Int.bmod ((zN / 2 ^ 24 : Nat) : Int) 256 := by
    rw [hx]
    rw [Int.bmod_bmod_of_dvd (by decide : (256 : Nat) ∣ 256), Int.bmod_bmod_of_dvd (by decide : (256 : Nat) ∣ (2 ^ 32)), Int.bmod_bmod_of_dvd (by decide : (256 : Nat) ∣ (2 ^ 64))]
  rw [hy2, hx2]
  exact bz3
theorem byt_4 (a : Int64) : (xb a 32).toInt = sg (yb a 32).toInt ∧ 0 ≤ (yb a 32).toInt := by
  obtain ⟨zN, hN⟩ : ∃ zN : Nat, a.toBitVec.toNat = zN := ⟨_, rfl⟩
  have e1 : ((32 : Int32).toInt64.toUInt64 &&& Int64.toUInt64 63) = (32 : UInt64) := by decide
  have u1 : (a.toUInt64 >>> (32 : UInt64)).toNat = zN / 2 ^ 32 := by
    rw [UInt64.toNat_shiftRight]
    show a.toBitVec.toNat >>> 32 = _
    rw [hN]; exact Nat.shiftRight_eq_div_pow zN 32
  have u3 : ((a.toUInt64 >>> (32 : UInt64)).toInt64).toInt = Int.bmod ((zN / 2 ^ 32 : Nat) : Int) (2 ^ 64) := by
    have h := BitVec.toInt_eq_toNat_bmod (a.toUInt64 >>> (32 : UInt64)).toBitVec
    have h2 : (a.toUInt64 >>> (32 : UInt64)).toBitVec.toNat = zN / 2 ^ 32 := u1
    rw [h2] at h; exact h
  have hx : (xb a 32).toInt = Int.bmod (Int.bmod (Int.bmod (Int.bmod ((zN / 2 ^ 32 : Nat) : Int) (2 ^ 64)) (2 ^ 32)) 256) 256 := by
    unfold xb; rw [e1]
    show ((a.toUInt64 >>> (32 : UInt64)).toInt64.toInt32.toInt8.toInt32.toInt8.toInt32).toInt = _
    rw [Int8.toInt_toInt32, Int32.toInt_toInt8, Int8.toInt_toInt32, Int32.toInt_toInt8, Int64.toInt_toInt32, u3]
  have e2 : ((32 : Int32).toInt64 &&& 63) = (32 : Int64) := by decide
  have v1 : (a >>> (32 : Int64)).toBitVec = a.toBitVec.sshiftRight 32 := by
    show a.toBitVec.sshiftRight (((32 : Int64).toBitVec.smod 64).toNat) = _
    rw [show ((32 : Int64).toBitVec.smod 64).toNat = 32 from by decide]
  have v2 : (a >>> (32 : Int64)).toBitVec.toInt = a.toBitVec.toInt / ((2 ^ 32 : Nat) : Int) := by
    rw [v1, BitVec.toInt_sshiftRight]; exact Int.shiftRight_eq_div_pow _ 32
  have v3 := BitVec.toInt_eq_toNat_bmod a.toBitVec
  rw [hN] at v3
  have v4 := BitVec.toInt_eq_toNat_bmod (a >>> (32 : Int64)).toBitVec
  obtain ⟨zM, hM⟩ : ∃ zM : Nat, (a >>> (32 : Int64)).toBitVec.toNat = zM := ⟨_, rfl⟩
  rw [hM, v2, v3] at v4
  have hq : zM % 256 = zN / 2 ^ 32 % 256 := bz1_4 v4
  have v5 : ((a >>> (32 : Int64)) &&& 255).toBitVec.toNat = zM % 256 := by
    show ((a >>> (32 : Int64)).toBitVec &&& (255 : Int64).toBitVec).toNat = _
    rw [BitVec.toNat_and, hM]; exact Nat.and_two_pow_sub_one_eq_mod zM 8
  have v6 : ((a >>> (32 : Int64)) &&& 255).toInt = Int.bmod ((zM % 256 : Nat) : Int) (2 ^ 64) := by
    have h := BitVec.toInt_eq_toNat_bmod ((a >>> (32 : Int64)) &&& 255).toBitVec
    rw [v5] at h; exact h
  have hy : (yb a 32).toInt = Int.bmod (Int.bmod ((zM % 256 : Nat) : Int) (2 ^ 64)) (2 ^ 32) := by
    unfold yb; rw [e2, Int64.toInt_toInt32, v6]
  have hy2 : (yb a 32).toInt = ((zN / 2 ^ 32 % 256 : Nat) : Int) := by
    rw [hy, hq]; exact bz2
  have hx2 : (xb a 32).toInt = Int.bmod ((zN / 2 ^ 32 : Nat) : Int) 256 := by
    rw [hx]
    rw [Int.bmod_bmod_of_dvd (by decide : (256 : Nat) ∣ 256), Int.bmod_bmod_of_dvd (by decide : (256 : Nat) ∣ (2 ^ 32)), Int.bmod_bmod_of_dvd (by decide : (256 : Nat) ∣ (2 ^ 64))]
  rw [hy2, hx2]
  exact bz3
theorem byt_5 (a : Int64) : (xb a 40).toInt = sg (yb a 40).toInt ∧ 0 ≤ (yb a 40).toInt := by
  obtain ⟨zN, hN⟩ : ∃ zN : Nat, a.toBitVec.toNat = zN := ⟨_, rfl⟩
  have e1 : ((40 : Int32).toInt64.toUInt64 &&& Int64.toUInt64 63) = (40 : UInt64) := by decide
  have u1 : (a.toUInt64 >>> (40 : UInt64)).toNat = zN / 2 ^ 40 := by
    rw [UInt64.toNat_shiftRight]
    show a.toBitVec.toNat >>> 40 = _
    rw [hN]; exact Nat.shiftRight_eq_div_pow zN 40
  have u3 : ((a.toUInt64 >>> (40 : UInt64)).toInt64).toInt = Int.bmod ((zN / 2 ^ 40 : Nat) : Int) (2 ^ 64) := by
    have h := BitVec.toInt_eq_toNat_bmod (a.toUInt64 >>> (40 : UInt64)).toBitVec
    have h2 : (a.toUInt64 >>> (40 : UInt64)).toBitVec.toNat = zN / 2 ^ 40 := u1
    rw [h2] at h; exact h
  have hx : (xb a 40).toInt = Int.bmod (Int.bmod (Int.bmod (Int.bmod ((zN / 2 ^ 40 : Nat) : Int) (2 ^ 64)) (2 ^ 32)) 256) 256 := by
    unfold xb; rw [e1]
    show ((a.toUInt64 >>> (40 : UInt64)).toInt64.toInt32.toInt8.toInt32.toInt8.toInt32).toInt = _
    rw [Int8.toInt_toInt32, Int32.toInt_toInt8, Int8.toInt_toInt32, Int32.toInt_toInt8, Int64.toInt_toInt32, u3]
  have e2 : ((40 : Int32).toInt64 &&& 63) = (40 : Int64) := by decide
  have v1 : (a >>> (40 : Int64)).toBitVec = a.toBitVec.sshiftRight 40 := by
    show a.toBitVec.sshiftRight (((40 : Int64).toBitVec.smod 64).toNat) = _
    rw [show ((40 : Int64).toBitVec.smod 64).toNat = 40 from by decide]
  have v2 : (a >>> (40 : Int64)).toBitVec.toInt = a.toBitVec.toInt / ((2 ^ 40 : Nat) : Int) := by
    rw [v1, BitVec.toInt_sshiftRight]; exact Int.shiftRight_eq_div_pow _ 40
  have v3 := BitVec.toInt_eq_toNat_bmod a.toBitVec
  rw [hN] at v3
  have v4 := BitVec.toInt_eq_toNat_bmod (a >>> (40 : Int64)).toBitVec
  obtain ⟨zM, hM⟩ : ∃ zM : Nat, (a >>> (40 : Int64)).toBitVec.toNat = zM := ⟨_, rfl⟩
  rw [hM, v2, v3] at v4
  have hq : zM % 256 = zN / 2 ^ 40 % 256 := bz1_5 v4
  have v5 : ((a >>> (40 : Int64)) &&& 255).toBitVec.toNat = zM % 256 := by
    show ((a >>> (40 : Int64)).toBitVec &&& (255 : Int64).toBitVec).toNat = _
    rw [BitVec.toNat_and, hM]; exact Nat.and_two_pow_sub_one_eq_mod zM 8
  have v6 : ((a >>> (40 : Int64)) &&& 255).toInt = Int.bmod ((zM % 256 : Nat) : Int) (2 ^ 64) := by
    have h := BitVec.toInt_eq_toNat_bmod ((a >>> (40 : Int64)) &&& 255).toBitVec
    rw [v5] at h; exact h
  have hy : (yb a 40).toInt = Int.bmod (Int.bmod ((zM % 256 : Nat) : Int) (2 ^ 64)) (2 ^ 32) := by
    unfold yb; rw [e2, Int64.toInt_toInt32, v6]
  have hy2 : (yb a 40).toInt = ((zN / 2 ^ 40 % 256 : Nat) : Int) := by
    rw [hy, hq]; exact bz2
  have hx2 : (xb a 40).toInt = Int.bmod ((zN / 2 ^ 40 : Nat) : Int) 256 := by
    rw [hx]
    rw [Int.bmod_bmod_of_dvd (by decide : (256 : Nat) ∣ 256), Int.bmod_bmod_of_dvd (by decide : (256 : Nat) ∣ (2 ^ 32)), Int.bmod_bmod_of_dvd (by decide : (256 : Nat) ∣ (2 ^ 64))]
  rw [hy2, hx2]
  exact bz3
theorem byt_6 (a : Int64) : (xb a 48).toInt = sg (yb a 48).toInt ∧ 0 ≤ (yb a 48).toInt := by
  obtain ⟨zN, hN⟩ : ∃ zN : Nat, a.toBitVec.toNat = zN := ⟨_, rfl⟩
  have e1 : ((48 : Int32).toInt64.toUInt64 &&& Int64.toUInt64 63) = (48 : UInt64) := by decide
  have u1 : (a.toUInt64 >>> (48 : UInt64)).toNat = zN / 2 ^ 48 := by
    rw [UInt64.toNat_shiftRight]
    show a.toBitVec.toNat >>> 48 = _
    rw [hN]; exact Nat.shiftRight_eq_div_pow zN 48
  have u3 : ((a.toUInt64 >>> (48 : UInt64)).toInt64).toInt = Int.bmod ((zN / 2 ^ 48 : Nat) : Int) (2 ^ 64) := by
    have h := BitVec.toInt_eq_toNat_bmod (a.toUInt64 >>> (48 : UInt64)).toBitVec
    have h2 : (a.toUInt64 >>> (48 : UInt64)).toBitVec.toNat = zN / 2 ^ 48 := u1
    rw [h2] at h; exact h
  have hx : (xb a 48).toInt = Int.bmod (Int.bmod (Int.bmod (Int.bmod ((zN / 2 ^ 48 : Nat) : Int) (2 ^ 64)) (2 ^ 32)) 256) 256 := by
    unfold xb; rw [e1]
    show ((a.toUInt64 >>> (48 : UInt64)).toInt64.toInt32.toInt8.toInt32.toInt8.toInt32).toInt = _
    rw [Int8.toInt_toInt32, Int32.toInt_toInt8, Int8.toInt_toInt32, Int32.toInt_toInt8, Int64.toInt_toInt32, u3]
  have e2 : ((48 : Int32).toInt64 &&& 63) = (48 : Int64) := by decide
  have v1 : (a >>> (48 : Int64)).toBitVec = a.toBitVec.sshiftRight 48 := by
    show a.toBitVec.sshiftRight (((48 : Int64).toBitVec.smod 64).toNat) = _
    rw [show ((48 : Int64).toBitVec.smod 64).toNat = 48 from by decide]
  have v2 : (a >>> (48 : Int64)).toBitVec.toInt = a.toBitVec.toInt / ((2 ^ 48 : Nat) : Int) := by
    rw [v1, BitVec.toInt_sshiftRight]; exact Int.shiftRight_eq_div_pow _ 48
  have v3 := BitVec.toInt_eq_toNat_bmod a.toBitVec
  rw [hN] at v3
  have v4 := BitVec.toInt_eq_toNat_bmod (a >>> (48 : Int64)).toBitVec
  obtain ⟨zM, hM⟩ : ∃ zM : Nat, (a >>> (48 : Int64)).toBitVec.toNat = zM := ⟨_, rfl⟩
  rw [hM, v2, v3] at v4
  have hq : zM % 256 = zN / 2 ^ 48 % 256 := bz1_6 v4
  have v5 : ((a >>> (48 : Int64)) &&& 255).toBitVec.toNat = zM % 256 := by
    show ((a >>> (48 : Int64)).toBitVec &&& (255 : Int64).toBitVec).toNat = _
    rw [BitVec.toNat_and, hM]; exact Nat.and_two_pow_sub_one_eq_mod zM 8
  have v6 : ((a >>> (48 : Int64)) &&& 255).toInt = Int.bmod ((zM % 256 : Nat) : Int) (2 ^ 64) := by
    have h := BitVec.toInt_eq_toNat_bmod ((a >>> (48 : Int64)) &&& 255).toBitVec
    rw [v5] at h; exact h
  have hy : (yb a 48).toInt = Int.bmod (Int.bmod ((zM % 256 : Nat) : Int) (2 ^ 64)) (2 ^ 32) := by
    unfold yb; rw [e2, Int64.toInt_toInt32, v6]
  have hy2 : (yb a 48).toInt = ((zN / 2 ^ 48 % 256 : Nat) : Int) := by
    rw [hy, hq]; exact bz2
  have hx2 : (xb a 48).toInt = Int.bmod ((zN / 2 ^ 48 : Nat) : Int) 256 := by
    rw [hx]
    rw [Int.bmod_bmod_of_dvd (by decide : (256 : Nat) ∣ 256), Int.bmod_bmod_of_dvd (by decide : (256 : Nat) ∣ (2 ^ 32)), Int.bmod_bmod_of_dvd (by decide : (256 : Nat) ∣ (2 ^ 64))]
  rw [hy2, hx2]
  exact bz3
theorem byt_7 (a : Int64) : (xb a 56).toInt = sg (yb a 56).toInt ∧ 0 ≤ (yb a 56).toInt := by
  obtain ⟨zN, hN⟩ : ∃ zN : Nat, a.toBitVec.toNat = zN := ⟨_, rfl⟩
  have e1 : ((56 : Int32).toInt64.toUInt64 &&& Int64.toUInt64 63) = (56 : UInt64) := by decide
  have u1 : (a.toUInt64 >>> (56 : UInt64)).toNat = zN / 2 ^ 56 := by
    rw [UInt64.toNat_shiftRight]
    show a.toBitVec.toNat >>> 56 = _
    rw [hN]; exact Nat.shiftRight_eq_div_pow zN 56
  have u3 : ((a.toUInt64 >>> (56 : UInt64)).toInt64).toInt = Int.bmod ((zN / 2 ^ 56 : Nat) : Int) (2 ^ 64) := by
    have h := BitVec.toInt_eq_toNat_bmod (a.toUInt64 >>> (56 : UInt64)).toBitVec
    have h2 : (a.toUInt64 >>> (56 : UInt64)).toBitVec.toNat = zN / 2 ^ 56 := u1
    rw [h2] at h; exact h
  have hx : (xb a 56).toInt = Int.bmod (Int.bmod (Int.bmod (Int.bmod ((zN / 2 ^ 56 : Nat) : Int) (2 ^ 64)) (2 ^ 32)) 256) 256 := by
    unfold xb; rw [e1]
    show ((a.toUInt64 >>> (56 : UInt64)).toInt64.toInt32.toInt8.toInt32.toInt8.toInt32).toInt = _
    rw [Int8.toInt_toInt32, Int32.toInt_toInt8, Int8.toInt_toInt32, Int32.toInt_toInt8, Int64.toInt_toInt32, u3]
  have e2 : ((56 : Int32).toInt64 &&& 63) = (56 : Int64) := by decide
  have v1 : (a >>> (56 : Int64)).toBitVec = a.toBitVec.sshiftRight 56 := by
    show a.toBitVec.sshiftRight (((56 : Int64).toBitVec.smod 64).toNat) = _
    rw [show ((56 : Int64).toBitVec.smod 64).toNat = 56 from by decide]
  have v2 : (a >>> (56 : Int64)).toBitVec.toInt = a.toBitVec.toInt / ((2 ^ 56 : Nat) : Int) := by
    rw [v1, BitVec.toInt_sshiftRight]; exact Int.shiftRight_eq_div_pow _ 56
  have v3 := BitVec.toInt_eq_toNat_bmod a.toBitVec
  rw [hN] at v3
  have v4 := BitVec.toInt_eq_toNat_bmod (a >>> (56 : Int64)).toBitVec
  obtain ⟨zM, hM⟩ : ∃ zM : Nat, (a >>> (56 : Int64)).toBitVec.toNat = zM := ⟨_, rfl⟩
  rw [hM, v2, v3] at v4
  have hq : zM % 256 = zN / 2 ^ 56 % 256 := bz1_7 v4
  have v5 : ((a >>> (56 : Int64)) &&& 255).toBitVec.toNat = zM % 256 := by
    show ((a >>> (56 : Int64)).toBitVec &&& (255 : Int64).toBitVec).toNat = _
    rw [BitVec.toNat_and, hM]; exact Nat.and_two_pow_sub_one_eq_mod zM 8
  have v6 : ((a >>> (56 : Int64)) &&& 255).toInt = Int.bmod ((zM % 256 : Nat) : Int) (2 ^ 64) := by
    have h := BitVec.toInt_eq_toNat_bmod ((a >>> (56 : Int64)) &&& 255).toBitVec
    rw [v5] at h; exact h
  have hy : (yb a 56).toInt = Int.bmod (Int.bmod ((zM % 256 : Nat) : Int) (2 ^ 64)) (2 ^ 32) := by
    unfold yb; rw [e2, Int64.toInt_toInt32, v6]
  have hy2 : (yb a 56).toInt = ((zN / 2 ^ 56 % 256 : Nat) : Int) := by
    rw [hy, hq]; exact bz2
  have hx2 : (xb a 56).toInt = Int.bmod ((zN / 2 ^ 56 : Nat) : Int) 256 := by
    rw [hx]
    rw [Int.bmod_bmod_of_dvd (by decide : (256 : Nat) ∣ 256), Int.bmod_bmod_of_dvd (by decide : (256 : Nat) ∣ (2 ^ 32)), Int.bmod_bmod_of_dvd (by decide : (256 : Nat) ∣ (2 ^ 64))]
  rw [hy2, hx2]
  exact bz3
theorem byt {a : Int64} {m : Int} (h : 0 ≤ m ∧ m ≤ 7) : (xb a (Int32.ofInt (8 * m))).toInt = sg (yb a (Int32.ofInt (8 * m))).toInt ∧ 0 ≤ (yb a (Int32.ofInt (8 * m))).toInt := by
  rcases (by omega : m = 0 ∨ m = 1 ∨ m = 2 ∨ m = 3 ∨ m = 4 ∨ m = 5 ∨ m = 6 ∨ m = 7) with rfl | rfl | rfl | rfl | rfl | rfl | rfl | rfl
  · exact byt_0 a
  · exact byt_1 a
  · exact byt_2 a
  · exact byt_3 a
  · exact byt_4 a
  · exact byt_5 a
  · exact byt_6 a
  · exact byt_7 a
/-! ===== fe1 ===== -/
set_option maxHeartbeats 4000000 in
set_option maxRecDepth 100000 in
/-- X8_take -/
theorem c_X8_take_r (l : Launch) (dC : Nat → ClassId) (dI : Nat → Nat → Nat) (sz : Nat) (h : Nat) (g : Nat → Nat → Nat) (ca : Nat → Nat → ClassId) (iv : Nat → Nat → Int32) (lv : Nat → Nat → Int64) (fa : Nat → Nat → Nat → Int32) (la : Nat → Nat → Nat → Int64) (hI : IX iv fa) (n : Int32) (a : Int64) (h_n : 1 ≤ n.toInt ∧ n.toInt ≤ 8) (p_0 : (iv 8 2).toInt + n.toInt ≤ 200) : Met l yX8_take (wc yX8_take cX8_take 5 (some .int)) ({ frames := 0, cells := 0, slots := 0, locals := 0 } : Room) (pW (dC, dI) classes (WX h g ca iv lv fa la) (TX ca) sz [.ref (g 11 4), .int n, .long a]) (va_Qi (fun r (u : SS) => ∃ (na_8_1 : Nat → Int32) (ni_8_2 : Int32), inb (bI 8 2) ni_8_2 ∧ (r.toInt = (iv 8 2).toInt + n.toInt) ∧ ((ni_8_2).toInt = (iv 8 2).toInt + n.toInt) ∧ (∀ j : Nat, ((j : Int) < (iv 8 2).toInt ∨ (iv 8 2).toInt + n.toInt ≤ (j : Int)) → na_8_1 j = (fa 8 1) j) ∧ (∀ j : Nat, (iv 8 2).toInt ≤ (j : Int) → (j : Int) < (iv 8 2).toInt + n.toInt → na_8_1 j = xb a (Int32.ofInt (8 * ((iv 8 2).toInt + n.toInt - 1 - (j : Int))))) ∧ (0 ≤ r.toInt ∧ r.toInt ≤ 200) ∧ u = ((u2 iv 8 2 ni_8_2), lv, (u2 fa 8 1 na_8_1), la)) (bX (dC, dI) h g ca (va_A (WX h g ca iv lv fa la) sz)) (va_A (WX h g ca iv lv fa la) sz)) 0 0 (va_A (WX h g ca iv lv fa la) sz) := by
  refine Met.ofW (cc := cX8_take) (maxL := 5) (ret := (some .int)) (by decide) rfl ?_
  intro p e s m args below meth c s₁ B hml hv
  obtain ⟨rfl, hsz, hP, hK, hD0⟩ := hv
  have hx := B.exec
  have hb := B.bytes
  have hr := B.returns
  have ht := tb_tl (atoms_spec (ws := wc yX8_take cX8_take 5 (some .int)) B.pre)
  have hown : s.vm.findClass RX8 = some m.cls := findClass_of_methodNamed B.named
  have hlocks := B.notSynchronized
  subst hsz
  have hD := hD0.self (sz := s.heap.size)
  generalize hAe : va_A (WX h g ca iv lv fa la) s.heap.size = A at hD ⊢
  have hA : ∀ q : Nat, s.heap.size ≤ q → A q := fun q h => by rw [← hAe]; exact Or.inr h
  have hS : va_S A s.heap s.heap [] := va_S.rf
  have hl := lv_entry [.ref (g 11 4), .int n, .long a] (n := 5) (Nat.le_of_ble_eq_true rfl)
  rw [lg_entry_eq]
  generalize (lg_sl [.ref (g 11 4), .int n, .long a] ++ List.replicate (5 - (lg_sl [.ref (g 11 4), .int n, .long a]).length) Slot.unset).toArray = ls at hl ⊢
  have hl : lv_has ls 5 [(0, .ref (g 11 4)), (1, .int n), (2, .long a)] := hl
  refine lv_iload_n hx hb dX8_take_0 rfl (lv_at hl 1 rfl) ?_
  refine lv_iconst (v := 1) hx hb dX8_take_1 (by decide) ?_
  refine lv_isub hx hb dX8_take_2 ?_
  refine lv_topi (fun v1 ev1 => ?_)
  have tv1 := z_sub ev1 (rfl : (n).toInt = _) (by decide : (1 : Int32).toInt = 1) (by omega) (by omega)
  refine lv_istore (lv' := [(4, .int v1), (0, .ref (g 11 4)), (1, .int n), (2, .long a)]) hx hb dX8_take_3 hl (by decide) rfl (fun ls hl => ?_)
  have lp21 : ∀ (nn21 : Nat) (x20_4 : Int32) (w20_i_8_2 : Int32) (w20_a_8_1 : Nat → Int32), (-1) ≤ x20_4.toInt ∧ x20_4.toInt ≤ 7 → 0 ≤ w20_i_8_2.toInt ∧ w20_i_8_2.toInt ≤ 200 → (∀ j, inb (bA 8 1 j) (w20_a_8_1 j)) → (∀ j : Nat, ((j : Int) < (iv 8 2).toInt ∨ (w20_i_8_2 : Int32).toInt ≤ (j : Int)) → w20_a_8_1 j = (fa 8 1) j) → (∀ j : Nat, (iv 8 2).toInt ≤ (j : Int) → (j : Int) < (w20_i_8_2 : Int32).toInt → w20_a_8_1 j = xb a (Int32.ofInt (8 * ((iv 8 2).toInt + (n).toInt - 1 - (j : Int))))) → (w20_i_8_2 : Int32).toInt + (x20_4 : Int32).toInt = (iv 8 2).toInt + (n).toInt - 1 → -1 ≤ (x20_4 : Int32).toInt → (iv 8 2).toInt ≤ (w20_i_8_2 : Int32).toInt → (w20_i_8_2 : Int32).toInt + (x20_4 : Int32).toInt ≤ 199 → x20_4.toInt - (-1) < (nn21 : Int) → ∀ (H : Heap) (locs : List Loc), ∀ (ls : Array Slot), va_P (dC, dI) classes (WX h g ca (u2 iv 8 2 w20_i_8_2) lv (u2 fa 8 1 w20_a_8_1) la) H → va_D A (WX h g ca (u2 iv 8 2 w20_i_8_2) lv (u2 fa 8 1 w20_a_8_1) la) → va_S A s.heap H locs → lv_has ls 5 [(4, .int x20_4), (0, .ref (g 11 4)), (1, .int n), (2, .long a)] → W p l e ({ frames := 0, cells := 0, slots := 0, locals := 0 } : Room) s m ([.ref (g 11 4), .int n, .long a] : List Value).toArray below meth c H locs 0 0 (MQ below (va_Qi (fun r (u : SS) => ∃ (na_8_1 : Nat → Int32) (ni_8_2 : Int32), inb (bI 8 2) ni_8_2 ∧ (r.toInt = (iv 8 2).toInt + n.toInt) ∧ ((ni_8_2).toInt = (iv 8 2).toInt + n.toInt) ∧ (∀ j : Nat, ((j : Int) < (iv 8 2).toInt ∨ (iv 8 2).toInt + n.toInt ≤ (j : Int)) → na_8_1 j = (fa 8 1) j) ∧ (∀ j : Nat, (iv 8 2).toInt ≤ (j : Int) → (j : Int) < (iv 8 2).toInt + n.toInt → na_8_1 j = xb a (Int32.ofInt (8 * ((iv 8 2).toInt + n.toInt - 1 - (j : Int))))) ∧ (0 ≤ r.toInt ∧ r.toInt ≤ 200) ∧ u = ((u2 iv 8 2 ni_8_2), lv, (u2 fa 8 1 na_8_1), la)) (bX (dC, dI) h g ca A) A) ([.ref (g 11 4), .int n, .long a] : List Value).toArray s 0 0 A) (F0 m 5 ls []) := by
    intro nn21
    induction nn21 with
    | zero => intro x20_4 w20_i_8_2 w20_a_8_1 hx20_4 hw20_i_8_2 hw20_a_8_1 hq21_0 hq21_1 hq21_2 hq21_3 hq21_4 hq21_5 hm21; exfalso; omega
    | succ nn21 ih21 =>
      intro x20_4 w20_i_8_2 w20_a_8_1 hx20_4 hw20_i_8_2 hw20_a_8_1 hq21_0 hq21_1 hq21_2 hq21_3 hq21_4 hq21_5 hm21 H locs ls hP hD hS hl
      refine lv_iload hx hb dX8_take_5 (lv_at hl 0 rfl) ?_
      refine lv_if_lt (tgt := 44) hx hb dX8_take_7 (by decide) (fun c22 => ?_) (fun c22 => ?_)
      · have fc22 := z_lt (rfl : (x20_4).toInt = _) (by decide : (0 : Int32).toInt = 0) c22
        refine lv_aload_n hx hb dX8_take_44 rfl (lv_at hl 1 rfl) ?_
        refine gX_8_2 hx hb ht hown hK hP m_230 (v := w20_i_8_2) rfl dX8_take_45 ?_
        have hP9 : va_P (dC, dI) classes (WX h g ca (u2 iv 8 2 w20_i_8_2) lv (u2 fa 8 1 w20_a_8_1) la) H := hP
        have hD9 : va_D A (WX h g ca (u2 iv 8 2 w20_i_8_2) lv (u2 fa 8 1 w20_a_8_1) la) := hD
        exact W.iret (v := w20_i_8_2) hx hb hr (fun t ht9 hW => ⟨⟨w20_i_8_2, ((u2 iv 8 2 w20_i_8_2), lv, (u2 fa 8 1 w20_a_8_1), la), rfl, ⟨w20_a_8_1, w20_i_8_2, (show inb (0, 200) w20_i_8_2 from ⟨by omega, by omega⟩), (show (w20_i_8_2 : Int32).toInt = (iv 8 2).toInt + (n).toInt from by omega), (show (w20_i_8_2 : Int32).toInt = (iv 8 2).toInt + (n).toInt from by omega), (show ∀ j : Nat, ((j : Int) < (iv 8 2).toInt ∨ (iv 8 2).toInt + (n).toInt ≤ (j : Int)) → w20_a_8_1 j = (fa 8 1) j from (fun j h1 => hq21_0 j (by omega))), (show ∀ j : Nat, (iv 8 2).toInt ≤ (j : Int) → (j : Int) < (iv 8 2).toInt + (n).toInt → w20_a_8_1 j = xb a (Int32.ofInt (8 * ((iv 8 2).toInt + (n).toInt - 1 - (j : Int)))) from (fun j h1 h2 => hq21_1 j h1 (by omega))), ⟨by omega, by omega⟩, rfl⟩, by rw [ht9]; exact hP9, hD9⟩, hS.F ht9⟩) hS.2.2 dX8_take_48
      · have fc22 := z_nlt (rfl : (x20_4).toInt = _) (by decide : (0 : Int32).toInt = 0) c22
        refine lv_aload_n hx hb dX8_take_10 rfl (lv_at hl 1 rfl) ?_
        refine gX_8_1 hx hb ht hown hK hP m_229 dX8_take_11 ?_
        refine lv_aload_n hx hb dX8_take_14 rfl (lv_at hl 1 rfl) ?_
        refine gX_8_2 hx hb ht hown hK hP m_230 (v := w20_i_8_2) rfl dX8_take_15 ?_
        refine lv_lload_n hx hb dX8_take_18 rfl (lv_at hl 3 rfl) ?_
        refine lv_bipush (v := 8) hx hb dX8_take_19 (by decide) ?_
        refine lv_iload hx hb dX8_take_21 (lv_at hl 0 rfl) ?_
        refine lv_imul hx hb dX8_take_23 ?_
        refine lv_topi (fun v23 ev23 => ?_)
        have tv23 := z_mul ev23 (by decide : (8 : Int32).toInt = 8) (rfl : (x20_4).toInt = _) (by omega) (by omega)
        obtain ⟨w24, ew24⟩ : ∃ y : Int64, (a.toUInt64 >>> ((v23 : Int32).toInt64.toUInt64 &&& Int64.toUInt64 63)).toInt64 = y := ⟨_, rfl⟩
        refine lv_lushr (v := w24) hx hb dX8_take_24 ew24 ?_
        obtain ⟨v25, ev25⟩ : ∃ y : Int32, w24.toInt32 = y := ⟨_, rfl⟩
        refine lv_l2i (v := v25) hx hb dX8_take_25 ev25 ?_
        obtain ⟨v26, ev26⟩ : ∃ y : Int32, v25.toInt8.toInt32 = y := ⟨_, rfl⟩
        refine lv_i2b (v := v26) hx hb dX8_take_26 ev26 ?_
        have : 0 ≤ (w20_i_8_2 : Int32).toInt ∧ (w20_i_8_2 : Int32).toInt ≤ 199 := ⟨by omega, by omega⟩
        refine tX_8_1 hx hb hK hP hD hS (f0 := w20_a_8_1) rfl (i := w20_i_8_2) (x := v26) (vp_in_iff.mpr ⟨by omega, by omega⟩) dX8_take_27 (fun f27 ef27 H locs hP hD hS => ?_)
        have hf27 : ∀ j, inb (bA 8 1 j) (f27 j) := fun j => full_i _
        have hP : va_P (dC, dI) classes (WX h g ca (u2 iv 8 2 w20_i_8_2) lv (u2 fa 8 1 f27) la) H := hP
        have hD : va_D A (WX h g ca (u2 iv 8 2 w20_i_8_2) lv (u2 fa 8 1 f27) la) := hD
        refine lv_aload_n hx hb dX8_take_28 rfl (lv_at hl 1 rfl) ?_
        refine lv_dup hx hb dX8_take_29 rfl ?_
        refine gX_8_2 hx hb ht hown hK hP m_230 (v := w20_i_8_2) rfl dX8_take_30 ?_
        refine lv_iconst (v := 1) hx hb dX8_take_33 (by decide) ?_
        refine lv_iadd hx hb dX8_take_34 ?_
        refine lv_topi (fun v28 ev28 => ?_)
        have tv28 := z_add ev28 (rfl : (w20_i_8_2).toInt = _) (by decide : (1 : Int32).toInt = 1) (by omega) (by omega)
        refine pX_8_2 (v := v28) hx hb ht hown hK hP hD hS m_230 dX8_take_35 (fun H locs hP hD hS => ?_)
        have hP : va_P (dC, dI) classes (WX h g ca (u2 iv 8 2 v28) lv (u2 fa 8 1 f27) la) H := hP
        have hD : va_D A (WX h g ca (u2 iv 8 2 v28) lv (u2 fa 8 1 f27) la) := hD
        obtain ⟨v29, ev29⟩ : ∃ y : Int32, y = x20_4 + (-1) := ⟨_, rfl⟩
        have tv29 := z_add ev29 rfl (by decide : ((-1) : Int32).toInt = (-1)) (by omega) (by omega)
        refine lv_iinc (v := v29) (lv' := [(4, .int v29), (0, .ref (g 11 4)), (1, .int n), (2, .long a)]) hx hb dX8_take_38 hl (k := 0) rfl (by rw [ev29]; rfl) (by decide) rfl (fun ls hl => ?_)
        refine lv_goto (tgt := 5) hx hb dX8_take_41 (by decide) ?_
        exact ih21 v29 v28 f27 ⟨by omega, by omega⟩ ⟨by omega, by omega⟩ hf27 (show ∀ j : Nat, ((j : Int) < (iv 8 2).toInt ∨ (v28 : Int32).toInt ≤ (j : Int)) → f27 j = (fa 8 1) j from (fun j h1 => by rw [ef27, upd_ne (by show j ≠ (w20_i_8_2 : Int32).toInt.toNat; omega)]; exact hq21_0 j (by omega))) (show ∀ j : Nat, (iv 8 2).toInt ≤ (j : Int) → (j : Int) < (v28 : Int32).toInt → f27 j = xb a (Int32.ofInt (8 * ((iv 8 2).toInt + (n).toInt - 1 - (j : Int)))) from (fun j h1 h2 => by
              by_cases hj : (j : Int) < (w20_i_8_2 : Int32).toInt
              · rw [ef27, upd_ne (by show j ≠ (w20_i_8_2 : Int32).toInt.toNat; omega)]; exact hq21_1 j h1 hj
              · have hy : Int32.ofInt (8 * ((iv 8 2).toInt + n.toInt - 1 - (j : Int))) = v23 := by
                  rw [show 8 * ((iv 8 2).toInt + n.toInt - 1 - (j : Int)) = (v23 : Int32).toInt from by omega]; exact Int32.ofInt_toInt _
                have hj2 : j = (w20_i_8_2 : Int32).toNatClampNeg := by show _ = (w20_i_8_2 : Int32).toInt.toNat; omega
                rw [hy, hj2, ef27, upd_eq, ← ev26, ← ev25, ← ew24]; rfl)) (show (v28 : Int32).toInt + (v29 : Int32).toInt = (iv 8 2).toInt + (n).toInt - 1 from by omega) (show -1 ≤ (v29 : Int32).toInt from by omega) (show (iv 8 2).toInt ≤ (v28 : Int32).toInt from by omega) (show (v28 : Int32).toInt + (v29 : Int32).toInt ≤ 199 from by omega) (by omega) _ _ ls hP hD hS (lv_sub hl [0, 1, 2, 3] rfl)
  have i_8_2 : 0 ≤ (iv 8 2).toInt ∧ (iv 8 2).toInt ≤ 200 := hI.1 8 2
  exact lp21 9 v1 (iv 8 2) (fa 8 1) ⟨by omega, by omega⟩ ⟨by omega, by omega⟩ (hI.2 8 1) (show ∀ j : Nat, ((j : Int) < (iv 8 2).toInt ∨ ((iv 8 2) : Int32).toInt ≤ (j : Int)) → (fa 8 1) j = (fa 8 1) j from fun j h1 => rfl) (show ∀ j : Nat, (iv 8 2).toInt ≤ (j : Int) → (j : Int) < ((iv 8 2) : Int32).toInt → (fa 8 1) j = xb a (Int32.ofInt (8 * ((iv 8 2).toInt + (n).toInt - 1 - (j : Int)))) from fun j h1 h2 => absurd h1 (by omega)) (show ((iv 8 2) : Int32).toInt + (v1 : Int32).toInt = (iv 8 2).toInt + (n).toInt - 1 from by omega) (show -1 ≤ (v1 : Int32).toInt from by omega) (show (iv 8 2).toInt ≤ ((iv 8 2) : Int32).toInt from by omega) (show ((iv 8 2) : Int32).toInt + (v1 : Int32).toInt ≤ 199 from by omega) (by first | decide | omega) _ _ ls hP hD hS (lv_sub hl [0, 1, 2, 3] rfl)
set_option maxHeartbeats 4000000 in
set_option maxRecDepth 100000 in
/-- X11_feed -/
theorem c_X11_feed_r (l : Launch) (dC : Nat → ClassId) (dI : Nat → Nat → Nat) (sz : Nat) (h : Nat) (g : Nat → Nat → Nat) (ca : Nat → Nat → ClassId) (iv : Nat → Nat → Int32) (lv : Nat → Nat → Int64) (fa : Nat → Nat → Nat → Int32) (la : Nat → Nat → Nat → Int64) (hI : IX iv fa) (n : Int32) (k : Int64) : Met l yX11_feed (wc yX11_feed cX11_feed 4 (some .int)) ({ frames := 1, cells := 0, slots := 0, locals := 24 } : Room) (pW (dC, dI) classes (WX h g ca iv lv fa la) (TX ca) sz [.ref h, .int n, .long k]) (va_Qi (fun r (u : SS) => ∃ (na_8_1 : Nat → Int32) (ni_8_2 : Int32), inb (bI 8 2) ni_8_2 ∧ (((r.toInt = -100002 ∧ ¬ (1 ≤ n.toInt ∧ n.toInt ≤ 8) ∧ (ni_8_2).toInt = (iv 8 2).toInt) ∨ (r.toInt = -100004 ∧ (1 ≤ n.toInt ∧ n.toInt ≤ 8) ∧ 200 < (iv 8 2).toInt + n.toInt ∧ (ni_8_2).toInt = (iv 8 2).toInt) ∨ ((1 ≤ n.toInt ∧ n.toInt ≤ 8) ∧ (iv 8 2).toInt + n.toInt ≤ 200 ∧ r.toInt = (iv 8 2).toInt + n.toInt ∧ (ni_8_2).toInt = (iv 8 2).toInt + n.toInt))) ∧ (((r.toInt < 0 ∧ ∀ j : Nat, na_8_1 j = (fa 8 1) j) ∨ (0 ≤ r.toInt ∧ (∀ j : Nat, ((j : Int) < (iv 8 2).toInt ∨ (iv 8 2).toInt + n.toInt ≤ (j : Int)) → na_8_1 j = (fa 8 1) j) ∧ (∀ j : Nat, (iv 8 2).toInt ≤ (j : Int) → (j : Int) < (iv 8 2).toInt + n.toInt → na_8_1 j = xb k (Int32.ofInt (8 * ((iv 8 2).toInt + n.toInt - 1 - (j : Int)))))))) ∧ ((-100004) ≤ r.toInt ∧ r.toInt ≤ 200) ∧ u = ((u2 iv 8 2 ni_8_2), lv, (u2 fa 8 1 na_8_1), la)) (bX (dC, dI) h g ca (va_A (WX h g ca iv lv fa la) sz)) (va_A (WX h g ca iv lv fa la) sz)) 0 0 (va_A (WX h g ca iv lv fa la) sz) := by
  refine Met.ofW (cc := cX11_feed) (maxL := 4) (ret := (some .int)) (by decide) rfl ?_
  intro p e s m args below meth c s₁ B hml hv
  obtain ⟨rfl, hsz, hP, hK, hD0⟩ := hv
  have hx := B.exec
  have hb := B.bytes
  have hr := B.returns
  have ht := tb_tl (atoms_spec (ws := wc yX11_feed cX11_feed 4 (some .int)) B.pre)
  have hown : s.vm.findClass RX11 = some m.cls := findClass_of_methodNamed B.named
  have hlocks := B.notSynchronized
  subst hsz
  have hD := hD0.self (sz := s.heap.size)
  generalize hAe : va_A (WX h g ca iv lv fa la) s.heap.size = A at hD ⊢
  have hA : ∀ q : Nat, s.heap.size ≤ q → A q := fun q h => by rw [← hAe]; exact Or.inr h
  have hS : va_S A s.heap s.heap [] := va_S.rf
  have hl := lv_entry [.ref h, .int n, .long k] (n := 4) (Nat.le_of_ble_eq_true rfl)
  rw [lg_entry_eq]
  generalize (lg_sl [.ref h, .int n, .long k] ++ List.replicate (4 - (lg_sl [.ref h, .int n, .long k]).length) Slot.unset).toArray = ls at hl ⊢
  have hl : lv_has ls 4 [(0, .ref h), (1, .int n), (2, .long k)] := hl
  refine lv_iload_n hx hb dX11_feed_0 rfl (lv_at hl 1 rfl) ?_
  refine lv_iconst (v := 1) hx hb dX11_feed_1 (by decide) ?_
  refine lv_bipush (v := 8) hx hb dX11_feed_2 (by decide) ?_
  refine vp_callSi (W.runS (As := [.int n, .int 1, .int 8]) (rest := []) ⟨hx, hb, hml, hown, ht⟩ (c_X11_within l dC dI n 1 8 (n.toInt) (1) (8) (rfl : (n).toInt = _) (by decide : (1 : Int32).toInt = 1) (by decide : (8 : Int32).toInt = 8)) (kS 3 ht m_453 m_454 m_77 m_455 rfl rfl hd_X11_within_v ⟨Nat.le_of_ble_eq_true rfl, Nat.le_of_ble_eq_true rfl⟩) (sR noP (hK.sub (tys' := []) [] rfl)) rfl rfl hl.1 rfl (lv_room (Nat.le_of_ble_eq_true rfl)) dX11_feed_4 ⟨Nat.le_of_ble_eq_true rfl, Nat.le_of_ble_eq_true rfl⟩) (fun r1 hr1 => ?_)
  rcases hr1 with ⟨rfl, fr1⟩ | ⟨rfl, fr1⟩
  · skip
    refine lv_if_ne (tgt := 13) hx hb dX11_feed_7 (by decide) (fun c2 => ?_) (fun c2 => ?_)
    · skip
      refine lv_aload_n hx hb dX11_feed_13 rfl (lv_at hl 0 rfl) ?_
      refine gX_11_4 hx hb ht hown hK hP m_419 dX11_feed_14 ?_
      have i_8_2 : 0 ≤ (iv 8 2).toInt ∧ (iv 8 2).toInt ≤ 200 := hI.1 8 2
      refine gX_8_2 hx hb ht hown hK hP m_231 (v := (iv 8 2)) rfl dX11_feed_17 ?_
      refine lv_iload_n hx hb dX11_feed_20 rfl (lv_at hl 1 rfl) ?_
      refine lv_iadd hx hb dX11_feed_21 ?_
      refine lv_topi (fun v3 ev3 => ?_)
      have tv3 := z_add ev3 (rfl : ((iv 8 2)).toInt = _) (rfl : (n).toInt = _) (by omega) (by omega)
      refine lv_sipush (v := 200) hx hb dX11_feed_22 (by decide) ?_
      refine lv_icmp_le (tgt := 33) hx hb dX11_feed_25 (by decide) (fun c4 => ?_) (fun c4 => ?_)
      · have fc4 := z_le (rfl : (v3).toInt = _) (by decide : (200 : Int32).toInt = 200) c4
        refine lv_aload_n hx hb dX11_feed_33 rfl (lv_at hl 0 rfl) ?_
        refine gX_11_4 hx hb ht hown hK hP m_419 dX11_feed_34 ?_
        refine lv_iload_n hx hb dX11_feed_37 rfl (lv_at hl 1 rfl) ?_
        refine lv_lload_n hx hb dX11_feed_38 rfl (lv_at hl 2 rfl) ?_
        have hFc := free_all hD hS hA
        refine va_calli (va_runV (As := [.int n, .long k]) (rest := []) ⟨hx, hb, hml, hown, ht⟩ (c_X8_take_r l dC dI s.heap.size h g ca iv lv fa la hI n k ⟨by omega, by omega⟩ (show ((iv 8 2) : Int32).toInt + (n : Int32).toInt ≤ 200 from by omega)) (kV 2 ht m_672 m_673 m_674 m_82 m_675 rfl rfl hd_X8_take_v ⟨Nat.le_of_ble_eq_true rfl, Nat.le_of_ble_eq_true rfl⟩) (vW hP hK hD (rX_8 hK hP)) rfl rfl hl.1 rfl (lv_room (Nat.le_of_ble_eq_true rfl)) dX11_feed_39 ⟨Nat.le_of_ble_eq_true rfl, Nat.le_of_ble_eq_true rfl⟩) hS (fun q _ h => hFc q h) hFc (fun r5 u t H1 locs ht9 hvm hr5 hB hz1 hk1 hS => ?_)
        obtain ⟨n6, n7, hn7, xr5_0, xr5_1, xr5_2, xr5_3, hr5, rfl⟩ := hr5
        have hn6 : ∀ j, inb (bA 8 1 j) (n6 j) := fun j => full_i _
        have hn7 : 0 ≤ n7.toInt ∧ n7.toInt ≤ 200 := hn7
        obtain ⟨hP, hD⟩ := hB
        rw [ht9] at hP
        generalize H1 = H at hP hS ⊢
        have hP : va_P (dC, dI) classes (WX h g ca (u2 iv 8 2 n7) lv (u2 fa 8 1 n6) la) H := hP
        have hD : va_D A (WX h g ca (u2 iv 8 2 n7) lv (u2 fa 8 1 n6) la) := (show va_D _ (WX h g ca (u2 iv 8 2 n7) lv (u2 fa 8 1 n6) la) from hD).weaken (fun _ _ _ h => hFc _ h)
        have xr5_0 : (r5 : Int32).toInt = ((iv 8 2) : Int32).toInt + (n : Int32).toInt := xr5_0
        have xr5_1 : (n7 : Int32).toInt = ((iv 8 2) : Int32).toInt + (n : Int32).toInt := xr5_1
        have xr5_2 : ∀ j : Nat, ((j : Int) < ((iv 8 2) : Int32).toInt ∨ ((iv 8 2) : Int32).toInt + (n : Int32).toInt ≤ (j : Int)) → n6 j = (fa 8 1) j := xr5_2
        have xr5_3 : ∀ j : Nat, ((iv 8 2) : Int32).toInt ≤ (j : Int) → (j : Int) < ((iv 8 2) : Int32).toInt + (n : Int32).toInt → n6 j = xb (k : Int64) (Int32.ofInt (8 * (((iv 8 2) : Int32).toInt + (n : Int32).toInt - 1 - (j : Int)))) := xr5_3
        have hP9 : va_P (dC, dI) classes (WX h g ca (u2 iv 8 2 n7) lv (u2 fa 8 1 n6) la) H := hP
        have hD9 : va_D A (WX h g ca (u2 iv 8 2 n7) lv (u2 fa 8 1 n6) la) := hD
        exact W.iret (v := r5) hx hb hr (fun t ht9 hW => ⟨⟨r5, ((u2 iv 8 2 n7), lv, (u2 fa 8 1 n6), la), rfl, ⟨n6, n7, (show inb (0, 200) n7 from ⟨by omega, by omega⟩), (show (((r5 : Int32).toInt = -100002 ∧ ¬ (1 ≤ (n).toInt ∧ (n).toInt ≤ 8) ∧ (n7 : Int32).toInt = (iv 8 2).toInt) ∨ ((r5 : Int32).toInt = -100004 ∧ (1 ≤ (n).toInt ∧ (n).toInt ≤ 8) ∧ 200 < (iv 8 2).toInt + (n).toInt ∧ (n7 : Int32).toInt = (iv 8 2).toInt) ∨ ((1 ≤ (n).toInt ∧ (n).toInt ≤ 8) ∧ (iv 8 2).toInt + (n).toInt ≤ 200 ∧ (r5 : Int32).toInt = (iv 8 2).toInt + (n).toInt ∧ (n7 : Int32).toInt = (iv 8 2).toInt + (n).toInt)) from by omega), (show (((r5 : Int32).toInt < 0 ∧ ∀ j : Nat, n6 j = (fa 8 1) j) ∨ (0 ≤ (r5 : Int32).toInt ∧ (∀ j : Nat, ((j : Int) < (iv 8 2).toInt ∨ (iv 8 2).toInt + (n).toInt ≤ (j : Int)) → n6 j = (fa 8 1) j) ∧ (∀ j : Nat, (iv 8 2).toInt ≤ (j : Int) → (j : Int) < (iv 8 2).toInt + (n).toInt → n6 j = xb k (Int32.ofInt (8 * ((iv 8 2).toInt + (n).toInt - 1 - (j : Int))))))) from Or.inr ⟨by omega, xr5_2, xr5_3⟩), ⟨by omega, by omega⟩, rfl⟩, by rw [ht9]; exact hP9, hD9⟩, hS.F ht9⟩) hS.2.2 dX11_feed_42
      · have fc4 := z_nle (rfl : (v3).toInt = _) (by decide : (200 : Int32).toInt = 200) c4
        refine lv_ldc hx hb hown (ht _ m_463) dX11_feed_28 ?_
        refine lv_goto (tgt := 42) hx hb dX11_feed_30 (by decide) ?_
        have : ((-100004) : Int32).toInt = (-100004) := (by decide)
        have hP9 : va_P (dC, dI) classes (WX h g ca (u2 iv 8 2 (iv 8 2)) lv (u2 fa 8 1 (fa 8 1)) la) s.heap := hP
        have hD9 : va_D A (WX h g ca (u2 iv 8 2 (iv 8 2)) lv (u2 fa 8 1 (fa 8 1)) la) := hD
        exact W.iret (v := (-100004)) hx hb hr (fun t ht9 hW => ⟨⟨(-100004), ((u2 iv 8 2 (iv 8 2)), lv, (u2 fa 8 1 (fa 8 1)), la), rfl, ⟨(fa 8 1), (iv 8 2), (hI.1 8 2), (show ((((-100004) : Int32).toInt = -100002 ∧ ¬ (1 ≤ (n).toInt ∧ (n).toInt ≤ 8) ∧ ((iv 8 2) : Int32).toInt = (iv 8 2).toInt) ∨ (((-100004) : Int32).toInt = -100004 ∧ (1 ≤ (n).toInt ∧ (n).toInt ≤ 8) ∧ 200 < (iv 8 2).toInt + (n).toInt ∧ ((iv 8 2) : Int32).toInt = (iv 8 2).toInt) ∨ ((1 ≤ (n).toInt ∧ (n).toInt ≤ 8) ∧ (iv 8 2).toInt + (n).toInt ≤ 200 ∧ ((-100004) : Int32).toInt = (iv 8 2).toInt + (n).toInt ∧ ((iv 8 2) : Int32).toInt = (iv 8 2).toInt + (n).toInt)) from by omega), (show ((((-100004) : Int32).toInt < 0 ∧ ∀ j : Nat, (fa 8 1) j = (fa 8 1) j) ∨ (0 ≤ ((-100004) : Int32).toInt ∧ (∀ j : Nat, ((j : Int) < (iv 8 2).toInt ∨ (iv 8 2).toInt + (n).toInt ≤ (j : Int)) → (fa 8 1) j = (fa 8 1) j) ∧ (∀ j : Nat, (iv 8 2).toInt ≤ (j : Int) → (j : Int) < (iv 8 2).toInt + (n).toInt → (fa 8 1) j = xb k (Int32.ofInt (8 * ((iv 8 2).toInt + (n).toInt - 1 - (j : Int))))))) from Or.inl ⟨by omega, fun j => rfl⟩), ⟨by decide, by decide⟩, rfl⟩, by rw [ht9]; exact hP9, hD9⟩, hS.F ht9⟩) hS.2.2 dX11_feed_42
    · exact absurd c2 (by decide)
  · skip
    refine lv_if_ne (tgt := 13) hx hb dX11_feed_7 (by decide) (fun c8 => ?_) (fun c8 => ?_)
    · exact absurd rfl c8
    · skip
      refine lv_ldc hx hb hown (ht _ m_456) dX11_feed_10 ?_
      have : ((-100002) : Int32).toInt = (-100002) := (by decide)
      have i_8_2 : 0 ≤ (iv 8 2).toInt ∧ (iv 8 2).toInt ≤ 200 := hI.1 8 2
      have hP9 : va_P (dC, dI) classes (WX h g ca (u2 iv 8 2 (iv 8 2)) lv (u2 fa 8 1 (fa 8 1)) la) s.heap := hP
      have hD9 : va_D A (WX h g ca (u2 iv 8 2 (iv 8 2)) lv (u2 fa 8 1 (fa 8 1)) la) := hD
      exact W.iret (v := (-100002)) hx hb hr (fun t ht9 hW => ⟨⟨(-100002), ((u2 iv 8 2 (iv 8 2)), lv, (u2 fa 8 1 (fa 8 1)), la), rfl, ⟨(fa 8 1), (iv 8 2), (hI.1 8 2), (show ((((-100002) : Int32).toInt = -100002 ∧ ¬ (1 ≤ (n).toInt ∧ (n).toInt ≤ 8) ∧ ((iv 8 2) : Int32).toInt = (iv 8 2).toInt) ∨ (((-100002) : Int32).toInt = -100004 ∧ (1 ≤ (n).toInt ∧ (n).toInt ≤ 8) ∧ 200 < (iv 8 2).toInt + (n).toInt ∧ ((iv 8 2) : Int32).toInt = (iv 8 2).toInt) ∨ ((1 ≤ (n).toInt ∧ (n).toInt ≤ 8) ∧ (iv 8 2).toInt + (n).toInt ≤ 200 ∧ ((-100002) : Int32).toInt = (iv 8 2).toInt + (n).toInt ∧ ((iv 8 2) : Int32).toInt = (iv 8 2).toInt + (n).toInt)) from by omega), (show ((((-100002) : Int32).toInt < 0 ∧ ∀ j : Nat, (fa 8 1) j = (fa 8 1) j) ∨ (0 ≤ ((-100002) : Int32).toInt ∧ (∀ j : Nat, ((j : Int) < (iv 8 2).toInt ∨ (iv 8 2).toInt + (n).toInt ≤ (j : Int)) → (fa 8 1) j = (fa 8 1) j) ∧ (∀ j : Nat, (iv 8 2).toInt ≤ (j : Int) → (j : Int) < (iv 8 2).toInt + (n).toInt → (fa 8 1) j = xb k (Int32.ofInt (8 * ((iv 8 2).toInt + (n).toInt - 1 - (j : Int))))))) from Or.inl ⟨by omega, fun j => rfl⟩), ⟨by decide, by decide⟩, rfl⟩, by rw [ht9]; exact hP9, hD9⟩, hS.F ht9⟩) hS.2.2 dX11_feed_12
set_option maxHeartbeats 4000000 in
set_option maxRecDepth 100000 in
/-- X12_feed -/
theorem c_X12_feed_r (l : Launch) (dC : Nat → ClassId) (dI : Nat → Nat → Nat) (sz : Nat) (h : Nat) (g : Nat → Nat → Nat) (ca : Nat → Nat → ClassId) (iv : Nat → Nat → Int32) (lv : Nat → Nat → Int64) (fa : Nat → Nat → Nat → Int32) (la : Nat → Nat → Nat → Int64) (hI : IX iv fa) (n : Int32) (k : Int64) : Met l yX12_feed (wc yX12_feed cX12_feed 5 (some .int)) ({ frames := 1, cells := 0, slots := 0, locals := 25 } : Room) (pW (dC, dI) classes (WM h g ca iv lv fa la) (TM ca) sz [.ref h, .int n, .long k]) (va_Qi (fun r (u : SS) => ∃ (na_12_32 : Nat → Int32) (ni_12_33 : Int32), inb (bI 12 33) ni_12_33 ∧ (((r.toInt = -100002 ∧ ¬ (1 ≤ n.toInt ∧ n.toInt ≤ 8) ∧ (ni_12_33).toInt = (iv 12 33).toInt) ∨ (r.toInt = -100004 ∧ (1 ≤ n.toInt ∧ n.toInt ≤ 8) ∧ 200 < (iv 12 33).toInt + n.toInt ∧ (ni_12_33).toInt = (iv 12 33).toInt) ∨ ((1 ≤ n.toInt ∧ n.toInt ≤ 8) ∧ (iv 12 33).toInt + n.toInt ≤ 200 ∧ r.toInt = (iv 12 33).toInt + n.toInt ∧ (ni_12_33).toInt = (iv 12 33).toInt + n.toInt))) ∧ (((r.toInt < 0 ∧ ∀ j : Nat, na_12_32 j = (fa 12 32) j) ∨ (0 ≤ r.toInt ∧ (∀ j : Nat, ((j : Int) < (iv 12 33).toInt ∨ (iv 12 33).toInt + n.toInt ≤ (j : Int)) → na_12_32 j = (fa 12 32) j) ∧ (∀ j : Nat, (iv 12 33).toInt ≤ (j : Int) → (j : Int) < (iv 12 33).toInt + n.toInt → na_12_32 j = yb k (Int32.ofInt (8 * ((iv 12 33).toInt + n.toInt - 1 - (j : Int)))))))) ∧ ((-100004) ≤ r.toInt ∧ r.toInt ≤ 200) ∧ u = ((u2 iv 12 33 ni_12_33), lv, (u2 fa 12 32 na_12_32), la)) (bM (dC, dI) h g ca (va_A (WM h g ca iv lv fa la) sz)) (va_A (WM h g ca iv lv fa la) sz)) 0 0 (va_A (WM h g ca iv lv fa la) sz) := by
  refine Met.ofW (cc := cX12_feed) (maxL := 5) (ret := (some .int)) (by decide) rfl ?_
  intro p e s m args below meth c s₁ B hml hv
  obtain ⟨rfl, hsz, hP, hK, hD0⟩ := hv
  have hx := B.exec
  have hb := B.bytes
  have hr := B.returns
  have ht := tb_tl (atoms_spec (ws := wc yX12_feed cX12_feed 5 (some .int)) B.pre)
  have hown : s.vm.findClass RX12 = some m.cls := findClass_of_methodNamed B.named
  have hlocks := B.notSynchronized
  subst hsz
  have hD := hD0.self (sz := s.heap.size)
  generalize hAe : va_A (WM h g ca iv lv fa la) s.heap.size = A at hD ⊢
  have hA : ∀ q : Nat, s.heap.size ≤ q → A q := fun q h => by rw [← hAe]; exact Or.inr h
  have hS : va_S A s.heap s.heap [] := va_S.rf
  have hl := lv_entry [.ref h, .int n, .long k] (n := 5) (Nat.le_of_ble_eq_true rfl)
  rw [lg_entry_eq]
  generalize (lg_sl [.ref h, .int n, .long k] ++ List.replicate (5 - (lg_sl [.ref h, .int n, .long k]).length) Slot.unset).toArray = ls at hl ⊢
  have hl : lv_has ls 5 [(0, .ref h), (1, .int n), (2, .long k)] := hl
  refine lv_iload_n hx hb dX12_feed_0 rfl (lv_at hl 1 rfl) ?_
  refine lv_i2l (v := (n.toInt64)) hx hb dX12_feed_1 rfl ?_
  refine lv_lconst (v := 1) hx hb dX12_feed_2 (by decide) ?_
  refine lv_ldc2 hx hb hown (ht _ m_1452) dX12_feed_3 ?_
  refine vp_callSi (W.runS (As := [.long (n.toInt64), .long 1, .long 8]) (rest := []) ⟨hx, hb, hml, hown, ht⟩ (c_X12_in l dC dI (n.toInt64) 1 8 (n.toInt) (1) (8) ((Int32.toInt_toInt64 n).trans rfl) (by decide : (1 : Int64).toInt = 1) (by decide : (8 : Int64).toInt = 8)) (kS 3 ht m_1370 m_1371 m_89 m_1372 rfl rfl hd_X12_in_v ⟨Nat.le_of_ble_eq_true rfl, Nat.le_of_ble_eq_true rfl⟩) (sR noP (hK.sub (tys' := []) [] rfl)) rfl rfl hl.1 rfl (lv_room (Nat.le_of_ble_eq_true rfl)) dX12_feed_6 ⟨Nat.le_of_ble_eq_true rfl, Nat.le_of_ble_eq_true rfl⟩) (fun r1 hr1 => ?_)
  rcases hr1 with ⟨rfl, fr1⟩ | ⟨rfl, fr1⟩
  · skip
    refine lv_if_ne (tgt := 15) hx hb dX12_feed_9 (by decide) (fun c2 => ?_) (fun c2 => ?_)
    · skip
      refine lv_aload_n hx hb dX12_feed_15 rfl (lv_at hl 0 rfl) ?_
      have i_12_33 : 0 ≤ (iv 12 33).toInt ∧ (iv 12 33).toInt ≤ 200 := hI.1 12 33
      refine gM_12_33 hx hb ht hown hK hP m_1172 (v := (iv 12 33)) rfl dX12_feed_16 ?_
      refine lv_iload_n hx hb dX12_feed_19 rfl (lv_at hl 1 rfl) ?_
      refine lv_iadd hx hb dX12_feed_20 ?_
      refine lv_topi (fun v3 ev3 => ?_)
      have tv3 := z_add ev3 (rfl : ((iv 12 33)).toInt = _) (rfl : (n).toInt = _) (by omega) (by omega)
      refine lv_sipush (v := 200) hx hb dX12_feed_21 (by decide) ?_
      refine lv_icmp_le (tgt := 30) hx hb dX12_feed_24 (by decide) (fun c4 => ?_) (fun c4 => ?_)
      · have fc4 := z_le (rfl : (v3).toInt = _) (by decide : (200 : Int32).toInt = 200) c4
        refine lv_iload_n hx hb dX12_feed_30 rfl (lv_at hl 1 rfl) ?_
        refine lv_iconst (v := 1) hx hb dX12_feed_31 (by decide) ?_
        refine lv_isub hx hb dX12_feed_32 ?_
        refine lv_topi (fun v5 ev5 => ?_)
        have tv5 := z_sub ev5 (rfl : (n).toInt = _) (by decide : (1 : Int32).toInt = 1) (by omega) (by omega)
        refine lv_istore (lv' := [(4, .int v5), (0, .ref h), (1, .int n), (2, .long k)]) hx hb dX12_feed_33 hl (by decide) rfl (fun ls hl => ?_)
        have lp25 : ∀ (nn25 : Nat) (x24_4 : Int32) (w24_i_12_33 : Int32) (w24_a_12_32 : Nat → Int32), (-1) ≤ x24_4.toInt ∧ x24_4.toInt ≤ 7 → 0 ≤ w24_i_12_33.toInt ∧ w24_i_12_33.toInt ≤ 200 → (∀ j, inb (bA 12 32 j) (w24_a_12_32 j)) → (∀ j : Nat, ((j : Int) < (iv 12 33).toInt ∨ (w24_i_12_33 : Int32).toInt ≤ (j : Int)) → w24_a_12_32 j = (fa 12 32) j) → (∀ j : Nat, (iv 12 33).toInt ≤ (j : Int) → (j : Int) < (w24_i_12_33 : Int32).toInt → w24_a_12_32 j = yb k (Int32.ofInt (8 * ((iv 12 33).toInt + (n).toInt - 1 - (j : Int))))) → (w24_i_12_33 : Int32).toInt + (x24_4 : Int32).toInt = (iv 12 33).toInt + (n).toInt - 1 → -1 ≤ (x24_4 : Int32).toInt → (iv 12 33).toInt ≤ (w24_i_12_33 : Int32).toInt → (w24_i_12_33 : Int32).toInt + (x24_4 : Int32).toInt ≤ 199 → x24_4.toInt - (-1) < (nn25 : Int) → ∀ (H : Heap) (locs : List Loc), ∀ (ls : Array Slot), va_P (dC, dI) classes (WM h g ca (u2 iv 12 33 w24_i_12_33) lv (u2 fa 12 32 w24_a_12_32) la) H → va_D A (WM h g ca (u2 iv 12 33 w24_i_12_33) lv (u2 fa 12 32 w24_a_12_32) la) → va_S A s.heap H locs → lv_has ls 5 [(4, .int x24_4), (0, .ref h), (1, .int n), (2, .long k)] → W p l e ({ frames := 1, cells := 0, slots := 0, locals := 25 } : Room) s m ([.ref h, .int n, .long k] : List Value).toArray below meth c H locs 0 0 (MQ below (va_Qi (fun r (u : SS) => ∃ (na_12_32 : Nat → Int32) (ni_12_33 : Int32), inb (bI 12 33) ni_12_33 ∧ (((r.toInt = -100002 ∧ ¬ (1 ≤ n.toInt ∧ n.toInt ≤ 8) ∧ (ni_12_33).toInt = (iv 12 33).toInt) ∨ (r.toInt = -100004 ∧ (1 ≤ n.toInt ∧ n.toInt ≤ 8) ∧ 200 < (iv 12 33).toInt + n.toInt ∧ (ni_12_33).toInt = (iv 12 33).toInt) ∨ ((1 ≤ n.toInt ∧ n.toInt ≤ 8) ∧ (iv 12 33).toInt + n.toInt ≤ 200 ∧ r.toInt = (iv 12 33).toInt + n.toInt ∧ (ni_12_33).toInt = (iv 12 33).toInt + n.toInt))) ∧ (((r.toInt < 0 ∧ ∀ j : Nat, na_12_32 j = (fa 12 32) j) ∨ (0 ≤ r.toInt ∧ (∀ j : Nat, ((j : Int) < (iv 12 33).toInt ∨ (iv 12 33).toInt + n.toInt ≤ (j : Int)) → na_12_32 j = (fa 12 32) j) ∧ (∀ j : Nat, (iv 12 33).toInt ≤ (j : Int) → (j : Int) < (iv 12 33).toInt + n.toInt → na_12_32 j = yb k (Int32.ofInt (8 * ((iv 12 33).toInt + n.toInt - 1 - (j : Int)))))))) ∧ ((-100004) ≤ r.toInt ∧ r.toInt ≤ 200) ∧ u = ((u2 iv 12 33 ni_12_33), lv, (u2 fa 12 32 na_12_32), la)) (bM (dC, dI) h g ca A) A) ([.ref h, .int n, .long k] : List Value).toArray s 0 0 A) (F0 m 35 ls []) := by
          intro nn25
          induction nn25 with
          | zero => intro x24_4 w24_i_12_33 w24_a_12_32 hx24_4 hw24_i_12_33 hw24_a_12_32 hq25_0 hq25_1 hq25_2 hq25_3 hq25_4 hq25_5 hm25; exfalso; omega
          | succ nn25 ih25 =>
            intro x24_4 w24_i_12_33 w24_a_12_32 hx24_4 hw24_i_12_33 hw24_a_12_32 hq25_0 hq25_1 hq25_2 hq25_3 hq25_4 hq25_5 hm25 H locs ls hP hD hS hl
            refine lv_iload hx hb dX12_feed_35 (lv_at hl 0 rfl) ?_
            refine lv_if_lt (tgt := 77) hx hb dX12_feed_37 (by decide) (fun c26 => ?_) (fun c26 => ?_)
            · have fc26 := z_lt (rfl : (x24_4).toInt = _) (by decide : (0 : Int32).toInt = 0) c26
              refine lv_aload_n hx hb dX12_feed_77 rfl (lv_at hl 1 rfl) ?_
              refine gM_12_33 hx hb ht hown hK hP m_1172 (v := w24_i_12_33) rfl dX12_feed_78 ?_
              have hP9 : va_P (dC, dI) classes (WM h g ca (u2 iv 12 33 w24_i_12_33) lv (u2 fa 12 32 w24_a_12_32) la) H := hP
              have hD9 : va_D A (WM h g ca (u2 iv 12 33 w24_i_12_33) lv (u2 fa 12 32 w24_a_12_32) la) := hD
              exact W.iret (v := w24_i_12_33) hx hb hr (fun t ht9 hW => ⟨⟨w24_i_12_33, ((u2 iv 12 33 w24_i_12_33), lv, (u2 fa 12 32 w24_a_12_32), la), rfl, ⟨w24_a_12_32, w24_i_12_33, (show inb (0, 200) w24_i_12_33 from ⟨by omega, by omega⟩), (show (((w24_i_12_33 : Int32).toInt = -100002 ∧ ¬ (1 ≤ (n).toInt ∧ (n).toInt ≤ 8) ∧ (w24_i_12_33 : Int32).toInt = (iv 12 33).toInt) ∨ ((w24_i_12_33 : Int32).toInt = -100004 ∧ (1 ≤ (n).toInt ∧ (n).toInt ≤ 8) ∧ 200 < (iv 12 33).toInt + (n).toInt ∧ (w24_i_12_33 : Int32).toInt = (iv 12 33).toInt) ∨ ((1 ≤ (n).toInt ∧ (n).toInt ≤ 8) ∧ (iv 12 33).toInt + (n).toInt ≤ 200 ∧ (w24_i_12_33 : Int32).toInt = (iv 12 33).toInt + (n).toInt ∧ (w24_i_12_33 : Int32).toInt = (iv 12 33).toInt + (n).toInt)) from by omega), (show (((w24_i_12_33 : Int32).toInt < 0 ∧ ∀ j : Nat, w24_a_12_32 j = (fa 12 32) j) ∨ (0 ≤ (w24_i_12_33 : Int32).toInt ∧ (∀ j : Nat, ((j : Int) < (iv 12 33).toInt ∨ (iv 12 33).toInt + (n).toInt ≤ (j : Int)) → w24_a_12_32 j = (fa 12 32) j) ∧ (∀ j : Nat, (iv 12 33).toInt ≤ (j : Int) → (j : Int) < (iv 12 33).toInt + (n).toInt → w24_a_12_32 j = yb k (Int32.ofInt (8 * ((iv 12 33).toInt + (n).toInt - 1 - (j : Int))))))) from Or.inr ⟨by omega, (fun j h1 => hq25_0 j (by omega)), (fun j h1 h2 => hq25_1 j h1 (by omega))⟩), ⟨by omega, by omega⟩, rfl⟩, by rw [ht9]; exact hP9, hD9⟩, hS.F ht9⟩) hS.2.2 dX12_feed_81
            · have fc26 := z_nlt (rfl : (x24_4).toInt = _) (by decide : (0 : Int32).toInt = 0) c26
              refine lv_aload_n hx hb dX12_feed_40 rfl (lv_at hl 1 rfl) ?_
              refine gM_12_32 hx hb ht hown hK hP m_1171 dX12_feed_41 ?_
              refine lv_aload_n hx hb dX12_feed_44 rfl (lv_at hl 1 rfl) ?_
              refine gM_12_33 hx hb ht hown hK hP m_1172 (v := w24_i_12_33) rfl dX12_feed_45 ?_
              refine lv_lload_n hx hb dX12_feed_48 rfl (lv_at hl 3 rfl) ?_
              refine lv_bipush (v := 8) hx hb dX12_feed_49 (by decide) ?_
              refine lv_iload hx hb dX12_feed_51 (lv_at hl 0 rfl) ?_
              refine lv_imul hx hb dX12_feed_53 ?_
              refine lv_topi (fun v27 ev27 => ?_)
              have tv27 := z_mul ev27 (by decide : (8 : Int32).toInt = 8) (rfl : (x24_4).toInt = _) (by omega) (by omega)
              obtain ⟨w28, ew28⟩ : ∃ y : Int64, k >>> ((v27 : Int32).toInt64 &&& 63) = y := ⟨_, rfl⟩
              refine lv_lshr (v := w28) hx hb dX12_feed_54 ew28 ?_
              refine lv_ldc2 hx hb hown (ht _ m_1453) dX12_feed_55 ?_
              refine lv_land hx hb dX12_feed_58 ?_
              refine lv_topl (fun w29 ew29 => ?_)
              obtain ⟨v30, ev30⟩ : ∃ y : Int32, w29.toInt32 = y := ⟨_, rfl⟩
              refine lv_l2i (v := v30) hx hb dX12_feed_59 ev30 ?_
              have : 0 ≤ (w24_i_12_33 : Int32).toInt ∧ (w24_i_12_33 : Int32).toInt ≤ 199 := ⟨by omega, by omega⟩
              refine tM_12_32 hx hb hK hP hD hS (f0 := w24_a_12_32) rfl (i := w24_i_12_33) (x := v30) (vp_in_iff.mpr ⟨by omega, by omega⟩) dX12_feed_60 (fun f31 ef31 H locs hP hD hS => ?_)
              have hf31 : ∀ j, inb (bA 12 32 j) (f31 j) := fun j => full_i _
              have hP : va_P (dC, dI) classes (WM h g ca (u2 iv 12 33 w24_i_12_33) lv (u2 fa 12 32 f31) la) H := hP
              have hD : va_D A (WM h g ca (u2 iv 12 33 w24_i_12_33) lv (u2 fa 12 32 f31) la) := hD
              refine lv_aload_n hx hb dX12_feed_61 rfl (lv_at hl 1 rfl) ?_
              refine lv_dup hx hb dX12_feed_62 rfl ?_
              refine gM_12_33 hx hb ht hown hK hP m_1172 (v := w24_i_12_33) rfl dX12_feed_63 ?_
              refine lv_iconst (v := 1) hx hb dX12_feed_66 (by decide) ?_
              refine lv_iadd hx hb dX12_feed_67 ?_
              refine lv_topi (fun v32 ev32 => ?_)
              have tv32 := z_add ev32 (rfl : (w24_i_12_33).toInt = _) (by decide : (1 : Int32).toInt = 1) (by omega) (by omega)
              refine pM_12_33 (v := v32) hx hb ht hown hK hP hD hS m_1172 dX12_feed_68 (fun H locs hP hD hS => ?_)
              have hP : va_P (dC, dI) classes (WM h g ca (u2 iv 12 33 v32) lv (u2 fa 12 32 f31) la) H := hP
              have hD : va_D A (WM h g ca (u2 iv 12 33 v32) lv (u2 fa 12 32 f31) la) := hD
              obtain ⟨v33, ev33⟩ : ∃ y : Int32, y = x24_4 + (-1) := ⟨_, rfl⟩
              have tv33 := z_add ev33 rfl (by decide : ((-1) : Int32).toInt = (-1)) (by omega) (by omega)
              refine lv_iinc (v := v33) (lv' := [(4, .int v33), (0, .ref h), (1, .int n), (2, .long k)]) hx hb dX12_feed_71 hl (k := 0) rfl (by rw [ev33]; rfl) (by decide) rfl (fun ls hl => ?_)
              refine lv_goto (tgt := 35) hx hb dX12_feed_74 (by decide) ?_
              exact ih25 v33 v32 f31 ⟨by omega, by omega⟩ ⟨by omega, by omega⟩ hf31 (show ∀ j : Nat, ((j : Int) < (iv 12 33).toInt ∨ (v32 : Int32).toInt ≤ (j : Int)) → f31 j = (fa 12 32) j from (fun j h1 => by rw [ef31, upd_ne (by show j ≠ (w24_i_12_33 : Int32).toInt.toNat; omega)]; exact hq25_0 j (by omega))) (show ∀ j : Nat, (iv 12 33).toInt ≤ (j : Int) → (j : Int) < (v32 : Int32).toInt → f31 j = yb k (Int32.ofInt (8 * ((iv 12 33).toInt + (n).toInt - 1 - (j : Int)))) from (fun j h1 h2 => by
                    by_cases hj : (j : Int) < (w24_i_12_33 : Int32).toInt
                    · rw [ef31, upd_ne (by show j ≠ (w24_i_12_33 : Int32).toInt.toNat; omega)]; exact hq25_1 j h1 hj
                    · have hy : Int32.ofInt (8 * ((iv 12 33).toInt + n.toInt - 1 - (j : Int))) = v27 := by
                        rw [show 8 * ((iv 12 33).toInt + n.toInt - 1 - (j : Int)) = (v27 : Int32).toInt from by omega]; exact Int32.ofInt_toInt _
                      have hj2 : j = (w24_i_12_33 : Int32).toNatClampNeg := by show _ = (w24_i_12_33 : Int32).toInt.toNat; omega
                      rw [hy, hj2, ef31, upd_eq, ← ev30, ew29, ← ew28]; rfl)) (show (v32 : Int32).toInt + (v33 : Int32).toInt = (iv 12 33).toInt + (n).toInt - 1 from by omega) (show -1 ≤ (v33 : Int32).toInt from by omega) (show (iv 12 33).toInt ≤ (v32 : Int32).toInt from by omega) (show (v32 : Int32).toInt + (v33 : Int32).toInt ≤ 199 from by omega) (by omega) _ _ ls hP hD hS (lv_sub hl [0, 1, 2, 3] rfl)
        exact lp25 9 v5 (iv 12 33) (fa 12 32) ⟨by omega, by omega⟩ ⟨by omega, by omega⟩ (hI.2 12 32) (show ∀ j : Nat, ((j : Int) < (iv 12 33).toInt ∨ ((iv 12 33) : Int32).toInt ≤ (j : Int)) → (fa 12 32) j = (fa 12 32) j from fun j h1 => rfl) (show ∀ j : Nat, (iv 12 33).toInt ≤ (j : Int) → (j : Int) < ((iv 12 33) : Int32).toInt → (fa 12 32) j = yb k (Int32.ofInt (8 * ((iv 12 33).toInt + (n).toInt - 1 - (j : Int)))) from fun j h1 h2 => absurd h1 (by omega)) (show ((iv 12 33) : Int32).toInt + (v5 : Int32).toInt = (iv 12 33).toInt + (n).toInt - 1 from by omega) (show -1 ≤ (v5 : Int32).toInt from by omega) (show (iv 12 33).toInt ≤ ((iv 12 33) : Int32).toInt from by omega) (show ((iv 12 33) : Int32).toInt + (v5 : Int32).toInt ≤ 199 from by omega) (by first | decide | omega) _ _ ls hP hD hS (lv_sub hl [0, 1, 2, 3] rfl)
      · have fc4 := z_nle (rfl : (v3).toInt = _) (by decide : (200 : Int32).toInt = 200) c4
        refine lv_ldc hx hb hown (ht _ m_1380) dX12_feed_27 ?_
        have : ((-100004) : Int32).toInt = (-100004) := (by decide)
        have hP9 : va_P (dC, dI) classes (WM h g ca (u2 iv 12 33 (iv 12 33)) lv (u2 fa 12 32 (fa 12 32)) la) s.heap := hP
        have hD9 : va_D A (WM h g ca (u2 iv 12 33 (iv 12 33)) lv (u2 fa 12 32 (fa 12 32)) la) := hD
        exact W.iret (v := (-100004)) hx hb hr (fun t ht9 hW => ⟨⟨(-100004), ((u2 iv 12 33 (iv 12 33)), lv, (u2 fa 12 32 (fa 12 32)), la), rfl, ⟨(fa 12 32), (iv 12 33), (hI.1 12 33), (show ((((-100004) : Int32).toInt = -100002 ∧ ¬ (1 ≤ (n).toInt ∧ (n).toInt ≤ 8) ∧ ((iv 12 33) : Int32).toInt = (iv 12 33).toInt) ∨ (((-100004) : Int32).toInt = -100004 ∧ (1 ≤ (n).toInt ∧ (n).toInt ≤ 8) ∧ 200 < (iv 12 33).toInt + (n).toInt ∧ ((iv 12 33) : Int32).toInt = (iv 12 33).toInt) ∨ ((1 ≤ (n).toInt ∧ (n).toInt ≤ 8) ∧ (iv 12 33).toInt + (n).toInt ≤ 200 ∧ ((-100004) : Int32).toInt = (iv 12 33).toInt + (n).toInt ∧ ((iv 12 33) : Int32).toInt = (iv 12 33).toInt + (n).toInt)) from by omega), (show ((((-100004) : Int32).toInt < 0 ∧ ∀ j : Nat, (fa 12 32) j = (fa 12 32) j) ∨ (0 ≤ ((-100004) : Int32).toInt ∧ (∀ j : Nat, ((j : Int) < (iv 12 33).toInt ∨ (iv 12 33).toInt + (n).toInt ≤ (j : Int)) → (fa 12 32) j = (fa 12 32) j) ∧ (∀ j : Nat, (iv 12 33).toInt ≤ (j : Int) → (j : Int) < (iv 12 33).toInt + (n).toInt → (fa 12 32) j = yb k (Int32.ofInt (8 * ((iv 12 33).toInt + (n).toInt - 1 - (j : Int))))))) from Or.inl ⟨by omega, fun j => rfl⟩), ⟨by decide, by decide⟩, rfl⟩, by rw [ht9]; exact hP9, hD9⟩, hS.F ht9⟩) hS.2.2 dX12_feed_29
    · exact absurd c2 (by decide)
  · skip
    refine lv_if_ne (tgt := 15) hx hb dX12_feed_9 (by decide) (fun c34 => ?_) (fun c34 => ?_)
    · exact absurd rfl c34
    · skip
      refine lv_ldc hx hb hown (ht _ m_1373) dX12_feed_12 ?_
      have : ((-100002) : Int32).toInt = (-100002) := (by decide)
      have i_12_33 : 0 ≤ (iv 12 33).toInt ∧ (iv 12 33).toInt ≤ 200 := hI.1 12 33
      have hP9 : va_P (dC, dI) classes (WM h g ca (u2 iv 12 33 (iv 12 33)) lv (u2 fa 12 32 (fa 12 32)) la) s.heap := hP
      have hD9 : va_D A (WM h g ca (u2 iv 12 33 (iv 12 33)) lv (u2 fa 12 32 (fa 12 32)) la) := hD
      exact W.iret (v := (-100002)) hx hb hr (fun t ht9 hW => ⟨⟨(-100002), ((u2 iv 12 33 (iv 12 33)), lv, (u2 fa 12 32 (fa 12 32)), la), rfl, ⟨(fa 12 32), (iv 12 33), (hI.1 12 33), (show ((((-100002) : Int32).toInt = -100002 ∧ ¬ (1 ≤ (n).toInt ∧ (n).toInt ≤ 8) ∧ ((iv 12 33) : Int32).toInt = (iv 12 33).toInt) ∨ (((-100002) : Int32).toInt = -100004 ∧ (1 ≤ (n).toInt ∧ (n).toInt ≤ 8) ∧ 200 < (iv 12 33).toInt + (n).toInt ∧ ((iv 12 33) : Int32).toInt = (iv 12 33).toInt) ∨ ((1 ≤ (n).toInt ∧ (n).toInt ≤ 8) ∧ (iv 12 33).toInt + (n).toInt ≤ 200 ∧ ((-100002) : Int32).toInt = (iv 12 33).toInt + (n).toInt ∧ ((iv 12 33) : Int32).toInt = (iv 12 33).toInt + (n).toInt)) from by omega), (show ((((-100002) : Int32).toInt < 0 ∧ ∀ j : Nat, (fa 12 32) j = (fa 12 32) j) ∨ (0 ≤ ((-100002) : Int32).toInt ∧ (∀ j : Nat, ((j : Int) < (iv 12 33).toInt ∨ (iv 12 33).toInt + (n).toInt ≤ (j : Int)) → (fa 12 32) j = (fa 12 32) j) ∧ (∀ j : Nat, (iv 12 33).toInt ≤ (j : Int) → (j : Int) < (iv 12 33).toInt + (n).toInt → (fa 12 32) j = yb k (Int32.ofInt (8 * ((iv 12 33).toInt + (n).toInt - 1 - (j : Int))))))) from Or.inl ⟨by omega, fun j => rfl⟩), ⟨by decide, by decide⟩, rfl⟩, by rw [ht9]; exact hP9, hD9⟩, hS.F ht9⟩) hS.2.2 dX12_feed_14
set_option maxHeartbeats 4000000 in
set_option maxRecDepth 100000 in
/-- X11_rule -/
theorem c_X11_rule_r (l : Launch) (dC : Nat → ClassId) (dI : Nat → Nat → Nat) (sz : Nat) (ak av : Nat → Nat) (h : Nat) (g : Nat → Nat → Nat) (ca : Nat → Nat → ClassId) (iv : Nat → Nat → Int32) (lv : Nat → Nat → Int64) (fa : Nat → Nat → Nat → Int32) (la : Nat → Nat → Nat → Int64) (hI : IX iv fa) (a : Int32) : Met l yX11_rule (wc yX11_rule cX11_rule 3 (some .int)) ({ frames := 9, cells := 0, slots := 0, locals := 201 } : Room) (pWZ ak av (dC, dI) classes (WX h g ca iv lv fa la) (TX ca) sz [.ref h, .int a]) (va_Qi (fun r (u : SS) => ∃ (na_1_0 : Nat → Int32) (na_1_1 : Nat → Int32) (na_1_2 : Nat → Int32) (na_1_3 : Nat → Int32) (na_1_4 : Nat → Int32) (na_1_5 : Nat → Int32) (ni_1_7 : Int32) (ni_1_8 : Int32) (ni_8_2 : Int32) (ni_8_3 : Int32) (ni_8_4 : Int32) (ni_8_5 : Int32), (∀ j, inb (bA 1 1 j) (na_1_1 j)) ∧ inb (bI 1 7) ni_1_7 ∧ inb (bI 1 8) ni_1_8 ∧ inb (bI 8 2) ni_8_2 ∧ inb (bI 8 3) ni_8_3 ∧ inb (bI 8 4) ni_8_4 ∧ inb (bI 8 5) ni_8_5 ∧ (((r.toInt = -100002 ∧ ¬ (0 ≤ a.toInt ∧ a.toInt ≤ 3000) ∧ (ni_8_2).toInt = (iv 8 2).toInt ∧ (ni_1_7).toInt = (iv 1 7).toInt ∧ (ni_8_3).toInt = (iv 8 3).toInt) ∨ (r.toInt = -100004 ∧ (0 ≤ a.toInt ∧ a.toInt ≤ 3000) ∧ 8 ≤ (iv 1 7).toInt ∧ (ni_8_2).toInt = (iv 8 2).toInt ∧ (ni_1_7).toInt = (iv 1 7).toInt ∧ (ni_8_3).toInt = (iv 8 3).toInt) ∨ ((0 ≤ a.toInt ∧ a.toInt ≤ 3000) ∧ (iv 1 7).toInt < 8 ∧ (ni_8_2).toInt = 0 ∧ ((ni_8_4).toInt ≠ 0 ∨ (ni_8_3).toInt = -1) ∧ (∃ c : Nat, Out (fun j => ((fa 8 1) j).toInt) (iv 8 2).toInt (iv 1 7).toInt (ni_8_4).toInt (ni_8_3).toInt c (fun i => (na_1_2 (12 * ((iv 1 7).toInt).toNat + i)).toInt) (fun i => (na_1_3 (12 * ((iv 1 7).toInt).toNat + i)).toInt) (fun i => (na_1_4 (12 * ((iv 1 7).toInt).toNat + i)).toInt) (fun i j => (na_1_5 (8 * (12 * ((iv 1 7).toInt).toNat + i) + j)).toInt) ∧ ((ni_8_4).toInt ≠ 0 ∨ ((na_1_1 ((iv 1 7).toInt).toNat).toInt = (c : Int) ∧ na_1_0 ((iv 1 7).toInt).toNat = a))) ∧ (((ni_8_4).toInt = 0 ∧ r.toInt = (iv 1 7).toInt ∧ (ni_1_7).toInt = (iv 1 7).toInt + 1) ∨ ((ni_8_4).toInt ≠ 0 ∧ r.toInt = -10 - (ni_8_4).toInt ∧ (ni_1_7).toInt = (iv 1 7).toInt))))) ∧ (∀ j : Nat, (j : Int) < 12 * (iv 1 7).toInt → na_1_2 j = (fa 1 2) j ∧ na_1_3 j = (fa 1 3) j ∧ na_1_4 j = (fa 1 4) j) ∧ (∀ j : Nat, (j : Int) < 96 * (iv 1 7).toInt → na_1_5 j = (fa 1 5) j) ∧ (∀ j : Nat, j ≠ ((iv 1 7).toInt).toNat → na_1_0 j = (fa 1 0) j ∧ na_1_1 j = (fa 1 1) j) ∧ ((-100004) ≤ r.toInt ∧ r.toInt ≤ 7) ∧ u = ((u2 (u2 (u2 (u2 (u2 (u2 iv 1 7 ni_1_7) 1 8 ni_1_8) 8 2 ni_8_2) 8 3 ni_8_3) 8 4 ni_8_4) 8 5 ni_8_5), lv, (u2 (u2 (u2 (u2 (u2 (u2 fa 1 0 na_1_0) 1 1 na_1_1) 1 2 na_1_2) 1 3 na_1_3) 1 4 na_1_4) 1 5 na_1_5), la)) (bX (dC, dI) h g ca (va_A (WX h g ca iv lv fa la) sz)) (va_A (WX h g ca iv lv fa la) sz)) 0 0 (va_A (WX h g ca iv lv fa la) sz) := by
  refine Met.ofW (cc := cX11_rule) (maxL := 3) (ret := (some .int)) (by decide) rfl ?_
  intro p e s m args below meth c s₁ B hml hv
  obtain ⟨rfl, hsz, hP, hK, hD0, hZ⟩ := hv
  have hx := B.exec
  have hb := B.bytes
  have hr := B.returns
  have ht := tb_tl (atoms_spec (ws := wc yX11_rule cX11_rule 3 (some .int)) B.pre)
  have hown : s.vm.findClass RX11 = some m.cls := findClass_of_methodNamed B.named
  have hlocks := B.notSynchronized
  subst hsz
  have hD := hD0.self (sz := s.heap.size)
  generalize hAe : va_A (WX h g ca iv lv fa la) s.heap.size = A at hD hZ ⊢
  have hA : ∀ q : Nat, s.heap.size ≤ q → A q := fun q h => by rw [← hAe]; exact Or.inr h
  have hS : va_S A s.heap s.heap [] := va_S.rf
  have hl := lv_entry [.ref h, .int a] (n := 3) (Nat.le_of_ble_eq_true rfl)
  rw [lg_entry_eq]
  generalize (lg_sl [.ref h, .int a] ++ List.replicate (3 - (lg_sl [.ref h, .int a]).length) Slot.unset).toArray = ls at hl ⊢
  have hl : lv_has ls 3 [(0, .ref h), (1, .int a)] := hl
  refine lv_iload_n hx hb dX11_rule_0 rfl (lv_at hl 1 rfl) ?_
  refine lv_iconst (v := 0) hx hb dX11_rule_1 (by decide) ?_
  refine lv_sipush (v := 3000) hx hb dX11_rule_2 (by decide) ?_
  refine vp_callSi (W.runS (As := [.int a, .int 0, .int 3000]) (rest := []) ⟨hx, hb, hml, hown, ht⟩ (c_X11_within l dC dI a 0 3000 (a.toInt) (0) (3000) (rfl : (a).toInt = _) (by decide : (0 : Int32).toInt = 0) (by decide : (3000 : Int32).toInt = 3000)) (kS 3 ht m_453 m_454 m_77 m_455 rfl rfl hd_X11_within_v ⟨Nat.le_of_ble_eq_true rfl, Nat.le_of_ble_eq_true rfl⟩) (sR noP (hK.sub (tys' := []) [] rfl)) rfl rfl hl.1 rfl (lv_room (Nat.le_of_ble_eq_true rfl)) dX11_rule_5 ⟨Nat.le_of_ble_eq_true rfl, Nat.le_of_ble_eq_true rfl⟩) (fun r1 hr1 => ?_)
  rcases hr1 with ⟨rfl, fr1⟩ | ⟨rfl, fr1⟩
  · skip
    refine lv_if_ne (tgt := 14) hx hb dX11_rule_8 (by decide) (fun c2 => ?_) (fun c2 => ?_)
    · skip
      refine lv_aload_n hx hb dX11_rule_14 rfl (lv_at hl 0 rfl) ?_
      refine gX_11_3 hx hb ht hown hK hP m_418 dX11_rule_15 ?_
      have i_1_7 : 0 ≤ (iv 1 7).toInt ∧ (iv 1 7).toInt ≤ 8 := hI.1 1 7
      refine gX_1_7 hx hb ht hown hK hP m_198 (v := (iv 1 7)) rfl dX11_rule_18 ?_
      refine lv_bipush (v := 8) hx hb dX11_rule_21 (by decide) ?_
      refine lv_icmp_lt (tgt := 29) hx hb dX11_rule_23 (by decide) (fun c3 => ?_) (fun c3 => ?_)
      · have fc3 := z_lt (rfl : ((iv 1 7)).toInt = _) (by decide : (8 : Int32).toInt = 8) c3
        refine lv_aload_n hx hb dX11_rule_29 rfl (lv_at hl 0 rfl) ?_
        refine gX_11_4 hx hb ht hown hK hP m_419 dX11_rule_30 ?_
        have i_8_2 : 0 ≤ (iv 8 2).toInt ∧ (iv 8 2).toInt ≤ 200 := hI.1 8 2
        have hFc := free_all hD hS hA
        refine va_calli (va_runV (As := []) (rest := []) ⟨hx, hb, hml, hown, ht⟩ (c_X8_read_r l dC dI s.heap.size ak av h g ca iv lv fa la hI (show 0 ≤ ((iv 1 7) : Int32).toInt ∧ ((iv 1 7) : Int32).toInt ≤ 7 from ⟨by omega, by omega⟩)) (kV 0 ht m_680 m_681 m_682 m_82 m_683 rfl rfl hd_X8_read_v ⟨Nat.le_of_ble_eq_true rfl, Nat.le_of_ble_eq_true rfl⟩) (vWZ hP hK hD ((hZ.kept hS.2.1).narrow (free_all hD hS hA)) (rX_8 hK hP)) rfl rfl hl.1 rfl (lv_room (Nat.le_of_ble_eq_true rfl)) dX11_rule_33 ⟨Nat.le_of_ble_eq_true rfl, Nat.le_of_ble_eq_true rfl⟩) hS (fun q _ h => hFc q h) hFc (fun r4 u t H1 locs ht9 hvm hr4 hB hz1 hk1 hS => ?_)
        obtain ⟨n5, n6, n7, n8, n9, n10, n11, n12, n13, hn9, hn10, hn11, hn12, hn13, xr4_0, xr4_1, xr4_2, xr4_3, xr4_4, xr4_5, hr4, rfl⟩ := hr4
        have hn5 : ∀ j, inb (bA 1 2 j) (n5 j) := fun j => full_i _
        have hn6 : ∀ j, inb (bA 1 3 j) (n6 j) := fun j => full_i _
        have hn7 : ∀ j, inb (bA 1 4 j) (n7 j) := fun j => full_i _
        have hn8 : ∀ j, inb (bA 1 5 j) (n8 j) := fun j => full_i _
        have hn9 : 0 ≤ n9.toInt ∧ n9.toInt ≤ 12 := hn9
        have hn10 : 0 ≤ n10.toInt ∧ n10.toInt ≤ 200 := hn10
        have hn11 : (-1) ≤ n11.toInt ∧ n11.toInt ≤ 200 := hn11
        have hn12 : 0 ≤ n12.toInt ∧ n12.toInt ≤ 5 := hn12
        have hn13 : 0 ≤ n13.toInt ∧ n13.toInt ≤ 200 := hn13
        obtain ⟨hP, hD⟩ := hB
        rw [ht9] at hP
        generalize H1 = H at hP hS ⊢
        have hP : va_P (dC, dI) classes (WX h g ca (u2 (u2 (u2 (u2 (u2 iv 1 8 n9) 8 2 n10) 8 3 n11) 8 4 n12) 8 5 n13) lv (u2 (u2 (u2 (u2 fa 1 2 n5) 1 3 n6) 1 4 n7) 1 5 n8) la) H := hP
        have hD : va_D A (WX h g ca (u2 (u2 (u2 (u2 (u2 iv 1 8 n9) 8 2 n10) 8 3 n11) 8 4 n12) 8 5 n13) lv (u2 (u2 (u2 (u2 fa 1 2 n5) 1 3 n6) 1 4 n7) 1 5 n8) la) := (show va_D _ (WX h g ca (u2 (u2 (u2 (u2 (u2 iv 1 8 n9) 8 2 n10) 8 3 n11) 8 4 n12) 8 5 n13) lv (u2 (u2 (u2 (u2 fa 1 2 n5) 1 3 n6) 1 4 n7) 1 5 n8) la) from hD).weaken (fun _ _ _ h => hFc _ h)
        have xr4_0 : Out (fun j => ((fa 8 1) j).toInt) ((iv 8 2) : Int32).toInt ((iv 1 7) : Int32).toInt (n12 : Int32).toInt (n11 : Int32).toInt ((n9 : Int32).toInt).toNat (fun i => (n5 (12 * (((iv 1 7) : Int32).toInt).toNat + i)).toInt) (fun i => (n6 (12 * (((iv 1 7) : Int32).toInt).toNat + i)).toInt) (fun i => (n7 (12 * (((iv 1 7) : Int32).toInt).toNat + i)).toInt) (fun i j => (n8 (8 * (12 * (((iv 1 7) : Int32).toInt).toNat + i) + j)).toInt) := xr4_0
        have xr4_1 : ((n12 : Int32).toInt ≠ 0 ∨ (n11 : Int32).toInt = -1) := xr4_1
        have xr4_2 : (r4 : Int32).toInt = (n12 : Int32).toInt := xr4_2
        have xr4_3 : (n10 : Int32).toInt = 0 := xr4_3
        have xr4_4 : ∀ j : Nat, (j : Int) < 12 * ((iv 1 7) : Int32).toInt → n5 j = (fa 1 2) j ∧ n6 j = (fa 1 3) j ∧ n7 j = (fa 1 4) j := xr4_4
        have xr4_5 : ∀ j : Nat, (j : Int) < 96 * ((iv 1 7) : Int32).toInt → n8 j = (fa 1 5) j := xr4_5
        refine lv_istore_n (lv' := [(2, .int r4), (0, .ref h), (1, .int a)]) hx hb dX11_rule_36 rfl hl (by decide) rfl (fun ls hl => ?_)
        refine lv_iload_n hx hb dX11_rule_37 rfl (lv_at hl 0 rfl) ?_
        refine lv_if_ne (tgt := 52) hx hb dX11_rule_38 (by decide) (fun c14 => ?_) (fun c14 => ?_)
        · have fc14 := z_ne (rfl : (r4).toInt = _) (by decide : (0 : Int32).toInt = 0) c14
          refine lv_bipush (v := (-10)) hx hb dX11_rule_52 (by decide) ?_
          refine lv_iload_n hx hb dX11_rule_54 rfl (lv_at hl 0 rfl) ?_
          refine lv_isub hx hb dX11_rule_55 ?_
          refine lv_topi (fun v15 ev15 => ?_)
          have tv15 := z_sub ev15 (by decide : ((-10) : Int32).toInt = (-10)) (rfl : (r4).toInt = _) (by omega) (by omega)
          have hP9 : va_P (dC, dI) classes (WX h g ca (u2 (u2 (u2 (u2 (u2 (u2 iv 1 7 (iv 1 7)) 1 8 n9) 8 2 n10) 8 3 n11) 8 4 n12) 8 5 n13) lv (u2 (u2 (u2 (u2 (u2 (u2 fa 1 0 (fa 1 0)) 1 1 (fa 1 1)) 1 2 n5) 1 3 n6) 1 4 n7) 1 5 n8) la) H := hP
          have hD9 : va_D A (WX h g ca (u2 (u2 (u2 (u2 (u2 (u2 iv 1 7 (iv 1 7)) 1 8 n9) 8 2 n10) 8 3 n11) 8 4 n12) 8 5 n13) lv (u2 (u2 (u2 (u2 (u2 (u2 fa 1 0 (fa 1 0)) 1 1 (fa 1 1)) 1 2 n5) 1 3 n6) 1 4 n7) 1 5 n8) la) := hD
          exact W.iret (v := v15) hx hb hr (fun t ht9 hW => ⟨⟨v15, ((u2 (u2 (u2 (u2 (u2 (u2 iv 1 7 (iv 1 7)) 1 8 n9) 8 2 n10) 8 3 n11) 8 4 n12) 8 5 n13), lv, (u2 (u2 (u2 (u2 (u2 (u2 fa 1 0 (fa 1 0)) 1 1 (fa 1 1)) 1 2 n5) 1 3 n6) 1 4 n7) 1 5 n8), la), rfl, ⟨(fa 1 0), (fa 1 1), n5, n6, n7, n8, (iv 1 7), n9, n10, n11, n12, n13, (hI.2 1 1), (hI.1 1 7), (show inb (0, 12) n9 from ⟨by omega, by omega⟩), (show inb (0, 200) n10 from ⟨by omega, by omega⟩), (show inb ((-1), 200) n11 from ⟨by omega, by omega⟩), (show inb (0, 5) n12 from ⟨by omega, by omega⟩), (show inb (0, 200) n13 from ⟨by omega, by omega⟩), (show (((v15 : Int32).toInt = -100002 ∧ ¬ (0 ≤ (a).toInt ∧ (a).toInt ≤ 3000) ∧ (n10 : Int32).toInt = (iv 8 2).toInt ∧ ((iv 1 7) : Int32).toInt = (iv 1 7).toInt ∧ (n11 : Int32).toInt = (iv 8 3).toInt) ∨ ((v15 : Int32).toInt = -100004 ∧ (0 ≤ (a).toInt ∧ (a).toInt ≤ 3000) ∧ 8 ≤ (iv 1 7).toInt ∧ (n10 : Int32).toInt = (iv 8 2).toInt ∧ ((iv 1 7) : Int32).toInt = (iv 1 7).toInt ∧ (n11 : Int32).toInt = (iv 8 3).toInt) ∨ ((0 ≤ (a).toInt ∧ (a).toInt ≤ 3000) ∧ (iv 1 7).toInt < 8 ∧ (n10 : Int32).toInt = 0 ∧ ((n12 : Int32).toInt ≠ 0 ∨ (n11 : Int32).toInt = -1) ∧ (∃ c : Nat, Out (fun j => ((fa 8 1) j).toInt) (iv 8 2).toInt (iv 1 7).toInt (n12 : Int32).toInt (n11 : Int32).toInt c (fun i => (n5 (12 * ((iv 1 7).toInt).toNat + i)).toInt) (fun i => (n6 (12 * ((iv 1 7).toInt).toNat + i)).toInt) (fun i => (n7 (12 * ((iv 1 7).toInt).toNat + i)).toInt) (fun i j => (n8 (8 * (12 * ((iv 1 7).toInt).toNat + i) + j)).toInt) ∧ ((n12 : Int32).toInt ≠ 0 ∨ (((fa 1 1) ((iv 1 7).toInt).toNat).toInt = (c : Int) ∧ (fa 1 0) ((iv 1 7).toInt).toNat = a))) ∧ (((n12 : Int32).toInt = 0 ∧ (v15 : Int32).toInt = (iv 1 7).toInt ∧ ((iv 1 7) : Int32).toInt = (iv 1 7).toInt + 1) ∨ ((n12 : Int32).toInt ≠ 0 ∧ (v15 : Int32).toInt = -10 - (n12 : Int32).toInt ∧ ((iv 1 7) : Int32).toInt = (iv 1 7).toInt)))) from Or.inr (Or.inr ⟨⟨by omega, by omega⟩, by omega, by omega, xr4_1, ⟨_, xr4_0, Or.inl (by omega)⟩, Or.inr ⟨by omega, by omega, by omega⟩⟩)), (show ∀ j : Nat, (j : Int) < 12 * (iv 1 7).toInt → n5 j = (fa 1 2) j ∧ n6 j = (fa 1 3) j ∧ n7 j = (fa 1 4) j from xr4_4), (show ∀ j : Nat, (j : Int) < 96 * (iv 1 7).toInt → n8 j = (fa 1 5) j from xr4_5), (show ∀ j : Nat, j ≠ ((iv 1 7).toInt).toNat → (fa 1 0) j = (fa 1 0) j ∧ (fa 1 1) j = (fa 1 1) j from fun j h => ⟨rfl, rfl⟩), ⟨by omega, by omega⟩, rfl⟩, by rw [ht9]; exact hP9, hD9⟩, hS.F ht9⟩) hS.2.2 dX11_rule_56
        · have fc14 := z_eq (rfl : (r4).toInt = _) (by decide : (0 : Int32).toInt = 0) c14
          refine lv_aload_n hx hb dX11_rule_41 rfl (lv_at hl 1 rfl) ?_
          refine gX_11_3 hx hb ht hown hK hP m_418 dX11_rule_42 ?_
          refine lv_iload_n hx hb dX11_rule_45 rfl (lv_at hl 2 rfl) ?_
          have hFc := free_all hD hS hA
          refine va_calli (va_runV (As := [.int a]) (rest := []) ⟨hx, hb, hml, hown, ht⟩ (c_X1_enact_r l dC dI H.size h g ca (u2 (u2 (u2 (u2 (u2 iv 1 8 n9) 8 2 n10) 8 3 n11) 8 4 n12) 8 5 n13) lv (u2 (u2 (u2 (u2 fa 1 2 n5) 1 3 n6) 1 4 n7) 1 5 n8) la (IX_a (c := 1) (k := 5) (IX_a (c := 1) (k := 4) (IX_a (c := 1) (k := 3) (IX_a (c := 1) (k := 2) (IX_i (c := 8) (k := 5) (IX_i (c := 8) (k := 4) (IX_i (c := 8) (k := 3) (IX_i (c := 8) (k := 2) (IX_i (c := 1) (k := 8) hI (show inb (0, 12) n9 from ⟨by omega, by omega⟩)) (show inb (0, 200) n10 from ⟨by omega, by omega⟩)) (show inb ((-1), 200) n11 from ⟨by omega, by omega⟩)) (show inb (0, 5) n12 from ⟨by omega, by omega⟩)) (show inb (0, 200) n13 from ⟨by omega, by omega⟩)) hn5) hn6) hn7) hn8) a (show 0 ≤ ((iv 1 7) : Int32).toInt ∧ ((iv 1 7) : Int32).toInt ≤ 7 from ⟨by omega, by omega⟩)) (kV 1 ht m_805 m_806 m_807 m_81 m_808 rfl rfl hd_X1_enact_v ⟨Nat.le_of_ble_eq_true rfl, Nat.le_of_ble_eq_true rfl⟩) (vW hP hK hD (rX_1 hK hP)) rfl rfl hl.1 rfl (lv_room (Nat.le_of_ble_eq_true rfl)) dX11_rule_46 ⟨Nat.le_of_ble_eq_true rfl, Nat.le_of_ble_eq_true rfl⟩) hS (fun q _ h => hFc q h) hFc (fun r16 u t H1 locs ht9 hvm hr16 hB hz1 hk1 hS => ?_)
          obtain ⟨n17, n18, n19, hn18, hn19, dn19, xr16_0, xr16_1, xr16_2, xr16_3, xr16_4, xr16_5, hr16, rfl⟩ := hr16
          have hn17 : ∀ j, inb (bA 1 0 j) (n17 j) := fun j => full_i _
          have dn19 : n19.toInt = ((iv 1 7) : Int32).toInt + 1 := dn19
          have hn19 : 0 ≤ n19.toInt ∧ n19.toInt ≤ 8 := hn19
          obtain ⟨hP, hD⟩ := hB
          rw [ht9] at hP
          generalize H1 = H at hP hS ⊢
          have hP : va_P (dC, dI) classes (WX h g ca (u2 (u2 (u2 (u2 (u2 (u2 iv 1 8 n9) 8 2 n10) 8 3 n11) 8 4 n12) 8 5 n13) 1 7 n19) lv (u2 (u2 (u2 (u2 (u2 (u2 fa 1 2 n5) 1 3 n6) 1 4 n7) 1 5 n8) 1 0 n17) 1 1 n18) la) H := hP
          have hD : va_D A (WX h g ca (u2 (u2 (u2 (u2 (u2 (u2 iv 1 8 n9) 8 2 n10) 8 3 n11) 8 4 n12) 8 5 n13) 1 7 n19) lv (u2 (u2 (u2 (u2 (u2 (u2 fa 1 2 n5) 1 3 n6) 1 4 n7) 1 5 n8) 1 0 n17) 1 1 n18) la) := (show va_D _ (WX h g ca (u2 (u2 (u2 (u2 (u2 (u2 iv 1 8 n9) 8 2 n10) 8 3 n11) 8 4 n12) 8 5 n13) 1 7 n19) lv (u2 (u2 (u2 (u2 (u2 (u2 fa 1 2 n5) 1 3 n6) 1 4 n7) 1 5 n8) 1 0 n17) 1 1 n18) la) from hD).weaken (fun _ _ _ h => hFc _ h)
          have xr16_0 : (r16 : Int32).toInt = ((iv 1 7) : Int32).toInt := xr16_0
          have xr16_1 : (n19 : Int32).toInt = ((iv 1 7) : Int32).toInt + 1 := xr16_1
          have xr16_2 : ∀ j : Nat, j ≠ (((iv 1 7) : Int32).toInt).toNat → n17 j = (fa 1 0) j := xr16_2
          have xr16_3 : ∀ j : Nat, j ≠ (((iv 1 7) : Int32).toInt).toNat → n18 j = (fa 1 1) j := xr16_3
          have xr16_4 : n17 (((iv 1 7) : Int32).toInt).toNat = (a : Int32) := xr16_4
          have xr16_5 : (n18 (((iv 1 7) : Int32).toInt).toNat).toInt = (n9 : Int32).toInt := xr16_5
          refine lv_goto (tgt := 56) hx hb dX11_rule_49 (by decide) ?_
          have hP9 : va_P (dC, dI) classes (WX h g ca (u2 (u2 (u2 (u2 (u2 (u2 iv 1 7 n19) 1 8 n9) 8 2 n10) 8 3 n11) 8 4 n12) 8 5 n13) lv (u2 (u2 (u2 (u2 (u2 (u2 fa 1 0 n17) 1 1 n18) 1 2 n5) 1 3 n6) 1 4 n7) 1 5 n8) la) H := hP
          have hD9 : va_D A (WX h g ca (u2 (u2 (u2 (u2 (u2 (u2 iv 1 7 n19) 1 8 n9) 8 2 n10) 8 3 n11) 8 4 n12) 8 5 n13) lv (u2 (u2 (u2 (u2 (u2 (u2 fa 1 0 n17) 1 1 n18) 1 2 n5) 1 3 n6) 1 4 n7) 1 5 n8) la) := hD
          exact W.iret (v := r16) hx hb hr (fun t ht9 hW => ⟨⟨r16, ((u2 (u2 (u2 (u2 (u2 (u2 iv 1 7 n19) 1 8 n9) 8 2 n10) 8 3 n11) 8 4 n12) 8 5 n13), lv, (u2 (u2 (u2 (u2 (u2 (u2 fa 1 0 n17) 1 1 n18) 1 2 n5) 1 3 n6) 1 4 n7) 1 5 n8), la), rfl, ⟨n17, n18, n5, n6, n7, n8, n19, n9, n10, n11, n12, n13, hn18, (show inb (0, 8) n19 from ⟨by omega, by omega⟩), (show inb (0, 12) n9 from ⟨by omega, by omega⟩), (show inb (0, 200) n10 from ⟨by omega, by omega⟩), (show inb ((-1), 200) n11 from ⟨by omega, by omega⟩), (show inb (0, 5) n12 from ⟨by omega, by omega⟩), (show inb (0, 200) n13 from ⟨by omega, by omega⟩), (show (((r16 : Int32).toInt = -100002 ∧ ¬ (0 ≤ (a).toInt ∧ (a).toInt ≤ 3000) ∧ (n10 : Int32).toInt = (iv 8 2).toInt ∧ (n19 : Int32).toInt = (iv 1 7).toInt ∧ (n11 : Int32).toInt = (iv 8 3).toInt) ∨ ((r16 : Int32).toInt = -100004 ∧ (0 ≤ (a).toInt ∧ (a).toInt ≤ 3000) ∧ 8 ≤ (iv 1 7).toInt ∧ (n10 : Int32).toInt = (iv 8 2).toInt ∧ (n19 : Int32).toInt = (iv 1 7).toInt ∧ (n11 : Int32).toInt = (iv 8 3).toInt) ∨ ((0 ≤ (a).toInt ∧ (a).toInt ≤ 3000) ∧ (iv 1 7).toInt < 8 ∧ (n10 : Int32).toInt = 0 ∧ ((n12 : Int32).toInt ≠ 0 ∨ (n11 : Int32).toInt = -1) ∧ (∃ c : Nat, Out (fun j => ((fa 8 1) j).toInt) (iv 8 2).toInt (iv 1 7).toInt (n12 : Int32).toInt (n11 : Int32).toInt c (fun i => (n5 (12 * ((iv 1 7).toInt).toNat + i)).toInt) (fun i => (n6 (12 * ((iv 1 7).toInt).toNat + i)).toInt) (fun i => (n7 (12 * ((iv 1 7).toInt).toNat + i)).toInt) (fun i j => (n8 (8 * (12 * ((iv 1 7).toInt).toNat + i) + j)).toInt) ∧ ((n12 : Int32).toInt ≠ 0 ∨ ((n18 ((iv 1 7).toInt).toNat).toInt = (c : Int) ∧ n17 ((iv 1 7).toInt).toNat = a))) ∧ (((n12 : Int32).toInt = 0 ∧ (r16 : Int32).toInt = (iv 1 7).toInt ∧ (n19 : Int32).toInt = (iv 1 7).toInt + 1) ∨ ((n12 : Int32).toInt ≠ 0 ∧ (r16 : Int32).toInt = -10 - (n12 : Int32).toInt ∧ (n19 : Int32).toInt = (iv 1 7).toInt)))) from Or.inr (Or.inr ⟨⟨by omega, by omega⟩, by omega, by omega, xr4_1, ⟨_, xr4_0, Or.inr ⟨by omega, xr16_4⟩⟩, Or.inl ⟨by omega, by omega, by omega⟩⟩)), (show ∀ j : Nat, (j : Int) < 12 * (iv 1 7).toInt → n5 j = (fa 1 2) j ∧ n6 j = (fa 1 3) j ∧ n7 j = (fa 1 4) j from xr4_4), (show ∀ j : Nat, (j : Int) < 96 * (iv 1 7).toInt → n8 j = (fa 1 5) j from xr4_5), (show ∀ j : Nat, j ≠ ((iv 1 7).toInt).toNat → n17 j = (fa 1 0) j ∧ n18 j = (fa 1 1) j from (fun j h => ⟨xr16_2 j h, xr16_3 j h⟩)), ⟨by omega, by omega⟩, rfl⟩, by rw [ht9]; exact hP9, hD9⟩, hS.F ht9⟩) hS.2.2 dX11_rule_56
      · have fc3 := z_nlt (rfl : ((iv 1 7)).toInt = _) (by decide : (8 : Int32).toInt = 8) c3
        refine lv_ldc hx hb hown (ht _ m_463) dX11_rule_26 ?_
        have : ((-100004) : Int32).toInt = (-100004) := (by decide)
        have i_8_2 : 0 ≤ (iv 8 2).toInt ∧ (iv 8 2).toInt ≤ 200 := hI.1 8 2
        have i_8_3 : (-1) ≤ (iv 8 3).toInt ∧ (iv 8 3).toInt ≤ 200 := hI.1 8 3
        have i_8_4 : 0 ≤ (iv 8 4).toInt ∧ (iv 8 4).toInt ≤ 5 := hI.1 8 4
        have hP9 : va_P (dC, dI) classes (WX h g ca (u2 (u2 (u2 (u2 (u2 (u2 iv 1 7 (iv 1 7)) 1 8 (iv 1 8)) 8 2 (iv 8 2)) 8 3 (iv 8 3)) 8 4 (iv 8 4)) 8 5 (iv 8 5)) lv (u2 (u2 (u2 (u2 (u2 (u2 fa 1 0 (fa 1 0)) 1 1 (fa 1 1)) 1 2 (fa 1 2)) 1 3 (fa 1 3)) 1 4 (fa 1 4)) 1 5 (fa 1 5)) la) s.heap := hP
        have hD9 : va_D A (WX h g ca (u2 (u2 (u2 (u2 (u2 (u2 iv 1 7 (iv 1 7)) 1 8 (iv 1 8)) 8 2 (iv 8 2)) 8 3 (iv 8 3)) 8 4 (iv 8 4)) 8 5 (iv 8 5)) lv (u2 (u2 (u2 (u2 (u2 (u2 fa 1 0 (fa 1 0)) 1 1 (fa 1 1)) 1 2 (fa 1 2)) 1 3 (fa 1 3)) 1 4 (fa 1 4)) 1 5 (fa 1 5)) la) := hD
        exact W.iret (v := (-100004)) hx hb hr (fun t ht9 hW => ⟨⟨(-100004), ((u2 (u2 (u2 (u2 (u2 (u2 iv 1 7 (iv 1 7)) 1 8 (iv 1 8)) 8 2 (iv 8 2)) 8 3 (iv 8 3)) 8 4 (iv 8 4)) 8 5 (iv 8 5)), lv, (u2 (u2 (u2 (u2 (u2 (u2 fa 1 0 (fa 1 0)) 1 1 (fa 1 1)) 1 2 (fa 1 2)) 1 3 (fa 1 3)) 1 4 (fa 1 4)) 1 5 (fa 1 5)), la), rfl, ⟨(fa 1 0), (fa 1 1), (fa 1 2), (fa 1 3), (fa 1 4), (fa 1 5), (iv 1 7), (iv 1 8), (iv 8 2), (iv 8 3), (iv 8 4), (iv 8 5), (hI.2 1 1), (hI.1 1 7), (hI.1 1 8), (hI.1 8 2), (hI.1 8 3), (hI.1 8 4), (hI.1 8 5), (show ((((-100004) : Int32).toInt = -100002 ∧ ¬ (0 ≤ (a).toInt ∧ (a).toInt ≤ 3000) ∧ ((iv 8 2) : Int32).toInt = (iv 8 2).toInt ∧ ((iv 1 7) : Int32).toInt = (iv 1 7).toInt ∧ ((iv 8 3) : Int32).toInt = (iv 8 3).toInt) ∨ (((-100004) : Int32).toInt = -100004 ∧ (0 ≤ (a).toInt ∧ (a).toInt ≤ 3000) ∧ 8 ≤ (iv 1 7).toInt ∧ ((iv 8 2) : Int32).toInt = (iv 8 2).toInt ∧ ((iv 1 7) : Int32).toInt = (iv 1 7).toInt ∧ ((iv 8 3) : Int32).toInt = (iv 8 3).toInt) ∨ ((0 ≤ (a).toInt ∧ (a).toInt ≤ 3000) ∧ (iv 1 7).toInt < 8 ∧ ((iv 8 2) : Int32).toInt = 0 ∧ (((iv 8 4) : Int32).toInt ≠ 0 ∨ ((iv 8 3) : Int32).toInt = -1) ∧ (∃ c : Nat, Out (fun j => ((fa 8 1) j).toInt) (iv 8 2).toInt (iv 1 7).toInt ((iv 8 4) : Int32).toInt ((iv 8 3) : Int32).toInt c (fun i => ((fa 1 2) (12 * ((iv 1 7).toInt).toNat + i)).toInt) (fun i => ((fa 1 3) (12 * ((iv 1 7).toInt).toNat + i)).toInt) (fun i => ((fa 1 4) (12 * ((iv 1 7).toInt).toNat + i)).toInt) (fun i j => ((fa 1 5) (8 * (12 * ((iv 1 7).toInt).toNat + i) + j)).toInt) ∧ (((iv 8 4) : Int32).toInt ≠ 0 ∨ (((fa 1 1) ((iv 1 7).toInt).toNat).toInt = (c : Int) ∧ (fa 1 0) ((iv 1 7).toInt).toNat = a))) ∧ ((((iv 8 4) : Int32).toInt = 0 ∧ ((-100004) : Int32).toInt = (iv 1 7).toInt ∧ ((iv 1 7) : Int32).toInt = (iv 1 7).toInt + 1) ∨ (((iv 8 4) : Int32).toInt ≠ 0 ∧ ((-100004) : Int32).toInt = -10 - ((iv 8 4) : Int32).toInt ∧ ((iv 1 7) : Int32).toInt = (iv 1 7).toInt)))) from Or.inr (Or.inl ⟨by omega, ⟨by omega, by omega⟩, by omega, by omega, by omega, by omega⟩)), (show ∀ j : Nat, (j : Int) < 12 * (iv 1 7).toInt → (fa 1 2) j = (fa 1 2) j ∧ (fa 1 3) j = (fa 1 3) j ∧ (fa 1 4) j = (fa 1 4) j from fun j h => ⟨rfl, rfl, rfl⟩), (show ∀ j : Nat, (j : Int) < 96 * (iv 1 7).toInt → (fa 1 5) j = (fa 1 5) j from fun j h => rfl), (show ∀ j : Nat, j ≠ ((iv 1 7).toInt).toNat → (fa 1 0) j = (fa 1 0) j ∧ (fa 1 1) j = (fa 1 1) j from fun j h => ⟨rfl, rfl⟩), ⟨by decide, by decide⟩, rfl⟩, by rw [ht9]; exact hP9, hD9⟩, hS.F ht9⟩) hS.2.2 dX11_rule_28
    · exact absurd c2 (by decide)
  · skip
    refine lv_if_ne (tgt := 14) hx hb dX11_rule_8 (by decide) (fun c20 => ?_) (fun c20 => ?_)
    · exact absurd rfl c20
    · skip
      refine lv_ldc hx hb hown (ht _ m_456) dX11_rule_11 ?_
      have : ((-100002) : Int32).toInt = (-100002) := (by decide)
      have i_8_2 : 0 ≤ (iv 8 2).toInt ∧ (iv 8 2).toInt ≤ 200 := hI.1 8 2
      have i_1_7 : 0 ≤ (iv 1 7).toInt ∧ (iv 1 7).toInt ≤ 8 := hI.1 1 7
      have i_8_3 : (-1) ≤ (iv 8 3).toInt ∧ (iv 8 3).toInt ≤ 200 := hI.1 8 3
      have i_8_4 : 0 ≤ (iv 8 4).toInt ∧ (iv 8 4).toInt ≤ 5 := hI.1 8 4
      have hP9 : va_P (dC, dI) classes (WX h g ca (u2 (u2 (u2 (u2 (u2 (u2 iv 1 7 (iv 1 7)) 1 8 (iv 1 8)) 8 2 (iv 8 2)) 8 3 (iv 8 3)) 8 4 (iv 8 4)) 8 5 (iv 8 5)) lv (u2 (u2 (u2 (u2 (u2 (u2 fa 1 0 (fa 1 0)) 1 1 (fa 1 1)) 1 2 (fa 1 2)) 1 3 (fa 1 3)) 1 4 (fa 1 4)) 1 5 (fa 1 5)) la) s.heap := hP
      have hD9 : va_D A (WX h g ca (u2 (u2 (u2 (u2 (u2 (u2 iv 1 7 (iv 1 7)) 1 8 (iv 1 8)) 8 2 (iv 8 2)) 8 3 (iv 8 3)) 8 4 (iv 8 4)) 8 5 (iv 8 5)) lv (u2 (u2 (u2 (u2 (u2 (u2 fa 1 0 (fa 1 0)) 1 1 (fa 1 1)) 1 2 (fa 1 2)) 1 3 (fa 1 3)) 1 4 (fa 1 4)) 1 5 (fa 1 5)) la) := hD
      exact W.iret (v := (-100002)) hx hb hr (fun t ht9 hW => ⟨⟨(-100002), ((u2 (u2 (u2 (u2 (u2 (u2 iv 1 7 (iv 1 7)) 1 8 (iv 1 8)) 8 2 (iv 8 2)) 8 3 (iv 8 3)) 8 4 (iv 8 4)) 8 5 (iv 8 5)), lv, (u2 (u2 (u2 (u2 (u2 (u2 fa 1 0 (fa 1 0)) 1 1 (fa 1 1)) 1 2 (fa 1 2)) 1 3 (fa 1 3)) 1 4 (fa 1 4)) 1 5 (fa 1 5)), la), rfl, ⟨(fa 1 0), (fa 1 1), (fa 1 2), (fa 1 3), (fa 1 4), (fa 1 5), (iv 1 7), (iv 1 8), (iv 8 2), (iv 8 3), (iv 8 4), (iv 8 5), (hI.2 1 1), (hI.1 1 7), (hI.1 1 8), (hI.1 8 2), (hI.1 8 3), (hI.1 8 4), (hI.1 8 5), (show ((((-100002) : Int32).toInt = -100002 ∧ ¬ (0 ≤ (a).toInt ∧ (a).toInt ≤ 3000) ∧ ((iv 8 2) : Int32).toInt = (iv 8 2).toInt ∧ ((iv 1 7) : Int32).toInt = (iv 1 7).toInt ∧ ((iv 8 3) : Int32).toInt = (iv 8 3).toInt) ∨ (((-100002) : Int32).toInt = -100004 ∧ (0 ≤ (a).toInt ∧ (a).toInt ≤ 3000) ∧ 8 ≤ (iv 1 7).toInt ∧ ((iv 8 2) : Int32).toInt = (iv 8 2).toInt ∧ ((iv 1 7) : Int32).toInt = (iv 1 7).toInt ∧ ((iv 8 3) : Int32).toInt = (iv 8 3).toInt) ∨ ((0 ≤ (a).toInt ∧ (a).toInt ≤ 3000) ∧ (iv 1 7).toInt < 8 ∧ ((iv 8 2) : Int32).toInt = 0 ∧ (((iv 8 4) : Int32).toInt ≠ 0 ∨ ((iv 8 3) : Int32).toInt = -1) ∧ (∃ c : Nat, Out (fun j => ((fa 8 1) j).toInt) (iv 8 2).toInt (iv 1 7).toInt ((iv 8 4) : Int32).toInt ((iv 8 3) : Int32).toInt c (fun i => ((fa 1 2) (12 * ((iv 1 7).toInt).toNat + i)).toInt) (fun i => ((fa 1 3) (12 * ((iv 1 7).toInt).toNat + i)).toInt) (fun i => ((fa 1 4) (12 * ((iv 1 7).toInt).toNat + i)).toInt) (fun i j => ((fa 1 5) (8 * (12 * ((iv 1 7).toInt).toNat + i) + j)).toInt) ∧ (((iv 8 4) : Int32).toInt ≠ 0 ∨ (((fa 1 1) ((iv 1 7).toInt).toNat).toInt = (c : Int) ∧ (fa 1 0) ((iv 1 7).toInt).toNat = a))) ∧ ((((iv 8 4) : Int32).toInt = 0 ∧ ((-100002) : Int32).toInt = (iv 1 7).toInt ∧ ((iv 1 7) : Int32).toInt = (iv 1 7).toInt + 1) ∨ (((iv 8 4) : Int32).toInt ≠ 0 ∧ ((-100002) : Int32).toInt = -10 - ((iv 8 4) : Int32).toInt ∧ ((iv 1 7) : Int32).toInt = (iv 1 7).toInt)))) from Or.inl ⟨by omega, by omega, by omega, by omega, by omega⟩), (show ∀ j : Nat, (j : Int) < 12 * (iv 1 7).toInt → (fa 1 2) j = (fa 1 2) j ∧ (fa 1 3) j = (fa 1 3) j ∧ (fa 1 4) j = (fa 1 4) j from fun j h => ⟨rfl, rfl, rfl⟩), (show ∀ j : Nat, (j : Int) < 96 * (iv 1 7).toInt → (fa 1 5) j = (fa 1 5) j from fun j h => rfl), (show ∀ j : Nat, j ≠ ((iv 1 7).toInt).toNat → (fa 1 0) j = (fa 1 0) j ∧ (fa 1 1) j = (fa 1 1) j from fun j h => ⟨rfl, rfl⟩), ⟨by decide, by decide⟩, rfl⟩, by rw [ht9]; exact hP9, hD9⟩, hS.F ht9⟩) hS.2.2 dX11_rule_13
set_option maxHeartbeats 4000000 in
set_option maxRecDepth 100000 in
/-- X11_fault -/
theorem c_X11_fault_r (l : Launch) (dC : Nat → ClassId) (dI : Nat → Nat → Nat) (h : Nat) (g : Nat → Nat → Nat) (ca : Nat → Nat → ClassId) (iv : Nat → Nat → Int32) (lv : Nat → Nat → Int64) (fa : Nat → Nat → Nat → Int32) (la : Nat → Nat → Nat → Int64) (hI : IX iv fa) : Met l yX11_fault (wc yX11_fault cX11_fault 1 (some .int)) ({ frames := 0, cells := 0, slots := 0, locals := 0 } : Room) (pR (dC, dI) classes (WX h g ca iv lv fa la) (TX ca) [.ref h]) (vp_Si (fun r => ((-1) ≤ r.toInt ∧ r.toInt ≤ 200) ∧ (r.toInt = (iv 8 3).toInt))) 0 0 (fun _ => False) := by
  refine Met.ofW (cc := cX11_fault) (maxL := 1) (ret := (some .int)) (by decide) rfl ?_
  intro p e s m args below meth c s₁ B hml hv
  obtain ⟨rfl, hP, hK⟩ := hv
  have hx := B.exec
  have hb := B.bytes
  have hr := B.returns
  have ht := tb_tl (atoms_spec (ws := wc yX11_fault cX11_fault 1 (some .int)) B.pre)
  have hown : s.vm.findClass RX11 = some m.cls := findClass_of_methodNamed B.named
  have hlocks := B.notSynchronized
  have hl := lv_entry [.ref h] (n := 1) (Nat.le_of_ble_eq_true rfl)
  rw [lg_entry_eq]
  generalize (lg_sl [.ref h] ++ List.replicate (1 - (lg_sl [.ref h]).length) Slot.unset).toArray = ls at hl ⊢
  have hl : lv_has ls 1 [(0, .ref h)] := hl
  refine lv_aload_n hx hb dX11_fault_0 rfl (lv_at hl 0 rfl) ?_
  refine gX_11_4 hx hb ht hown hK hP m_419 dX11_fault_1 ?_
  have i_8_3 : (-1) ≤ (iv 8 3).toInt ∧ (iv 8 3).toInt ≤ 200 := hI.1 8 3
  refine gX_8_3 hx hb ht hown hK hP m_233 (v := (iv 8 3)) rfl dX11_fault_4 ?_
  exact W.iret (v := (iv 8 3)) hx hb hr (fun t ht9 hW => ⟨(iv 8 3), rfl, ⟨⟨by omega, by omega⟩, (show ((iv 8 3) : Int32).toInt = ((iv 8 3) : Int32).toInt from by omega)⟩, ht9⟩) (fun q hq => by cases hq) dX11_fault_7
/-! ===== bk2 ===== -/
set_option maxHeartbeats 4000000 in
set_option maxRecDepth 100000 in
/-- X1_strikes -/
theorem c_X1_strikes_f (l : Launch) (dC : Nat → ClassId) (dI : Nat → Nat → Nat) (h : Nat) (g : Nat → Nat → Nat) (ca : Nat → Nat → ClassId) (iv : Nat → Nat → Int32) (lv : Nat → Nat → Int64) (fa : Nat → Nat → Nat → Int32) (la : Nat → Nat → Nat → Int64) (hI : IX iv fa) (a : Int32) (b : Int32) (h_a : 0 ≤ a.toInt ∧ a.toInt ≤ 7) (h_b : 0 ≤ b.toInt ∧ b.toInt ≤ 7) : Met l yX1_strikes (wc yX1_strikes cX1_strikes 4 (some .boolean)) ({ frames := 0, cells := 0, slots := 0, locals := 0 } : Room) (pR (dC, dI) classes (WX h g ca iv lv fa la) (TX ca) [.ref (g 11 3), .int a, .int b]) (vp_Si (fun r => (0 ≤ r.toInt ∧ r.toInt ≤ 1) ∧ (((r.toInt = 1 ∧ St (fa 1 1) (mX (fa 1 2) 7) (fa 1 3) (a.toInt).toNat (b.toInt).toNat) ∨ (r.toInt = 0 ∧ ¬ St (fa 1 1) (mX (fa 1 2) 7) (fa 1 3) (a.toInt).toNat (b.toInt).toNat))))) 0 0 (fun _ => False) := by
  refine Met.ofW (cc := cX1_strikes) (maxL := 4) (ret := (some .boolean)) (by decide) rfl ?_
  intro p e s m args below meth c s₁ B hml hv
  obtain ⟨rfl, hP, hK⟩ := hv
  have hx := B.exec
  have hb := B.bytes
  have hr := B.returns
  have ht := tb_tl (atoms_spec (ws := wc yX1_strikes cX1_strikes 4 (some .boolean)) B.pre)
  have hown : s.vm.findClass RX1 = some m.cls := findClass_of_methodNamed B.named
  have hlocks := B.notSynchronized
  have hl := lv_entry [.ref (g 11 3), .int a, .int b] (n := 4) (Nat.le_of_ble_eq_true rfl)
  rw [lg_entry_eq]
  generalize (lg_sl [.ref (g 11 3), .int a, .int b] ++ List.replicate (4 - (lg_sl [.ref (g 11 3), .int a, .int b]).length) Slot.unset).toArray = ls at hl ⊢
  have hl : lv_has ls 4 [(0, .ref (g 11 3)), (1, .int a), (2, .int b)] := hl
  refine lv_iload_n hx hb dX1_strikes_0 rfl (lv_at hl 1 rfl) ?_
  refine lv_bipush (v := 12) hx hb dX1_strikes_1 (by decide) ?_
  refine lv_imul hx hb dX1_strikes_3 ?_
  refine lv_topi (fun v1 ev1 => ?_)
  have tv1 := z_mul ev1 (rfl : (a).toInt = _) (by decide : (12 : Int32).toInt = 12) (by omega) (by omega)
  refine lv_istore_n (lv' := [(3, .int v1), (0, .ref (g 11 3)), (1, .int a), (2, .int b)]) hx hb dX1_strikes_4 rfl hl (by decide) rfl (fun ls hl => ?_)
  have lp36 : ∀ (nn36 : Nat) (x35_3 : Int32), 0 ≤ x35_3.toInt ∧ x35_3.toInt ≤ 96 → (∀ j : Nat, 12 * (a).toInt ≤ (j : Int) → (j : Int) < (x35_3 : Int32).toInt → ¬ (((fa 1 2) j).toInt = 7 ∧ ((fa 1 3) j).toInt = (b).toInt)) → 12 * (a).toInt ≤ (x35_3 : Int32).toInt → 96 - x35_3.toInt < (nn36 : Int) → ∀ (ls : Array Slot), lv_has ls 4 [(3, .int x35_3), (0, .ref (g 11 3)), (1, .int a), (2, .int b)] → W p l e ({ frames := 0, cells := 0, slots := 0, locals := 0 } : Room) s m ([.ref (g 11 3), .int a, .int b] : List Value).toArray below meth c s.heap [] 0 0 (MQ below (vp_Si (fun r => (0 ≤ r.toInt ∧ r.toInt ≤ 1) ∧ (((r.toInt = 1 ∧ St (fa 1 1) (mX (fa 1 2) 7) (fa 1 3) (a.toInt).toNat (b.toInt).toNat) ∨ (r.toInt = 0 ∧ ¬ St (fa 1 1) (mX (fa 1 2) 7) (fa 1 3) (a.toInt).toNat (b.toInt).toNat))))) ([.ref (g 11 3), .int a, .int b] : List Value).toArray s 0 0 (fun _ => False)) (F0 m 5 ls []) := by
    intro nn36
    induction nn36 with
    | zero => intro x35_3 hx35_3 hq36_0 hq36_1 hm36; exfalso; omega
    | succ nn36 ih36 =>
      intro x35_3 hx35_3 hq36_0 hq36_1 hm36 ls hl
      refine lv_iload_n hx hb dX1_strikes_5 rfl (lv_at hl 0 rfl) ?_
      refine lv_iload_n hx hb dX1_strikes_6 rfl (lv_at hl 2 rfl) ?_
      refine lv_bipush (v := 12) hx hb dX1_strikes_7 (by decide) ?_
      refine lv_imul hx hb dX1_strikes_9 ?_
      refine lv_topi (fun v37 ev37 => ?_)
      obtain rfl : v1 = v37 := ev1.trans ev37.symm
      refine lv_aload_n hx hb dX1_strikes_10 rfl (lv_at hl 1 rfl) ?_
      refine gX_1_1 hx hb ht hown hK hP m_190 dX1_strikes_11 ?_
      refine lv_iload_n hx hb dX1_strikes_14 rfl (lv_at hl 2 rfl) ?_
      refine lX_1_1 hx hb hK hP (f := (fa 1 1)) rfl (vp_in_iff.mpr ⟨by omega, by omega⟩) dX1_strikes_15 ?_
      refine lv_topi (fun v38 ev38 => ?_)
      have tv38 : 0 ≤ v38.toInt ∧ v38.toInt ≤ 12 := by rw [ev38]; exact hI.2 1 1 _
      have hn9 := congrArg Int32.toInt (show v38 = fa 1 1 (a.toInt).toNat from ev38)
      refine lv_iadd hx hb dX1_strikes_16 ?_
      refine lv_topi (fun v39 ev39 => ?_)
      have tv39 := z_add ev39 (rfl : (v1).toInt = _) (rfl : (v38).toInt = _) (by omega) (by omega)
      refine lv_icmp_ge (tgt := 49) hx hb dX1_strikes_17 (by decide) (fun c40 => ?_) (fun c40 => ?_)
      · have fc40 := z_le (rfl : (v39).toInt = _) (rfl : (x35_3).toInt = _) c40
        refine lv_iconst (v := 0) hx hb dX1_strikes_49 (by decide) ?_
        have : (0 : Int32).toInt = 0 := (by decide)
        exact W.zret (v := 0) hx hb hr rfl (fun t ht9 hW => ⟨0, rfl, ⟨⟨by decide, by decide⟩, (show (((0 : Int32).toInt = 1 ∧ St (fa 1 1) (mX (fa 1 2) 7) (fa 1 3) ((a).toInt).toNat ((b).toInt).toNat) ∨ ((0 : Int32).toInt = 0 ∧ ¬ St (fa 1 1) (mX (fa 1 2) 7) (fa 1 3) ((a).toInt).toNat ((b).toInt).toNat)) from (by
              refine Or.inr ⟨by omega, ?_⟩
              rintro ⟨j, z1, z2, z3, z4⟩
              exact hq36_0 j (by omega) (by omega) ⟨z3, by omega⟩))⟩, ht9⟩) (fun q hq => by cases hq) dX1_strikes_50
      · have fc40 := z_nle (rfl : (v39).toInt = _) (rfl : (x35_3).toInt = _) c40
        refine lv_aload_n hx hb dX1_strikes_20 rfl (lv_at hl 1 rfl) ?_
        refine gX_1_2 hx hb ht hown hK hP m_191 dX1_strikes_21 ?_
        refine lv_iload_n hx hb dX1_strikes_24 rfl (lv_at hl 0 rfl) ?_
        refine lX_1_2 hx hb hK hP (f := (fa 1 2)) rfl (vp_in_iff.mpr ⟨by omega, by omega⟩) dX1_strikes_25 ?_
        refine lv_topi (fun v41 ev41 => ?_)
        refine lv_bipush (v := 7) hx hb dX1_strikes_26 (by decide) ?_
        refine lv_icmp_ne (tgt := 43) hx hb dX1_strikes_28 (by decide) (fun c42 => ?_) (fun c42 => ?_)
        · have fc42 := z_ne (rfl : (v41).toInt = _) (by decide : (7 : Int32).toInt = 7) c42
          obtain ⟨v43, ev43⟩ : ∃ y : Int32, y = x35_3 + 1 := ⟨_, rfl⟩
          have tv43 := z_add ev43 rfl (by decide : (1 : Int32).toInt = 1) (by omega) (by omega)
          refine lv_iinc (v := v43) (lv' := [(3, .int v43), (0, .ref (g 11 3)), (1, .int a), (2, .int b)]) hx hb dX1_strikes_43 hl (k := 0) rfl (by rw [ev43]; rfl) (by decide) rfl (fun ls hl => ?_)
          refine lv_goto (tgt := 5) hx hb dX1_strikes_46 (by decide) ?_
          exact ih36 v43 ⟨by omega, by omega⟩ (show ∀ j : Nat, 12 * (a).toInt ≤ (j : Int) → (j : Int) < (v43 : Int32).toInt → ¬ (((fa 1 2) j).toInt = 7 ∧ ((fa 1 3) j).toInt = (b).toInt) from (fun j h1 h2 => by
                by_cases hj : (j : Int) < (x35_3 : Int32).toInt
                · exact hq36_0 j h1 hj
                · have hj2 : j = ((x35_3 : Int32).toInt).toNat := by omega
                  rw [hj2]
                  have hv9 := congrArg Int32.toInt (show v41 = fa 1 2 ((x35_3 : Int32).toInt).toNat from ev41)
                  rintro ⟨z1, z2⟩
                  omega)) (show 12 * (a).toInt ≤ (v43 : Int32).toInt from by omega) (by omega) ls (lv_sub hl [0, 1, 2, 3] rfl)
        · have fc42 := z_eq (rfl : (v41).toInt = _) (by decide : (7 : Int32).toInt = 7) c42
          refine lv_aload_n hx hb dX1_strikes_31 rfl (lv_at hl 1 rfl) ?_
          refine gX_1_3 hx hb ht hown hK hP m_192 dX1_strikes_32 ?_
          refine lv_iload_n hx hb dX1_strikes_35 rfl (lv_at hl 0 rfl) ?_
          refine lX_1_3 hx hb hK hP (f := (fa 1 3)) rfl (vp_in_iff.mpr ⟨by omega, by omega⟩) dX1_strikes_36 ?_
          refine lv_topi (fun v44 ev44 => ?_)
          refine lv_iload_n hx hb dX1_strikes_37 rfl (lv_at hl 3 rfl) ?_
          refine lv_icmp_ne (tgt := 43) hx hb dX1_strikes_38 (by decide) (fun c45 => ?_) (fun c45 => ?_)
          · have fc45 := z_ne (rfl : (v44).toInt = _) (rfl : (b).toInt = _) c45
            obtain ⟨v46, ev46⟩ : ∃ y : Int32, y = x35_3 + 1 := ⟨_, rfl⟩
            have tv46 := z_add ev46 rfl (by decide : (1 : Int32).toInt = 1) (by omega) (by omega)
            refine lv_iinc (v := v46) (lv' := [(3, .int v46), (0, .ref (g 11 3)), (1, .int a), (2, .int b)]) hx hb dX1_strikes_43 hl (k := 0) rfl (by rw [ev46]; rfl) (by decide) rfl (fun ls hl => ?_)
            refine lv_goto (tgt := 5) hx hb dX1_strikes_46 (by decide) ?_
            exact ih36 v46 ⟨by omega, by omega⟩ (show ∀ j : Nat, 12 * (a).toInt ≤ (j : Int) → (j : Int) < (v46 : Int32).toInt → ¬ (((fa 1 2) j).toInt = 7 ∧ ((fa 1 3) j).toInt = (b).toInt) from (fun j h1 h2 => by
                  by_cases hj : (j : Int) < (x35_3 : Int32).toInt
                  · exact hq36_0 j h1 hj
                  · have hj2 : j = ((x35_3 : Int32).toInt).toNat := by omega
                    rw [hj2]
                    have hv9 := congrArg Int32.toInt (show v41 = fa 1 2 ((x35_3 : Int32).toInt).toNat from ev41)
                    have hf9 := congrArg Int32.toInt (show v44 = fa 1 3 ((x35_3 : Int32).toInt).toNat from ev44)
                    rintro ⟨z1, z2⟩
                    omega)) (show 12 * (a).toInt ≤ (v46 : Int32).toInt from by omega) (by omega) ls (lv_sub hl [0, 1, 2, 3] rfl)
          · have fc45 := z_eq (rfl : (v44).toInt = _) (rfl : (b).toInt = _) c45
            refine lv_iconst (v := 1) hx hb dX1_strikes_41 (by decide) ?_
            have : (1 : Int32).toInt = 1 := (by decide)
            exact W.zret (v := 1) hx hb hr rfl (fun t ht9 hW => ⟨1, rfl, ⟨⟨by decide, by decide⟩, (show (((1 : Int32).toInt = 1 ∧ St (fa 1 1) (mX (fa 1 2) 7) (fa 1 3) ((a).toInt).toNat ((b).toInt).toNat) ∨ ((1 : Int32).toInt = 0 ∧ ¬ St (fa 1 1) (mX (fa 1 2) 7) (fa 1 3) ((a).toInt).toNat ((b).toInt).toNat)) from (by
                  have hv9 := congrArg Int32.toInt (show v41 = fa 1 2 ((x35_3 : Int32).toInt).toNat from ev41)
                  have hf9 := congrArg Int32.toInt (show v44 = fa 1 3 ((x35_3 : Int32).toInt).toNat from ev44)
                  exact Or.inl ⟨by omega, ((x35_3 : Int32).toInt).toNat, by omega, by omega, (show (fa 1 2 ((x35_3 : Int32).toInt).toNat).toInt = 7 from by omega), by omega⟩))⟩, ht9⟩) (fun q hq => by cases hq) dX1_strikes_42
  exact lp36 97 v1 ⟨by omega, by omega⟩ (show ∀ j : Nat, 12 * (a).toInt ≤ (j : Int) → (j : Int) < (v1 : Int32).toInt → ¬ (((fa 1 2) j).toInt = 7 ∧ ((fa 1 3) j).toInt = (b).toInt) from fun j h1 h2 => absurd h1 (by omega)) (show 12 * (a).toInt ≤ (v1 : Int32).toInt from by omega) (by first | decide | omega) ls (lv_sub hl [0, 1, 2, 3] rfl)
set_option maxHeartbeats 4000000 in
set_option maxRecDepth 100000 in
/-- X1_isStruck -/
theorem c_X1_isStruck_f (l : Launch) (dC : Nat → ClassId) (dI : Nat → Nat → Nat) (h : Nat) (g : Nat → Nat → Nat) (ca : Nat → Nat → ClassId) (iv : Nat → Nat → Int32) (lv : Nat → Nat → Int64) (fa : Nat → Nat → Nat → Int32) (la : Nat → Nat → Nat → Int64) (hI : IX iv fa) (a : Int32) (h_a : 0 ≤ a.toInt ∧ a.toInt ≤ 7) : Met l yX1_isStruck (wc yX1_isStruck cX1_isStruck 3 (some .boolean)) ({ frames := 1, cells := 0, slots := 0, locals := 23 } : Room) (pR (dC, dI) classes (WX h g ca iv lv fa la) (TX ca) [.ref (g 11 3), .int a]) (vp_Si (fun r => (0 ≤ r.toInt ∧ r.toInt ≤ 1) ∧ (((r.toInt = 1 ∧ (∃ r' : Nat, (a.toInt).toNat < r' ∧ (r' : Int) < (iv 1 7).toInt ∧ ((fa 1 6) r').toInt = 1 ∧ (St (fa 1 1) (mX (fa 1 2) 7) (fa 1 3)) r' (a.toInt).toNat)) ∨ (r.toInt = 0 ∧ ¬ (∃ r' : Nat, (a.toInt).toNat < r' ∧ (r' : Int) < (iv 1 7).toInt ∧ ((fa 1 6) r').toInt = 1 ∧ (St (fa 1 1) (mX (fa 1 2) 7) (fa 1 3)) r' (a.toInt).toNat)))))) 0 0 (fun _ => False) := by
  refine Met.ofW (cc := cX1_isStruck) (maxL := 3) (ret := (some .boolean)) (by decide) rfl ?_
  intro p e s m args below meth c s₁ B hml hv
  obtain ⟨rfl, hP, hK⟩ := hv
  have hx := B.exec
  have hb := B.bytes
  have hr := B.returns
  have ht := tb_tl (atoms_spec (ws := wc yX1_isStruck cX1_isStruck 3 (some .boolean)) B.pre)
  have hown : s.vm.findClass RX1 = some m.cls := findClass_of_methodNamed B.named
  have hlocks := B.notSynchronized
  have hl := lv_entry [.ref (g 11 3), .int a] (n := 3) (Nat.le_of_ble_eq_true rfl)
  rw [lg_entry_eq]
  generalize (lg_sl [.ref (g 11 3), .int a] ++ List.replicate (3 - (lg_sl [.ref (g 11 3), .int a]).length) Slot.unset).toArray = ls at hl ⊢
  have hl : lv_has ls 3 [(0, .ref (g 11 3)), (1, .int a)] := hl
  refine lv_iload_n hx hb dX1_isStruck_0 rfl (lv_at hl 1 rfl) ?_
  refine lv_iconst (v := 1) hx hb dX1_isStruck_1 (by decide) ?_
  refine lv_iadd hx hb dX1_isStruck_2 ?_
  refine lv_topi (fun v1 ev1 => ?_)
  have tv1 := z_add ev1 (rfl : (a).toInt = _) (by decide : (1 : Int32).toInt = 1) (by omega) (by omega)
  refine lv_istore_n (lv' := [(2, .int v1), (0, .ref (g 11 3)), (1, .int a)]) hx hb dX1_isStruck_3 rfl hl (by decide) rfl (fun ls hl => ?_)
  have lp11 : ∀ (nn11 : Nat) (x10_2 : Int32), 1 ≤ x10_2.toInt ∧ x10_2.toInt ≤ 8 → (∀ r : Nat, (a).toInt < (r : Int) → (r : Int) < (x10_2 : Int32).toInt → ¬ (((fa 1 6) r).toInt = 1 ∧ (St (fa 1 1) (mX (fa 1 2) 7) (fa 1 3)) r ((a).toInt).toNat)) → (a).toInt < (x10_2 : Int32).toInt → (x10_2 : Int32).toInt ≤ 8 → 8 - x10_2.toInt < (nn11 : Int) → ∀ (ls : Array Slot), lv_has ls 3 [(2, .int x10_2), (0, .ref (g 11 3)), (1, .int a)] → W p l e ({ frames := 1, cells := 0, slots := 0, locals := 23 } : Room) s m ([.ref (g 11 3), .int a] : List Value).toArray below meth c s.heap [] 0 0 (MQ below (vp_Si (fun r => (0 ≤ r.toInt ∧ r.toInt ≤ 1) ∧ (((r.toInt = 1 ∧ (∃ r' : Nat, (a.toInt).toNat < r' ∧ (r' : Int) < (iv 1 7).toInt ∧ ((fa 1 6) r').toInt = 1 ∧ (St (fa 1 1) (mX (fa 1 2) 7) (fa 1 3)) r' (a.toInt).toNat)) ∨ (r.toInt = 0 ∧ ¬ (∃ r' : Nat, (a.toInt).toNat < r' ∧ (r' : Int) < (iv 1 7).toInt ∧ ((fa 1 6) r').toInt = 1 ∧ (St (fa 1 1) (mX (fa 1 2) 7) (fa 1 3)) r' (a.toInt).toNat)))))) ([.ref (g 11 3), .int a] : List Value).toArray s 0 0 (fun _ => False)) (F0 m 4 ls []) := by
    intro nn11
    induction nn11 with
    | zero => intro x10_2 hx10_2 hq11_0 hq11_1 hq11_2 hm11; exfalso; omega
    | succ nn11 ih11 =>
      intro x10_2 hx10_2 hq11_0 hq11_1 hq11_2 hm11 ls hl
      refine lv_iload_n hx hb dX1_isStruck_4 rfl (lv_at hl 0 rfl) ?_
      refine lv_aload_n hx hb dX1_isStruck_5 rfl (lv_at hl 1 rfl) ?_
      have i_1_7 : 0 ≤ (iv 1 7).toInt ∧ (iv 1 7).toInt ≤ 8 := hI.1 1 7
      refine gX_1_7 hx hb ht hown hK hP m_196 (v := (iv 1 7)) rfl dX1_isStruck_6 ?_
      refine lv_icmp_ge (tgt := 38) hx hb dX1_isStruck_9 (by decide) (fun c12 => ?_) (fun c12 => ?_)
      · have fc12 := z_le (rfl : ((iv 1 7)).toInt = _) (rfl : (x10_2).toInt = _) c12
        refine lv_iconst (v := 0) hx hb dX1_isStruck_38 (by decide) ?_
        have : (0 : Int32).toInt = 0 := (by decide)
        exact W.zret (v := 0) hx hb hr rfl (fun t ht9 hW => ⟨0, rfl, ⟨⟨by decide, by decide⟩, (show (((0 : Int32).toInt = 1 ∧ (∃ r' : Nat, ((a).toInt).toNat < r' ∧ (r' : Int) < ((iv 1 7) : Int32).toInt ∧ ((fa 1 6) r').toInt = 1 ∧ (St (fa 1 1) (mX (fa 1 2) 7) (fa 1 3)) r' ((a).toInt).toNat)) ∨ ((0 : Int32).toInt = 0 ∧ ¬ (∃ r' : Nat, ((a).toInt).toNat < r' ∧ (r' : Int) < ((iv 1 7) : Int32).toInt ∧ ((fa 1 6) r').toInt = 1 ∧ (St (fa 1 1) (mX (fa 1 2) 7) (fa 1 3)) r' ((a).toInt).toNat))) from (by
              refine Or.inr ⟨by omega, ?_⟩
              rintro ⟨r, z1, z2, z3, z4⟩
              exact hq11_0 r (by omega) (by omega) ⟨z3, z4⟩))⟩, ht9⟩) (fun q hq => by cases hq) dX1_isStruck_39
      · have fc12 := z_nle (rfl : ((iv 1 7)).toInt = _) (rfl : (x10_2).toInt = _) c12
        refine lv_aload_n hx hb dX1_isStruck_12 rfl (lv_at hl 1 rfl) ?_
        refine gX_1_6 hx hb ht hown hK hP m_195 dX1_isStruck_13 ?_
        refine lv_iload_n hx hb dX1_isStruck_16 rfl (lv_at hl 0 rfl) ?_
        refine lX_1_6 hx hb hK hP (f := (fa 1 6)) rfl (vp_in_iff.mpr ⟨by omega, by omega⟩) dX1_isStruck_17 ?_
        refine lv_topi (fun v13 ev13 => ?_)
        have tv13 : 0 ≤ v13.toInt ∧ v13.toInt ≤ 1 := by rw [ev13]; exact hI.2 1 6 _
        refine lv_if_eq (tgt := 32) hx hb dX1_isStruck_18 (by decide) (fun c14 => ?_) (fun c14 => ?_)
        · have fc14 := z_eq (rfl : (v13).toInt = _) (by decide : (0 : Int32).toInt = 0) c14
          obtain ⟨v15, ev15⟩ : ∃ y : Int32, y = x10_2 + 1 := ⟨_, rfl⟩
          have tv15 := z_add ev15 rfl (by decide : (1 : Int32).toInt = 1) (by omega) (by omega)
          refine lv_iinc (v := v15) (lv' := [(2, .int v15), (0, .ref (g 11 3)), (1, .int a)]) hx hb dX1_isStruck_32 hl (k := 0) rfl (by rw [ev15]; rfl) (by decide) rfl (fun ls hl => ?_)
          refine lv_goto (tgt := 4) hx hb dX1_isStruck_35 (by decide) ?_
          exact ih11 v15 ⟨by omega, by omega⟩ (show ∀ r : Nat, (a).toInt < (r : Int) → (r : Int) < (v15 : Int32).toInt → ¬ (((fa 1 6) r).toInt = 1 ∧ (St (fa 1 1) (mX (fa 1 2) 7) (fa 1 3)) r ((a).toInt).toNat) from (fun r h1 h2 => by
                by_cases hj : (r : Int) < (x10_2 : Int32).toInt
                · exact hq11_0 r h1 hj
                · have hj2 : r = ((x10_2 : Int32).toInt).toNat := by omega
                  rw [hj2]
                  have hv9 := congrArg Int32.toInt (show v13 = (fa 1 6) ((x10_2 : Int32).toInt).toNat from ev13)
                  rintro ⟨z1, z2⟩
                  omega)) (show (a).toInt < (v15 : Int32).toInt from by omega) (show (v15 : Int32).toInt ≤ 8 from by omega) (by omega) ls (lv_sub hl [0, 1, 2] rfl)
        · have fc14 := z_ne (rfl : (v13).toInt = _) (by decide : (0 : Int32).toInt = 0) c14
          refine lv_aload_n hx hb dX1_isStruck_21 rfl (lv_at hl 1 rfl) ?_
          refine lv_iload_n hx hb dX1_isStruck_22 rfl (lv_at hl 0 rfl) ?_
          refine lv_iload_n hx hb dX1_isStruck_23 rfl (lv_at hl 2 rfl) ?_
          refine vp_callSi (W.runV (As := [.int x10_2, .int a]) (rest := []) ⟨hx, hb, hml, hown, ht⟩ (c_X1_strikes_f l dC dI h g ca iv lv fa la hI x10_2 a ⟨by omega, by omega⟩ ⟨by omega, by omega⟩) (kV 2 ht m_612 m_614 m_7 m_81 m_615 rfl rfl hd_X1_strikes_v ⟨Nat.le_of_ble_eq_true rfl, Nat.le_of_ble_eq_true rfl⟩) (vR hP hK (rX_1 hK hP)) rfl rfl hl.1 rfl (lv_room (Nat.le_of_ble_eq_true rfl)) dX1_isStruck_24 ⟨Nat.le_of_ble_eq_true rfl, Nat.le_of_ble_eq_true rfl⟩) (fun r16 hr16 => ?_)
          obtain ⟨hr16, xr16_0⟩ := hr16
          have xr16_0 : (((r16 : Int32).toInt = 1 ∧ St (fa 1 1) (mX (fa 1 2) 7) (fa 1 3) ((x10_2 : Int32).toInt).toNat ((a : Int32).toInt).toNat) ∨ ((r16 : Int32).toInt = 0 ∧ ¬ St (fa 1 1) (mX (fa 1 2) 7) (fa 1 3) ((x10_2 : Int32).toInt).toNat ((a : Int32).toInt).toNat)) := xr16_0
          refine lv_if_eq (tgt := 32) hx hb dX1_isStruck_27 (by decide) (fun c17 => ?_) (fun c17 => ?_)
          · have fc17 := z_eq (rfl : (r16).toInt = _) (by decide : (0 : Int32).toInt = 0) c17
            obtain ⟨v18, ev18⟩ : ∃ y : Int32, y = x10_2 + 1 := ⟨_, rfl⟩
            have tv18 := z_add ev18 rfl (by decide : (1 : Int32).toInt = 1) (by omega) (by omega)
            refine lv_iinc (v := v18) (lv' := [(2, .int v18), (0, .ref (g 11 3)), (1, .int a)]) hx hb dX1_isStruck_32 hl (k := 0) rfl (by rw [ev18]; rfl) (by decide) rfl (fun ls hl => ?_)
            refine lv_goto (tgt := 4) hx hb dX1_isStruck_35 (by decide) ?_
            exact ih11 v18 ⟨by omega, by omega⟩ (show ∀ r : Nat, (a).toInt < (r : Int) → (r : Int) < (v18 : Int32).toInt → ¬ (((fa 1 6) r).toInt = 1 ∧ (St (fa 1 1) (mX (fa 1 2) 7) (fa 1 3)) r ((a).toInt).toNat) from (fun r h1 h2 => by
                  by_cases hj : (r : Int) < (x10_2 : Int32).toInt
                  · exact hq11_0 r h1 hj
                  · have hj2 : r = ((x10_2 : Int32).toInt).toNat := by omega
                    rw [hj2]
                    have hv9 := congrArg Int32.toInt (show v13 = (fa 1 6) ((x10_2 : Int32).toInt).toNat from ev13)
                    rintro ⟨z1, z2⟩
                    rcases xr16_0 with ⟨y1, -⟩ | ⟨-, y2⟩
                    · omega
                    · exact y2 z2)) (show (a).toInt < (v18 : Int32).toInt from by omega) (show (v18 : Int32).toInt ≤ 8 from by omega) (by omega) ls (lv_sub hl [0, 1, 2] rfl)
          · have fc17 := z_ne (rfl : (r16).toInt = _) (by decide : (0 : Int32).toInt = 0) c17
            refine lv_iconst (v := 1) hx hb dX1_isStruck_30 (by decide) ?_
            have : (1 : Int32).toInt = 1 := (by decide)
            exact W.zret (v := 1) hx hb hr rfl (fun t ht9 hW => ⟨1, rfl, ⟨⟨by decide, by decide⟩, (show (((1 : Int32).toInt = 1 ∧ (∃ r' : Nat, ((a).toInt).toNat < r' ∧ (r' : Int) < ((iv 1 7) : Int32).toInt ∧ ((fa 1 6) r').toInt = 1 ∧ (St (fa 1 1) (mX (fa 1 2) 7) (fa 1 3)) r' ((a).toInt).toNat)) ∨ ((1 : Int32).toInt = 0 ∧ ¬ (∃ r' : Nat, ((a).toInt).toNat < r' ∧ (r' : Int) < ((iv 1 7) : Int32).toInt ∧ ((fa 1 6) r').toInt = 1 ∧ (St (fa 1 1) (mX (fa 1 2) 7) (fa 1 3)) r' ((a).toInt).toNat))) from (by
                  have hv9 := congrArg Int32.toInt (show v13 = (fa 1 6) ((x10_2 : Int32).toInt).toNat from ev13)
                  rcases xr16_0 with ⟨-, y2⟩ | ⟨y1, -⟩
                  · exact Or.inl ⟨by omega, ((x10_2 : Int32).toInt).toNat, by omega, by omega, by omega, y2⟩
                  · omega))⟩, ht9⟩) (fun q hq => by cases hq) dX1_isStruck_31
  exact lp11 8 v1 ⟨by omega, by omega⟩ (show ∀ r : Nat, (a).toInt < (r : Int) → (r : Int) < (v1 : Int32).toInt → ¬ (((fa 1 6) r).toInt = 1 ∧ (St (fa 1 1) (mX (fa 1 2) 7) (fa 1 3)) r ((a).toInt).toNat) from fun r h1 h2 => absurd h1 (by omega)) (show (a).toInt < (v1 : Int32).toInt from by omega) (show (v1 : Int32).toInt ≤ 8 from by omega) (by first | decide | omega) ls (lv_sub hl [0, 1, 2] rfl)
set_option maxHeartbeats 4000000 in
set_option maxRecDepth 100000 in
/-- X1_findCounting -/
theorem c_X1_findCounting_f (l : Launch) (dC : Nat → ClassId) (dI : Nat → Nat → Nat) (sz : Nat) (h : Nat) (g : Nat → Nat → Nat) (ca : Nat → Nat → ClassId) (iv : Nat → Nat → Int32) (lv : Nat → Nat → Int64) (fa : Nat → Nat → Nat → Int32) (la : Nat → Nat → Nat → Int64) (hI : IX iv fa) (a : Int32) : Met l yX1_findCounting (wc yX1_findCounting cX1_findCounting 3 none) ({ frames := 2, cells := 0, slots := 0, locals := 45 } : Room) (pW (dC, dI) classes (WX h g ca iv lv fa la) (TX ca) sz [.ref (g 11 3), .int a]) (va_Qv (fun (u : SS) => ∃ (na_1_6 : Nat → Int32), (∀ j, inb (bA 1 6 j) (na_1_6 j)) ∧ (OnR (iv 1 7).toInt (fun r => (na_1_6 r).toInt = 1) (fa 1 0) (St (fa 1 1) (mX (fa 1 2) 7) (fa 1 3)) a.toInt) ∧ u = (iv, lv, (u2 fa 1 6 na_1_6), la)) (bX (dC, dI) h g ca (va_A (WX h g ca iv lv fa la) sz)) (va_A (WX h g ca iv lv fa la) sz)) 0 0 (va_A (WX h g ca iv lv fa la) sz) := by
  refine Met.ofW (cc := cX1_findCounting) (maxL := 3) (ret := none) (by decide) rfl ?_
  intro p e s m args below meth c s₁ B hml hv
  obtain ⟨rfl, hsz, hP, hK, hD0⟩ := hv
  have hx := B.exec
  have hb := B.bytes
  have hr := B.returns
  have ht := tb_tl (atoms_spec (ws := wc yX1_findCounting cX1_findCounting 3 none) B.pre)
  have hown : s.vm.findClass RX1 = some m.cls := findClass_of_methodNamed B.named
  have hlocks := B.notSynchronized
  subst hsz
  have hD := hD0.self (sz := s.heap.size)
  generalize hAe : va_A (WX h g ca iv lv fa la) s.heap.size = A at hD ⊢
  have hA : ∀ q : Nat, s.heap.size ≤ q → A q := fun q h => by rw [← hAe]; exact Or.inr h
  have hS : va_S A s.heap s.heap [] := va_S.rf
  have hl := lv_entry [.ref (g 11 3), .int a] (n := 3) (Nat.le_of_ble_eq_true rfl)
  rw [lg_entry_eq]
  generalize (lg_sl [.ref (g 11 3), .int a] ++ List.replicate (3 - (lg_sl [.ref (g 11 3), .int a]).length) Slot.unset).toArray = ls at hl ⊢
  have hl : lv_has ls 3 [(0, .ref (g 11 3)), (1, .int a)] := hl
  refine lv_aload_n hx hb dX1_findCounting_0 rfl (lv_at hl 0 rfl) ?_
  have i_1_7 : 0 ≤ (iv 1 7).toInt ∧ (iv 1 7).toInt ≤ 8 := hI.1 1 7
  refine gX_1_7 hx hb ht hown hK hP m_196 (v := (iv 1 7)) rfl dX1_findCounting_1 ?_
  refine lv_iconst (v := 1) hx hb dX1_findCounting_4 (by decide) ?_
  refine lv_isub hx hb dX1_findCounting_5 ?_
  refine lv_topi (fun v1 ev1 => ?_)
  have tv1 := z_sub ev1 (rfl : ((iv 1 7)).toInt = _) (by decide : (1 : Int32).toInt = 1) (by omega) (by omega)
  refine lv_istore_n (lv' := [(2, .int v1), (0, .ref (g 11 3)), (1, .int a)]) hx hb dX1_findCounting_6 rfl hl (by decide) rfl (fun ls hl => ?_)
  have lp27 : ∀ (nn27 : Nat) (x26_2 : Int32) (w26_a_1_6 : Nat → Int32), (-1) ≤ x26_2.toInt ∧ x26_2.toInt ≤ 7 → (∀ j, inb (bA 1 6 j) (w26_a_1_6 j)) → (∀ r : Nat, (x26_2 : Int32).toInt < (r : Int) → (r : Int) < ((iv 1 7) : Int32).toInt → ((w26_a_1_6 r).toInt = 1 ↔ ((fa 1 0) r).toInt ≤ (a).toInt ∧ ¬ ∃ r' : Nat, r < r' ∧ (r' : Int) < ((iv 1 7) : Int32).toInt ∧ (w26_a_1_6 r').toInt = 1 ∧ (St (fa 1 1) (mX (fa 1 2) 7) (fa 1 3)) r' r)) → -1 ≤ (x26_2 : Int32).toInt → (x26_2 : Int32).toInt < ((iv 1 7) : Int32).toInt → x26_2.toInt - (-1) < (nn27 : Int) → ∀ (H : Heap) (locs : List Loc), ∀ (ls : Array Slot), va_P (dC, dI) classes (WX h g ca iv lv (u2 fa 1 6 w26_a_1_6) la) H → va_D A (WX h g ca iv lv (u2 fa 1 6 w26_a_1_6) la) → va_S A s.heap H locs → lv_has ls 3 [(2, .int x26_2), (0, .ref (g 11 3)), (1, .int a)] → W p l e ({ frames := 2, cells := 0, slots := 0, locals := 45 } : Room) s m ([.ref (g 11 3), .int a] : List Value).toArray below meth c H locs 0 0 (MQ below (va_Qv (fun (u : SS) => ∃ (na_1_6 : Nat → Int32), (∀ j, inb (bA 1 6 j) (na_1_6 j)) ∧ (OnR (iv 1 7).toInt (fun r => (na_1_6 r).toInt = 1) (fa 1 0) (St (fa 1 1) (mX (fa 1 2) 7) (fa 1 3)) a.toInt) ∧ u = (iv, lv, (u2 fa 1 6 na_1_6), la)) (bX (dC, dI) h g ca A) A) ([.ref (g 11 3), .int a] : List Value).toArray s 0 0 A) (F0 m 7 ls []) := by
    intro nn27
    induction nn27 with
    | zero => intro x26_2 w26_a_1_6 hx26_2 hw26_a_1_6 hq27_0 hq27_1 hq27_2 hm27; exfalso; omega
    | succ nn27 ih27 =>
      intro x26_2 w26_a_1_6 hx26_2 hw26_a_1_6 hq27_0 hq27_1 hq27_2 hm27 H locs ls hP hD hS hl
      refine lv_iload_n hx hb dX1_findCounting_7 rfl (lv_at hl 0 rfl) ?_
      refine lv_if_lt (tgt := 46) hx hb dX1_findCounting_8 (by decide) (fun c28 => ?_) (fun c28 => ?_)
      · have fc28 := z_lt (rfl : (x26_2).toInt = _) (by decide : (0 : Int32).toInt = 0) c28
        have hP9 : va_P (dC, dI) classes (WX h g ca iv lv (u2 fa 1 6 w26_a_1_6) la) H := hP
        have hD9 : va_D A (WX h g ca iv lv (u2 fa 1 6 w26_a_1_6) la) := hD
        exact W.vret hx hb hr (fun t ht9 hW => ⟨⟨(iv, lv, (u2 fa 1 6 w26_a_1_6), la), rfl, ⟨w26_a_1_6, hw26_a_1_6, (show OnR ((iv 1 7) : Int32).toInt (fun r => (w26_a_1_6 r).toInt = 1) (fa 1 0) (St (fa 1 1) (mX (fa 1 2) 7) (fa 1 3)) (a).toInt from (fun r hr => hq27_0 r (by omega) hr)), rfl⟩, by rw [ht9]; exact hP9, hD9⟩, hS.F ht9⟩) hS.2.2 dX1_findCounting_46
      · have fc28 := z_nlt (rfl : (x26_2).toInt = _) (by decide : (0 : Int32).toInt = 0) c28
        refine lv_aload_n hx hb dX1_findCounting_11 rfl (lv_at hl 1 rfl) ?_
        refine gX_1_6 hx hb ht hown hK hP m_195 dX1_findCounting_12 ?_
        refine lv_iload_n hx hb dX1_findCounting_15 rfl (lv_at hl 0 rfl) ?_
        refine lv_aload_n hx hb dX1_findCounting_16 rfl (lv_at hl 1 rfl) ?_
        refine gX_1_0 hx hb ht hown hK hP m_189 dX1_findCounting_17 ?_
        refine lv_iload_n hx hb dX1_findCounting_20 rfl (lv_at hl 0 rfl) ?_
        refine lX_1_0 hx hb hK hP (f := (fa 1 0)) rfl (vp_in_iff.mpr ⟨by omega, by omega⟩) dX1_findCounting_21 ?_
        refine lv_topi (fun v29 ev29 => ?_)
        refine lv_iload_n hx hb dX1_findCounting_22 rfl (lv_at hl 2 rfl) ?_
        refine lv_icmp_gt (tgt := 38) hx hb dX1_findCounting_23 (by decide) (fun c30 => ?_) (fun c30 => ?_)
        · have fc30 := z_lt (rfl : (a).toInt = _) (rfl : (v29).toInt = _) c30
          refine lv_iconst (v := 0) hx hb dX1_findCounting_38 (by decide) ?_
          refine tX_1_6 hx hb hK hP hD hS (f0 := w26_a_1_6) rfl (i := x26_2) (x := 0) (vp_in_iff.mpr ⟨by omega, by omega⟩) dX1_findCounting_39 (fun f31 ef31 H locs hP hD hS => ?_)
          have hf31 : ∀ j, inb (bA 1 6 j) (f31 j) := by rw [ef31]; exact upd_b (b := bA 1 6) hw26_a_1_6 (show inb (0, 1) (vp_nar .boolean 0) from ⟨by decide, by decide⟩)
          have hP : va_P (dC, dI) classes (WX h g ca iv lv (u2 fa 1 6 f31) la) H := hP
          have hD : va_D A (WX h g ca iv lv (u2 fa 1 6 f31) la) := hD
          obtain ⟨v32, ev32⟩ : ∃ y : Int32, y = x26_2 + (-1) := ⟨_, rfl⟩
          have tv32 := z_add ev32 rfl (by decide : ((-1) : Int32).toInt = (-1)) (by omega) (by omega)
          refine lv_iinc (v := v32) (lv' := [(2, .int v32), (0, .ref (g 11 3)), (1, .int a)]) hx hb dX1_findCounting_40 hl (k := 0) rfl (by rw [ev32]; rfl) (by decide) rfl (fun ls hl => ?_)
          refine lv_goto (tgt := 7) hx hb dX1_findCounting_43 (by decide) ?_
          exact ih27 v32 f31 ⟨by omega, by omega⟩ hf31 (show ∀ r : Nat, (v32 : Int32).toInt < (r : Int) → (r : Int) < ((iv 1 7) : Int32).toInt → ((f31 r).toInt = 1 ↔ ((fa 1 0) r).toInt ≤ (a).toInt ∧ ¬ ∃ r' : Nat, r < r' ∧ (r' : Int) < ((iv 1 7) : Int32).toInt ∧ (f31 r').toInt = 1 ∧ (St (fa 1 1) (mX (fa 1 2) 7) (fa 1 3)) r' r) from (by
                have hv9 := congrArg Int32.toInt (show v29 = fa 1 0 ((x26_2 : Int32).toInt).toNat from ev29)
                have hw9 : (f31 ((x26_2 : Int32).toInt).toNat).toInt = 0 := by rw [ef31, show ((x26_2 : Int32).toInt).toNat = (x26_2 : Int32).toNatClampNeg from rfl, upd_eq]; decide
                intro r h1 h2
                exact OnR_step (k := ((x26_2 : Int32).toInt).toNat) (fun r h1 h2 => hq27_0 r (by omega) h2) (fun j hj => by rw [ef31, upd_ne (show j ≠ (x26_2 : Int32).toNatClampNeg from hj)]) ⟨fun q => by omega, fun q => by have := q.1; omega⟩ r (by omega) h2)) (show -1 ≤ (v32 : Int32).toInt from by omega) (show (v32 : Int32).toInt < ((iv 1 7) : Int32).toInt from by omega) (by omega) _ _ ls hP hD hS (lv_sub hl [0, 1, 2] rfl)
        · have fc30 := z_nlt (rfl : (a).toInt = _) (rfl : (v29).toInt = _) c30
          refine lv_aload_n hx hb dX1_findCounting_26 rfl (lv_at hl 1 rfl) ?_
          refine lv_iload_n hx hb dX1_findCounting_27 rfl (lv_at hl 0 rfl) ?_
          refine vp_callSi (W.runV (As := [.int x26_2]) (rest := [.int x26_2, .ref (g 1 6)]) ⟨hx, hb, hml, hown, ht⟩ (c_X1_isStruck_f l dC dI h g ca iv lv (u2 fa 1 6 w26_a_1_6) la (IX_a (c := 1) (k := 6) hI hw26_a_1_6) x26_2 ⟨by omega, by omega⟩) (kV 1 ht m_608 m_610 m_6 m_81 m_611 rfl rfl hd_X1_isStruck_v ⟨Nat.le_of_ble_eq_true rfl, Nat.le_of_ble_eq_true rfl⟩) (vR hP hK (rX_1 hK hP)) rfl rfl hl.1 rfl (lv_room (Nat.le_of_ble_eq_true rfl)) dX1_findCounting_28 ⟨Nat.le_of_ble_eq_true rfl, Nat.le_of_ble_eq_true rfl⟩) (fun r33 hr33 => ?_)
          obtain ⟨hr33, xr33_0⟩ := hr33
          have xr33_0 : (((r33 : Int32).toInt = 1 ∧ (∃ r' : Nat, ((x26_2 : Int32).toInt).toNat < r' ∧ (r' : Int) < ((iv 1 7) : Int32).toInt ∧ (w26_a_1_6 r').toInt = 1 ∧ (St (fa 1 1) (mX (fa 1 2) 7) (fa 1 3)) r' ((x26_2 : Int32).toInt).toNat)) ∨ ((r33 : Int32).toInt = 0 ∧ ¬ (∃ r' : Nat, ((x26_2 : Int32).toInt).toNat < r' ∧ (r' : Int) < ((iv 1 7) : Int32).toInt ∧ (w26_a_1_6 r').toInt = 1 ∧ (St (fa 1 1) (mX (fa 1 2) 7) (fa 1 3)) r' ((x26_2 : Int32).toInt).toNat))) := xr33_0
          refine lv_if_ne (tgt := 38) hx hb dX1_findCounting_31 (by decide) (fun c34 => ?_) (fun c34 => ?_)
          · have fc34 := z_ne (rfl : (r33).toInt = _) (by decide : (0 : Int32).toInt = 0) c34
            refine lv_iconst (v := 0) hx hb dX1_findCounting_38 (by decide) ?_
            refine tX_1_6 hx hb hK hP hD hS (f0 := w26_a_1_6) rfl (i := x26_2) (x := 0) (vp_in_iff.mpr ⟨by omega, by omega⟩) dX1_findCounting_39 (fun f35 ef35 H locs hP hD hS => ?_)
            have hf35 : ∀ j, inb (bA 1 6 j) (f35 j) := by rw [ef35]; exact upd_b (b := bA 1 6) hw26_a_1_6 (show inb (0, 1) (vp_nar .boolean 0) from ⟨by decide, by decide⟩)
            have hP : va_P (dC, dI) classes (WX h g ca iv lv (u2 fa 1 6 f35) la) H := hP
            have hD : va_D A (WX h g ca iv lv (u2 fa 1 6 f35) la) := hD
            obtain ⟨v36, ev36⟩ : ∃ y : Int32, y = x26_2 + (-1) := ⟨_, rfl⟩
            have tv36 := z_add ev36 rfl (by decide : ((-1) : Int32).toInt = (-1)) (by omega) (by omega)
            refine lv_iinc (v := v36) (lv' := [(2, .int v36), (0, .ref (g 11 3)), (1, .int a)]) hx hb dX1_findCounting_40 hl (k := 0) rfl (by rw [ev36]; rfl) (by decide) rfl (fun ls hl => ?_)
            refine lv_goto (tgt := 7) hx hb dX1_findCounting_43 (by decide) ?_
            exact ih27 v36 f35 ⟨by omega, by omega⟩ hf35 (show ∀ r : Nat, (v36 : Int32).toInt < (r : Int) → (r : Int) < ((iv 1 7) : Int32).toInt → ((f35 r).toInt = 1 ↔ ((fa 1 0) r).toInt ≤ (a).toInt ∧ ¬ ∃ r' : Nat, r < r' ∧ (r' : Int) < ((iv 1 7) : Int32).toInt ∧ (f35 r').toInt = 1 ∧ (St (fa 1 1) (mX (fa 1 2) 7) (fa 1 3)) r' r) from (by
                  have hv9 := congrArg Int32.toInt (show v29 = fa 1 0 ((x26_2 : Int32).toInt).toNat from ev29)
                  have hw9 : (f35 ((x26_2 : Int32).toInt).toNat).toInt = 0 := by rw [ef35, show ((x26_2 : Int32).toInt).toNat = (x26_2 : Int32).toNatClampNeg from rfl, upd_eq]; decide
                  intro r h1 h2
                  exact OnR_step (k := ((x26_2 : Int32).toInt).toNat) (fun r h1 h2 => hq27_0 r (by omega) h2) (fun j hj => by rw [ef35, upd_ne (show j ≠ (x26_2 : Int32).toNatClampNeg from hj)]) ⟨fun q => by omega, fun q => absurd (xr33_0.resolve_right (fun q => by omega)).2 q.2⟩ r (by omega) h2)) (show -1 ≤ (v36 : Int32).toInt from by omega) (show (v36 : Int32).toInt < ((iv 1 7) : Int32).toInt from by omega) (by omega) _ _ ls hP hD hS (lv_sub hl [0, 1, 2] rfl)
          · have fc34 := z_eq (rfl : (r33).toInt = _) (by decide : (0 : Int32).toInt = 0) c34
            refine lv_iconst (v := 1) hx hb dX1_findCounting_34 (by decide) ?_
            refine lv_goto (tgt := 39) hx hb dX1_findCounting_35 (by decide) ?_
            refine tX_1_6 hx hb hK hP hD hS (f0 := w26_a_1_6) rfl (i := x26_2) (x := 1) (vp_in_iff.mpr ⟨by omega, by omega⟩) dX1_findCounting_39 (fun f37 ef37 H locs hP hD hS => ?_)
            have hf37 : ∀ j, inb (bA 1 6 j) (f37 j) := by rw [ef37]; exact upd_b (b := bA 1 6) hw26_a_1_6 (show inb (0, 1) (vp_nar .boolean 1) from ⟨by decide, by decide⟩)
            have hP : va_P (dC, dI) classes (WX h g ca iv lv (u2 fa 1 6 f37) la) H := hP
            have hD : va_D A (WX h g ca iv lv (u2 fa 1 6 f37) la) := hD
            obtain ⟨v38, ev38⟩ : ∃ y : Int32, y = x26_2 + (-1) := ⟨_, rfl⟩
            have tv38 := z_add ev38 rfl (by decide : ((-1) : Int32).toInt = (-1)) (by omega) (by omega)
            refine lv_iinc (v := v38) (lv' := [(2, .int v38), (0, .ref (g 11 3)), (1, .int a)]) hx hb dX1_findCounting_40 hl (k := 0) rfl (by rw [ev38]; rfl) (by decide) rfl (fun ls hl => ?_)
            refine lv_goto (tgt := 7) hx hb dX1_findCounting_43 (by decide) ?_
            exact ih27 v38 f37 ⟨by omega, by omega⟩ hf37 (show ∀ r : Nat, (v38 : Int32).toInt < (r : Int) → (r : Int) < ((iv 1 7) : Int32).toInt → ((f37 r).toInt = 1 ↔ ((fa 1 0) r).toInt ≤ (a).toInt ∧ ¬ ∃ r' : Nat, r < r' ∧ (r' : Int) < ((iv 1 7) : Int32).toInt ∧ (f37 r').toInt = 1 ∧ (St (fa 1 1) (mX (fa 1 2) 7) (fa 1 3)) r' r) from (by
                  have hv9 := congrArg Int32.toInt (show v29 = fa 1 0 ((x26_2 : Int32).toInt).toNat from ev29)
                  have hw9 : (f37 ((x26_2 : Int32).toInt).toNat).toInt = 1 := by rw [ef37, show ((x26_2 : Int32).toInt).toNat = (x26_2 : Int32).toNatClampNeg from rfl, upd_eq]; decide
                  intro r h1 h2
                  exact OnR_step (k := ((x26_2 : Int32).toInt).toNat) (fun r h1 h2 => hq27_0 r (by omega) h2) (fun j hj => by rw [ef37, upd_ne (show j ≠ (x26_2 : Int32).toNatClampNeg from hj)]) ⟨fun _ => ⟨by omega, (xr33_0.resolve_left (fun q => by omega)).2⟩, fun _ => hw9⟩ r (by omega) h2)) (show -1 ≤ (v38 : Int32).toInt from by omega) (show (v38 : Int32).toInt < ((iv 1 7) : Int32).toInt from by omega) (by omega) _ _ ls hP hD hS (lv_sub hl [0, 1, 2] rfl)
  exact lp27 9 v1 (fa 1 6) ⟨by omega, by omega⟩ (hI.2 1 6) (show ∀ r : Nat, (v1 : Int32).toInt < (r : Int) → (r : Int) < ((iv 1 7) : Int32).toInt → (((fa 1 6) r).toInt = 1 ↔ ((fa 1 0) r).toInt ≤ (a).toInt ∧ ¬ ∃ r' : Nat, r < r' ∧ (r' : Int) < ((iv 1 7) : Int32).toInt ∧ ((fa 1 6) r').toInt = 1 ∧ (St (fa 1 1) (mX (fa 1 2) 7) (fa 1 3)) r' r) from fun r h1 h2 => absurd h1 (by omega)) (show -1 ≤ (v1 : Int32).toInt from by omega) (show (v1 : Int32).toInt < ((iv 1 7) : Int32).toInt from by omega) (by first | decide | omega) _ _ ls hP hD hS (lv_sub hl [0, 1, 2] rfl)
/-! ===== bk3 ===== -/
set_option maxHeartbeats 4000000 in
set_option maxRecDepth 100000 in
/-- X1_lastOf -/
theorem c_X1_lastOf_f (l : Launch) (dC : Nat → ClassId) (dI : Nat → Nat → Nat) (h : Nat) (g : Nat → Nat → Nat) (ca : Nat → Nat → ClassId) (iv : Nat → Nat → Int32) (lv : Nat → Nat → Int64) (fa : Nat → Nat → Nat → Int32) (la : Nat → Nat → Nat → Int64) (hI : IX iv fa) (a : Int32) (b : Int32) (h_a : 0 ≤ a.toInt ∧ a.toInt ≤ 7) : Met l yX1_lastOf (wc yX1_lastOf cX1_lastOf 5 (some .int)) ({ frames := 0, cells := 0, slots := 0, locals := 0 } : Room) (pR (dC, dI) classes (WX h g ca iv lv fa la) (TX ca) [.ref (g 11 3), .int a, .int b]) (vp_Si (fun r => ((-1) ≤ r.toInt ∧ r.toInt ≤ 95) ∧ (La (12 * a.toInt) (12 * a.toInt + ((fa 1 1) (a.toInt).toNat).toInt) 0 (mX (fa 1 2) b.toInt) r.toInt))) 0 0 (fun _ => False) := by
  refine Met.ofW (cc := cX1_lastOf) (maxL := 5) (ret := (some .int)) (by decide) rfl ?_
  intro p e s m args below meth c s₁ B hml hv
  obtain ⟨rfl, hP, hK⟩ := hv
  have hx := B.exec
  have hb := B.bytes
  have hr := B.returns
  have ht := tb_tl (atoms_spec (ws := wc yX1_lastOf cX1_lastOf 5 (some .int)) B.pre)
  have hown : s.vm.findClass RX1 = some m.cls := findClass_of_methodNamed B.named
  have hlocks := B.notSynchronized
  have hl := lv_entry [.ref (g 11 3), .int a, .int b] (n := 5) (Nat.le_of_ble_eq_true rfl)
  rw [lg_entry_eq]
  generalize (lg_sl [.ref (g 11 3), .int a, .int b] ++ List.replicate (5 - (lg_sl [.ref (g 11 3), .int a, .int b]).length) Slot.unset).toArray = ls at hl ⊢
  have hl : lv_has ls 5 [(0, .ref (g 11 3)), (1, .int a), (2, .int b)] := hl
  refine lv_iconst (v := (-1)) hx hb dX1_lastOf_0 (by decide) ?_
  refine lv_istore_n (lv' := [(3, .int (-1)), (0, .ref (g 11 3)), (1, .int a), (2, .int b)]) hx hb dX1_lastOf_1 rfl hl (by decide) rfl (fun ls hl => ?_)
  refine lv_iload_n hx hb dX1_lastOf_2 rfl (lv_at hl 2 rfl) ?_
  refine lv_bipush (v := 12) hx hb dX1_lastOf_3 (by decide) ?_
  refine lv_imul hx hb dX1_lastOf_5 ?_
  refine lv_topi (fun v1 ev1 => ?_)
  have tv1 := z_mul ev1 (rfl : (a).toInt = _) (by decide : (12 : Int32).toInt = 12) (by omega) (by omega)
  have hb9 : 0 ≤ (fa 1 1 (a.toInt).toNat).toInt ∧ (fa 1 1 (a.toInt).toNat).toInt ≤ 12 := hI.2 1 1 _
  refine lv_istore (lv' := [(4, .int v1), (3, .int (-1)), (0, .ref (g 11 3)), (1, .int a), (2, .int b)]) hx hb dX1_lastOf_6 hl (by decide) rfl (fun ls hl => ?_)
  have lp30 : ∀ (nn30 : Nat) (x29_4 : Int32) (x29_3 : Int32), 0 ≤ x29_4.toInt ∧ x29_4.toInt ≤ 96 → (-1) ≤ x29_3.toInt ∧ x29_3.toInt ≤ 95 → (La (12 * (a).toInt) (x29_4 : Int32).toInt 0 (mX (fa 1 2) (b).toInt) (x29_3 : Int32).toInt) → 12 * (a).toInt ≤ (x29_4 : Int32).toInt → (x29_4 : Int32).toInt ≤ (12 * (a).toInt + ((fa 1 1) ((a).toInt).toNat).toInt) → 96 - x29_4.toInt < (nn30 : Int) → ∀ (ls : Array Slot), lv_has ls 5 [(4, .int x29_4), (3, .int x29_3), (0, .ref (g 11 3)), (1, .int a), (2, .int b)] → W p l e ({ frames := 0, cells := 0, slots := 0, locals := 0 } : Room) s m ([.ref (g 11 3), .int a, .int b] : List Value).toArray below meth c s.heap [] 0 0 (MQ below (vp_Si (fun r => ((-1) ≤ r.toInt ∧ r.toInt ≤ 95) ∧ (La (12 * a.toInt) (12 * a.toInt + ((fa 1 1) (a.toInt).toNat).toInt) 0 (mX (fa 1 2) b.toInt) r.toInt))) ([.ref (g 11 3), .int a, .int b] : List Value).toArray s 0 0 (fun _ => False)) (F0 m 8 ls []) := by
    intro nn30
    induction nn30 with
    | zero => intro x29_4 x29_3 hx29_4 hx29_3 hq30_0 hq30_1 hq30_2 hm30; exfalso; omega
    | succ nn30 ih30 =>
      intro x29_4 x29_3 hx29_4 hx29_3 hq30_0 hq30_1 hq30_2 hm30 ls hl
      refine lv_iload hx hb dX1_lastOf_8 (lv_at hl 0 rfl) ?_
      refine lv_iload_n hx hb dX1_lastOf_10 rfl (lv_at hl 3 rfl) ?_
      refine lv_bipush (v := 12) hx hb dX1_lastOf_11 (by decide) ?_
      refine lv_imul hx hb dX1_lastOf_13 ?_
      refine lv_topi (fun v31 ev31 => ?_)
      obtain rfl : v1 = v31 := ev1.trans ev31.symm
      refine lv_aload_n hx hb dX1_lastOf_14 rfl (lv_at hl 2 rfl) ?_
      refine gX_1_1 hx hb ht hown hK hP m_190 dX1_lastOf_15 ?_
      refine lv_iload_n hx hb dX1_lastOf_18 rfl (lv_at hl 3 rfl) ?_
      refine lX_1_1 hx hb hK hP (f := (fa 1 1)) rfl (vp_in_iff.mpr ⟨by omega, by omega⟩) dX1_lastOf_19 ?_
      refine lv_topi (fun v32 ev32 => ?_)
      have tv32 : 0 ≤ v32.toInt ∧ v32.toInt ≤ 12 := by rw [ev32]; exact hI.2 1 1 _
      have hn9 := congrArg Int32.toInt (show v32 = fa 1 1 (a.toInt).toNat from ev32)
      refine lv_iadd hx hb dX1_lastOf_20 ?_
      refine lv_topi (fun v33 ev33 => ?_)
      have tv33 := z_add ev33 (rfl : (v1).toInt = _) (rfl : (v32).toInt = _) (by omega) (by omega)
      refine lv_icmp_ge (tgt := 44) hx hb dX1_lastOf_21 (by decide) (fun c34 => ?_) (fun c34 => ?_)
      · have fc34 := z_le (rfl : (v33).toInt = _) (rfl : (x29_4).toInt = _) c34
        refine lv_iload_n hx hb dX1_lastOf_44 rfl (lv_at hl 1 rfl) ?_
        exact W.iret (v := x29_3) hx hb hr (fun t ht9 hW => ⟨x29_3, rfl, ⟨⟨by omega, by omega⟩, (show La (12 * (a).toInt) (12 * (a).toInt + ((fa 1 1) ((a).toInt).toNat).toInt) 0 (mX (fa 1 2) (b).toInt) (x29_3 : Int32).toInt from (by have hq9 := hq30_0; have he9 : (x29_4 : Int32).toInt = 12 * a.toInt + (fa 1 1 (a.toInt).toNat).toInt := (by omega); rw [he9] at hq9; exact hq9))⟩, ht9⟩) (fun q hq => by cases hq) dX1_lastOf_45
      · have fc34 := z_nle (rfl : (v33).toInt = _) (rfl : (x29_4).toInt = _) c34
        refine lv_aload_n hx hb dX1_lastOf_24 rfl (lv_at hl 2 rfl) ?_
        refine gX_1_2 hx hb ht hown hK hP m_191 dX1_lastOf_25 ?_
        refine lv_iload hx hb dX1_lastOf_28 (lv_at hl 0 rfl) ?_
        refine lX_1_2 hx hb hK hP (f := (fa 1 2)) rfl (vp_in_iff.mpr ⟨by omega, by omega⟩) dX1_lastOf_30 ?_
        refine lv_topi (fun v35 ev35 => ?_)
        refine lv_iload_n hx hb dX1_lastOf_31 rfl (lv_at hl 4 rfl) ?_
        refine lv_icmp_ne (tgt := 38) hx hb dX1_lastOf_32 (by decide) (fun c36 => ?_) (fun c36 => ?_)
        · have fc36 := z_ne (rfl : (v35).toInt = _) (rfl : (b).toInt = _) c36
          obtain ⟨v37, ev37⟩ : ∃ y : Int32, y = x29_4 + 1 := ⟨_, rfl⟩
          have tv37 := z_add ev37 rfl (by decide : (1 : Int32).toInt = 1) (by omega) (by omega)
          refine lv_iinc (v := v37) (lv' := [(4, .int v37), (3, .int x29_3), (0, .ref (g 11 3)), (1, .int a), (2, .int b)]) hx hb dX1_lastOf_38 hl (k := 0) rfl (by rw [ev37]; rfl) (by decide) rfl (fun ls hl => ?_)
          refine lv_goto (tgt := 8) hx hb dX1_lastOf_41 (by decide) ?_
          exact ih30 v37 x29_3 ⟨by omega, by omega⟩ ⟨by omega, by omega⟩ (show La (12 * (a).toInt) (v37 : Int32).toInt 0 (mX (fa 1 2) (b).toInt) (x29_3 : Int32).toInt from (by have hv9 := congrArg Int32.toInt (show v35 = fa 1 2 ((x29_4 : Int32).toInt).toNat from ev35); exact La_n (c := ((x29_4 : Int32).toInt).toNat) (hi := (x29_4 : Int32).toInt) (by omega) (by omega) (show ¬ (fa 1 2 ((x29_4 : Int32).toInt).toNat).toInt = b.toInt from by omega) hq30_0)) (show 12 * (a).toInt ≤ (v37 : Int32).toInt from by omega) (show (v37 : Int32).toInt ≤ (12 * (a).toInt + ((fa 1 1) ((a).toInt).toNat).toInt) from by omega) (by omega) ls (lv_sub hl [0, 1, 2, 3, 4] rfl)
        · have fc36 := z_eq (rfl : (v35).toInt = _) (rfl : (b).toInt = _) c36
          refine lv_iload hx hb dX1_lastOf_35 (lv_at hl 0 rfl) ?_
          refine lv_istore_n (lv' := [(3, .int x29_4), (4, .int x29_4), (0, .ref (g 11 3)), (1, .int a), (2, .int b)]) hx hb dX1_lastOf_37 rfl hl (by decide) rfl (fun ls hl => ?_)
          obtain ⟨v38, ev38⟩ : ∃ y : Int32, y = x29_4 + 1 := ⟨_, rfl⟩
          have tv38 := z_add ev38 rfl (by decide : (1 : Int32).toInt = 1) (by omega) (by omega)
          refine lv_iinc (v := v38) (lv' := [(4, .int v38), (3, .int x29_4), (0, .ref (g 11 3)), (1, .int a), (2, .int b)]) hx hb dX1_lastOf_38 hl (k := 1) rfl (by rw [ev38]; rfl) (by decide) rfl (fun ls hl => ?_)
          refine lv_goto (tgt := 8) hx hb dX1_lastOf_41 (by decide) ?_
          exact ih30 v38 x29_4 ⟨by omega, by omega⟩ ⟨by omega, by omega⟩ (show La (12 * (a).toInt) (v38 : Int32).toInt 0 (mX (fa 1 2) (b).toInt) (x29_4 : Int32).toInt from (by have hv9 := congrArg Int32.toInt (show v35 = fa 1 2 ((x29_4 : Int32).toInt).toNat from ev35); exact La_y (c := ((x29_4 : Int32).toInt).toNat) (hi := (x29_4 : Int32).toInt) (by omega) (by omega) (by omega) (show (fa 1 2 ((x29_4 : Int32).toInt).toNat).toInt = b.toInt from by omega) (by omega))) (show 12 * (a).toInt ≤ (v38 : Int32).toInt from by omega) (show (v38 : Int32).toInt ≤ (12 * (a).toInt + ((fa 1 1) ((a).toInt).toNat).toInt) from by omega) (by omega) ls (lv_sub hl [0, 1, 2, 3, 4] rfl)
  have : ((-1) : Int32).toInt = (-1) := (by decide)
  exact lp30 97 v1 (-1) ⟨by omega, by omega⟩ ⟨by decide, by decide⟩ (show La (12 * (a).toInt) (v1 : Int32).toInt 0 (mX (fa 1 2) (b).toInt) ((-1) : Int32).toInt from (by rw [show (v1 : Int32).toInt = 12 * a.toInt from by omega]; exact La_0)) (show 12 * (a).toInt ≤ (v1 : Int32).toInt from by omega) (show (v1 : Int32).toInt ≤ (12 * (a).toInt + ((fa 1 1) ((a).toInt).toNat).toInt) from by omega) (by first | decide | omega) ls (lv_sub hl [0, 1, 2, 3, 4] rfl)
set_option maxHeartbeats 4000000 in
set_option maxRecDepth 100000 in
/-- X1_holding -/
theorem c_X1_holding_f (l : Launch) (dC : Nat → ClassId) (dI : Nat → Nat → Nat) (sz : Nat) (ak av : Nat → Nat) (h : Nat) (g : Nat → Nat → Nat) (ca : Nat → Nat → ClassId) (iv : Nat → Nat → Int32) (lv : Nat → Nat → Int64) (fa : Nat → Nat → Nat → Int32) (la : Nat → Nat → Nat → Int64) (hI : IX iv fa) (a : Int32) (b : Int32) (h_a : 0 ≤ a.toInt ∧ a.toInt ≤ 5) (hJB : ∀ j : Nat, (j : Int) < (iv 1 7).toInt → 0 ≤ (fa 1 0 j).toInt) : Met l yX1_holding (wc yX1_holding cX1_holding 7 (some .int)) ({ frames := 3, cells := 0, slots := 0, locals := 67 } : Room) (pWZ ak av (dC, dI) classes (WX h g ca iv lv fa la) (TX ca) sz [.ref (g 11 3), .int a, .int b]) (va_Qi (fun r (u : SS) => ∃ (na_1_6 : Nat → Int32), (∀ j, inb (bA 1 6 j) (na_1_6 j)) ∧ (FoX (iv 1 7).toInt (fa 1 0) (fa 1 1) (fa 1 2) (fa 1 3) a.toInt b.toInt r.toInt) ∧ (True) ∧ u = (iv, lv, (u2 fa 1 6 na_1_6), la)) (bX (dC, dI) h g ca (va_A (WX h g ca iv lv fa la) sz)) (va_A (WX h g ca iv lv fa la) sz)) 0 0 (va_A (WX h g ca iv lv fa la) sz) := by
  refine Met.ofW (cc := cX1_holding) (maxL := 7) (ret := (some .int)) (by decide) rfl ?_
  intro p e s m args below meth c s₁ B hml hv
  obtain ⟨rfl, hsz, hP, hK, hD0, hZ⟩ := hv
  have hx := B.exec
  have hb := B.bytes
  have hr := B.returns
  have ht := tb_tl (atoms_spec (ws := wc yX1_holding cX1_holding 7 (some .int)) B.pre)
  have hown : s.vm.findClass RX1 = some m.cls := findClass_of_methodNamed B.named
  have hlocks := B.notSynchronized
  subst hsz
  have hD := hD0.self (sz := s.heap.size)
  generalize hAe : va_A (WX h g ca iv lv fa la) s.heap.size = A at hD hZ ⊢
  have hA : ∀ q : Nat, s.heap.size ≤ q → A q := fun q h => by rw [← hAe]; exact Or.inr h
  have hS : va_S A s.heap s.heap [] := va_S.rf
  have hl := lv_entry [.ref (g 11 3), .int a, .int b] (n := 7) (Nat.le_of_ble_eq_true rfl)
  rw [lg_entry_eq]
  generalize (lg_sl [.ref (g 11 3), .int a, .int b] ++ List.replicate (7 - (lg_sl [.ref (g 11 3), .int a, .int b]).length) Slot.unset).toArray = ls at hl ⊢
  have hl : lv_has ls 7 [(0, .ref (g 11 3)), (1, .int a), (2, .int b)] := hl
  refine lv_aload_n hx hb dX1_holding_0 rfl (lv_at hl 0 rfl) ?_
  refine lv_iload_n hx hb dX1_holding_1 rfl (lv_at hl 2 rfl) ?_
  have hFc := free_all hD hS hA
  refine va_callv (va_runV (As := [.int b]) (rest := []) ⟨hx, hb, hml, hown, ht⟩ (c_X1_findCounting_f l dC dI s.heap.size h g ca iv lv fa la hI b) (kV 1 ht m_604 m_606 m_5 m_81 m_607 rfl rfl hd_X1_findCounting_v ⟨Nat.le_of_ble_eq_true rfl, Nat.le_of_ble_eq_true rfl⟩) (vW hP hK hD (rX_1 hK hP)) rfl rfl hl.1 rfl (lv_room (Nat.le_of_ble_eq_true rfl)) dX1_holding_2 ⟨Nat.le_of_ble_eq_true rfl, Nat.le_of_ble_eq_true rfl⟩) hS (fun q _ h => hFc q h) hFc (fun u t H1 locs ht9 hvm hr1 hB hz1 hk1 hS => ?_)
  obtain ⟨n2, hn2, xr1_0, rfl⟩ := hr1
  obtain ⟨hP, hD⟩ := hB
  rw [ht9] at hP
  generalize H1 = H at hP hS ⊢
  have hP : va_P (dC, dI) classes (WX h g ca iv lv (u2 fa 1 6 n2) la) H := hP
  have hD : va_D A (WX h g ca iv lv (u2 fa 1 6 n2) la) := (show va_D _ (WX h g ca iv lv (u2 fa 1 6 n2) la) from hD).weaken (fun _ _ _ h => hFc _ h)
  have i_1_7 : 0 ≤ (iv 1 7).toInt ∧ (iv 1 7).toInt ≤ 8 := hI.1 1 7
  have xr1_0 : OnR ((iv 1 7) : Int32).toInt (fun r => (n2 r).toInt = 1) (fa 1 0) (St (fa 1 1) (mX (fa 1 2) 7) (fa 1 3)) (b : Int32).toInt := xr1_0
  obtain ⟨tz3, hztz3, hytz3⟩ := hZ.1.1
  refine va_gets hx hb hztz3 hS hown (ht _ m_616) (fun _ h9 => h9) dX1_holding_5 ?_
  refine lv_iload_n hx hb dX1_holding_8 rfl (lv_at hl 1 rfl) ?_
  refine va_ti (v := .int (C_AF (a : Int32).toNatClampNeg)) hx hb hytz3 hS (vp_in_iff.mpr ⟨by omega, by omega⟩) rfl dX1_holding_9 ?_
  refine lv_topi (fun v4 ev4 => ?_)
  have hf9 := (congrArg Int32.toInt ev4).trans (tab_af (r := a) ⟨by omega, by omega⟩)
  refine lv_istore_n (lv' := [(3, .int v4), (0, .ref (g 11 3)), (1, .int a), (2, .int b)]) hx hb dX1_holding_10 rfl hl (by decide) rfl (fun ls hl => ?_)
  refine lv_iconst (v := (-1)) hx hb dX1_holding_11 (by decide) ?_
  refine lv_istore (lv' := [(4, .int (-1)), (3, .int v4), (0, .ref (g 11 3)), (1, .int a), (2, .int b)]) hx hb dX1_holding_12 hl (by decide) rfl (fun ls hl => ?_)
  refine lv_iconst (v := 0) hx hb dX1_holding_14 (by decide) ?_
  refine lv_istore (lv' := [(5, .int 0), (4, .int (-1)), (3, .int v4), (0, .ref (g 11 3)), (1, .int a), (2, .int b)]) hx hb dX1_holding_15 hl (by decide) rfl (fun ls hl => ?_)
  have lp132 : ∀ (nn132 : Nat) (x131_5 : Int32) (x131_4 : Int32) (x131_3 : Int32), 0 ≤ x131_5.toInt ∧ x131_5.toInt ≤ 8 → (-1) ≤ x131_4.toInt → (BestS ((x131_5 : Int32).toInt).toNat (fun r => (n2 r).toInt = 1) (fa 1 0) (fa 1 1) (mX (fa 1 2) (a).toInt) (vI (fa 1 3)) (aF (a).toInt) (x131_3 : Int32).toInt (x131_4 : Int32).toInt) → (x131_5 : Int32).toInt ≤ ((iv 1 7) : Int32).toInt → -1 ≤ (x131_4 : Int32).toInt → 8 - x131_5.toInt < (nn132 : Int) → ∀ (H : Heap) (locs : List Loc), ∀ (ls : Array Slot), va_P (dC, dI) classes (WX h g ca iv lv (u2 fa 1 6 n2) la) H → va_D A (WX h g ca iv lv (u2 fa 1 6 n2) la) → va_S A s.heap H locs → lv_has ls 7 [(5, .int x131_5), (4, .int x131_4), (3, .int x131_3), (0, .ref (g 11 3)), (1, .int a), (2, .int b)] → W p l e ({ frames := 3, cells := 0, slots := 0, locals := 67 } : Room) s m ([.ref (g 11 3), .int a, .int b] : List Value).toArray below meth c H locs 0 0 (MQ below (va_Qi (fun r (u : SS) => ∃ (na_1_6 : Nat → Int32), (∀ j, inb (bA 1 6 j) (na_1_6 j)) ∧ (FoX (iv 1 7).toInt (fa 1 0) (fa 1 1) (fa 1 2) (fa 1 3) a.toInt b.toInt r.toInt) ∧ (True) ∧ u = (iv, lv, (u2 fa 1 6 na_1_6), la)) (bX (dC, dI) h g ca A) A) ([.ref (g 11 3), .int a, .int b] : List Value).toArray s 0 0 A) (F0 m 17 ls []) := by
    intro nn132
    induction nn132 with
    | zero => intro x131_5 x131_4 x131_3 hx131_5 hx131_4 hq132_0 hq132_1 hq132_2 hm132; exfalso; omega
    | succ nn132 ih132 =>
      intro x131_5 x131_4 x131_3 hx131_5 hx131_4 hq132_0 hq132_1 hq132_2 hm132 H locs ls hP hD hS hl
      refine lv_iload hx hb dX1_holding_17 (lv_at hl 0 rfl) ?_
      refine lv_aload_n hx hb dX1_holding_19 rfl (lv_at hl 3 rfl) ?_
      refine gX_1_7 hx hb ht hown hK hP m_196 (v := (iv 1 7)) rfl dX1_holding_20 ?_
      refine lv_icmp_ge (tgt := 86) hx hb dX1_holding_23 (by decide) (fun c133 => ?_) (fun c133 => ?_)
      · have fc133 := z_le (rfl : ((iv 1 7)).toInt = _) (rfl : (x131_5).toInt = _) c133
        refine lv_iload_n hx hb dX1_holding_86 rfl (lv_at hl 2 rfl) ?_
        have hP9 : va_P (dC, dI) classes (WX h g ca iv lv (u2 fa 1 6 n2) la) H := hP
        have hD9 : va_D A (WX h g ca iv lv (u2 fa 1 6 n2) la) := hD
        exact W.iret (v := x131_3) hx hb hr (fun t ht9 hW => ⟨⟨x131_3, (iv, lv, (u2 fa 1 6 n2), la), rfl, ⟨n2, hn2, (show FoX ((iv 1 7) : Int32).toInt (fa 1 0) (fa 1 1) (fa 1 2) (fa 1 3) (a).toInt (b).toInt (x131_3 : Int32).toInt from (by have hq9 := hq132_0; have he9 : (x131_5 : Int32).toInt = (iv 1 7).toInt := (by omega); rw [he9] at hq9; exact ⟨_, _, xr1_0, hq9⟩)), trivial, rfl⟩, by rw [ht9]; exact hP9, hD9⟩, hS.F ht9⟩) hS.2.2 dX1_holding_87
      · have fc133 := z_nle (rfl : ((iv 1 7)).toInt = _) (rfl : (x131_5).toInt = _) c133
        refine lv_aload_n hx hb dX1_holding_26 rfl (lv_at hl 3 rfl) ?_
        refine lv_iload hx hb dX1_holding_27 (lv_at hl 0 rfl) ?_
        refine lv_iload_n hx hb dX1_holding_29 rfl (lv_at hl 4 rfl) ?_
        refine vp_callSi (W.runV (As := [.int x131_5, .int a]) (rest := []) ⟨hx, hb, hml, hown, ht⟩ (c_X1_lastOf_f l dC dI h g ca iv lv (u2 fa 1 6 n2) la (IX_a (c := 1) (k := 6) hI hn2) x131_5 a ⟨by omega, by omega⟩) (kV 2 ht m_618 m_620 m_8 m_81 m_621 rfl rfl hd_X1_lastOf_v ⟨Nat.le_of_ble_eq_true rfl, Nat.le_of_ble_eq_true rfl⟩) (vR hP hK (rX_1 hK hP)) rfl rfl hl.1 rfl (lv_room (Nat.le_of_ble_eq_true rfl)) dX1_holding_30 ⟨Nat.le_of_ble_eq_true rfl, Nat.le_of_ble_eq_true rfl⟩) (fun r134 hr134 => ?_)
        obtain ⟨hr134, xr134_0⟩ := hr134
        have xr134_0 : La (12 * (x131_5 : Int32).toInt) (12 * (x131_5 : Int32).toInt + ((fa 1 1) ((x131_5 : Int32).toInt).toNat).toInt) 0 (mX (fa 1 2) (a : Int32).toInt) (r134 : Int32).toInt := xr134_0
        refine lv_istore (lv' := [(6, .int r134), (5, .int x131_5), (4, .int x131_4), (3, .int x131_3), (0, .ref (g 11 3)), (1, .int a), (2, .int b)]) hx hb dX1_holding_33 hl (by decide) rfl (fun ls hl => ?_)
        refine lv_aload_n hx hb dX1_holding_35 rfl (lv_at hl 4 rfl) ?_
        refine gX_1_6 hx hb ht hown hK hP m_195 dX1_holding_36 ?_
        refine lv_iload hx hb dX1_holding_39 (lv_at hl 1 rfl) ?_
        refine lX_1_6 hx hb hK hP (f := n2) rfl (vp_in_iff.mpr ⟨by omega, by omega⟩) dX1_holding_41 ?_
        refine lv_topi (fun v135 ev135 => ?_)
        have tv135 : 0 ≤ v135.toInt ∧ v135.toInt ≤ 1 := by rw [ev135]; exact hn2 _
        refine lv_if_eq (tgt := 80) hx hb dX1_holding_42 (by decide) (fun c136 => ?_) (fun c136 => ?_)
        · have fc136 := z_eq (rfl : (v135).toInt = _) (by decide : (0 : Int32).toInt = 0) c136
          obtain ⟨v137, ev137⟩ : ∃ y : Int32, y = x131_5 + 1 := ⟨_, rfl⟩
          have tv137 := z_add ev137 rfl (by decide : (1 : Int32).toInt = 1) (by omega) (by omega)
          refine lv_iinc (v := v137) (lv' := [(5, .int v137), (6, .int r134), (4, .int x131_4), (3, .int x131_3), (0, .ref (g 11 3)), (1, .int a), (2, .int b)]) hx hb dX1_holding_80 hl (k := 1) rfl (by rw [ev137]; rfl) (by decide) rfl (fun ls hl => ?_)
          refine lv_goto (tgt := 17) hx hb dX1_holding_83 (by decide) ?_
          exact ih132 v137 x131_4 x131_3 ⟨by omega, by omega⟩ (by omega) (show BestS ((v137 : Int32).toInt).toNat (fun r => (n2 r).toInt = 1) (fa 1 0) (fa 1 1) (mX (fa 1 2) (a).toInt) (vI (fa 1 3)) (aF (a).toInt) (x131_3 : Int32).toInt (x131_4 : Int32).toInt from (by
                have ho9 := congrArg Int32.toInt (show v135 = n2 ((x131_5 : Int32).toInt).toNat from ev135)
                have hl9 := xr134_0
                have hc9 : ((((x131_5 : Int32).toInt).toNat : Nat) : Int) = (x131_5 : Int32).toInt := Int.toNat_of_nonneg (by omega)
                refine BestS_n (show ((v137 : Int32).toInt).toNat = ((x131_5 : Int32).toInt).toNat + 1 from by omega) (fun j h1 h2 h3 => ?_) hq132_0
                have h1 : (n2 ((x131_5 : Int32).toInt).toNat).toInt = 1 := h1
                rcases hl9 with ⟨y1, y2⟩ | ⟨k, y1, y2, y3, y4, y5⟩
                · exact y2 j (by omega) (by omega)
                · exfalso; omega)) (show (v137 : Int32).toInt ≤ ((iv 1 7) : Int32).toInt from by omega) (show -1 ≤ (x131_4 : Int32).toInt from by omega) (by omega) _ _ ls hP hD hS (lv_sub hl [0, 2, 3, 4, 5, 6] rfl)
        · have fc136 := z_ne (rfl : (v135).toInt = _) (by decide : (0 : Int32).toInt = 0) c136
          refine lv_iload hx hb dX1_holding_45 (lv_at hl 0 rfl) ?_
          refine lv_iconst (v := (-1)) hx hb dX1_holding_47 (by decide) ?_
          refine lv_icmp_eq (tgt := 80) hx hb dX1_holding_48 (by decide) (fun c138 => ?_) (fun c138 => ?_)
          · have fc138 := z_eq (rfl : (r134).toInt = _) (by decide : ((-1) : Int32).toInt = (-1)) c138
            obtain ⟨v139, ev139⟩ : ∃ y : Int32, y = x131_5 + 1 := ⟨_, rfl⟩
            have tv139 := z_add ev139 rfl (by decide : (1 : Int32).toInt = 1) (by omega) (by omega)
            refine lv_iinc (v := v139) (lv' := [(5, .int v139), (6, .int r134), (4, .int x131_4), (3, .int x131_3), (0, .ref (g 11 3)), (1, .int a), (2, .int b)]) hx hb dX1_holding_80 hl (k := 1) rfl (by rw [ev139]; rfl) (by decide) rfl (fun ls hl => ?_)
            refine lv_goto (tgt := 17) hx hb dX1_holding_83 (by decide) ?_
            exact ih132 v139 x131_4 x131_3 ⟨by omega, by omega⟩ (by omega) (show BestS ((v139 : Int32).toInt).toNat (fun r => (n2 r).toInt = 1) (fa 1 0) (fa 1 1) (mX (fa 1 2) (a).toInt) (vI (fa 1 3)) (aF (a).toInt) (x131_3 : Int32).toInt (x131_4 : Int32).toInt from (by
                  have ho9 := congrArg Int32.toInt (show v135 = n2 ((x131_5 : Int32).toInt).toNat from ev135)
                  have hl9 := xr134_0
                  have hc9 : ((((x131_5 : Int32).toInt).toNat : Nat) : Int) = (x131_5 : Int32).toInt := Int.toNat_of_nonneg (by omega)
                  refine BestS_n (show ((v139 : Int32).toInt).toNat = ((x131_5 : Int32).toInt).toNat + 1 from by omega) (fun j h1 h2 h3 => ?_) hq132_0
                  have h1 : (n2 ((x131_5 : Int32).toInt).toNat).toInt = 1 := h1
                  rcases hl9 with ⟨y1, y2⟩ | ⟨k, y1, y2, y3, y4, y5⟩
                  · exact y2 j (by omega) (by omega)
                  · exfalso; omega)) (show (v139 : Int32).toInt ≤ ((iv 1 7) : Int32).toInt from by omega) (show -1 ≤ (x131_4 : Int32).toInt from by omega) (by omega) _ _ ls hP hD hS (lv_sub hl [0, 2, 3, 4, 5, 6] rfl)
          · have fc138 := z_ne (rfl : (r134).toInt = _) (by decide : ((-1) : Int32).toInt = (-1)) c138
            refine lv_aload_n hx hb dX1_holding_51 rfl (lv_at hl 4 rfl) ?_
            refine gX_1_0 hx hb ht hown hK hP m_189 dX1_holding_52 ?_
            refine lv_iload hx hb dX1_holding_55 (lv_at hl 1 rfl) ?_
            refine lX_1_0 hx hb hK hP (f := (fa 1 0)) rfl (vp_in_iff.mpr ⟨by omega, by omega⟩) dX1_holding_57 ?_
            refine lv_topi (fun v140 ev140 => ?_)
            refine lv_iload hx hb dX1_holding_58 (lv_at hl 2 rfl) ?_
            refine lv_icmp_lt (tgt := 80) hx hb dX1_holding_60 (by decide) (fun c141 => ?_) (fun c141 => ?_)
            · have fc141 := z_lt (rfl : (v140).toInt = _) (rfl : (x131_4).toInt = _) c141
              obtain ⟨v142, ev142⟩ : ∃ y : Int32, y = x131_5 + 1 := ⟨_, rfl⟩
              have tv142 := z_add ev142 rfl (by decide : (1 : Int32).toInt = 1) (by omega) (by omega)
              refine lv_iinc (v := v142) (lv' := [(5, .int v142), (6, .int r134), (4, .int x131_4), (3, .int x131_3), (0, .ref (g 11 3)), (1, .int a), (2, .int b)]) hx hb dX1_holding_80 hl (k := 1) rfl (by rw [ev142]; rfl) (by decide) rfl (fun ls hl => ?_)
              refine lv_goto (tgt := 17) hx hb dX1_holding_83 (by decide) ?_
              exact ih132 v142 x131_4 x131_3 ⟨by omega, by omega⟩ (by omega) (show BestS ((v142 : Int32).toInt).toNat (fun r => (n2 r).toInt = 1) (fa 1 0) (fa 1 1) (mX (fa 1 2) (a).toInt) (vI (fa 1 3)) (aF (a).toInt) (x131_3 : Int32).toInt (x131_4 : Int32).toInt from (by
                    have ho9 := congrArg Int32.toInt (show v135 = n2 ((x131_5 : Int32).toInt).toNat from ev135)
                    have hl9 := xr134_0
                    have hc9 : ((((x131_5 : Int32).toInt).toNat : Nat) : Int) = (x131_5 : Int32).toInt := Int.toNat_of_nonneg (by omega)
                    have hd9 := congrArg Int32.toInt (show v140 = fa 1 0 ((x131_5 : Int32).toInt).toNat from ev140)
                    exact BestS_o (show ((v142 : Int32).toInt).toNat = ((x131_5 : Int32).toInt).toNat + 1 from by omega) (hJB ((x131_5 : Int32).toInt).toNat (by omega)) (by omega) hq132_0)) (show (v142 : Int32).toInt ≤ ((iv 1 7) : Int32).toInt from by omega) (show -1 ≤ (x131_4 : Int32).toInt from by omega) (by omega) _ _ ls hP hD hS (lv_sub hl [0, 2, 3, 4, 5, 6] rfl)
            · have fc141 := z_nlt (rfl : (v140).toInt = _) (rfl : (x131_4).toInt = _) c141
              refine lv_aload_n hx hb dX1_holding_63 rfl (lv_at hl 4 rfl) ?_
              refine gX_1_3 hx hb ht hown hK hP m_192 dX1_holding_64 ?_
              refine lv_iload hx hb dX1_holding_67 (lv_at hl 0 rfl) ?_
              refine lX_1_3 hx hb hK hP (f := (fa 1 3)) rfl (vp_in_iff.mpr ⟨by omega, by omega⟩) dX1_holding_69 ?_
              refine lv_topi (fun v143 ev143 => ?_)
              refine lv_istore_n (lv' := [(3, .int v143), (6, .int r134), (5, .int x131_5), (4, .int x131_4), (0, .ref (g 11 3)), (1, .int a), (2, .int b)]) hx hb dX1_holding_70 rfl hl (by decide) rfl (fun ls hl => ?_)
              refine lv_aload_n hx hb dX1_holding_71 rfl (lv_at hl 4 rfl) ?_
              refine gX_1_0 hx hb ht hown hK hP m_189 dX1_holding_72 ?_
              refine lv_iload hx hb dX1_holding_75 (lv_at hl 2 rfl) ?_
              refine lX_1_0 hx hb hK hP (f := (fa 1 0)) rfl (vp_in_iff.mpr ⟨by omega, by omega⟩) dX1_holding_77 ?_
              refine lv_topi (fun v144 ev144 => ?_)
              obtain rfl : v140 = v144 := ev140.trans ev144.symm
              refine lv_istore (lv' := [(4, .int v140), (3, .int v143), (6, .int r134), (5, .int x131_5), (0, .ref (g 11 3)), (1, .int a), (2, .int b)]) hx hb dX1_holding_78 hl (by decide) rfl (fun ls hl => ?_)
              obtain ⟨v145, ev145⟩ : ∃ y : Int32, y = x131_5 + 1 := ⟨_, rfl⟩
              have tv145 := z_add ev145 rfl (by decide : (1 : Int32).toInt = 1) (by omega) (by omega)
              refine lv_iinc (v := v145) (lv' := [(5, .int v145), (4, .int v140), (3, .int v143), (6, .int r134), (0, .ref (g 11 3)), (1, .int a), (2, .int b)]) hx hb dX1_holding_80 hl (k := 3) rfl (by rw [ev145]; rfl) (by decide) rfl (fun ls hl => ?_)
              refine lv_goto (tgt := 17) hx hb dX1_holding_83 (by decide) ?_
              exact ih132 v145 v140 v143 ⟨by omega, by omega⟩ (by omega) (show BestS ((v145 : Int32).toInt).toNat (fun r => (n2 r).toInt = 1) (fa 1 0) (fa 1 1) (mX (fa 1 2) (a).toInt) (vI (fa 1 3)) (aF (a).toInt) (v143 : Int32).toInt (v140 : Int32).toInt from (by
                    have ho9 := congrArg Int32.toInt (show v135 = n2 ((x131_5 : Int32).toInt).toNat from ev135)
                    have hl9 := xr134_0
                    have hc9 : ((((x131_5 : Int32).toInt).toNat : Nat) : Int) = (x131_5 : Int32).toInt := Int.toNat_of_nonneg (by omega)
                    have hd9 := congrArg Int32.toInt (show v140 = fa 1 0 ((x131_5 : Int32).toInt).toNat from ev140)
                    rcases hl9 with ⟨y1, y2⟩ | ⟨k, y1, y2, y3, y4, y5⟩
                    · exfalso; omega
                    · exact BestS_y (j := k) (show ((v145 : Int32).toInt).toNat = ((x131_5 : Int32).toInt).toNat + 1 from by omega) (show (n2 ((x131_5 : Int32).toInt).toNat).toInt = 1 from by omega) (by omega) (by omega) y4 (fun j' h1 h2 => y5 j' h1 (by omega)) (by omega) (show (v143 : Int32).toInt = (fa 1 3 k).toInt from by rw [show k = ((r134 : Int32).toInt).toNat from by omega]; exact congrArg Int32.toInt ev143) (by omega) hq132_0)) (show (v145 : Int32).toInt ≤ ((iv 1 7) : Int32).toInt from by omega) (show -1 ≤ (v140 : Int32).toInt from by omega) (by omega) _ _ ls hP hD hS (lv_sub hl [0, 1, 2, 4, 5, 6] rfl)
  have : (0 : Int32).toInt = 0 := (by decide)
  have : ((-1) : Int32).toInt = (-1) := (by decide)
  exact lp132 9 0 (-1) v4 ⟨by decide, by decide⟩ (by decide) (show BestS ((0 : Int32).toInt).toNat (fun r => (n2 r).toInt = 1) (fa 1 0) (fa 1 1) (mX (fa 1 2) (a).toInt) (vI (fa 1 3)) (aF (a).toInt) (v4 : Int32).toInt ((-1) : Int32).toInt from (by rw [show ((0 : Int32).toInt).toNat = 0 from by decide, hf9]; exact BestS_0)) (show (0 : Int32).toInt ≤ ((iv 1 7) : Int32).toInt from by omega) (show -1 ≤ ((-1) : Int32).toInt from by omega) (by first | decide | omega) _ _ ls hP hD hS (lv_sub hl [0, 1, 2, 3, 4, 5] rfl)
set_option maxHeartbeats 4000000 in
set_option maxRecDepth 100000 in
/-- X11_force -/
theorem c_X11_force_f (l : Launch) (dC : Nat → ClassId) (dI : Nat → Nat → Nat) (sz : Nat) (ak av : Nat → Nat) (h : Nat) (g : Nat → Nat → Nat) (ca : Nat → Nat → ClassId) (iv : Nat → Nat → Int32) (lv : Nat → Nat → Int64) (fa : Nat → Nat → Nat → Int32) (la : Nat → Nat → Nat → Int64) (hI : IX iv fa) (a : Int32) (b : Int32) (hJB : ∀ j : Nat, (j : Int) < (iv 1 7).toInt → 0 ≤ (fa 1 0 j).toInt) : Met l yX11_force (wc yX11_force cX11_force 3 (some .int)) ({ frames := 4, cells := 0, slots := 0, locals := 93 } : Room) (pWZ ak av (dC, dI) classes (WX h g ca iv lv fa la) (TX ca) sz [.ref h, .int a, .int b]) (va_Qi (fun r (u : SS) => ∃ (na_1_6 : Nat → Int32), (∀ j, inb (bA 1 6 j) (na_1_6 j)) ∧ (((r.toInt = -100002 ∧ ¬ (0 ≤ a.toInt ∧ a.toInt ≤ 5 ∧ 0 ≤ b.toInt ∧ b.toInt ≤ 3000)) ∨ ((0 ≤ a.toInt ∧ a.toInt ≤ 5 ∧ 0 ≤ b.toInt ∧ b.toInt ≤ 3000) ∧ FoX (iv 1 7).toInt (fa 1 0) (fa 1 1) (fa 1 2) (fa 1 3) a.toInt b.toInt r.toInt))) ∧ (True) ∧ u = (iv, lv, (u2 fa 1 6 na_1_6), la)) (bX (dC, dI) h g ca (va_A (WX h g ca iv lv fa la) sz)) (va_A (WX h g ca iv lv fa la) sz)) 0 0 (va_A (WX h g ca iv lv fa la) sz) := by
  refine Met.ofW (cc := cX11_force) (maxL := 3) (ret := (some .int)) (by decide) rfl ?_
  intro p e s m args below meth c s₁ B hml hv
  obtain ⟨rfl, hsz, hP, hK, hD0, hZ⟩ := hv
  have hx := B.exec
  have hb := B.bytes
  have hr := B.returns
  have ht := tb_tl (atoms_spec (ws := wc yX11_force cX11_force 3 (some .int)) B.pre)
  have hown : s.vm.findClass RX11 = some m.cls := findClass_of_methodNamed B.named
  have hlocks := B.notSynchronized
  subst hsz
  have hD := hD0.self (sz := s.heap.size)
  generalize hAe : va_A (WX h g ca iv lv fa la) s.heap.size = A at hD hZ ⊢
  have hA : ∀ q : Nat, s.heap.size ≤ q → A q := fun q h => by rw [← hAe]; exact Or.inr h
  have hS : va_S A s.heap s.heap [] := va_S.rf
  have hl := lv_entry [.ref h, .int a, .int b] (n := 3) (Nat.le_of_ble_eq_true rfl)
  rw [lg_entry_eq]
  generalize (lg_sl [.ref h, .int a, .int b] ++ List.replicate (3 - (lg_sl [.ref h, .int a, .int b]).length) Slot.unset).toArray = ls at hl ⊢
  have hl : lv_has ls 3 [(0, .ref h), (1, .int a), (2, .int b)] := hl
  refine lv_iload_n hx hb dX11_force_0 rfl (lv_at hl 1 rfl) ?_
  refine lv_iconst (v := 0) hx hb dX11_force_1 (by decide) ?_
  refine lv_iconst (v := 5) hx hb dX11_force_2 (by decide) ?_
  refine vp_callSi (W.runS (As := [.int a, .int 0, .int 5]) (rest := []) ⟨hx, hb, hml, hown, ht⟩ (c_X11_within l dC dI a 0 5 (a.toInt) (0) (5) (rfl : (a).toInt = _) (by decide : (0 : Int32).toInt = 0) (by decide : (5 : Int32).toInt = 5)) (kS 3 ht m_453 m_454 m_77 m_455 rfl rfl hd_X11_within_v ⟨Nat.le_of_ble_eq_true rfl, Nat.le_of_ble_eq_true rfl⟩) (sR noP (hK.sub (tys' := []) [] rfl)) rfl rfl hl.1 rfl (lv_room (Nat.le_of_ble_eq_true rfl)) dX11_force_3 ⟨Nat.le_of_ble_eq_true rfl, Nat.le_of_ble_eq_true rfl⟩) (fun r1 hr1 => ?_)
  rcases hr1 with ⟨rfl, fr1⟩ | ⟨rfl, fr1⟩
  · skip
    refine lv_if_eq (tgt := 20) hx hb dX11_force_6 (by decide) (fun c2 => ?_) (fun c2 => ?_)
    · exact absurd c2 (by decide)
    · skip
      refine lv_iload_n hx hb dX11_force_9 rfl (lv_at hl 2 rfl) ?_
      refine lv_iconst (v := 0) hx hb dX11_force_10 (by decide) ?_
      refine lv_sipush (v := 3000) hx hb dX11_force_11 (by decide) ?_
      refine vp_callSi (W.runS (As := [.int b, .int 0, .int 3000]) (rest := []) ⟨hx, hb, hml, hown, ht⟩ (c_X11_within l dC dI b 0 3000 (b.toInt) (0) (3000) (rfl : (b).toInt = _) (by decide : (0 : Int32).toInt = 0) (by decide : (3000 : Int32).toInt = 3000)) (kS 3 ht m_453 m_454 m_77 m_455 rfl rfl hd_X11_within_v ⟨Nat.le_of_ble_eq_true rfl, Nat.le_of_ble_eq_true rfl⟩) (sR noP (hK.sub (tys' := []) [] rfl)) rfl rfl hl.1 rfl (lv_room (Nat.le_of_ble_eq_true rfl)) dX11_force_14 ⟨Nat.le_of_ble_eq_true rfl, Nat.le_of_ble_eq_true rfl⟩) (fun r3 hr3 => ?_)
      rcases hr3 with ⟨rfl, fr3⟩ | ⟨rfl, fr3⟩
      · skip
        refine lv_if_ne (tgt := 23) hx hb dX11_force_17 (by decide) (fun c4 => ?_) (fun c4 => ?_)
        · skip
          refine lv_aload_n hx hb dX11_force_23 rfl (lv_at hl 0 rfl) ?_
          refine gX_11_3 hx hb ht hown hK hP m_418 dX11_force_24 ?_
          refine lv_iload_n hx hb dX11_force_27 rfl (lv_at hl 1 rfl) ?_
          refine lv_iload_n hx hb dX11_force_28 rfl (lv_at hl 2 rfl) ?_
          have hFc := free_all hD hS hA
          refine va_calli (va_runV (As := [.int a, .int b]) (rest := []) ⟨hx, hb, hml, hown, ht⟩ (c_X1_holding_f l dC dI s.heap.size ak av h g ca iv lv fa la hI a b ⟨by omega, by omega⟩ hJB) (kV 2 ht m_667 m_601 m_602 m_81 m_603 rfl rfl hd_X1_holding_v ⟨Nat.le_of_ble_eq_true rfl, Nat.le_of_ble_eq_true rfl⟩) (vWZ hP hK hD ((hZ.kept hS.2.1).narrow (free_all hD hS hA)) (rX_1 hK hP)) rfl rfl hl.1 rfl (lv_room (Nat.le_of_ble_eq_true rfl)) dX11_force_29 ⟨Nat.le_of_ble_eq_true rfl, Nat.le_of_ble_eq_true rfl⟩) hS (fun q _ h => hFc q h) hFc (fun r5 u t H1 locs ht9 hvm hr5 hB hz1 hk1 hS => ?_)
          obtain ⟨n6, hn6, xr5_0, hr5, rfl⟩ := hr5
          obtain ⟨hP, hD⟩ := hB
          rw [ht9] at hP
          generalize H1 = H at hP hS ⊢
          have hP : va_P (dC, dI) classes (WX h g ca iv lv (u2 fa 1 6 n6) la) H := hP
          have hD : va_D A (WX h g ca iv lv (u2 fa 1 6 n6) la) := (show va_D _ (WX h g ca iv lv (u2 fa 1 6 n6) la) from hD).weaken (fun _ _ _ h => hFc _ h)
          have i_1_7 : 0 ≤ (iv 1 7).toInt ∧ (iv 1 7).toInt ≤ 8 := hI.1 1 7
          have xr5_0 : FoX ((iv 1 7) : Int32).toInt (fa 1 0) (fa 1 1) (fa 1 2) (fa 1 3) (a : Int32).toInt (b : Int32).toInt (r5 : Int32).toInt := xr5_0
          have hP9 : va_P (dC, dI) classes (WX h g ca iv lv (u2 fa 1 6 n6) la) H := hP
          have hD9 : va_D A (WX h g ca iv lv (u2 fa 1 6 n6) la) := hD
          exact W.iret (v := r5) hx hb hr (fun t ht9 hW => ⟨⟨r5, (iv, lv, (u2 fa 1 6 n6), la), rfl, ⟨n6, hn6, (show (((r5 : Int32).toInt = -100002 ∧ ¬ (0 ≤ (a).toInt ∧ (a).toInt ≤ 5 ∧ 0 ≤ (b).toInt ∧ (b).toInt ≤ 3000)) ∨ ((0 ≤ (a).toInt ∧ (a).toInt ≤ 5 ∧ 0 ≤ (b).toInt ∧ (b).toInt ≤ 3000) ∧ FoX (iv 1 7).toInt (fa 1 0) (fa 1 1) (fa 1 2) (fa 1 3) (a).toInt (b).toInt (r5 : Int32).toInt)) from Or.inr ⟨⟨by omega, by omega, by omega, by omega⟩, xr5_0⟩), trivial, rfl⟩, by rw [ht9]; exact hP9, hD9⟩, hS.F ht9⟩) hS.2.2 dX11_force_32
        · exact absurd c4 (by decide)
      · skip
        refine lv_if_ne (tgt := 23) hx hb dX11_force_17 (by decide) (fun c7 => ?_) (fun c7 => ?_)
        · exact absurd rfl c7
        · skip
          refine lv_ldc hx hb hown (ht _ m_456) dX11_force_20 ?_
          have : ((-100002) : Int32).toInt = (-100002) := (by decide)
          have hP9 : va_P (dC, dI) classes (WX h g ca iv lv (u2 fa 1 6 (fa 1 6)) la) s.heap := hP
          have hD9 : va_D A (WX h g ca iv lv (u2 fa 1 6 (fa 1 6)) la) := hD
          exact W.iret (v := (-100002)) hx hb hr (fun t ht9 hW => ⟨⟨(-100002), (iv, lv, (u2 fa 1 6 (fa 1 6)), la), rfl, ⟨(fa 1 6), (hI.2 1 6), (show ((((-100002) : Int32).toInt = -100002 ∧ ¬ (0 ≤ (a).toInt ∧ (a).toInt ≤ 5 ∧ 0 ≤ (b).toInt ∧ (b).toInt ≤ 3000)) ∨ ((0 ≤ (a).toInt ∧ (a).toInt ≤ 5 ∧ 0 ≤ (b).toInt ∧ (b).toInt ≤ 3000) ∧ FoX (iv 1 7).toInt (fa 1 0) (fa 1 1) (fa 1 2) (fa 1 3) (a).toInt (b).toInt ((-100002) : Int32).toInt)) from Or.inl ⟨by omega, by omega⟩), trivial, rfl⟩, by rw [ht9]; exact hP9, hD9⟩, hS.F ht9⟩) hS.2.2 dX11_force_22
  · skip
    refine lv_if_eq (tgt := 20) hx hb dX11_force_6 (by decide) (fun c8 => ?_) (fun c8 => ?_)
    · skip
      refine lv_ldc hx hb hown (ht _ m_456) dX11_force_20 ?_
      have : ((-100002) : Int32).toInt = (-100002) := (by decide)
      have hP9 : va_P (dC, dI) classes (WX h g ca iv lv (u2 fa 1 6 (fa 1 6)) la) s.heap := hP
      have hD9 : va_D A (WX h g ca iv lv (u2 fa 1 6 (fa 1 6)) la) := hD
      exact W.iret (v := (-100002)) hx hb hr (fun t ht9 hW => ⟨⟨(-100002), (iv, lv, (u2 fa 1 6 (fa 1 6)), la), rfl, ⟨(fa 1 6), (hI.2 1 6), (show ((((-100002) : Int32).toInt = -100002 ∧ ¬ (0 ≤ (a).toInt ∧ (a).toInt ≤ 5 ∧ 0 ≤ (b).toInt ∧ (b).toInt ≤ 3000)) ∨ ((0 ≤ (a).toInt ∧ (a).toInt ≤ 5 ∧ 0 ≤ (b).toInt ∧ (b).toInt ≤ 3000) ∧ FoX (iv 1 7).toInt (fa 1 0) (fa 1 1) (fa 1 2) (fa 1 3) (a).toInt (b).toInt ((-100002) : Int32).toInt)) from Or.inl ⟨by omega, by omega⟩), trivial, rfl⟩, by rw [ht9]; exact hP9, hD9⟩, hS.F ht9⟩) hS.2.2 dX11_force_22
    · exact absurd rfl c8
