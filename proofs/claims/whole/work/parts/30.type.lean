/-! ===== type ===== -/
theorem sh_u : ∀ i, i < 8 → (((8 : Int32) * nI i).toInt64.toUInt64 &&& Int64.toUInt64 63) = UInt64.ofNat (8 * i) := by decide +kernel
theorem sh_s : ∀ i, i < 8 → (((8 : Int32) * nI i).toInt64 &&& 63) = Int64.ofNat (8 * i) := by decide +kernel
theorem sh_a : ∀ i, i < 8 → ((UInt64.ofNat (8 * i)) % 64).toBitVec.toNat = 8 * i := by decide +kernel
theorem sh_b : ∀ i, i < 8 → ((Int64.ofNat (8 * i)).toBitVec.smod 64#64).toNat = 8 * i := by decide +kernel
theorem by_c (w : Int64) {i : Nat} (hi : i < 8) : (((w.toUInt64 >>> UInt64.ofNat (8 * i)).toInt64).toInt32 &&& 255).toBitVec.toNat = (w.toBitVec.toNat >>> (8 * i)) % 256 := by
  have e1 : (w.toUInt64 >>> UInt64.ofNat (8 * i)).toBitVec.toNat = w.toBitVec.toNat >>> (8 * i) := by
    show (w.toBitVec >>> ((UInt64.ofNat (8 * i)) % 64).toBitVec).toNat = _
    rw [BitVec.ushiftRight_eq', BitVec.toNat_ushiftRight, sh_a i hi]
  show (((w.toUInt64 >>> UInt64.ofNat (8 * i)).toBitVec.signExtend 32) &&& 255#32).toNat = _
  rw [BitVec.signExtend_eq_setWidth_of_le _ (by decide), BitVec.toNat_and, BitVec.toNat_setWidth, e1]
  show _ &&& (2 ^ 8 - 1) = _
  rw [Nat.and_two_pow_sub_one_eq_mod]
  omega
theorem by_r (w : Int64) {i : Nat} (hi : i < 8) : ((w >>> (Int64.ofNat (8 * i))) &&& 255).toBitVec.toNat = (w.toBitVec.toNat >>> (8 * i)) % 256 := by
  have hv : (w >>> (Int64.ofNat (8 * i))).toBitVec = w.toBitVec.sshiftRight (8 * i) := by
    show w.toBitVec.sshiftRight' ((Int64.ofNat (8 * i)).toBitVec.smod 64#64) = _
    rw [BitVec.sshiftRight_eq', sh_b i hi]
  show ((w >>> (Int64.ofNat (8 * i))).toBitVec &&& 255#64).toNat = _
  rw [hv, BitVec.toNat_and]
  show _ &&& (2 ^ 8 - 1) = _
  rw [Nat.and_two_pow_sub_one_eq_mod]
  refine Nat.eq_of_testBit_eq fun j => ?_
  rw [Nat.testBit_mod_two_pow, show (256 : Nat) = 2 ^ 8 from rfl, Nat.testBit_mod_two_pow, Nat.testBit_shiftRight]
  by_cases hj : j < 8
  · simp only [hj, decide_true, Bool.true_and]
    show (w.toBitVec.sshiftRight (8 * i)).getLsbD j = w.toBitVec.getLsbD (8 * i + j)
    rw [BitVec.getLsbD_sshiftRight]
    have : ¬ 64 ≤ j := by omega
    simp [this, show 8 * i + j < 64 by omega]
  · simp [hj]
