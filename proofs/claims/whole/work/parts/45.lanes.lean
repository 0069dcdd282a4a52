/-! ===== sheets: lanes ===== -/
def asL (ln : Int) (v : Int64) : Int64 := if ln = 0 then v.toInt32.toInt8.toInt32.toInt64 else if ln = 1 then v.toInt32.toInt64 else v
theorem sh_ar {n : Int} {k p q m : Nat} (hk : k = 56 ∧ p = 2 ^ 56 ∧ m = 2 ^ 8 ∨ k = 32 ∧ p = 2 ^ 32 ∧ m = 2 ^ 32) (h0 : 0 ≤ n) (h1 : n < 2 ^ 64) : (n * (p : Int)).bmod (2 ^ 64) / (p : Int) = n.bmod m := by
  rcases hk with ⟨_, rfl, rfl⟩ | ⟨_, rfl, rfl⟩
  · simp only [Int.bmod]
    omega
  · simp only [Int.bmod]
    omega
theorem sh_by (v : Int64) (A : Int64) (k m : Nat) (hk : k = 56 ∧ m = 2 ^ 8 ∨ k = 32 ∧ m = 2 ^ 32) (hA : A.toBitVec.smod 64 = BitVec.ofNat 64 k) : ((v <<< A) >>> A).toInt = v.toInt.bmod m := by
  have hk2 : k < 64 := by omega
  have e1 : ((v <<< A) >>> A).toInt = ((v.toBitVec <<< BitVec.ofNat 64 k).sshiftRight' (BitVec.ofNat 64 k)).toInt := by rw [← hA]; rfl
  have e2 : (BitVec.ofNat 64 k).toNat = k := Nat.mod_eq_of_lt (by omega)
  rw [e1, BitVec.toInt_sshiftRight', e2, BitVec.shiftLeft_eq', e2, BitVec.toInt_shiftLeft, Int.shiftRight_eq_div_pow, Nat.shiftLeft_eq]
  have e3 : v.toInt = (v.toBitVec.toNat : Int).bmod (2 ^ 64) := BitVec.toInt_eq_toNat_bmod v.toBitVec
  have e4 : v.toBitVec.toNat < 2 ^ 64 := v.toBitVec.isLt
  rw [e3, Int.natCast_mul]
  have e5 : ((v.toBitVec.toNat : Int).bmod (2 ^ 64)).bmod m = (v.toBitVec.toNat : Int).bmod m := by
    rcases hk with ⟨_, rfl⟩ | ⟨_, rfl⟩
    · exact Int.bmod_bmod_of_dvd ⟨2 ^ 56, by decide⟩
    · exact Int.bmod_bmod_of_dvd ⟨2 ^ 32, by decide⟩
  rw [e5]
  rcases hk with ⟨rfl, rfl⟩ | ⟨rfl, rfl⟩
  · exact sh_ar (k := 56) (q := 0) (Or.inl ⟨rfl, rfl, rfl⟩) (by omega) (by omega)
  · exact sh_ar (k := 32) (q := 0) (Or.inr ⟨rfl, rfl, rfl⟩) (by omega) (by omega)
theorem asL_0 (v : Int64) : (v <<< ((56 : Int32).toInt64 &&& 63)) >>> ((56 : Int32).toInt64 &&& 63) = v.toInt32.toInt8.toInt32.toInt64 := by
  apply Int64.toInt_inj.mp
  rw [sh_by v _ 56 (2 ^ 8) (Or.inl ⟨rfl, rfl⟩) (by decide), Int32.toInt_toInt64, Int8.toInt_toInt32, Int32.toInt_toInt8, Int64.toInt_toInt32]
  exact (Int.bmod_bmod_of_dvd ⟨2 ^ 24, by decide⟩).symm
theorem asL_1 (v : Int64) : (v <<< ((32 : Int32).toInt64 &&& 63)) >>> ((32 : Int32).toInt64 &&& 63) = v.toInt32.toInt64 := by
  apply Int64.toInt_inj.mp
  rw [sh_by v _ 32 (2 ^ 32) (Or.inr ⟨rfl, rfl⟩) (by decide), Int32.toInt_toInt64, Int64.toInt_toInt32]
theorem asL_s {ln : Int} {v : Int64} (h : -128 ≤ v.toInt) (h2 : v.toInt < 128) : asL ln v = v := by
  unfold asL
  split
  · apply Int64.toInt_inj.mp
    rw [Int32.toInt_toInt64, Int8.toInt_toInt32, Int32.toInt_toInt8, Int64.toInt_toInt32, Int.bmod_eq_of_le (n := v.toInt) (by omega) (by omega), Int.bmod_eq_of_le (by omega) (by omega)]
  · split
    · apply Int64.toInt_inj.mp
      rw [Int32.toInt_toInt64, Int64.toInt_toInt32, Int.bmod_eq_of_le (by omega) (by omega)]
    · rfl
