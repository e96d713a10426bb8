/-! ===== bytes of a long ===== -/
theorem l63 : ∀ k, k < 64 → ((nI k).toInt64 &&& 63).toBitVec.smod 64 = BitVec.ofNat 64 k := by decide +kernel
theorem u63 : ∀ k, k < 64 → ((nI k).toInt64.toUInt64 &&& Int64.toUInt64 63).toBitVec % 64 = BitVec.ofNat 64 k := by decide +kernel
theorem bt_i32 (x : Int64) {i : Nat} (hi : i < 32) : bt x.toInt32 i = x.toBitVec.getLsbD i := by
  unfold bt
  rw [Int64.toBitVec_toInt32, BitVec.getLsbD_signExtend]
  simp [hi, show i < 64 by omega]
theorem lu_bit (w : Int64) {k i : Nat} (hk : k < 64) : ((w.toUInt64 >>> ((nI k).toInt64.toUInt64 &&& Int64.toUInt64 63)).toInt64).toBitVec.getLsbD i = w.toBitVec.getLsbD (k + i) := by
  show (w.toUInt64 >>> ((nI k).toInt64.toUInt64 &&& Int64.toUInt64 63)).toBitVec.getLsbD i = w.toUInt64.toBitVec.getLsbD (k + i)
  rw [UInt64.toBitVec_shiftRight, u63 k hk]
  show (w.toUInt64.toBitVec >>> (BitVec.ofNat 64 k).toNat).getLsbD i = _
  rw [BitVec.getLsbD_ushiftRight, BitVec.toNat_ofNat, Nat.mod_eq_of_lt (by omega)]
theorem ls_bit (w : Int64) {k i : Nat} (hk : k < 64) (hi : k + i < 64) : (w >>> ((nI k).toInt64 &&& 63)).toBitVec.getLsbD i = w.toBitVec.getLsbD (k + i) := by
  rw [Int64.toBitVec_shiftRight, l63 k hk]
  show (w.toBitVec.sshiftRight (BitVec.ofNat 64 k).toNat).getLsbD i = _
  rw [BitVec.getLsbD_sshiftRight, BitVec.toNat_ofNat, Nat.mod_eq_of_lt (by omega)]
  simp [hi, show i < 64 by omega]
theorem byte_eq (w : Int64) {k : Nat} (hk : k ≤ 56) : (((w.toUInt64 >>> ((nI k).toInt64.toUInt64 &&& Int64.toUInt64 63)).toInt64).toInt32) &&& 255 = ((w >>> ((nI k).toInt64 &&& 63)).toInt32) &&& 255 := by
  apply b_ext
  intro i hi
  rw [b_and, b_and, b_255, bt_i32 _ hi, bt_i32 _ hi]
  by_cases h8 : i < 8
  · rw [lu_bit w (by omega), ls_bit w (by omega) (by omega)]
  · rw [decide_eq_false h8, Bool.and_false, Bool.and_false]
