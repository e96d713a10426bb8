theorem sh_nat (X : Int32) (n : Nat) (hn : n < 32) : ((X.toUInt32 >>> ((nI n).toUInt32 &&& Int32.toUInt32 31)).toInt32).toBitVec.toNat = X.toBitVec.toNat / 2 ^ n := by
  show (X.toUInt32 >>> ((nI n).toUInt32 &&& Int32.toUInt32 31)).toBitVec.toNat = _
  rw [UInt32.toBitVec_shiftRight]
  show (X.toUInt32.toBitVec >>> (((nI n).toUInt32 &&& Int32.toUInt32 31).toBitVec % 32).toNat).toNat = _
  rw [s_u n hn, BitVec.toNat_ushiftRight, Nat.shiftRight_eq_div_pow]
  rfl
theorem and_nat (X Y : Int32) : (X &&& Y).toBitVec.toNat = X.toBitVec.toNat &&& Y.toBitVec.toNat := by rw [Int32.toBitVec_and, BitVec.toNat_and]
theorem add_nat (X Y : Int32) : (X + Y).toBitVec.toNat = (X.toBitVec.toNat + Y.toBitVec.toNat) % 4294967296 := by rw [Int32.toBitVec_add, BitVec.toNat_add]
theorem sub_nat (X Y : Int32) : (X - Y).toBitVec.toNat = (4294967296 - Y.toBitVec.toNat + X.toBitVec.toNat) % 4294967296 := by rw [Int32.toBitVec_sub, BitVec.toNat_sub]
theorem eq_nat {p : Nat} {r : Int32} (h : r.toBitVec.toNat = p) : nI p = r := by
  apply Int32.toBitVec_inj.mp
  show BitVec.ofNat 32 p = r.toBitVec
  exact BitVec.eq_of_toNat_eq (by rw [BitVec.toNat_ofNat, ← h]; exact Nat.mod_eq_of_lt r.toBitVec.isLt)
theorem pcS_s (x : Int32) (k : Nat) : pcS x (k + 1) = pcS x k + (if bt x k = true then 1 else 0) := by
  show (if bt x k = true then pcS x k + 1 else pcS x k) = _
  by_cases e : bt x k = true
  · rw [if_pos e, if_pos e]
  · rw [if_neg e, if_neg e]; rfl
theorem tbN_bt (x : Int32) (n i : Nat) (hi : i < 8) : tbN (x.toBitVec.toNat / 2 ^ n % 256) i = if bt x (n + i) = true then 1 else 0 := by
  unfold tbN
  have e : (x.toBitVec.toNat / 2 ^ n % 256).testBit i = bt x (n + i) := by
    rw [show (256 : Nat) = 2 ^ 8 by decide, Nat.testBit_mod_two_pow, Nat.testBit_div_two_pow, decide_eq_true hi, Bool.true_and]
    unfold bt
    rw [← BitVec.testBit_toNat, Nat.add_comm]
  rw [e]
theorem pcS_8 (x : Int32) (n : Nat) : pcS x (n + 8) = pcS x n + pcB (x.toBitVec.toNat / 2 ^ n % 256) := by
  unfold pcB
  rw [tbN_bt x n 0 (by decide), tbN_bt x n 1 (by decide), tbN_bt x n 2 (by decide), tbN_bt x n 3 (by decide), tbN_bt x n 4 (by decide), tbN_bt x n 5 (by decide), tbN_bt x n 6 (by decide), tbN_bt x n 7 (by decide)]
  rw [show n + 8 = n + 7 + 1 from rfl, pcS_s, show n + 7 = n + 6 + 1 from rfl, pcS_s, show n + 6 = n + 5 + 1 from rfl, pcS_s, show n + 5 = n + 4 + 1 from rfl, pcS_s, show n + 4 = n + 3 + 1 from rfl, pcS_s, show n + 3 = n + 2 + 1 from rfl, pcS_s, show n + 2 = n + 1 + 1 from rfl, pcS_s, show n + 1 = n + 0 + 1 from rfl, pcS_s]
  simp only [Nat.add_zero]
  omega
theorem bitCount_ok (S : Int32) : R_Int_bitCount S (nI (pcS S 32), ()) := by
  have hlt : S.toBitVec.toNat < 4294967296 := S.toBitVec.isLt
  obtain ⟨x, hx⟩ : ∃ x, x = S.toBitVec.toNat := ⟨_, rfl⟩
  have hp : pcS S 32 = pcB (x % 256) + pcB (x / 256 % 256) + pcB (x / 65536 % 256) + pcB (x / 16777216 % 256) := by
    rw [show (32 : Nat) = 24 + 8 from rfl, pcS_8, show (24 : Nat) = 16 + 8 from rfl, pcS_8, show (16 : Nat) = 8 + 8 from rfl, pcS_8, show pcS S 8 = pcS S (0 + 8) from rfl, pcS_8, ← hx]
    simp [pcS]
  rw [← hx] at hlt
  obtain ⟨y, a, s, t, c, q1, q2, q3, q4, q5, q6, q7, q8⟩ := swar (x := x) (b0 := x % 256) (b1 := x / 256 % 256) (b2 := x / 65536 % 256) (b3 := x / 16777216 % 256) (by omega) (by omega) (by omega) (by omega) (by omega)
  have g0 := pcB_le (x % 256) (by omega)
  have g1 := pcB_le (x / 256 % 256) (by omega)
  have g2 := pcB_le (x / 65536 % 256) (by omega)
  have g3 := pcB_le (x / 16777216 % 256) (by omega)
  unfold R_Int_bitCount
  obtain ⟨Y, hY⟩ : ∃ Y : Int32, Y = ((S.toUInt32 >>> ((1 : Int32).toUInt32 &&& Int32.toUInt32 31)).toInt32) &&& 1431655765 := ⟨_, rfl⟩
  rw [← hY]
  have nY : Y.toBitVec.toNat = y := by
    rw [hY, and_nat, q1]
    have h9 := sh_nat S 1 (by decide)
    rw [← hx] at h9
    show ((S.toUInt32 >>> ((nI 1).toUInt32 &&& Int32.toUInt32 31)).toInt32).toBitVec.toNat &&& 1431655765 = _
    rw [h9]
  obtain ⟨A, hA⟩ : ∃ A : Int32, A = S - Y := ⟨_, rfl⟩
  rw [← hA]
  have nA : A.toBitVec.toNat = a := by rw [hA, sub_nat, nY, ← hx, q3]; omega
  obtain ⟨B, hB⟩ : ∃ B : Int32, B = (A &&& 858993459) + (((A.toUInt32 >>> ((2 : Int32).toUInt32 &&& Int32.toUInt32 31)).toInt32) &&& 858993459) := ⟨_, rfl⟩
  rw [← hB]
  have nB : B.toBitVec.toNat = s + t := by
    rw [hB, add_nat, and_nat, and_nat, nA]
    have h9 := sh_nat A 2 (by decide)
    rw [nA] at h9
    show ((a &&& 858993459) + (((A.toUInt32 >>> ((nI 2).toUInt32 &&& Int32.toUInt32 31)).toInt32).toBitVec.toNat &&& 858993459)) % 4294967296 = _
    rw [h9, ← q4, show (2 : Nat) ^ 2 = 4 by decide, ← q5]
    omega
  obtain ⟨C, hC⟩ : ∃ C : Int32, C = (B + ((B.toUInt32 >>> ((4 : Int32).toUInt32 &&& Int32.toUInt32 31)).toInt32)) &&& 252645135 := ⟨_, rfl⟩
  rw [← hC]
  have nC : C.toBitVec.toNat = c := by
    rw [hC, and_nat, add_nat, nB]
    have h9 := sh_nat B 4 (by decide)
    rw [nB] at h9
    show (s + t + ((B.toUInt32 >>> ((nI 4).toUInt32 &&& Int32.toUInt32 31)).toInt32).toBitVec.toNat) % 4294967296 &&& 252645135 = _
    rw [h9, show (2 : Nat) ^ 4 = 16 by decide, Nat.mod_eq_of_lt q6, ← q7]
  obtain ⟨D, hD⟩ : ∃ D : Int32, D = C + ((C.toUInt32 >>> ((8 : Int32).toUInt32 &&& Int32.toUInt32 31)).toInt32) := ⟨_, rfl⟩
  rw [← hD]
  have nD : D.toBitVec.toNat = c + c / 256 := by
    rw [hD, add_nat, nC]
    have h9 := sh_nat C 8 (by decide)
    rw [nC] at h9
    show (c + ((C.toUInt32 >>> ((nI 8).toUInt32 &&& Int32.toUInt32 31)).toInt32).toBitVec.toNat) % 4294967296 = _
    rw [h9, show (2 : Nat) ^ 8 = 256 by decide]
    omega
  have nR : ((D + ((D.toUInt32 >>> ((16 : Int32).toUInt32 &&& Int32.toUInt32 31)).toInt32)) &&& 63).toBitVec.toNat = pcS S 32 := by
    rw [and_nat, add_nat, nD]
    have h9 := sh_nat D 16 (by decide)
    rw [nD] at h9
    show (c + c / 256 + ((D.toUInt32 >>> ((nI 16).toUInt32 &&& Int32.toUInt32 31)).toInt32).toBitVec.toNat) % 4294967296 &&& 63 = _
    rw [h9, show (2 : Nat) ^ 16 = 65536 by decide, show (63 : Nat) = 2 ^ 6 - 1 by decide, Nat.and_two_pow_sub_one_eq_mod, hp]
    obtain ⟨P0, hP0⟩ : ∃ P0, P0 = pcB (x % 256) := ⟨_, rfl⟩
    obtain ⟨P1, hP1⟩ : ∃ P1, P1 = pcB (x / 256 % 256) := ⟨_, rfl⟩
    obtain ⟨P2, hP2⟩ : ∃ P2, P2 = pcB (x / 65536 % 256) := ⟨_, rfl⟩
    obtain ⟨P3, hP3⟩ : ∃ P3, P3 = pcB (x / 16777216 % 256) := ⟨_, rfl⟩
    rw [← hP0] at g0 q8
    rw [← hP1] at g1 q8
    rw [← hP2] at g2 q8
    rw [← hP3] at g3 q8
    rw [← hP0, ← hP1, ← hP2, ← hP3]
    clear hx hlt q1 q2 q3 q4 q5 q6 q7 hp nY nA nB nC nD h9 hP0 hP1 hP2 hP3
    have c1 : c / 256 = P1 + 256 * P2 + 65536 * P3 := by omega
    have d1 : (c + c / 256) / 65536 = P2 + P3 + 256 * P3 := by rw [c1]; omega
    rw [d1, c1, q8]
    omega
  rw [eq_nat nR]
theorem pcS_30 {S : Int32} (h : ∀ b, 30 ≤ b → bt S b = false) : pcS S 32 = pcS S 30 := by
  have h0 : ¬ bt S 30 = true := by rw [h 30 (by omega)]; decide
  have h1 : ¬ bt S (30 + 1) = true := by rw [h (30 + 1) (by omega)]; decide
  rw [show (32 : Nat) = 30 + 1 + 1 from rfl, pcS_s, pcS_s, if_neg h0, if_neg h1]; rfl
