/-! ===== the number of members: Integer.bitCount counts them ===== -/
def pcS (x : Int32) : Nat → Nat
  | 0 => 0
  | k + 1 => if bt x k = true then pcS x k + 1 else pcS x k
def tbN (b i : Nat) : Nat := if b.testBit i = true then 1 else 0
def pcB (b : Nat) : Nat := tbN b 0 + tbN b 1 + tbN b 2 + tbN b 3 + tbN b 4 + tbN b 5 + tbN b 6 + tbN b 7
theorem mask8 {a b m n : Nat} (ha : a < 256) (hm : m < 256) : (256 * b + a) &&& (256 * n + m) = 256 * (b &&& n) + (a &&& m) := by
  have e : (256 : Nat) = 2 ^ 8 := by decide
  have h3 : a &&& m < 2 ^ 8 := Nat.lt_of_le_of_lt Nat.and_le_left (by omega)
  apply Nat.eq_of_testBit_eq
  intro j
  rw [Nat.testBit_and, e, Nat.testBit_two_pow_mul_add _ (by omega), Nat.testBit_two_pow_mul_add _ (by omega), Nat.testBit_two_pow_mul_add _ h3]
  by_cases q : j < 8
  · rw [if_pos q, if_pos q, if_pos q, Nat.testBit_and]
  · rw [if_neg q, if_neg q, if_neg q, Nat.testBit_and]
theorem mask4 {z0 z1 z2 z3 m : Nat} (h0 : z0 < 256) (h1 : z1 < 256) (h2 : z2 < 256) (hm : m < 256) : (256 * (256 * (256 * z3 + z2) + z1) + z0) &&& (256 * (256 * (256 * m + m) + m) + m) = 256 * (256 * (256 * (z3 &&& m) + (z2 &&& m)) + (z1 &&& m)) + (z0 &&& m) := by
  rw [mask8 h0 hm, mask8 h1 hm, mask8 h2 hm]
theorem bc1 : ∀ b, b < 256 → ∀ e, e < 2 → (b / 2 + 128 * e) &&& 85 = (b / 2) &&& 85 := by decide +kernel
theorem bc2 : ∀ b, b < 256 → (b / 2) &&& 85 ≤ b := by decide +kernel
theorem bc3 : ∀ b, b < 256 → ∀ e, e < 4 → (b / 4 + 64 * e) &&& 51 = (b / 4) &&& 51 := by decide +kernel
theorem bc4 : ∀ b, b < 256 → (b &&& 51) + ((b / 4) &&& 51) < 256 := by decide +kernel
theorem bc5 : ∀ b, b < 256 → ((b - (b / 2 &&& 85)) &&& 51) + (((b - (b / 2 &&& 85)) / 4) &&& 51) ≤ 68 ∧ (((b - (b / 2 &&& 85)) &&& 51) + (((b - (b / 2 &&& 85)) / 4) &&& 51)) / 16 ≤ 4 ∧ (((b - (b / 2 &&& 85)) &&& 51) + (((b - (b / 2 &&& 85)) / 4) &&& 51)) % 16 ≤ 4 := by decide +kernel
theorem bc6 : ∀ b, b < 256 → ((((b - (b / 2 &&& 85)) &&& 51) + (((b - (b / 2 &&& 85)) / 4) &&& 51)) / 16 + (((b - (b / 2 &&& 85)) &&& 51) + (((b - (b / 2 &&& 85)) / 4) &&& 51)) % 16) = pcB b := by decide +kernel
theorem bc7 : ∀ u, u ≤ 68 → u / 16 ≤ 4 → u % 16 ≤ 4 → ∀ e, e ≤ 4 → (u + u / 16 + 16 * e) &&& 15 = u / 16 + u % 16 := by decide +kernel
theorem pcB_le : ∀ b, b < 256 → pcB b ≤ 8 := by decide +kernel
theorem and_lt {a m : Nat} (h : m < 256) : a &&& m < 256 := Nat.lt_of_le_of_lt Nat.and_le_right h
/-- the sums on naturals -/
theorem swar {x b0 b1 b2 b3 : Nat} (hx : x = 256 * (256 * (256 * b3 + b2) + b1) + b0) (h0 : b0 < 256) (h1 : b1 < 256) (h2 : b2 < 256) (h3 : b3 < 256) : ∃ y a s t c, y = (x / 2) &&& 1431655765 ∧ y ≤ x ∧ a = x - y ∧ s = a &&& 858993459 ∧ t = (a / 4) &&& 858993459 ∧ s + t + (s + t) / 16 < 4294967296 ∧ c = (s + t + (s + t) / 16) &&& 252645135 ∧ c = 256 * (256 * (256 * pcB b3 + pcB b2) + pcB b1) + pcB b0 := by
  have ey : (x / 2) &&& 1431655765 = 256 * (256 * (256 * ((b3 / 2) &&& 85) + ((b2 / 2) &&& 85)) + ((b1 / 2) &&& 85)) + ((b0 / 2) &&& 85) := by
    rw [show x / 2 = 256 * (256 * (256 * (b3 / 2 + 128 * 0) + (b2 / 2 + 128 * (b3 % 2))) + (b1 / 2 + 128 * (b2 % 2))) + (b0 / 2 + 128 * (b1 % 2)) by omega, show (1431655765 : Nat) = 256 * (256 * (256 * 85 + 85) + 85) + 85 by decide]
    rw [mask4 (by omega) (by omega) (by omega) (by decide), bc1 b3 h3 0 (by decide), bc1 b2 h2 _ (by omega), bc1 b1 h1 _ (by omega), bc1 b0 h0 _ (by omega)]
  have g0 := bc2 b0 h0
  have g1 := bc2 b1 h1
  have g2 := bc2 b2 h2
  have g3 := bc2 b3 h3
  have p0 := bc5 b0 h0
  have p1 := bc5 b1 h1
  have p2 := bc5 b2 h2
  have p3 := bc5 b3 h3
  have r0 := bc6 b0 h0
  have r1 := bc6 b1 h1
  have r2 := bc6 b2 h2
  have r3 := bc6 b3 h3
  obtain ⟨c0, hc0⟩ : ∃ c0, c0 = (b0 / 2) &&& 85 := ⟨_, rfl⟩
  obtain ⟨c1, hc1⟩ : ∃ c1, c1 = (b1 / 2) &&& 85 := ⟨_, rfl⟩
  obtain ⟨c2, hc2⟩ : ∃ c2, c2 = (b2 / 2) &&& 85 := ⟨_, rfl⟩
  obtain ⟨c3, hc3⟩ : ∃ c3, c3 = (b3 / 2) &&& 85 := ⟨_, rfl⟩
  rw [← hc0] at g0 p0 r0 ey
  rw [← hc1] at g1 p1 r1 ey
  rw [← hc2] at g2 p2 r2 ey
  rw [← hc3] at g3 p3 r3 ey
  have ea : x - ((x / 2) &&& 1431655765) = 256 * (256 * (256 * (b3 - c3) + (b2 - c2)) + (b1 - c1)) + (b0 - c0) := by rw [ey]; omega
  obtain ⟨a0, ha0⟩ : ∃ a0, a0 = b0 - c0 := ⟨_, rfl⟩
  obtain ⟨a1, ha1⟩ : ∃ a1, a1 = b1 - c1 := ⟨_, rfl⟩
  obtain ⟨a2, ha2⟩ : ∃ a2, a2 = b2 - c2 := ⟨_, rfl⟩
  obtain ⟨a3, ha3⟩ : ∃ a3, a3 = b3 - c3 := ⟨_, rfl⟩
  rw [← ha0] at p0 r0 ea
  rw [← ha1] at p1 r1 ea
  rw [← ha2] at p2 r2 ea
  rw [← ha3] at p3 r3 ea
  obtain ⟨a, haa⟩ : ∃ a, a = x - ((x / 2) &&& 1431655765) := ⟨_, rfl⟩
  rw [← haa] at ea
  have es : a &&& 858993459 = 256 * (256 * (256 * (a3 &&& 51) + (a2 &&& 51)) + (a1 &&& 51)) + (a0 &&& 51) := by
    rw [ea, show (858993459 : Nat) = 256 * (256 * (256 * 51 + 51) + 51) + 51 by decide, mask4 (by omega) (by omega) (by omega) (by decide)]
  have et : (a / 4) &&& 858993459 = 256 * (256 * (256 * ((a3 / 4) &&& 51) + ((a2 / 4) &&& 51)) + ((a1 / 4) &&& 51)) + ((a0 / 4) &&& 51) := by
    rw [show a / 4 = 256 * (256 * (256 * (a3 / 4 + 64 * 0) + (a2 / 4 + 64 * (a3 % 4))) + (a1 / 4 + 64 * (a2 % 4))) + (a0 / 4 + 64 * (a1 % 4)) by omega, show (858993459 : Nat) = 256 * (256 * (256 * 51 + 51) + 51) + 51 by decide]
    rw [mask4 (by omega) (by omega) (by omega) (by decide), bc3 a3 (by omega) 0 (by decide), bc3 a2 (by omega) _ (by omega), bc3 a1 (by omega) _ (by omega), bc3 a0 (by omega) _ (by omega)]
  obtain ⟨u0, hu0⟩ : ∃ u0, u0 = (a0 &&& 51) + ((a0 / 4) &&& 51) := ⟨_, rfl⟩
  obtain ⟨u1, hu1⟩ : ∃ u1, u1 = (a1 &&& 51) + ((a1 / 4) &&& 51) := ⟨_, rfl⟩
  obtain ⟨u2, hu2⟩ : ∃ u2, u2 = (a2 &&& 51) + ((a2 / 4) &&& 51) := ⟨_, rfl⟩
  obtain ⟨u3, hu3⟩ : ∃ u3, u3 = (a3 &&& 51) + ((a3 / 4) &&& 51) := ⟨_, rfl⟩
  rw [← hu0] at p0 r0
  rw [← hu1] at p1 r1
  rw [← hu2] at p2 r2
  rw [← hu3] at p3 r3
  have eu : (a &&& 858993459) + ((a / 4) &&& 858993459) = 256 * (256 * (256 * u3 + u2) + u1) + u0 := by rw [es, et]; omega
  refine ⟨_, a, _, _, _, rfl, ?_, haa, rfl, rfl, ?_, rfl, ?_⟩
  · rw [ey]; omega
  · rw [eu]; omega
  · rw [eu, show 256 * (256 * (256 * u3 + u2) + u1) + u0 + (256 * (256 * (256 * u3 + u2) + u1) + u0) / 16 = 256 * (256 * (256 * (u3 + u3 / 16 + 16 * 0) + (u2 + u2 / 16 + 16 * (u3 % 16))) + (u1 + u1 / 16 + 16 * (u2 % 16))) + (u0 + u0 / 16 + 16 * (u1 % 16)) by omega, show (252645135 : Nat) = 256 * (256 * (256 * 15 + 15) + 15) + 15 by decide]
    rw [mask4 (by omega) (by omega) (by omega) (by decide), bc7 u3 p3.1 p3.2.1 p3.2.2 0 (by decide), bc7 u2 p2.1 p2.2.1 p2.2.2 _ (by omega), bc7 u1 p1.1 p1.2.1 p1.2.2 _ (by omega), bc7 u0 p0.1 p0.2.1 p0.2.2 _ (by omega), r0, r1, r2, r3]
