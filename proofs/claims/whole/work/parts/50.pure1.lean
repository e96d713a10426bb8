/-! ===== Int32 by its bits: bt x i ===== -/
def bt (x : Int32) (i : Nat) : Bool := x.toBitVec.getLsbD i
theorem b_ext {x y : Int32} (h : ∀ i, i < 32 → bt x i = bt y i) : x = y := Int32.toBitVec_inj.mp (BitVec.eq_of_getLsbD_eq (fun i hi => h i hi))
theorem b_or (x y : Int32) (i : Nat) : bt (x ||| y) i = (bt x i || bt y i) := by unfold bt; rw [Int32.toBitVec_or, BitVec.getLsbD_or]
theorem b_and (x y : Int32) (i : Nat) : bt (x &&& y) i = (bt x i && bt y i) := by unfold bt; rw [Int32.toBitVec_and, BitVec.getLsbD_and]
theorem b_xor (x y : Int32) (i : Nat) : bt (x ^^^ y) i = (bt x i ^^ bt y i) := by unfold bt; rw [Int32.toBitVec_xor, BitVec.getLsbD_xor]
theorem b_big {x : Int32} {i : Nat} (h : 32 ≤ i) : bt x i = false := BitVec.getLsbD_of_ge _ _ h
theorem b_255 (i : Nat) : bt 255 i = decide (i < 8) := by
  rcases Nat.lt_or_ge i 32 with h | h
  · exact (by decide +kernel : ∀ i, i < 32 → bt 255 i = decide (i < 8)) i h
  · rw [b_big h, decide_eq_false (by omega)]
theorem b_65535 (i : Nat) : bt 65535 i = decide (i < 16) := by
  rcases Nat.lt_or_ge i 32 with h | h
  · exact (by decide +kernel : ∀ i, i < 32 → bt 65535 i = decide (i < 16)) i h
  · rw [b_big h, decide_eq_false (by omega)]
theorem b_m1 : ∀ i, i < 32 → bt (-1) i = true := by decide +kernel
theorem b_0 (i : Nat) : bt 0 i = false := BitVec.getLsbD_zero
theorem s_l : ∀ n, n < 32 → ((nI n &&& 31).toBitVec.smod 32).toNat = n := by decide +kernel
theorem s_u : ∀ n, n < 32 → (((nI n).toUInt32 &&& Int32.toUInt32 31).toBitVec % 32).toNat = n := by decide +kernel
theorem b_shl (n : Nat) (hn : n < 32) (x : Int32) {i : Nat} (hi : i < 32) : bt (x <<< (nI n &&& 31)) i = (decide (n ≤ i) && bt x (i - n)) := by
  unfold bt
  rw [Int32.toBitVec_shiftLeft]
  show (x.toBitVec <<< ((nI n &&& 31).toBitVec.smod 32).toNat).getLsbD i = _
  rw [s_l n hn, BitVec.getLsbD_shiftLeft]
  rcases Nat.lt_or_ge i n with h | h
  · simp [h, Nat.not_le.mpr h]
  · simp [hi, h, Nat.not_lt.mpr h]
theorem b_ushr (n : Nat) (hn : n < 32) (x : Int32) (i : Nat) : bt ((x.toUInt32 >>> ((nI n).toUInt32 &&& Int32.toUInt32 31)).toInt32) i = bt x (n + i) := by
  show (x.toUInt32 >>> ((nI n).toUInt32 &&& Int32.toUInt32 31)).toBitVec.getLsbD i = x.toUInt32.toBitVec.getLsbD (n + i)
  rw [UInt32.toBitVec_shiftRight]
  show (x.toUInt32.toBitVec >>> (((nI n).toUInt32 &&& Int32.toUInt32 31).toBitVec % 32).toNat).getLsbD i = _
  rw [s_u n hn, BitVec.getLsbD_ushiftRight]
theorem b_sshr (n : Nat) (hn : n < 32) (x : Int32) {i : Nat} (hi : i < 32) : bt (x >>> (nI n &&& 31)) i = if n + i < 32 then bt x (n + i) else bt x 31 := by
  unfold bt
  rw [Int32.toBitVec_shiftRight]
  show (x.toBitVec.sshiftRight ((nI n &&& 31).toBitVec.smod 32).toNat).getLsbD i = _
  rw [s_l n hn, BitVec.getLsbD_sshiftRight, BitVec.msb_eq_getLsbD_last]
  simp [hi]
theorem b_shl8 (x : Int32) {i : Nat} (hi : i < 32) : bt (x <<< ((8 : Int32) &&& 31)) i = (decide (8 ≤ i) && bt x (i - 8)) := b_shl 8 (by omega) x hi
theorem b_shl16 (x : Int32) {i : Nat} (hi : i < 32) : bt (x <<< ((16 : Int32) &&& 31)) i = (decide (16 ≤ i) && bt x (i - 16)) := b_shl 16 (by omega) x hi
theorem b_shl24 (x : Int32) {i : Nat} (hi : i < 32) : bt (x <<< ((24 : Int32) &&& 31)) i = (decide (24 ≤ i) && bt x (i - 24)) := b_shl 24 (by omega) x hi
theorem b_sshr8 (x : Int32) {i : Nat} (hi : i < 32) : bt (x >>> ((8 : Int32) &&& 31)) i = if 8 + i < 32 then bt x (8 + i) else bt x 31 := b_sshr 8 (by omega) x hi
/-! ===== single bits as the code tests them ===== -/
theorem bt_1 (i : Nat) : bt 1 i = decide (i = 0) := by
  rcases Nat.lt_or_ge i 32 with h | h
  · exact (by decide +kernel : ∀ i, i < 32 → bt 1 i = decide (i = 0)) i h
  · rw [b_big h, decide_eq_false (by omega)]
theorem bt_test (m : Int32) {k : Nat} (hk : k < 32) : ((m >>> (nI k &&& 31)) &&& 1) = 0 ↔ bt m k = false := by
  constructor
  · intro h
    have h0 : bt ((m >>> (nI k &&& 31)) &&& 1) 0 = false := by rw [h]; exact b_0 0
    rw [b_and, b_sshr k hk m (by omega), bt_1] at h0
    simpa [hk] using h0
  · intro h
    apply b_ext
    intro i hi
    rw [b_and, b_0, bt_1]
    rcases Nat.eq_zero_or_pos i with h0 | h0
    · subst h0
      rw [b_sshr k hk m (by omega)]
      simp [hk, h]
    · rw [decide_eq_false (by omega), Bool.and_false]
theorem bt_one (m : Int32) {k : Nat} (hk : k < 32) : ((m >>> (nI k &&& 31)) &&& 1) = 1 ↔ bt m k = true := by
  constructor
  · intro h
    cases hb : bt m k with
    | true => rfl
    | false => rw [(bt_test m hk).mpr hb] at h; exact absurd h (by decide)
  · intro h
    apply b_ext
    intro i hi
    rw [b_and, bt_1]
    rcases Nat.eq_zero_or_pos i with h0 | h0
    · subst h0
      rw [b_sshr k hk m (by omega)]
      simp [hk, h]
    · rw [decide_eq_false (by omega), Bool.and_false]
theorem bt_sh {n i : Nat} (hn : n < 32) (hi : i < 32) : bt (1 <<< (nI n &&& 31)) i = decide (i = n) := by
  rw [b_shl n hn 1 hi, bt_1]
  rcases Nat.lt_or_ge i n with h | h
  · rw [decide_eq_false (Nat.not_le.mpr h), decide_eq_false (Nat.ne_of_lt h)]; rfl
  · rw [decide_eq_true h, Bool.true_and]
    by_cases e : i = n
    · subst e; simp
    · rw [decide_eq_false (by omega), decide_eq_false e]
/-- OR of f over the members of m below n -/
def orS (m : Int32) (f : Nat → Int32) : Nat → Int32
  | 0 => 0
  | k + 1 => if bt m k = true then orS m f k ||| f k else orS m f k
theorem R_Net_together_ok {P s N : Nat} {m : Int32} {f : Nat → Int32} (hP : P ≤ 30) (hs : s + 30 ≤ N) (hN : N < 2 ^ 31) : R_Net_together (nI s) m (nI P) f N (orS m (fun q => f (s + q)) P, ()) := by
  have key : ∀ (c k : Nat) (x : Int32), k + c = P → x = orS m (fun q => f (s + q)) k → g_Net_together (nI s) m (nI P) f N (c + 1) 1 x (nI k) (orS m (fun q => f (s + q)) P, ()) := by
    intro c
    induction c with
    | zero =>
      intro k x hk hx
      rw [g_Net_together_1]
      have e : k = P := by omega
      subst e
      exact ⟨fun _ => by rw [hx], fun h => absurd (nI_le (Nat.le_refl _) (by omega)) h⟩
    | succ c ih =>
      intro k x hk hx
      rw [g_Net_together_1]
      refine ⟨fun h => absurd h (nI_ge (by omega) (by omega)), fun _ => ⟨fun h => ?_, fun h => ?_⟩⟩
      · rw [bt_test m (by omega)] at h
        rw [nI_1]
        exact ih (k + 1) x (by omega) (by rw [hx]; simp [orS, h])
      · rw [bt_test m (by omega), Bool.not_eq_false] at h
        rw [nI_add, nI_1]
        refine ⟨vp_in_nI (by omega) hN, ?_⟩
        rw [nI_clamp (by omega)]
        exact ih (k + 1) _ (by omega) (by rw [hx]; simp [orS, h])
  exact ⟨P + 1, by have h := key P 0 0 (by omega) rfl; rwa [nI_0] at h⟩
/-- f with b added where m has a member below n -/
def giveS (m b : Int32) (f : Nat → Int32) (n : Nat) : Nat → Int32 := fun q => if q < n ∧ bt m q = true then f q ||| b else f q
theorem R_Net_give_ok {P : Nat} {m b : Int32} {f : Nat → Int32} (hP : P ≤ 30) : R_Net_give m b (nI P) f (giveS m b f P) := by
  have key : ∀ (c k : Nat), k + c = P → g_Net_give m b (nI P) (c + 1) 1 (nI k) (giveS m b f k) (giveS m b f P) := by
    intro c
    induction c with
    | zero =>
      intro k hk
      rw [g_Net_give_1]
      have e : k = P := by omega
      subst e
      exact ⟨fun _ => rfl, fun h => absurd (nI_le (Nat.le_refl _) (by omega)) h⟩
    | succ c ih =>
      intro k hk
      rw [g_Net_give_1]
      refine ⟨fun h => absurd h (nI_ge (by omega) (by omega)), fun _ => ⟨fun h => ?_, fun h => ?_⟩⟩
      · rw [bt_test m (by omega)] at h
        rw [nI_1]
        have e : giveS m b f k = giveS m b f (k + 1) := by
          funext q
          unfold giveS
          by_cases hq : q = k
          · subst hq; simp [h]
          · have : (q < k + 1) ↔ q < k := by omega
            simp only [this]
        rw [e]
        exact ih (k + 1) (by omega)
      · rw [bt_test m (by omega), Bool.not_eq_false] at h
        rw [nI_1]
        refine ⟨vp_in_nI (by omega) (by decide), vp_in_nI (by omega) (by decide), ?_⟩
        rw [nI_clamp (by omega)]
        have e : upd (giveS m b f k) k (giveS m b f k k ||| b) = giveS m b f (k + 1) := by
          funext q
          unfold upd giveS
          by_cases hq : q = k
          · subst hq; simp [h]
          · have : (q < k + 1) ↔ q < k := by omega
            simp only [this, if_neg hq]
        rw [e]
        exact ih (k + 1) (by omega)
  have e0 : giveS m b f 0 = f := by funext q; simp [giveS]
  exact ⟨P + 1, by have h := key P 0 (by omega); rwa [nI_0, e0] at h⟩
