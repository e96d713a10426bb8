/-! ===== the easy steps: way, actions ===== -/
/-- the number of states on both sides -/
def StN (N : Nat) (ns z_states : Int32) : Prop := N ≤ 50 ∧ ns = nI N ∧ z_states = nI N
theorem v01 : vp_in 0 1 := by unfold vp_in; decide
theorem in03 {x : Int32} (h0 : ¬ x < 0) (h1 : x < 4) : ∃ k : Nat, k < 4 ∧ x = nI k := by
  obtain ⟨k, hk, rfl⟩ := nI_of h0
  exact ⟨k, (nI_ltI hk (by omega)).mp (show nI k < nI 4 from h1), rfl⟩
theorem inN {x : Int32} {N : Nat} (hN : N ≤ 50) (h0 : ¬ x < 0) (h1 : x < nI N) : ∃ k : Nat, k < N ∧ x = nI k := by
  obtain ⟨k, hk, rfl⟩ := nI_of h0
  exact ⟨k, (nI_ltI hk (by omega)).mp h1, rfl⟩
/-- the model's range test 0..N-1 -/
theorem R_in_lo {x a c : Int32} (h : x < a) : R_M_in x a c (0, ()) := ⟨fun _ => rfl, fun h9 => absurd h h9⟩
theorem R_in_hi {x a c : Int32} (h : c < x) (ha : ¬ x < a) : R_M_in x a c (0, ()) := ⟨fun h9 => absurd h9 ha, fun _ => ⟨fun _ => rfl, fun h9 => absurd h h9⟩⟩
theorem R_in_ok {x a c : Int32} (ha : ¬ x < a) (hc : ¬ c < x) : R_M_in x a c (1, ()) := ⟨fun h9 => absurd h9 ha, fun _ => ⟨fun h9 => absurd h9 hc, fun _ => rfl⟩⟩
theorem lt4_iff {x : Int32} : x < 4 ↔ ¬ (3 : Int32) < x := by
  rw [Int32.lt_iff_toInt_lt, Int32.lt_iff_toInt_lt]
  have h4 : (4 : Int32).toInt = 4 := by decide
  have h3 : (3 : Int32).toInt = 3 := by decide
  rw [h4, h3]; omega
theorem ltN_iff {x : Int32} {N : Nat} (hN : N ≤ 50) : x < nI N ↔ ¬ (nI N - 1) < x := by
  rw [Int32.lt_iff_toInt_lt, Int32.lt_iff_toInt_lt]
  have h1 : (nI N).toInt = (N : Int) := nI_toInt (by omega)
  have h2 : (nI N - 1).toInt = (N : Int) - 1 := pk_sub_toInt (a := N) (b := 1) (by omega) (by omega)
  rw [h1, h2]; omega
theorem st_way {N : Nat} {p1 p2 ln fl ns npos ncc : Int32} {wy a_way : Nat → Int32} {lo9 : Nat → Int64} {z_length z_where z_at z_many z_bad z_states z_positions z_now z_fed z_found z_over z_thrown : Int32} (hN : StN N ns z_states) (hw : ∀ k, k < 4 * N → wy k = a_way k) :
    ∃ v v', R_L_way p1 p2 ln fl ns npos ncc wy lo9 v ∧ R_M_way p1 p2 z_length z_where z_at z_many z_bad z_states z_positions z_now z_fed z_found z_over a_way z_thrown v' ∧ v'.2 = v.1 ∧ (v.1 = 0 → v.2 0 = v'.1.toInt64) := by
  obtain ⟨hN50, rfl, rfl⟩ := hN
  by_cases h20 : p2 < 0
  · refine ⟨(1, lo9), (0, 1), ⟨.inr ("java/lang/IllegalArgumentException", ()), ⟨.inr ("java/lang/IllegalArgumentException", ()), ⟨fun _ => rfl, fun h => absurd h20 h⟩, fun u e => (nomatch e), fun E u e => (by cases e; rfl)⟩, fun r u e => (nomatch e), fun E u e => (by cases e; exact ⟨Or.inl rfl, fun _ => rfl, fun e => (by simp at e)⟩)⟩, ⟨(0, ()), R_in_lo h20, fun h => absurd rfl h, fun _ => ⟨fun h => absurd h (by decide), fun _ => rfl⟩⟩, rfl, fun h => absurd h (by show ¬ (1 : Int32) = 0; decide)⟩
  · by_cases h24 : p2 < 4
    · by_cases h10 : p1 < 0
      · refine ⟨(2, lo9), (0, 2), ⟨.inr ("java/util/NoSuchElementException", ()), ⟨.inl (), ⟨fun h => absurd h h20, fun _ => ⟨fun _ => rfl, fun h => absurd h24 h⟩⟩, fun u _ => ⟨.inr ("java/util/NoSuchElementException", ()), ⟨fun _ => rfl, fun h => absurd h10 h⟩, fun u e => (nomatch e), fun E u e => (by cases e; rfl)⟩, fun E u e => (nomatch e)⟩, fun r u e => (nomatch e), fun E u e => (by cases e; exact ⟨Or.inr rfl, fun e => (by simp at e), fun _ => rfl⟩)⟩, ⟨(1, ()), R_in_ok h20 (lt4_iff.mp h24), fun _ => ⟨(0, ()), R_in_lo h10, fun h => absurd rfl h, fun _ => ⟨fun h => absurd h (by decide), fun _ => rfl⟩⟩, fun h => absurd h (by decide)⟩, rfl, fun h => absurd h (by show ¬ (2 : Int32) = 0; decide)⟩
      · by_cases h1N : p1 < nI N
        · obtain ⟨a, ha, rfl⟩ := inN hN50 h10 h1N
          obtain ⟨k, hk, rfl⟩ := in03 h20 h24
          have e1 : nI a * 4 + nI k = nI (a * 4 + k) := by rw [show (4 : Int32) = nI 4 from rfl, pk_mul, nI_add]
          have e2 : 4 * nI a + nI k = nI (a * 4 + k) := by rw [show (4 : Int32) = nI 4 from rfl, pk_mul, nI_add, Nat.mul_comm]
          have hi : vp_in (nI (a * 4 + k)) 200 := vp_in_nI (by omega) (by decide)
          refine ⟨(0, vp_updL lo9 (0 : Int32).toNatClampNeg (wy (a * 4 + k)).toInt64), (a_way (a * 4 + k), 0), ⟨.inl (wy (a * 4 + k), ()), ⟨.inl (), ⟨fun h => absurd h h20, fun _ => ⟨fun _ => rfl, fun h => absurd h24 h⟩⟩, fun u _ => ⟨.inl (), ⟨fun h => absurd h h10, fun _ => ⟨fun _ => rfl, fun h => absurd h1N h⟩⟩, fun u _ => ⟨(wy (a * 4 + k), ()), ⟨by rw [e1]; exact hi, by rw [e1, nI_clamp (by omega)]⟩, rfl⟩, fun E u e => (nomatch e)⟩, fun E u e => (nomatch e)⟩, fun r u e => (by cases e; exact ⟨v01, rfl⟩), fun E u e => (nomatch e)⟩, ⟨(1, ()), R_in_ok h20 (lt4_iff.mp h24), fun _ => ⟨(1, ()), R_in_ok h10 ((ltN_iff hN50).mp h1N), fun _ => ⟨fun _ => ⟨by rw [e2]; exact hi, by rw [e2, nI_clamp (by omega)]⟩, fun h => absurd (by decide) h⟩, fun h => absurd h (by decide)⟩, fun h => absurd h (by decide)⟩, rfl, fun _ => ?_⟩
          show vp_updL lo9 (0 : Int32).toNatClampNeg (wy (a * 4 + k)).toInt64 0 = (a_way (a * 4 + k)).toInt64
          rw [← hw _ (by omega)]; rfl
        · refine ⟨(2, lo9), (0, 2), ⟨.inr ("java/util/NoSuchElementException", ()), ⟨.inl (), ⟨fun h => absurd h h20, fun _ => ⟨fun _ => rfl, fun h => absurd h24 h⟩⟩, fun u _ => ⟨.inr ("java/util/NoSuchElementException", ()), ⟨fun h => absurd h h10, fun _ => ⟨fun h => absurd h h1N, fun _ => rfl⟩⟩, fun u e => (nomatch e), fun E u e => (by cases e; rfl)⟩, fun E u e => (nomatch e)⟩, fun r u e => (nomatch e), fun E u e => (by cases e; exact ⟨Or.inr rfl, fun e => (by simp at e), fun _ => rfl⟩)⟩, ⟨(1, ()), R_in_ok h20 (lt4_iff.mp h24), fun _ => ⟨(0, ()), R_in_hi (Decidable.not_not.mp (fun h => h1N ((ltN_iff hN50).mpr h))) h10, fun h => absurd rfl h, fun _ => ⟨fun h => absurd h (by decide), fun _ => rfl⟩⟩, fun h => absurd h (by decide)⟩, rfl, fun h => absurd h (by show ¬ (2 : Int32) = 0; decide)⟩
    · refine ⟨(1, lo9), (0, 1), ⟨.inr ("java/lang/IllegalArgumentException", ()), ⟨.inr ("java/lang/IllegalArgumentException", ()), ⟨fun h => absurd h h20, fun _ => ⟨fun h => absurd h h24, fun _ => rfl⟩⟩, fun u e => (nomatch e), fun E u e => (by cases e; rfl)⟩, fun r u e => (nomatch e), fun E u e => (by cases e; exact ⟨Or.inl rfl, fun _ => rfl, fun e => (by simp at e)⟩)⟩, ⟨(0, ()), R_in_hi (Decidable.not_not.mp (fun h => h24 (lt4_iff.mpr h))) h20, fun h => absurd rfl h, fun _ => ⟨fun h => absurd h (by decide), fun _ => rfl⟩⟩, rfl, fun h => absurd h (by show ¬ (1 : Int32) = 0; decide)⟩
theorem st_actions {N : Nat} {p1 p2 ln fl ns npos ncc : Int32} {wa a_action : Nat → Int32} {lo9 : Nat → Int64} {z_length z_where z_at z_many z_bad z_states z_positions z_now z_fed z_found z_over z_thrown : Int32} (hN : StN N ns z_states) (hw : ∀ k, k < 4 * N → wa k = a_action k) :
    ∃ v v', R_L_actions p1 p2 ln fl ns npos ncc wa lo9 v ∧ R_M_actions p1 p2 z_length z_where z_at z_many z_bad z_states z_positions z_now z_fed z_found z_over a_action z_thrown v' ∧ v'.2 = v.1 ∧ (v.1 = 0 → v.2 0 = v'.1.toInt64) := by
  obtain ⟨hN50, rfl, rfl⟩ := hN
  by_cases h20 : p2 < 0
  · refine ⟨(1, lo9), (0, 1), ⟨.inr ("java/lang/IllegalArgumentException", ()), ⟨.inr ("java/lang/IllegalArgumentException", ()), ⟨fun _ => rfl, fun h => absurd h20 h⟩, fun u e => (nomatch e), fun E u e => (by cases e; rfl)⟩, fun r u e => (nomatch e), fun E u e => (by cases e; exact ⟨Or.inl rfl, fun _ => rfl, fun e => (by simp at e)⟩)⟩, ⟨(0, ()), R_in_lo h20, fun h => absurd rfl h, fun _ => ⟨fun h => absurd h (by decide), fun _ => rfl⟩⟩, rfl, fun h => absurd h (by show ¬ (1 : Int32) = 0; decide)⟩
  · by_cases h24 : p2 < 4
    · by_cases h10 : p1 < 0
      · refine ⟨(2, lo9), (0, 2), ⟨.inr ("java/util/NoSuchElementException", ()), ⟨.inl (), ⟨fun h => absurd h h20, fun _ => ⟨fun _ => rfl, fun h => absurd h24 h⟩⟩, fun u _ => ⟨.inr ("java/util/NoSuchElementException", ()), ⟨fun _ => rfl, fun h => absurd h10 h⟩, fun u e => (nomatch e), fun E u e => (by cases e; rfl)⟩, fun E u e => (nomatch e)⟩, fun r u e => (nomatch e), fun E u e => (by cases e; exact ⟨Or.inr rfl, fun e => (by simp at e), fun _ => rfl⟩)⟩, ⟨(1, ()), R_in_ok h20 (lt4_iff.mp h24), fun _ => ⟨(0, ()), R_in_lo h10, fun h => absurd rfl h, fun _ => ⟨fun h => absurd h (by decide), fun _ => rfl⟩⟩, fun h => absurd h (by decide)⟩, rfl, fun h => absurd h (by show ¬ (2 : Int32) = 0; decide)⟩
      · by_cases h1N : p1 < nI N
        · obtain ⟨a, ha, rfl⟩ := inN hN50 h10 h1N
          obtain ⟨k, hk, rfl⟩ := in03 h20 h24
          have e1 : nI a * 4 + nI k = nI (a * 4 + k) := by rw [show (4 : Int32) = nI 4 from rfl, pk_mul, nI_add]
          have e2 : 4 * nI a + nI k = nI (a * 4 + k) := by rw [show (4 : Int32) = nI 4 from rfl, pk_mul, nI_add, Nat.mul_comm]
          have hi : vp_in (nI (a * 4 + k)) 200 := vp_in_nI (by omega) (by decide)
          refine ⟨(0, vp_updL lo9 (0 : Int32).toNatClampNeg (wa (a * 4 + k)).toInt64), (a_action (a * 4 + k), 0), ⟨.inl (wa (a * 4 + k), ()), ⟨.inl (), ⟨fun h => absurd h h20, fun _ => ⟨fun _ => rfl, fun h => absurd h24 h⟩⟩, fun u _ => ⟨.inl (), ⟨fun h => absurd h h10, fun _ => ⟨fun _ => rfl, fun h => absurd h1N h⟩⟩, fun u _ => ⟨(wa (a * 4 + k), ()), ⟨by rw [e1]; exact hi, by rw [e1, nI_clamp (by omega)]⟩, rfl⟩, fun E u e => (nomatch e)⟩, fun E u e => (nomatch e)⟩, fun r u e => (by cases e; exact ⟨v01, rfl⟩), fun E u e => (nomatch e)⟩, ⟨(1, ()), R_in_ok h20 (lt4_iff.mp h24), fun _ => ⟨(1, ()), R_in_ok h10 ((ltN_iff hN50).mp h1N), fun _ => ⟨fun _ => ⟨by rw [e2]; exact hi, by rw [e2, nI_clamp (by omega)]⟩, fun h => absurd (by decide) h⟩, fun h => absurd h (by decide)⟩, fun h => absurd h (by decide)⟩, rfl, fun _ => ?_⟩
          show vp_updL lo9 (0 : Int32).toNatClampNeg (wa (a * 4 + k)).toInt64 0 = (a_action (a * 4 + k)).toInt64
          rw [← hw _ (by omega)]; rfl
        · refine ⟨(2, lo9), (0, 2), ⟨.inr ("java/util/NoSuchElementException", ()), ⟨.inl (), ⟨fun h => absurd h h20, fun _ => ⟨fun _ => rfl, fun h => absurd h24 h⟩⟩, fun u _ => ⟨.inr ("java/util/NoSuchElementException", ()), ⟨fun h => absurd h h10, fun _ => ⟨fun h => absurd h h1N, fun _ => rfl⟩⟩, fun u e => (nomatch e), fun E u e => (by cases e; rfl)⟩, fun E u e => (nomatch e)⟩, fun r u e => (nomatch e), fun E u e => (by cases e; exact ⟨Or.inr rfl, fun e => (by simp at e), fun _ => rfl⟩)⟩, ⟨(1, ()), R_in_ok h20 (lt4_iff.mp h24), fun _ => ⟨(0, ()), R_in_hi (Decidable.not_not.mp (fun h => h1N ((ltN_iff hN50).mpr h))) h10, fun h => absurd rfl h, fun _ => ⟨fun h => absurd h (by decide), fun _ => rfl⟩⟩, fun h => absurd h (by decide)⟩, rfl, fun h => absurd h (by show ¬ (2 : Int32) = 0; decide)⟩
    · refine ⟨(1, lo9), (0, 1), ⟨.inr ("java/lang/IllegalArgumentException", ()), ⟨.inr ("java/lang/IllegalArgumentException", ()), ⟨fun h => absurd h h20, fun _ => ⟨fun h => absurd h h24, fun _ => rfl⟩⟩, fun u e => (nomatch e), fun E u e => (by cases e; rfl)⟩, fun r u e => (nomatch e), fun E u e => (by cases e; exact ⟨Or.inl rfl, fun _ => rfl, fun e => (by simp at e)⟩)⟩, ⟨(0, ()), R_in_hi (Decidable.not_not.mp (fun h => h24 (lt4_iff.mpr h))) h20, fun h => absurd rfl h, fun _ => ⟨fun h => absurd h (by decide), fun _ => rfl⟩⟩, rfl, fun h => absurd h (by show ¬ (1 : Int32) = 0; decide)⟩
