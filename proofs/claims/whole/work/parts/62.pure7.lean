/-! ===== count ===== -/
/-- how many places below n hold their own number -/
def cntS (f : Nat → Int32) : Nat → Nat
  | 0 => 0
  | k + 1 => if f k = nI k then cntS f k + 1 else cntS f k
theorem cntS_le (f : Nat → Int32) (n : Nat) : cntS f n ≤ n := by
  induction n with
  | zero => exact Nat.le_refl _
  | succ n ih => unfold cntS; split <;> omega
theorem cntS_congr {f g : Nat → Int32} {n : Nat} (h : ∀ k, k < n → f k = g k) : cntS f n = cntS g n := by
  induction n with
  | zero => rfl
  | succ n ih => unfold cntS; rw [h n (by omega), ih (fun k hk => h k (by omega))]
section
variable {N : Nat} {p1 z_length z_where z_at z_many z_bad z_positions z_now z_fed z_found z_over : Int32} {a_alike a_done : Nat → Int32} {out : Int32 × Int32}
theorem M_count_loop (hN : N ≤ 50) (hfin : ((p1.toInt < 0 ∨ 6 < p1.toInt) → (vp_in (p1 - 10) 10 ∧ (out = ((a_done (p1 - 10).toNatClampNeg), (0))))) ∧ ((p1 = 0) → (out = (z_length, (0)))) ∧ ((p1 = 1) → (out = (nI N, (0)))) ∧ ((p1 = 2) → (out = (nI (cntS a_alike N), (0)))) ∧ ((p1 = 3) → (out = (z_positions, (0)))) ∧ ((p1 = 4) → (out = (z_now, (0)))) ∧ ((p1 = 5) → (((z_over = 0) → (out = (0, (0)))) ∧ (¬ (z_over = 0) → (out = (1, (0)))))) ∧ ((p1 = 6) → (out = (z_fed, (0))))) :
    ∃ n, g_M_count p1 z_length z_where z_at z_many z_bad (nI N) z_positions z_now z_fed z_found z_over a_alike a_done n 1 0 0 0 out := by
  have key : ∀ (c k : Nat), k + c = N → g_M_count p1 z_length z_where z_at z_many z_bad (nI N) z_positions z_now z_fed z_found z_over a_alike a_done (c + 1) 1 (nI (cntS a_alike k)) (nI k) 0 out := by
    intro c
    induction c with
    | zero =>
      intro k hk
      rw [g_M_count_1]
      have e : k = N := by omega
      subst e
      exact ⟨fun _ => hfin, fun h => absurd (nI_le (Nat.le_refl _) (by omega)) h⟩
    | succ c ih =>
      intro k hk
      rw [g_M_count_1]
      refine ⟨fun h => absurd h (nI_ge (by omega) (by omega)), fun _ => ⟨vp_in_nI (by omega) (by decide), ?_⟩⟩
      rw [nI_clamp (by omega)]
      refine ⟨fun h => ?_, fun h => ?_⟩
      · have e : cntS a_alike (k + 1) = cntS a_alike k := by show (if a_alike k = nI k then _ else _) = _; rw [if_neg h]
        rw [nI_1, ← e]
        exact ih (k + 1) (by omega)
      · have e : cntS a_alike (k + 1) = cntS a_alike k + 1 := by show (if a_alike k = nI k then _ else _) = _; rw [if_pos h]
        rw [nI_1, nI_1, ← e]
        exact ih (k + 1) (by omega)
  exact ⟨N + 1, by have h := key N 0 (by omega); rwa [show nI (cntS a_alike 0) = 0 from nI_0, nI_0] at h⟩
end
section
variable {p1 ln fl ns npos ncc wat wen wfe r : Int32} {dn : Nat → Int32} {lo9 : Nat → Int64}
theorem L_count_in (h : R_EF_count p1 ln fl ns npos ncc wat wen wfe dn (.inl (r, ()))) : R_L_count p1 ln fl ns npos ncc wat wen wfe dn lo9 (0, vp_updL lo9 (0 : Int32).toNatClampNeg r.toInt64) :=
  ⟨_, h, fun r u e => (by cases e; exact ⟨v01, rfl⟩), fun E u e => (nomatch e)⟩
theorem L_count_ia (h : R_EF_count p1 ln fl ns npos ncc wat wen wfe dn (.inr ("java/lang/IllegalArgumentException", ()))) : R_L_count p1 ln fl ns npos ncc wat wen wfe dn lo9 (1, lo9) :=
  ⟨_, h, fun r u e => (nomatch e), fun E u e => (by cases e; exact ⟨rfl, fun _ => rfl⟩)⟩
end
theorem i_lt {x c : Int32} : x < c ↔ x.toInt < c.toInt := Int32.lt_iff_toInt_lt
theorem i_le {x c : Int32} : x ≤ c ↔ x.toInt ≤ c.toInt := Int32.le_iff_toInt_le
theorem t0 : (0 : Int32).toInt = 0 := by decide
theorem t6 : (6 : Int32).toInt = 6 := by decide
theorem t10 : (10 : Int32).toInt = 10 := by decide
theorem t19 : (19 : Int32).toInt = 19 := by decide
theorem t20 : (20 : Int32).toInt = 20 := by decide
theorem st_count {N : Nat} {p1 ln fl ns npos ncc wat wen wfe : Int32} {dn a_done cl a_alike : Nat → Int32} {lo9 : Nat → Int64} {z_length z_where z_at z_many z_bad z_states z_positions z_now z_fed z_found z_over z_thrown : Int32} (hN : StN N ns z_states) (hln : ln = z_length) (hpo : npos = z_positions) (hcc : ncc = nI (cntS cl N)) (hcl : ∀ k, k < N → cl k = a_alike k) (hW : WkR N wat wen wfe dn z_now z_over z_fed a_done) :
    ∃ v v', R_L_count p1 ln fl ns npos ncc wat wen wfe dn lo9 v ∧ R_M_count p1 z_length z_where z_at z_many z_bad z_states z_positions z_now z_fed z_found z_over a_alike a_done z_thrown v' ∧ v'.2 = v.1 ∧ (v.1 = 0 → v.2 0 = v'.1.toInt64) := by
  obtain ⟨hN50, rfl, rfl⟩ := hN
  obtain ⟨rfl, rfl, rfl, hd, -⟩ := hW
  subst hln hpo
  rw [cntS_congr hcl] at hcc
  subst hcc
  by_cases h6 : p1.toInt < 0 ∨ 6 < p1.toInt
  · by_cases h10 : p1.toInt < 10 ∨ 19 < p1.toInt
    · refine ⟨(1, lo9), (0, 1), L_count_ia ⟨fun _ => ⟨fun _ => rfl, ?_⟩, fun h => ⟨fun _ => ⟨fun _ => rfl, ?_⟩, fun h9 => ?_⟩⟩, ?_, rfl, fun h => absurd (show (1 : Int32) = 0 from h) (by decide)⟩
      · refine ⟨?_, ?_, ?_, ?_, ?_, ?_, ?_⟩ <;> intro e <;> rw [e] at h6 <;> exact absurd h6 (by decide)
      · refine ⟨?_, ?_, ?_, ?_, ?_, ?_, ?_⟩ <;> intro e <;> rw [e] at h6 <;> exact absurd h6 (by decide)
      · rw [i_lt, t10] at h
        rw [i_le, t20] at h9
        omega
      · refine ⟨(0, ()), ?_, fun h => absurd rfl h, fun _ => ⟨(0, ()), ?_, fun h => absurd rfl h, fun _ => ⟨(0, 1), rfl, rfl⟩⟩⟩
        · by_cases z : p1 < 0
          · exact R_in_lo z
          · exact R_in_hi (by rw [i_lt, t6]; rw [i_lt, t0] at z; omega) z
        · by_cases z : p1 < 10
          · exact R_in_lo z
          · exact R_in_hi (by rw [i_lt, t19]; rw [i_lt, t10] at z; omega) z
    · have a1 : ¬ p1 < 10 := by rw [i_lt, t10]; omega
      have a2 : ¬ (20 : Int32) ≤ p1 := by rw [i_le, t20]; omega
      have e9 : ∃ q : Nat, q < 10 ∧ p1 = nI (q + 10) := by
        obtain ⟨j, hj, rfl⟩ := nI_of (x := p1) (by rw [i_lt, t0]; omega)
        rw [nI_toInt hj] at h10
        exact ⟨j - 10, by omega, by congr 1; omega⟩
      obtain ⟨q, hq, rfl⟩ := e9
      have es : nI (q + 10) - 10 = nI q := by
        rw [show (10 : Int32) = nI 10 from rfl, pk_sub (by omega), Nat.add_sub_cancel]
      refine ⟨_, (a_done q, 0), L_count_in (r := dn q) ⟨fun h => absurd h a1, fun _ => ⟨fun h => absurd h a2, fun _ => ⟨by rw [es]; exact vp_in_nI hq (by decide), by rw [es, nI_clamp (by omega)]⟩⟩⟩, ?_, rfl, fun _ => ?_⟩
      · refine ⟨(0, ()), R_in_hi (by rw [i_lt, t6]; rw [i_lt, t10] at a1; omega) (by rw [i_lt, t0]; rw [i_lt, t10] at a1; omega), fun h => absurd rfl h, fun _ => ⟨(1, ()), R_in_ok a1 (by rw [i_lt, t19]; rw [i_le, t20] at a2; omega), fun _ => M_count_loop hN50 ⟨fun _ => ⟨by rw [es]; exact vp_in_nI hq (by decide), by rw [es, nI_clamp (by omega)]⟩, ?_⟩, fun h => absurd h (by decide)⟩⟩
        refine ⟨?_, ?_, ?_, ?_, ?_, ?_, ?_⟩ <;> intro e <;> rw [e] at h6 <;> exact absurd h6 (by decide)
      · show (dn q).toInt64 = (a_done q).toInt64
        rw [hd q hq]
  · have a0 : ¬ p1 < 0 := by rw [i_lt, t0]; omega
    have a6 : ¬ (6 : Int32) < p1 := by rw [i_lt, t6]; omega
    have a1 : p1 < 10 := by rw [i_lt, t10]; omega
    have fin : ∀ r : Int32, ((p1 = 0 → r = ln) ∧ (p1 = 1 → r = nI N) ∧ (p1 = 2 → r = nI (cntS a_alike N)) ∧ (p1 = 3 → r = npos) ∧ (p1 = 4 → r = wat) ∧ (p1 = 5 → ((wen = 0 → r = 0) ∧ (¬ wen = 0 → r = 1))) ∧ (p1 = 6 → r = wfe)) →
        ∃ v v', R_L_count p1 ln fl (nI N) npos (nI (cntS a_alike N)) wat wen wfe dn lo9 v ∧ R_M_count p1 ln z_where z_at z_many z_bad (nI N) npos wat wfe z_found wen a_alike a_done z_thrown v' ∧ v'.2 = v.1 ∧ (v.1 = 0 → v.2 0 = v'.1.toInt64) := by
      intro r ⟨c0, c1, c2, c3, c4, c5, c6⟩
      refine ⟨_, (r, 0), L_count_in (r := r) ⟨fun _ => ⟨fun h => absurd h h6, ?_⟩, fun h => absurd a1 h⟩, ⟨(1, ()), R_in_ok a0 a6, fun _ => M_count_loop hN50 ⟨fun h => absurd h h6, ?_⟩, fun h => absurd h (by decide)⟩, rfl, fun _ => rfl⟩
      · exact ⟨fun e => by rw [c0 e], fun e => by rw [c1 e], fun e => by rw [c2 e], fun e => by rw [c3 e], fun e => by rw [c4 e], fun e => ⟨fun z => by rw [(c5 e).1 z], fun z => by rw [(c5 e).2 z]⟩, fun e => by rw [c6 e]⟩
      · exact ⟨fun e => by rw [c0 e], fun e => by rw [c1 e], fun e => by rw [c2 e], fun e => by rw [c3 e], fun e => by rw [c4 e], fun e => ⟨fun z => by rw [(c5 e).1 z], fun z => by rw [(c5 e).2 z]⟩, fun e => by rw [c6 e]⟩
    obtain ⟨j, hj, rfl⟩ := nI_of a0
    rw [nI_toInt hj] at h6
    have d : ∀ a b : Nat, a < 7 → b < 7 → a ≠ b → nI a ≠ nI b := fun a b ha hb hab e => hab ((nI_eq (by omega) (by omega)).mp e)
    have hj7 : j < 7 := by omega
    match j, hj7 with
    | 0, _ => exact fin ln ⟨fun _ => rfl, fun e => absurd e (by decide), fun e => absurd e (by decide), fun e => absurd e (by decide), fun e => absurd e (by decide), fun e => absurd e (by decide), fun e => absurd e (by decide)⟩
    | 1, _ => exact fin (nI N) ⟨fun e => absurd e (by decide), fun _ => rfl, fun e => absurd e (by decide), fun e => absurd e (by decide), fun e => absurd e (by decide), fun e => absurd e (by decide), fun e => absurd e (by decide)⟩
    | 2, _ => exact fin (nI (cntS a_alike N)) ⟨fun e => absurd e (by decide), fun e => absurd e (by decide), fun _ => rfl, fun e => absurd e (by decide), fun e => absurd e (by decide), fun e => absurd e (by decide), fun e => absurd e (by decide)⟩
    | 3, _ => exact fin npos ⟨fun e => absurd e (by decide), fun e => absurd e (by decide), fun e => absurd e (by decide), fun _ => rfl, fun e => absurd e (by decide), fun e => absurd e (by decide), fun e => absurd e (by decide)⟩
    | 4, _ => exact fin wat ⟨fun e => absurd e (by decide), fun e => absurd e (by decide), fun e => absurd e (by decide), fun e => absurd e (by decide), fun _ => rfl, fun e => absurd e (by decide), fun e => absurd e (by decide)⟩
    | 5, _ =>
      by_cases hz : wen = 0
      · exact fin 0 ⟨fun e => absurd e (by decide), fun e => absurd e (by decide), fun e => absurd e (by decide), fun e => absurd e (by decide), fun e => absurd e (by decide), fun _ => ⟨fun _ => rfl, fun z => absurd hz z⟩, fun e => absurd e (by decide)⟩
      · exact fin 1 ⟨fun e => absurd e (by decide), fun e => absurd e (by decide), fun e => absurd e (by decide), fun e => absurd e (by decide), fun e => absurd e (by decide), fun _ => ⟨fun z => absurd z hz, fun _ => rfl⟩, fun e => absurd e (by decide)⟩
    | 6, _ => exact fin wfe ⟨fun e => absurd e (by decide), fun e => absurd e (by decide), fun e => absurd e (by decide), fun e => absurd e (by decide), fun e => absurd e (by decide), fun e => absurd e (by decide), fun _ => rfl⟩
    | j + 7, h => exact absurd h (by omega)
