/-! ===== counting what was done; filling with 0 ===== -/
def perfS (b : Int32) (f : Nat → Int32) (n : Nat) : Nat → Int32 := fun q => if q < n ∧ bt b q = true then f q + 1 else f q
theorem perfS_0 (b : Int32) (f : Nat → Int32) : perfS b f 0 = f := by funext q; simp [perfS]
theorem perfS_no {b : Int32} {f : Nat → Int32} {k : Nat} (h : bt b k = false) : perfS b f (k + 1) = perfS b f k := by
  funext q
  unfold perfS
  by_cases hq : q = k
  · subst hq; simp [h]
  · have : (q < k + 1) ↔ q < k := by omega
    simp only [this]
theorem perfS_yes {b : Int32} {f : Nat → Int32} {k : Nat} (h : bt b k = true) : upd (perfS b f k) k (perfS b f k k + 1) = perfS b f (k + 1) := by
  funext q
  unfold upd perfS
  by_cases hq : q = k
  · subst hq; simp [h]
  · have : (q < k + 1) ↔ q < k := by omega
    simp only [this, if_neg hq]
theorem nI10 : (10 : Int32) = nI 10 := rfl
theorem R_Walk_perform_ok {b wat wen wfe : Int32} {f : Nat → Int32} : R_Walk_perform b wat wen wfe f (perfS b f 10) := by
  have key : ∀ (c k : Nat), k + c = 10 → g_Walk_perform b wat wen wfe (c + 1) 1 (nI k) (perfS b f k) (perfS b f 10) := by
    intro c
    induction c with
    | zero =>
      intro k hk
      rw [g_Walk_perform_1]
      have e : k = 10 := by omega
      subst e
      exact ⟨fun _ => rfl, fun h => absurd (nI_le (Nat.le_refl 10) (by decide)) h⟩
    | succ c ih =>
      intro k hk
      rw [g_Walk_perform_1]
      refine ⟨fun h => absurd h (nI_ge (a := k) (b := 10) (by omega) (by decide)), fun _ => ⟨fun h => ?_, fun h => ?_⟩⟩
      · rw [bt_test b (by omega)] at h
        rw [nI_1, ← perfS_no h]
        exact ih (k + 1) (by omega)
      · rw [bt_test b (by omega), Bool.not_eq_false] at h
        refine ⟨vp_in_nI (by omega) (by decide), vp_in_nI (by omega) (by decide), ?_⟩
        rw [nI_1, nI_clamp (by omega), perfS_yes h]
        exact ih (k + 1) (by omega)
  exact ⟨11, by have h := key 10 0 (by omega); rwa [nI_0, perfS_0] at h⟩
theorem R_M_has_no {b : Int32} {k : Nat} (hk : k < 32) (h : bt b k = false) : R_M_has b (nI k) (0, ()) := by
  have e := (bt_test b hk).mpr h
  refine ⟨fun _ => rfl, fun h9 => ?_⟩
  rw [e] at h9
  exact absurd h9 (by decide)
theorem R_M_has_yes {b : Int32} {k : Nat} (hk : k < 32) (h : bt b k = true) : R_M_has b (nI k) (1, ()) := by
  have e := (bt_one b hk).mpr h
  refine ⟨fun h9 => ?_, fun _ => rfl⟩
  rw [e] at h9
  exact absurd rfl h9
theorem R_M_perform_ok {b z_length z_where z_thrown z_at z_many z_bad z_states z_positions z_now z_fed z_found z_over : Int32} {f : Nat → Int32} : R_M_perform b z_length z_where z_thrown z_at z_many z_bad z_states z_positions z_now z_fed z_found z_over f (b, perfS b f 10) := by
  have key : ∀ (c k : Nat), k + c = 10 → g_M_perform b z_length z_where z_thrown z_at z_many z_bad z_states z_positions z_now z_fed z_found z_over (c + 1) 1 (nI k) (perfS b f k) (b, perfS b f 10) := by
    intro c
    induction c with
    | zero =>
      intro k hk
      rw [g_M_perform_1]
      have e : k = 10 := by omega
      subst e
      exact ⟨fun _ => rfl, fun h => absurd (nI_le (Nat.le_refl 10) (by decide)) h⟩
    | succ c ih =>
      intro k hk
      rw [g_M_perform_1]
      refine ⟨fun h => absurd h (nI_ge (a := k) (b := 10) (by omega) (by decide)), fun _ => ?_⟩
      cases h : bt b k with
      | false =>
        refine ⟨(0, ()), R_M_has_no (by omega) h, fun _ => ?_, fun h9 => absurd rfl h9⟩
        rw [nI_1, ← perfS_no h]
        exact ih (k + 1) (by omega)
      | true =>
        refine ⟨(1, ()), R_M_has_yes (by omega) h, fun h9 => absurd h9 (by decide), fun _ => ⟨vp_in_nI (by omega) (by decide), vp_in_nI (by omega) (by decide), ?_⟩⟩
        rw [nI_1, nI_clamp (by omega), perfS_yes h]
        exact ih (k + 1) (by omega)
  exact ⟨11, by have h := key 10 0 (by omega); rwa [nI_0, perfS_0] at h⟩
def fillS (v : Int32) (f : Nat → Int32) (n : Nat) : Nat → Int32 := fun q => if q < n then v else f q
theorem fillS_0 (v : Int32) (f : Nat → Int32) : fillS v f 0 = f := by funext q; simp [fillS]
theorem fillS_s (v : Int32) (f : Nat → Int32) (k : Nat) : upd (fillS v f k) k v = fillS v f (k + 1) := by
  funext q
  unfold upd fillS
  by_cases hq : q = k
  · subst hq; simp
  · have : (q < k + 1) ↔ q < k := by omega
    simp only [this, if_neg hq]
theorem R_Arrays_fill_ok {v : Int32} {N : Nat} {f : Nat → Int32} (hN : N < 2 ^ 31) : R_Arrays_fill v N f (fillS v f N) := by
  have key : ∀ (c k : Nat), k + c = N → g_Arrays_fill v N (c + 1) 1 (nI k) (nI N) (fillS v f k) (fillS v f N) := by
    intro c
    induction c with
    | zero =>
      intro k hk
      rw [g_Arrays_fill_1]
      have e : k = N := by omega
      subst e
      exact ⟨fun _ => rfl, fun h => absurd (nI_le (Nat.le_refl _) hN) h⟩
    | succ c ih =>
      intro k hk
      rw [g_Arrays_fill_1]
      refine ⟨fun h => absurd h (nI_ge (by omega) hN), fun _ => ⟨vp_in_nI (by omega) hN, ?_⟩⟩
      rw [nI_1, nI_clamp (by omega), fillS_s]
      exact ih (k + 1) (by omega)
  exact ⟨N + 1, by have h := key N 0 (by omega); rw [nI_0, fillS_0] at h; exact h⟩
theorem R_M_begin_ok {p z_length z_where z_thrown z_at z_many z_bad z_states z_positions z_found z_now z_fed z_over : Int32} {f : Nat → Int32} : R_M_begin p z_length z_where z_thrown z_at z_many z_bad z_states z_positions z_found z_now z_fed z_over f (p, 0, 0, fillS 0 f 10) := by
  have key : ∀ (c k : Nat), k + c = 10 → g_M_begin p z_length z_where z_thrown z_at z_many z_bad z_states z_positions z_found (c + 1) 1 (nI k) p 0 0 (fillS 0 f k) (p, 0, 0, fillS 0 f 10) := by
    intro c
    induction c with
    | zero =>
      intro k hk
      rw [g_M_begin_1]
      have e : k = 10 := by omega
      subst e
      exact ⟨fun _ => rfl, fun h => absurd (nI_le (Nat.le_refl 10) (by decide)) h⟩
    | succ c ih =>
      intro k hk
      rw [g_M_begin_1]
      refine ⟨fun h => absurd h (nI_ge (a := k) (b := 10) (by omega) (by decide)), fun _ => ⟨vp_in_nI (by omega) (by decide), ?_⟩⟩
      rw [nI_1, nI_clamp (by omega), fillS_s]
      exact ih (k + 1) (by omega)
  exact ⟨11, by have h := key 10 0 (by omega); rwa [nI_0, fillS_0] at h⟩
theorem R_Walk_restart_ok {p wat wen wfe : Int32} {f : Nat → Int32} : R_Walk_restart p wat wen wfe f (p, 0, 0, fillS 0 f 10) := ⟨_, R_Arrays_fill_ok (by decide), rfl⟩
