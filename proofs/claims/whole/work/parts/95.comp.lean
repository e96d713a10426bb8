/-! ===== the model's last loops of compile ===== -/
theorem comp1 {N : Nat} {z_length : Int32} {a_text : Nat → Int32} {z_where z_thrown z_at z_many z_bad z_states z_positions z_now z_fed z_found z_over : Int32} {a_is a_empty a_from a_nothing a_first a_last a_firstDo a_lastDo a_letters a_stepDo a_step a_set a_go a_does a_ends a_group a_other a_last0 : Nat → Int32} {a_size a_endDo a_alike a_done a_isFinal : F1} (hT : Tbl N a_go a_does) : ∀ (c x : Nat) (wy ac : F1), x + c = N * 4 → (∀ k, k < x → wy k = a_go k ∧ ac k = a_does k) → ∃ wy' ac' : F1, (∀ k, k < N * 4 → wy' k = a_go k ∧ ac' k = a_does k) ∧ ∀ out, (∃ n, g_M_compile z_length a_text n 2 (nI N) 0 0 z_where z_thrown z_at z_many z_bad z_states z_positions z_now z_fed z_found z_over a_is a_empty a_from a_nothing a_first a_last a_firstDo a_lastDo a_letters a_stepDo a_step a_set a_go a_does a_ends a_group a_other a_last0 a_size wy' ac' a_endDo a_alike a_done a_isFinal out) → ∃ n, g_M_compile z_length a_text n 1 (nI N) (nI x) 0 z_where z_thrown z_at z_many z_bad z_states z_positions z_now z_fed z_found z_over a_is a_empty a_from a_nothing a_first a_last a_firstDo a_lastDo a_letters a_stepDo a_step a_set a_go a_does a_ends a_group a_other a_last0 a_size wy ac a_endDo a_alike a_done a_isFinal out := by
  have h50 := hT.1
  have e4 : 4 * nI N = nI (N * 4) := by rw [show (4 : Int32) = nI 4 from rfl, pk_mul, Nat.mul_comm]
  intro c
  induction c with
  | zero =>
    intro x wy ac hx h
    have e : x = N * 4 := by omega
    subst e
    refine ⟨wy, ac, h, fun out ⟨n, h⟩ => ⟨n + 1, ?_⟩⟩
    rw [g_M_compile_1, e4]
    exact ⟨fun _ => h, fun z => absurd (nI_le (Nat.le_refl _) (by omega)) z⟩
  | succ c ih =>
    intro x wy ac hx h
    have vx : vp_in (nI x) 200 := vp_in_nI (by omega) (by decide)
    have cx := nI_clamp (show x < 2 ^ 31 by omega)
    have ngo : ¬ nI (N * 4) ≤ nI x := nI_ge (by omega) (by omega)
    obtain ⟨wy', ac', k1, k2⟩ := ih (x + 1) (upd wy x (a_go x)) (upd ac x (a_does x)) (by omega) (fun k hk => by
      rw [upd_at, upd_at]
      by_cases e : k = x
      · rw [if_pos e, if_pos e, e]; exact ⟨rfl, rfl⟩
      · rw [if_neg e, if_neg e]; exact h k (by omega))
    refine ⟨wy', ac', k1, fun out h9 => ?_⟩
    obtain ⟨n, h9⟩ := k2 out h9
    refine ⟨n + 1, ?_⟩
    rw [g_M_compile_1, e4, cx, nI_1]
    refine ⟨fun z => absurd z ngo, fun _ => ⟨vx, vx, vx, fun _ => ⟨vx, vx, h9⟩, fun z => ⟨vx, ?_⟩⟩⟩
    rcases hT.2 x (by omega) with ⟨_, e0⟩ | ⟨t, t1, t2⟩
    · rw [e0] at h9; exact h9
    · exact absurd (by rw [t2]; exact nI_pos' (by omega)) z
theorem comp3 {s : Nat} {x1 z_length : Int32} {a_text : Nat → Int32} {z_where z_thrown z_at z_many z_bad z_states z_positions z_now z_fed z_found z_over : Int32} {a_is a_empty a_from a_nothing a_first a_last a_firstDo a_lastDo a_letters a_stepDo a_step a_set a_go a_does a_ends a_group a_other a_last0 : Nat → Int32} {a_way a_action a_endDo a_alike a_done a_isFinal : F1} (hs : s < 50) : ∀ (c x : Nat) (sz : F1), x + c = 30 → sz s = nI (pcS (a_set s) x) → ∃ sz' : F1, (∀ i, i ≠ s → sz' i = sz i) ∧ sz' s = nI (pcS (a_set s) 30) ∧ ∀ out, (∃ n, g_M_compile z_length a_text n 2 x1 (nI (s + 1)) 0 z_where z_thrown z_at z_many z_bad z_states z_positions z_now z_fed z_found z_over a_is a_empty a_from a_nothing a_first a_last a_firstDo a_lastDo a_letters a_stepDo a_step a_set a_go a_does a_ends a_group a_other a_last0 sz' a_way a_action a_endDo a_alike a_done a_isFinal out) → ∃ n, g_M_compile z_length a_text n 3 x1 (nI s) (nI x) z_where z_thrown z_at z_many z_bad z_states z_positions z_now z_fed z_found z_over a_is a_empty a_from a_nothing a_first a_last a_firstDo a_lastDo a_letters a_stepDo a_step a_set a_go a_does a_ends a_group a_other a_last0 sz a_way a_action a_endDo a_alike a_done a_isFinal out := by
  have vs : vp_in (nI s) 50 := vp_in_nI hs (by decide)
  have v51 : vp_in (nI s) 51 := vp_in_nI (by omega) (by decide)
  have cs := nI_clamp (show s < 2 ^ 31 by omega)
  intro c
  induction c with
  | zero =>
    intro x sz hx h
    have e : x = 30 := by omega
    subst e
    refine ⟨sz, fun _ _ => rfl, h, fun out ⟨n, h⟩ => ⟨n + 1, ?_⟩⟩
    rw [g_M_compile_3, nI_1 s]
    exact ⟨fun _ => h, fun z => absurd (nI_le (a := 30) (b := 30) (by omega) (by omega)) z⟩
  | succ c ih =>
    intro x sz hx h
    have ngo : ¬ 30 ≤ nI x := nI_ge (a := x) (b := 30) (by omega) (by omega)
    by_cases hb : bt (a_set s) x = true
    · obtain ⟨sz', k1, k2, k3⟩ := ih (x + 1) (upd sz s (sz s + 1)) (by omega) (by rw [upd_at, if_pos rfl, h, nI_1, pcS_s, if_pos hb])
      refine ⟨sz', fun i hi => by rw [k1 i hi, upd_at, if_neg hi], k2, fun out h9 => ?_⟩
      obtain ⟨n, h9⟩ := k3 out h9
      refine ⟨n + 1, ?_⟩
      rw [g_M_compile_3, cs, nI_1 x]
      exact ⟨fun z => absurd z ngo, fun _ => ⟨v51, _, R_M_has_yes (by omega) hb, fun z => absurd z (by decide), fun _ => ⟨vs, vs, h9⟩⟩⟩
    · obtain ⟨sz', k1, k2, k3⟩ := ih (x + 1) sz (by omega) (by rw [h, pcS_s, if_neg hb]; rfl)
      refine ⟨sz', k1, k2, fun out h9 => ?_⟩
      obtain ⟨n, h9⟩ := k3 out h9
      refine ⟨n + 1, ?_⟩
      rw [g_M_compile_3, cs, nI_1 x]
      exact ⟨fun z => absurd z ngo, fun _ => ⟨v51, _, R_M_has_no (by omega) (btF hb), fun _ => h9, fun z => absurd rfl z⟩⟩
theorem comp2 {N : Nat} {z_length : Int32} {a_text : Nat → Int32} {z_where z_thrown z_at z_many z_bad z_states z_positions z_now z_fed z_found z_over : Int32} {a_is a_empty a_from a_nothing a_first a_last a_firstDo a_lastDo a_letters a_stepDo a_step a_set a_go a_does a_ends a_group a_other a_last0 : Nat → Int32} {a_way a_action a_done : F1} (h50 : N ≤ 50) (hb : ∀ i, i < N → a_last0 i = 0 ∨ a_last0 i = 1) : ∀ (c s : Nat) (sz en al fi : F1), s + c = N → (∀ i, i < s → sz i = nI (pcS (a_set i) 30) ∧ en i = a_ends i ∧ al i = a_group i ∧ fi i = a_last0 i) → ∃ sz' en' al' fi' : F1, (∀ i, i < N → sz' i = nI (pcS (a_set i) 30) ∧ en' i = a_ends i ∧ al' i = a_group i ∧ fi' i = a_last0 i) ∧ ∃ n, g_M_compile z_length a_text n 2 (nI N) (nI s) 0 z_where z_thrown z_at z_many z_bad z_states z_positions z_now z_fed z_found z_over a_is a_empty a_from a_nothing a_first a_last a_firstDo a_lastDo a_letters a_stepDo a_step a_set a_go a_does a_ends a_group a_other a_last0 sz a_way a_action en al a_done fi (nI N, z_where, z_thrown, z_at, z_many, z_bad, z_states, z_positions, 0, 0, z_found, 0, a_is, a_empty, a_from, a_nothing, a_first, a_last, a_firstDo, a_lastDo, a_letters, a_stepDo, a_step, a_set, a_go, a_does, a_ends, a_group, a_other, a_last0, sz', a_way, a_action, en', al', fillS 0 a_done 10, fi') := by
  intro c
  induction c with
  | zero =>
    intro s sz en al fi hs h
    have e : s = N := by omega
    subst e
    refine ⟨sz, en, al, fi, h, 1, ?_⟩
    rw [g_M_compile_2]
    exact ⟨fun _ => ⟨_, R_M_begin_ok, rfl⟩, fun z => absurd (nI_le (Nat.le_refl _) (by omega)) z⟩
  | succ c ih =>
    intro s sz en al fi hs h
    have vs : vp_in (nI s) 50 := vp_in_nI (by omega) (by decide)
    have cs := nI_clamp (show s < 2 ^ 31 by omega)
    have ngo : ¬ nI N ≤ nI s := nI_ge (by omega) (by omega)
    obtain ⟨sz1, k1, k2, k3⟩ := comp3 (x1 := nI N) (z_length := z_length) (a_text := a_text) (z_where := z_where) (z_thrown := z_thrown) (z_at := z_at) (z_many := z_many) (z_bad := z_bad) (z_states := z_states) (z_positions := z_positions) (z_now := z_now) (z_fed := z_fed) (z_found := z_found) (z_over := z_over) (a_is := a_is) (a_empty := a_empty) (a_from := a_from) (a_nothing := a_nothing) (a_first := a_first) (a_last := a_last) (a_firstDo := a_firstDo) (a_lastDo := a_lastDo) (a_letters := a_letters) (a_stepDo := a_stepDo) (a_step := a_step) (a_set := a_set) (a_go := a_go) (a_does := a_does) (a_ends := a_ends) (a_group := a_group) (a_other := a_other) (a_last0 := a_last0) (a_way := a_way) (a_action := a_action) (a_endDo := upd en s (a_ends s)) (a_alike := upd al s (a_group s)) (a_done := a_done) (a_isFinal := upd fi s (a_last0 s)) (show s < 50 by omega) 30 0 (upd sz s 0) (by omega) (by rw [upd_at, if_pos rfl]; exact nI_0.symm)
    obtain ⟨sz', en', al', fi', j1, j2⟩ := ih (s + 1) sz1 (upd en s (a_ends s)) (upd al s (a_group s)) (upd fi s (a_last0 s)) (by omega) (fun i hi => by
      by_cases e : i = s
      · subst e; rw [upd_at, if_pos rfl, upd_at, if_pos rfl, upd_at, if_pos rfl]; exact ⟨k2, rfl, rfl, rfl⟩
      · rw [k1 i e, upd_at, if_neg e, upd_at, if_neg e, upd_at, if_neg e, upd_at, if_neg e]; exact h i (by omega))
    obtain ⟨n, h9⟩ := k3 _ j2
    rw [nI_0] at h9
    refine ⟨sz', en', al', fi', j1, n + 1, ?_⟩
    rw [g_M_compile_2, cs, nar_b (hb s (by omega))]
    exact ⟨fun z => absurd z ngo, fun _ => ⟨vs, vs, vs, vs, vs, vs, vs, h9⟩⟩
