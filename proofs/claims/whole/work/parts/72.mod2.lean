/-! ===== behind, beside, repeat ===== -/
theorem R_Net_chain_ok {P q r : Nat} {fa la sp sa : Nat → Int32} {pf : Nat → PT} {v3 : (Nat → Int32) × (Nat → Int32)} (hP : P ≤ 30) (h : r ≠ q) (hl : R_Net_link (pf q).2.2.1 (pf r).2.1 (nI P) fa la sp sa v3) : R_Net_chain (nI P) q r fa la sp sa pf (if (pf q).2.2.2.1 = 0 then fa else giveS (pf r).2.1 (pf q).2.2.2.2 fa P, if (pf r).2.2.2.1 = 0 then la else giveS (pf q).2.2.1 (pf r).2.2.2.2 la P, v3.1, v3.2, va_up pf q ((pf q).1, if (pf q).2.2.2.1 = 0 then (pf q).2.1 else (pf q).2.1 ||| (pf r).2.1, if (pf r).2.2.2.1 = 0 then (pf r).2.2.1 else (pf q).2.2.1 ||| (pf r).2.2.1, if (pf q).2.2.2.1 = 0 ∨ (pf r).2.2.2.1 = 0 then 0 else 1, if (pf q).2.2.2.1 = 0 ∨ (pf r).2.2.2.1 = 0 then 0 else (pf q).2.2.2.2 ||| (pf r).2.2.2.2)) := by
  refine ⟨v3, hl, fun e1 => ⟨fun e2 => ?_, fun e2 => ⟨_, R_Net_give_ok hP, ?_⟩⟩, fun e1 => ⟨_, R_Net_give_ok hP, ?_⟩⟩
  · intro a ha
    subst ha
    simp only [vu_same, vu_ne h, bx_uu]
    refine ⟨fun _ => ?_, fun z => absurd e1 z⟩
    intro b hb
    subst hb
    simp only [vu_same, vu_ne h, bx_uu]
    refine ⟨fun _ => ?_, fun z => absurd (by trivial) z⟩
    intro c hc
    subst hc
    simp only [vu_same, vu_ne h, bx_uu, e1, e2, if_pos, true_or]
  · intro a ha
    subst ha
    simp only [vu_same, vu_ne h, bx_uu]
    refine ⟨fun _ => ?_, fun z => absurd e1 z⟩
    intro b hb
    subst hb
    simp only [vu_same, vu_ne h, bx_uu]
    refine ⟨fun _ => ?_, fun z => absurd (by trivial) z⟩
    intro c hc
    subst hc
    simp only [vu_same, vu_ne h, bx_uu, e1, if_pos, true_or, if_neg e2]
  · intro a ha
    subst ha
    simp only [vu_same, vu_ne h, bx_uu]
    refine ⟨fun e2 => ?_, fun e2 => ⟨_, R_Net_give_ok hP, ?_⟩⟩
    · intro b hb
      subst hb
      simp only [vu_same, vu_ne h, bx_uu]
      refine ⟨fun z => absurd z e1, fun _ => ⟨fun _ => ?_, fun z => absurd e2 z⟩⟩
      intro c hc
      subst hc
      simp only [vu_same, vu_ne h, bx_uu]
      refine ⟨fun _ => ?_, fun z => absurd (by trivial) z⟩
      intro d hd
      subst hd
      simp only [vu_same, vu_ne h, bx_uu, e2, if_pos, or_true, if_neg e1]
    · intro b hb
      subst hb
      simp only [vu_same, vu_ne h, bx_uu]
      refine ⟨fun z => absurd z e1, fun _ => ⟨fun z => absurd z e2, fun _ => ?_⟩⟩
      intro c hc
      subst hc
      simp only [vu_same, vu_ne h, bx_uu]
      refine ⟨fun z => absurd z (by decide), fun _ => ?_⟩
      intro d hd
      subst hd
      simp only [vu_same, vu_ne h, bx_uu, if_neg e1, if_neg e2, if_neg (not_or.mpr ⟨e1, e2⟩)]
theorem R_Net_either_ok {q r : Nat} {pos : Int32} {pf : Nat → PT} (h : r ≠ q) : R_Net_either pos q r pf (va_up pf q ((pf q).1, (pf q).2.1 ||| (pf r).2.1, (pf q).2.2.1 ||| (pf r).2.2.1, if (pf q).2.2.2.1 = 0 ∧ (pf r).2.2.2.1 = 0 then 0 else 1, (pf q).2.2.2.2 ||| (pf r).2.2.2.2)) := by
  unfold R_Net_either
  intro a ha b hb
  subst ha hb
  simp only [vu_same, vu_ne h, bx_uu]
  refine ⟨fun e1 => ?_, fun e1 => ⟨fun e2 => ?_, fun e2 => ?_⟩⟩
  · intro c hc d hd
    subst hc hd
    simp only [vu_same, vu_ne h, bx_uu, if_neg (fun z : (pf q).2.2.2.1 = 0 ∧ (pf r).2.2.2.1 = 0 => e1 z.1)]
  · intro c hc d hd
    subst hc hd
    simp only [vu_same, vu_ne h, bx_uu, if_pos (show (pf q).2.2.2.1 = 0 ∧ (pf r).2.2.2.1 = 0 from ⟨e1, e2⟩)]
  · intro c hc d hd
    subst hc hd
    simp only [vu_same, vu_ne h, bx_uu, if_neg (fun z : (pf q).2.2.2.1 = 0 ∧ (pf r).2.2.2.1 = 0 => e2 z.2)]
theorem M_behind_loop {d v : Nat} {z_length z_where z_thrown z_at z_many z_bad z_states z_positions z_now z_fed z_found z_over : Int32} {a_is a_empty a_from a_nothing a_first a_last fD sd st : Nat → Int32} (hd : d < 30) (hv : v < 30) : ∀ (c k : Nat) (lD : Nat → Int32), k + c = 30 → ∃ lD' : Nat → Int32, (∀ a b, a < 30 → b < 30 → lD' (30 * a + b) = if a = d ∧ k ≤ b ∧ bt (a_last d) b = true then lD (30 * a + b) ||| a_nothing v else lD (30 * a + b)) ∧ ∀ out, (∃ n, g_M_behind (nI d) (nI v) z_length z_where z_thrown z_at z_many z_bad z_states z_positions z_now z_fed z_found z_over n 2 0 a_is a_empty a_from a_nothing a_first a_last fD lD' sd st out) → ∃ n, g_M_behind (nI d) (nI v) z_length z_where z_thrown z_at z_many z_bad z_states z_positions z_now z_fed z_found z_over n 1 (nI k) a_is a_empty a_from a_nothing a_first a_last fD lD sd st out := by
  intro c
  induction c with
  | zero =>
    intro k lD hk
    refine ⟨lD, fun a b _ _ => by rw [if_neg (by omega)], fun out ⟨n, h⟩ => ⟨n + 1, ?_⟩⟩
    rw [g_M_behind_1]
    exact ⟨fun _ => h, fun z => absurd (nI_le (a := 30) (by omega) (by omega)) z⟩
  | succ c ih =>
    intro k lD hk
    by_cases hb : bt (a_last d) k = true
    · obtain ⟨lD', h1, h2⟩ := ih (k + 1) (upd lD (30 * d + k) (lD (30 * d + k) ||| a_nothing v)) (by omega)
      refine ⟨lD', fun a b ha hb9 => ?_, fun out h => ?_⟩
      · rw [h1 a b ha hb9, upd_at]
        by_cases q : a = d ∧ b = k
        · obtain ⟨rfl, rfl⟩ := q
          rw [if_neg (by omega), if_pos rfl, if_pos ⟨rfl, by omega, hb⟩]
        · rw [if_neg (show ¬ 30 * a + b = 30 * d + k by omega)]
          by_cases e2 : a = d ∧ k + 1 ≤ b ∧ bt (a_last d) b = true
          · rw [if_pos e2, if_pos ⟨e2.1, by omega, e2.2.2⟩]
          · rw [if_neg e2, if_neg (fun z => e2 ⟨z.1, by omega, z.2.2⟩)]
      · obtain ⟨n, h⟩ := h2 out h
        refine ⟨n + 1, ?_⟩
        rw [g_M_behind_1]
        refine ⟨fun z => absurd z (nI_ge (b := 30) (by omega) (by omega)), fun _ => ?_⟩
        rw [ixm, nI_1, nI_clamp (show d < 2 ^ 31 by omega), nI_clamp (show v < 2 ^ 31 by omega), nI_clamp (show 30 * d + k < 2 ^ 31 by omega)]
        exact ⟨vin30 hd, _, R_M_has_yes (by omega) hb, fun z => absurd z (by decide), fun _ => ⟨vin900 hd (by omega), vin30 hv, vin900 hd (by omega), h⟩⟩
    · obtain ⟨lD', h1, h2⟩ := ih (k + 1) lD (by omega)
      refine ⟨lD', fun a b ha hb9 => ?_, fun out h => ?_⟩
      · rw [h1 a b ha hb9]
        by_cases e2 : a = d ∧ k + 1 ≤ b ∧ bt (a_last d) b = true
        · rw [if_pos e2, if_pos ⟨e2.1, by omega, e2.2.2⟩]
        · rw [if_neg e2, if_neg (fun z => e2 ⟨z.1, Nat.lt_of_le_of_ne z.2.1 (fun q => hb (q ▸ z.2.2)), z.2.2⟩)]
      · obtain ⟨n, h⟩ := h2 out h
        refine ⟨n + 1, ?_⟩
        rw [g_M_behind_1]
        refine ⟨fun z => absurd z (nI_ge (b := 30) (by omega) (by omega)), fun _ => ?_⟩
        rw [nI_1, nI_clamp (show d < 2 ^ 31 by omega)]
        exact ⟨vin30 hd, _, R_M_has_no (by omega) (btF hb), fun _ => h, fun z => absurd rfl z⟩
theorem M_behind_fin {d v : Nat} {z_length z_where z_thrown z_at z_many z_bad z_states z_positions z_now z_fed z_found z_over : Int32} {a_is a_empty a_from a_nothing a_first a_last fD lD sd st : Nat → Int32} (hd : d < 30) (hv : v < 30) (hne : d ≠ v) (h30 : ∀ i, 30 ≤ i → bt (a_last v) i = false) : ∃ lb' lD' : Nat → Int32, (∃ n, g_M_behind (nI d) (nI v) z_length z_where z_thrown z_at z_many z_bad z_states z_positions z_now z_fed z_found z_over n 2 0 a_is a_empty a_from a_nothing a_first a_last fD lD sd st (upd a_is v 0, upd a_empty d (if a_empty d = 0 ∨ a_empty v = 0 then 0 else 1), a_from, upd a_nothing d (if a_empty d = 0 ∨ a_empty v = 0 then 0 else a_nothing d ||| a_nothing v), a_first, lb', fD, lD', sd, st)) ∧ (∀ a, lb' a = if a = d then a_last d ||| a_last v else a_last a) ∧ ∀ a b, a < 30 → b < 30 → lD' (30 * a + b) = if a = d ∧ bt (a_last v) b = true then lD (30 * v + b) ||| 0 else lD (30 * a + b) := by
  obtain ⟨lb', lD', h1, h2, h3⟩ := R_M_more_last (w := 0) (z_length := z_length) (z_where := z_where) (z_thrown := z_thrown) (z_at := z_at) (z_many := z_many) (z_bad := z_bad) (z_states := z_states) (z_positions := z_positions) (z_now := z_now) (z_fed := z_fed) (z_found := z_found) (z_over := z_over) (a_first := a_first) (a_last := a_last) (fD := fD) (lD := lD) hd hv hne h30
  refine ⟨lb', lD', ⟨1, ?_⟩, h2, h3⟩
  rw [g_M_behind_2]
  have vd := vin30 hd
  have vv := vin30 hv
  rw [nI_clamp (show d < 2 ^ 31 by omega), nI_clamp (show v < 2 ^ 31 by omega), nar0, nar1]
  refine ⟨_, h1, vd, fun e1 => ⟨vd, vd, fun _ => ⟨vd, vv, ?_⟩, fun z => absurd (by rw [upd_at, if_pos rfl]) z⟩, fun e1 => ⟨vv, fun e2 => ⟨vd, vd, fun _ => ⟨vd, vv, ?_⟩, fun z => absurd (by rw [upd_at, if_pos rfl]) z⟩, fun e2 => ⟨vd, vd, fun z => absurd z (by rw [upd_at, if_pos rfl]; decide), fun _ => ⟨vd, vv, vd, vv, ?_⟩⟩⟩⟩
  · rw [if_pos (Or.inl e1), if_pos (Or.inl e1)]
  · rw [if_pos (Or.inr e2), if_pos (Or.inr e2)]
  · rw [if_neg (not_or.mpr ⟨e1, e2⟩), if_neg (not_or.mpr ⟨e1, e2⟩)]
theorem R_M_behind_ok {d v : Nat} {z_length z_where z_thrown z_at z_many z_bad z_states z_positions z_now z_fed z_found z_over : Int32} {a_is a_empty a_from a_nothing a_first a_last fD lD sd st : Nat → Int32} (hd : d < 30) (hv : v < 30) (hne : d ≠ v) (his : ¬ a_is d = 0) (hF : ∀ i, 30 ≤ i → bt (a_first v) i = false) (hL : ∀ i, 30 ≤ i → bt (a_last v) i = false) : ∃ fb' lb' fD' lD' sd' st' : Nat → Int32, R_M_behind (nI d) (nI v) z_length z_where z_thrown z_at z_many z_bad z_states z_positions z_now z_fed z_found z_over a_is a_empty a_from a_nothing a_first a_last fD lD sd st (upd a_is v 0, upd a_empty d (if a_empty d = 0 ∨ a_empty v = 0 then 0 else 1), a_from, upd a_nothing d (if a_empty d = 0 ∨ a_empty v = 0 then 0 else a_nothing d ||| a_nothing v), fb', lb', fD', lD', sd', st')
    ∧ (∀ a, fb' a = if a = d then (if a_empty d = 0 then a_first d else a_first d ||| a_first v) else a_first a) ∧ (∀ a, lb' a = if a = d then (if a_empty v = 0 then a_last v else a_last d ||| a_last v) else a_last a)
    ∧ (∀ a b, a < 30 → b < 30 → fD' (30 * a + b) = if a = d ∧ ¬ a_empty d = 0 ∧ bt (a_first v) b = true then fD (30 * v + b) ||| a_nothing d else fD (30 * a + b))
    ∧ (∀ a b, a < 30 → b < 30 → lD' (30 * a + b) = if a = d ∧ bt (a_last v) b = true then lD (30 * v + b) else if a = d ∧ ¬ a_empty v = 0 ∧ bt (a_last d) b = true then lD (30 * a + b) ||| a_nothing v else lD (30 * a + b))
    ∧ (∀ a b, a < 30 → b < 30 → sd' (30 * a + b) = if bt (a_last d) a = true ∧ bt (a_first v) b = true then sd (30 * a + b) ||| (lD (30 * d + a) ||| fD (30 * v + b)) else sd (30 * a + b))
    ∧ ∀ a b, a < 30 → b < 30 → st' (30 * a + b) = if bt (a_last d) a = true ∧ bt (a_first v) b = true then 1 else st (30 * a + b) := by
  obtain ⟨v3, hl, hs1, hs2⟩ := R_M_link_ok (z_length := z_length) (z_where := z_where) (z_thrown := z_thrown) (z_at := z_at) (z_many := z_many) (z_bad := z_bad) (z_states := z_states) (z_positions := z_positions) (z_now := z_now) (z_fed := z_fed) (z_found := z_found) (z_over := z_over) (a_first := a_first) (a_last := a_last) (a_firstDo := fD) (a_lastDo := lD) (sd := sd) (st := st) hd hv
  have cd := nI_clamp (show d < 2 ^ 31 by omega)
  have cv := nI_clamp (show v < 2 ^ 31 by omega)
  have vd := vin30 hd
  have vv := vin30 hv
  by_cases e1 : a_empty d = 0
  · by_cases e2 : a_empty v = 0
    · obtain ⟨lb', lD', h1, h2, h3⟩ := M_behind_fin (z_length := z_length) (z_where := z_where) (z_thrown := z_thrown) (z_at := z_at) (z_many := z_many) (z_bad := z_bad) (z_states := z_states) (z_positions := z_positions) (z_now := z_now) (z_fed := z_fed) (z_found := z_found) (z_over := z_over) (a_is := a_is) (a_empty := a_empty) (a_from := a_from) (a_nothing := a_nothing) (a_first := a_first) (a_last := upd a_last d 0) (fD := fD) (lD := lD) (sd := v3.1) (st := v3.2) hd hv hne (by rw [upd_at, if_neg (fun z => hne z.symm)]; exact hL)
      refine ⟨a_first, lb', fD, lD', v3.1, v3.2, ?_, fun a => ?_, fun a => ?_, fun a b _ _ => by rw [if_neg (fun z => z.2.1 e1)], fun a b ha hb => ?_, hs1, hs2⟩
      · unfold R_M_behind
        rw [cd, cv]
        exact ⟨vd, fun _ => ⟨v3, hl, vd, fun _ => ⟨vv, fun _ => ⟨vd, h1⟩, fun z => absurd e2 z⟩, fun z => absurd e1 z⟩, fun z => absurd z his⟩
      · rw [if_pos e1]; split
        · rename_i q; rw [q]
        · rfl
      · rw [h2 a, if_pos e2]
        by_cases q : a = d
        · rw [if_pos q, if_pos q, upd_at, if_pos rfl, upd_at, if_neg (fun z => hne z.symm), Int32.zero_or]
        · rw [if_neg q, if_neg q, upd_at, if_neg q]
      · rw [h3 a b ha hb, upd_at, if_neg (show ¬ v = d from fun z => hne z.symm), Int32.or_zero, if_neg (show ¬ (a = d ∧ ¬ a_empty v = 0 ∧ bt (a_last d) b = true) from fun z => z.2.1 e2)]
    · obtain ⟨lD1, h8, h9⟩ := M_behind_loop (z_length := z_length) (z_where := z_where) (z_thrown := z_thrown) (z_at := z_at) (z_many := z_many) (z_bad := z_bad) (z_states := z_states) (z_positions := z_positions) (z_now := z_now) (z_fed := z_fed) (z_found := z_found) (z_over := z_over) (a_is := a_is) (a_empty := a_empty) (a_from := a_from) (a_nothing := a_nothing) (a_first := a_first) (a_last := a_last) (fD := fD) (sd := v3.1) (st := v3.2) hd hv 30 0 lD (by omega)
      obtain ⟨lb', lD', h1, h2, h3⟩ := M_behind_fin (z_length := z_length) (z_where := z_where) (z_thrown := z_thrown) (z_at := z_at) (z_many := z_many) (z_bad := z_bad) (z_states := z_states) (z_positions := z_positions) (z_now := z_now) (z_fed := z_fed) (z_found := z_found) (z_over := z_over) (a_is := a_is) (a_empty := a_empty) (a_from := a_from) (a_nothing := a_nothing) (a_first := a_first) (a_last := a_last) (fD := fD) (lD := lD1) (sd := v3.1) (st := v3.2) hd hv hne hL
      refine ⟨a_first, lb', fD, lD', v3.1, v3.2, ?_, fun a => ?_, fun a => ?_, fun a b _ _ => by rw [if_neg (fun z => z.2.1 e1)], fun a b ha hb => ?_, hs1, hs2⟩
      · unfold R_M_behind
        rw [cd, cv]
        exact ⟨vd, fun _ => ⟨v3, hl, vd, fun _ => ⟨vv, fun z => absurd z e2, fun _ => h9 _ h1⟩, fun z => absurd e1 z⟩, fun z => absurd z his⟩
      · rw [if_pos e1]; split
        · rename_i q; rw [q]
        · rfl
      · rw [h2 a, if_neg e2]
      · rw [h3 a b ha hb, Int32.or_zero, h8 v b hv hb, h8 a b ha hb, if_neg (show ¬ (v = d ∧ 0 ≤ b ∧ bt (a_last d) b = true) from fun z => hne z.1.symm)]
        by_cases q : a = d ∧ bt (a_last v) b = true
        · rw [if_pos q, if_pos q]
        · rw [if_neg q, if_neg q]
          by_cases q2 : a = d ∧ bt (a_last d) b = true
          · rw [if_pos ⟨q2.1, by omega, q2.2⟩, if_pos ⟨q2.1, e2, q2.2⟩]
          · rw [if_neg (fun z => q2 ⟨z.1, z.2.2⟩), if_neg (fun z => q2 ⟨z.1, z.2.2⟩)]
  · obtain ⟨fb', fD', h4, h5, h6⟩ := R_M_more_first (w := a_nothing d) (z_length := z_length) (z_where := z_where) (z_thrown := z_thrown) (z_at := z_at) (z_many := z_many) (z_bad := z_bad) (z_states := z_states) (z_positions := z_positions) (z_now := z_now) (z_fed := z_fed) (z_found := z_found) (z_over := z_over) (a_first := a_first) (a_last := a_last) (fD := fD) (lD := lD) hd hv hne hF
    by_cases e2 : a_empty v = 0
    · obtain ⟨lb', lD', h1, h2, h3⟩ := M_behind_fin (z_length := z_length) (z_where := z_where) (z_thrown := z_thrown) (z_at := z_at) (z_many := z_many) (z_bad := z_bad) (z_states := z_states) (z_positions := z_positions) (z_now := z_now) (z_fed := z_fed) (z_found := z_found) (z_over := z_over) (a_is := a_is) (a_empty := a_empty) (a_from := a_from) (a_nothing := a_nothing) (a_first := fb') (a_last := upd a_last d 0) (fD := fD') (lD := lD) (sd := v3.1) (st := v3.2) hd hv hne (by rw [upd_at, if_neg (fun z => hne z.symm)]; exact hL)
      refine ⟨fb', lb', fD', lD', v3.1, v3.2, ?_, fun a => by rw [h5 a, if_neg e1], fun a => ?_, fun a b ha hb => ?_, fun a b ha hb => ?_, hs1, hs2⟩
      · unfold R_M_behind
        rw [cd, cv]
        exact ⟨vd, fun _ => ⟨v3, hl, vd, fun z => absurd z e1, fun _ => ⟨vd, _, h4, vv, fun _ => ⟨vd, h1⟩, fun z => absurd e2 z⟩⟩, fun z => absurd z his⟩
      · rw [h2 a, if_pos e2]
        by_cases q : a = d
        · rw [if_pos q, if_pos q, upd_at, if_pos rfl, upd_at, if_neg (fun z => hne z.symm), Int32.zero_or]
        · rw [if_neg q, if_neg q, upd_at, if_neg q]
      · rw [h6 a b ha hb]
        by_cases q : a = d ∧ bt (a_first v) b = true
        · rw [if_pos q, if_pos ⟨q.1, e1, q.2⟩]
        · rw [if_neg q, if_neg (fun z => q ⟨z.1, z.2.2⟩)]
      · rw [h3 a b ha hb, upd_at, if_neg (show ¬ v = d from fun z => hne z.symm), Int32.or_zero, if_neg (show ¬ (a = d ∧ ¬ a_empty v = 0 ∧ bt (a_last d) b = true) from fun z => z.2.1 e2)]
    · obtain ⟨lD1, h8, h9⟩ := M_behind_loop (z_length := z_length) (z_where := z_where) (z_thrown := z_thrown) (z_at := z_at) (z_many := z_many) (z_bad := z_bad) (z_states := z_states) (z_positions := z_positions) (z_now := z_now) (z_fed := z_fed) (z_found := z_found) (z_over := z_over) (a_is := a_is) (a_empty := a_empty) (a_from := a_from) (a_nothing := a_nothing) (a_first := fb') (a_last := a_last) (fD := fD') (sd := v3.1) (st := v3.2) hd hv 30 0 lD (by omega)
      obtain ⟨lb', lD', h1, h2, h3⟩ := M_behind_fin (z_length := z_length) (z_where := z_where) (z_thrown := z_thrown) (z_at := z_at) (z_many := z_many) (z_bad := z_bad) (z_states := z_states) (z_positions := z_positions) (z_now := z_now) (z_fed := z_fed) (z_found := z_found) (z_over := z_over) (a_is := a_is) (a_empty := a_empty) (a_from := a_from) (a_nothing := a_nothing) (a_first := fb') (a_last := a_last) (fD := fD') (lD := lD1) (sd := v3.1) (st := v3.2) hd hv hne hL
      refine ⟨fb', lb', fD', lD', v3.1, v3.2, ?_, fun a => by rw [h5 a, if_neg e1], fun a => ?_, fun a b ha hb => ?_, fun a b ha hb => ?_, hs1, hs2⟩
      · unfold R_M_behind
        rw [cd, cv]
        exact ⟨vd, fun _ => ⟨v3, hl, vd, fun z => absurd z e1, fun _ => ⟨vd, _, h4, vv, fun z => absurd z e2, fun _ => h9 _ h1⟩⟩, fun z => absurd z his⟩
      · rw [h2 a, if_neg e2]
      · rw [h6 a b ha hb]
        by_cases q : a = d ∧ bt (a_first v) b = true
        · rw [if_pos q, if_pos ⟨q.1, e1, q.2⟩]
        · rw [if_neg q, if_neg (fun z => q ⟨z.1, z.2.2⟩)]
      · rw [h3 a b ha hb, Int32.or_zero, h8 v b hv hb, h8 a b ha hb, if_neg (show ¬ (v = d ∧ 0 ≤ b ∧ bt (a_last d) b = true) from fun z => hne z.1.symm)]
        by_cases q : a = d ∧ bt (a_last v) b = true
        · rw [if_pos q, if_pos q]
        · rw [if_neg q, if_neg q]
          by_cases q2 : a = d ∧ bt (a_last d) b = true
          · rw [if_pos ⟨q2.1, by omega, q2.2⟩, if_pos ⟨q2.1, e2, q2.2⟩]
          · rw [if_neg (fun z => q2 ⟨z.1, z.2.2⟩), if_neg (fun z => q2 ⟨z.1, z.2.2⟩)]
theorem R_M_beside_ok {d v : Nat} {z_length z_where z_thrown z_at z_many z_bad z_states z_positions z_now z_fed z_found z_over : Int32} {a_is a_empty a_from a_nothing a_first a_last fD lD : Nat → Int32} (hd : d < 30) (hv : v < 30) (hne : d ≠ v) (his : ¬ a_is d = 0) (hF : ∀ i, 30 ≤ i → bt (a_first v) i = false) (hL : ∀ i, 30 ≤ i → bt (a_last v) i = false) : ∃ fb' lb' fD' lD' : Nat → Int32, R_M_beside (nI d) (nI v) z_length z_where z_thrown z_at z_many z_bad z_states z_positions z_now z_fed z_found z_over a_is a_empty a_from a_nothing a_first a_last fD lD (upd a_is v 0, upd a_empty d (if a_empty d = 0 ∧ a_empty v = 0 then 0 else 1), a_from, upd a_nothing d ((if a_empty d = 0 then 0 else a_nothing d) ||| (if a_empty v = 0 then 0 else a_nothing v)), fb', lb', fD', lD')
    ∧ (∀ a, fb' a = if a = d then a_first d ||| a_first v else a_first a) ∧ (∀ a, lb' a = if a = d then a_last d ||| a_last v else a_last a)
    ∧ (∀ a b, a < 30 → b < 30 → fD' (30 * a + b) = if a = d ∧ bt (a_first v) b = true then fD (30 * v + b) else fD (30 * a + b))
    ∧ ∀ a b, a < 30 → b < 30 → lD' (30 * a + b) = if a = d ∧ bt (a_last v) b = true then lD (30 * v + b) else lD (30 * a + b) := by
  obtain ⟨fb', fD', h1, h2, h3⟩ := R_M_more_first (w := 0) (z_length := z_length) (z_where := z_where) (z_thrown := z_thrown) (z_at := z_at) (z_many := z_many) (z_bad := z_bad) (z_states := z_states) (z_positions := z_positions) (z_now := z_now) (z_fed := z_fed) (z_found := z_found) (z_over := z_over) (a_first := a_first) (a_last := a_last) (fD := fD) (lD := lD) hd hv hne hF
  obtain ⟨lb', lD', h4, h5, h6⟩ := R_M_more_last (w := 0) (z_length := z_length) (z_where := z_where) (z_thrown := z_thrown) (z_at := z_at) (z_many := z_many) (z_bad := z_bad) (z_states := z_states) (z_positions := z_positions) (z_now := z_now) (z_fed := z_fed) (z_found := z_found) (z_over := z_over) (a_first := fb') (a_last := a_last) (fD := fD') (lD := lD) hd hv hne hL
  have cd := nI_clamp (show d < 2 ^ 31 by omega)
  have cv := nI_clamp (show v < 2 ^ 31 by omega)
  have vd := vin30 hd
  have vv := vin30 hv
  refine ⟨fb', lb', fD', lD', ?_, h2, h5, fun a b ha hb => by rw [h3 a b ha hb, Int32.or_zero], fun a b ha hb => by rw [h6 a b ha hb, Int32.or_zero]⟩
  unfold R_M_beside
  rw [cd, cv, nar0, nar1]
  refine ⟨vd, fun _ => ⟨_, h1, _, h4, vd, fun e1 => ⟨vv, fun e2 => ⟨vd, vd, fun z => absurd e1 z, fun _ => ⟨vv, fun _ => ⟨vd, vv, ?_⟩, fun z => absurd e2 z⟩⟩, fun e2 => ⟨vv, vd, vd, fun z => absurd e1 z, fun _ => ⟨vv, fun z => absurd z e2, fun _ => ⟨vd, vv, ?_⟩⟩⟩⟩, fun e1 => ⟨vd, vv, fun e2 => ⟨vd, vd, fun _ => ⟨vd, vv, ?_⟩, fun z => absurd z e1⟩, fun e2 => ⟨vv, vd, vd, fun _ => ⟨vd, vv, ?_⟩, fun z => absurd z e1⟩⟩⟩, fun z => absurd z his⟩
  · rw [if_pos ⟨e1, e2⟩, if_pos e1, if_pos e2]
  · rw [if_neg (show ¬ (a_empty d = 0 ∧ a_empty v = 0) from fun z => e2 z.2), if_pos e1, if_neg e2]
  · rw [if_neg (show ¬ (a_empty d = 0 ∧ a_empty v = 0) from fun z => e1 z.1), if_neg e1, if_pos e2]
  · rw [if_neg (show ¬ (a_empty d = 0 ∧ a_empty v = 0) from fun z => e1 z.1), if_neg e1, if_neg e2]
