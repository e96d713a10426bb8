/-! ===== the model's primitives: more, link, copy, position ===== -/
theorem nar1 : vp_nar .boolean 1 = 1 := rfl
theorem nar0 : vp_nar .boolean 0 = 0 := rfl
theorem nar_b {x : Int32} (h : x = 0 ∨ x = 1) : vp_nar .boolean x = x := by rcases h with rfl | rfl <;> rfl
theorem btF {b : Int32} {k : Nat} (h : ¬ bt b k = true) : bt b k = false := by simpa using h
theorem R_M_more_last {d v : Nat} {w : Int32} {z_length z_where z_thrown z_at z_many z_bad z_states z_positions z_now z_fed z_found z_over : Int32} {a_first a_last fD lD : Nat → Int32} (hd : d < 30) (hv : v < 30) (hne : d ≠ v) (h30 : ∀ i, 30 ≤ i → bt (a_last v) i = false) : ∃ lb' lD' : Nat → Int32, R_M_more (nI d) (nI v) 0 w z_length z_where z_thrown z_at z_many z_bad z_states z_positions z_now z_fed z_found z_over a_first a_last fD lD (a_first, lb', fD, lD') ∧ (∀ a, lb' a = if a = d then a_last d ||| a_last v else a_last a) ∧ ∀ a b, a < 30 → b < 30 → lD' (30 * a + b) = if a = d ∧ bt (a_last v) b = true then lD (30 * v + b) ||| w else lD (30 * a + b) := by
  have key : ∀ (c k : Nat) (lb lD : Nat → Int32), k + c = 30 → lb v = a_last v → ∃ lb' lD' : Nat → Int32, (∃ n, g_M_more (nI d) (nI v) 0 w z_length z_where z_thrown z_at z_many z_bad z_states z_positions z_now z_fed z_found z_over n 1 (nI k) 0 a_first lb fD lD (a_first, lb', fD, lD')) ∧ (∀ a, a ≠ d → lb' a = lb a) ∧ (∀ i, i < 32 → bt (lb' d) i = (bt (lb d) i || (decide (k ≤ i) && bt (a_last v) i))) ∧ ∀ a b, a < 30 → b < 30 → lD' (30 * a + b) = if a = d ∧ k ≤ b ∧ bt (a_last v) b = true then lD (30 * v + b) ||| w else lD (30 * a + b) := by
    intro c
    induction c with
    | zero =>
      intro k lb lD hk hbv
      refine ⟨lb, lD, ⟨1, ?_⟩, fun a _ => rfl, fun i hi => ?_, fun a b _ _ => by rw [if_neg (by omega)]⟩
      · rw [g_M_more_1]
        exact ⟨fun _ => rfl, fun z => absurd (nI_le (a := 30) (by omega) (by omega)) z⟩
      · by_cases h9 : 30 ≤ i
        · rw [h30 i h9, Bool.and_false, Bool.or_false]
        · rw [decide_eq_false (by omega), Bool.false_and, Bool.or_false]
    | succ c ih =>
      intro k lb lD hk hbv
      by_cases hb : bt (a_last v) k = true
      · obtain ⟨lb', lD', ⟨n, h1⟩, h2, h3, h4⟩ := ih (k + 1) (upd lb d (lb d ||| (1 <<< (nI k &&& 31)))) (upd lD (30 * d + k) (lD (30 * v + k) ||| w)) (by omega) (by rw [upd_at, if_neg (fun z => hne z.symm)]; exact hbv)
        refine ⟨lb', lD', ⟨n + 1 + 1, ?_⟩, fun a ha => ?_, fun i hi => ?_, fun a b ha hb9 => ?_⟩
        · rw [g_M_more_1]
          refine ⟨fun z => absurd z (nI_ge (b := 30) (by omega) (by omega)), fun _ => ⟨fun _ => ?_, fun z => absurd rfl z⟩⟩
          rw [nI_clamp (show v < 2 ^ 31 by omega), hbv]
          refine ⟨vin30 hv, ?_⟩
          rw [g_M_more_2]
          refine ⟨_, R_M_has_yes (by omega) hb, fun _ => ⟨fun _ => ?_, fun z => absurd rfl z⟩, fun z => absurd z (by decide)⟩
          rw [ixm, ixm, nI_1, nI_clamp (show d < 2 ^ 31 by omega), nI_clamp (show 30 * d + k < 2 ^ 31 by omega), nI_clamp (show 30 * v + k < 2 ^ 31 by omega)]
          exact ⟨vin30 hd, vin30 hd, vin900 hv (by omega), vin900 hd (by omega), h1⟩
        · rw [h2 a ha, upd_at, if_neg ha]
        · rw [h3 i hi, upd_at, if_pos rfl, b_or, bt_sh (by omega) hi]
          by_cases q : i = k
          · subst q
            rw [hb, decide_eq_true rfl, decide_eq_true (Nat.le_refl _)]
            simp
          · rw [decide_eq_false q, Bool.or_false, show decide (k + 1 ≤ i) = decide (k ≤ i) by rw [decide_eq_decide]; omega]
        · rw [h4 a b ha hb9, upd_at, upd_at, if_neg (show ¬ 30 * v + b = 30 * d + k by omega)]
          by_cases q : a = d ∧ b = k
          · obtain ⟨rfl, rfl⟩ := q
            rw [if_neg (by omega), if_pos rfl, if_pos ⟨rfl, by omega, hb⟩]
          · rw [if_neg (show ¬ 30 * a + b = 30 * d + k by omega)]
            by_cases e2 : a = d ∧ k + 1 ≤ b ∧ bt (a_last v) b = true
            · rw [if_pos e2, if_pos ⟨e2.1, by omega, e2.2.2⟩]
            · rw [if_neg e2, if_neg (fun z => e2 ⟨z.1, by omega, z.2.2⟩)]
      · obtain ⟨lb', lD', ⟨n, h1⟩, h2, h3, h4⟩ := ih (k + 1) lb lD (by omega) hbv
        refine ⟨lb', lD', ⟨n + 1 + 1, ?_⟩, h2, fun i hi => ?_, fun a b ha hb9 => ?_⟩
        · rw [g_M_more_1]
          refine ⟨fun z => absurd z (nI_ge (b := 30) (by omega) (by omega)), fun _ => ⟨fun _ => ?_, fun z => absurd rfl z⟩⟩
          rw [nI_clamp (show v < 2 ^ 31 by omega), hbv]
          refine ⟨vin30 hv, ?_⟩
          rw [g_M_more_2]
          refine ⟨_, R_M_has_no (by omega) (btF hb), fun z => absurd rfl z, fun _ => ?_⟩
          rw [nI_1]
          exact h1
        · rw [h3 i hi]
          by_cases q : i = k
          · subst q
            rw [btF hb, Bool.and_false, Bool.and_false]
          · rw [show decide (k + 1 ≤ i) = decide (k ≤ i) by rw [decide_eq_decide]; omega]
        · rw [h4 a b ha hb9]
          by_cases e2 : a = d ∧ k + 1 ≤ b ∧ bt (a_last v) b = true
          · rw [if_pos e2, if_pos ⟨e2.1, by omega, e2.2.2⟩]
          · rw [if_neg e2, if_neg (fun z => e2 ⟨z.1, Nat.lt_of_le_of_ne z.2.1 (fun q => hb (q ▸ z.2.2)), z.2.2⟩)]
  obtain ⟨lb', lD', h1, h2, h3, h4⟩ := key 30 0 a_last lD (by omega) rfl
  rw [nI_0] at h1
  refine ⟨lb', lD', h1, fun a => ?_, fun a b ha hb => by rw [h4 a b ha hb]; simp⟩
  by_cases q : a = d
  · subst q
    rw [if_pos rfl]
    apply b_ext
    intro i hi
    rw [h3 i hi, b_or]
    simp
  · rw [if_neg q, h2 a q]
theorem R_M_more_first {d v : Nat} {w : Int32} {z_length z_where z_thrown z_at z_many z_bad z_states z_positions z_now z_fed z_found z_over : Int32} {a_first a_last fD lD : Nat → Int32} (hd : d < 30) (hv : v < 30) (hne : d ≠ v) (h30 : ∀ i, 30 ≤ i → bt (a_first v) i = false) : ∃ fb' fD' : Nat → Int32, R_M_more (nI d) (nI v) 1 w z_length z_where z_thrown z_at z_many z_bad z_states z_positions z_now z_fed z_found z_over a_first a_last fD lD (fb', a_last, fD', lD) ∧ (∀ a, fb' a = if a = d then a_first d ||| a_first v else a_first a) ∧ ∀ a b, a < 30 → b < 30 → fD' (30 * a + b) = if a = d ∧ bt (a_first v) b = true then fD (30 * v + b) ||| w else fD (30 * a + b) := by
  have key : ∀ (c k : Nat) (fb fD : Nat → Int32), k + c = 30 → fb v = a_first v → ∃ fb' fD' : Nat → Int32, (∃ n, g_M_more (nI d) (nI v) 1 w z_length z_where z_thrown z_at z_many z_bad z_states z_positions z_now z_fed z_found z_over n 1 (nI k) 0 fb a_last fD lD (fb', a_last, fD', lD)) ∧ (∀ a, a ≠ d → fb' a = fb a) ∧ (∀ i, i < 32 → bt (fb' d) i = (bt (fb d) i || (decide (k ≤ i) && bt (a_first v) i))) ∧ ∀ a b, a < 30 → b < 30 → fD' (30 * a + b) = if a = d ∧ k ≤ b ∧ bt (a_first v) b = true then fD (30 * v + b) ||| w else fD (30 * a + b) := by
    intro c
    induction c with
    | zero =>
      intro k fb fD hk hbv
      refine ⟨fb, fD, ⟨1, ?_⟩, fun a _ => rfl, fun i hi => ?_, fun a b _ _ => by rw [if_neg (by omega)]⟩
      · rw [g_M_more_1]
        exact ⟨fun _ => rfl, fun z => absurd (nI_le (a := 30) (by omega) (by omega)) z⟩
      · by_cases h9 : 30 ≤ i
        · rw [h30 i h9, Bool.and_false, Bool.or_false]
        · rw [decide_eq_false (by omega), Bool.false_and, Bool.or_false]
    | succ c ih =>
      intro k fb fD hk hbv
      by_cases hb : bt (a_first v) k = true
      · obtain ⟨fb', fD', ⟨n, h1⟩, h2, h3, h4⟩ := ih (k + 1) (upd fb d (fb d ||| (1 <<< (nI k &&& 31)))) (upd fD (30 * d + k) (fD (30 * v + k) ||| w)) (by omega) (by rw [upd_at, if_neg (fun z => hne z.symm)]; exact hbv)
        refine ⟨fb', fD', ⟨n + 1 + 1, ?_⟩, fun a ha => ?_, fun i hi => ?_, fun a b ha hb9 => ?_⟩
        · rw [g_M_more_1]
          refine ⟨fun z => absurd z (nI_ge (b := 30) (by omega) (by omega)), fun _ => ⟨fun z => absurd z (by decide), fun _ => ?_⟩⟩
          rw [nI_clamp (show v < 2 ^ 31 by omega), hbv]
          refine ⟨vin30 hv, ?_⟩
          rw [g_M_more_2]
          refine ⟨_, R_M_has_yes (by omega) hb, fun _ => ⟨fun z => absurd z (by decide), fun _ => ?_⟩, fun z => absurd z (by decide)⟩
          rw [ixm, ixm, nI_1, nI_clamp (show d < 2 ^ 31 by omega), nI_clamp (show 30 * d + k < 2 ^ 31 by omega), nI_clamp (show 30 * v + k < 2 ^ 31 by omega)]
          exact ⟨vin30 hd, vin30 hd, vin900 hv (by omega), vin900 hd (by omega), h1⟩
        · rw [h2 a ha, upd_at, if_neg ha]
        · rw [h3 i hi, upd_at, if_pos rfl, b_or, bt_sh (by omega) hi]
          by_cases q : i = k
          · subst q
            rw [hb, decide_eq_true rfl, decide_eq_true (Nat.le_refl _)]
            simp
          · rw [decide_eq_false q, Bool.or_false, show decide (k + 1 ≤ i) = decide (k ≤ i) by rw [decide_eq_decide]; omega]
        · rw [h4 a b ha hb9, upd_at, upd_at, if_neg (show ¬ 30 * v + b = 30 * d + k by omega)]
          by_cases q : a = d ∧ b = k
          · obtain ⟨rfl, rfl⟩ := q
            rw [if_neg (by omega), if_pos rfl, if_pos ⟨rfl, by omega, hb⟩]
          · rw [if_neg (show ¬ 30 * a + b = 30 * d + k by omega)]
            by_cases e2 : a = d ∧ k + 1 ≤ b ∧ bt (a_first v) b = true
            · rw [if_pos e2, if_pos ⟨e2.1, by omega, e2.2.2⟩]
            · rw [if_neg e2, if_neg (fun z => e2 ⟨z.1, by omega, z.2.2⟩)]
      · obtain ⟨fb', fD', ⟨n, h1⟩, h2, h3, h4⟩ := ih (k + 1) fb fD (by omega) hbv
        refine ⟨fb', fD', ⟨n + 1 + 1, ?_⟩, h2, fun i hi => ?_, fun a b ha hb9 => ?_⟩
        · rw [g_M_more_1]
          refine ⟨fun z => absurd z (nI_ge (b := 30) (by omega) (by omega)), fun _ => ⟨fun z => absurd z (by decide), fun _ => ?_⟩⟩
          rw [nI_clamp (show v < 2 ^ 31 by omega), hbv]
          refine ⟨vin30 hv, ?_⟩
          rw [g_M_more_2]
          refine ⟨_, R_M_has_no (by omega) (btF hb), fun z => absurd rfl z, fun _ => ?_⟩
          rw [nI_1]
          exact h1
        · rw [h3 i hi]
          by_cases q : i = k
          · subst q
            rw [btF hb, Bool.and_false, Bool.and_false]
          · rw [show decide (k + 1 ≤ i) = decide (k ≤ i) by rw [decide_eq_decide]; omega]
        · rw [h4 a b ha hb9]
          by_cases e2 : a = d ∧ k + 1 ≤ b ∧ bt (a_first v) b = true
          · rw [if_pos e2, if_pos ⟨e2.1, by omega, e2.2.2⟩]
          · rw [if_neg e2, if_neg (fun z => e2 ⟨z.1, Nat.lt_of_le_of_ne z.2.1 (fun q => hb (q ▸ z.2.2)), z.2.2⟩)]
  obtain ⟨fb', fD', h1, h2, h3, h4⟩ := key 30 0 a_first fD (by omega) rfl
  rw [nI_0] at h1
  refine ⟨fb', fD', h1, fun a => ?_, fun a b ha hb => by rw [h4 a b ha hb]; simp⟩
  by_cases q : a = d
  · subst q
    rw [if_pos rfl]
    apply b_ext
    intro i hi
    rw [h3 i hi, b_or]
    simp
  · rw [if_neg q, h2 a q]
theorem M_link_in {e f x : Nat} {z_length z_where z_thrown z_at z_many z_bad z_states z_positions z_now z_fed z_found z_over : Int32} {a_first a_last a_firstDo a_lastDo : Nat → Int32} (he : e < 30) (hf : f < 30) (hx : x < 30) (hL : bt (a_last e) x = true) : ∀ (c y : Nat) (sd st : Nat → Int32), y + c = 30 → ∃ sd' st' : Nat → Int32, (∀ a b, a < 30 → b < 30 → sd' (30 * a + b) = if a = x ∧ y ≤ b ∧ bt (a_first f) b = true then sd (30 * a + b) ||| (a_lastDo (30 * e + x) ||| a_firstDo (30 * f + b)) else sd (30 * a + b)) ∧ (∀ a b, a < 30 → b < 30 → st' (30 * a + b) = if a = x ∧ y ≤ b ∧ bt (a_first f) b = true then 1 else st (30 * a + b)) ∧ ∀ out, (∃ n, g_M_link (nI e) (nI f) z_length z_where z_thrown z_at z_many z_bad z_states z_positions z_now z_fed z_found z_over a_first a_last a_firstDo a_lastDo n 1 (nI (x + 1)) 0 sd' st' out) → ∃ n, g_M_link (nI e) (nI f) z_length z_where z_thrown z_at z_many z_bad z_states z_positions z_now z_fed z_found z_over a_first a_last a_firstDo a_lastDo n 2 (nI x) (nI y) sd st out := by
  intro c
  induction c with
  | zero =>
    intro y sd st hy
    refine ⟨sd, st, fun a b _ _ => by rw [if_neg (by omega)], fun a b _ _ => by rw [if_neg (by omega)], fun out ⟨n, h⟩ => ⟨n + 1, ?_⟩⟩
    rw [g_M_link_2]
    refine ⟨fun _ => ?_, fun z => absurd (nI_le (a := 30) (by omega) (by omega)) z⟩
    rw [nI_1]
    exact h
  | succ c ih =>
    intro y sd st hy
    by_cases hb : bt (a_first f) y = true
    · obtain ⟨sd', st', h1, h1', h2⟩ := ih (y + 1) (upd sd (30 * x + y) (sd (30 * x + y) ||| (a_lastDo (30 * e + x) ||| a_firstDo (30 * f + y)))) (upd st (30 * x + y) 1) (by omega)
      refine ⟨sd', st', fun a b ha hb9 => ?_, fun a b ha hb9 => ?_, fun out h => ?_⟩
      · rw [h1 a b ha hb9, upd_at]
        by_cases q : a = x ∧ b = y
        · obtain ⟨rfl, rfl⟩ := q
          rw [if_neg (by omega), if_pos rfl, if_pos ⟨rfl, by omega, hb⟩]
        · rw [if_neg (show ¬ 30 * a + b = 30 * x + y by omega)]
          by_cases e2 : a = x ∧ y + 1 ≤ b ∧ bt (a_first f) b = true
          · rw [if_pos e2, if_pos ⟨e2.1, by omega, e2.2.2⟩]
          · rw [if_neg e2, if_neg (fun z => e2 ⟨z.1, by omega, z.2.2⟩)]
      · rw [h1' a b ha hb9, upd_at]
        by_cases q : a = x ∧ b = y
        · obtain ⟨rfl, rfl⟩ := q
          rw [if_neg (by omega), if_pos rfl, if_pos ⟨rfl, by omega, hb⟩]
        · rw [if_neg (show ¬ 30 * a + b = 30 * x + y by omega)]
          by_cases e2 : a = x ∧ y + 1 ≤ b ∧ bt (a_first f) b = true
          · rw [if_pos e2, if_pos ⟨e2.1, by omega, e2.2.2⟩]
          · rw [if_neg e2, if_neg (fun z => e2 ⟨z.1, by omega, z.2.2⟩)]
      · obtain ⟨n, h⟩ := h2 out h
        refine ⟨n + 1, ?_⟩
        rw [g_M_link_2]
        refine ⟨fun z => absurd z (nI_ge (b := 30) (by omega) (by omega)), fun _ => ?_⟩
        rw [ixm, ixm, ixm, nI_1 y, nI_clamp (show e < 2 ^ 31 by omega), nI_clamp (show f < 2 ^ 31 by omega), nI_clamp (show 30 * x + y < 2 ^ 31 by omega), nI_clamp (show 30 * e + x < 2 ^ 31 by omega), nI_clamp (show 30 * f + y < 2 ^ 31 by omega), nar1]
        exact ⟨vin30 he, _, R_M_has_yes (by omega) hL, fun z => absurd z (by decide), fun _ => ⟨vin30 hf, _, R_M_has_yes (by omega) hb, fun _ => ⟨vin900 hx (by omega), vin900 hx (by omega), vin900 he (by omega), vin900 hf (by omega), vin900 hx (by omega), h⟩, fun z => absurd z (by decide)⟩⟩
    · obtain ⟨sd', st', h1, h1', h2⟩ := ih (y + 1) sd st (by omega)
      refine ⟨sd', st', fun a b ha hb9 => ?_, fun a b ha hb9 => ?_, fun out h => ?_⟩
      · rw [h1 a b ha hb9]
        by_cases e2 : a = x ∧ y + 1 ≤ b ∧ bt (a_first f) b = true
        · rw [if_pos e2, if_pos ⟨e2.1, by omega, e2.2.2⟩]
        · rw [if_neg e2, if_neg (fun z => e2 ⟨z.1, Nat.lt_of_le_of_ne z.2.1 (fun q => hb (q ▸ z.2.2)), z.2.2⟩)]
      · rw [h1' a b ha hb9]
        by_cases e2 : a = x ∧ y + 1 ≤ b ∧ bt (a_first f) b = true
        · rw [if_pos e2, if_pos ⟨e2.1, by omega, e2.2.2⟩]
        · rw [if_neg e2, if_neg (fun z => e2 ⟨z.1, Nat.lt_of_le_of_ne z.2.1 (fun q => hb (q ▸ z.2.2)), z.2.2⟩)]
      · obtain ⟨n, h⟩ := h2 out h
        refine ⟨n + 1, ?_⟩
        rw [g_M_link_2]
        refine ⟨fun z => absurd z (nI_ge (b := 30) (by omega) (by omega)), fun _ => ?_⟩
        rw [nI_clamp (show e < 2 ^ 31 by omega), nI_clamp (show f < 2 ^ 31 by omega)]
        refine ⟨vin30 he, _, R_M_has_yes (by omega) hL, fun z => absurd z (by decide), fun _ => ⟨vin30 hf, _, R_M_has_no (by omega) (btF hb), fun z => absurd rfl z, fun _ => ?_⟩⟩
        rw [nI_1]
        exact h
theorem R_M_link_ok {e f : Nat} {z_length z_where z_thrown z_at z_many z_bad z_states z_positions z_now z_fed z_found z_over : Int32} {a_first a_last a_firstDo a_lastDo sd st : Nat → Int32} (he : e < 30) (hf : f < 30) : ∃ v, R_M_link (nI e) (nI f) z_length z_where z_thrown z_at z_many z_bad z_states z_positions z_now z_fed z_found z_over a_first a_last a_firstDo a_lastDo sd st v ∧ (∀ a b, a < 30 → b < 30 → v.1 (30 * a + b) = if bt (a_last e) a = true ∧ bt (a_first f) b = true then sd (30 * a + b) ||| (a_lastDo (30 * e + a) ||| a_firstDo (30 * f + b)) else sd (30 * a + b)) ∧ ∀ a b, a < 30 → b < 30 → v.2 (30 * a + b) = if bt (a_last e) a = true ∧ bt (a_first f) b = true then 1 else st (30 * a + b) := by
  have key : ∀ (c x : Nat) (sd st : Nat → Int32), x + c = 30 → ∃ v, (∃ n, g_M_link (nI e) (nI f) z_length z_where z_thrown z_at z_many z_bad z_states z_positions z_now z_fed z_found z_over a_first a_last a_firstDo a_lastDo n 1 (nI x) 0 sd st v) ∧ (∀ a b, a < 30 → b < 30 → v.1 (30 * a + b) = if x ≤ a ∧ bt (a_last e) a = true ∧ bt (a_first f) b = true then sd (30 * a + b) ||| (a_lastDo (30 * e + a) ||| a_firstDo (30 * f + b)) else sd (30 * a + b)) ∧ ∀ a b, a < 30 → b < 30 → v.2 (30 * a + b) = if x ≤ a ∧ bt (a_last e) a = true ∧ bt (a_first f) b = true then 1 else st (30 * a + b) := by
    intro c
    induction c with
    | zero =>
      intro x sd st hx
      refine ⟨(sd, st), ⟨1, ?_⟩, fun a b _ _ => by rw [if_neg (by omega)], fun a b _ _ => by rw [if_neg (by omega)]⟩
      rw [g_M_link_1]
      exact ⟨fun _ => rfl, fun z => absurd (nI_le (a := 30) (by omega) (by omega)) z⟩
    | succ c ih =>
      intro x sd st hx
      by_cases hb : bt (a_last e) x = true
      · obtain ⟨sd', st', h1, h1', h2⟩ := M_link_in (f := f) (z_length := z_length) (z_where := z_where) (z_thrown := z_thrown) (z_at := z_at) (z_many := z_many) (z_bad := z_bad) (z_states := z_states) (z_positions := z_positions) (z_now := z_now) (z_fed := z_fed) (z_found := z_found) (z_over := z_over) (a_first := a_first) (a_firstDo := a_firstDo) (a_lastDo := a_lastDo) he hf (show x < 30 by omega) hb 30 0 sd st (by omega)
        obtain ⟨v, h3, h4, h5⟩ := ih (x + 1) sd' st' (by omega)
        obtain ⟨n, h6⟩ := h2 v h3
        refine ⟨v, ⟨n + 1, ?_⟩, fun a b ha hb9 => ?_, fun a b ha hb9 => ?_⟩
        · rw [g_M_link_1]
          exact ⟨fun z => absurd z (nI_ge (b := 30) (by omega) (by omega)), fun _ => h6⟩
        · rw [h4 a b ha hb9, h1 a b ha hb9]
          by_cases q : a = x
          · subst q
            rw [if_neg (by omega)]
            by_cases e2 : a = a ∧ 0 ≤ b ∧ bt (a_first f) b = true
            · rw [if_pos e2, if_pos ⟨by omega, hb, e2.2.2⟩]
            · rw [if_neg e2, if_neg (fun z => e2 ⟨rfl, by omega, z.2.2⟩)]
          · rw [if_neg (show ¬ (a = x ∧ 0 ≤ b ∧ bt (a_first f) b = true) from fun z => q z.1)]
            by_cases e2 : x + 1 ≤ a ∧ bt (a_last e) a = true ∧ bt (a_first f) b = true
            · rw [if_pos e2, if_pos ⟨by omega, e2.2⟩]
            · rw [if_neg e2, if_neg (fun z => e2 ⟨by omega, z.2⟩)]
        · rw [h5 a b ha hb9, h1' a b ha hb9]
          by_cases q : a = x
          · subst q
            rw [if_neg (by omega)]
            by_cases e2 : a = a ∧ 0 ≤ b ∧ bt (a_first f) b = true
            · rw [if_pos e2, if_pos ⟨by omega, hb, e2.2.2⟩]
            · rw [if_neg e2, if_neg (fun z => e2 ⟨rfl, by omega, z.2.2⟩)]
          · rw [if_neg (show ¬ (a = x ∧ 0 ≤ b ∧ bt (a_first f) b = true) from fun z => q z.1)]
            by_cases e2 : x + 1 ≤ a ∧ bt (a_last e) a = true ∧ bt (a_first f) b = true
            · rw [if_pos e2, if_pos ⟨by omega, e2.2⟩]
            · rw [if_neg e2, if_neg (fun z => e2 ⟨by omega, z.2⟩)]
      · obtain ⟨v, ⟨n, h3⟩, h4, h5⟩ := ih (x + 1) sd st (by omega)
        refine ⟨v, ⟨n + 1 + 1, ?_⟩, fun a b ha hb9 => ?_, fun a b ha hb9 => ?_⟩
        · rw [g_M_link_1]
          refine ⟨fun z => absurd z (nI_ge (b := 30) (by omega) (by omega)), fun _ => ?_⟩
          rw [g_M_link_2]
          refine ⟨fun z => absurd z (nI_ge (a := 0) (b := 30) (by omega) (by omega)), fun _ => ?_⟩
          rw [nI_clamp (show e < 2 ^ 31 by omega)]
          refine ⟨vin30 he, _, R_M_has_no (by omega) (btF hb), fun _ => ?_, fun z => absurd rfl z⟩
          rw [nI_1]
          exact h3
        · rw [h4 a b ha hb9]
          by_cases e2 : x + 1 ≤ a ∧ bt (a_last e) a = true ∧ bt (a_first f) b = true
          · rw [if_pos e2, if_pos ⟨by omega, e2.2⟩]
          · rw [if_neg e2, if_neg (fun z => e2 ⟨Nat.lt_of_le_of_ne z.1 (fun q => hb (q ▸ z.2.1)), z.2⟩)]
        · rw [h5 a b ha hb9]
          by_cases e2 : x + 1 ≤ a ∧ bt (a_last e) a = true ∧ bt (a_first f) b = true
          · rw [if_pos e2, if_pos ⟨by omega, e2.2⟩]
          · rw [if_neg e2, if_neg (fun z => e2 ⟨Nat.lt_of_le_of_ne z.1 (fun q => hb (q ▸ z.2.1)), z.2⟩)]
  obtain ⟨v, h1, h2, h3⟩ := key 30 0 sd st (by omega)
  rw [nI_0] at h1
  exact ⟨v, h1, fun a b ha hb => by rw [h2 a b ha hb]; simp, fun a b ha hb => by rw [h3 a b ha hb]; simp⟩
theorem R_M_copy_ok {d v : Nat} {z_length z_where z_thrown z_at z_many z_bad z_states z_positions z_now z_fed z_found z_over : Int32} {a_is a_empty a_from a_nothing a_first a_last fD lD : Nat → Int32} (hd : d < 30) (hv : v < 30) (hne : d ≠ v) (he : a_empty v = 0 ∨ a_empty v = 1) : ∃ fD' lD' : Nat → Int32, R_M_copy (nI d) (nI v) z_length z_where z_thrown z_at z_many z_bad z_states z_positions z_now z_fed z_found z_over a_is a_empty a_from a_nothing a_first a_last fD lD (upd (upd a_is d 1) v 0, upd a_empty d (a_empty v), upd a_from d (a_from v), upd a_nothing d (a_nothing v), upd a_first d (a_first v), upd a_last d (a_last v), fD', lD') ∧ (∀ a b, a < 30 → b < 30 → fD' (30 * a + b) = if a = d then fD (30 * v + b) else fD (30 * a + b)) ∧ ∀ a b, a < 30 → b < 30 → lD' (30 * a + b) = if a = d then lD (30 * v + b) else lD (30 * a + b) := by
  have key : ∀ (c k : Nat) (fD lD : Nat → Int32), k + c = 30 → ∃ fD' lD' : Nat → Int32, (∃ n, g_M_copy (nI d) (nI v) z_length z_where z_thrown z_at z_many z_bad z_states z_positions z_now z_fed z_found z_over n 1 (nI k) (upd a_is d 1) (upd a_empty d (a_empty v)) (upd a_from d (a_from v)) (upd a_nothing d (a_nothing v)) (upd a_first d (a_first v)) (upd a_last d (a_last v)) fD lD (upd (upd a_is d 1) v 0, upd a_empty d (a_empty v), upd a_from d (a_from v), upd a_nothing d (a_nothing v), upd a_first d (a_first v), upd a_last d (a_last v), fD', lD')) ∧ (∀ a b, a < 30 → b < 30 → fD' (30 * a + b) = if a = d ∧ k ≤ b then fD (30 * v + b) else fD (30 * a + b)) ∧ ∀ a b, a < 30 → b < 30 → lD' (30 * a + b) = if a = d ∧ k ≤ b then lD (30 * v + b) else lD (30 * a + b) := by
    intro c
    induction c with
    | zero =>
      intro k fD lD hk
      refine ⟨fD, lD, ⟨1, ?_⟩, fun a b _ _ => by rw [if_neg (by omega)], fun a b _ _ => by rw [if_neg (by omega)]⟩
      rw [g_M_copy_1]
      refine ⟨fun _ => ⟨vin30 hv, ?_⟩, fun z => absurd (nI_le (a := 30) (by omega) (by omega)) z⟩
      rw [nI_clamp (by omega), nar0]
    | succ c ih =>
      intro k fD lD hk
      obtain ⟨fD', lD', ⟨n, h1⟩, h2, h3⟩ := ih (k + 1) (upd fD (30 * d + k) (fD (30 * v + k))) (upd lD (30 * d + k) (lD (30 * v + k))) (by omega)
      refine ⟨fD', lD', ⟨n + 1, ?_⟩, fun a b ha hb => ?_, fun a b ha hb => ?_⟩
      · rw [g_M_copy_1]
        refine ⟨fun z => absurd z (nI_ge (b := 30) (by omega) (by omega)), fun _ => ?_⟩
        rw [ixm, ixm, nI_1, nI_clamp (show 30 * d + k < 2 ^ 31 by omega), nI_clamp (show 30 * v + k < 2 ^ 31 by omega)]
        exact ⟨vin900 hv (by omega), vin900 hd (by omega), vin900 hv (by omega), vin900 hd (by omega), h1⟩
      · rw [h2 a b ha hb, upd_at, upd_at, if_neg (show ¬ 30 * v + b = 30 * d + k by omega)]
        by_cases q : a = d ∧ b = k
        · obtain ⟨rfl, rfl⟩ := q
          rw [if_neg (by omega), if_pos rfl, if_pos ⟨rfl, by omega⟩]
        · rw [if_neg (show ¬ 30 * a + b = 30 * d + k by omega)]
          by_cases e2 : a = d ∧ k + 1 ≤ b
          · rw [if_pos e2, if_pos ⟨e2.1, by omega⟩]
          · rw [if_neg e2, if_neg (by omega)]
      · rw [h3 a b ha hb, upd_at, upd_at, if_neg (show ¬ 30 * v + b = 30 * d + k by omega)]
        by_cases q : a = d ∧ b = k
        · obtain ⟨rfl, rfl⟩ := q
          rw [if_neg (by omega), if_pos rfl, if_pos ⟨rfl, by omega⟩]
        · rw [if_neg (show ¬ 30 * a + b = 30 * d + k by omega)]
          by_cases e2 : a = d ∧ k + 1 ≤ b
          · rw [if_pos e2, if_pos ⟨e2.1, by omega⟩]
          · rw [if_neg e2, if_neg (by omega)]
  obtain ⟨fD', lD', h1, h2, h3⟩ := key 30 0 fD lD (by omega)
  refine ⟨fD', lD', ?_, fun a b ha hb => by rw [h2 a b ha hb]; simp, fun a b ha hb => by rw [h3 a b ha hb]; simp⟩
  unfold R_M_copy
  rw [nI_clamp (show d < 2 ^ 31 by omega), nI_clamp (show v < 2 ^ 31 by omega), nar1, nar_b he]
  exact ⟨vin30 hd, vin30 hv, vin30 hd, vin30 hv, vin30 hd, vin30 hv, vin30 hd, vin30 hv, vin30 hd, vin30 hv, vin30 hd, h1⟩
theorem R_M_position_ok {v m : Nat} {l : Int32} {z_length z_where z_thrown z_at z_bad z_states z_positions z_now z_fed z_found z_over : Int32} {a_is a_empty a_from a_nothing a_first a_last fD lD lt sd st : Nat → Int32} (hv : v < 30) (hm : m < 30) : ∃ sd' st' : Nat → Int32, R_M_position (nI v) l z_length z_where z_thrown z_at z_bad z_states z_positions z_now z_fed z_found z_over (nI m) a_is a_empty a_from a_nothing a_first a_last fD lD lt sd st (nI (m + 1), upd a_is v 1, upd a_empty v 0, upd a_from v (nI m), upd a_nothing v 0, upd a_first v (1 <<< (nI m &&& 31)), upd a_last v (1 <<< (nI m &&& 31)), upd fD (30 * v + m) 0, upd lD (30 * v + m) 0, upd lt m l, sd', st') ∧ (∀ a b, a < 30 → b < 30 → sd' (30 * a + b) = if a = m ∨ b = m then 0 else sd (30 * a + b)) ∧ ∀ a b, a < 30 → b < 30 → st' (30 * a + b) = if a = m ∨ b = m then 0 else st (30 * a + b) := by
  have key : ∀ (c k : Nat) (sd st : Nat → Int32), k + c = 30 → ∃ sd' st' : Nat → Int32, (∃ n, g_M_position (nI v) l z_length z_where z_thrown z_at z_bad z_states z_positions z_now z_fed z_found z_over n 1 (nI k) (nI m) (upd a_is v 1) (upd a_empty v 0) (upd a_from v (nI m)) (upd a_nothing v 0) (upd a_first v (1 <<< (nI m &&& 31))) (upd a_last v (1 <<< (nI m &&& 31))) (upd fD (30 * v + m) 0) (upd lD (30 * v + m) 0) (upd lt m l) sd st (nI (m + 1), upd a_is v 1, upd a_empty v 0, upd a_from v (nI m), upd a_nothing v 0, upd a_first v (1 <<< (nI m &&& 31)), upd a_last v (1 <<< (nI m &&& 31)), upd fD (30 * v + m) 0, upd lD (30 * v + m) 0, upd lt m l, sd', st')) ∧ (∀ a b, a < 30 → b < 30 → sd' (30 * a + b) = if (a = m ∧ k ≤ b) ∨ (b = m ∧ k ≤ a) then 0 else sd (30 * a + b)) ∧ ∀ a b, a < 30 → b < 30 → st' (30 * a + b) = if (a = m ∧ k ≤ b) ∨ (b = m ∧ k ≤ a) then 0 else st (30 * a + b) := by
    intro c
    induction c with
    | zero =>
      intro k sd st hk
      refine ⟨sd, st, ⟨1, ?_⟩, fun a b _ _ => by rw [if_neg (by omega)], fun a b _ _ => by rw [if_neg (by omega)]⟩
      rw [g_M_position_1]
      refine ⟨fun _ => ?_, fun z => absurd (nI_le (a := 30) (by omega) (by omega)) z⟩
      rw [nI_1]
    | succ c ih =>
      intro k sd st hk
      obtain ⟨sd', st', ⟨n, h1⟩, h2, h3⟩ := ih (k + 1) (upd (upd sd (30 * m + k) 0) (30 * k + m) 0) (upd (upd st (30 * m + k) 0) (30 * k + m) 0) (by omega)
      refine ⟨sd', st', ⟨n + 1, ?_⟩, fun a b ha hb => ?_, fun a b ha hb => ?_⟩
      · rw [g_M_position_1]
        refine ⟨fun z => absurd z (nI_ge (b := 30) (by omega) (by omega)), fun _ => ?_⟩
        rw [ixm, ixm, nI_1, nI_clamp (show 30 * m + k < 2 ^ 31 by omega), nI_clamp (show 30 * k + m < 2 ^ 31 by omega), nar0]
        exact ⟨vin900 hm (by omega), vin900 (by omega) hm, vin900 hm (by omega), vin900 (by omega) hm, h1⟩
      · rw [h2 a b ha hb, upd_at, upd_at]
        by_cases q1 : a = k ∧ b = m
        · rw [if_pos (show 30 * a + b = 30 * k + m by omega), if_pos (show (a = m ∧ k ≤ b) ∨ (b = m ∧ k ≤ a) by omega), ite_self]
        · rw [if_neg (show ¬ 30 * a + b = 30 * k + m by omega)]
          by_cases q2 : a = m ∧ b = k
          · rw [if_pos (show 30 * a + b = 30 * m + k by omega), if_pos (show (a = m ∧ k ≤ b) ∨ (b = m ∧ k ≤ a) by omega), ite_self]
          · rw [if_neg (show ¬ 30 * a + b = 30 * m + k by omega)]
            by_cases e2 : (a = m ∧ k + 1 ≤ b) ∨ (b = m ∧ k + 1 ≤ a)
            · rw [if_pos e2, if_pos (by omega)]
            · rw [if_neg e2, if_neg (by omega)]
      · rw [h3 a b ha hb, upd_at, upd_at]
        by_cases q1 : a = k ∧ b = m
        · rw [if_pos (show 30 * a + b = 30 * k + m by omega), if_pos (show (a = m ∧ k ≤ b) ∨ (b = m ∧ k ≤ a) by omega), ite_self]
        · rw [if_neg (show ¬ 30 * a + b = 30 * k + m by omega)]
          by_cases q2 : a = m ∧ b = k
          · rw [if_pos (show 30 * a + b = 30 * m + k by omega), if_pos (show (a = m ∧ k ≤ b) ∨ (b = m ∧ k ≤ a) by omega), ite_self]
          · rw [if_neg (show ¬ 30 * a + b = 30 * m + k by omega)]
            by_cases e2 : (a = m ∧ k + 1 ≤ b) ∨ (b = m ∧ k + 1 ≤ a)
            · rw [if_pos e2, if_pos (by omega)]
            · rw [if_neg e2, if_neg (by omega)]
  obtain ⟨sd', st', h1, h2, h3⟩ := key 30 0 sd st (by omega)
  refine ⟨sd', st', ?_, fun a b ha hb => by rw [h2 a b ha hb]; simp, fun a b ha hb => by rw [h3 a b ha hb]; simp⟩
  unfold R_M_position
  rw [ixm, nI_clamp (show v < 2 ^ 31 by omega), nI_clamp (show m < 2 ^ 31 by omega), nI_clamp (show 30 * v + m < 2 ^ 31 by omega), nar1, nar0]
  exact ⟨vin30 hv, vin30 hv, vin30 hv, vin30 hv, vin30 hv, vin30 hv, vin900 hv hm, vin900 hv hm, vin30 hm, h1⟩
