/-! ===== one way of a state: the class's findWay, the model's reach ===== -/
theorem orS_bit {m : Int32} {f : Nat → Int32} {b : Nat} : ∀ n, bt (orS m f n) b = true ↔ ∃ q, q < n ∧ bt m q = true ∧ bt (f q) b = true := by
  intro n
  induction n with
  | zero =>
    refine ⟨fun h => ?_, fun ⟨q, h, _⟩ => by omega⟩
    rw [show orS m f 0 = 0 from rfl, b_0] at h
    exact absurd h (by decide)
  | succ n ih =>
    show bt (if bt m n = true then orS m f n ||| f n else orS m f n) b = true ↔ _
    by_cases e : bt m n = true
    · rw [if_pos e, b_or, Bool.or_eq_true, ih]
      constructor
      · rintro (⟨q, h1, h2⟩ | h)
        · exact ⟨q, by omega, h2⟩
        · exact ⟨n, by omega, e, h⟩
      · rintro ⟨q, h1, h2, h3⟩
        by_cases z : q = n
        · exact Or.inr (z ▸ h3)
        · exact Or.inl ⟨q, by omega, h2, h3⟩
    · rw [if_neg e, ih]
      constructor
      · rintro ⟨q, h1, h2⟩
        exact ⟨q, by omega, h2⟩
      · rintro ⟨q, h1, h2, h3⟩
        by_cases z : q = n
        · exact absurd (z ▸ h2) e
        · exact ⟨q, by omega, h2, h3⟩
theorem eq_of_bits {x y : Int32} (h : ∀ i, i < 32 → (bt x i = true ↔ bt y i = true)) : x = y := b_ext (fun i hi => Bool.eq_iff_iff.mpr (h i hi))
theorem findWay_loop {P s l : Nat} {ncc ns : Int32} {wl fa sp sa se wy wa : Nat → Int32} {q0 : Nat} {pf : Nat → PT} (hP : P ≤ 30) (hs : s < 50) (hl : l < 4) : ∀ (c x : Nat) (X A : Int32), x + c = P → ∃ X' A' : Int32, (∀ y, bt X' y = true ↔ bt X y = true ∨ ∃ q, x ≤ q ∧ q < P ∧ bt (se s) q = true ∧ bt (sp q) y = true ∧ bt (wl l) y = true)
    ∧ (∀ b, bt A' b = true ↔ bt A b = true ∨ ∃ q, x ≤ q ∧ q < P ∧ bt (se s) q = true ∧ ∃ y, y < P ∧ bt (sp q) y = true ∧ bt (wl l) y = true ∧ bt (sa (30 * q + y)) b = true)
    ∧ ∀ out, (∃ n, g_Mach_findWay (nI s) (nI l) (nI P) ncc (nI P) wl fa sp sa q0 pf n 1 X' A' (nI P) ns se wy wa out) → ∃ n, g_Mach_findWay (nI s) (nI l) (nI P) ncc (nI P) wl fa sp sa q0 pf n 1 X A (nI x) ns se wy wa out := by
  intro c
  induction c with
  | zero =>
    intro x X A hx
    have e : x = P := by omega
    subst e
    exact ⟨X, A, fun y => ⟨Or.inl, fun h => h.elim id (fun ⟨q, h1, h2, _⟩ => by omega)⟩, fun b => ⟨Or.inl, fun h => h.elim id (fun ⟨q, h1, h2, _⟩ => by omega)⟩, fun out h => h⟩
  | succ c ih =>
    intro x X A hx
    have vs : vp_in (nI s) 50 := vp_in_nI hs (by decide)
    have cs := nI_clamp (show s < 2 ^ 31 by omega)
    by_cases hb : bt (se s) x = true
    · have e30 : nI x * 30 = nI (30 * x) := by rw [show (30 : Int32) = nI 30 from rfl, pk_mul, Nat.mul_comm]
      obtain ⟨X', A', h1, h2, h3⟩ := ih (x + 1) (X ||| (sp x &&& wl l)) (A ||| orS (sp x &&& wl l) (fun q => sa (30 * x + q)) P) (by omega)
      refine ⟨X', A', fun y => ?_, fun b => ?_, fun out h => ?_⟩
      · rw [h1 y, b_or, Bool.or_eq_true, b_and, Bool.and_eq_true]
        constructor
        · rintro ((h | h) | ⟨q, k1, k2, k3⟩)
          · exact Or.inl h
          · exact Or.inr ⟨x, Nat.le_refl _, by omega, hb, h⟩
          · exact Or.inr ⟨q, by omega, k2, k3⟩
        · rintro (h | ⟨q, k1, k2, k3, k4⟩)
          · exact Or.inl (Or.inl h)
          · by_cases z : q = x
            · subst z; exact Or.inl (Or.inr k4)
            · exact Or.inr ⟨q, by omega, k2, k3, k4⟩
      · rw [h2 b, b_or, Bool.or_eq_true, orS_bit]
        constructor
        · rintro ((h | ⟨y, k1, k2, k3⟩) | ⟨q, k1, k2, k3⟩)
          · exact Or.inl h
          · rw [b_and, Bool.and_eq_true] at k2
            exact Or.inr ⟨x, Nat.le_refl _, by omega, hb, y, k1, k2.1, k2.2, k3⟩
          · exact Or.inr ⟨q, by omega, k2, k3⟩
        · rintro (h | ⟨q, k1, k2, k3, y, k4, k5, k6, k7⟩)
          · exact Or.inl (Or.inl h)
          · by_cases z : q = x
            · subst z; exact Or.inl (Or.inr ⟨y, k4, by rw [b_and, k5, k6]; rfl, k7⟩)
            · exact Or.inr ⟨q, by omega, k2, k3, y, k4, k5, k6, k7⟩
      · obtain ⟨n, h⟩ := h3 out h
        refine ⟨n + 1, ?_⟩
        rw [g_Mach_findWay_1, cs, nI_1, nI_clamp (show x < 2 ^ 31 by omega), nI_clamp (show l < 2 ^ 31 by omega)]
        refine ⟨fun z => absurd z (nI_ge (by omega) (by omega)), fun _ => ⟨vs, fun z => ?_, fun _ => ⟨vin30 (by omega), vp_in_nI hl (by decide), (orS (sp x &&& wl l) (fun q => sa (30 * x + q)) P, ()), ⟨_, by rw [e30]; exact R_Net_together_ok hP (by omega) (by decide), rfl⟩, h⟩⟩⟩
        rw [bt_test (se s) (by omega), hb] at z
        exact absurd z (by decide)
    · obtain ⟨X', A', h1, h2, h3⟩ := ih (x + 1) X A (by omega)
      refine ⟨X', A', fun y => ?_, fun b => ?_, fun out h => ?_⟩
      · rw [h1 y]
        refine or_congr Iff.rfl ⟨fun ⟨q, k1, k2⟩ => ⟨q, by omega, k2⟩, fun ⟨q, k1, k2, k3, k4⟩ => ?_⟩
        by_cases z : q = x
        · subst z; exact absurd k3 hb
        · exact ⟨q, by omega, k2, k3, k4⟩
      · rw [h2 b]
        refine or_congr Iff.rfl ⟨fun ⟨q, k1, k2⟩ => ⟨q, by omega, k2⟩, fun ⟨q, k1, k2, k3, k4⟩ => ?_⟩
        by_cases z : q = x
        · subst z; exact absurd k3 hb
        · exact ⟨q, by omega, k2, k3, k4⟩
      · obtain ⟨n, h⟩ := h3 out h
        refine ⟨n + 1, ?_⟩
        rw [g_Mach_findWay_1, cs, nI_1]
        refine ⟨fun z => absurd z (nI_ge (by omega) (by omega)), fun _ => ⟨vs, fun _ => h, fun z => ?_⟩⟩
        exact absurd ((bt_test (se s) (by omega)).mpr (btF hb)) z
def KM (P s : Nat) (F0 S : Int32) (st : Nat → Int32) (i : Nat) : Prop := (s = 0 ∧ bt F0 i = true) ∨ (0 < s ∧ ∃ q, q < P ∧ bt S q = true ∧ ¬ st (30 * q + i) = 0)
def KA (P s : Nat) (F0 S : Int32) (fD sd st : Nat → Int32) (i b : Nat) : Prop := (s = 0 ∧ bt F0 i = true ∧ bt (fD i) b = true) ∨ (0 < s ∧ ∃ q, q < P ∧ bt S q = true ∧ (¬ st (30 * q + i) = 0) ∧ bt (sd (30 * q + i)) b = true)
theorem reach_in {P s y : Nat} {p2 : Int32} {z_length z_where z_thrown z_at z_bad z_states z_positions z_now z_fed z_over : Int32} {F fD lt sd st set : Nat → Int32} (hP : P ≤ 30) (hs : s < 51) (hs0 : 0 < s) (hy : y < P) : ∀ (c x : Nat) (X A : Int32), x + c = P → ∃ X' A' : Int32, (∀ i, i < 32 → (bt X' i = true ↔ bt X i = true ∨ (i = y ∧ ∃ q, x ≤ q ∧ q < P ∧ bt (set s) q = true ∧ ¬ st (30 * q + y) = 0)))
    ∧ (∀ b, b < 32 → (bt A' b = true ↔ bt A b = true ∨ ∃ q, x ≤ q ∧ q < P ∧ bt (set s) q = true ∧ (¬ st (30 * q + y) = 0) ∧ bt (sd (30 * q + y)) b = true))
    ∧ ∀ out, (∃ n, g_M_reach (nI s) p2 z_length z_where z_thrown z_at (nI P) z_bad z_states z_positions z_now z_fed z_over F fD lt sd st set n 1 X' (nI (y + 1)) 0 A' out) → ∃ n, g_M_reach (nI s) p2 z_length z_where z_thrown z_at (nI P) z_bad z_states z_positions z_now z_fed z_over F fD lt sd st set n 2 X (nI y) (nI x) A out := by
  intro c
  induction c with
  | zero =>
    intro x X A hx
    refine ⟨X, A, fun y _ => ⟨Or.inl, fun h => h.elim id (fun ⟨_, q, h1, h2, _⟩ => by omega)⟩, fun b _ => ⟨Or.inl, fun h => h.elim id (fun ⟨q, h1, h2, _⟩ => by omega)⟩, fun out ⟨n, h⟩ => ⟨n + 1, ?_⟩⟩
    rw [g_M_reach_2, nI_1]
    exact ⟨fun _ => h, fun z => absurd (nI_le (by omega) (by omega)) z⟩
  | succ c ih =>
    intro x X A hx
    have vs : vp_in (nI s) 51 := vp_in_nI hs (by decide)
    have cs := nI_clamp (show s < 2 ^ 31 by omega)
    have n0 : ¬ nI s ≤ 0 := nI_nle hs0 (by omega)
    have cx := nI_clamp (show 30 * x + y < 2 ^ 31 by omega)
    by_cases hb : bt (set s) x = true
    · by_cases h0 : st (30 * x + y) = 0
      · obtain ⟨X', A', h1, h2, h3⟩ := ih (x + 1) X A (by omega)
        refine ⟨X', A', fun i hi => ?_, fun b hb9 => ?_, fun out h => ?_⟩
        · rw [h1 i hi]
          refine or_congr Iff.rfl (and_congr Iff.rfl ⟨fun ⟨q, k1, k2⟩ => ⟨q, by omega, k2⟩, fun ⟨q, k1, k2, k3, k4⟩ => ?_⟩)
          by_cases z : q = x
          · subst z; exact absurd h0 k4
          · exact ⟨q, by omega, k2, k3, k4⟩
        · rw [h2 b hb9]
          refine or_congr Iff.rfl ⟨fun ⟨q, k1, k2⟩ => ⟨q, by omega, k2⟩, fun ⟨q, k1, k2, k3, k4, k5⟩ => ?_⟩
          by_cases z : q = x
          · subst z; exact absurd h0 k4
          · exact ⟨q, by omega, k2, k3, k4, k5⟩
        · obtain ⟨n, h⟩ := h3 out h
          refine ⟨n + 1, ?_⟩
          rw [g_M_reach_2, cs, ixm, cx, nI_1 x]
          exact ⟨fun z => absurd z (nI_ge (by omega) (by omega)), fun _ => ⟨fun z => absurd z n0, fun _ => ⟨vs, _, R_M_has_yes (by omega) hb, fun z => absurd z (by decide), fun _ => ⟨vin900 (by omega) (by omega), fun z => absurd h0 z, fun _ => h⟩⟩⟩⟩
      · obtain ⟨X', A', h1, h2, h3⟩ := ih (x + 1) (X ||| (1 <<< (nI y &&& 31))) (A ||| sd (30 * x + y)) (by omega)
        refine ⟨X', A', fun i hi => ?_, fun b hb9 => ?_, fun out h => ?_⟩
        · rw [h1 i hi, b_or, Bool.or_eq_true, bt_sh (by omega) hi, decide_eq_true_eq]
          constructor
          · rintro ((h | h) | ⟨k0, q, k1, k2⟩)
            · exact Or.inl h
            · exact Or.inr ⟨h, x, Nat.le_refl _, by omega, hb, h0⟩
            · exact Or.inr ⟨k0, q, by omega, k2⟩
          · rintro (h | ⟨k0, _⟩)
            · exact Or.inl (Or.inl h)
            · exact Or.inl (Or.inr k0)
        · rw [h2 b hb9, b_or, Bool.or_eq_true]
          constructor
          · rintro ((h | h) | ⟨q, k1, k2⟩)
            · exact Or.inl h
            · exact Or.inr ⟨x, Nat.le_refl _, by omega, hb, h0, h⟩
            · exact Or.inr ⟨q, by omega, k2⟩
          · rintro (h | ⟨q, k1, k2, k3, k4, k5⟩)
            · exact Or.inl (Or.inl h)
            · by_cases z : q = x
              · subst z; exact Or.inl (Or.inr k5)
              · exact Or.inr ⟨q, by omega, k2, k3, k4, k5⟩
        · obtain ⟨n, h⟩ := h3 out h
          refine ⟨n + 1, ?_⟩
          rw [g_M_reach_2, cs, ixm, cx, nI_1 x]
          exact ⟨fun z => absurd z (nI_ge (by omega) (by omega)), fun _ => ⟨fun z => absurd z n0, fun _ => ⟨vs, _, R_M_has_yes (by omega) hb, fun z => absurd z (by decide), fun _ => ⟨vin900 (by omega) (by omega), fun _ => ⟨vin900 (by omega) (by omega), h⟩, fun z => absurd z h0⟩⟩⟩⟩
    · obtain ⟨X', A', h1, h2, h3⟩ := ih (x + 1) X A (by omega)
      refine ⟨X', A', fun i hi => ?_, fun b hb9 => ?_, fun out h => ?_⟩
      · rw [h1 i hi]
        refine or_congr Iff.rfl (and_congr Iff.rfl ⟨fun ⟨q, k1, k2⟩ => ⟨q, by omega, k2⟩, fun ⟨q, k1, k2, k3, k4⟩ => ?_⟩)
        by_cases z : q = x
        · subst z; exact absurd k3 hb
        · exact ⟨q, by omega, k2, k3, k4⟩
      · rw [h2 b hb9]
        refine or_congr Iff.rfl ⟨fun ⟨q, k1, k2⟩ => ⟨q, by omega, k2⟩, fun ⟨q, k1, k2, k3, k4, k5⟩ => ?_⟩
        by_cases z : q = x
        · subst z; exact absurd k3 hb
        · exact ⟨q, by omega, k2, k3, k4, k5⟩
      · obtain ⟨n, h⟩ := h3 out h
        refine ⟨n + 1, ?_⟩
        rw [g_M_reach_2, cs, nI_1 x]
        exact ⟨fun z => absurd z (nI_ge (by omega) (by omega)), fun _ => ⟨fun z => absurd z n0, fun _ => ⟨vs, _, R_M_has_no (by omega) (btF hb), fun _ => h, fun z => absurd rfl z⟩⟩⟩
theorem reach_pos {P s l y : Nat} {z_length z_where z_thrown z_at z_bad z_states z_positions z_now z_fed z_over : Int32} {F fD lt sd st set : Nat → Int32} (hP : P ≤ 30) (hs : s < 51) (hl : l < 4) (hy : y < P) (X A : Int32) : ∃ X' A' : Int32, (∀ i, i < 32 → (bt X' i = true ↔ bt X i = true ∨ (i = y ∧ bt (lt y) l = true ∧ KM P s (F 0) (set s) st y)))
    ∧ (∀ b, b < 32 → (bt A' b = true ↔ bt A b = true ∨ (bt (lt y) l = true ∧ KA P s (F 0) (set s) fD sd st y b)))
    ∧ ∀ out, (∃ n, g_M_reach (nI s) (nI l) z_length z_where z_thrown z_at (nI P) z_bad z_states z_positions z_now z_fed z_over F fD lt sd st set n 1 X' (nI (y + 1)) 0 A' out) → ∃ n, g_M_reach (nI s) (nI l) z_length z_where z_thrown z_at (nI P) z_bad z_states z_positions z_now z_fed z_over F fD lt sd st set n 1 X (nI y) 0 A out := by
  have cy := nI_clamp (show y < 2 ^ 31 by omega)
  have vy : vp_in (nI y) 30 := vin30 (by omega)
  have ngo : ¬ nI P ≤ nI y := nI_ge (by omega) (by omega)
  by_cases hlt : bt (lt y) l = true
  · by_cases h0 : s = 0
    · subst h0
      have skip : ∀ (X' A' : Int32) out, (∃ n, g_M_reach (nI 0) (nI l) z_length z_where z_thrown z_at (nI P) z_bad z_states z_positions z_now z_fed z_over F fD lt sd st set n 1 X' (nI (y + 1)) 0 A' out) → ∃ n, g_M_reach (nI 0) (nI l) z_length z_where z_thrown z_at (nI P) z_bad z_states z_positions z_now z_fed z_over F fD lt sd st set n 2 X' (nI y) 0 A' out := by
        intro X' A' out ⟨n, h⟩
        refine ⟨n + 1, ?_⟩
        rw [g_M_reach_2, nI_1 y]
        exact ⟨fun _ => h, fun _ => ⟨fun _ => h, fun z => absurd (by decide) z⟩⟩
      have z9 : (0 : Int32).toNatClampNeg = 0 := by decide
      by_cases hF : bt (F 0) y = true
      · refine ⟨X ||| (1 <<< (nI y &&& 31)), A ||| fD y, fun i hi => ?_, fun b hb => ?_, fun out h => ?_⟩
        · rw [b_or, Bool.or_eq_true, bt_sh (by omega) hi, decide_eq_true_eq]
          exact or_congr Iff.rfl ⟨fun h => ⟨h, hlt, Or.inl ⟨rfl, hF⟩⟩, fun h => h.1⟩
        · rw [b_or, Bool.or_eq_true]
          refine or_congr Iff.rfl ⟨fun h => ⟨hlt, Or.inl ⟨rfl, hF, h⟩⟩, fun h => ?_⟩
          rcases h.2 with q | q
          · exact q.2.2
          · exact absurd q.1 (by omega)
        · obtain ⟨n, h⟩ := skip _ _ out h
          refine ⟨n + 1, ?_⟩
          rw [g_M_reach_1, cy, z9]
          exact ⟨fun z => absurd z ngo, fun _ => ⟨vy, _, R_M_has_yes (by omega) hlt, fun _ => ⟨fun z => absurd nI_0 z, fun _ => ⟨vin30 (x := 0) (by omega), _, R_M_has_yes (by omega) hF, fun z => absurd z (by decide), fun _ => ⟨vp_in_nI (by omega) (by decide), h⟩⟩⟩, fun z => absurd z (by decide)⟩⟩
      · refine ⟨X, A, fun i hi => ?_, fun b hb => ?_, fun out h => ?_⟩
        · refine ⟨Or.inl, fun h => h.elim id (fun h => ?_)⟩
          rcases h.2.2 with q | q
          · exact absurd q.2 hF
          · exact absurd q.1 (by omega)
        · refine ⟨Or.inl, fun h => h.elim id (fun h => ?_)⟩
          rcases h.2 with q | q
          · exact absurd q.2.1 hF
          · exact absurd q.1 (by omega)
        · obtain ⟨n, h⟩ := skip _ _ out h
          refine ⟨n + 1, ?_⟩
          rw [g_M_reach_1, cy, z9]
          exact ⟨fun z => absurd z ngo, fun _ => ⟨vy, _, R_M_has_yes (by omega) hlt, fun _ => ⟨fun z => absurd nI_0 z, fun _ => ⟨vin30 (x := 0) (by omega), _, R_M_has_no (by omega) (btF hF), fun _ => h, fun z => absurd rfl z⟩⟩, fun z => absurd z (by decide)⟩⟩
    · have hs0 : 0 < s := by omega
      obtain ⟨X', A', h1, h2, h3⟩ := reach_in (p2 := nI l) (z_length := z_length) (z_where := z_where) (z_thrown := z_thrown) (z_at := z_at) (z_bad := z_bad) (z_states := z_states) (z_positions := z_positions) (z_now := z_now) (z_fed := z_fed) (z_over := z_over) (F := F) (fD := fD) (lt := lt) (sd := sd) (st := st) (set := set) hP hs hs0 hy P 0 X A (by omega)
      refine ⟨X', A', fun i hi => ?_, fun b hb => ?_, fun out h => ?_⟩
      · rw [h1 i hi]
        refine or_congr Iff.rfl ⟨fun ⟨k0, q, k1, k2⟩ => ⟨k0, hlt, Or.inr ⟨hs0, q, k2⟩⟩, fun ⟨k0, _, k⟩ => ?_⟩
        rcases k with k | ⟨_, q, k⟩
        · exact absurd k.1 h0
        · exact ⟨k0, q, by omega, k⟩
      · rw [h2 b hb]
        refine or_congr Iff.rfl ⟨fun ⟨q, k1, k2⟩ => ⟨hlt, Or.inr ⟨hs0, q, k2⟩⟩, fun ⟨_, k⟩ => ?_⟩
        rcases k with k | ⟨_, q, k⟩
        · exact absurd k.1 h0
        · exact ⟨q, by omega, k⟩
      · obtain ⟨n, h⟩ := h3 out h
        rw [nI_0] at h
        refine ⟨n + 1, ?_⟩
        rw [g_M_reach_1, cy]
        exact ⟨fun z => absurd z ngo, fun _ => ⟨vy, _, R_M_has_yes (by omega) hlt, fun _ => ⟨fun _ => h, fun z => absurd z (nI_ne0 hs0 (by omega))⟩, fun z => absurd z (by decide)⟩⟩
  · refine ⟨X, A, fun i _ => ⟨Or.inl, fun h => h.elim id (fun h => absurd h.2.1 hlt)⟩, fun b _ => ⟨Or.inl, fun h => h.elim id (fun h => absurd h.1 hlt)⟩, fun out ⟨n, h⟩ => ⟨n + 1, ?_⟩⟩
    rw [g_M_reach_1, cy, nI_1 y]
    exact ⟨fun z => absurd z ngo, fun _ => ⟨vy, _, R_M_has_no (by omega) (btF hlt), fun z => absurd rfl z, fun _ => h⟩⟩
theorem R_M_reach_ok {P s l : Nat} {z_length z_where z_thrown z_at z_bad z_states z_positions z_now z_fed z_over : Int32} {z_found : Int32} {F fD lt sd st set : Nat → Int32} (hP : P ≤ 30) (hs : s < 51) (hl : l < 4) : ∃ X A : Int32, R_M_reach (nI s) (nI l) z_length z_where z_thrown z_at (nI P) z_bad z_states z_positions z_now z_fed z_over F fD lt sd st set z_found (X, A) ∧ (∀ i, i < 32 → (bt X i = true ↔ i < P ∧ bt (lt i) l = true ∧ KM P s (F 0) (set s) st i)) ∧ ∀ b, b < 32 → (bt A b = true ↔ ∃ i, i < P ∧ bt (lt i) l = true ∧ KA P s (F 0) (set s) fD sd st i b) := by
  have key : ∀ (c y : Nat) (X A : Int32), y + c = P → ∃ X' A' : Int32, (∃ n, g_M_reach (nI s) (nI l) z_length z_where z_thrown z_at (nI P) z_bad z_states z_positions z_now z_fed z_over F fD lt sd st set n 1 X (nI y) 0 A (X', A')) ∧ (∀ i, i < 32 → (bt X' i = true ↔ bt X i = true ∨ (y ≤ i ∧ i < P ∧ bt (lt i) l = true ∧ KM P s (F 0) (set s) st i))) ∧ ∀ b, b < 32 → (bt A' b = true ↔ bt A b = true ∨ ∃ i, y ≤ i ∧ i < P ∧ bt (lt i) l = true ∧ KA P s (F 0) (set s) fD sd st i b) := by
    intro c
    induction c with
    | zero =>
      intro y X A hy
      refine ⟨X, A, ⟨1, ?_⟩, fun i _ => ⟨Or.inl, fun h => h.elim id (fun h => by omega)⟩, fun b _ => ⟨Or.inl, fun h => h.elim id (fun ⟨i, h1, h2, _⟩ => by omega)⟩⟩
      rw [g_M_reach_1]
      exact ⟨fun _ => rfl, fun z => absurd (nI_le (by omega) (by omega)) z⟩
    | succ c ih =>
      intro y X A hy
      obtain ⟨X1, A1, h1, h2, h3⟩ := reach_pos (z_length := z_length) (z_where := z_where) (z_thrown := z_thrown) (z_at := z_at) (z_bad := z_bad) (z_states := z_states) (z_positions := z_positions) (z_now := z_now) (z_fed := z_fed) (z_over := z_over) (F := F) (fD := fD) (lt := lt) (sd := sd) (st := st) (set := set) hP hs hl (show y < P by omega) X A
      obtain ⟨X2, A2, h4, h5, h6⟩ := ih (y + 1) X1 A1 (by omega)
      refine ⟨X2, A2, h3 _ h4, fun i hi => ?_, fun b hb => ?_⟩
      · rw [h5 i hi, h1 i hi]
        constructor
        · rintro ((h | ⟨rfl, h⟩) | ⟨k1, k⟩)
          · exact Or.inl h
          · exact Or.inr ⟨Nat.le_refl _, by omega, h⟩
          · exact Or.inr ⟨by omega, k⟩
        · rintro (h | ⟨k1, k2, k⟩)
          · exact Or.inl (Or.inl h)
          · by_cases z : i = y
            · subst z; exact Or.inl (Or.inr ⟨rfl, k⟩)
            · exact Or.inr ⟨by omega, k2, k⟩
      · rw [h6 b hb, h2 b hb]
        constructor
        · rintro ((h | h) | ⟨i, k1, k⟩)
          · exact Or.inl h
          · exact Or.inr ⟨y, Nat.le_refl _, by omega, h⟩
          · exact Or.inr ⟨i, by omega, k⟩
        · rintro (h | ⟨i, k1, k2, k⟩)
          · exact Or.inl (Or.inl h)
          · by_cases z : i = y
            · subst z; exact Or.inl (Or.inr k)
            · exact Or.inr ⟨i, by omega, k2, k⟩
  obtain ⟨X, A, h1, h2, h3⟩ := key P 0 0 0 (by omega)
  rw [nI_0] at h1
  refine ⟨X, A, h1, fun i hi => ?_, fun b hb => ?_⟩
  · rw [h2 i hi, b_0]
    exact ⟨fun h => h.elim (fun z => absurd z (by decide)) (fun h => h.2), fun h => Or.inr ⟨by omega, h⟩⟩
  · rw [h3 b hb, b_0]
    exact ⟨fun h => h.elim (fun z => absurd z (by decide)) (fun ⟨i, _, h⟩ => ⟨i, h⟩), fun ⟨i, h⟩ => Or.inr ⟨i, by omega, h⟩⟩
