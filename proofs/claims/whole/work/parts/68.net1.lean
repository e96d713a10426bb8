/-! ===== the class's net: link, giveSteps, addPosition ===== -/
theorem ixc (x y : Nat) : nI x * 30 + nI y = nI (30 * x + y) := by rw [show (30 : Int32) = nI 30 from rfl, pk_mul, nI_add, Nat.mul_comm]
theorem ixm (x y : Nat) : 30 * nI x + nI y = nI (30 * x + y) := by rw [show (30 : Int32) = nI 30 from rfl, pk_mul, nI_add]
theorem vin30 {x : Nat} (h : x < 30) : vp_in (nI x) 30 := vp_in_nI h (by decide)
theorem vin900 {x y : Nat} (h : x < 30) (h2 : y < 30) : vp_in (nI (30 * x + y)) 900 := vp_in_nI (by omega) (by decide)
theorem upd_at {f : Nat → Int32} {k i : Nat} {v : Int32} : upd f k v i = if i = k then v else f i := rfl
theorem Net_link_in {L F : Int32} {P x : Nat} {fa la sp : Nat → Int32} {r : Int32} (hP : P ≤ 30) (hx : x < P) : ∀ (c y : Nat) (sa : Nat → Int32), y + c = P → ∃ sa', (∀ a b, a < 30 → b < 30 → sa' (30 * a + b) = if a = x ∧ y ≤ b ∧ b < P ∧ bt r b = true then sa (30 * a + b) ||| (la x ||| fa b) else sa (30 * a + b)) ∧ ∀ out, (∃ n, g_Net_link L F (nI P) fa la n 1 (nI (x + 1)) 0 0 sp sa' out) → ∃ n, g_Net_link L F (nI P) fa la n 2 (nI x) r (nI y) sp sa out := by
  intro c
  induction c with
  | zero =>
    intro y sa hy
    refine ⟨sa, fun a b _ _ => by rw [if_neg (by omega)], fun out ⟨n, h⟩ => ⟨n + 1, ?_⟩⟩
    rw [g_Net_link_2]
    refine ⟨fun _ => ?_, fun z => absurd (nI_le (by omega) (by omega)) z⟩
    rw [nI_1]
    exact h
  | succ c ih =>
    intro y sa hy
    by_cases hb : bt r y = true
    · obtain ⟨sa', h1, h2⟩ := ih (y + 1) (upd sa (30 * x + y) (sa (30 * x + y) ||| (la x ||| fa y))) (by omega)
      refine ⟨sa', fun a b ha hb9 => ?_, fun out h => ?_⟩
      · rw [h1 a b ha hb9, upd_at]
        by_cases e : a = x ∧ b = y
        · obtain ⟨rfl, rfl⟩ := e
          rw [if_neg (by omega), if_pos rfl, if_pos ⟨rfl, by omega, by omega, hb⟩]
        · rw [if_neg (show ¬ 30 * a + b = 30 * x + y by omega)]
          by_cases e2 : a = x ∧ y + 1 ≤ b ∧ b < P ∧ bt r b = true
          · rw [if_pos e2, if_pos ⟨e2.1, by omega, e2.2.2⟩]
          · rw [if_neg e2, if_neg (fun z => e2 ⟨z.1, by omega, z.2.2⟩)]
      · obtain ⟨n, h⟩ := h2 out h
        refine ⟨n + 1, ?_⟩
        rw [g_Net_link_2]
        refine ⟨fun z => absurd z (nI_ge (by omega) (by omega)), fun _ => ⟨fun z => ?_, fun _ => ?_⟩⟩
        · rw [bt_test r (by omega), hb] at z
          exact absurd z (by decide)
        · rw [ixc, nI_1, nI_clamp (by omega), nI_clamp (by omega), nI_clamp (by omega)]
          exact ⟨vin900 (by omega) (by omega), vin30 (by omega), vin30 (by omega), vin900 (by omega) (by omega), h⟩
    · obtain ⟨sa', h1, h2⟩ := ih (y + 1) sa (by omega)
      refine ⟨sa', fun a b ha hb9 => ?_, fun out h => ?_⟩
      · rw [h1 a b ha hb9]
        by_cases e2 : a = x ∧ y + 1 ≤ b ∧ b < P ∧ bt r b = true
        · rw [if_pos e2, if_pos ⟨e2.1, by omega, e2.2.2⟩]
        · rw [if_neg e2, if_neg (fun z => e2 ⟨z.1, Nat.lt_of_le_of_ne z.2.1 (fun q => hb (q ▸ z.2.2.2)), z.2.2⟩)]
      · obtain ⟨n, h⟩ := h2 out h
        refine ⟨n + 1, ?_⟩
        rw [g_Net_link_2]
        refine ⟨fun z => absurd z (nI_ge (by omega) (by omega)), fun _ => ⟨fun z => ?_, fun z => ?_⟩⟩
        · rw [nI_1]; exact h
        · rw [bt_test r (by omega)] at z
          exact absurd (Bool.not_eq_false _ ▸ z) hb
theorem R_Net_link_ok {L F : Int32} {P : Nat} {fa la sp sa : Nat → Int32} (hP : P ≤ 30) : ∃ v, R_Net_link L F (nI P) fa la sp sa v ∧ (∀ a, a < 30 → v.1 a = if a < P ∧ bt L a = true then sp a ||| F else sp a) ∧ ∀ a b, a < 30 → b < 30 → v.2 (30 * a + b) = if a < P ∧ b < P ∧ bt L a = true ∧ bt F b = true then sa (30 * a + b) ||| (la a ||| fa b) else sa (30 * a + b) := by
  have key : ∀ (c x : Nat) (sp sa : Nat → Int32), x + c = P → ∃ v, (∃ n, g_Net_link L F (nI P) fa la n 1 (nI x) 0 0 sp sa v) ∧ (∀ a, a < 30 → v.1 a = if x ≤ a ∧ a < P ∧ bt L a = true then sp a ||| F else sp a) ∧ ∀ a b, a < 30 → b < 30 → v.2 (30 * a + b) = if x ≤ a ∧ a < P ∧ b < P ∧ bt L a = true ∧ bt F b = true then sa (30 * a + b) ||| (la a ||| fa b) else sa (30 * a + b) := by
    intro c
    induction c with
    | zero =>
      intro x sp sa hx
      refine ⟨(sp, sa), ⟨1, ?_⟩, fun a _ => by rw [if_neg (by omega)], fun a b _ _ => by rw [if_neg (by omega)]⟩
      rw [g_Net_link_1]
      exact ⟨fun _ => rfl, fun z => absurd (nI_le (by omega) (by omega)) z⟩
    | succ c ih =>
      intro x sp sa hx
      by_cases hb : bt L x = true
      · obtain ⟨sa', h1, h2⟩ := Net_link_in (L := L) (F := F) (fa := fa) (la := la) (sp := upd sp x (sp x ||| F)) (r := F) hP (show x < P by omega) P 0 sa (by omega)
        obtain ⟨v, h3, h4, h5⟩ := ih (x + 1) (upd sp x (sp x ||| F)) sa' (by omega)
        obtain ⟨n, h6⟩ := h2 v h3
        refine ⟨v, ⟨n + 1, ?_⟩, fun a ha => ?_, fun a b ha hb9 => ?_⟩
        · rw [g_Net_link_1]
          refine ⟨fun z => absurd z (nI_ge (by omega) (by omega)), fun _ => ⟨fun z => ?_, fun _ => ?_⟩⟩
          · rw [bt_test L (by omega), hb] at z
            exact absurd z (by decide)
          · rw [nI_clamp (by omega)]
            exact ⟨vin30 (by omega), vin30 (by omega), h6⟩
        · rw [h4 a ha, upd_at]
          by_cases e : a = x
          · subst e
            rw [if_neg (by omega), if_pos rfl, if_pos ⟨by omega, by omega, hb⟩]
          · rw [if_neg e]
            by_cases e2 : x + 1 ≤ a ∧ a < P ∧ bt L a = true
            · rw [if_pos e2, if_pos ⟨by omega, e2.2⟩]
            · rw [if_neg e2, if_neg (fun z => e2 ⟨by omega, z.2⟩)]
        · rw [h5 a b ha hb9, h1 a b ha hb9]
          by_cases e : a = x
          · subst e
            rw [if_neg (by omega)]
            by_cases e2 : a = a ∧ 0 ≤ b ∧ b < P ∧ bt F b = true
            · rw [if_pos e2, if_pos ⟨by omega, by omega, e2.2.2.1, hb, e2.2.2.2⟩]
            · rw [if_neg e2, if_neg (fun z => e2 ⟨rfl, by omega, z.2.2.1, z.2.2.2.2⟩)]
          · rw [if_neg (show ¬ (a = x ∧ 0 ≤ b ∧ b < P ∧ bt F b = true) from fun z => e z.1)]
            by_cases e2 : x + 1 ≤ a ∧ a < P ∧ b < P ∧ bt L a = true ∧ bt F b = true
            · rw [if_pos e2, if_pos ⟨by omega, e2.2⟩]
            · rw [if_neg e2, if_neg (fun z => e2 ⟨by omega, z.2⟩)]
      · obtain ⟨sa', h1, h2⟩ := Net_link_in (L := L) (F := F) (fa := fa) (la := la) (sp := upd sp x (sp x ||| 0)) (r := 0) hP (show x < P by omega) P 0 sa (by omega)
        obtain ⟨v, h3, h4, h5⟩ := ih (x + 1) (upd sp x (sp x ||| 0)) sa' (by omega)
        obtain ⟨n, h6⟩ := h2 v h3
        refine ⟨v, ⟨n + 1, ?_⟩, fun a ha => ?_, fun a b ha hb9 => ?_⟩
        · rw [g_Net_link_1]
          refine ⟨fun z => absurd z (nI_ge (by omega) (by omega)), fun _ => ⟨fun _ => ?_, fun z => ?_⟩⟩
          · rw [nI_clamp (by omega)]
            exact ⟨vin30 (by omega), vin30 (by omega), h6⟩
          · rw [bt_test L (by omega)] at z
            exact absurd (Bool.not_eq_false _ ▸ z) hb
        · rw [h4 a ha, upd_at]
          by_cases e : a = x
          · subst e
            rw [if_neg (by omega), if_pos rfl, if_neg (fun z => hb z.2.2), Int32.or_zero]
          · rw [if_neg e]
            by_cases e2 : x + 1 ≤ a ∧ a < P ∧ bt L a = true
            · rw [if_pos e2, if_pos ⟨by omega, e2.2⟩]
            · rw [if_neg e2, if_neg (fun z => e2 ⟨by omega, z.2⟩)]
        · rw [h5 a b ha hb9, h1 a b ha hb9, if_neg (show ¬ (a = x ∧ 0 ≤ b ∧ b < P ∧ bt 0 b = true) from fun z => by rw [b_0] at z; exact absurd z.2.2.2 (by decide))]
          by_cases e2 : x + 1 ≤ a ∧ a < P ∧ b < P ∧ bt L a = true ∧ bt F b = true
          · rw [if_pos e2, if_pos ⟨by omega, e2.2⟩]
          · rw [if_neg e2, if_neg (fun z => e2 ⟨Nat.lt_of_le_of_ne z.1 (fun q => hb (q ▸ z.2.2.2.1)), z.2⟩)]
  obtain ⟨v, h1, h2, h3⟩ := key P 0 sp sa (by omega)
  rw [nI_0] at h1
  exact ⟨v, h1, fun a ha => by rw [h2 a ha]; simp, fun a b ha hb => by rw [h3 a b ha hb]; simp⟩
theorem Net_giveSteps_in {f T b : Int32} {P x : Nat} {sp : Nat → Int32} {r : Int32} (hP : P ≤ 30) (hx : x < P) : ∀ (c y : Nat) (sa : Nat → Int32), y + c = P → ∃ sa', (∀ a d, a < 30 → d < 30 → sa' (30 * a + d) = if a = x ∧ y ≤ d ∧ d < P ∧ bt r d = true then sa (30 * a + d) ||| b else sa (30 * a + d)) ∧ ∀ out, (∃ n, g_Net_giveSteps f T b (nI P) sp n 1 (nI (x + 1)) 0 0 sa' out) → ∃ n, g_Net_giveSteps f T b (nI P) sp n 2 (nI x) r (nI y) sa out := by
  intro c
  induction c with
  | zero =>
    intro y sa hy
    refine ⟨sa, fun a d _ _ => by rw [if_neg (by omega)], fun out ⟨n, h⟩ => ⟨n + 1, ?_⟩⟩
    rw [g_Net_giveSteps_2]
    refine ⟨fun _ => ?_, fun z => absurd (nI_le (by omega) (by omega)) z⟩
    rw [nI_1]
    exact h
  | succ c ih =>
    intro y sa hy
    by_cases hb : bt r y = true
    · obtain ⟨sa', h1, h2⟩ := ih (y + 1) (upd sa (30 * x + y) (sa (30 * x + y) ||| b)) (by omega)
      refine ⟨sa', fun a d ha hd => ?_, fun out h => ?_⟩
      · rw [h1 a d ha hd, upd_at]
        by_cases e : a = x ∧ d = y
        · obtain ⟨rfl, rfl⟩ := e
          rw [if_neg (by omega), if_pos rfl, if_pos ⟨rfl, by omega, by omega, hb⟩]
        · rw [if_neg (show ¬ 30 * a + d = 30 * x + y by omega)]
          by_cases e2 : a = x ∧ y + 1 ≤ d ∧ d < P ∧ bt r d = true
          · rw [if_pos e2, if_pos ⟨e2.1, by omega, e2.2.2⟩]
          · rw [if_neg e2, if_neg (fun z => e2 ⟨z.1, by omega, z.2.2⟩)]
      · obtain ⟨n, h⟩ := h2 out h
        refine ⟨n + 1, ?_⟩
        rw [g_Net_giveSteps_2]
        refine ⟨fun z => absurd z (nI_ge (by omega) (by omega)), fun _ => ⟨fun z => ?_, fun _ => ?_⟩⟩
        · rw [bt_test r (by omega), hb] at z
          exact absurd z (by decide)
        · rw [ixc, nI_1, nI_clamp (by omega)]
          exact ⟨vin900 (by omega) (by omega), vin900 (by omega) (by omega), h⟩
    · obtain ⟨sa', h1, h2⟩ := ih (y + 1) sa (by omega)
      refine ⟨sa', fun a d ha hd => ?_, fun out h => ?_⟩
      · rw [h1 a d ha hd]
        by_cases e2 : a = x ∧ y + 1 ≤ d ∧ d < P ∧ bt r d = true
        · rw [if_pos e2, if_pos ⟨e2.1, by omega, e2.2.2⟩]
        · rw [if_neg e2, if_neg (fun z => e2 ⟨z.1, Nat.lt_of_le_of_ne z.2.1 (fun q => hb (q ▸ z.2.2.2)), z.2.2⟩)]
      · obtain ⟨n, h⟩ := h2 out h
        refine ⟨n + 1, ?_⟩
        rw [g_Net_giveSteps_2]
        refine ⟨fun z => absurd z (nI_ge (by omega) (by omega)), fun _ => ⟨fun z => ?_, fun z => ?_⟩⟩
        · rw [nI_1]; exact h
        · rw [bt_test r (by omega)] at z
          exact absurd (Bool.not_eq_false _ ▸ z) hb
theorem R_Net_giveSteps_ok {f P : Nat} {T b : Int32} {sp sa : Nat → Int32} (hP : P ≤ 30) (hf : f ≤ P) : ∃ v, R_Net_giveSteps (nI f) T b (nI P) sp sa v ∧ ∀ a d, a < 30 → d < 30 → v (30 * a + d) = if f ≤ a ∧ a < P ∧ f ≤ d ∧ d < P ∧ bt (sp a) d = true ∧ bt T d = true then sa (30 * a + d) ||| b else sa (30 * a + d) := by
  have key : ∀ (c x : Nat) (sa : Nat → Int32), x + c = P → ∃ v, (∃ n, g_Net_giveSteps (nI f) T b (nI P) sp n 1 (nI x) 0 0 sa v) ∧ ∀ a d, a < 30 → d < 30 → v (30 * a + d) = if x ≤ a ∧ a < P ∧ f ≤ d ∧ d < P ∧ bt (sp a) d = true ∧ bt T d = true then sa (30 * a + d) ||| b else sa (30 * a + d) := by
    intro c
    induction c with
    | zero =>
      intro x sa hx
      refine ⟨sa, ⟨1, ?_⟩, fun a d _ _ => by rw [if_neg (by omega)]⟩
      rw [g_Net_giveSteps_1]
      exact ⟨fun _ => rfl, fun z => absurd (nI_le (by omega) (by omega)) z⟩
    | succ c ih =>
      intro x sa hx
      obtain ⟨sa', h1, h2⟩ := Net_giveSteps_in (f := nI f) (T := T) (b := b) (sp := sp) (r := sp x &&& T) hP (show x < P by omega) (P - f) f sa (by omega)
      obtain ⟨v, h3, h5⟩ := ih (x + 1) sa' (by omega)
      obtain ⟨n, h6⟩ := h2 v h3
      refine ⟨v, ⟨n + 1, ?_⟩, fun a d ha hd => ?_⟩
      · rw [g_Net_giveSteps_1]
        refine ⟨fun z => absurd z (nI_ge (by omega) (by omega)), fun _ => ⟨vin30 (by omega), ?_⟩⟩
        rw [nI_clamp (by omega)]
        exact h6
      · rw [h5 a d ha hd, h1 a d ha hd]
        by_cases e : a = x
        · subst e
          rw [if_neg (by omega)]
          by_cases e2 : a = a ∧ f ≤ d ∧ d < P ∧ bt (sp a &&& T) d = true
          · rw [if_pos e2]
            have e3 := e2.2.2.2
            rw [b_and, Bool.and_eq_true] at e3
            rw [if_pos ⟨by omega, by omega, e2.2.1, e2.2.2.1, e3⟩]
          · rw [if_neg e2, if_neg (fun z => e2 ⟨rfl, z.2.2.1, z.2.2.2.1, by rw [b_and, Bool.and_eq_true]; exact z.2.2.2.2⟩)]
        · rw [if_neg (show ¬ (a = x ∧ f ≤ d ∧ d < P ∧ bt (sp x &&& T) d = true) from fun z => e z.1)]
          by_cases e2 : x + 1 ≤ a ∧ a < P ∧ f ≤ d ∧ d < P ∧ bt (sp a) d = true ∧ bt T d = true
          · rw [if_pos e2, if_pos ⟨by omega, e2.2⟩]
          · rw [if_neg e2, if_neg (fun z => e2 ⟨by omega, z.2⟩)]
  obtain ⟨v, h1, h2⟩ := key (P - f) f sa (by omega)
  exact ⟨v, h1, h2⟩
theorem R_Arrays_fillR_ok {P : Nat} {sa : Nat → Int32} (hP : P < 30) : ∃ v, R_Arrays_fillR (nI P * 30) ((nI P + 1) * 30) 0 900 sa v ∧ ∀ i, v i = if 30 * P ≤ i ∧ i < 30 * P + 30 then 0 else sa i := by
  have e1 : nI P * 30 = nI (30 * P) := by rw [show (30 : Int32) = nI 30 from rfl, pk_mul, Nat.mul_comm]
  have e2 : (nI P + 1) * 30 = nI (30 * P + 30) := by rw [nI_1, show (30 : Int32) = nI 30 from rfl, pk_mul]; congr 1; omega
  rw [e1, e2]
  have key : ∀ (c k : Nat) (f : Nat → Int32), k + c = 30 * P + 30 → ∃ v, (∃ n, g_Arrays_fillR (nI (30 * P)) (nI (30 * P + 30)) 0 900 n 1 (nI k) f v) ∧ ∀ i, v i = if k ≤ i ∧ i < 30 * P + 30 then 0 else f i := by
    intro c
    induction c with
    | zero =>
      intro k f hk
      refine ⟨f, ⟨1, ?_⟩, fun i => by rw [if_neg (by omega)]⟩
      rw [g_Arrays_fillR_1]
      exact ⟨fun _ => rfl, fun z => absurd (nI_le (by omega) (by omega)) z⟩
    | succ c ih =>
      intro k f hk
      obtain ⟨v, ⟨n, h1⟩, h2⟩ := ih (k + 1) (upd f k 0) (by omega)
      refine ⟨v, ⟨n + 1, ?_⟩, fun i => ?_⟩
      · rw [g_Arrays_fillR_1]
        refine ⟨fun z => absurd z (nI_ge (by omega) (by omega)), fun _ => ⟨vp_in_nI (by omega) (by decide), ?_⟩⟩
        rw [nI_1, nI_clamp (by omega)]
        exact h1
      · rw [h2 i, upd_at]
        by_cases e : i = k
        · subst e
          rw [if_neg (by omega), if_pos rfl, if_pos (by omega)]
        · rw [if_neg e]
          by_cases e2 : k + 1 ≤ i ∧ i < 30 * P + 30
          · rw [if_pos e2, if_pos (by omega)]
          · rw [if_neg e2, if_neg (by omega)]
  obtain ⟨v, h1, h2⟩ := key 30 (30 * P) sa (by omega)
  refine ⟨v, ⟨(), ⟨fun _ => ⟨fun _ => ⟨fun _ => rfl, fun z => absurd ?_ z⟩, fun z => absurd ?_ z⟩, fun z => absurd ?_ z⟩, h1⟩, h2⟩
  · exact nI_le (b := 900) (by omega) (by decide)
  · exact nI_pos' (by omega)
  · exact nI_le (by omega) (by omega)
theorem vu_same {α : Type} (f : Nat → α) (k : Nat) (v : α) : va_up f k v k = v := by simp [va_up]
theorem vu_ne {α : Type} {f : Nat → α} {k q : Nat} {v : α} (h : q ≠ k) : va_up f k v q = f q := by simp [va_up, h]
theorem R_becomePosition_ok {q : Nat} {p : Int32} {pf : Nat → PT} : R_Part_becomePosition q p pf (va_up pf q (p, 1 <<< (p &&& 31), 1 <<< (p &&& 31), 0, 0)) := by
  unfold R_Part_becomePosition
  intro a ha b hb c hc d hd e he
  subst ha hb hc hd he
  simp only [vu_same, bx_uu]
theorem zb_v {x : Int32} (h : x = 0 ∨ x = 1) : zb x := by
  rcases h with rfl | rfl
  · exact ⟨rfl, rfl⟩
  · exact ⟨rfl, rfl⟩
theorem R_become_ok {q r : Nat} {pf : Nat → PT} (h : r ≠ q) (hz : (pf r).2.2.2.1 = 0 ∨ (pf r).2.2.2.1 = 1) : R_Part_become q r pf (va_up pf q (pf r)) := by
  unfold R_Part_become
  intro a ha b hb c hc
  subst ha hb hc
  simp only [vu_same, vu_ne h, bx_uu]
  refine ⟨zb_v hz, ?_⟩
  intro d hd e he
  subst hd he
  simp only [vu_same, vu_ne h, bx_uu]
theorem R_addPosition_ok {P q : Nat} {l : Int32} {wl fa la sp sa : Nat → Int32} {pf : Nat → PT} (hP : P < 30) : ∃ wl' sa', R_Net_addPosition l q (nI P) wl fa la sp sa pf (nI (P + 1), wl', upd fa P 0, upd la P 0, upd sp P 0, sa', va_up pf q (nI P, 1 <<< (nI P &&& 31), 1 <<< (nI P &&& 31), 0, 0)) ∧ (∀ k, k < 4 → wl' k = if bt l k = true then wl k ||| (1 <<< (nI P &&& 31)) else wl k) ∧ ∀ i, sa' i = if 30 * P ≤ i ∧ i < 30 * P + 30 then 0 else sa i := by
  obtain ⟨sa', h1, h2⟩ := R_Arrays_fillR_ok (P := P) (sa := sa) hP
  have key : ∀ (c k : Nat) (wl : Nat → Int32), k + c = 4 → ∃ wl', (∃ n, g_Net_addPosition l q n 1 (nI P) (nI k) (nI P) wl fa la sp sa pf (nI (P + 1), wl', upd fa P 0, upd la P 0, upd sp P 0, sa', va_up pf q (nI P, 1 <<< (nI P &&& 31), 1 <<< (nI P &&& 31), 0, 0))) ∧ ∀ i, wl' i = if k ≤ i ∧ i < 4 ∧ bt l i = true then wl i ||| (1 <<< (nI P &&& 31)) else wl i := by
    intro c
    induction c with
    | zero =>
      intro k wl hk
      refine ⟨wl, ⟨1, ?_⟩, fun i => by rw [if_neg (by omega)]⟩
      rw [g_Net_addPosition_1]
      refine ⟨fun _ => ⟨vin30 hP, vin30 hP, vin30 hP, sa', h1, _, R_becomePosition_ok, ?_⟩, fun z => absurd (nI_le (a := 4) (by omega) (by omega)) z⟩
      rw [nI_1, nI_clamp (by omega)]
    | succ c ih =>
      intro k wl hk
      by_cases hb : bt l k = true
      · obtain ⟨wl', ⟨n, h3⟩, h4⟩ := ih (k + 1) (upd wl k (wl k ||| (1 <<< (nI P &&& 31)))) (by omega)
        refine ⟨wl', ⟨n + 1, ?_⟩, fun i => ?_⟩
        · rw [g_Net_addPosition_1]
          refine ⟨fun z => absurd z (nI_ge (b := 4) (by omega) (by omega)), fun _ => ⟨fun z => ?_, fun _ => ?_⟩⟩
          · rw [bt_test l (by omega), hb] at z
            exact absurd z (by decide)
          · rw [nI_1, nI_clamp (show k < 2 ^ 31 by omega)]
            exact ⟨vp_in_nI (by omega) (by decide), vp_in_nI (by omega) (by decide), h3⟩
        · rw [h4 i, upd_at]
          by_cases e : i = k
          · subst e
            rw [if_neg (by omega), if_pos rfl, if_pos ⟨by omega, by omega, hb⟩]
          · rw [if_neg e]
            by_cases e2 : k + 1 ≤ i ∧ i < 4 ∧ bt l i = true
            · rw [if_pos e2, if_pos ⟨by omega, e2.2⟩]
            · rw [if_neg e2, if_neg (fun z => e2 ⟨by omega, z.2⟩)]
      · obtain ⟨wl', ⟨n, h3⟩, h4⟩ := ih (k + 1) wl (by omega)
        refine ⟨wl', ⟨n + 1, ?_⟩, fun i => ?_⟩
        · rw [g_Net_addPosition_1]
          refine ⟨fun z => absurd z (nI_ge (b := 4) (by omega) (by omega)), fun _ => ⟨fun z => ?_, fun z => ?_⟩⟩
          · rw [nI_1]; exact h3
          · rw [bt_test l (by omega)] at z
            exact absurd (Bool.not_eq_false _ ▸ z) hb
        · rw [h4 i]
          by_cases e2 : k + 1 ≤ i ∧ i < 4 ∧ bt l i = true
          · rw [if_pos e2, if_pos ⟨by omega, e2.2⟩]
          · rw [if_neg e2, if_neg (fun z => e2 ⟨Nat.lt_of_le_of_ne z.1 (fun q => hb (q ▸ z.2.2)), z.2⟩)]
  obtain ⟨wl', h3, h4⟩ := key 4 0 wl (by omega)
  rw [nI_0] at h3
  refine ⟨wl', sa', h3, fun k hk => ?_, h2⟩
  rw [h4 k]
  by_cases e : bt l k = true
  · rw [if_pos e, if_pos ⟨by omega, hk, e⟩]
  · rw [if_neg e, if_neg (fun z => e z.2.2)]
