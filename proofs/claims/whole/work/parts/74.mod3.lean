/-! ===== repeat and act, of the model and of the class ===== -/
theorem R_M_repeat_ok {v : Nat} {sg : Int32} {z_length z_where z_thrown z_at z_many z_bad z_states z_positions z_now z_fed z_found z_over : Int32} {a_first a_last fD lD em no sd st : Nat → Int32} (hv : v < 30) : ∃ em' no' sd' st' : Nat → Int32, R_M_repeat (nI v) sg z_length z_where z_thrown z_at z_many z_bad z_states z_positions z_now z_fed z_found z_over a_first a_last fD lD em no sd st (em', no', sd', st') ∧ (∀ a, em' a = if a = v ∧ ¬ sg = 43 then 1 else em a) ∧ (∀ a, no' a = if a = v ∧ em v = 0 then 0 else no a)
    ∧ (∀ a b, a < 30 → b < 30 → sd' (30 * a + b) = if ¬ sg = 63 ∧ bt (a_last v) a = true ∧ bt (a_first v) b = true then sd (30 * a + b) ||| (lD (30 * v + a) ||| fD (30 * v + b)) else sd (30 * a + b))
    ∧ ∀ a b, a < 30 → b < 30 → st' (30 * a + b) = if ¬ sg = 63 ∧ bt (a_last v) a = true ∧ bt (a_first v) b = true then 1 else st (30 * a + b) := by
  have cv := nI_clamp (show v < 2 ^ 31 by omega)
  have vv := vin30 hv
  have fin : ∀ no sd st : Nat → Int32, ∃ n, g_M_repeat (nI v) sg z_length z_where z_thrown z_at z_many z_bad z_states z_positions z_now z_fed z_found z_over a_first a_last fD lD n 2 em no sd st (if sg = 43 then em else upd em v 1, no, sd, st) := by
    intro no sd st
    refine ⟨1, ?_⟩
    rw [g_M_repeat_2, cv, nar1]
    refine ⟨fun e => by rw [if_pos e], fun e => ⟨vv, by rw [if_neg e]⟩⟩
  have fin2 : ∀ sd st : Nat → Int32, ∃ n, g_M_repeat (nI v) sg z_length z_where z_thrown z_at z_many z_bad z_states z_positions z_now z_fed z_found z_over a_first a_last fD lD n 1 em no sd st (if sg = 43 then em else upd em v 1, if em v = 0 then upd no v 0 else no, sd, st) := by
    intro sd st
    by_cases e : em v = 0
    · obtain ⟨n, h⟩ := fin (upd no v 0) sd st
      refine ⟨n + 1, ?_⟩
      rw [g_M_repeat_1, cv, if_pos e]
      exact ⟨vv, fun z => absurd e z, fun _ => ⟨vv, h⟩⟩
    · obtain ⟨n, h⟩ := fin no sd st
      refine ⟨n + 1, ?_⟩
      rw [g_M_repeat_1, cv, if_neg e]
      exact ⟨vv, fun _ => h, fun z => absurd z e⟩
  have s1 : ∀ a, (if sg = 43 then em else upd em v 1) a = if a = v ∧ ¬ sg = 43 then 1 else em a := by
    intro a
    by_cases e : sg = 43
    · rw [if_pos e, if_neg (fun z => z.2 e)]
    · rw [if_neg e, upd_at]
      by_cases q : a = v
      · rw [if_pos q, if_pos ⟨q, e⟩]
      · rw [if_neg q, if_neg (fun z => q z.1)]
  have s2 : ∀ a, (if em v = 0 then upd no v 0 else no) a = if a = v ∧ em v = 0 then 0 else no a := by
    intro a
    by_cases e : em v = 0
    · rw [if_pos e, upd_at]
      by_cases q : a = v
      · rw [if_pos q, if_pos ⟨q, e⟩]
      · rw [if_neg q, if_neg (fun z => q z.1)]
    · rw [if_neg e, if_neg (fun z => e z.2)]
  by_cases e : sg = 63
  · exact ⟨_, _, sd, st, ⟨fun _ => fin2 sd st, fun z => absurd e z⟩, s1, s2, fun a b _ _ => by rw [if_neg (fun z => z.1 e)], fun a b _ _ => by rw [if_neg (fun z => z.1 e)]⟩
  · obtain ⟨v3, h1, h2, h3⟩ := R_M_link_ok (z_length := z_length) (z_where := z_where) (z_thrown := z_thrown) (z_at := z_at) (z_many := z_many) (z_bad := z_bad) (z_states := z_states) (z_positions := z_positions) (z_now := z_now) (z_fed := z_fed) (z_found := z_found) (z_over := z_over) (a_first := a_first) (a_last := a_last) (a_firstDo := fD) (a_lastDo := lD) (sd := sd) (st := st) hv hv
    refine ⟨_, _, v3.1, v3.2, ⟨fun z => absurd z e, fun _ => ⟨v3, h1, fin2 v3.1 v3.2⟩⟩, s1, s2, fun a b ha hb => ?_, fun a b ha hb => ?_⟩
    · rw [h2 a b ha hb]
      by_cases q : bt (a_last v) a = true ∧ bt (a_first v) b = true
      · rw [if_pos q, if_pos ⟨e, q⟩]
      · rw [if_neg q, if_neg (fun z => q z.2)]
    · rw [h3 a b ha hb]
      by_cases q : bt (a_last v) a = true ∧ bt (a_first v) b = true
      · rw [if_pos q, if_pos ⟨e, q⟩]
      · rw [if_neg q, if_neg (fun z => q z.2)]
theorem R_Net_repeat_ok {P q : Nat} {sg : Int32} {fa la sp sa : Nat → Int32} {pf : Nat → PT} (hP : P ≤ 30) : ∃ sp' sa' : Nat → Int32, R_Net_repeat sg (nI P) fa la q sp sa pf (sp', sa', va_up pf q ((pf q).1, (pf q).2.1, (pf q).2.2.1, if sg = 43 then (pf q).2.2.2.1 else 1, (pf q).2.2.2.2))
    ∧ (∀ a, a < 30 → sp' a = if ¬ sg = 63 ∧ a < P ∧ bt (pf q).2.2.1 a = true then sp a ||| (pf q).2.1 else sp a)
    ∧ ∀ a b, a < 30 → b < 30 → sa' (30 * a + b) = if ¬ sg = 63 ∧ a < P ∧ b < P ∧ bt (pf q).2.2.1 a = true ∧ bt (pf q).2.1 b = true then sa (30 * a + b) ||| (la a ||| fa b) else sa (30 * a + b) := by
  have same : va_up pf q ((pf q).1, (pf q).2.1, (pf q).2.2.1, (pf q).2.2.2.1, (pf q).2.2.2.2) = pf := by
    funext k
    by_cases e : k = q
    · subst e; rw [vu_same]
    · rw [vu_ne e]
  by_cases e : sg = 63
  · refine ⟨sp, sa, ⟨fun _ => ⟨fun z => absurd (e.symm.trans z) (by decide), fun z w hw => by rw [if_neg z, hw]⟩, fun z => absurd e z⟩, fun a _ => by rw [if_neg (fun z => z.1 e)], fun a b _ _ => by rw [if_neg (fun z => z.1 e)]⟩
  · obtain ⟨v3, h1, h2, h3⟩ := R_Net_link_ok (L := (pf q).2.2.1) (F := (pf q).2.1) (fa := fa) (la := la) (sp := sp) (sa := sa) hP
    refine ⟨v3.1, v3.2, ⟨fun z => absurd z e, fun _ => ⟨v3, h1, fun z => by rw [if_pos z, same], fun z w hw => by rw [if_neg z, hw]⟩⟩, fun a ha => ?_, fun a b ha hb => ?_⟩
    · rw [h2 a ha]
      by_cases q9 : a < P ∧ bt (pf q).2.2.1 a = true
      · rw [if_pos q9, if_pos ⟨e, q9⟩]
      · rw [if_neg q9, if_neg (fun z => q9 z.2)]
    · rw [h3 a b ha hb]
      by_cases q9 : a < P ∧ b < P ∧ bt (pf q).2.2.1 a = true ∧ bt (pf q).2.1 b = true
      · rw [if_pos q9, if_pos ⟨e, q9⟩]
      · rw [if_neg q9, if_neg (fun z => q9 z.2)]
theorem R_M_has_is {m : Int32} {p : Nat} (hp : p < 32) : R_M_has m (nI p) (if bt m p = true then 1 else 0, ()) := by
  by_cases e : bt m p = true
  · rw [if_pos e]; exact R_M_has_yes hp e
  · rw [if_neg e]; exact R_M_has_no hp (btF e)
theorem M_act_in {v P p : Nat} {sg b x5 : Int32} {z_length z_where z_thrown z_at z_bad z_states z_positions z_now z_fed z_found z_over : Int32} {em fr F L st no fD lD : Nat → Int32} (hP : P ≤ 30) (hp : p < P) : ∀ (c x : Nat) (sd : Nat → Int32), x + c = P → ∃ sd' : Nat → Int32, (∀ a d, a < 30 → d < 30 → sd' (30 * a + d) = if d = p ∧ x ≤ a ∧ a < P ∧ ¬ st (30 * a + d) = 0 ∧ (sg = 36 ∨ sg = 64 ∧ ¬ x5 = 0) then sd (30 * a + d) ||| b else sd (30 * a + d)) ∧ ∀ out, (∃ n, g_M_act (nI v) sg b z_length z_where z_thrown z_at (nI P) z_bad z_states z_positions z_now z_fed z_found z_over em fr F L st n 1 (nI (p + 1)) 0 0 no fD lD sd' out) → ∃ n, g_M_act (nI v) sg b z_length z_where z_thrown z_at (nI P) z_bad z_states z_positions z_now z_fed z_found z_over em fr F L st n 4 (nI p) x5 (nI x) no fD lD sd out := by
  intro c
  induction c with
  | zero =>
    intro x sd hx
    refine ⟨sd, fun a d _ _ => by rw [if_neg (by omega)], fun out ⟨n, h⟩ => ⟨n + 1, ?_⟩⟩
    rw [g_M_act_4, nI_1]
    exact ⟨fun _ => h, fun z => absurd (nI_le (by omega) (by omega)) z⟩
  | succ c ih =>
    intro x sd hx
    by_cases hs : sg = 36 ∨ sg = 64 ∧ ¬ x5 = 0
    · have go : ∀ out, (∃ n, g_M_act (nI v) sg b z_length z_where z_thrown z_at (nI P) z_bad z_states z_positions z_now z_fed z_found z_over em fr F L st n 5 (nI p) x5 (nI x) no fD lD sd out) → ∃ n, g_M_act (nI v) sg b z_length z_where z_thrown z_at (nI P) z_bad z_states z_positions z_now z_fed z_found z_over em fr F L st n 4 (nI p) x5 (nI x) no fD lD sd out := by
        intro out ⟨n, h⟩
        refine ⟨n + 1, ?_⟩
        rw [g_M_act_4]
        refine ⟨fun z => absurd z (nI_ge (by omega) (by omega)), fun _ => ⟨fun _ => h, fun z => ⟨fun z2 => ?_, fun _ => ⟨fun z3 => ?_, fun _ => h⟩⟩⟩⟩
        · rcases hs with q | q
          · exact absurd q z
          · exact absurd q.1 z2
        · rcases hs with q | q
          · exact absurd q z
          · exact absurd z3 q.2
      by_cases h0 : st (30 * x + p) = 0
      · obtain ⟨sd', h1, h2⟩ := ih (x + 1) sd (by omega)
        refine ⟨sd', fun a d ha hd => ?_, fun out h => go out ?_⟩
        · rw [h1 a d ha hd]
          by_cases e2 : d = p ∧ x + 1 ≤ a ∧ a < P ∧ ¬ st (30 * a + d) = 0 ∧ (sg = 36 ∨ sg = 64 ∧ ¬ x5 = 0)
          · rw [if_pos e2, if_pos ⟨e2.1, by omega, e2.2.2⟩]
          · rw [if_neg e2, if_neg (fun z => e2 ⟨z.1, Nat.lt_of_le_of_ne z.2.1 (fun q => z.2.2.2.1 (by rw [← q, z.1]; exact h0)), z.2.2⟩)]
        · obtain ⟨n, h⟩ := h2 out h
          refine ⟨n + 1, ?_⟩
          rw [g_M_act_5, ixm, nI_1, nI_clamp (show 30 * x + p < 2 ^ 31 by omega)]
          exact ⟨vin900 (by omega) (by omega), fun _ => h, fun z => absurd h0 z⟩
      · obtain ⟨sd', h1, h2⟩ := ih (x + 1) (upd sd (30 * x + p) (sd (30 * x + p) ||| b)) (by omega)
        refine ⟨sd', fun a d ha hd => ?_, fun out h => go out ?_⟩
        · rw [h1 a d ha hd, upd_at]
          by_cases e : a = x ∧ d = p
          · obtain ⟨rfl, rfl⟩ := e
            rw [if_neg (by omega), if_pos rfl, if_pos ⟨rfl, by omega, by omega, h0, hs⟩]
          · rw [if_neg (show ¬ 30 * a + d = 30 * x + p by omega)]
            by_cases e2 : d = p ∧ x + 1 ≤ a ∧ a < P ∧ ¬ st (30 * a + d) = 0 ∧ (sg = 36 ∨ sg = 64 ∧ ¬ x5 = 0)
            · rw [if_pos e2, if_pos ⟨e2.1, by omega, e2.2.2⟩]
            · rw [if_neg e2, if_neg (fun z => e2 ⟨z.1, by omega, z.2.2⟩)]
        · obtain ⟨n, h⟩ := h2 out h
          refine ⟨n + 1, ?_⟩
          rw [g_M_act_5, ixm, nI_1, nI_clamp (show 30 * x + p < 2 ^ 31 by omega)]
          exact ⟨vin900 (by omega) (by omega), fun z => absurd z h0, fun _ => ⟨vin900 (by omega) (by omega), vin900 (by omega) (by omega), h⟩⟩
    · refine ⟨sd, fun a d _ _ => by rw [if_neg (fun z => hs z.2.2.2.2)], fun out ⟨n, h⟩ => ⟨n + 1, ?_⟩⟩
      rw [g_M_act_4, nI_1]
      exact ⟨fun _ => h, fun _ => ⟨fun z => absurd (Or.inl z) hs, fun _ => ⟨fun _ => h, fun z => ⟨fun _ => h, fun z2 => absurd (Or.inr ⟨z, z2⟩) hs⟩⟩⟩⟩
theorem R_M_act_ok {v f P : Nat} {sg b : Int32} {z_length z_where z_thrown z_at z_bad z_states z_positions z_now z_fed z_found z_over : Int32} {em fr F L st no fD lD sd : Nat → Int32} (hP : P ≤ 30) (hv : v < 30) (hf : f ≤ P) (hfr : fr v = nI f) : ∃ no' fD' lD' sd' : Nat → Int32, R_M_act (nI v) sg b z_length z_where z_thrown z_at (nI P) z_bad z_states z_positions z_now z_fed z_found z_over em fr F L st no fD lD sd (no', fD', lD', sd')
    ∧ (∀ a, no' a = if a = v ∧ sg = 37 ∧ ¬ em v = 0 then no v ||| b else no a)
    ∧ (∀ a d, a < 30 → d < 30 → fD' (30 * a + d) = if a = v ∧ f ≤ d ∧ d < P ∧ bt (F v) d = true ∧ (sg = 62 ∨ sg = 36 ∨ sg = 64 ∧ bt (L v) d = true) then fD (30 * a + d) ||| b else fD (30 * a + d))
    ∧ (∀ a d, a < 30 → d < 30 → lD' (30 * a + d) = if a = v ∧ f ≤ d ∧ d < P ∧ bt (L v) d = true ∧ sg = 37 then lD (30 * a + d) ||| b else lD (30 * a + d))
    ∧ ∀ a d, a < 30 → d < 30 → sd' (30 * a + d) = if f ≤ d ∧ d < P ∧ f ≤ a ∧ a < P ∧ ¬ st (30 * a + d) = 0 ∧ (sg = 36 ∨ sg = 64 ∧ bt (L v) d = true) then sd (30 * a + d) ||| b else sd (30 * a + d) := by
  have cv := nI_clamp (show v < 2 ^ 31 by omega)
  have vv := vin30 hv
  have key : ∀ (c p : Nat) (fD lD sd : Nat → Int32), p + c = P → f ≤ p → ∃ no' fD' lD' sd' : Nat → Int32, (∃ n, g_M_act (nI v) sg b z_length z_where z_thrown z_at (nI P) z_bad z_states z_positions z_now z_fed z_found z_over em fr F L st n 1 (nI p) 0 0 no fD lD sd (no', fD', lD', sd'))
      ∧ (∀ a, no' a = if a = v ∧ sg = 37 ∧ ¬ em v = 0 then no v ||| b else no a)
      ∧ (∀ a d, a < 30 → d < 30 → fD' (30 * a + d) = if a = v ∧ p ≤ d ∧ d < P ∧ bt (F v) d = true ∧ (sg = 62 ∨ sg = 36 ∨ sg = 64 ∧ bt (L v) d = true) then fD (30 * a + d) ||| b else fD (30 * a + d))
      ∧ (∀ a d, a < 30 → d < 30 → lD' (30 * a + d) = if a = v ∧ p ≤ d ∧ d < P ∧ bt (L v) d = true ∧ sg = 37 then lD (30 * a + d) ||| b else lD (30 * a + d))
      ∧ ∀ a d, a < 30 → d < 30 → sd' (30 * a + d) = if p ≤ d ∧ d < P ∧ f ≤ a ∧ a < P ∧ ¬ st (30 * a + d) = 0 ∧ (sg = 36 ∨ sg = 64 ∧ bt (L v) d = true) then sd (30 * a + d) ||| b else sd (30 * a + d) := by
    intro c
    induction c with
    | zero =>
      intro p fD lD sd hp hfp
      refine ⟨if sg = 37 ∧ ¬ em v = 0 then upd no v (no v ||| b) else no, fD, lD, sd, ⟨1, ?_⟩, fun a => ?_, fun a d _ _ => by rw [if_neg (by omega)], fun a d _ _ => by rw [if_neg (by omega)], fun a d _ _ => by rw [if_neg (by omega)]⟩
      · rw [g_M_act_1, cv]
        refine ⟨fun _ => ⟨fun e => by rw [if_neg (fun z => e z.1)], fun e => ⟨vv, fun e2 => by rw [if_neg (fun z => z.2 e2)], fun e2 => ⟨vv, vv, by rw [if_pos ⟨e, e2⟩]⟩⟩⟩, fun z => absurd (nI_le (by omega) (by omega)) z⟩
      · by_cases e : sg = 37 ∧ ¬ em v = 0
        · rw [if_pos e, upd_at]
          by_cases q : a = v
          · rw [if_pos q, if_pos ⟨q, e⟩]
          · rw [if_neg q, if_neg (fun z => q z.1)]
        · rw [if_neg e, if_neg (fun z => e z.2)]
    | succ c ih =>
      intro p fD lD sd hp hfp
      have hF9 : ∃ fD1 : Nat → Int32, fD1 = (if bt (F v) p = true ∧ (sg = 62 ∨ sg = 36 ∨ sg = 64 ∧ bt (L v) p = true) then upd fD (30 * v + p) (fD (30 * v + p) ||| b) else fD) := ⟨_, rfl⟩
      have hL9 : ∃ lD1 : Nat → Int32, lD1 = (if bt (L v) p = true ∧ sg = 37 then upd lD (30 * v + p) (lD (30 * v + p) ||| b) else lD) := ⟨_, rfl⟩
      have hx5 : ∃ x5 : Int32, x5 = (if bt (L v) p = true then 1 else 0) := ⟨_, rfl⟩
      obtain ⟨fD1, hF9⟩ := hF9
      obtain ⟨lD1, hL9⟩ := hL9
      obtain ⟨x5, hx5⟩ := hx5
      have hx : x5 = 0 ↔ ¬ bt (L v) p = true := by
        rw [hx5]
        by_cases e : bt (L v) p = true
        · rw [if_pos e]; exact ⟨fun z => absurd z (by decide), fun z => absurd e z⟩
        · rw [if_neg e]; exact ⟨fun _ => e, fun _ => rfl⟩
      obtain ⟨sd1, h1, h2⟩ := M_act_in (v := v) (sg := sg) (b := b) (x5 := x5) (z_length := z_length) (z_where := z_where) (z_thrown := z_thrown) (z_at := z_at) (z_bad := z_bad) (z_states := z_states) (z_positions := z_positions) (z_now := z_now) (z_fed := z_fed) (z_found := z_found) (z_over := z_over) (em := em) (fr := fr) (F := F) (L := L) (st := st) (no := no) (fD := fD1) (lD := lD1) hP (show p < P by omega) (P - f) f sd (by omega)
      obtain ⟨no', fD', lD', sd', h3, h4, h5, h6, h7⟩ := ih (p + 1) fD1 lD1 sd1 (by omega) (by omega)
      have c4 := h2 _ h3
      have c3 : ∃ n, g_M_act (nI v) sg b z_length z_where z_thrown z_at (nI P) z_bad z_states z_positions z_now z_fed z_found z_over em fr F L st n 3 (nI p) x5 0 no fD1 lD sd (no', fD', lD', sd') := by
        obtain ⟨n, h⟩ := c4
        refine ⟨n + 1, ?_⟩
        rw [g_M_act_3, ixm, cv, hfr, nI_clamp (show 30 * v + p < 2 ^ 31 by omega)]
        refine ⟨fun e => ⟨vv, ?_⟩, fun e => ⟨fun e2 => ⟨vv, ?_⟩, fun e2 => ⟨vin900 hv (by omega), vin900 hv (by omega), vv, ?_⟩⟩⟩
        · rw [hL9, if_neg (fun z => (hx.mp e) z.1)] at h; exact h
        · rw [hL9, if_neg (fun z => e2 z.2)] at h; exact h
        · rw [hL9, if_pos ⟨Classical.not_not.mp (fun z => e (hx.mpr z)), e2⟩] at h; exact h
      have c2 : (bt (F v) p = true ∧ (sg = 62 ∨ sg = 36 ∨ sg = 64 ∧ bt (L v) p = true)) → ∃ n, g_M_act (nI v) sg b z_length z_where z_thrown z_at (nI P) z_bad z_states z_positions z_now z_fed z_found z_over em fr F L st n 2 (nI p) x5 0 no fD lD sd (no', fD', lD', sd') := by
        intro e
        obtain ⟨n, h⟩ := c3
        refine ⟨n + 1, ?_⟩
        rw [g_M_act_2, ixm, nI_clamp (show 30 * v + p < 2 ^ 31 by omega)]
        rw [hF9, if_pos e] at h
        exact ⟨vin900 hv (by omega), vin900 hv (by omega), h⟩
      refine ⟨no', fD', lD', sd', ?_, h4, fun a d ha hd => ?_, fun a d ha hd => ?_, fun a d ha hd => ?_⟩
      · by_cases e : bt (F v) p = true ∧ (sg = 62 ∨ sg = 36 ∨ sg = 64 ∧ bt (L v) p = true)
        · obtain ⟨n, h⟩ := c2 e
          refine ⟨n + 1, ?_⟩
          rw [g_M_act_1, cv]
          refine ⟨fun z => absurd z (nI_ge (by omega) (by omega)), fun _ => ⟨vv, (x5, ()), ?_, vv, _, R_M_has_yes (by omega) e.1, fun z => absurd z (by decide), fun _ => ⟨fun _ => h, fun z => ⟨fun _ => h, fun z2 => ⟨fun z3 => ?_, fun _ => ⟨fun z4 => ?_, fun _ => h⟩⟩⟩⟩⟩⟩
          · rw [hx5]; exact R_M_has_is (by omega)
          · rcases e.2 with q | q | q
            · exact absurd q z
            · exact absurd q z2
            · exact absurd q.1 z3
          · rcases e.2 with q | q | q
            · exact absurd q z
            · exact absurd q z2
            · exact absurd q.2 (hx.mp z4)
        · obtain ⟨n, h⟩ := c3
          rw [hF9, if_neg e] at h
          refine ⟨n + 1, ?_⟩
          rw [g_M_act_1, cv]
          refine ⟨fun z => absurd z (nI_ge (by omega) (by omega)), fun _ => ⟨vv, (x5, ()), ?_, vv, _, R_M_has_is (by omega), fun _ => h, fun z0 => ?_⟩⟩
          · rw [hx5]; exact R_M_has_is (by omega)
          · have eF : bt (F v) p = true := by
              by_cases q : bt (F v) p = true
              · exact q
              · exact absurd (by show (if bt (F v) p = true then (1 : Int32) else 0) = 0; rw [if_neg q]) z0
            exact ⟨fun z => absurd ⟨eF, Or.inl z⟩ e, fun _ => ⟨fun z => absurd ⟨eF, Or.inr (Or.inl z)⟩ e, fun _ => ⟨fun _ => h, fun z => ⟨fun _ => h, fun z2 => absurd ⟨eF, Or.inr (Or.inr ⟨z, Classical.not_not.mp (fun z3 => z2 (hx.mpr z3))⟩)⟩ e⟩⟩⟩⟩
      · rw [h5 a d ha hd]
        by_cases q : a = v ∧ d = p
        · obtain ⟨rfl, rfl⟩ := q
          rw [if_neg (by omega), hF9]
          by_cases e : bt (F a) d = true ∧ (sg = 62 ∨ sg = 36 ∨ sg = 64 ∧ bt (L a) d = true)
          · rw [if_pos e, if_pos ⟨rfl, by omega, by omega, e⟩, upd_at, if_pos rfl]
          · rw [if_neg e, if_neg (fun z => e z.2.2.2)]
        · have hsame : fD1 (30 * a + d) = fD (30 * a + d) := by
            rw [hF9]; split
            · rw [upd_at, if_neg (by omega)]
            · rfl
          rw [hsame]
          by_cases e2 : a = v ∧ p + 1 ≤ d ∧ d < P ∧ bt (F v) d = true ∧ (sg = 62 ∨ sg = 36 ∨ sg = 64 ∧ bt (L v) d = true)
          · rw [if_pos e2, if_pos ⟨e2.1, by omega, e2.2.2⟩]
          · rw [if_neg e2, if_neg (fun z => e2 ⟨z.1, by omega, z.2.2⟩)]
      · rw [h6 a d ha hd]
        by_cases q : a = v ∧ d = p
        · obtain ⟨rfl, rfl⟩ := q
          rw [if_neg (by omega), hL9]
          by_cases e : bt (L a) d = true ∧ sg = 37
          · rw [if_pos e, if_pos ⟨rfl, by omega, by omega, e⟩, upd_at, if_pos rfl]
          · rw [if_neg e, if_neg (fun z => e z.2.2.2)]
        · have hsame : lD1 (30 * a + d) = lD (30 * a + d) := by
            rw [hL9]; split
            · rw [upd_at, if_neg (by omega)]
            · rfl
          rw [hsame]
          by_cases e2 : a = v ∧ p + 1 ≤ d ∧ d < P ∧ bt (L v) d = true ∧ sg = 37
          · rw [if_pos e2, if_pos ⟨e2.1, by omega, e2.2.2⟩]
          · rw [if_neg e2, if_neg (fun z => e2 ⟨z.1, by omega, z.2.2⟩)]
      · rw [h7 a d ha hd, h1 a d ha hd]
        by_cases q : d = p
        · subst q
          rw [if_neg (by omega)]
          by_cases e : d = d ∧ f ≤ a ∧ a < P ∧ ¬ st (30 * a + d) = 0 ∧ (sg = 36 ∨ sg = 64 ∧ ¬ x5 = 0)
          · rw [if_pos e, if_pos ⟨by omega, by omega, e.2.1, e.2.2.1, e.2.2.2.1, e.2.2.2.2.imp id (fun z => ⟨z.1, Classical.not_not.mp (fun z3 => z.2 (hx.mpr z3))⟩)⟩]
          · rw [if_neg e, if_neg (fun z => e ⟨rfl, z.2.2.1, z.2.2.2.1, z.2.2.2.2.1, z.2.2.2.2.2.imp id (fun z => ⟨z.1, fun z3 => (hx.mp z3) z.2⟩)⟩)]
        · rw [if_neg (show ¬ (d = p ∧ f ≤ a ∧ a < P ∧ ¬ st (30 * a + d) = 0 ∧ (sg = 36 ∨ sg = 64 ∧ ¬ x5 = 0)) from fun z => q z.1)]
          by_cases e2 : p + 1 ≤ d ∧ d < P ∧ f ≤ a ∧ a < P ∧ ¬ st (30 * a + d) = 0 ∧ (sg = 36 ∨ sg = 64 ∧ bt (L v) d = true)
          · rw [if_pos e2, if_pos ⟨by omega, e2.2⟩]
          · rw [if_neg e2, if_neg (fun z => e2 ⟨by omega, z.2⟩)]
  obtain ⟨no', fD', lD', sd', h1, h2⟩ := key (P - f) f fD lD sd (by omega) (Nat.le_refl _)
  refine ⟨no', fD', lD', sd', ⟨vv, ?_⟩, h2⟩
  rw [cv, hfr]
  exact h1
