/-! ===== the relation between the class's net and parts and the model's nodes; what each step keeps ===== -/
theorem R_Net_act_ok {P f q : Nat} {sg dg : Int32} {fa la sp sa : Nat → Int32} {pf : Nat → PT} (hP : P ≤ 30) (hf : f ≤ P) (hq : (pf q).1 = nI f) (hs : sg = 62 ∨ sg = 64 ∨ sg = 36 ∨ sg = 37) : ∃ fa' la' sa' : Nat → Int32, R_Net_act sg dg (nI P) sp q fa la sa pf (fa', la', sa', va_up pf q ((pf q).1, (pf q).2.1, (pf q).2.2.1, (pf q).2.2.2.1, if sg = 37 ∧ ¬ (pf q).2.2.2.1 = 0 then (pf q).2.2.2.2 ||| (1 <<< (dg &&& 31)) else (pf q).2.2.2.2))
    ∧ (∀ p, fa' p = if p < P ∧ bt (pf q).2.1 p = true ∧ (sg = 62 ∨ sg = 36 ∨ sg = 64 ∧ bt (pf q).2.2.1 p = true) then fa p ||| (1 <<< (dg &&& 31)) else fa p)
    ∧ (∀ p, la' p = if p < P ∧ bt (pf q).2.2.1 p = true ∧ sg = 37 then la p ||| (1 <<< (dg &&& 31)) else la p)
    ∧ ∀ a d, a < 30 → d < 30 → sa' (30 * a + d) = if f ≤ a ∧ a < P ∧ f ≤ d ∧ d < P ∧ bt (sp a) d = true ∧ (sg = 36 ∨ sg = 64 ∧ bt (pf q).2.2.1 d = true) then sa (30 * a + d) ||| (1 <<< (dg &&& 31)) else sa (30 * a + d) := by
  have same : va_up pf q ((pf q).1, (pf q).2.1, (pf q).2.2.1, (pf q).2.2.2.1, (pf q).2.2.2.2) = pf := by
    funext k
    by_cases e : k = q
    · subst e; rw [vu_same]
    · rw [vu_ne e]
  rcases hs with e | e | e | e
  · subst e
    refine ⟨_, la, sa, ⟨fun z => absurd rfl z, fun _ => ⟨_, R_Net_give_ok hP, by rw [if_neg (fun z => absurd z.1 (by decide)), same]⟩⟩, fun p => ?_, fun p => by rw [if_neg (fun z => absurd z.2.2 (by decide))], fun a d _ _ => by rw [if_neg (fun z => by rcases z.2.2.2.2.2 with q | q; exact absurd q (by decide); exact absurd q.1 (by decide))]⟩
    unfold giveS
    by_cases q9 : p < P ∧ bt (pf q).2.1 p = true
    · rw [if_pos q9, if_pos ⟨q9.1, q9.2, Or.inl rfl⟩]
    · rw [if_neg q9, if_neg (fun z => q9 ⟨z.1, z.2.1⟩)]
  · subst e
    obtain ⟨v, h1, h2⟩ := R_Net_giveSteps_ok (T := (pf q).2.2.1) (b := (1 <<< (dg &&& 31))) (sp := sp) (sa := sa) hP hf
    refine ⟨_, la, v, ⟨fun _ => ⟨fun z => absurd rfl z, fun _ => ⟨_, R_Net_give_ok hP, v, by rw [hq]; exact h1, by rw [if_neg (fun z => absurd z.1 (by decide)), same]⟩⟩, fun z => absurd z (by decide)⟩, fun p => ?_, fun p => by rw [if_neg (fun z => absurd z.2.2 (by decide))], fun a d ha hd => ?_⟩
    · unfold giveS
      by_cases q9 : p < P ∧ bt ((pf q).2.1 &&& (pf q).2.2.1) p = true
      · have q8 := q9.2
        rw [b_and, Bool.and_eq_true] at q8
        rw [if_pos q9, if_pos ⟨q9.1, q8.1, Or.inr (Or.inr ⟨rfl, q8.2⟩)⟩]
      · rw [if_neg q9, if_neg (fun z => q9 ⟨z.1, by rw [b_and, Bool.and_eq_true]; exact ⟨z.2.1, by rcases z.2.2 with q | q | q; exact absurd q (by decide); exact absurd q (by decide); exact q.2⟩⟩)]
    · rw [h2 a d ha hd]
      by_cases q9 : f ≤ a ∧ a < P ∧ f ≤ d ∧ d < P ∧ bt (sp a) d = true ∧ bt (pf q).2.2.1 d = true
      · rw [if_pos q9, if_pos ⟨q9.1, q9.2.1, q9.2.2.1, q9.2.2.2.1, q9.2.2.2.2.1, Or.inr ⟨rfl, q9.2.2.2.2.2⟩⟩]
      · rw [if_neg q9, if_neg (fun z => q9 ⟨z.1, z.2.1, z.2.2.1, z.2.2.2.1, z.2.2.2.2.1, by rcases z.2.2.2.2.2 with q | q; exact absurd q (by decide); exact q.2⟩)]
  · subst e
    obtain ⟨v, h1, h2⟩ := R_Net_giveSteps_ok (T := -1) (b := (1 <<< (dg &&& 31))) (sp := sp) (sa := sa) hP hf
    refine ⟨_, la, v, ⟨fun _ => ⟨fun _ => ⟨fun z => absurd rfl z, fun _ => ⟨_, R_Net_give_ok hP, v, by rw [hq]; exact h1, by rw [if_neg (fun z => absurd z.1 (by decide)), same]⟩⟩, fun z => absurd z (by decide)⟩, fun z => absurd z (by decide)⟩, fun p => ?_, fun p => by rw [if_neg (fun z => absurd z.2.2 (by decide))], fun a d ha hd => ?_⟩
    · unfold giveS
      by_cases q9 : p < P ∧ bt (pf q).2.1 p = true
      · rw [if_pos q9, if_pos ⟨q9.1, q9.2, Or.inr (Or.inl rfl)⟩]
      · rw [if_neg q9, if_neg (fun z => q9 ⟨z.1, z.2.1⟩)]
    · rw [h2 a d ha hd]
      by_cases q9 : f ≤ a ∧ a < P ∧ f ≤ d ∧ d < P ∧ bt (sp a) d = true ∧ bt (-1) d = true
      · rw [if_pos q9, if_pos ⟨q9.1, q9.2.1, q9.2.2.1, q9.2.2.2.1, q9.2.2.2.2.1, Or.inl rfl⟩]
      · rw [if_neg q9, if_neg (fun z => q9 ⟨z.1, z.2.1, z.2.2.1, z.2.2.2.1, z.2.2.2.2.1, b_m1 d (by omega)⟩)]
  · subst e
    refine ⟨fa, giveS (pf q).2.2.1 (1 <<< (dg &&& 31)) la P, sa, ⟨fun _ => ⟨fun _ => ⟨fun _ => ⟨_, R_Net_give_ok hP, fun e w hw => ?_, fun e w hw => ?_⟩, fun z => absurd z (by decide)⟩, fun z => absurd z (by decide)⟩, fun z => absurd z (by decide)⟩, fun p => by rw [if_neg (fun z => by rcases z.2.2 with q | q | q; exact absurd q (by decide); exact absurd q (by decide); exact absurd q.1 (by decide))], fun p => ?_, fun a d _ _ => by rw [if_neg (fun z => by rcases z.2.2.2.2.2 with q | q; exact absurd q (by decide); exact absurd q.1 (by decide))]⟩
    · rw [hw, if_neg (fun z => z.2 e), Int32.or_zero]
    · rw [hw, if_pos ⟨rfl, e⟩]
    · unfold giveS
      by_cases q9 : p < P ∧ bt (pf q).2.2.1 p = true
      · rw [if_pos q9, if_pos ⟨q9.1, q9.2, rfl⟩]
      · rw [if_neg q9, if_neg (fun z => q9 ⟨z.1, z.2.1⟩)]
def NetR (P : Nat) (wl sp sa lt sd st : Nat → Int32) : Prop :=
  (∀ x y, x < P → y < P → st (30 * x + y) = if bt (sp x) y = true then 1 else 0) ∧ (∀ x i, x < P → P ≤ i → bt (sp x) i = false) ∧ (∀ x y, x < P → y < P → sd (30 * x + y) = sa (30 * x + y)) ∧ (∀ x y, x < P → P ≤ y → y < 30 → sa (30 * x + y) = 0) ∧ (∀ l p, l < 4 → p < P → bt (wl l) p = bt (lt p) l) ∧ (∀ l p, l < 4 → P ≤ p → bt (wl l) p = false)
def NodR (P f : Nat) (fa la : Nat → Int32) (t : PT) (em fr no F L : Int32) (fD lD : Nat → Int32) : Prop :=
  f ≤ P ∧ fr = nI f ∧ t = (nI f, F, L, em, no) ∧ (em = 0 ∨ em = 1) ∧ (em = 0 → no = 0) ∧ (∀ i, bt F i = true → f ≤ i ∧ i < P ∧ fD i = fa i) ∧ (∀ i, bt L i = true → f ≤ i ∧ i < P ∧ lD i = la i)
def Inv (ad : Nat → Nat) (P : Nat) (wl fa la sp sa : Nat → Int32) (pf : Nat → PT) (is em fr no F L fD lD lt sd st : Nat → Int32) : Prop :=
  P ≤ 30 ∧ NetR P wl sp sa lt sd st ∧ (∀ w, w < 27 → ¬ is w = 0 → ∃ f, NodR P f fa la (pf (ad w)) (em w) (fr w) (no w) (F w) (L w) (fun i => fD (30 * w + i)) (fun i => lD (30 * w + i))) ∧ (∀ v w, v < w → w < 27 → ¬ is v = 0 → ¬ is w = 0 → fr v ≤ fr w ∧ ∀ i, (bt (F v) i = true ∨ bt (L v) i = true) → nI i < fr w)
def Inj27 (ad : Nat → Nat) : Prop := ∀ v w, v < 27 → w < 27 → ad v = ad w → v = w
theorem NodR_mono {P P' f : Nat} {fa la fa' la' : Nat → Int32} {t : PT} {em fr no F L : Int32} {fD lD fD' lD' : Nat → Int32} (h : NodR P f fa la t em fr no F L fD lD) (hP : P ≤ P') (h1 : ∀ i, bt F i = true → fD' i = fD i ∧ fa' i = fa i) (h2 : ∀ i, bt L i = true → lD' i = lD i ∧ la' i = la i) : NodR P' f fa' la' t em fr no F L fD' lD' := by
  obtain ⟨a, b, c, d, e, g1, g2⟩ := h
  refine ⟨by omega, b, c, d, e, fun i hi => ?_, fun i hi => ?_⟩
  · obtain ⟨u, v, w⟩ := g1 i hi
    exact ⟨u, by omega, by rw [(h1 i hi).1, (h1 i hi).2, w]⟩
  · obtain ⟨u, v, w⟩ := g2 i hi
    exact ⟨u, by omega, by rw [(h2 i hi).1, (h2 i hi).2, w]⟩
theorem nI_leD {a b : Nat} (ha : a < 2 ^ 31) (h : nI a ≤ nI b) : a ≤ b := Nat.le_of_not_lt (fun z => nI_ge z ha h)
theorem nI_ltD {a b : Nat} (ha : a < 2 ^ 31) (h : nI a < nI b) : a < b := Nat.lt_of_not_le (fun z => nI_nlt z ha h)
theorem b_lt {x : Int32} {i : Nat} (h : bt x i = true) : i < 32 := Nat.lt_of_not_le (fun z => by rw [b_big z] at h; exact absurd h (by decide))
theorem NetR_link {P : Nat} {wl sp sa lt sd st sp' sa' sd' st' fa la fD lD : Nat → Int32} {L F : Int32} (h : NetR P wl sp sa lt sd st) (hP : P ≤ 30) (hsp : ∀ a, a < P → ∀ i, bt (sp' a) i = (bt (sp a) i || (bt L a && bt F i)))
    (hsa : ∀ a b, a < 30 → b < 30 → sa' (30 * a + b) = if a < P ∧ b < P ∧ bt L a = true ∧ bt F b = true then sa (30 * a + b) ||| (la a ||| fa b) else sa (30 * a + b))
    (hsd : ∀ a b, a < 30 → b < 30 → sd' (30 * a + b) = if bt L a = true ∧ bt F b = true then sd (30 * a + b) ||| (lD a ||| fD b) else sd (30 * a + b))
    (hst : ∀ a b, a < 30 → b < 30 → st' (30 * a + b) = if bt L a = true ∧ bt F b = true then 1 else st (30 * a + b))
    (hL : ∀ i, bt L i = true → i < P ∧ lD i = la i) (hF : ∀ i, bt F i = true → i < P ∧ fD i = fa i) : NetR P wl sp' sa' lt sd' st' := by
  obtain ⟨n1, n2, n3, n4, n5, n6⟩ := h
  refine ⟨fun x y hx hy => ?_, fun x i hx hi => ?_, fun x y hx hy => ?_, fun x y hx hy hy2 => ?_, n5, n6⟩
  · rw [hst x y (by omega) (by omega), n1 x y hx hy, hsp x hx y]
    by_cases e : bt L x = true ∧ bt F y = true
    · rw [if_pos e, e.1, e.2]; simp
    · rw [if_neg e]
      have e2 : (bt L x && bt F y) = false := by
        cases h1 : bt L x with
        | false => rfl
        | true => cases h2 : bt F y with
          | false => rfl
          | true => exact absurd ⟨h1, h2⟩ e
      rw [e2, Bool.or_false]
  · rw [hsp x hx i, n2 x i hx hi]
    have e2 : bt F i = false := by
      cases h2 : bt F i with
      | false => rfl
      | true => exact absurd (hF i h2).1 (by omega)
    rw [e2]; simp
  · rw [hsd x y (by omega) (by omega), hsa x y (by omega) (by omega), n3 x y hx hy]
    by_cases e : bt L x = true ∧ bt F y = true
    · rw [if_pos e, if_pos ⟨hx, hy, e⟩, (hL x e.1).2, (hF y e.2).2]
    · rw [if_neg e, if_neg (fun z => e z.2.2)]
  · rw [hsa x y (by omega) hy2, if_neg (by omega), n4 x y hx hy hy2]
theorem Inv_position {ad : Nat → Nat} {P v : Nat} {l : Int32} {wl fa la sp sa is em fr no F L fD lD lt sd st wl' sa' sd' st' : Nat → Int32} {pf : Nat → PT} (hI : Inv ad P wl fa la sp sa pf is em fr no F L fD lD lt sd st) (hA : Inj27 ad) (hP : P < 30) (hv : v < 27) (htop : ∀ w, v ≤ w → w < 27 → is w = 0)
    (hwl : ∀ k, k < 4 → wl' k = if bt l k = true then wl k ||| (1 <<< (nI P &&& 31)) else wl k) (hsa : ∀ i, sa' i = if 30 * P ≤ i ∧ i < 30 * P + 30 then 0 else sa i) (hsd : ∀ a b, a < 30 → b < 30 → sd' (30 * a + b) = if a = P ∨ b = P then 0 else sd (30 * a + b)) (hst : ∀ a b, a < 30 → b < 30 → st' (30 * a + b) = if a = P ∨ b = P then 0 else st (30 * a + b)) :
    Inv ad (P + 1) wl' (upd fa P 0) (upd la P 0) (upd sp P 0) sa' (va_up pf (ad v) (nI P, 1 <<< (nI P &&& 31), 1 <<< (nI P &&& 31), 0, 0)) (upd is v 1) (upd em v 0) (upd fr v (nI P)) (upd no v 0) (upd F v (1 <<< (nI P &&& 31))) (upd L v (1 <<< (nI P &&& 31))) (upd fD (30 * v + P) 0) (upd lD (30 * v + P) 0) (upd lt P l) sd' st' := by
  obtain ⟨_, ⟨n1, n2, n3, n4, n5, n6⟩, hN, hO⟩ := hI
  have live : ∀ w, w < 27 → ¬ upd is v 1 w = 0 → w = v ∨ (w < v ∧ ¬ is w = 0) := by
    intro w hw h
    by_cases e : w = v
    · exact Or.inl e
    · rw [upd_at, if_neg e] at h
      exact Or.inr ⟨Nat.lt_of_not_le (fun z => h (htop w z hw)), h⟩
  have bitP : ∀ i, bt (1 <<< (nI P &&& 31)) i = true → i = P := by
    intro i hi
    have h9 := b_lt hi
    rw [bt_sh (by omega) h9] at hi
    exact of_decide_eq_true hi
  refine ⟨by omega, ⟨fun x y hx hy => ?_, fun x i hx hi => ?_, fun x y hx hy => ?_, fun x y hx hy hy2 => ?_, fun k p hk hp => ?_, fun k p hk hp => ?_⟩, fun w hw hl => ?_, fun u w huw hw hu hl => ?_⟩
  · rw [hst x y (by omega) (by omega), upd_at]
    by_cases e : x = P
    · rw [if_pos (Or.inl e), if_pos e, b_0, if_neg (by decide)]
    · rw [if_neg e]
      by_cases e2 : y = P
      · subst e2
        rw [if_pos (Or.inr rfl), n2 x y (by omega) (Nat.le_refl _), if_neg (by decide)]
      · rw [if_neg (by omega), n1 x y (by omega) (by omega)]
  · rw [upd_at]
    by_cases e : x = P
    · rw [if_pos e, b_0]
    · rw [if_neg e]; exact n2 x i (by omega) (by omega)
  · rw [hsd x y (by omega) (by omega), hsa]
    by_cases e : x = P
    · rw [if_pos (Or.inl e), if_pos (by omega)]
    · rw [if_neg (show ¬ (30 * P ≤ 30 * x + y ∧ 30 * x + y < 30 * P + 30) by omega)]
      by_cases e2 : y = P
      · subst e2
        rw [if_pos (Or.inr rfl), n4 x y (by omega) (Nat.le_refl _) (by omega)]
      · rw [if_neg (by omega), n3 x y (by omega) (by omega)]
  · rw [hsa]
    by_cases e : x = P
    · rw [if_pos (by omega)]
    · rw [if_neg (show ¬ (30 * P ≤ 30 * x + y ∧ 30 * x + y < 30 * P + 30) by omega)]
      exact n4 x y (by omega) (by omega) hy2
  · rw [hwl k hk, upd_at]
    by_cases e : p = P
    · subst e
      rw [if_pos rfl]
      by_cases q : bt l k = true
      · rw [if_pos q, b_or, bt_sh (by omega) (by omega), decide_eq_true rfl, Bool.or_true, q]
      · rw [if_neg q, n6 k p hk (Nat.le_refl _), btF q]
    · rw [if_neg e]
      by_cases q : bt l k = true
      · rw [if_pos q, b_or, bt_sh (by omega) (by omega), decide_eq_false e, Bool.or_false, n5 k p hk (by omega)]
      · rw [if_neg q, n5 k p hk (by omega)]
  · rw [hwl k hk]
    by_cases q : bt l k = true
    · rw [if_pos q, b_or, n6 k p hk (by omega), Bool.false_or]
      cases h9 : bt (1 <<< (nI P &&& 31)) p with
      | false => rfl
      | true => exact absurd (bitP p h9) (by omega)
    · rw [if_neg q]; exact n6 k p hk (by omega)
  · rcases live w hw hl with e | ⟨e, e2⟩
    · subst e
      refine ⟨P, by omega, ?_, ?_, ?_, ?_, fun i hi => ?_, fun i hi => ?_⟩
      · rw [upd_at, if_pos rfl]
      · rw [vu_same, upd_at, if_pos rfl, upd_at, if_pos rfl, upd_at, if_pos rfl, upd_at, if_pos rfl]
      · rw [upd_at, if_pos rfl]; exact Or.inl rfl
      · intro _; rw [upd_at, if_pos rfl]
      · rw [upd_at, if_pos rfl] at hi
        have h9 := bitP i hi
        subst h9
        exact ⟨Nat.le_refl _, by omega, by show upd _ _ _ _ = upd _ _ _ _; rw [upd_at, if_pos rfl, upd_at, if_pos rfl]⟩
      · rw [upd_at, if_pos rfl] at hi
        have h9 := bitP i hi
        subst h9
        exact ⟨Nat.le_refl _, by omega, by show upd _ _ _ _ = upd _ _ _ _; rw [upd_at, if_pos rfl, upd_at, if_pos rfl]⟩
    · have hne : ¬ w = v := by omega
      have hna : ad w ≠ ad v := fun z => hne (hA w v hw hv z)
      obtain ⟨f, h⟩ := hN w hw e2
      refine ⟨f, ?_⟩
      rw [vu_ne hna, upd_at, if_neg hne, upd_at, if_neg hne, upd_at, if_neg hne, upd_at, if_neg hne, upd_at, if_neg hne]
      obtain ⟨_, _, _, _, _, g1, g2⟩ := id h
      refine NodR_mono h (by omega) (fun i hi => ?_) (fun i hi => ?_)
      · have := (g1 i hi).2.1
        exact ⟨by show upd _ _ _ _ = _; rw [upd_at, if_neg (by omega)], by rw [upd_at, if_neg (by omega)]⟩
      · have := (g2 i hi).2.1
        exact ⟨by show upd _ _ _ _ = _; rw [upd_at, if_neg (by omega)], by rw [upd_at, if_neg (by omega)]⟩
  · rcases live u (by omega) hu with e | ⟨e, e2⟩
    · subst e
      rcases live w hw hl with e9 | ⟨e9, _⟩
      · omega
      · omega
    · have hne : ¬ u = v := by omega
      rw [upd_at (i := u), if_neg hne, upd_at (f := F), if_neg hne, upd_at (f := L), if_neg hne, upd_at (i := w)]
      rcases live w hw hl with e9 | ⟨e9, e8⟩
      · rw [if_pos e9]
        obtain ⟨f, g0, g9, _, _, _, g1, g2⟩ := hN u (by omega) e2
        refine ⟨by rw [g9]; exact nI_le g0 (by omega), fun i hi => ?_⟩
        rcases hi with hi | hi
        · exact nI_lt (g1 i hi).2.1 (by omega)
        · exact nI_lt (g2 i hi).2.1 (by omega)
      · rw [if_neg (by omega)]
        exact hO u w huw hw e2 e8
