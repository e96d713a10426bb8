/-! ===== repeat, act, copy, chain, either keep the relation ===== -/
theorem nI_eqD {a b : Nat} (ha : a < 2 ^ 31) (hb : b < 2 ^ 31) (h : nI a = nI b) : a = b := by rw [← nI_clamp ha, ← nI_clamp hb, h]
theorem Inv_from {ad : Nat → Nat} {P v : Nat} {wl fa la sp sa is em fr no F L fD lD lt sd st : Nat → Int32} {pf : Nat → PT} (hI : Inv ad P wl fa la sp sa pf is em fr no F L fD lD lt sd st) (hv : v < 27) (hl : ¬ is v = 0) : ∃ f, f ≤ P ∧ fr v = nI f ∧ pf (ad v) = (nI f, F v, L v, em v, no v) ∧ (em v = 0 ∨ em v = 1) ∧ (∀ i, P ≤ i → bt (F v) i = false) ∧ ∀ i, P ≤ i → bt (L v) i = false := by
  obtain ⟨hP, _, hN, hO⟩ := hI
  obtain ⟨f, a, b, c, d, e, g1, g2⟩ := hN v hv hl
  refine ⟨f, a, b, c, d, fun i hi => ?_, fun i hi => ?_⟩
  · cases h : bt (F v) i with
    | false => rfl
    | true => exact absurd (g1 i h).2.1 (by omega)
  · cases h : bt (L v) i with
    | false => rfl
    | true => exact absurd (g2 i h).2.1 (by omega)
theorem Inv_repeat {ad : Nat → Nat} {P v : Nat} {sg : Int32} {wl fa la sp sa is em fr no F L fD lD lt sd st sp' sa' em' no' sd' st' : Nat → Int32} {pf : Nat → PT} (hI : Inv ad P wl fa la sp sa pf is em fr no F L fD lD lt sd st) (hA : Inj27 ad) (hv : v < 27) (hl : ¬ is v = 0)
    (hem : ∀ a, em' a = if a = v ∧ ¬ sg = 43 then 1 else em a) (hno : ∀ a, no' a = if a = v ∧ em v = 0 then 0 else no a)
    (hsd : ∀ a b, a < 30 → b < 30 → sd' (30 * a + b) = if ¬ sg = 63 ∧ bt (L v) a = true ∧ bt (F v) b = true then sd (30 * a + b) ||| (lD (30 * v + a) ||| fD (30 * v + b)) else sd (30 * a + b))
    (hst : ∀ a b, a < 30 → b < 30 → st' (30 * a + b) = if ¬ sg = 63 ∧ bt (L v) a = true ∧ bt (F v) b = true then 1 else st (30 * a + b))
    (hsp : ∀ a, a < 30 → sp' a = if ¬ sg = 63 ∧ a < P ∧ bt (pf (ad v)).2.2.1 a = true then sp a ||| (pf (ad v)).2.1 else sp a)
    (hsa : ∀ a b, a < 30 → b < 30 → sa' (30 * a + b) = if ¬ sg = 63 ∧ a < P ∧ b < P ∧ bt (pf (ad v)).2.2.1 a = true ∧ bt (pf (ad v)).2.1 b = true then sa (30 * a + b) ||| (la a ||| fa b) else sa (30 * a + b)) :
    Inv ad P wl fa la sp' sa' (va_up pf (ad v) ((pf (ad v)).1, (pf (ad v)).2.1, (pf (ad v)).2.2.1, if sg = 43 then (pf (ad v)).2.2.2.1 else 1, (pf (ad v)).2.2.2.2)) is em' fr no' F L fD lD lt sd' st' := by
  obtain ⟨hP, hNet, hN, hO⟩ := hI
  obtain ⟨f, a1, b1, c1, d1, e1, g1, g2⟩ := hN v hv hl
  simp only [c1] at hsp hsa ⊢
  refine ⟨hP, ?_, fun w hw hlw => ?_, hO⟩
  · by_cases e : sg = 63
    · refine NetR_link (fa := fa) (la := la) (fD := fa) (lD := la) (L := 0) (F := 0) hNet hP (fun a ha i => ?_) (fun a b ha hb => ?_) (fun a b ha hb => ?_) (fun a b ha hb => ?_) (fun i hi => ?_) (fun i hi => ?_)
      · rw [hsp a (by omega), if_neg (fun z => z.1 e), b_0]; simp
      · rw [hsa a b ha hb, if_neg (fun z => z.1 e), if_neg (fun z => by rw [b_0] at z; exact absurd z.2.2.1 (by decide))]
      · rw [hsd a b ha hb, if_neg (fun z => z.1 e), if_neg (fun z => by rw [b_0] at z; exact absurd z.1 (by decide))]
      · rw [hst a b ha hb, if_neg (fun z => z.1 e), if_neg (fun z => by rw [b_0] at z; exact absurd z.1 (by decide))]
      · rw [b_0] at hi; exact absurd hi (by decide)
      · rw [b_0] at hi; exact absurd hi (by decide)
    · refine NetR_link (fa := fa) (la := la) (fD := fun i => fD (30 * v + i)) (lD := fun i => lD (30 * v + i)) (L := L v) (F := F v) hNet hP (fun a ha i => ?_) (fun a b ha hb => ?_) (fun a b ha hb => ?_) (fun a b ha hb => ?_) (fun i hi => (g2 i hi).2) (fun i hi => (g1 i hi).2)
      · rw [hsp a (by omega)]
        cases h9 : bt (L v) a with
        | true => rw [if_pos ⟨e, ha, rfl⟩, b_or]; simp
        | false => rw [if_neg (fun z => absurd z.2.2 (by decide))]; simp
      · rw [hsa a b ha hb]
        by_cases q : a < P ∧ b < P ∧ bt (L v) a = true ∧ bt (F v) b = true
        · rw [if_pos q, if_pos ⟨e, q⟩]
        · rw [if_neg q, if_neg (fun z => q z.2)]
      · rw [hsd a b ha hb]
        by_cases q : bt (L v) a = true ∧ bt (F v) b = true
        · rw [if_pos q, if_pos ⟨e, q⟩]
        · rw [if_neg q, if_neg (fun z => q z.2)]
      · rw [hst a b ha hb]
        by_cases q : bt (L v) a = true ∧ bt (F v) b = true
        · rw [if_pos q, if_pos ⟨e, q⟩]
        · rw [if_neg q, if_neg (fun z => q z.2)]
  · by_cases e : w = v
    · subst e
      have en : no' w = no w := by
        rw [hno w]
        by_cases q : em w = 0
        · rw [if_pos ⟨rfl, q⟩, e1 q]
        · rw [if_neg (fun z => q z.2)]
      have ee : em' w = if sg = 43 then em w else 1 := by
        rw [hem w]
        by_cases q : sg = 43
        · rw [if_pos q, if_neg (fun z => z.2 q)]
        · rw [if_neg q, if_pos ⟨rfl, q⟩]
      refine ⟨f, a1, b1, ?_, ?_, ?_, g1, g2⟩
      · rw [vu_same, en, ee]
      · rw [ee]; split
        · exact d1
        · exact Or.inr rfl
      · rw [ee, en]; split
        · exact e1
        · intro z; exact absurd z (by decide)
    · have hna : ad w ≠ ad v := fun z => e (hA w v hw hv z)
      obtain ⟨g, h⟩ := hN w hw hlw
      refine ⟨g, ?_⟩
      rw [vu_ne hna, hem w, if_neg (fun z => e z.1), hno w, if_neg (fun z => e z.1)]
      exact h
theorem Inv_act {ad : Nat → Nat} {P v f : Nat} {sg b : Int32} {wl fa la sp sa is em fr no F L fD lD lt sd st fa' la' sa' no' fD' lD' sd' : Nat → Int32} {pf : Nat → PT} (hI : Inv ad P wl fa la sp sa pf is em fr no F L fD lD lt sd st) (hA : Inj27 ad) (hv : v < 27) (hl : ¬ is v = 0) (htop : ∀ w, v < w → w < 27 → is w = 0) (hfP : f ≤ P) (hfr : fr v = nI f)
    (hno : ∀ a, no' a = if a = v ∧ sg = 37 ∧ ¬ em v = 0 then no v ||| b else no a)
    (hfD : ∀ a d, a < 30 → d < 30 → fD' (30 * a + d) = if a = v ∧ f ≤ d ∧ d < P ∧ bt (F v) d = true ∧ (sg = 62 ∨ sg = 36 ∨ sg = 64 ∧ bt (L v) d = true) then fD (30 * a + d) ||| b else fD (30 * a + d))
    (hlD : ∀ a d, a < 30 → d < 30 → lD' (30 * a + d) = if a = v ∧ f ≤ d ∧ d < P ∧ bt (L v) d = true ∧ sg = 37 then lD (30 * a + d) ||| b else lD (30 * a + d))
    (hsd : ∀ a d, a < 30 → d < 30 → sd' (30 * a + d) = if f ≤ d ∧ d < P ∧ f ≤ a ∧ a < P ∧ ¬ st (30 * a + d) = 0 ∧ (sg = 36 ∨ sg = 64 ∧ bt (L v) d = true) then sd (30 * a + d) ||| b else sd (30 * a + d))
    (hfa : ∀ p, fa' p = if p < P ∧ bt (pf (ad v)).2.1 p = true ∧ (sg = 62 ∨ sg = 36 ∨ sg = 64 ∧ bt (pf (ad v)).2.2.1 p = true) then fa p ||| b else fa p)
    (hla : ∀ p, la' p = if p < P ∧ bt (pf (ad v)).2.2.1 p = true ∧ sg = 37 then la p ||| b else la p)
    (hsa : ∀ a d, a < 30 → d < 30 → sa' (30 * a + d) = if f ≤ a ∧ a < P ∧ f ≤ d ∧ d < P ∧ bt (sp a) d = true ∧ (sg = 36 ∨ sg = 64 ∧ bt (pf (ad v)).2.2.1 d = true) then sa (30 * a + d) ||| b else sa (30 * a + d)) :
    Inv ad P wl fa' la' sp sa' (va_up pf (ad v) ((pf (ad v)).1, (pf (ad v)).2.1, (pf (ad v)).2.2.1, (pf (ad v)).2.2.2.1, if sg = 37 ∧ ¬ (pf (ad v)).2.2.2.1 = 0 then (pf (ad v)).2.2.2.2 ||| b else (pf (ad v)).2.2.2.2)) is em fr no' F L fD' lD' lt sd' st := by
  obtain ⟨hP, ⟨n1, n2, n3, n4, n5, n6⟩, hN, hO⟩ := hI
  obtain ⟨f9, a1, b1, c1, d1, e1, g1, g2⟩ := hN v hv hl
  have ef : f9 = f := nI_eqD (by omega) (by omega) (b1.symm.trans hfr)
  subst ef
  simp only [c1] at hfa hla hsa ⊢
  refine ⟨hP, ⟨n1, n2, fun x y hx hy => ?_, fun x y hx hy hy2 => ?_, n5, n6⟩, fun w hw hlw => ?_, hO⟩
  · rw [hsd x y (by omega) (by omega), hsa x y (by omega) (by omega), n3 x y hx hy, n1 x y hx hy]
    by_cases q : f9 ≤ x ∧ x < P ∧ f9 ≤ y ∧ y < P ∧ bt (sp x) y = true ∧ (sg = 36 ∨ sg = 64 ∧ bt (L v) y = true)
    · rw [if_pos q, if_pos ⟨q.2.2.1, q.2.2.2.1, q.1, q.2.1, by rw [if_pos q.2.2.2.2.1]; decide, q.2.2.2.2.2⟩]
    · rw [if_neg q, if_neg (fun z => q ⟨z.2.2.1, z.2.2.2.1, z.1, z.2.1, Classical.not_not.mp (fun z9 => z.2.2.2.2.1 (by rw [if_neg z9])), z.2.2.2.2.2⟩)]
  · rw [hsa x y (by omega) hy2, if_neg (by omega), n4 x y hx hy hy2]
  · by_cases e : w = v
    · subst e
      refine ⟨f9, a1, b1, ?_, d1, ?_, fun i hi => ?_, fun i hi => ?_⟩
      · rw [vu_same, hno w]
        by_cases q : sg = 37 ∧ ¬ em w = 0
        · rw [if_pos q, if_pos ⟨rfl, q⟩]
        · rw [if_neg q, if_neg (fun z => q z.2)]
      · intro z
        rw [hno w, if_neg (fun q => q.2.2 z), e1 z]
      · obtain ⟨u1, u2, u3⟩ := g1 i hi
        dsimp only at u3
        refine ⟨u1, u2, ?_⟩
        show fD' _ = _
        rw [hfD w i (by omega) (by omega), hfa i]
        by_cases q : sg = 62 ∨ sg = 36 ∨ sg = 64 ∧ bt (L w) i = true
        · rw [if_pos ⟨rfl, u1, u2, hi, q⟩, if_pos ⟨u2, hi, q⟩, u3]
        · rw [if_neg (fun z => q z.2.2.2.2), if_neg (fun z => q z.2.2), u3]
      · obtain ⟨u1, u2, u3⟩ := g2 i hi
        dsimp only at u3
        refine ⟨u1, u2, ?_⟩
        show lD' _ = _
        rw [hlD w i (by omega) (by omega), hla i]
        by_cases q : sg = 37
        · rw [if_pos ⟨rfl, u1, u2, hi, q⟩, if_pos ⟨u2, hi, q⟩, u3]
        · rw [if_neg (fun z => q z.2.2.2.2), if_neg (fun z => q z.2.2), u3]
    · have hna : ad w ≠ ad v := fun z => e (hA w v hw hv z)
      have hwv : w < v := Nat.lt_of_not_le (fun z => hlw (htop w (by omega) hw))
      obtain ⟨g, h⟩ := hN w hw hlw
      refine ⟨g, ?_⟩
      rw [vu_ne hna, hno w, if_neg (fun z => e z.1)]
      have ho := (hO w v hwv hv hlw hl).2
      obtain ⟨_, _, _, _, _, k1, k2⟩ := id h
      refine NodR_mono h (Nat.le_refl _) (fun i hi => ?_) (fun i hi => ?_)
      · have h8 := (k1 i hi).2.1
        have h9 := ho i (Or.inl hi)
        rw [b1] at h9
        have h7 := nI_ltD (by omega) h9
        exact ⟨by show fD' _ = _; rw [hfD w i (by omega) (by omega), if_neg (fun z => e z.1)], by rw [hfa i, if_neg (fun z => absurd (g1 i z.2.1).1 (by omega))]⟩
      · have h8 := (k2 i hi).2.1
        have h9 := ho i (Or.inr hi)
        rw [b1] at h9
        have h7 := nI_ltD (by omega) h9
        exact ⟨by show lD' _ = _; rw [hlD w i (by omega) (by omega), if_neg (fun z => e z.1)], by rw [hla i, if_neg (fun z => absurd (g2 i z.2.1).1 (by omega))]⟩
theorem Inv_copy {ad : Nat → Nat} {P v d : Nat} {wl fa la sp sa is em fr no F L fD lD lt sd st fD' lD' : Nat → Int32} {pf : Nat → PT} (hI : Inv ad P wl fa la sp sa pf is em fr no F L fD lD lt sd st) (hA : Inj27 ad) (hv : v < 27) (hl : ¬ is v = 0) (hd : d < v) (hfree : ∀ w, d ≤ w → w < 27 → w ≠ v → is w = 0)
    (hfD : ∀ a b, a < 30 → b < 30 → fD' (30 * a + b) = if a = d then fD (30 * v + b) else fD (30 * a + b)) (hlD : ∀ a b, a < 30 → b < 30 → lD' (30 * a + b) = if a = d then lD (30 * v + b) else lD (30 * a + b)) :
    Inv ad P wl fa la sp sa (va_up pf (ad d) (pf (ad v))) (upd (upd is d 1) v 0) (upd em d (em v)) (upd fr d (fr v)) (upd no d (no v)) (upd F d (F v)) (upd L d (L v)) fD' lD' lt sd st := by
  obtain ⟨hP, hNet, hN, hO⟩ := hI
  have live : ∀ w, w < 27 → ¬ upd (upd is d 1) v 0 w = 0 → w = d ∨ (w < d ∧ ¬ is w = 0) := by
    intro w hw h
    by_cases e : w = v
    · rw [upd_at, if_pos e] at h; exact absurd rfl h
    · rw [upd_at, if_neg e, upd_at] at h
      by_cases e2 : w = d
      · exact Or.inl e2
      · rw [if_neg e2] at h
        exact Or.inr ⟨Nat.lt_of_not_le (fun z => h (hfree w z hw e)), h⟩
  refine ⟨hP, hNet, fun w hw hlw => ?_, fun u w huw hw hu hlw => ?_⟩
  · rcases live w hw hlw with e | ⟨e, e2⟩
    · subst e
      obtain ⟨f, h⟩ := hN v hv hl
      refine ⟨f, ?_⟩
      rw [vu_same, upd_at, if_pos rfl, upd_at, if_pos rfl, upd_at, if_pos rfl, upd_at, if_pos rfl, upd_at, if_pos rfl]
      obtain ⟨_, _, _, _, _, k1, k2⟩ := id h
      refine NodR_mono h (Nat.le_refl _) (fun i hi => ⟨?_, rfl⟩) (fun i hi => ⟨?_, rfl⟩)
      · have h8 := (k1 i hi).2.1
        show fD' _ = _
        rw [hfD w i (by omega) (by omega), if_pos rfl]
      · have h8 := (k2 i hi).2.1
        show lD' _ = _
        rw [hlD w i (by omega) (by omega), if_pos rfl]
    · have hne : ¬ w = d := by omega
      have hna : ad w ≠ ad d := fun z => hne (hA w d hw (by omega) z)
      obtain ⟨f, h⟩ := hN w hw e2
      refine ⟨f, ?_⟩
      rw [vu_ne hna, upd_at, if_neg hne, upd_at, if_neg hne, upd_at, if_neg hne, upd_at, if_neg hne, upd_at, if_neg hne]
      obtain ⟨_, _, _, _, _, k1, k2⟩ := id h
      refine NodR_mono h (Nat.le_refl _) (fun i hi => ⟨?_, rfl⟩) (fun i hi => ⟨?_, rfl⟩)
      · have h8 := (k1 i hi).2.1
        show fD' _ = _
        rw [hfD w i (by omega) (by omega), if_neg hne]
      · have h8 := (k2 i hi).2.1
        show lD' _ = _
        rw [hlD w i (by omega) (by omega), if_neg hne]
  · rcases live u (by omega) hu with e | ⟨e, e2⟩
    · rcases live w hw hlw with e9 | ⟨e9, _⟩
      · omega
      · omega
    · have hne : ¬ u = d := by omega
      rw [upd_at (i := u), if_neg hne, upd_at (f := F), if_neg hne, upd_at (f := L), if_neg hne, upd_at (i := w)]
      rcases live w hw hlw with e9 | ⟨e9, e8⟩
      · rw [if_pos e9]
        exact hO u v (by omega) hv e2 hl
      · rw [if_neg (by omega)]
        exact hO u w huw hw e2 e8
theorem Inv_chain {ad : Nat → Nat} {P v d : Nat} {wl fa la sp sa is em fr no F L fD lD lt sd st sp' sa' fb' lb' fD' lD' sd' st' : Nat → Int32} {pf : Nat → PT} (hI : Inv ad P wl fa la sp sa pf is em fr no F L fD lD lt sd st) (hA : Inj27 ad) (hv : v < 27) (hl : ¬ is v = 0) (hd : d < v) (hld : ¬ is d = 0) (hfree : ∀ w, d < w → w < 27 → w ≠ v → is w = 0)
    (hsp : ∀ a, a < 30 → sp' a = if a < P ∧ bt (pf (ad d)).2.2.1 a = true then sp a ||| (pf (ad v)).2.1 else sp a)
    (hsa : ∀ a b, a < 30 → b < 30 → sa' (30 * a + b) = if a < P ∧ b < P ∧ bt (pf (ad d)).2.2.1 a = true ∧ bt (pf (ad v)).2.1 b = true then sa (30 * a + b) ||| (la a ||| fa b) else sa (30 * a + b))
    (hfb : ∀ a, fb' a = if a = d then (if em d = 0 then F d else F d ||| F v) else F a) (hlb : ∀ a, lb' a = if a = d then (if em v = 0 then L v else L d ||| L v) else L a)
    (hfD : ∀ a b, a < 30 → b < 30 → fD' (30 * a + b) = if a = d ∧ ¬ em d = 0 ∧ bt (F v) b = true then fD (30 * v + b) ||| no d else fD (30 * a + b))
    (hlD : ∀ a b, a < 30 → b < 30 → lD' (30 * a + b) = if a = d ∧ bt (L v) b = true then lD (30 * v + b) else if a = d ∧ ¬ em v = 0 ∧ bt (L d) b = true then lD (30 * a + b) ||| no v else lD (30 * a + b))
    (hsd : ∀ a b, a < 30 → b < 30 → sd' (30 * a + b) = if bt (L d) a = true ∧ bt (F v) b = true then sd (30 * a + b) ||| (lD (30 * d + a) ||| fD (30 * v + b)) else sd (30 * a + b))
    (hst : ∀ a b, a < 30 → b < 30 → st' (30 * a + b) = if bt (L d) a = true ∧ bt (F v) b = true then 1 else st (30 * a + b)) :
    Inv ad P wl (if (pf (ad d)).2.2.2.1 = 0 then fa else giveS (pf (ad v)).2.1 (pf (ad d)).2.2.2.2 fa P) (if (pf (ad v)).2.2.2.1 = 0 then la else giveS (pf (ad d)).2.2.1 (pf (ad v)).2.2.2.2 la P) sp' sa' (va_up pf (ad d) ((pf (ad d)).1, if (pf (ad d)).2.2.2.1 = 0 then (pf (ad d)).2.1 else (pf (ad d)).2.1 ||| (pf (ad v)).2.1, if (pf (ad v)).2.2.2.1 = 0 then (pf (ad v)).2.2.1 else (pf (ad d)).2.2.1 ||| (pf (ad v)).2.2.1, if (pf (ad d)).2.2.2.1 = 0 ∨ (pf (ad v)).2.2.2.1 = 0 then 0 else 1, if (pf (ad d)).2.2.2.1 = 0 ∨ (pf (ad v)).2.2.2.1 = 0 then 0 else (pf (ad d)).2.2.2.2 ||| (pf (ad v)).2.2.2.2)) (upd is v 0) (upd em d (if em d = 0 ∨ em v = 0 then 0 else 1)) fr (upd no d (if em d = 0 ∨ em v = 0 then 0 else no d ||| no v)) fb' lb' fD' lD' lt sd' st' := by
  obtain ⟨hP, hNet, hN, hO⟩ := hI
  obtain ⟨g, a2, b2, c2, d2, e2, k1, k2⟩ := hN v hv hl
  obtain ⟨f, a1, b1, c1, d1, e1, g1, g2⟩ := hN d (by omega) hld
  simp only [c1, c2] at hsp hsa ⊢
  have hfg : f ≤ g := nI_leD (by omega) (by rw [← b1, ← b2]; exact (hO d v hd hv hld hl).1)
  have hdv : ∀ i, (bt (F d) i = true ∨ bt (L d) i = true) → i < g := by
    intro i hi
    have h9 := (hO d v hd hv hld hl).2 i hi
    rw [b2] at h9
    refine nI_ltD ?_ h9
    rcases hi with hi | hi
    · have := (g1 i hi).2.1; omega
    · have := (g2 i hi).2.1; omega
  have live : ∀ w, w < 27 → ¬ upd is v 0 w = 0 → w = d ∨ (w < d ∧ ¬ is w = 0) := by
    intro w hw h
    by_cases e : w = v
    · rw [upd_at, if_pos e] at h; exact absurd rfl h
    · rw [upd_at, if_neg e] at h
      by_cases e2 : w = d
      · exact Or.inl e2
      · exact Or.inr ⟨Nat.lt_of_not_le (fun z => h (hfree w (by omega) hw e)), h⟩
  refine ⟨hP, ?_, fun w hw hlw => ?_, fun u w huw hw hu hlw => ?_⟩
  · refine NetR_link (fa := fa) (la := la) (fD := fun i => fD (30 * v + i)) (lD := fun i => lD (30 * d + i)) (L := L d) (F := F v) hNet hP (fun a ha i => ?_) hsa hsd hst (fun i hi => (g2 i hi).2) (fun i hi => (k1 i hi).2)
    rw [hsp a (by omega)]
    cases h9 : bt (L d) a with
    | true => rw [if_pos ⟨ha, rfl⟩, b_or]; simp
    | false => rw [if_neg (fun z => absurd z.2 (by decide))]; simp
  · rcases live w hw hlw with e | ⟨e, e3⟩
    · subst e
      refine ⟨f, a1, b1, ?_, ?_, ?_, fun i hi => ?_, fun i hi => ?_⟩
      · rw [vu_same, hfb w, if_pos rfl, hlb w, if_pos rfl, upd_at, if_pos rfl, upd_at, if_pos rfl]
      · rw [upd_at, if_pos rfl]; split
        · exact Or.inl rfl
        · exact Or.inr rfl
      · rw [upd_at, if_pos rfl, upd_at, if_pos rfl]; split
        · intro _; rfl
        · intro z; exact absurd z (by decide)
      · rw [hfb w, if_pos rfl] at hi
        by_cases q : em w = 0
        · rw [if_pos q] at hi
          obtain ⟨u1, u2, u3⟩ := g1 i hi
          dsimp only at u3
          refine ⟨u1, u2, ?_⟩
          show fD' _ = _
          rw [hfD w i (by omega) (by omega), if_neg (fun z => z.2.1 q), if_pos q]
          exact u3
        · rw [if_neg q, b_or] at hi
          rw [if_neg q]
          unfold giveS
          by_cases q2 : bt (F v) i = true
          · obtain ⟨u1, u2, u3⟩ := k1 i q2
            dsimp only at u3
            refine ⟨by omega, u2, ?_⟩
            show fD' _ = _
            rw [hfD w i (by omega) (by omega), if_pos ⟨rfl, q, q2⟩, if_pos ⟨u2, q2⟩, ← u3]
          · rw [btF q2, Bool.or_false] at hi
            obtain ⟨u1, u2, u3⟩ := g1 i hi
            dsimp only at u3
            refine ⟨by omega, u2, ?_⟩
            show fD' _ = _
            rw [hfD w i (by omega) (by omega), if_neg (fun z => q2 z.2.2), if_neg (fun z => q2 z.2), ← u3]
      · rw [hlb w, if_pos rfl] at hi
        by_cases q : em v = 0
        · rw [if_pos q] at hi
          obtain ⟨u1, u2, u3⟩ := k2 i hi
          dsimp only at u3
          refine ⟨by omega, u2, ?_⟩
          show lD' _ = _
          rw [hlD w i (by omega) (by omega), if_pos ⟨rfl, hi⟩, if_pos q]
          exact u3
        · rw [if_neg q, b_or] at hi
          rw [if_neg q]
          unfold giveS
          by_cases q2 : bt (L v) i = true
          · obtain ⟨u1, u2, u3⟩ := k2 i q2
            dsimp only at u3
            refine ⟨by omega, u2, ?_⟩
            show lD' _ = _
            rw [hlD w i (by omega) (by omega), if_pos ⟨rfl, q2⟩, if_neg (fun z => absurd (hdv i (Or.inr z.2)) (by omega)), ← u3]
          · rw [btF q2, Bool.or_false] at hi
            obtain ⟨u1, u2, u3⟩ := g2 i hi
            dsimp only at u3
            refine ⟨by omega, u2, ?_⟩
            show lD' _ = _
            rw [hlD w i (by omega) (by omega), if_neg (fun z => q2 z.2), if_pos ⟨rfl, q, hi⟩, if_pos ⟨u2, hi⟩, ← u3]
    · have hne : ¬ w = d := by omega
      have hna : ad w ≠ ad d := fun z => hne (hA w d hw (by omega) z)
      obtain ⟨f9, h⟩ := hN w hw e3
      refine ⟨f9, ?_⟩
      rw [vu_ne hna, hfb w, if_neg hne, hlb w, if_neg hne, upd_at, if_neg hne, upd_at, if_neg hne]
      obtain ⟨_, _, _, _, _, j1, j2⟩ := id h
      have ho := (hO w d e (by omega) e3 hld).2
      refine NodR_mono h (Nat.le_refl _) (fun i hi => ⟨?_, ?_⟩) (fun i hi => ⟨?_, ?_⟩)
      · have h8 := (j1 i hi).2.1
        show fD' _ = _
        rw [hfD w i (by omega) (by omega), if_neg (fun z => hne z.1)]
      · have h8 := (j1 i hi).2.1
        have h9 := ho i (Or.inl hi)
        rw [b1] at h9
        have h7 := nI_ltD (by omega) h9
        split
        · rfl
        · unfold giveS; rw [if_neg (fun z => absurd (k1 i z.2).1 (by omega))]
      · have h8 := (j2 i hi).2.1
        show lD' _ = _
        rw [hlD w i (by omega) (by omega), if_neg (fun z => hne z.1), if_neg (fun z => hne z.1)]
      · have h8 := (j2 i hi).2.1
        have h9 := ho i (Or.inr hi)
        rw [b1] at h9
        have h7 := nI_ltD (by omega) h9
        split
        · rfl
        · unfold giveS; rw [if_neg (fun z => absurd (g2 i z.2).1 (by omega))]
  · rcases live u (by omega) hu with e | ⟨e, e3⟩
    · rcases live w hw hlw with e9 | ⟨e9, _⟩
      · omega
      · omega
    · have hne : ¬ u = d := by omega
      rw [hfb u, if_neg hne, hlb u, if_neg hne]
      rcases live w hw hlw with e9 | ⟨e9, e8⟩
      · subst e9; exact hO u w (by omega) hw e3 hld
      · exact hO u w huw hw e3 e8
theorem Inv_either {ad : Nat → Nat} {P v d : Nat} {wl fa la sp sa is em fr no F L fD lD lt sd st fb' lb' fD' lD' : Nat → Int32} {pf : Nat → PT} (hI : Inv ad P wl fa la sp sa pf is em fr no F L fD lD lt sd st) (hA : Inj27 ad) (hv : v < 27) (hl : ¬ is v = 0) (hd : d < v) (hld : ¬ is d = 0) (hfree : ∀ w, d < w → w < 27 → w ≠ v → is w = 0)
    (hfb : ∀ a, fb' a = if a = d then F d ||| F v else F a) (hlb : ∀ a, lb' a = if a = d then L d ||| L v else L a)
    (hfD : ∀ a b, a < 30 → b < 30 → fD' (30 * a + b) = if a = d ∧ bt (F v) b = true then fD (30 * v + b) else fD (30 * a + b))
    (hlD : ∀ a b, a < 30 → b < 30 → lD' (30 * a + b) = if a = d ∧ bt (L v) b = true then lD (30 * v + b) else lD (30 * a + b)) :
    Inv ad P wl fa la sp sa (va_up pf (ad d) ((pf (ad d)).1, (pf (ad d)).2.1 ||| (pf (ad v)).2.1, (pf (ad d)).2.2.1 ||| (pf (ad v)).2.2.1, if (pf (ad d)).2.2.2.1 = 0 ∧ (pf (ad v)).2.2.2.1 = 0 then 0 else 1, (pf (ad d)).2.2.2.2 ||| (pf (ad v)).2.2.2.2)) (upd is v 0) (upd em d (if em d = 0 ∧ em v = 0 then 0 else 1)) fr (upd no d ((if em d = 0 then 0 else no d) ||| (if em v = 0 then 0 else no v))) fb' lb' fD' lD' lt sd st := by
  obtain ⟨hP, hNet, hN, hO⟩ := hI
  obtain ⟨g, a2, b2, c2, d2, e2, k1, k2⟩ := hN v hv hl
  obtain ⟨f, a1, b1, c1, d1, e1, g1, g2⟩ := hN d (by omega) hld
  simp only [c1, c2]
  have hfg : f ≤ g := nI_leD (by omega) (by rw [← b1, ← b2]; exact (hO d v hd hv hld hl).1)
  have en1 : (if em d = 0 then 0 else no d) = no d := by
    by_cases q : em d = 0
    · rw [if_pos q, e1 q]
    · rw [if_neg q]
  have en2 : (if em v = 0 then 0 else no v) = no v := by
    by_cases q : em v = 0
    · rw [if_pos q, e2 q]
    · rw [if_neg q]
  rw [en1, en2]
  have live : ∀ w, w < 27 → ¬ upd is v 0 w = 0 → w = d ∨ (w < d ∧ ¬ is w = 0) := by
    intro w hw h
    by_cases e : w = v
    · rw [upd_at, if_pos e] at h; exact absurd rfl h
    · rw [upd_at, if_neg e] at h
      by_cases e2 : w = d
      · exact Or.inl e2
      · exact Or.inr ⟨Nat.lt_of_not_le (fun z => h (hfree w (by omega) hw e)), h⟩
  refine ⟨hP, hNet, fun w hw hlw => ?_, fun u w huw hw hu hlw => ?_⟩
  · rcases live w hw hlw with e | ⟨e, e3⟩
    · subst e
      refine ⟨f, a1, b1, ?_, ?_, ?_, fun i hi => ?_, fun i hi => ?_⟩
      · rw [vu_same, hfb w, if_pos rfl, hlb w, if_pos rfl, upd_at, if_pos rfl, upd_at, if_pos rfl]
      · rw [upd_at, if_pos rfl]; split
        · exact Or.inl rfl
        · exact Or.inr rfl
      · rw [upd_at, if_pos rfl, upd_at, if_pos rfl]; split
        · rename_i q; intro _; rw [e1 q.1, e2 q.2]; rfl
        · intro z; exact absurd z (by decide)
      · rw [hfb w, if_pos rfl, b_or] at hi
        by_cases q2 : bt (F v) i = true
        · obtain ⟨u1, u2, u3⟩ := k1 i q2
          dsimp only at u3
          refine ⟨by omega, u2, ?_⟩
          show fD' _ = _
          rw [hfD w i (by omega) (by omega), if_pos ⟨rfl, q2⟩]
          exact u3
        · rw [btF q2, Bool.or_false] at hi
          obtain ⟨u1, u2, u3⟩ := g1 i hi
          dsimp only at u3
          refine ⟨by omega, u2, ?_⟩
          show fD' _ = _
          rw [hfD w i (by omega) (by omega), if_neg (fun z => q2 z.2)]
          exact u3
      · rw [hlb w, if_pos rfl, b_or] at hi
        by_cases q2 : bt (L v) i = true
        · obtain ⟨u1, u2, u3⟩ := k2 i q2
          dsimp only at u3
          refine ⟨by omega, u2, ?_⟩
          show lD' _ = _
          rw [hlD w i (by omega) (by omega), if_pos ⟨rfl, q2⟩]
          exact u3
        · rw [btF q2, Bool.or_false] at hi
          obtain ⟨u1, u2, u3⟩ := g2 i hi
          dsimp only at u3
          refine ⟨by omega, u2, ?_⟩
          show lD' _ = _
          rw [hlD w i (by omega) (by omega), if_neg (fun z => q2 z.2)]
          exact u3
    · have hne : ¬ w = d := by omega
      have hna : ad w ≠ ad d := fun z => hne (hA w d hw (by omega) z)
      obtain ⟨f9, h⟩ := hN w hw e3
      refine ⟨f9, ?_⟩
      rw [vu_ne hna, hfb w, if_neg hne, hlb w, if_neg hne, upd_at, if_neg hne, upd_at, if_neg hne]
      obtain ⟨_, _, _, _, _, j1, j2⟩ := id h
      refine NodR_mono h (Nat.le_refl _) (fun i hi => ⟨?_, rfl⟩) (fun i hi => ⟨?_, rfl⟩)
      · have h8 := (j1 i hi).2.1
        show fD' _ = _
        rw [hfD w i (by omega) (by omega), if_neg (fun z => hne z.1)]
      · have h8 := (j2 i hi).2.1
        show lD' _ = _
        rw [hlD w i (by omega) (by omega), if_neg (fun z => hne z.1)]
  · rcases live u (by omega) hu with e | ⟨e, e3⟩
    · rcases live w hw hlw with e9 | ⟨e9, _⟩
      · omega
      · omega
    · have hne : ¬ u = d := by omega
      rw [hfb u, if_neg hne, hlb u, if_neg hne]
      rcases live w hw hlw with e9 | ⟨e9, e8⟩
      · subst e9; exact hO u w (by omega) hw e3 hld
      · exact hO u w huw hw e3 e8
