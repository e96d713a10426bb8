/-! ===== the states: the class's build, the model's build and finish ===== -/
def BCtx (P : Nat) (wl fa la sp sa : F1) (t : PT) (em no F0 L0 : Int32) (fD lD lt sd st : F1) : Prop := P ≤ 30 ∧ NetR P wl sp sa lt sd st ∧ t.2 = (F0, L0, em, no) ∧ (em = 0 ∨ em = 1) ∧ (em = 0 → no = 0) ∧ (∀ i, bt F0 i = true → i < P ∧ fD i = fa i) ∧ ∀ i, bt L0 i = true → i < P ∧ lD i = la i
theorem way_eq {P s l : Nat} {wl fa la sp sa fD lD lt sd st F se set wy wa : F1} {pf : Nat → PT} {q0 : Nat} {em no L0 ncc ns : Int32} {z_length z_where z_thrown z_at z_bad z_states z_positions z_now z_fed z_over : Int32} {z_found : Int32} (hB : BCtx P wl fa la sp sa (pf q0) em no (F 0) L0 fD lD lt sd st) (hs : s < 50) (hl : l < 4) (hse : set s = se s) (h0 : s = 0 → se 0 = 0) : ∃ X A : Int32, (∀ i, P ≤ i → bt X i = false) ∧ (X = 0 → A = 0) ∧ R_M_reach (nI s) (nI l) z_length z_where z_thrown z_at (nI P) z_bad z_states z_positions z_now z_fed z_over F fD lt sd st set z_found (X, A) ∧ ∀ out, (∃ n, g_Mach_findWay (nI s) (nI l) (nI P) ncc (nI P) wl fa sp sa q0 pf n 1 X A (nI P) ns se wy wa out) → R_Mach_findWay (nI s) (nI l) (nI P) ncc (nI P) wl fa sp sa q0 pf ns se wy wa out := by
  obtain ⟨hP, ⟨n1, n2, n3, n4, n5, n6⟩, ht, _, _, hF, _⟩ := hB
  obtain ⟨X, A, r1, r2, r3⟩ := R_M_reach_ok (z_length := z_length) (z_where := z_where) (z_thrown := z_thrown) (z_at := z_at) (z_bad := z_bad) (z_states := z_states) (z_positions := z_positions) (z_now := z_now) (z_fed := z_fed) (z_over := z_over) (z_found := z_found) (F := F) (fD := fD) (lt := lt) (sd := sd) (st := st) (set := set) hP (show s < 51 by omega) hl
  have stp : ∀ q i, q < P → i < P → (¬ st (30 * q + i) = 0 ↔ bt (sp q) i = true) := by
    intro q i hq hi
    rw [n1 q i hq hi]
    by_cases e : bt (sp q) i = true
    · rw [if_pos e]; exact ⟨fun _ => e, fun _ => by decide⟩
    · rw [if_neg e]; exact ⟨fun z => absurd rfl z, fun z => absurd z e⟩
  have wlP : ∀ y, bt (wl l) y = true → y < P := by
    intro y hy
    refine Nat.lt_of_not_le (fun z => ?_)
    rw [n6 l y hl z] at hy
    exact absurd hy (by decide)
  refine ⟨X, A, fun i hi => ?_, fun hX => ?_, r1, fun out hout => ?_⟩
  · cases h : bt X i with
    | false => rfl
    | true => exact absurd ((r2 i (b_lt h)).mp h).1 (by omega)
  · refine eq_of_bits (fun b hb => ⟨fun h => ?_, fun h => by rw [b_0] at h; exact absurd h (by decide)⟩)
    obtain ⟨i, i1, i2, i3⟩ := (r3 b hb).mp h
    have hx : bt X i = true := (r2 i (by omega)).mpr ⟨i1, i2, by
      rcases i3 with k | ⟨k0, q, k1, k2, k3, _⟩
      · exact Or.inl ⟨k.1, k.2.1⟩
      · exact Or.inr ⟨k0, q, k1, k2, k3⟩⟩
    rw [hX, b_0] at hx
    exact absurd hx (by decide)
  · by_cases e0 : s = 0
    · subst e0
      obtain ⟨X', A', c1, c2, c3⟩ := findWay_loop (ncc := ncc) (ns := ns) (wl := wl) (fa := fa) (sp := sp) (sa := sa) (se := se) (wy := wy) (wa := wa) (q0 := q0) (pf := pf) hP hs hl P 0 (F 0 &&& wl l) (orS (F 0 &&& wl l) (fun q => fa (0 + q)) P) (by omega)
      have eX : X' = X := by
        refine eq_of_bits (fun i hi => ?_)
        rw [c1 i, r2 i hi, b_and, Bool.and_eq_true]
        constructor
        · rintro (h | ⟨q, _, _, h, _⟩)
          · exact ⟨wlP i h.2, by rw [← n5 l i hl (wlP i h.2)]; exact h.2, Or.inl ⟨rfl, h.1⟩⟩
          · rw [h0 rfl, b_0] at h; exact absurd h (by decide)
        · rintro ⟨k1, k2, k | k⟩
          · exact Or.inl ⟨k.2, by rw [n5 l i hl k1]; exact k2⟩
          · exact absurd k.1 (by omega)
      have eA : A' = A := by
        refine eq_of_bits (fun b hb => ?_)
        rw [c2 b, r3 b hb, orS_bit]
        constructor
        · rintro (⟨q, k1, k2, k3⟩ | ⟨q, _, _, h, _⟩)
          · rw [b_and, Bool.and_eq_true] at k2
            refine ⟨q, k1, by rw [← n5 l q hl k1]; exact k2.2, Or.inl ⟨rfl, k2.1, ?_⟩⟩
            rw [(hF q k2.1).2]
            rw [Nat.zero_add] at k3
            exact k3
          · rw [h0 rfl, b_0] at h; exact absurd h (by decide)
        · rintro ⟨i, k1, k2, k | k⟩
          · refine Or.inl ⟨i, k1, ?_, ?_⟩
            · rw [b_and, Bool.and_eq_true]; exact ⟨k.2.1, by rw [n5 l i hl k1]; exact k2⟩
            · rw [Nat.zero_add, ← (hF i k.2.1).2]; exact k.2.2
          · exact absurd k.1 (by omega)
      subst eX eA
      refine ⟨fun z => absurd nI_0 z, fun _ => ⟨vp_in_nI hl (by decide), (orS (F 0 &&& wl l) (fun q => fa (0 + q)) P, ()), ⟨(orS (F 0 &&& wl l) (fun q => fa (0 + q)) P, ()), ?_, rfl⟩, ?_⟩⟩
      · rw [nI_clamp (by omega), show (pf q0).2.1 = F 0 by rw [ht]]
        exact R_Net_together_ok (s := 0) (N := 30) hP (by omega) (by decide)
      · rw [nI_clamp (show l < 2 ^ 31 by omega), show (pf q0).2.1 = F 0 by rw [ht]]
        have h9 := c3 out hout
        rw [nI_0] at h9
        rw [nI_0]
        exact h9
    · have hs0 : 0 < s := by omega
      obtain ⟨X', A', c1, c2, c3⟩ := findWay_loop (ncc := ncc) (ns := ns) (wl := wl) (fa := fa) (sp := sp) (sa := sa) (se := se) (wy := wy) (wa := wa) (q0 := q0) (pf := pf) hP hs hl P 0 0 0 (by omega)
      have eX : X' = X := by
        refine eq_of_bits (fun i hi => ?_)
        rw [c1 i, r2 i hi, b_0, hse]
        constructor
        · rintro (h | ⟨q, _, k1, k2, k3, k4⟩)
          · exact absurd h (by decide)
          · have hi9 := wlP i k4
            exact ⟨hi9, by rw [← n5 l i hl hi9]; exact k4, Or.inr ⟨hs0, q, k1, k2, (stp q i k1 hi9).mpr k3⟩⟩
        · rintro ⟨k1, k2, k | ⟨_, q, k3, k4, k5⟩⟩
          · exact absurd k.1 e0
          · exact Or.inr ⟨q, by omega, k3, k4, (stp q i k3 k1).mp k5, by rw [n5 l i hl k1]; exact k2⟩
      have eA : A' = A := by
        refine eq_of_bits (fun b hb => ?_)
        rw [c2 b, r3 b hb, b_0, hse]
        constructor
        · rintro (h | ⟨q, _, k1, k2, y, k3, k4, k5, k6⟩)
          · exact absurd h (by decide)
          · exact ⟨y, k3, by rw [← n5 l y hl k3]; exact k5, Or.inr ⟨hs0, q, k1, k2, (stp q y k1 k3).mpr k4, by rw [n3 q y k1 k3]; exact k6⟩⟩
        · rintro ⟨i, k1, k2, k | ⟨_, q, k3, k4, k5, k6⟩⟩
          · exact absurd k.1 e0
          · exact Or.inr ⟨q, by omega, k3, k4, i, k1, (stp q i k3 k1).mp k5, by rw [n5 l i hl k1]; exact k2, by rw [← n3 q i k3 k1]; exact k6⟩
      subst eX eA
      have h9 := c3 out hout
      rw [nI_0] at h9
      exact ⟨fun _ => h9, fun z => absurd z (nI_ne0 hs0 (by omega))⟩
theorem idx_ok {N : Nat} {X np ncc : Int32} {se : F1} (h50 : N ≤ 50) : ∀ (c x : Nat), x + c = N → (∃ i, x ≤ i ∧ i < N ∧ se i = X ∧ (∀ z, x ≤ z → z < i → ¬ se z = X) ∧ ∃ n, g_Mach_indexOf X np ncc n 1 (nI x) (nI N) se (nI i, nI N, se)) ∨ ((∀ z, x ≤ z → z < N → ¬ se z = X) ∧ (N < 50 → ∃ n, g_Mach_indexOf X np ncc n 1 (nI x) (nI N) se (nI N, nI (N + 1), upd se N X)) ∧ (N = 50 → ∃ n, g_Mach_indexOf X np ncc n 1 (nI x) (nI N) se (50, nI N, se))) := by
  intro c
  induction c with
  | zero =>
    intro x hx
    refine Or.inr ⟨fun z h1 h2 => by omega, fun h => ⟨1, ?_⟩, fun h => ⟨1, ?_⟩⟩
    · rw [g_Mach_indexOf_1, nI_1, nI_pred, nI_clamp (show N < 2 ^ 31 by omega)]
      exact ⟨fun _ => ⟨fun _ => ⟨vp_in_nI h (by decide), rfl⟩, fun z => absurd (nI_lt (b := 50) h (by omega)) z⟩, fun z => absurd (nI_le (by omega) (by omega)) z⟩
    · rw [g_Mach_indexOf_1]
      exact ⟨fun _ => ⟨fun z => absurd z (nI_nlt (b := 50) (by omega) (by omega)), fun _ => rfl⟩, fun z => absurd (nI_le (by omega) (by omega)) z⟩
  | succ c ih =>
    intro x hx
    by_cases e : se x = X
    · refine Or.inl ⟨x, Nat.le_refl _, by omega, e, fun z h1 h2 => by omega, 1, ?_⟩
      rw [g_Mach_indexOf_1, nI_clamp (show x < 2 ^ 31 by omega)]
      exact ⟨fun z => absurd z (nI_ge (by omega) (by omega)), fun _ => ⟨vp_in_nI (by omega) (by decide), fun z => absurd e z, fun _ => rfl⟩⟩
    · have go : ∀ out, (∃ n, g_Mach_indexOf X np ncc n 1 (nI (x + 1)) (nI N) se out) → ∃ n, g_Mach_indexOf X np ncc n 1 (nI x) (nI N) se out := by
        intro out ⟨n, h⟩
        refine ⟨n + 1, ?_⟩
        rw [g_Mach_indexOf_1, nI_clamp (show x < 2 ^ 31 by omega), nI_1 x]
        exact ⟨fun z => absurd z (nI_ge (by omega) (by omega)), fun _ => ⟨vp_in_nI (by omega) (by decide), fun _ => h, fun z => absurd z e⟩⟩
      rcases ih (x + 1) (by omega) with ⟨i, h1, h2, h3, h4, h5⟩ | ⟨h1, h2, h3⟩
      · refine Or.inl ⟨i, by omega, h2, h3, fun z z1 z2 => ?_, go _ h5⟩
        rcases Nat.eq_or_lt_of_le z1 with q | q
        · rw [← q]; exact e
        · exact h4 z q z2
      · refine Or.inr ⟨fun z z1 z2 => ?_, fun h => go _ (h2 h), fun h => go _ (h3 h)⟩
        rcases Nat.eq_or_lt_of_le z1 with q | q
        · rw [← q]; exact e
        · exact h1 z q z2
theorem scan_ok {P N i : Nat} {X x2 x3 fnd : Int32} {z_length z_where z_thrown z_at z_bad z_states z_positions z_now z_fed z_over : Int32} {F fD lt sd st set go does : F1} {out : Int32 × Int32 × F1 × F1 × F1} (h50 : N ≤ 50) (hiN : i ≤ N) (hi : i < N → set i = X) : ∀ (c x : Nat), x + c = i → (∀ z, x ≤ z → z < i → ¬ set z = X) → (∃ n, g_M_build z_length z_where z_thrown z_at (nI P) z_bad z_states z_positions z_now z_fed z_over F fD lt sd st n 4 (nI N) x2 x3 X (nI i) fnd set go does out) → ∃ n, g_M_build z_length z_where z_thrown z_at (nI P) z_bad z_states z_positions z_now z_fed z_over F fD lt sd st n 3 (nI N) x2 x3 X (nI x) fnd set go does out := by
  intro c
  induction c with
  | zero =>
    intro x hx _ ⟨n, h⟩
    have e : x = i := by omega
    subst e
    refine ⟨n + 1, ?_⟩
    rw [g_M_build_3, nI_clamp (show x < 2 ^ 31 by omega)]
    refine ⟨fun _ => h, fun z => ⟨vp_in_nI (by omega) (by decide), fun _ => h, fun z2 => ?_⟩⟩
    exact absurd (hi (Nat.lt_of_not_le (fun q => z (nI_le q (by omega))))) z2
  | succ c ih =>
    intro x hx hz h
    obtain ⟨n, h⟩ := ih (x + 1) (by omega) (fun z z1 z2 => hz z (by omega) z2) h
    refine ⟨n + 1, ?_⟩
    rw [g_M_build_3, nI_clamp (show x < 2 ^ 31 by omega), nI_1]
    exact ⟨fun z => absurd z (nI_ge (by omega) (by omega)), fun _ => ⟨vp_in_nI (by omega) (by decide), fun z => absurd z (hz x (Nat.le_refl _) (by omega)), fun _ => h⟩⟩
def BR (P N m : Nat) (se wy wa set go does : F1) : Prop := 1 ≤ N ∧ N ≤ 50 ∧ se 0 = 0 ∧ (∀ i, i < N → set i = se i ∧ ∀ b, P ≤ b → bt (se i) b = false) ∧ ∀ k, k < m → go k = wy k ∧ does k = wa k ∧ ((wy k = -1 ∧ wa k = 0) ∨ ∃ t, t < N ∧ wy k = nI t)
theorem build_step {P N s l : Nat} {wl fa la sp sa fD lD lt sd st F se set wy wa go does : F1} {pf : Nat → PT} {q0 : Nat} {em no L0 ncc : Int32} {z_length z_where z_thrown z_at z_bad z_states z_positions z_now z_fed z_over : Int32} {fnd : Int32} (hB : BCtx P wl fa la sp sa (pf q0) em no (F 0) L0 fD lD lt sd st) (hR : BR P N (s * 4 + l) se wy wa set go does) (hs : s < N) (hl : l < 4) :
    (∃ (N' : Nat) (se' wy' wa' set' go' does' : F1) (fnd' : Int32), N ≤ N' ∧ (∀ i, i < N → se' i = se i) ∧ BR P N' (s * 4 + (l + 1)) se' wy' wa' set' go' does' ∧ R_Mach_findWay (nI s) (nI l) (nI P) ncc (nI P) wl fa sp sa q0 pf (nI N) se wy wa (1, nI N', se', wy', wa') ∧ ∀ out, (∃ n, g_M_build z_length z_where z_thrown z_at (nI P) z_bad z_states z_positions z_now z_fed z_over F fD lt sd st n 2 (nI N') (nI s) (nI (l + 1)) 0 0 fnd' set' go' does' out) → ∃ n, g_M_build z_length z_where z_thrown z_at (nI P) z_bad z_states z_positions z_now z_fed z_over F fD lt sd st n 2 (nI N) (nI s) (nI l) 0 0 fnd set go does out)
    ∨ ∃ (v : Int32 × Int32 × F1 × F1 × F1) (o : Int32 × Int32 × F1 × F1 × F1), R_Mach_findWay (nI s) (nI l) (nI P) ncc (nI P) wl fa sp sa q0 pf (nI N) se wy wa v ∧ v.1 = 0 ∧ (∃ n, g_M_build z_length z_where z_thrown z_at (nI P) z_bad z_states z_positions z_now z_fed z_over F fD lt sd st n 2 (nI N) (nI s) (nI l) 0 0 fnd set go does o) ∧ o.1 = nI 51 := by
  obtain ⟨b1, b2, b3, b4, b5⟩ := hR
  obtain ⟨X, A, w1, w2, w3, w4⟩ := way_eq (ncc := ncc) (ns := nI N) (wy := wy) (wa := wa) (z_length := z_length) (z_where := z_where) (z_thrown := z_thrown) (z_at := z_at) (z_bad := z_bad) (z_states := z_states) (z_positions := z_positions) (z_now := z_now) (z_fed := z_fed) (z_over := z_over) (z_found := fnd) (set := set) hB (show s < 50 by omega) hl (b4 s hs).1 (fun _ => b3)
  have hm : vp_in (nI (s * 4 + l)) 200 := vp_in_nI (by omega) (by decide)
  have cm := nI_clamp (show s * 4 + l < 2 ^ 31 by omega)
  have n4 : ¬ 4 ≤ nI l := nI_ge (a := l) (b := 4) hl (by omega)
  have n50 : ¬ 50 < nI N := nI_nlt (a := 50) (b := N) b2 (by omega)
  have rw9 : ∀ (g : F1) (v : Int32) (k : Nat), upd g (s * 4 + l) v k = if k = s * 4 + l then v else g k := fun g v k => rfl
  by_cases hX : X = 0
  · have hA := w2 hX
    refine Or.inl ⟨N, se, upd wy (s * 4 + l) (-1), upd wa (s * 4 + l) A, set, upd go (s * 4 + l) (-1), upd does (s * 4 + l) A, A, Nat.le_refl _, fun _ _ => rfl, ⟨b1, b2, b3, b4, fun k hk => ?_⟩, w4 _ ⟨1, ?_⟩, fun out ⟨n, h⟩ => ⟨n + 1, ?_⟩⟩
    · rw [rw9, rw9, rw9, rw9]
      by_cases e : k = s * 4 + l
      · rw [if_pos e, if_pos e, if_pos e, if_pos e]; exact ⟨rfl, rfl, Or.inl ⟨rfl, hA⟩⟩
      · rw [if_neg e, if_neg e, if_neg e, if_neg e]; exact b5 k (by omega)
    · rw [g_Mach_findWay_1, ix1, cm]
      exact ⟨fun _ => ⟨fun z => absurd hX z, fun _ => ⟨fun _ => ⟨hm, hm, rfl⟩, fun z => absurd (by decide) z⟩⟩, fun z => absurd (nI_le (Nat.le_refl _) (by have := hB.1; omega)) z⟩
    · rw [g_M_build_2, ix2, cm, nI_1 l]
      exact ⟨fun z => absurd z n4, fun _ => ⟨fun z => absurd z n50, fun _ => ⟨(X, A), w3, hm, hm, fun z => absurd hX z, fun _ => h⟩⟩⟩
  · have cls : ∀ (v : Int32 × Int32 × F1) (o : Int32 × Int32 × F1 × F1 × F1), R_Mach_indexOf X (nI P) ncc (nI N) se v → ((v.1 < 50 → o = (1, v.2.1, v.2.2, upd wy (s * 4 + l) v.1, upd wa (s * 4 + l) A)) ∧ (¬ v.1 < 50 → o = (0, v.2.1, v.2.2, wy, wa))) → R_Mach_findWay (nI s) (nI l) (nI P) ncc (nI P) wl fa sp sa q0 pf (nI N) se wy wa o := by
      intro v o hv ho
      refine w4 _ ⟨1, ?_⟩
      rw [g_Mach_findWay_1, ix1, cm]
      exact ⟨fun _ => ⟨fun _ => ⟨v, hv, fun z => ⟨hm, hm, ho.1 z⟩, ho.2⟩, fun z => absurd z hX⟩, fun z => absurd (nI_le (Nat.le_refl _) (by have := hB.1; omega)) z⟩
    have mdl : ∀ out, (∃ n, g_M_build z_length z_where z_thrown z_at (nI P) z_bad z_states z_positions z_now z_fed z_over F fD lt sd st n 3 (nI N) (nI s) (nI l) X (nI 1) A set (upd go (s * 4 + l) (-1)) (upd does (s * 4 + l) A) out) → ∃ n, g_M_build z_length z_where z_thrown z_at (nI P) z_bad z_states z_positions z_now z_fed z_over F fD lt sd st n 2 (nI N) (nI s) (nI l) 0 0 fnd set go does out := by
      intro out ⟨n, h⟩
      refine ⟨n + 1, ?_⟩
      rw [g_M_build_2, ix2, cm]
      exact ⟨fun z => absurd z n4, fun _ => ⟨fun z => absurd z n50, fun _ => ⟨(X, A), w3, hm, hm, fun _ => h, fun z => absurd z hX⟩⟩⟩
    have five : ∀ (N1 i : Nat) (set1 : F1) out, (∃ n, g_M_build z_length z_where z_thrown z_at (nI P) z_bad z_states z_positions z_now z_fed z_over F fD lt sd st n 2 (nI N1) (nI s) (nI (l + 1)) 0 0 A set1 (upd (upd go (s * 4 + l) (-1)) (s * 4 + l) (nI i)) (upd does (s * 4 + l) A) out) → ∃ n, g_M_build z_length z_where z_thrown z_at (nI P) z_bad z_states z_positions z_now z_fed z_over F fD lt sd st n 5 (nI N1) (nI s) (nI l) 0 (nI i) A set1 (upd go (s * 4 + l) (-1)) (upd does (s * 4 + l) A) out := by
      intro N1 i set1 out ⟨n, h⟩
      refine ⟨n + 1, ?_⟩
      rw [g_M_build_5, ix2, cm, nI_1 l]
      exact ⟨hm, h⟩
    have tbl : ∀ (N1 i : Nat), i < N1 → N ≤ N1 → ∀ k, k < s * 4 + (l + 1) → upd (upd go (s * 4 + l) (-1)) (s * 4 + l) (nI i) k = upd wy (s * 4 + l) (nI i) k ∧ upd does (s * 4 + l) A k = upd wa (s * 4 + l) A k ∧ ((upd wy (s * 4 + l) (nI i) k = -1 ∧ upd wa (s * 4 + l) A k = 0) ∨ ∃ t, t < N1 ∧ upd wy (s * 4 + l) (nI i) k = nI t) := by
      intro N1 i h1 h2 k hk
      rw [rw9, rw9, rw9, rw9, rw9]
      by_cases e : k = s * 4 + l
      · rw [if_pos e, if_pos e, if_pos e, if_pos e]; exact ⟨rfl, rfl, Or.inr ⟨i, h1, rfl⟩⟩
      · rw [if_neg e, if_neg e, if_neg e, if_neg e, if_neg e]
        obtain ⟨k1, k2, k3⟩ := b5 k (by omega)
        exact ⟨k1, k2, k3.imp id (fun ⟨t, t1, t2⟩ => ⟨t, by omega, t2⟩)⟩
    rcases idx_ok (X := X) (np := nI P) (ncc := ncc) (se := se) b2 (N - 1) 1 (by omega) with ⟨i, i1, i2, i3, i4, i5⟩ | ⟨i1, i2, i3⟩
    · refine Or.inl ⟨N, se, upd wy (s * 4 + l) (nI i), upd wa (s * 4 + l) A, set, _, _, A, Nat.le_refl _, fun _ _ => rfl, ⟨b1, b2, b3, b4, tbl N i i2 (Nat.le_refl _)⟩, cls (nI i, nI N, se) _ i5 ⟨fun _ => rfl, fun z => absurd (nI_lt (b := 50) (show i < 50 by omega) (by omega)) z⟩, fun out h => mdl out (scan_ok (i := i) b2 (by omega) (fun h => by rw [(b4 i h).1]; exact i3) (i - 1) 1 (by omega) (fun z z1 z2 => by rw [(b4 z (by omega)).1]; exact i4 z z1 z2) ?_)⟩
      obtain ⟨n, h⟩ := five N i set out h
      refine ⟨n + 1, ?_⟩
      rw [g_M_build_4]
      exact ⟨fun _ => h, fun z => absurd (nI_eqD (by omega) (by omega) z) (by omega)⟩
    · by_cases h50 : N < 50
      · have hne : ∀ i, i < N → (upd se N X i = se i ∧ upd set N X i = set i) := fun i hi => ⟨by rw [upd_at, if_neg (by omega)], by rw [upd_at, if_neg (by omega)]⟩
        refine Or.inl ⟨N + 1, upd se N X, upd wy (s * 4 + l) (nI N), upd wa (s * 4 + l) A, upd set N X, _, _, A, by omega, fun i hi => (hne i hi).1, ⟨by omega, by omega, by rw [(hne 0 (by omega)).1]; exact b3, fun i hi => ?_, tbl (N + 1) N (by omega) (by omega)⟩, cls (nI N, nI (N + 1), upd se N X) _ (i2 h50) ⟨fun _ => rfl, fun z => absurd (nI_lt (b := 50) h50 (by omega)) z⟩, fun out h => mdl out (scan_ok (i := N) b2 (Nat.le_refl _) (fun h => by omega) (N - 1) 1 (by omega) (fun z z1 z2 => by rw [(b4 z (by omega)).1]; exact i1 z z1 z2) ?_)⟩
        · by_cases e : i = N
          · subst e; rw [upd_at, if_pos rfl, upd_at, if_pos rfl]; exact ⟨rfl, w1⟩
          · rw [(hne i (by omega)).1, (hne i (by omega)).2]; exact b4 i (by omega)
        · obtain ⟨n, h⟩ := five (N + 1) N (upd set N X) out h
          refine ⟨n + 1, ?_⟩
          rw [g_M_build_4, nI_1, nI_clamp (show N < 2 ^ 31 by omega)]
          exact ⟨fun z => absurd rfl z, fun _ => ⟨vp_in_nI (by omega) (by decide), h⟩⟩
      · have e50 : N = 50 := by omega
        subst e50
        refine Or.inr ⟨(0, nI 50, se, wy, wa), (nI 51, A, upd set 50 X, upd (upd go (s * 4 + l) (-1)) (s * 4 + l) (nI 50), upd does (s * 4 + l) A), cls (50, nI 50, se) _ (i3 rfl) ⟨fun z => absurd (show (50 : Int32) < 50 from z) (by decide), fun _ => rfl⟩, rfl, mdl _ (scan_ok (i := 50) (N := 50) b2 (Nat.le_refl _) (fun h => by omega) 49 1 (by omega) (fun z z1 z2 => by rw [(b4 z (by omega)).1]; exact i1 z z1 z2) ?_), rfl⟩
        have one : ∃ n, g_M_build z_length z_where z_thrown z_at (nI P) z_bad z_states z_positions z_now z_fed z_over F fD lt sd st n 1 (nI 51) (nI (s + 1)) 0 0 0 A (upd set 50 X) (upd (upd go (s * 4 + l) (-1)) (s * 4 + l) (nI 50)) (upd does (s * 4 + l) A) (nI 51, A, upd set 50 X, upd (upd go (s * 4 + l) (-1)) (s * 4 + l) (nI 50), upd does (s * 4 + l) A) := by
          refine ⟨1, ?_⟩
          rw [g_M_build_1]
          exact ⟨fun _ => rfl, fun _ => ⟨fun _ => rfl, fun z => absurd (by decide) z⟩⟩
        have two : ∃ n, g_M_build z_length z_where z_thrown z_at (nI P) z_bad z_states z_positions z_now z_fed z_over F fD lt sd st n 2 (nI 51) (nI s) (nI (l + 1)) 0 0 A (upd set 50 X) (upd (upd go (s * 4 + l) (-1)) (s * 4 + l) (nI 50)) (upd does (s * 4 + l) A) (nI 51, A, upd set 50 X, upd (upd go (s * 4 + l) (-1)) (s * 4 + l) (nI 50), upd does (s * 4 + l) A) := by
          obtain ⟨n, h⟩ := one
          refine ⟨n + 1, ?_⟩
          rw [g_M_build_2, nI_1 s]
          exact ⟨fun _ => h, fun _ => ⟨fun _ => h, fun z => absurd (by decide) z⟩⟩
        obtain ⟨n, h⟩ := five 51 50 (upd set 50 X) _ two
        refine ⟨n + 1, ?_⟩
        rw [g_M_build_4, nI_1, nI_clamp (show 50 < 2 ^ 31 by omega)]
        exact ⟨fun z => absurd rfl z, fun _ => ⟨vp_in_nI (by omega) (by decide), h⟩⟩
def vF (em L0 : Int32) (s : Nat) (S : Int32) : Int32 := if s = 0 then em else if S &&& L0 = 0 then 0 else 1
def vE (P : Nat) (no L0 : Int32) (la : F1) (s : Nat) (S : Int32) : Int32 := if s = 0 then no else orS (S &&& L0) (fun q => la (0 + q)) P
theorem findEnd_ok {P s : Nat} {ns ncc : Int32} {se la fi ea : F1} {pf : Nat → PT} {q0 : Nat} {em no F0 L0 : Int32} (hP : P ≤ 30) (hs : s < 50) (ht : (pf q0).2 = (F0, L0, em, no)) (hem : em = 0 ∨ em = 1) : R_Mach_findEnd (nI s) ns (nI P) ncc (nI P) se la q0 pf fi ea (upd fi s (vF em L0 s (se s)), upd ea s (vE P no L0 la s (se s))) := by
  have t1 : (pf q0).2.2.1 = L0 := by rw [ht]
  have t2 : (pf q0).2.2.2.1 = em := by rw [ht]
  have t3 : (pf q0).2.2.2.2 = no := by rw [ht]
  unfold R_Mach_findEnd vF vE
  rw [t1, t2, t3, nI_clamp (show s < 2 ^ 31 by omega), nar0, nar1, nar_b hem]
  have vs : vp_in (nI s) 50 := vp_in_nI hs (by decide)
  have act : R_Net_actionsOfLast (se s &&& L0) (nI P) la (orS (se s &&& L0) (fun q => la (0 + q)) P, ()) := ⟨_, R_Net_together_ok (s := 0) (N := 30) hP (by omega) (by decide), rfl⟩
  by_cases e : s = 0
  · rw [if_pos e, if_pos e]
    have e9 : nI s = 0 := by rw [e]; exact nI_0
    exact ⟨vs, fun z => absurd e9 z, fun _ => ⟨vs, fun z => absurd e9 z, fun _ => ⟨vs, rfl⟩⟩⟩
  · rw [if_neg e, if_neg e]
    have e9 : ¬ nI s = 0 := nI_ne0 (by omega) (by omega)
    refine ⟨vs, fun _ => ⟨fun z => ⟨vs, fun _ => ⟨_, act, vs, by rw [if_pos z]⟩, fun z2 => absurd z2 e9⟩, fun z => ⟨vs, fun _ => ⟨_, act, vs, by rw [if_neg z]⟩, fun z2 => absurd z2 e9⟩⟩, fun z => absurd z e9⟩
theorem build_loop {P : Nat} {wl fa la sp sa fD lD lt sd st F cl fn : F1} {pf : Nat → PT} {q0 : Nat} {em no L0 ncc : Int32} {z_length z_where z_thrown z_at z_bad z_states z_positions z_now z_fed z_over : Int32} (hB : BCtx P wl fa la sp sa (pf q0) em no (F 0) L0 fD lD lt sd st) : ∀ (c s l N : Nat) (se wy wa fi ea set go does : F1) (fnd : Int32), 5 * s + l + c = 255 → s < N → l ≤ 4 → BR P N (s * 4 + l) se wy wa set go does → (∀ i, i < s → fi i = vF em L0 i (se i) ∧ ea i = vE P no L0 la i (se i)) →
    (∃ (N' : Nat) (se' wy' wa' fi' ea' set' go' does' : F1) (fnd' : Int32), BR P N' (N' * 4) se' wy' wa' set' go' does' ∧ (∀ i, i < N' → fi' i = vF em L0 i (se' i) ∧ ea' i = vE P no L0 la i (se' i)) ∧ (∀ out, (∃ n, g_Mach_build (nI P) wl fa la sp sa q0 pf n 1 (nI N') 0 (nI N') (nI P) ncc se' wy' wa' fi' ea' cl fn out) → ∃ n, g_Mach_build (nI P) wl fa la sp sa q0 pf n 2 (nI s) (nI l) (nI N) (nI P) ncc se wy wa fi ea cl fn out) ∧ ∃ n, g_M_build z_length z_where z_thrown z_at (nI P) z_bad z_states z_positions z_now z_fed z_over F fD lt sd st n 2 (nI N) (nI s) (nI l) 0 0 fnd set go does (nI N', fnd', set', go', does'))
    ∨ ∃ v o, (∃ n, g_Mach_build (nI P) wl fa la sp sa q0 pf n 2 (nI s) (nI l) (nI N) (nI P) ncc se wy wa fi ea cl fn v) ∧ v.1 = 0 ∧ (∃ n, g_M_build z_length z_where z_thrown z_at (nI P) z_bad z_states z_positions z_now z_fed z_over F fD lt sd st n 2 (nI N) (nI s) (nI l) 0 0 fnd set go does o) ∧ o.1 = nI 51 := by
  intro c
  induction c with
  | zero => intro s l N se wy wa fi ea set go does fnd h1 h2 h3 h4; have := h4.2.1; omega
  | succ c ih =>
    intro s l N se wy wa fi ea set go does fnd h1 h2 h3 h4 h5
    have h50 := h4.2.1
    by_cases hl : l = 4
    · subst hl
      have fe := findEnd_ok (ns := nI N) (ncc := ncc) (se := se) (la := la) (fi := fi) (ea := ea) (pf := pf) (q0 := q0) hB.1 (show s < 50 by omega) hB.2.2.1 hB.2.2.2.1
      have hfe : ∀ i, i < s + 1 → upd fi s (vF em L0 s (se s)) i = vF em L0 i (se i) ∧ upd ea s (vE P no L0 la s (se s)) i = vE P no L0 la i (se i) := by
        intro i hi
        rw [upd_at, upd_at]
        by_cases e : i = s
        · rw [if_pos e, if_pos e, e]; exact ⟨rfl, rfl⟩
        · rw [if_neg e, if_neg e]; exact h5 i (by omega)
      have c2 : ∀ out, (∃ n, g_Mach_build (nI P) wl fa la sp sa q0 pf n 1 (nI (s + 1)) 0 (nI N) (nI P) ncc se wy wa (upd fi s (vF em L0 s (se s))) (upd ea s (vE P no L0 la s (se s))) cl fn out) → ∃ n, g_Mach_build (nI P) wl fa la sp sa q0 pf n 2 (nI s) (nI 4) (nI N) (nI P) ncc se wy wa fi ea cl fn out := by
        intro out ⟨n, h⟩
        refine ⟨n + 1, ?_⟩
        rw [g_Mach_build_2, nI_1]
        exact ⟨fun _ => ⟨_, fe, h⟩, fun z => absurd (by decide) z⟩
      have m2 : ∀ out, (∃ n, g_M_build z_length z_where z_thrown z_at (nI P) z_bad z_states z_positions z_now z_fed z_over F fD lt sd st n 1 (nI N) (nI (s + 1)) 0 0 0 fnd set go does out) → ∃ n, g_M_build z_length z_where z_thrown z_at (nI P) z_bad z_states z_positions z_now z_fed z_over F fD lt sd st n 2 (nI N) (nI s) (nI 4) 0 0 fnd set go does out := by
        intro out ⟨n, h⟩
        refine ⟨n + 1, ?_⟩
        rw [g_M_build_2, nI_1]
        exact ⟨fun _ => h, fun z => absurd (by decide) z⟩
      by_cases hN : s + 1 = N
      · subst hN
        refine Or.inl ⟨s + 1, se, wy, wa, _, _, set, go, does, fnd, ⟨h4.1, h4.2.1, h4.2.2.1, h4.2.2.2.1, fun k hk => h4.2.2.2.2 k (by omega)⟩, hfe, c2, m2 _ ⟨1, ?_⟩⟩
        rw [g_M_build_1]
        exact ⟨fun _ => rfl, fun z => absurd (nI_le (Nat.le_refl _) (by omega)) z⟩
      · have c1 : ∀ out, (∃ n, g_Mach_build (nI P) wl fa la sp sa q0 pf n 2 (nI (s + 1)) (nI 0) (nI N) (nI P) ncc se wy wa (upd fi s (vF em L0 s (se s))) (upd ea s (vE P no L0 la s (se s))) cl fn out) → ∃ n, g_Mach_build (nI P) wl fa la sp sa q0 pf n 1 (nI (s + 1)) 0 (nI N) (nI P) ncc se wy wa (upd fi s (vF em L0 s (se s))) (upd ea s (vE P no L0 la s (se s))) cl fn out := by
          intro out ⟨n, h⟩
          rw [nI_0] at h
          refine ⟨n + 1, ?_⟩
          rw [g_Mach_build_1]
          exact ⟨fun z => absurd z (nI_ge (by omega) (by omega)), fun _ => ⟨fun z => absurd z (nI_ge (a := s + 1) (b := 50) (by omega) (by omega)), fun _ => h⟩⟩
        have m1 : ∀ out, (∃ n, g_M_build z_length z_where z_thrown z_at (nI P) z_bad z_states z_positions z_now z_fed z_over F fD lt sd st n 2 (nI N) (nI (s + 1)) (nI 0) 0 0 fnd set go does out) → ∃ n, g_M_build z_length z_where z_thrown z_at (nI P) z_bad z_states z_positions z_now z_fed z_over F fD lt sd st n 1 (nI N) (nI (s + 1)) 0 0 0 fnd set go does out := by
          intro out ⟨n, h⟩
          rw [nI_0] at h
          refine ⟨n + 1, ?_⟩
          rw [g_M_build_1]
          exact ⟨fun z => absurd z (nI_ge (by omega) (by omega)), fun _ => ⟨fun z => absurd z (nI_nlt (a := 50) (b := N) h50 (by omega)), fun _ => h⟩⟩
        rcases ih (s + 1) 0 N se wy wa _ _ set go does fnd (by omega) (by omega) (by omega) ⟨h4.1, h4.2.1, h4.2.2.1, h4.2.2.2.1, fun k hk => h4.2.2.2.2 k (by omega)⟩ hfe with ⟨N', se', wy', wa', fi', ea', set', go', does', fnd', q1, q2, q3, q4⟩ | ⟨v, o, q1, q2, q3, q4⟩
        · exact Or.inl ⟨N', se', wy', wa', fi', ea', set', go', does', fnd', q1, q2, fun out h => c2 out (c1 out (q3 out h)), m2 _ (m1 _ q4)⟩
        · exact Or.inr ⟨v, o, c2 _ (c1 _ q1), q2, m2 _ (m1 _ q3), q4⟩
    · have hl4 : l < 4 := by omega
      have n4 : ¬ 4 ≤ nI l := nI_ge (a := l) (b := 4) hl4 (by omega)
      rcases build_step (ncc := ncc) (z_length := z_length) (z_where := z_where) (z_thrown := z_thrown) (z_at := z_at) (z_bad := z_bad) (z_states := z_states) (z_positions := z_positions) (z_now := z_now) (z_fed := z_fed) (z_over := z_over) (fnd := fnd) hB h4 h2 hl4 with ⟨N1, se1, wy1, wa1, set1, go1, does1, fnd1, k1, k2, k3, k4, k5⟩ | ⟨v, o, k1, k2, k3, k4⟩
      · have c2 : ∀ out, (∃ n, g_Mach_build (nI P) wl fa la sp sa q0 pf n 2 (nI s) (nI (l + 1)) (nI N1) (nI P) ncc se1 wy1 wa1 fi ea cl fn out) → ∃ n, g_Mach_build (nI P) wl fa la sp sa q0 pf n 2 (nI s) (nI l) (nI N) (nI P) ncc se wy wa fi ea cl fn out := by
          intro out ⟨n, h⟩
          refine ⟨n + 1, ?_⟩
          rw [g_Mach_build_2, nI_1 l]
          exact ⟨fun z => absurd z n4, fun _ => ⟨_, k4, fun _ => h, fun z => absurd (show (1 : Int32) = 0 from z) (by decide)⟩⟩
        rcases ih s (l + 1) N1 se1 wy1 wa1 fi ea set1 go1 does1 fnd1 (by omega) (by omega) (by omega) k3 (fun i hi => by rw [k2 i (by omega)]; exact h5 i hi) with ⟨N', se', wy', wa', fi', ea', set', go', does', fnd', q1, q2, q3, q4⟩ | ⟨v, o, q1, q2, q3, q4⟩
        · exact Or.inl ⟨N', se', wy', wa', fi', ea', set', go', does', fnd', q1, q2, fun out h => c2 out (q3 out h), k5 _ q4⟩
        · exact Or.inr ⟨v, o, c2 _ q1, q2, k5 _ q3, q4⟩
      · refine Or.inr ⟨(0, v.2.1, nI P, ncc, v.2.2.1, v.2.2.2.1, v.2.2.2.2, fi, ea, cl, fn), o, ⟨1, ?_⟩, rfl, k3, k4⟩
        rw [g_Mach_build_2]
        exact ⟨fun z => absurd z n4, fun _ => ⟨v, k1, fun z => absurd k2 z, fun _ => rfl⟩⟩
