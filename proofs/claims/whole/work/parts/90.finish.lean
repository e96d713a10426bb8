/-! ===== finish ===== -/
theorem finish_in {P N s : Nat} {z_length z_where z_thrown z_at z_bad z_states z_positions z_now z_fed z_found z_over : Int32} {em no L lD set last0 : F1} (hP : P ≤ 30) (hs : s < 50) (hs0 : 0 < s) : ∀ (c x : Nat) (ends : F1), x + c = P → ∃ ends' : F1, (∀ a, a ≠ s → ends' a = ends a) ∧ (∀ b, bt (ends' s) b = true ↔ bt (ends s) b = true ∨ ∃ q, x ≤ q ∧ q < P ∧ bt (set s &&& L 0) q = true ∧ bt (lD q) b = true) ∧ ∀ out, (∃ n, g_M_finish (nI N) z_length z_where z_thrown z_at (nI P) z_bad z_states z_positions z_now z_fed z_found z_over em no L lD set n 1 (nI (s + 1)) 0 ends' last0 out) → ∃ n, g_M_finish (nI N) z_length z_where z_thrown z_at (nI P) z_bad z_states z_positions z_now z_fed z_found z_over em no L lD set n 2 (nI s) (nI x) ends last0 out := by
  have vs : vp_in (nI s) 50 := vp_in_nI hs (by decide)
  have v51 : vp_in (nI s) 51 := vp_in_nI (by omega) (by decide)
  have cs := nI_clamp (show s < 2 ^ 31 by omega)
  have n0 : ¬ nI s ≤ 0 := nI_nle hs0 (by omega)
  have z9 : (0 : Int32).toNatClampNeg = 0 := by decide
  have v0 : vp_in (0 : Int32) 30 := vin30 (x := 0) (by omega)
  intro c
  induction c with
  | zero =>
    intro x ends hx
    refine ⟨ends, fun _ _ => rfl, fun b => ⟨Or.inl, fun h => h.elim id (fun ⟨q, h1, h2, _⟩ => by omega)⟩, fun out ⟨n, h⟩ => ⟨n + 1, ?_⟩⟩
    rw [g_M_finish_2, nI_1]
    exact ⟨fun _ => h, fun z => absurd (nI_le (by omega) (by omega)) z⟩
  | succ c ih =>
    intro x ends hx
    by_cases hb : bt (set s &&& L 0) x = true
    · obtain ⟨ends', h1, h2, h3⟩ := ih (x + 1) (upd ends s (ends s ||| lD x)) (by omega)
      refine ⟨ends', fun a ha => by rw [h1 a ha, upd_at, if_neg ha], fun b => ?_, fun out h => ?_⟩
      · rw [h2 b, upd_at, if_pos rfl, b_or, Bool.or_eq_true]
        constructor
        · rintro ((h | h) | ⟨q, k1, k⟩)
          · exact Or.inl h
          · exact Or.inr ⟨x, Nat.le_refl _, by omega, hb, h⟩
          · exact Or.inr ⟨q, by omega, k⟩
        · rintro (h | ⟨q, k1, k2, k3, k4⟩)
          · exact Or.inl (Or.inl h)
          · by_cases z : q = x
            · subst z; exact Or.inl (Or.inr k4)
            · exact Or.inr ⟨q, by omega, k2, k3, k4⟩
      · obtain ⟨n, h⟩ := h3 out h
        refine ⟨n + 1, ?_⟩
        rw [g_M_finish_2, nI_1 x, cs, nI_clamp (show x < 2 ^ 31 by omega), z9]
        exact ⟨fun z => absurd z (nI_ge (by omega) (by omega)), fun _ => ⟨fun z => absurd z n0, fun _ => ⟨v51, v0, _, R_M_has_yes (by omega) hb, fun z => absurd z (by decide), fun _ => ⟨vs, vp_in_nI (by omega) (by decide), vs, h⟩⟩⟩⟩
    · obtain ⟨ends', h1, h2, h3⟩ := ih (x + 1) ends (by omega)
      refine ⟨ends', h1, fun b => ?_, fun out h => ?_⟩
      · rw [h2 b]
        refine or_congr Iff.rfl ⟨fun ⟨q, k1, k2⟩ => ⟨q, by omega, k2⟩, fun ⟨q, k1, k2, k3, k4⟩ => ?_⟩
        by_cases z : q = x
        · subst z; exact absurd k3 hb
        · exact ⟨q, by omega, k2, k3, k4⟩
      · obtain ⟨n, h⟩ := h3 out h
        refine ⟨n + 1, ?_⟩
        rw [g_M_finish_2, nI_1 x, cs, z9]
        exact ⟨fun z => absurd z (nI_ge (by omega) (by omega)), fun _ => ⟨fun z => absurd z n0, fun _ => ⟨v51, v0, _, R_M_has_no (by omega) (btF hb), fun _ => h, fun z => absurd rfl z⟩⟩⟩
def vEm (P : Nat) (no L0 : Int32) (lD : F1) (s : Nat) (S : Int32) : Int32 := if s = 0 then no else orS (S &&& L0) lD P
theorem finish_ok {P N : Nat} {z_length z_where z_thrown z_at z_bad z_states z_positions z_now z_fed z_found z_over : Int32} {em no L lD set ends last0 : F1} (hP : P ≤ 30) (hN : N ≤ 50) (hem : em 0 = 0 ∨ em 0 = 1) (hno : em 0 = 0 → no 0 = 0) : ∃ ends' last0' : F1, R_M_finish (nI N) z_length z_where z_thrown z_at (nI P) z_bad z_states z_positions z_now z_fed z_found z_over em no L lD set ends last0 (ends', last0') ∧ ∀ i, i < N → ends' i = vEm P (no 0) (L 0) lD i (set i) ∧ last0' i = vF (em 0) (L 0) i (set i) := by
  have z9 : (0 : Int32).toNatClampNeg = 0 := by decide
  have v0 : vp_in (0 : Int32) 30 := vin30 (x := 0) (by omega)
  have key : ∀ (c s : Nat) (ends last0 : F1), s + c = N → (∀ i, i < s → ends i = vEm P (no 0) (L 0) lD i (set i) ∧ last0 i = vF (em 0) (L 0) i (set i)) → ∃ ends' last0' : F1, (∃ n, g_M_finish (nI N) z_length z_where z_thrown z_at (nI P) z_bad z_states z_positions z_now z_fed z_found z_over em no L lD set n 1 (nI s) 0 ends last0 (ends', last0')) ∧ ∀ i, i < N → ends' i = vEm P (no 0) (L 0) lD i (set i) ∧ last0' i = vF (em 0) (L 0) i (set i) := by
    intro c
    induction c with
    | zero =>
      intro s ends last0 hs hi
      have e : s = N := by omega
      subst e
      refine ⟨ends, last0, ⟨1, ?_⟩, hi⟩
      rw [g_M_finish_1]
      exact ⟨fun _ => rfl, fun z => absurd (nI_le (Nat.le_refl _) (by omega)) z⟩
    | succ c ih =>
      intro s ends last0 hs hi
      have vs : vp_in (nI s) 50 := vp_in_nI (by omega) (by decide)
      have v51 : vp_in (nI s) 51 := vp_in_nI (by omega) (by decide)
      have cs := nI_clamp (show s < 2 ^ 31 by omega)
      have ngo : ¬ nI N ≤ nI s := nI_ge (by omega) (by omega)
      by_cases h0 : s = 0
      · subst h0
        have skip : ∀ (e1 l1 : F1) out, (∃ n, g_M_finish (nI N) z_length z_where z_thrown z_at (nI P) z_bad z_states z_positions z_now z_fed z_found z_over em no L lD set n 1 (nI (0 + 1)) 0 e1 l1 out) → ∃ n, g_M_finish (nI N) z_length z_where z_thrown z_at (nI P) z_bad z_states z_positions z_now z_fed z_found z_over em no L lD set n 2 (nI 0) 0 e1 l1 out := by
          intro e1 l1 out ⟨n, h⟩
          refine ⟨n + 1, ?_⟩
          rw [g_M_finish_2, nI_1 0]
          exact ⟨fun _ => h, fun _ => ⟨fun _ => h, fun z => absurd (by decide) z⟩⟩
        by_cases he : em 0 = 0
        · obtain ⟨ends', last0', h1, h2⟩ := ih (0 + 1) (upd ends 0 0) (upd last0 0 (em 0)) (by omega) (fun i hi9 => by
            have e : i = 0 := by omega
            subst e
            unfold vEm vF
            rw [upd_at, if_pos rfl, upd_at, if_pos rfl, if_pos rfl, if_pos rfl, hno he]
            exact ⟨rfl, rfl⟩)
          obtain ⟨n, h⟩ := skip _ _ _ h1
          refine ⟨ends', last0', ⟨n + 1, ?_⟩, h2⟩
          rw [g_M_finish_1, cs, z9, nar_b hem]
          exact ⟨fun z => absurd z ngo, fun _ => ⟨vs, fun z => absurd nI_0 z, fun _ => ⟨v0, vs, fun z => absurd nI_0 z, fun _ => ⟨v0, fun _ => h, fun z => absurd he z⟩⟩⟩⟩
        · obtain ⟨ends', last0', h1, h2⟩ := ih (0 + 1) (upd (upd ends 0 0) 0 (no 0)) (upd last0 0 (em 0)) (by omega) (fun i hi9 => by
            have e : i = 0 := by omega
            subst e
            unfold vEm vF
            rw [upd_at, if_pos rfl, upd_at, if_pos rfl, if_pos rfl, if_pos rfl]
            exact ⟨rfl, rfl⟩)
          obtain ⟨n, h⟩ := skip _ _ _ h1
          refine ⟨ends', last0', ⟨n + 1, ?_⟩, h2⟩
          rw [g_M_finish_1, cs, z9, nar_b hem]
          exact ⟨fun z => absurd z ngo, fun _ => ⟨vs, fun z => absurd nI_0 z, fun _ => ⟨v0, vs, fun z => absurd nI_0 z, fun _ => ⟨v0, fun z => absurd z he, fun _ => ⟨v0, vs, h⟩⟩⟩⟩⟩
      · have hs0 : 0 < s := by omega
        have e9 : ¬ nI s = 0 := nI_ne0 hs0 (by omega)
        obtain ⟨ends1, k1, k2, k3⟩ := finish_in (N := N) (z_length := z_length) (z_where := z_where) (z_thrown := z_thrown) (z_at := z_at) (z_bad := z_bad) (z_states := z_states) (z_positions := z_positions) (z_now := z_now) (z_fed := z_fed) (z_found := z_found) (z_over := z_over) (em := em) (no := no) (L := L) (lD := lD) (set := set) (last0 := upd last0 s (if set s &&& L 0 = 0 then 0 else 1)) hP (show s < 50 by omega) hs0 P 0 (upd ends s 0) (by omega)
        obtain ⟨ends', last0', h1, h2⟩ := ih (s + 1) ends1 (upd last0 s (if set s &&& L 0 = 0 then 0 else 1)) (by omega) (fun i hi9 => by
          by_cases e : i = s
          · subst e
            unfold vEm vF
            rw [upd_at, if_pos rfl, if_neg h0, if_neg h0]
            refine ⟨eq_of_bits (fun b _ => ?_), rfl⟩
            rw [k2 b, orS_bit, upd_at, if_pos rfl, b_0]
            exact ⟨fun h => h.elim (fun z => absurd z (by decide)) (fun ⟨q, _, h⟩ => ⟨q, h⟩), fun ⟨q, h⟩ => Or.inr ⟨q, by omega, h⟩⟩
          · rw [k1 i e, upd_at, if_neg e, upd_at, if_neg e]
            exact hi i (by omega))
        obtain ⟨n, h⟩ := k3 _ h1
        rw [nI_0] at h
        refine ⟨ends', last0', ⟨n + 1, ?_⟩, h2⟩
        rw [g_M_finish_1, cs, z9, nar0, nar1]
        refine ⟨fun z => absurd z ngo, fun _ => ⟨vs, fun _ => ⟨v51, v0, fun z => ⟨vs, fun _ => ?_, fun z2 => absurd z2 e9⟩, fun z => ⟨vs, fun _ => ?_, fun z2 => absurd z2 e9⟩⟩, fun z2 => absurd z2 e9⟩⟩
        · rw [if_pos z] at h; exact h
        · rw [if_neg z] at h; exact h
  obtain ⟨ends', last0', h1, h2⟩ := key N 0 ends last0 (by omega) (fun i hi => by omega)
  rw [nI_0] at h1
  exact ⟨ends', last0', h1, h2⟩
theorem orS_congr {m : Int32} {f g : F1} : ∀ n, (∀ q, q < n → bt m q = true → f q = g q) → orS m f n = orS m g n := by
  intro n
  induction n with
  | zero => intro _; rfl
  | succ n ih =>
    intro h
    show (if bt m n = true then orS m f n ||| f n else orS m f n) = (if bt m n = true then orS m g n ||| g n else orS m g n)
    rw [ih (fun q hq => h q (by omega))]
    by_cases e : bt m n = true
    · rw [if_pos e, if_pos e, h n (by omega) e]
    · rw [if_neg e, if_neg e]
theorem vE_eq {P : Nat} {no L0 : Int32} {la lD : F1} {s : Nat} {S : Int32} (h : ∀ i, bt L0 i = true → i < P ∧ lD i = la i) : vEm P no L0 lD s S = vE P no L0 la s S := by
  unfold vEm vE
  by_cases e : s = 0
  · rw [if_pos e, if_pos e]
  · rw [if_neg e, if_neg e]
    refine orS_congr P (fun q _ hq => ?_)
    rw [b_and, Bool.and_eq_true] at hq
    rw [Nat.zero_add]
    exact (h q hq.2).2
