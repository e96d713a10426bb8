/-! ===== the model's divide ===== -/
theorem nI_sub1 (y : Nat) : nI y + (-1) = nI y - 1 := (Int32.sub_eq_add_neg _ _).symm
theorem sub1_neg : nI 0 - 1 < 0 := by decide
theorem sub1_pos {y : Nat} (h : y < 50) : ¬ nI (y + 1) - 1 < 0 := by rw [nI_pred]; exact nI_pos (by omega)
theorem cnd_like {N x y : Nat} {wy wa : F1} {r : Nat → Nat} (hT : Tbl N wy wa) (hR : RepR N r) {l : Nat} (hl : l < 4) (hx : x < N) (hy : y < N) : (wa (x * 4 + l) = wa (y * 4 + l) ∧ tc r (wy (x * 4 + l)) = tc r (wy (y * 4 + l))) ↔ ((wy (x * 4 + l) = -1 ∧ wy (y * 4 + l) = -1) ∨ ∃ t u, t < N ∧ u < N ∧ wy (x * 4 + l) = nI t ∧ wy (y * 4 + l) = nI u ∧ wa (x * 4 + l) = wa (y * 4 + l) ∧ r t = r u) := by
  have h50 := hT.1
  rcases hT.2 (x * 4 + l) (by omega) with ⟨e, e0⟩ | ⟨t, t1, t2⟩
  · rcases hT.2 (y * 4 + l) (by omega) with ⟨e9, e8⟩ | ⟨u, u1, u2⟩
    · exact ⟨fun _ => Or.inl ⟨e, e9⟩, fun _ => ⟨by rw [e0, e8], by rw [e, e9]⟩⟩
    · refine ⟨fun h => ?_, fun h => ?_⟩
      · have k := h.2
        rw [e, u2, tc_nI (by omega)] at k
        exact absurd k.symm (m1_nI (by have := (hR u u1).1; omega))
      · rcases h with h | ⟨t, _, t1, _, t2, _⟩
        · exact absurd (u2.symm.trans h.2) (m1_nI (by omega))
        · exact absurd (t2.symm.trans e) (m1_nI (by omega))
  · rcases hT.2 (y * 4 + l) (by omega) with ⟨e9, e8⟩ | ⟨u, u1, u2⟩
    · refine ⟨fun h => ?_, fun h => ?_⟩
      · have k := h.2
        rw [e9, t2, tc_nI (by omega)] at k
        exact absurd k (m1_nI (by have := (hR t t1).1; omega))
      · rcases h with h | ⟨_, u, _, u1, _, u2, _⟩
        · exact absurd (t2.symm.trans h.1) (m1_nI (by omega))
        · exact absurd (u2.symm.trans e9) (m1_nI (by omega))
    · rw [t2, u2, tc_nI (by omega), tc_nI (by omega)]
      refine ⟨fun h => Or.inr ⟨t, u, t1, u1, rfl, rfl, h.1, nI_eqD (by have := (hR t t1).1; omega) (by have := (hR u u1).1; omega) h.2⟩, fun h => ?_⟩
      rcases h with h | ⟨t9, u9, t91, u91, t92, u92, h1, h2⟩
      · exact absurd h.1 (m1_nI (by omega))
      · have q1 : t = t9 := nI_eqD (by omega) (by omega) t92
        have q2 : u = u9 := nI_eqD (by omega) (by omega) u92
        subst q1 q2
        exact ⟨h1, by rw [h2]⟩
theorem apart_loop {N x y : Nat} {z_length z_where z_thrown z_at z_many z_bad z_states z_positions z_now z_fed z_found z_over : Int32} {wy wa grp : F1} {r : Nat → Nat} (hT : Tbl N wy wa) (hR : RepR N r) (hx : x < N) (hy : y < N) (hg : ∀ z, z < N → grp z = nI (r z)) : ∀ (c l : Nat), l + c = 4 → ((∀ j, l ≤ j → j < 4 → wa (x * 4 + j) = wa (y * 4 + j) ∧ tc r (wy (x * 4 + j)) = tc r (wy (y * 4 + j))) → ∃ n, g_M_isApart (nI x) (nI y) z_length z_where z_thrown z_at z_many z_bad z_states z_positions z_now z_fed z_found z_over wy wa grp n 1 (nI l) 0 0 0 0 (0, ())) ∧ ((¬ ∀ j, l ≤ j → j < 4 → wa (x * 4 + j) = wa (y * 4 + j) ∧ tc r (wy (x * 4 + j)) = tc r (wy (y * 4 + j))) → ∃ n, g_M_isApart (nI x) (nI y) z_length z_where z_thrown z_at z_many z_bad z_states z_positions z_now z_fed z_found z_over wy wa grp n 1 (nI l) 0 0 0 0 (1, ())) := by
  have h50 := hT.1
  intro c
  induction c with
  | zero =>
    intro l hl
    refine ⟨fun _ => ⟨1, ?_⟩, fun h => absurd (fun j h1 h2 => by omega) h⟩
    rw [g_M_isApart_1]
    exact ⟨fun _ => rfl, fun z => absurd (nI_le (a := 4) (by omega) (by omega)) z⟩
  | succ c ih =>
    intro l hl
    obtain ⟨i1, i2⟩ := ih (l + 1) (by omega)
    have n4 : ¬ 4 ≤ nI l := nI_ge (a := l) (b := 4) (by omega) (by omega)
    have vx : vp_in (nI (x * 4 + l)) 200 := vp_in_nI (by omega) (by decide)
    have vy : vp_in (nI (y * 4 + l)) 200 := vp_in_nI (by omega) (by decide)
    have cx := nI_clamp (show x * 4 + l < 2 ^ 31 by omega)
    have cy := nI_clamp (show y * 4 + l < 2 ^ 31 by omega)
    have m10 : ¬ (0 : Int32) ≤ -1 := by decide
    have c1 : ∀ (z0 : Int32) out, ((0 ≤ wy (x * 4 + l) → z0 = 0) ∧ (¬ 0 ≤ wy (x * 4 + l) → z0 = 1)) → (∃ n, g_M_isApart (nI x) (nI y) z_length z_where z_thrown z_at z_many z_bad z_states z_positions z_now z_fed z_found z_over wy wa grp n 2 (nI l) (wy (x * 4 + l)) (wy (y * 4 + l)) z0 0 out) → ∃ n, g_M_isApart (nI x) (nI y) z_length z_where z_thrown z_at z_many z_bad z_states z_positions z_now z_fed z_found z_over wy wa grp n 1 (nI l) 0 0 0 0 out := by
      intro z0 out h0 ⟨n, h⟩
      refine ⟨n + 1, ?_⟩
      rw [g_M_isApart_1, ix2, ix2, cx, cy]
      refine ⟨fun z => absurd z n4, fun _ => ⟨vx, vy, fun z => ?_, fun z => ?_⟩⟩
      · rw [h0.1 z] at h; exact h
      · rw [h0.2 z] at h; exact h
    have c2 : ∀ (z0 z1 x4 x5 : Int32) out, ((0 ≤ x5 → z1 = 0) ∧ (¬ 0 ≤ x5 → z1 = 1)) → (∃ n, g_M_isApart (nI x) (nI y) z_length z_where z_thrown z_at z_many z_bad z_states z_positions z_now z_fed z_found z_over wy wa grp n 3 (nI l) x4 x5 z1 z0 out) → ∃ n, g_M_isApart (nI x) (nI y) z_length z_where z_thrown z_at z_many z_bad z_states z_positions z_now z_fed z_found z_over wy wa grp n 2 (nI l) x4 x5 z0 0 out := by
      intro z0 z1 x4 x5 out h0 ⟨n, h⟩
      refine ⟨n + 1, ?_⟩
      rw [g_M_isApart_2]
      refine ⟨fun z => ?_, fun z => ?_⟩
      · rw [h0.1 z] at h; exact h
      · rw [h0.2 z] at h; exact h
    have ext : (wa (x * 4 + l) = wa (y * 4 + l) ∧ tc r (wy (x * 4 + l)) = tc r (wy (y * 4 + l))) → ((∀ j, l + 1 ≤ j → j < 4 → wa (x * 4 + j) = wa (y * 4 + j) ∧ tc r (wy (x * 4 + j)) = tc r (wy (y * 4 + j))) ↔ (∀ j, l ≤ j → j < 4 → wa (x * 4 + j) = wa (y * 4 + j) ∧ tc r (wy (x * 4 + j)) = tc r (wy (y * 4 + j)))) := by
      intro e
      refine ⟨fun h j h1 h2 => ?_, fun h j h1 h2 => h j (by omega) h2⟩
      rcases Nat.eq_or_lt_of_le h1 with q | q
      · rw [← q]; exact e
      · exact h j q h2
    have yes : (wa (x * 4 + l) = wa (y * 4 + l) ∧ tc r (wy (x * 4 + l)) = tc r (wy (y * 4 + l))) → (∀ out, (∃ n, g_M_isApart (nI x) (nI y) z_length z_where z_thrown z_at z_many z_bad z_states z_positions z_now z_fed z_found z_over wy wa grp n 1 (nI (l + 1)) 0 0 0 0 out) → ∃ n, g_M_isApart (nI x) (nI y) z_length z_where z_thrown z_at z_many z_bad z_states z_positions z_now z_fed z_found z_over wy wa grp n 1 (nI l) 0 0 0 0 out) → ((∀ j, l ≤ j → j < 4 → wa (x * 4 + j) = wa (y * 4 + j) ∧ tc r (wy (x * 4 + j)) = tc r (wy (y * 4 + j))) → ∃ n, g_M_isApart (nI x) (nI y) z_length z_where z_thrown z_at z_many z_bad z_states z_positions z_now z_fed z_found z_over wy wa grp n 1 (nI l) 0 0 0 0 (0, ())) ∧ ((¬ ∀ j, l ≤ j → j < 4 → wa (x * 4 + j) = wa (y * 4 + j) ∧ tc r (wy (x * 4 + j)) = tc r (wy (y * 4 + j))) → ∃ n, g_M_isApart (nI x) (nI y) z_length z_where z_thrown z_at z_many z_bad z_states z_positions z_now z_fed z_found z_over wy wa grp n 1 (nI l) 0 0 0 0 (1, ())) := fun e go => ⟨fun h => go _ (i1 ((ext e).mpr h)), fun h => go _ (i2 (fun h9 => h ((ext e).mp h9)))⟩
    have noo : (¬ (wa (x * 4 + l) = wa (y * 4 + l) ∧ tc r (wy (x * 4 + l)) = tc r (wy (y * 4 + l)))) → (∃ n, g_M_isApart (nI x) (nI y) z_length z_where z_thrown z_at z_many z_bad z_states z_positions z_now z_fed z_found z_over wy wa grp n 1 (nI l) 0 0 0 0 (1, ())) → ((∀ j, l ≤ j → j < 4 → wa (x * 4 + j) = wa (y * 4 + j) ∧ tc r (wy (x * 4 + j)) = tc r (wy (y * 4 + j))) → ∃ n, g_M_isApart (nI x) (nI y) z_length z_where z_thrown z_at z_many z_bad z_states z_positions z_now z_fed z_found z_over wy wa grp n 1 (nI l) 0 0 0 0 (0, ())) ∧ ((¬ ∀ j, l ≤ j → j < 4 → wa (x * 4 + j) = wa (y * 4 + j) ∧ tc r (wy (x * 4 + j)) = tc r (wy (y * 4 + j))) → ∃ n, g_M_isApart (nI x) (nI y) z_length z_where z_thrown z_at z_many z_bad z_states z_positions z_now z_fed z_found z_over wy wa grp n 1 (nI l) 0 0 0 0 (1, ())) := fun e h => ⟨fun h9 => absurd (h9 l (Nat.le_refl _) (by omega)) e, fun _ => h⟩
    rcases hT.2 (x * 4 + l) (by omega) with ⟨e, e0⟩ | ⟨t, t1, t2⟩
    · rcases hT.2 (y * 4 + l) (by omega) with ⟨e9, e8⟩ | ⟨u, u1, u2⟩
      · refine yes ((cnd_like hT hR (by omega) hx hy).mpr (Or.inl ⟨e, e9⟩)) (fun out h => c1 1 out ⟨fun z => absurd (e ▸ z) m10, fun _ => rfl⟩ (c2 1 1 _ _ out ⟨fun z => absurd (e9 ▸ z) m10, fun _ => rfl⟩ ?_))
        obtain ⟨n, h⟩ := h
        refine ⟨n + 1, ?_⟩
        rw [g_M_isApart_3, nI_1, e]
        exact ⟨fun z => absurd rfl z, fun _ => ⟨fun _ => h, fun z => absurd (by decide) z⟩⟩
      · have u0 : 0 ≤ wy (y * 4 + l) := by rw [u2]; exact nI_pos' (by omega)
        refine noo (fun h => ?_) (c1 1 _ ⟨fun z => absurd (e ▸ z) m10, fun _ => rfl⟩ (c2 1 0 _ _ _ ⟨fun _ => rfl, fun z => absurd u0 z⟩ ⟨1, ?_⟩))
        · rcases (cnd_like hT hR (by omega) hx hy).mp h with k | ⟨t, _, t1, _, t2, _⟩
          · exact absurd (u2.symm.trans k.2) (m1_nI (by omega))
          · exact absurd (t2.symm.trans e) (m1_nI (by omega))
        · rw [g_M_isApart_3]
          exact ⟨fun _ => rfl, fun z => absurd z (by decide)⟩
    · have t0 : 0 ≤ wy (x * 4 + l) := by rw [t2]; exact nI_pos' (by omega)
      rcases hT.2 (y * 4 + l) (by omega) with ⟨e9, e8⟩ | ⟨u, u1, u2⟩
      · refine noo (fun h => ?_) (c1 0 _ ⟨fun _ => rfl, fun z => absurd t0 z⟩ (c2 0 1 _ _ _ ⟨fun z => absurd (e9 ▸ z) m10, fun _ => rfl⟩ ⟨1, ?_⟩))
        · rcases (cnd_like hT hR (by omega) hx hy).mp h with k | ⟨_, u, _, u1, _, u2, _⟩
          · exact absurd (t2.symm.trans k.1) (m1_nI (by omega))
          · exact absurd (u2.symm.trans e9) (m1_nI (by omega))
        · rw [g_M_isApart_3]
          exact ⟨fun _ => rfl, fun z => absurd z (by decide)⟩
      · have u0 : 0 ≤ wy (y * 4 + l) := by rw [u2]; exact nI_pos' (by omega)
        have c3 : ∀ out, ((¬ wa (x * 4 + l) = wa (y * 4 + l) → out = (1, ())) ∧ (wa (x * 4 + l) = wa (y * 4 + l) → ((r t = r u → ∃ n, g_M_isApart (nI x) (nI y) z_length z_where z_thrown z_at z_many z_bad z_states z_positions z_now z_fed z_found z_over wy wa grp n 1 (nI (l + 1)) 0 0 0 0 out) ∧ (¬ r t = r u → out = (1, ()))))) → ∃ n, g_M_isApart (nI x) (nI y) z_length z_where z_thrown z_at z_many z_bad z_states z_positions z_now z_fed z_found z_over wy wa grp n 1 (nI l) 0 0 0 0 out := by
          intro out ho
          refine c1 0 _ ⟨fun _ => rfl, fun z => absurd t0 z⟩ (c2 0 0 _ _ _ ⟨fun _ => rfl, fun z => absurd u0 z⟩ ?_)
          have gt : grp (nI t).toNatClampNeg = nI (r t) := by rw [nI_clamp (by omega)]; exact hg t t1
          have gu : grp (nI u).toNatClampNeg = nI (r u) := by rw [nI_clamp (by omega)]; exact hg u u1
          have geq : (nI (r t) = nI (r u)) ↔ r t = r u := ⟨fun h => nI_eqD (by have := (hR t t1).1; omega) (by have := (hR u u1).1; omega) h, fun h => by rw [h]⟩
          by_cases q : wa (x * 4 + l) = wa (y * 4 + l) ∧ r t = r u
          · obtain ⟨n, h⟩ := (ho.2 q.1).1 q.2
            refine ⟨n + 1, ?_⟩
            rw [g_M_isApart_3, t2, u2, nI_1, ix2, ix2, cx, cy, gt, gu]
            exact ⟨fun z => absurd rfl z, fun _ => ⟨fun z => absurd z (nI_pos (by omega)), fun _ => ⟨vx, vy, fun z => absurd q.1 z, fun _ => ⟨vp_in_nI (by omega) (by decide), vp_in_nI (by omega) (by decide), fun _ => h, fun z => absurd (geq.mpr q.2) z⟩⟩⟩⟩
          · refine ⟨1, ?_⟩
            rw [g_M_isApart_3, t2, u2, nI_1, ix2, ix2, cx, cy, gt, gu]
            exact ⟨fun z => absurd rfl z, fun _ => ⟨fun z => absurd z (nI_pos (by omega)), fun _ => ⟨vx, vy, fun z => ho.1 z, fun z => ⟨vp_in_nI (by omega) (by decide), vp_in_nI (by omega) (by decide), fun z2 => absurd ⟨z, geq.mp z2⟩ q, fun z2 => (ho.2 z).2 (fun z3 => z2 (geq.mpr z3))⟩⟩⟩⟩
        by_cases q : wa (x * 4 + l) = wa (y * 4 + l) ∧ r t = r u
        · exact yes ((cnd_like hT hR (by omega) hx hy).mpr (Or.inr ⟨t, u, t1, u1, t2, u2, q.1, q.2⟩)) (fun out h => c3 out ⟨fun z => absurd q.1 z, fun _ => ⟨fun _ => h, fun z => absurd q.2 z⟩⟩)
        · refine noo (fun h => ?_) (c3 _ ⟨fun _ => rfl, fun z => ⟨fun z2 => absurd ⟨z, z2⟩ q, fun _ => rfl⟩⟩)
          rcases (cnd_like hT hR (by omega) hx hy).mp h with k | ⟨t9, u9, t91, u91, t92, u92, h1, h2⟩
          · exact absurd (t2.symm.trans k.1) (m1_nI (by omega))
          · have q1 : t = t9 := nI_eqD (by omega) (by omega) (t2.symm.trans t92)
            have q2 : u = u9 := nI_eqD (by omega) (by omega) (u2.symm.trans u92)
            subst q1 q2
            exact q ⟨h1, h2⟩
theorem apart_ok {N x y : Nat} {z_length z_where z_thrown z_at z_many z_bad z_states z_positions z_now z_fed z_found z_over : Int32} {wy wa grp : F1} {r : Nat → Nat} (hT : Tbl N wy wa) (hR : RepR N r) (hx : x < N) (hy : y < N) (hg : ∀ z, z < N → grp z = nI (r z)) : (stpE wy wa r x y → R_M_isApart (nI x) (nI y) z_length z_where z_thrown z_at z_many z_bad z_states z_positions z_now z_fed z_found z_over wy wa grp (0, ())) ∧ ((¬ stpE wy wa r x y) → R_M_isApart (nI x) (nI y) z_length z_where z_thrown z_at z_many z_bad z_states z_positions z_now z_fed z_found z_over wy wa grp (1, ())) := by
  obtain ⟨i1, i2⟩ := apart_loop (z_length := z_length) (z_where := z_where) (z_thrown := z_thrown) (z_at := z_at) (z_many := z_many) (z_bad := z_bad) (z_states := z_states) (z_positions := z_positions) (z_now := z_now) (z_fed := z_fed) (z_found := z_found) (z_over := z_over) hT hR hx hy hg 4 0 (by omega)
  rw [nI_0] at i1 i2
  exact ⟨fun h => i1 (fun j _ hj => h j hj), fun h => i2 (fun h9 => h (fun l hl => h9 l (by omega) hl))⟩
def ScI (L : Nat → Nat → Prop) (r : Nat → Nat) (x y m : Nat) : Prop := (m = x ∧ ∀ z, y ≤ z → z < x → ¬ L x z) ∨ ∃ z0, y ≤ z0 ∧ z0 < x ∧ L x z0 ∧ (∀ z, y ≤ z → z < z0 → ¬ L x z) ∧ m = r z0
theorem ScI_no {L : Nat → Nat → Prop} {r : Nat → Nat} {x y m : Nat} (h : ScI L r x (y + 1) m) (hn : ¬ L x y) : ScI L r x y m := by
  have ex : ∀ z, y ≤ z → z = y ∨ y + 1 ≤ z := fun z hz => by omega
  rcases h with ⟨h1, h2⟩ | ⟨z0, h1, h2, h3, h4, h5⟩
  · refine Or.inl ⟨h1, fun z hz hz2 => ?_⟩
    rcases ex z hz with q | q
    · rw [q]; exact hn
    · exact h2 z q hz2
  · refine Or.inr ⟨z0, by omega, h2, h3, fun z hz hz2 => ?_, h5⟩
    rcases ex z hz with q | q
    · rw [q]; exact hn
    · exact h4 z q hz2
theorem ScI_end {L : Nat → Nat → Prop} {r : Nat → Nat} {x m : Nat} (hL : EqvE L) (hr : ∀ z, z < x → isLst L z (r z)) (h : ScI L r x 0 m) : isLst L x m := by
  rcases h with ⟨h1, h2⟩ | ⟨z0, h1, h2, h3, h4, h5⟩
  · subst h1; exact ⟨Nat.le_refl _, hL.1 _, fun z hz => h2 z (by omega) hz⟩
  · have k := hr z0 h2
    have e : r z0 = z0 := by
      rcases Nat.eq_or_lt_of_le k.1 with q | q
      · exact q
      · exact absurd (hL.2.2 x z0 (r z0) h3 k.2.1) (h4 (r z0) (by omega) q)
    rw [h5, e]
    exact ⟨by omega, h3, fun z hz => h4 z (by omega) hz⟩
theorem ScI_le {L : Nat → Nat → Prop} {r : Nat → Nat} {x y m : Nat} (hr : ∀ z, z < x → r z ≤ z) (h : ScI L r x y m) : m ≤ x := by
  rcases h with ⟨h1, _⟩ | ⟨z0, _, h2, _, _, h5⟩
  · omega
  · have := hr z0 h2; omega
theorem div_in1 {N x : Nat} {z_length z_where z_thrown z_at z_many z_bad z_states z_positions z_now z_fed z_found z_over : Int32} {go does ends last0 oth : F1} {r : Nat → Nat} (h50 : N ≤ 50) (hx : x < N) : ∀ (y : Nat) (grp : F1) (m : Nat), y ≤ x → (∀ z, z < x → grp z = nI (r z)) → grp x = nI m → ScI (feE last0 ends) r x y m → ∃ (grp' : F1) (m' : Nat), (∀ z, z < x → grp' z = nI (r z)) ∧ grp' x = nI m' ∧ ScI (feE last0 ends) r x 0 m' ∧ ∀ out, (∃ n, g_M_divide (nI N) z_length z_where z_thrown z_at z_many z_bad z_states z_positions z_now z_fed z_found z_over go does ends last0 n 1 (nI (x + 1)) 0 0 0 grp' oth out) → ∃ n, g_M_divide (nI N) z_length z_where z_thrown z_at z_many z_bad z_states z_positions z_now z_fed z_found z_over go does ends last0 n 2 (nI x) (nI y - 1) 0 0 grp oth out := by
  have vx : vp_in (nI x) 50 := vp_in_nI (by omega) (by decide)
  have cx := nI_clamp (show x < 2 ^ 31 by omega)
  intro y
  induction y with
  | zero =>
    intro grp m hy h1 h2 h3
    refine ⟨grp, m, h1, h2, h3, fun out ⟨n, h⟩ => ⟨n + 1, ?_⟩⟩
    rw [g_M_divide_2, nI_1 x]
    exact ⟨fun _ => h, fun z => absurd sub1_neg z⟩
  | succ y ih =>
    intro grp m hy h1 h2 h3
    have vy : vp_in (nI y) 50 := vp_in_nI (by omega) (by decide)
    have cy := nI_clamp (show y < 2 ^ 31 by omega)
    have np : ¬ nI y < 0 := nI_pos (by omega)
    rw [nI_pred]
    by_cases hf : feE last0 ends x y
    · obtain ⟨grp', m', k1, k2, k3, k4⟩ := ih (upd grp x (grp y)) (r y) (by omega) (fun z hz => by rw [upd_at, if_neg (by omega)]; exact h1 z hz) (by rw [upd_at, if_pos rfl]; exact h1 y (by omega)) (Or.inr ⟨y, Nat.le_refl _, by omega, hf, fun z z1 z2 => by omega, rfl⟩)
      refine ⟨grp', m', k1, k2, k3, fun out h => ?_⟩
      obtain ⟨n, h⟩ := k4 out h
      refine ⟨n + 1, ?_⟩
      rw [g_M_divide_2, cx, cy, nI_sub1]
      exact ⟨fun z => absurd z np, fun _ => ⟨vx, vy, fun z => absurd hf.1 z, fun _ => ⟨vx, vy, fun z => absurd hf.2 z, fun _ => ⟨vy, vx, h⟩⟩⟩⟩
    · obtain ⟨grp', m', k1, k2, k3, k4⟩ := ih grp m (by omega) h1 h2 (ScI_no h3 hf)
      refine ⟨grp', m', k1, k2, k3, fun out h => ?_⟩
      obtain ⟨n, h⟩ := k4 out h
      refine ⟨n + 1, ?_⟩
      rw [g_M_divide_2, cx, cy, nI_sub1]
      exact ⟨fun z => absurd z np, fun _ => ⟨vx, vy, fun _ => h, fun z1 => ⟨vx, vy, fun _ => h, fun z2 => absurd ⟨z1, z2⟩ hf⟩⟩⟩
theorem div_out1 {N : Nat} {z_length z_where z_thrown z_at z_many z_bad z_states z_positions z_now z_fed z_found z_over : Int32} {go does ends last0 oth : F1} (h50 : N ≤ 50) : ∀ (c x : Nat) (grp : F1) (r : Nat → Nat), x + c = N → (∀ z, z < x → grp z = nI (r z) ∧ isLst (feE last0 ends) z (r z)) → ∃ (grp' : F1) (r' : Nat → Nat), (∀ z, z < N → grp' z = nI (r' z) ∧ isLst (feE last0 ends) z (r' z)) ∧ ∀ out, (∃ n, g_M_divide (nI N) z_length z_where z_thrown z_at z_many z_bad z_states z_positions z_now z_fed z_found z_over go does ends last0 n 3 1 0 0 0 grp' oth out) → ∃ n, g_M_divide (nI N) z_length z_where z_thrown z_at z_many z_bad z_states z_positions z_now z_fed z_found z_over go does ends last0 n 1 (nI x) 0 0 0 grp oth out := by
  intro c
  induction c with
  | zero =>
    intro x grp r hx h
    have e : x = N := by omega
    subst e
    refine ⟨grp, r, h, fun out ⟨n, h⟩ => ⟨n + 1, ?_⟩⟩
    rw [g_M_divide_1]
    exact ⟨fun _ => h, fun z => absurd (nI_le (Nat.le_refl _) (by omega)) z⟩
  | succ c ih =>
    intro x grp r hx h
    have vx : vp_in (nI x) 50 := vp_in_nI (by omega) (by decide)
    have cx := nI_clamp (show x < 2 ^ 31 by omega)
    obtain ⟨grp1, m, k1, k2, k3, k4⟩ := div_in1 (z_length := z_length) (z_where := z_where) (z_thrown := z_thrown) (z_at := z_at) (z_many := z_many) (z_bad := z_bad) (z_states := z_states) (z_positions := z_positions) (z_now := z_now) (z_fed := z_fed) (z_found := z_found) (z_over := z_over) (go := go) (does := does) (ends := ends) (last0 := last0) (oth := oth) (r := r) h50 (show x < N by omega) x (upd grp x (nI x)) x (Nat.le_refl _) (fun z hz => by rw [upd_at, if_neg (by omega)]; exact (h z hz).1) (by rw [upd_at, if_pos rfl]) (Or.inl ⟨rfl, fun z z1 z2 => by omega⟩)
    have hm := ScI_end (feE_eqv last0 ends) (fun z hz => (h z hz).2) k3
    obtain ⟨rn, new, old⟩ : ∃ rn : Nat → Nat, rn x = m ∧ ∀ z, z ≠ x → rn z = r z := ⟨fun w => if w = x then m else r w, by simp, fun z hz => by simp [hz]⟩
    obtain ⟨grp', r', j1, j2⟩ := ih (x + 1) grp1 rn (by omega) (fun z hz => by
      by_cases e : z = x
      · subst e; rw [new]; exact ⟨k2, hm⟩
      · rw [old z e]; exact ⟨k1 z (by omega), (h z (by omega)).2⟩)
    refine ⟨grp', r', j1, fun out h9 => ?_⟩
    obtain ⟨n, h9⟩ := k4 out (j2 out h9)
    refine ⟨n + 1, ?_⟩
    rw [g_M_divide_1, cx]
    exact ⟨fun z => absurd z (nI_ge (by omega) (by omega)), fun _ => ⟨vx, h9⟩⟩
theorem div_in2 {N x : Nat} {x2 : Int32} {z_length z_where z_thrown z_at z_many z_bad z_states z_positions z_now z_fed z_found z_over : Int32} {go does ends last0 grp : F1} {r r' : Nat → Nat} (hT : Tbl N go does) (hR : RepR N r) (hfe : ∀ x y, x < N → y < N → r x = r y → feE last0 ends x y) (hg : ∀ z, z < N → grp z = nI (r z)) (hx : x < N) : ∀ (y : Nat) (oth : F1) (m : Nat), y ≤ x → (∀ z, z < x → oth z = nI (r' z)) → oth x = nI m → ScI (like go does last0 ends r) r' x y m → ∃ (oth' : F1) (m' : Nat), (∀ z, z < x → oth' z = nI (r' z)) ∧ oth' x = nI m' ∧ ScI (like go does last0 ends r) r' x 0 m' ∧ ∀ out, (∃ n, g_M_divide (nI N) z_length z_where z_thrown z_at z_many z_bad z_states z_positions z_now z_fed z_found z_over go does ends last0 n 4 x2 (nI (x + 1)) 0 0 grp oth' out) → ∃ n, g_M_divide (nI N) z_length z_where z_thrown z_at z_many z_bad z_states z_positions z_now z_fed z_found z_over go does ends last0 n 5 x2 (nI x) (nI y - 1) 0 grp oth out := by
  have h50 := hT.1
  have vx : vp_in (nI x) 50 := vp_in_nI (by omega) (by decide)
  have cx := nI_clamp (show x < 2 ^ 31 by omega)
  intro y
  induction y with
  | zero =>
    intro oth m hy h1 h2 h3
    refine ⟨oth, m, h1, h2, h3, fun out ⟨n, h⟩ => ⟨n + 1, ?_⟩⟩
    rw [g_M_divide_5, nI_1 x]
    exact ⟨fun _ => h, fun z => absurd sub1_neg z⟩
  | succ y ih =>
    intro oth m hy h1 h2 h3
    have hyN : y < N := by omega
    have vy : vp_in (nI y) 50 := vp_in_nI (by omega) (by decide)
    have cy := nI_clamp (show y < 2 ^ 31 by omega)
    have np : ¬ nI y < 0 := nI_pos (by omega)
    have geq : grp x = grp y ↔ r x = r y := by
      rw [hg x hx, hg y hyN]
      exact ⟨fun h => nI_eqD (by have := (hR x hx).1; omega) (by have := (hR y hyN).1; omega) h, fun h => by rw [h]⟩
    obtain ⟨ap1, ap2⟩ := apart_ok (z_length := z_length) (z_where := z_where) (z_thrown := z_thrown) (z_at := z_at) (z_many := z_many) (z_bad := z_bad) (z_states := z_states) (z_positions := z_positions) (z_now := z_now) (z_fed := z_fed) (z_found := z_found) (z_over := z_over) hT hR hx hyN hg
    rw [nI_pred]
    by_cases hf : like go does last0 ends r x y
    · obtain ⟨oth', m', k1, k2, k3, k4⟩ := ih (upd oth x (oth y)) (r' y) (by omega) (fun z hz => by rw [upd_at, if_neg (by omega)]; exact h1 z hz) (by rw [upd_at, if_pos rfl]; exact h1 y (by omega)) (Or.inr ⟨y, Nat.le_refl _, by omega, hf, fun z z1 z2 => by omega, rfl⟩)
      refine ⟨oth', m', k1, k2, k3, fun out h => ?_⟩
      obtain ⟨n, h⟩ := k4 out h
      refine ⟨n + 1 + 1, ?_⟩
      rw [g_M_divide_5, cx, cy]
      refine ⟨fun z => absurd z np, fun _ => ⟨vx, vy, fun z => absurd (geq.mpr hf.1) z, fun _ => ⟨_, ap1 hf.2.2, fun _ => ?_, fun z => absurd rfl z⟩⟩⟩
      rw [g_M_divide_7, cx, cy, nI_sub1]
      exact ⟨fun z => absurd rfl z, fun _ => ⟨vy, vx, h⟩⟩
    · obtain ⟨oth', m', k1, k2, k3, k4⟩ := ih oth m (by omega) h1 h2 (ScI_no h3 hf)
      refine ⟨oth', m', k1, k2, k3, fun out h => ?_⟩
      have six : ∃ n, g_M_divide (nI N) z_length z_where z_thrown z_at z_many z_bad z_states z_positions z_now z_fed z_found z_over go does ends last0 n 6 x2 (nI x) (nI y) 0 grp oth out := by
        obtain ⟨n, h⟩ := k4 out h
        refine ⟨n + 1 + 1, ?_⟩
        rw [g_M_divide_6, g_M_divide_7, nI_sub1]
        exact ⟨fun _ => h, fun z => absurd z (by decide)⟩
      obtain ⟨n, h6⟩ := six
      refine ⟨n + 1, ?_⟩
      rw [g_M_divide_5, cx, cy]
      refine ⟨fun z => absurd z np, fun _ => ⟨vx, vy, fun _ => h6, fun z => ⟨_, ap2 (fun q => hf ⟨geq.mp z, hfe x y hx hyN (geq.mp z), q⟩), fun z2 => absurd z2 (by decide), fun _ => h6⟩⟩⟩
theorem div_out2 {N : Nat} {x2 : Int32} {z_length z_where z_thrown z_at z_many z_bad z_states z_positions z_now z_fed z_found z_over : Int32} {go does ends last0 grp : F1} {r : Nat → Nat} (hT : Tbl N go does) (hR : RepR N r) (hfe : ∀ x y, x < N → y < N → r x = r y → feE last0 ends x y) (hg : ∀ z, z < N → grp z = nI (r z)) : ∀ (c x : Nat) (oth : F1) (r' : Nat → Nat), x + c = N → (∀ z, z < x → oth z = nI (r' z) ∧ isLst (like go does last0 ends r) z (r' z)) → ∃ (oth' : F1) (r2 : Nat → Nat), (∀ z, z < N → oth' z = nI (r2 z) ∧ isLst (like go does last0 ends r) z (r2 z)) ∧ ∀ out, (∃ n, g_M_divide (nI N) z_length z_where z_thrown z_at z_many z_bad z_states z_positions z_now z_fed z_found z_over go does ends last0 n 8 x2 0 0 0 grp oth' out) → ∃ n, g_M_divide (nI N) z_length z_where z_thrown z_at z_many z_bad z_states z_positions z_now z_fed z_found z_over go does ends last0 n 4 x2 (nI x) 0 0 grp oth out := by
  have h50 := hT.1
  intro c
  induction c with
  | zero =>
    intro x oth r' hx h
    have e : x = N := by omega
    subst e
    refine ⟨oth, r', h, fun out ⟨n, h⟩ => ⟨n + 1, ?_⟩⟩
    rw [g_M_divide_4]
    exact ⟨fun _ => h, fun z => absurd (nI_le (Nat.le_refl _) (by omega)) z⟩
  | succ c ih =>
    intro x oth r' hx h
    have vx : vp_in (nI x) 50 := vp_in_nI (by omega) (by decide)
    have cx := nI_clamp (show x < 2 ^ 31 by omega)
    obtain ⟨oth1, m, k1, k2, k3, k4⟩ := div_in2 (x2 := x2) (z_length := z_length) (z_where := z_where) (z_thrown := z_thrown) (z_at := z_at) (z_many := z_many) (z_bad := z_bad) (z_states := z_states) (z_positions := z_positions) (z_now := z_now) (z_fed := z_fed) (z_found := z_found) (z_over := z_over) (r' := r') hT hR hfe hg (show x < N by omega) x (upd oth x (nI x)) x (Nat.le_refl _) (fun z hz => by rw [upd_at, if_neg (by omega)]; exact (h z hz).1) (by rw [upd_at, if_pos rfl]) (Or.inl ⟨rfl, fun z z1 z2 => by omega⟩)
    have hm := ScI_end (like_eqv go does last0 ends r) (fun z hz => (h z hz).2) k3
    obtain ⟨rn, new, old⟩ : ∃ rn : Nat → Nat, rn x = m ∧ ∀ z, z ≠ x → rn z = r' z := ⟨fun w => if w = x then m else r' w, by simp, fun z hz => by simp [hz]⟩
    obtain ⟨oth', r2, j1, j2⟩ := ih (x + 1) oth1 rn (by omega) (fun z hz => by
      by_cases e : z = x
      · subst e; rw [new]; exact ⟨k2, hm⟩
      · rw [old z e]; exact ⟨k1 z (by omega), (h z (by omega)).2⟩)
    refine ⟨oth', r2, j1, fun out h9 => ?_⟩
    obtain ⟨n, h9⟩ := k4 out (j2 out h9)
    refine ⟨n + 1, ?_⟩
    rw [g_M_divide_4, cx]
    exact ⟨fun z => absurd z (nI_ge (by omega) (by omega)), fun _ => ⟨vx, h9⟩⟩
theorem div_8 {N : Nat} {z_length z_where z_thrown z_at z_many z_bad z_states z_positions z_now z_fed z_found z_over : Int32} {go does ends last0 grp oth : F1} {r r2 : Nat → Nat} (h50 : N ≤ 50) (hR : RepR N r) (hR2 : RepR N r2) (hg : ∀ z, z < N → grp z = nI (r z)) (ho : ∀ z, z < N → oth z = nI (r2 z)) : ∀ (c x : Nat) (b : Int32), x + c = N → (b = 0 ∨ b = 1) → (b = 0 ↔ ∀ z, z < x → r2 z = r z) → ∃ b' : Int32, (b' = 0 ∨ b' = 1) ∧ (b' = 0 ↔ ∀ z, z < N → r2 z = r z) ∧ ∀ out, (∃ n, g_M_divide (nI N) z_length z_where z_thrown z_at z_many z_bad z_states z_positions z_now z_fed z_found z_over go does ends last0 n 9 b' 0 0 0 grp oth out) → ∃ n, g_M_divide (nI N) z_length z_where z_thrown z_at z_many z_bad z_states z_positions z_now z_fed z_found z_over go does ends last0 n 8 b (nI x) 0 0 grp oth out := by
  intro c
  induction c with
  | zero =>
    intro x b hx hb h
    have e : x = N := by omega
    subst e
    refine ⟨b, hb, h, fun out ⟨n, h⟩ => ⟨n + 1, ?_⟩⟩
    rw [g_M_divide_8]
    exact ⟨fun _ => h, fun z => absurd (nI_le (Nat.le_refl _) (by omega)) z⟩
  | succ c ih =>
    intro x b hx hb h
    have hxN : x < N := by omega
    have vx : vp_in (nI x) 50 := vp_in_nI (by omega) (by decide)
    have cx := nI_clamp (show x < 2 ^ 31 by omega)
    have eq9 : oth x = grp x ↔ r2 x = r x := by
      rw [hg x hxN, ho x hxN]
      exact ⟨fun h => nI_eqD (by have := (hR2 x hxN).1; omega) (by have := (hR x hxN).1; omega) h, fun h => by rw [h]⟩
    by_cases e : r2 x = r x
    · obtain ⟨b', k1, k2, k3⟩ := ih (x + 1) b (by omega) hb ⟨fun q z hz => by
        rcases Nat.eq_or_lt_of_le (Nat.lt_succ_iff.mp hz) with w | w
        · rw [w]; exact e
        · exact h.mp q z w, fun q => h.mpr (fun z hz => q z (by omega))⟩
      refine ⟨b', k1, k2, fun out h9 => ?_⟩
      obtain ⟨n, h9⟩ := k3 out h9
      refine ⟨n + 1, ?_⟩
      rw [g_M_divide_8, cx, nI_1]
      exact ⟨fun z => absurd z (nI_ge (by omega) (by omega)), fun _ => ⟨vx, vx, fun _ => h9, fun z => absurd (eq9.mpr e) z⟩⟩
    · obtain ⟨b', k1, k2, k3⟩ := ih (x + 1) 1 (by omega) (Or.inr rfl) ⟨fun q => absurd q (by decide), fun q => absurd (q x (by omega)) e⟩
      refine ⟨b', k1, k2, fun out h9 => ?_⟩
      obtain ⟨n, h9⟩ := k3 out h9
      refine ⟨n + 1, ?_⟩
      rw [g_M_divide_8, cx, nI_1]
      exact ⟨fun z => absurd z (nI_ge (by omega) (by omega)), fun _ => ⟨vx, vx, fun z => absurd (eq9.mp z) e, fun _ => h9⟩⟩
theorem div_9 {N : Nat} {b : Int32} {z_length z_where z_thrown z_at z_many z_bad z_states z_positions z_now z_fed z_found z_over : Int32} {go does ends last0 oth : F1} (h50 : N ≤ 50) : ∀ (c x : Nat) (grp : F1), x + c = N → (∀ z, z < x → grp z = oth z) → ∃ grp' : F1, (∀ z, z < N → grp' z = oth z) ∧ ∀ out, (∃ n, g_M_divide (nI N) z_length z_where z_thrown z_at z_many z_bad z_states z_positions z_now z_fed z_found z_over go does ends last0 n 3 b 0 0 0 grp' oth out) → ∃ n, g_M_divide (nI N) z_length z_where z_thrown z_at z_many z_bad z_states z_positions z_now z_fed z_found z_over go does ends last0 n 9 b (nI x) 0 0 grp oth out := by
  intro c
  induction c with
  | zero =>
    intro x grp hx h
    have e : x = N := by omega
    subst e
    refine ⟨grp, h, fun out ⟨n, h⟩ => ⟨n + 1, ?_⟩⟩
    rw [g_M_divide_9]
    exact ⟨fun _ => h, fun z => absurd (nI_le (Nat.le_refl _) (by omega)) z⟩
  | succ c ih =>
    intro x grp hx h
    have vx : vp_in (nI x) 50 := vp_in_nI (by omega) (by decide)
    obtain ⟨grp', k1, k2⟩ := ih (x + 1) (upd grp x (oth x)) (by omega) (fun z hz => by
      rw [upd_at]
      by_cases e : z = x
      · rw [if_pos e, e]
      · rw [if_neg e]; exact h z (by omega))
    refine ⟨grp', k1, fun out h9 => ?_⟩
    obtain ⟨n, h9⟩ := k2 out h9
    refine ⟨n + 1, ?_⟩
    rw [g_M_divide_9, nI_clamp (show x < 2 ^ 31 by omega), nI_1]
    exact ⟨fun z => absurd z (nI_ge (by omega) (by omega)), fun _ => ⟨vx, vx, h9⟩⟩
theorem div_rounds {N : Nat} {z_length z_where z_thrown z_at z_many z_bad z_states z_positions z_now z_fed z_found z_over : Int32} {go does ends last0 : F1} (hT : Tbl N go does) : ∀ (c : Nat) (grp oth : F1) (r : Nat → Nat), N - cn r N ≤ c → RepR N r → (∀ x y, x < N → y < N → r x = r y → feE last0 ends x y) → BigR N go does last0 ends r → (∀ z, z < N → grp z = nI (r z)) → ∃ (grp' oth' : F1) (r2 : Nat → Nat), (∃ n, g_M_divide (nI N) z_length z_where z_thrown z_at z_many z_bad z_states z_positions z_now z_fed z_found z_over go does ends last0 n 3 1 0 0 0 grp oth (grp', oth')) ∧ (∀ z, z < N → grp' z = nI (r2 z)) ∧ RepR N r2 ∧ Stab N go does last0 ends r2 ∧ BigR N go does last0 ends r2 := by
  have h50 := hT.1
  intro c
  have body : ∀ (grp oth : F1) (r : Nat → Nat), RepR N r → (∀ x y, x < N → y < N → r x = r y → feE last0 ends x y) → BigR N go does last0 ends r → (∀ z, z < N → grp z = nI (r z)) → (∀ (grp1 oth1 : F1) (r1 : Nat → Nat), cn r N < cn r1 N → RepR N r1 → (∀ x y, x < N → y < N → r1 x = r1 y → feE last0 ends x y) → BigR N go does last0 ends r1 → (∀ z, z < N → grp1 z = nI (r1 z)) → ∃ (grp' oth' : F1) (r2 : Nat → Nat), (∃ n, g_M_divide (nI N) z_length z_where z_thrown z_at z_many z_bad z_states z_positions z_now z_fed z_found z_over go does ends last0 n 3 1 0 0 0 grp1 oth1 (grp', oth')) ∧ (∀ z, z < N → grp' z = nI (r2 z)) ∧ RepR N r2 ∧ Stab N go does last0 ends r2 ∧ BigR N go does last0 ends r2) → ∃ (grp' oth' : F1) (r2 : Nat → Nat), (∃ n, g_M_divide (nI N) z_length z_where z_thrown z_at z_many z_bad z_states z_positions z_now z_fed z_found z_over go does ends last0 n 3 1 0 0 0 grp oth (grp', oth')) ∧ (∀ z, z < N → grp' z = nI (r2 z)) ∧ RepR N r2 ∧ Stab N go does last0 ends r2 ∧ BigR N go does last0 ends r2 := by
    intro grp oth r hR hfe hBig hg ih
    obtain ⟨oth1, r2, o1, o2⟩ := div_out2 (x2 := 0) (z_length := z_length) (z_where := z_where) (z_thrown := z_thrown) (z_at := z_at) (z_many := z_many) (z_bad := z_bad) (z_states := z_states) (z_positions := z_positions) (z_now := z_now) (z_fed := z_fed) (z_found := z_found) (z_over := z_over) hT hR hfe hg N 0 oth r (by omega) (fun z hz => by omega)
    obtain ⟨l1, l2⟩ := lst_rep (like_eqv go does last0 ends r) (fun x hx => (o1 x hx).2)
    have hBig2 := big_next h50 hBig l2
    obtain ⟨b, b1, b2, b3⟩ := div_8 (z_length := z_length) (z_where := z_where) (z_thrown := z_thrown) (z_at := z_at) (z_many := z_many) (z_bad := z_bad) (z_states := z_states) (z_positions := z_positions) (z_now := z_now) (z_fed := z_fed) (z_found := z_found) (z_over := z_over) (go := go) (does := does) (ends := ends) (last0 := last0) h50 hR l1 hg (fun z hz => (o1 z hz).1) N 0 0 (by omega) (Or.inl rfl) ⟨fun _ z hz => by omega, fun _ => rfl⟩
    obtain ⟨grp2, p1, p2⟩ := div_9 (b := b) (z_length := z_length) (z_where := z_where) (z_thrown := z_thrown) (z_at := z_at) (z_many := z_many) (z_bad := z_bad) (z_states := z_states) (z_positions := z_positions) (z_now := z_now) (z_fed := z_fed) (z_found := z_found) (z_over := z_over) (go := go) (does := does) (ends := ends) (last0 := last0) (oth := oth1) h50 N 0 grp (by omega) (fun z hz => by omega)
    rw [nI_0] at o2 b3 p2
    have hg2 : ∀ z, z < N → grp2 z = nI (r2 z) := fun z hz => (p1 z hz).trans (o1 z hz).1
    have step : ∀ out, (∃ n, g_M_divide (nI N) z_length z_where z_thrown z_at z_many z_bad z_states z_positions z_now z_fed z_found z_over go does ends last0 n 3 b 0 0 0 grp2 oth1 out) → ∃ n, g_M_divide (nI N) z_length z_where z_thrown z_at z_many z_bad z_states z_positions z_now z_fed z_found z_over go does ends last0 n 3 1 0 0 0 grp oth out := by
      intro out h
      obtain ⟨n, h9⟩ := o2 out (b3 out (p2 out h))
      refine ⟨n + 1, ?_⟩
      rw [g_M_divide_3]
      exact ⟨fun z => absurd z (by decide), fun _ => h9⟩
    by_cases eb : b = 0
    · refine ⟨grp2, oth1, r2, step _ ⟨1, ?_⟩, hg2, l1, fun x y hx hy he => ?_, hBig2⟩
      · rw [g_M_divide_3]
        exact ⟨fun _ => rfl, fun z => absurd eb z⟩
      · have hs := b2.mp eb
        have k1 := (l2 x y hx hy).mp he
        refine ⟨he, k1.2.1, fun l hl => ⟨(k1.2.2 l hl).1, ?_⟩⟩
        have k2 := (k1.2.2 l hl).2
        have same : ∀ s, s < N → tc r2 (go (s * 4 + l)) = tc r (go (s * 4 + l)) := by
          intro s hs9
          rcases hT.2 (s * 4 + l) (by omega) with ⟨e, _⟩ | ⟨t, t1, t2⟩
          · rw [e]; rfl
          · rw [t2, tc_nI (by omega), tc_nI (by omega), hs t t1]
        rw [same x hx, same y hy]; exact k2
    · have hex : ∃ x, x < N ∧ ¬ r2 x = r x := by
        refine Classical.byContradiction (fun z => eb (b2.mpr (fun x hx => ?_)))
        exact Classical.byContradiction (fun q => z ⟨x, hx, q⟩)
      obtain ⟨x, hx, hne⟩ := hex
      obtain ⟨grp', oth', r3, q1, q2⟩ := ih grp2 oth1 r2 (cn_up hR l1 l2 hx hne) l1 (fun x y hx hy he => ((l2 x y hx hy).mp he).2.1) hBig2 hg2
      refine ⟨grp', oth', r3, step _ ?_, q2⟩
      rw [b1.resolve_left eb]; exact q1
  induction c with
  | zero =>
    intro grp oth r hc hR hfe hBig hg
    refine body grp oth r hR hfe hBig hg (fun _ _ r1 h1 => ?_)
    have := cn_le r1 N
    omega
  | succ c ih =>
    intro grp oth r hc hR hfe hBig hg
    refine body grp oth r hR hfe hBig hg (fun grp1 oth1 r1 h1 h2 h3 h4 h5 => ih grp1 oth1 r1 (by omega) h2 h3 h4 h5)
theorem divide_ok {N : Nat} {z_length z_where z_thrown z_at z_many z_bad z_states z_positions z_now z_fed z_found z_over : Int32} {go does ends last0 grp oth : F1} (hT : Tbl N go does) : ∃ (grp' oth' : F1) (r : Nat → Nat), R_M_divide (nI N) z_length z_where z_thrown z_at z_many z_bad z_states z_positions z_now z_fed z_found z_over go does ends last0 grp oth (grp', oth') ∧ (∀ z, z < N → grp' z = nI (r z)) ∧ RepR N r ∧ Stab N go does last0 ends r ∧ BigR N go does last0 ends r := by
  have h50 := hT.1
  obtain ⟨grp1, r1, k1, k2⟩ := div_out1 (z_length := z_length) (z_where := z_where) (z_thrown := z_thrown) (z_at := z_at) (z_many := z_many) (z_bad := z_bad) (z_states := z_states) (z_positions := z_positions) (z_now := z_now) (z_fed := z_fed) (z_found := z_found) (z_over := z_over) (go := go) (does := does) (ends := ends) (last0 := last0) (oth := oth) h50 N 0 grp (fun _ => 0) (by omega) (fun z hz => by omega)
  obtain ⟨l1, l2⟩ := lst_rep (feE_eqv last0 ends) (fun x hx => (k1 x hx).2)
  have hBig : BigR N go does last0 ends r1 := by
    intro x y hb
    obtain ⟨R, hR, hxy⟩ := hb
    obtain ⟨j1, j2, j3, _⟩ := hR x y hxy
    exact (l2 x y j1 j2).mpr j3
  obtain ⟨grp', oth', r2, q1, q2⟩ := div_rounds (z_length := z_length) (z_where := z_where) (z_thrown := z_thrown) (z_at := z_at) (z_many := z_many) (z_bad := z_bad) (z_states := z_states) (z_positions := z_positions) (z_now := z_now) (z_fed := z_fed) (z_found := z_found) (z_over := z_over) hT N grp1 oth r1 (by omega) l1 (fun x y hx hy h => (l2 x y hx hy).mp h) hBig (fun z hz => (k1 z hz).1)
  rw [nI_0] at k2
  exact ⟨grp', oth', r2, k2 _ q1, q2⟩
theorem stab_cong {N : Nat} {wy wa fi ea go does last0 ends : F1} {r : Nat → Nat} (h1 : ∀ k, k < N * 4 → go k = wy k ∧ does k = wa k) (h2 : ∀ i, i < N → last0 i = fi i ∧ ends i = ea i) (h : Stab N go does last0 ends r) : Stab N wy wa fi ea r := by
  intro x y hx hy he
  obtain ⟨k1, k2, k3⟩ := h x y hx hy he
  refine ⟨k1, ⟨by rw [← (h2 x hx).1, ← (h2 y hy).1]; exact k2.1, by rw [← (h2 x hx).2, ← (h2 y hy).2]; exact k2.2⟩, fun l hl => ?_⟩
  rw [← (h1 (x * 4 + l) (by omega)).1, ← (h1 (y * 4 + l) (by omega)).1, ← (h1 (x * 4 + l) (by omega)).2, ← (h1 (y * 4 + l) (by omega)).2]
  exact k3 l hl
theorem big_cong {N : Nat} {wy wa fi ea go does last0 ends : F1} {r : Nat → Nat} (h1 : ∀ k, k < N * 4 → go k = wy k ∧ does k = wa k) (h2 : ∀ i, i < N → last0 i = fi i ∧ ends i = ea i) (h : BigR N go does last0 ends r) : BigR N wy wa fi ea r := by
  intro x y ⟨R, hR, hxy⟩
  refine h x y ⟨R, fun x y hxy => ?_, hxy⟩
  obtain ⟨j1, j2, j3, j4⟩ := hR x y hxy
  refine ⟨j1, j2, ⟨by rw [(h2 x j1).1, (h2 y j2).1]; exact j3.1, by rw [(h2 x j1).2, (h2 y j2).2]; exact j3.2⟩, fun l hl => ?_⟩
  rw [(h1 (x * 4 + l) (by omega)).1, (h1 (y * 4 + l) (by omega)).1, (h1 (x * 4 + l) (by omega)).2, (h1 (y * 4 + l) (by omega)).2]
  exact j4 l hl
