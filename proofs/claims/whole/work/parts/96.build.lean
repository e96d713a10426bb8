/-! ===== compile ===== -/
theorem build_both {ad : Nat → Nat} {C : CS} {M : MS} (hI : InvT ad C M) (h0 : ¬ M.2.1 0 = 0) (us upos ucc : Int32) (ue uy ua ui uf ul un : F1) (z_length z_where z_thrown z_at z_states z_positions z_now z_fed z_found z_over : Int32) (a_text a_set a_go a_does a_ends a_group a_other a_last0 a_size a_way a_action a_endDo a_alike a_done a_isFinal : F1) :
    (∃ (N : Nat) (se wy wa fi ea cl fn : F1) (fnd : Int32) (set go does ends last0 grp oth sz way act en al fin : F1), 1 ≤ N ∧ N ≤ 50 ∧ R_Mach_build C.1 C.2.1 C.2.2.1 C.2.2.2.1 C.2.2.2.2.1 C.2.2.2.2.2.1 (ad 0) C.2.2.2.2.2.2 us upos ucc ue uy ua ui uf ul un (1, nI N, C.1, nI (cntS cl N), se, wy, wa, fi, ea, cl, fn)
      ∧ R_M_build z_length z_where z_thrown z_at M.1 0 z_states z_positions z_now z_fed z_over M.2.2.2.2.2.1 M.2.2.2.2.2.2.2.1 M.2.2.2.2.2.2.2.2.2.1 M.2.2.2.2.2.2.2.2.2.2.1 M.2.2.2.2.2.2.2.2.2.2.2 z_found a_set a_go a_does (nI N, fnd, set, go, does)
      ∧ R_M_finish (nI N) z_length z_where 0 z_at M.1 0 z_states z_positions z_now z_fed fnd z_over M.2.2.1 M.2.2.2.2.1 M.2.2.2.2.2.2.1 M.2.2.2.2.2.2.2.2.1 set a_ends a_last0 (ends, last0)
      ∧ R_M_divide (nI N) z_length z_where 0 z_at M.1 0 z_states z_positions z_now z_fed fnd z_over go does ends last0 a_group a_other (grp, oth)
      ∧ (∃ n, g_M_compile z_length a_text n 1 (nI N) 0 0 z_where 0 z_at M.1 0 (nI N) M.1 z_now z_fed fnd z_over M.2.1 M.2.2.1 M.2.2.2.1 M.2.2.2.2.1 M.2.2.2.2.2.1 M.2.2.2.2.2.2.1 M.2.2.2.2.2.2.2.1 M.2.2.2.2.2.2.2.2.1 M.2.2.2.2.2.2.2.2.2.1 M.2.2.2.2.2.2.2.2.2.2.1 M.2.2.2.2.2.2.2.2.2.2.2 set go does ends grp oth last0 a_size a_way a_action a_endDo a_alike a_done a_isFinal (nI N, z_where, 0, z_at, M.1, 0, nI N, M.1, 0, 0, fnd, 0, M.2.1, M.2.2.1, M.2.2.2.1, M.2.2.2.2.1, M.2.2.2.2.2.1, M.2.2.2.2.2.2.1, M.2.2.2.2.2.2.2.1, M.2.2.2.2.2.2.2.2.1, M.2.2.2.2.2.2.2.2.2.1, M.2.2.2.2.2.2.2.2.2.2.1, M.2.2.2.2.2.2.2.2.2.2.2, set, go, does, ends, grp, oth, last0, sz, way, act, en, al, fillS 0 a_done 10, fin))
      ∧ (∀ k, k < 4 * N → wy k = way k) ∧ (∀ k, k < 4 * N → wa k = act k) ∧ (∀ k, k < 4 * N → wy k = -1 ∨ ∃ t, t < N ∧ wy k = nI t) ∧ (∀ k, k < N → fi k = fin k) ∧ (∀ k, k < N → ea k = en k) ∧ (∀ k, k < N → cl k = al k) ∧ (∀ k, k < N → R_Int_bitCount (se k) (sz k, ())))
    ∨ ∃ v o, R_Mach_build C.1 C.2.1 C.2.2.1 C.2.2.2.1 C.2.2.2.2.1 C.2.2.2.2.2.1 (ad 0) C.2.2.2.2.2.2 us upos ucc ue uy ua ui uf ul un v ∧ v.1 = 0 ∧ R_M_build z_length z_where z_thrown z_at M.1 0 z_states z_positions z_now z_fed z_over M.2.2.2.2.2.1 M.2.2.2.2.2.2.2.1 M.2.2.2.2.2.2.2.2.2.1 M.2.2.2.2.2.2.2.2.2.2.1 M.2.2.2.2.2.2.2.2.2.2.2 z_found a_set a_go a_does o ∧ o.1 = nI 51 := by
  obtain ⟨P, e1, e2, hI⟩ := hI
  obtain ⟨hP, hNet, hN, _⟩ := hI
  obtain ⟨f, n1, n2, n3, n4, n5, n6, n7⟩ := hN 0 (by omega) h0
  have hB : BCtx P C.2.1 C.2.2.1 C.2.2.2.1 C.2.2.2.2.1 C.2.2.2.2.2.1 (C.2.2.2.2.2.2 (ad 0)) (M.2.2.1 0) (M.2.2.2.2.1 0) (M.2.2.2.2.2.1 0) (M.2.2.2.2.2.2.1 0) M.2.2.2.2.2.2.2.1 M.2.2.2.2.2.2.2.2.1 M.2.2.2.2.2.2.2.2.2.1 M.2.2.2.2.2.2.2.2.2.2.1 M.2.2.2.2.2.2.2.2.2.2.2 := by
    refine ⟨hP, hNet, by rw [n3], n4, n5, fun i hi => ?_, fun i hi => ?_⟩
    · obtain ⟨a, b, c⟩ := n6 i hi
      refine ⟨b, ?_⟩
      have c9 : M.2.2.2.2.2.2.2.1 (30 * 0 + i) = C.2.2.1 i := c
      rw [Nat.mul_zero, Nat.zero_add] at c9
      exact c9
    · obtain ⟨a, b, c⟩ := n7 i hi
      refine ⟨b, ?_⟩
      have c9 : M.2.2.2.2.2.2.2.2.1 (30 * 0 + i) = C.2.2.2.1 i := c
      rw [Nat.mul_zero, Nat.zero_add] at c9
      exact c9
  have z9 : (0 : Int32).toNatClampNeg = 0 := by decide
  have cls : ∀ out, (∃ n, g_Mach_build (nI P) C.2.1 C.2.2.1 C.2.2.2.1 C.2.2.2.2.1 C.2.2.2.2.2.1 (ad 0) C.2.2.2.2.2.2 n 2 (nI 0) (nI 0) (nI 1) (nI P) ucc (upd ue 0 0) uy ua ui uf ul un out) → R_Mach_build C.1 C.2.1 C.2.2.1 C.2.2.2.1 C.2.2.2.2.1 C.2.2.2.2.2.1 (ad 0) C.2.2.2.2.2.2 us upos ucc ue uy ua ui uf ul un out := by
    intro out ⟨n, h⟩
    rw [nI_0] at h
    unfold R_Mach_build
    rw [e1, z9]
    refine ⟨vp_in_nI (n := 0) (by omega) (by decide), n + 1, ?_⟩
    rw [g_Mach_build_1]
    exact ⟨fun z => absurd z (by decide), fun _ => ⟨fun z => absurd z (by decide), fun _ => h⟩⟩
  have mdl : ∀ out, (∃ n, g_M_build z_length z_where z_thrown z_at (nI P) 0 z_states z_positions z_now z_fed z_over M.2.2.2.2.2.1 M.2.2.2.2.2.2.2.1 M.2.2.2.2.2.2.2.2.2.1 M.2.2.2.2.2.2.2.2.2.2.1 M.2.2.2.2.2.2.2.2.2.2.2 n 2 (nI 1) (nI 0) (nI 0) 0 0 z_found (upd a_set 0 0) a_go a_does out) → R_M_build z_length z_where z_thrown z_at M.1 0 z_states z_positions z_now z_fed z_over M.2.2.2.2.2.1 M.2.2.2.2.2.2.2.1 M.2.2.2.2.2.2.2.2.2.1 M.2.2.2.2.2.2.2.2.2.2.1 M.2.2.2.2.2.2.2.2.2.2.2 z_found a_set a_go a_does out := by
    intro out ⟨n, h⟩
    rw [nI_0] at h
    unfold R_M_build
    rw [e2, z9]
    refine ⟨vp_in_nI (n := 0) (by omega) (by decide), n + 1, ?_⟩
    rw [g_M_build_1]
    exact ⟨fun z => absurd z (by decide), fun _ => ⟨fun z => absurd z (by decide), fun _ => h⟩⟩
  have hBR : BR P 1 (0 * 4 + 0) (upd ue 0 0) uy ua (upd a_set 0 0) a_go a_does := by
    refine ⟨by omega, by omega, by rw [upd_at, if_pos rfl], fun i hi => ?_, fun k hk => by omega⟩
    have e : i = 0 := by omega
    subst e
    rw [upd_at, if_pos rfl, upd_at, if_pos rfl]
    exact ⟨rfl, fun b _ => b_0 b⟩
  rcases build_loop (cl := ul) (fn := un) (ncc := ucc) (z_length := z_length) (z_where := z_where) (z_thrown := z_thrown) (z_at := z_at) (z_bad := 0) (z_states := z_states) (z_positions := z_positions) (z_now := z_now) (z_fed := z_fed) (z_over := z_over) hB 255 0 0 1 (upd ue 0 0) uy ua ui uf (upd a_set 0 0) a_go a_does z_found (by omega) (by omega) (by omega) hBR (fun i hi => by omega) with ⟨N, se, wy, wa, fi, ea, set, go, does, fnd, r1, r2, r3, r4⟩ | ⟨v, o, r1, r2, r3, r4⟩
  · obtain ⟨b1, b2, b3, b4, b5⟩ := r1
    have hTc : Tbl N wy wa := ⟨b2, fun k hk => (b5 k hk).2.2⟩
    have hTm : Tbl N go does := ⟨b2, fun k hk => by
      obtain ⟨k1, k2, k3⟩ := b5 k hk
      rw [k1, k2]; exact k3⟩
    obtain ⟨cl, fn, rc, c1, c2, c3, c4, c5⟩ := findClasses_ok (np := nI P) (ncc := ucc) (fi := fi) (ea := ea) (cl := ul) (fn := un) hTc b1
    obtain ⟨ends, last0, f1, f2⟩ := finish_ok (z_length := z_length) (z_where := z_where) (z_thrown := 0) (z_at := z_at) (z_bad := 0) (z_states := z_states) (z_positions := z_positions) (z_now := z_now) (z_fed := z_fed) (z_found := fnd) (z_over := z_over) (em := M.2.2.1) (no := M.2.2.2.2.1) (L := M.2.2.2.2.2.2.1) (lD := M.2.2.2.2.2.2.2.2.1) (set := set) (ends := a_ends) (last0 := a_last0) hP b2 n4 n5
    obtain ⟨grp, oth, rm, d1, d2, d3, d4, d5⟩ := divide_ok (z_length := z_length) (z_where := z_where) (z_thrown := 0) (z_at := z_at) (z_many := nI P) (z_bad := 0) (z_states := z_states) (z_positions := z_positions) (z_now := z_now) (z_fed := z_fed) (z_found := fnd) (z_over := z_over) (ends := ends) (last0 := last0) (grp := a_group) (oth := a_other) hTm
    have hfe : ∀ i, i < N → last0 i = fi i ∧ ends i = ea i := by
      intro i hi
      rw [(f2 i hi).1, (f2 i hi).2, (r2 i hi).1, (r2 i hi).2, (b4 i hi).1, vE_eq hB.2.2.2.2.2.2]
      exact ⟨rfl, rfl⟩
    have hsame := rep_one hTc c3 c4 c5 d3 (stab_cong (fun k hk => ⟨(b5 k hk).1, (b5 k hk).2.1⟩) hfe d4) (big_cong (fun k hk => ⟨(b5 k hk).1, (b5 k hk).2.1⟩) hfe d5)
    have hl01 : ∀ i, i < N → last0 i = 0 ∨ last0 i = 1 := by
      intro i hi
      rw [(f2 i hi).2]
      unfold vF
      split
      · exact n4
      · split
        · exact Or.inl rfl
        · exact Or.inr rfl
    obtain ⟨way, act, p1, p2⟩ := comp1 (N := N) (z_length := z_length) (a_text := a_text) (z_where := z_where) (z_thrown := 0) (z_at := z_at) (z_many := nI P) (z_bad := 0) (z_states := nI N) (z_positions := nI P) (z_now := z_now) (z_fed := z_fed) (z_found := fnd) (z_over := z_over) (a_is := M.2.1) (a_empty := M.2.2.1) (a_from := M.2.2.2.1) (a_nothing := M.2.2.2.2.1) (a_first := M.2.2.2.2.2.1) (a_last := M.2.2.2.2.2.2.1) (a_firstDo := M.2.2.2.2.2.2.2.1) (a_lastDo := M.2.2.2.2.2.2.2.2.1) (a_letters := M.2.2.2.2.2.2.2.2.2.1) (a_stepDo := M.2.2.2.2.2.2.2.2.2.2.1) (a_step := M.2.2.2.2.2.2.2.2.2.2.2) (a_set := set) (a_go := go) (a_does := does) (a_ends := ends) (a_group := grp) (a_other := oth) (a_last0 := last0) (a_size := a_size) (a_endDo := a_endDo) (a_alike := a_alike) (a_done := a_done) (a_isFinal := a_isFinal) hTm (N * 4) 0 a_way a_action (by omega) (fun k hk => by omega)
    obtain ⟨sz, en, al, fin, q1, q2⟩ := comp2 (N := N) (z_length := z_length) (a_text := a_text) (z_where := z_where) (z_thrown := 0) (z_at := z_at) (z_many := nI P) (z_bad := 0) (z_states := nI N) (z_positions := nI P) (z_now := z_now) (z_fed := z_fed) (z_found := fnd) (z_over := z_over) (a_is := M.2.1) (a_empty := M.2.2.1) (a_from := M.2.2.2.1) (a_nothing := M.2.2.2.2.1) (a_first := M.2.2.2.2.2.1) (a_last := M.2.2.2.2.2.2.1) (a_firstDo := M.2.2.2.2.2.2.2.1) (a_lastDo := M.2.2.2.2.2.2.2.2.1) (a_letters := M.2.2.2.2.2.2.2.2.2.1) (a_stepDo := M.2.2.2.2.2.2.2.2.2.2.1) (a_step := M.2.2.2.2.2.2.2.2.2.2.2) (a_set := set) (a_go := go) (a_does := does) (a_ends := ends) (a_group := grp) (a_other := oth) (a_last0 := last0) (a_way := way) (a_action := act) (a_done := a_done) b2 hl01 N 0 a_size a_endDo a_alike a_isFinal (by omega) (fun i hi => by omega)
    rw [nI_0] at p2 q2
    refine Or.inl ⟨N, se, wy, wa, fi, ea, cl, fn, fnd, set, go, does, ends, last0, grp, oth, sz, way, act, en, al, fin, b1, b2, cls _ (r3 _ ⟨1, ?_⟩), mdl _ r4, by rw [e2]; exact f1, by rw [e2]; exact d1, by rw [e2]; exact p2 _ q2, fun k hk => ?_, fun k hk => ?_, fun k hk => ?_, fun k hk => ?_, fun k hk => ?_, fun k hk => ?_, fun k hk => ?_⟩
    · rw [g_Mach_build_1, e1]
      exact ⟨fun _ => ⟨_, c1, rfl⟩, fun z => absurd (nI_le (Nat.le_refl _) (by omega)) z⟩
    · rw [(p1 k (by omega)).1, (b5 k (by omega)).1]
    · rw [(p1 k (by omega)).2, (b5 k (by omega)).2.1]
    · exact (b5 k (by omega)).2.2.imp (fun h => h.1) id
    · rw [(q1 k hk).2.2.2, (hfe k hk).1]
    · rw [(q1 k hk).2.1, (hfe k hk).2]
    · rw [(q1 k hk).2.2.1, c2 k hk, d2 k hk, hsame k hk]
    · rw [(q1 k hk).1, (b4 k hk).1, ← pcS_30 (fun b hb => (b4 k hk).2 b (by omega))]
      exact bitCount_ok (se k)
  · exact Or.inr ⟨v, o, cls _ r1, r2, mdl _ r3, r4⟩
