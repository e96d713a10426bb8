/-! ===== state ===== -/
theorem le3_iff {x : Int32} : x ≤ 3 ↔ x < 4 := by
  rw [Int32.lt_iff_toInt_lt, Int32.le_iff_toInt_le]
  have h4 : (4 : Int32).toInt = 4 := by decide
  have h3 : (3 : Int32).toInt = 3 := by decide
  rw [h4, h3]; omega
section
variable {p1 p2 ln fl ns npos ncc r : Int32} {se fi ea cl : Nat → Int32} {lo9 : Nat → Int64}
theorem L_state_in (h : R_EF_state p1 p2 ln fl ns npos ncc se fi ea cl (.inl (r, ()))) : R_L_state p1 p2 ln fl ns npos ncc se fi ea cl lo9 (0, vp_updL lo9 (0 : Int32).toNatClampNeg r.toInt64) :=
  ⟨_, h, fun r u e => (by cases e; exact ⟨v01, rfl⟩), fun E u e => (nomatch e)⟩
theorem L_state_ia (h : R_EF_state p1 p2 ln fl ns npos ncc se fi ea cl (.inr ("java/lang/IllegalArgumentException", ()))) : R_L_state p1 p2 ln fl ns npos ncc se fi ea cl lo9 (1, lo9) :=
  ⟨_, h, fun r u e => (nomatch e), fun E u e => (by cases e; exact ⟨Or.inl rfl, fun _ => rfl, fun e => (by simp at e)⟩)⟩
theorem L_state_ns (h : R_EF_state p1 p2 ln fl ns npos ncc se fi ea cl (.inr ("java/util/NoSuchElementException", ()))) : R_L_state p1 p2 ln fl ns npos ncc se fi ea cl lo9 (2, lo9) :=
  ⟨_, h, fun r u e => (nomatch e), fun E u e => (by cases e; exact ⟨Or.inr rfl, fun e => (by simp at e), fun _ => rfl⟩)⟩
end
theorem st_state {N : Nat} {p1 p2 ln fl ns npos ncc : Int32} {se fi ea cl a_size a_isFinal a_endDo a_alike : Nat → Int32} {lo9 : Nat → Int64} {z_length z_where z_at z_many z_bad z_states z_positions z_now z_fed z_found z_over z_thrown : Int32} (hN : StN N ns z_states) (hfi : ∀ k, k < N → fi k = a_isFinal k) (hea : ∀ k, k < N → ea k = a_endDo k) (hcl : ∀ k, k < N → cl k = a_alike k) (hsz : ∀ k, k < N → R_Int_bitCount (se k) (a_size k, ())) :
    ∃ v v', R_L_state p1 p2 ln fl ns npos ncc se fi ea cl lo9 v ∧ R_M_state p1 p2 z_length z_where z_at z_many z_bad z_states z_positions z_now z_fed z_found z_over a_size a_endDo a_alike a_isFinal z_thrown v' ∧ v'.2 = v.1 ∧ (v.1 = 0 → v.2 0 = v'.1.toInt64) := by
  obtain ⟨hN50, rfl, rfl⟩ := hN
  by_cases hp : p2 < 0 ∨ ¬ p2 < 4
  · refine ⟨(1, lo9), (0, 1), L_state_ia ⟨fun _ => rfl, fun h0 => ⟨fun h => absurd (le3_iff.mp h) (hp.elim (fun z => absurd z h0) id), fun _ => rfl⟩⟩, ⟨_, M_letter_no hp, fun h => absurd rfl h, fun _ => ⟨fun h => absurd h (by decide), fun _ => rfl⟩⟩, rfl, fun h => absurd (show (1 : Int32) = 0 from h) (by decide)⟩
  · have h0 : ¬ p2 < 0 := fun z => hp (Or.inl z)
    have h4 : p2 < 4 := Decidable.not_not.mp (fun z => hp (Or.inr z))
    obtain ⟨k, hk, rfl⟩ := in03 h0 h4
    by_cases hq : p1 < 0 ∨ ¬ p1 < nI N
    · refine ⟨(2, lo9), (0, 2), L_state_ns ⟨fun h => absurd h h0, fun _ => ⟨fun _ => ⟨_, EF_checkState_no hq, fun u e => (nomatch e), fun E u e => (by cases e; rfl)⟩, fun h => absurd (le3_iff.mpr h4) h⟩⟩, ⟨_, R_in_ok h0 (lt4_iff.mp h4), fun _ => ⟨_, M_in_no hN50 hq, fun h => absurd rfl h, fun _ => ⟨fun h => absurd h (by decide), fun _ => rfl⟩⟩, fun h => absurd h (by decide)⟩, rfl, fun h => absurd (show (2 : Int32) = 0 from h) (by decide)⟩
    · have h10 : ¬ p1 < 0 := fun z => hq (Or.inl z)
      have h1N : p1 < nI N := Decidable.not_not.mp (fun z => hq (Or.inr z))
      obtain ⟨a, ha, rfl⟩ := inN hN50 h10 h1N
      have hi : vp_in (nI a) 50 := vp_in_nI (by omega) (by decide)
      have ec : (nI a).toNatClampNeg = a := nI_clamp (by omega)
      -- both sides from one value
      have fin : ∀ r : Int32, R_EF_state (nI a) (nI k) ln fl (nI N) npos ncc se fi ea cl (.inl (r, ())) → R_M_state (nI a) (nI k) z_length z_where z_at z_many z_bad (nI N) z_positions z_now z_fed z_found z_over a_size a_endDo a_alike a_isFinal z_thrown (r, 0) →
          ∃ v v', R_L_state (nI a) (nI k) ln fl (nI N) npos ncc se fi ea cl lo9 v ∧ R_M_state (nI a) (nI k) z_length z_where z_at z_many z_bad (nI N) z_positions z_now z_fed z_found z_over a_size a_endDo a_alike a_isFinal z_thrown v' ∧ v'.2 = v.1 ∧ (v.1 = 0 → v.2 0 = v'.1.toInt64) :=
        fun r h1 h2 => ⟨_, _, L_state_in h1, h2, rfl, fun _ => rfl⟩
      have efs : ∀ r : Int32, (((nI k).toInt < 0 ∨ 2 < (nI k).toInt) → (∃ v_6, R_Int_bitCount (se a) v_6 ∧ r = v_6.1)) → (nI k = 0 → ((fi a = 0 → r = 0) ∧ (¬ fi a = 0 → r = 1))) → (nI k = 1 → r = ea a) → (nI k = 2 → r = cl a) → R_EF_state (nI a) (nI k) ln fl (nI N) npos ncc se fi ea cl (.inl (r, ())) := by
        intro r c3 c0 c1 c2
        refine ⟨fun h => absurd h h0, fun _ => ⟨fun _ => ⟨_, EF_checkState_ok h10 h1N, fun u _ => ⟨fun h => ⟨hi, ?_⟩, fun h => ⟨hi, ?_⟩, fun h => ⟨hi, ?_⟩, fun h => ⟨hi, ?_⟩⟩, fun E u e => (nomatch e)⟩, fun h => absurd (le3_iff.mpr h4) h⟩⟩
        · rw [ec]; obtain ⟨v, hv, e⟩ := c3 h; exact ⟨v, hv, by rw [e]⟩
        · rw [ec]; exact ⟨fun z => by rw [(c0 h).1 z], fun z => by rw [(c0 h).2 z]⟩
        · rw [ec, c1 h]
        · rw [ec, c2 h]
      have ms : ∀ r : Int32, (¬ nI k = 0 → ¬ nI k = 1 → ¬ nI k = 2 → r = a_size a) → (nI k = 2 → r = a_alike a) → (nI k = 1 → r = a_endDo a) → (nI k = 0 → ((a_isFinal a = 0 → r = 0) ∧ (¬ a_isFinal a = 0 → r = 1))) → R_M_state (nI a) (nI k) z_length z_where z_at z_many z_bad (nI N) z_positions z_now z_fed z_found z_over a_size a_endDo a_alike a_isFinal z_thrown (r, 0) := by
        intro r c3 c2 c1 c0
        refine ⟨_, R_in_ok h0 (lt4_iff.mp h4), fun _ => ⟨_, R_in_ok h10 ((ltN_iff hN50).mp h1N), fun _ => ⟨fun _ => ⟨fun k0 => ⟨fun k1 => ⟨fun k2 => ⟨hi, ?_⟩, fun k2 => ⟨hi, ?_⟩⟩, fun k1 => ⟨hi, ?_⟩⟩, fun k0 => ⟨hi, ?_⟩⟩, fun h => absurd (by decide) h⟩, fun h => absurd h (by decide)⟩, fun h => absurd h (by decide)⟩
        · rw [ec, c3 k0 k1 k2]
        · rw [ec, c2 k2]
        · rw [ec, c1 k1]
        · rw [ec]; exact ⟨fun z => by rw [(c0 k0).1 z], fun z => by rw [(c0 k0).2 z]⟩
      match k, hk with
      | 0, _ =>
        by_cases hz : fi a = 0
        · exact fin 0 (efs 0 (fun h => absurd h (by decide)) (fun _ => ⟨fun _ => rfl, fun z => absurd hz z⟩) (fun h => absurd h (by decide)) (fun h => absurd h (by decide))) (ms 0 (fun h => absurd rfl h) (fun h => absurd h (by decide)) (fun h => absurd h (by decide)) (fun _ => ⟨fun _ => rfl, fun z => absurd (by rw [← hfi a ha]; exact hz) z⟩))
        · exact fin 1 (efs 1 (fun h => absurd h (by decide)) (fun _ => ⟨fun z => absurd z hz, fun _ => rfl⟩) (fun h => absurd h (by decide)) (fun h => absurd h (by decide))) (ms 1 (fun h => absurd rfl h) (fun h => absurd h (by decide)) (fun h => absurd h (by decide)) (fun _ => ⟨fun z => absurd (by rw [hfi a ha]; exact z) hz, fun _ => rfl⟩))
      | 1, _ => exact fin (ea a) (efs _ (fun h => absurd h (by decide)) (fun h => absurd h (by decide)) (fun _ => rfl) (fun h => absurd h (by decide))) (ms _ (fun _ h => absurd rfl h) (fun h => absurd h (by decide)) (fun _ => hea a ha) (fun h => absurd h (by decide)))
      | 2, _ => exact fin (cl a) (efs _ (fun h => absurd h (by decide)) (fun h => absurd h (by decide)) (fun h => absurd h (by decide)) (fun _ => rfl)) (ms _ (fun _ _ h => absurd rfl h) (fun _ => hcl a ha) (fun h => absurd h (by decide)) (fun h => absurd h (by decide)))
      | 3, _ => exact fin (a_size a) (efs _ (fun _ => ⟨_, hsz a ha, rfl⟩) (fun h => absurd h (by decide)) (fun h => absurd h (by decide)) (fun h => absurd h (by decide))) (ms _ (fun _ _ _ => rfl) (fun h => absurd h (by decide)) (fun h => absurd h (by decide)) (fun h => absurd h (by decide)))
      | k + 4, hk => exact absurd hk (by omega)
