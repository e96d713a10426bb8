/-! ===== feed, clear, where ===== -/
theorem EF_letter_no {p : Int32} (h : p < 0 ∨ ¬ p < 4) : R_EF_checkLetter p (.inr ("java/lang/IllegalArgumentException", ())) := ⟨fun _ => rfl, fun h0 => ⟨fun h4 => h.elim (fun z => absurd z h0) (fun z => absurd h4 z), fun _ => rfl⟩⟩
theorem EF_letter_ok {p : Int32} (h0 : ¬ p < 0) (h4 : p < 4) : R_EF_checkLetter p (.inl ()) := ⟨fun h => absurd h h0, fun _ => ⟨fun _ => rfl, fun h => absurd h4 h⟩⟩
theorem M_letter_no {p : Int32} (h : p < 0 ∨ ¬ p < 4) : R_M_in p 0 3 (0, ()) := by
  by_cases h0 : p < 0
  · exact R_in_lo h0
  · exact R_in_hi (Decidable.not_not.mp (fun z => (h.elim (fun z => absurd z h0) id) (lt4_iff.mpr z))) h0
theorem ix1 (a k : Nat) : nI a * 4 + nI k = nI (a * 4 + k) := by rw [show (4 : Int32) = nI 4 from rfl, pk_mul, nI_add]
theorem ix2 (a k : Nat) : 4 * nI a + nI k = nI (a * 4 + k) := by rw [show (4 : Int32) = nI 4 from rfl, pk_mul, nI_add, Nat.mul_comm]
theorem nI_m1 {t : Nat} (h : t < 50) : ¬ nI t = -1 := by
  intro e
  have := nI_pos' (n := t) (by omega)
  rw [e] at this
  exact absurd this (by decide)
theorem st_feed {N : Nat} {p1 ln fl ns npos ncc wat wen wfe : Int32} {dn a_done wy wa a_way a_action : Nat → Int32} {lo9 : Nat → Int64} {z_length z_where z_at z_many z_bad z_states z_positions z_found z_thrown z_now z_fed z_over : Int32} (hN : StN N ns z_states) (hW : WkR N wat wen wfe dn z_now z_over z_fed a_done) (hwy : ∀ k, k < 4 * N → wy k = a_way k) (hwa : ∀ k, k < 4 * N → wa k = a_action k) (hwv : ∀ k, k < 4 * N → wy k = -1 ∨ ∃ t : Nat, t < N ∧ wy k = nI t) :
    ∃ v v', R_L_feed p1 ln fl ns npos ncc wen wy wa wat wfe dn lo9 v ∧ R_M_feed p1 z_length z_where z_at z_many z_bad z_states z_positions z_found z_over a_way a_action z_thrown z_now z_fed a_done v' ∧ v'.2.1 = v.1 ∧ (v.1 = 0 → v.2.2.2.2 0 = v'.1.toInt64) ∧ WkR N v.2.1 wen v.2.2.1 v.2.2.2.1 v'.2.2.1 z_over v'.2.2.2.1 v'.2.2.2.2 := by
  obtain ⟨hN50, rfl, rfl⟩ := hN
  obtain ⟨rfl, rfl, rfl, hd, a, rfl, ha⟩ := id hW
  by_cases hp : p1 < 0 ∨ ¬ p1 < 4
  · refine ⟨(1, nI a, wfe, dn, lo9), (0, 1, nI a, wfe, a_done), ?_, ⟨_, M_letter_no hp, fun h => absurd rfl h, fun _ => ⟨(0, 1), rfl, rfl⟩⟩, rfl, fun h => absurd (show (1 : Int32) = 0 from h) (by decide), hW⟩
    exact ⟨.inr ("java/lang/IllegalArgumentException", (nI a, wfe, dn)), ⟨_, EF_letter_no hp, fun u e => (nomatch e), fun E u e => (by cases e; rfl)⟩, fun r u e => (nomatch e), fun E u e => (by cases e; exact ⟨Or.inl rfl, fun _ => rfl, fun e => (by simp at e), fun e => (by simp at e)⟩)⟩
  · have h0 : ¬ p1 < 0 := fun z => hp (Or.inl z)
    have h4 : p1 < 4 := Decidable.not_not.mp (fun z => hp (Or.inr z))
    obtain ⟨k, hk, rfl⟩ := in03 h0 h4
    by_cases hg : nI N = 0 ∨ ¬ wen = 0
    · refine ⟨(2, nI a, wfe, dn, lo9), (0, 2, nI a, wfe, a_done), ?_, ⟨_, R_in_ok h0 (lt4_iff.mp h4), fun _ => ⟨fun _ => ⟨(0, 2), rfl, rfl⟩, fun hz => ⟨fun z => absurd z (hg.elim (fun y => absurd y hz) id), fun _ => ⟨(0, 2), rfl, rfl⟩⟩⟩, fun h => absurd h (by decide)⟩, rfl, fun h => absurd (show (2 : Int32) = 0 from h) (by decide), hW⟩
      exact ⟨.inr ("java/lang/IllegalStateException", (nI a, wfe, dn)), ⟨_, EF_letter_ok h0 h4, fun u _ => ⟨_, EF_checkGoing_no hg, fun u e => (nomatch e), fun E u e => (by cases e; rfl)⟩, fun E u e => (nomatch e)⟩, fun r u e => (nomatch e), fun E u e => (by cases e; exact ⟨Or.inr (Or.inl rfl), fun e => (by simp at e), fun _ => rfl, fun e => (by simp at e)⟩)⟩
    · have hz : ¬ nI N = 0 := fun z => hg (Or.inl z)
      have hw : wen = 0 := Decidable.not_not.mp (fun z => hg (Or.inr z))
      have haN : a < N := ha.elim id (fun z => absurd ((nI_zero hN50).mpr z) hz)
      have hi : vp_in (nI (a * 4 + k)) 200 := vp_in_nI (by omega) (by decide)
      have ec : (nI (a * 4 + k)).toNatClampNeg = a * 4 + k := nI_clamp (by omega)
      have hT : R_Mach_target (nI a) (nI k) (nI N) npos ncc wy (wy (a * 4 + k), ()) := ⟨by rw [ix1]; exact hi, by rw [ix1, ec]⟩
      have hA : R_Mach_actionsOnWay (nI a) (nI k) (nI N) npos ncc wa (wa (a * 4 + k), ()) := ⟨by rw [ix1]; exact hi, by rw [ix1, ec]⟩
      have e1 := hwy (a * 4 + k) (by omega)
      have e2 := hwa (a * 4 + k) (by omega)
      rcases hwv (a * 4 + k) (by omega) with hm | ⟨t, ht, hm⟩
      · refine ⟨(3, nI a, wfe, dn, lo9), (0, 3, nI a, wfe, a_done), ?_, ⟨_, R_in_ok h0 (lt4_iff.mp h4), fun _ => ⟨fun z => absurd z hz, fun _ => ⟨fun _ => ?_, fun z => absurd hw z⟩⟩, fun h => absurd h (by decide)⟩, rfl, fun h => absurd (show (3 : Int32) = 0 from h) (by decide), hW⟩
        · exact ⟨.inr ("java/lang/UnsupportedOperationException", (nI a, wfe, dn)), ⟨_, EF_letter_ok h0 h4, fun u _ => ⟨_, EF_checkGoing_ok hz hw, fun u _ => ⟨_, hT, fun z => absurd hm z, fun _ => rfl⟩, fun E u e => (nomatch e)⟩, fun E u e => (nomatch e)⟩, fun r u e => (nomatch e), fun E u e => (by cases e; exact ⟨Or.inr (Or.inr rfl), fun e => (by simp at e), fun e => (by simp at e), fun _ => rfl⟩)⟩
        · rw [ix2, ec, ← e1, hm]
          exact ⟨hi, hi, fun z => absurd z (by decide), fun _ => ⟨(0, 3), rfl, rfl⟩⟩
      · refine ⟨(0, nI t, wfe + 1, perfS (wa (a * 4 + k)) dn 10, vp_updL lo9 (0 : Int32).toNatClampNeg (wa (a * 4 + k)).toInt64), (a_action (a * 4 + k), 0, nI t, wfe + 1, perfS (a_action (a * 4 + k)) a_done 10), ?_, ⟨_, R_in_ok h0 (lt4_iff.mp h4), fun _ => ⟨fun z => absurd z hz, fun _ => ⟨fun _ => ?_, fun z => absurd hw z⟩⟩, fun h => absurd h (by decide)⟩, rfl, fun _ => ?_, ⟨rfl, rfl, rfl, ?_, t, rfl, Or.inl ht⟩⟩
        · exact ⟨.inl (wa (a * 4 + k), (nI t, wfe + 1, perfS (wa (a * 4 + k)) dn 10)), ⟨_, EF_letter_ok h0 h4, fun u _ => ⟨_, EF_checkGoing_ok hz hw, fun u _ => ⟨_, hT, fun _ => ⟨_, hA, _, ⟨_, R_Walk_perform_ok, rfl⟩, by rw [hm]⟩, fun z => absurd (hm.symm.trans z) (nI_m1 (by omega))⟩, fun E u e => (nomatch e)⟩, fun E u e => (nomatch e)⟩, fun r u e => (by cases e; exact ⟨v01, rfl⟩), fun E u e => (nomatch e)⟩
        · rw [ix2, ec, ← e1, hm]
          exact ⟨hi, hi, fun _ => ⟨_, R_M_perform_ok, rfl⟩, fun z => absurd (nI_pos' (by omega)) z⟩
        · show (wa (a * 4 + k)).toInt64 = (a_action (a * 4 + k)).toInt64
          rw [e2]
        · show ∀ q, q < 10 → perfS (wa (a * 4 + k)) dn 10 q = perfS (a_action (a * 4 + k)) a_done 10 q
          rw [e2]
          exact perfS_eq hd
