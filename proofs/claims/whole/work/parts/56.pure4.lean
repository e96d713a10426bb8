/-! ===== jump, end, feed, clear, where ===== -/
/-- where the machine is, on both sides -/
def WkR (N : Nat) (wat wen wfe : Int32) (dn : Nat → Int32) (z_now z_over z_fed : Int32) (a_done : Nat → Int32) : Prop :=
  wat = z_now ∧ wen = z_over ∧ wfe = z_fed ∧ (∀ q, q < 10 → dn q = a_done q) ∧ ∃ a : Nat, wat = nI a ∧ (a < N ∨ N = 0)
theorem nI_zero {N : Nat} (hN : N ≤ 50) : nI N = 0 ↔ N = 0 := by
  rw [← nI_0]; exact nI_eq (by omega) (by omega)
theorem EF_checkState_ok {p ln fl npos ncc : Int32} {N : Nat} (h0 : ¬ p < 0) (h1 : p < nI N) : R_EF_checkState p ln fl (nI N) npos ncc (.inl ()) := ⟨fun h => absurd h h0, fun _ => ⟨fun _ => rfl, fun h => absurd h1 h⟩⟩
theorem EF_checkState_no {p ln fl npos ncc : Int32} {N : Nat} (h : p < 0 ∨ ¬ p < nI N) : R_EF_checkState p ln fl (nI N) npos ncc (.inr ("java/util/NoSuchElementException", ())) :=
  ⟨fun _ => rfl, fun h0 => ⟨fun h1 => h.elim (fun z => absurd z h0) (fun z => absurd h1 z), fun _ => rfl⟩⟩
theorem M_in_no {p : Int32} {N : Nat} (hN : N ≤ 50) (h : p < 0 ∨ ¬ p < nI N) : R_M_in p 0 (nI N - 1) (0, ()) := by
  by_cases h0 : p < 0
  · exact R_in_lo h0
  · exact R_in_hi (Decidable.not_not.mp (fun z => (h.elim (fun z => absurd z h0) id) ((ltN_iff hN).mpr z))) h0
theorem EF_checkCompiled_ok {ln fl npos ncc : Int32} {N : Nat} (h : ¬ nI N = 0) : R_EF_checkCompiled ln fl (nI N) npos ncc (.inl ()) := ⟨fun _ => rfl, fun z => absurd z h⟩
theorem EF_checkCompiled_no {ln fl npos ncc : Int32} {N : Nat} (h : nI N = 0) : R_EF_checkCompiled ln fl (nI N) npos ncc (.inr ("java/lang/IllegalStateException", ())) := ⟨fun z => absurd h z, fun _ => rfl⟩
theorem st_jump {N : Nat} {p1 ln fl ns npos ncc wat wen wfe : Int32} {dn a_done : Nat → Int32} {lo9 : Nat → Int64} {z_length z_where z_at z_many z_bad z_states z_positions z_found z_thrown z_now z_fed z_over : Int32} (hN : StN N ns z_states) (hW : WkR N wat wen wfe dn z_now z_over z_fed a_done) :
    ∃ v v', R_L_jump p1 ln fl ns npos ncc wat wen wfe dn lo9 v ∧ R_M_jump p1 z_length z_where z_at z_many z_bad z_states z_positions z_found z_thrown z_now z_fed z_over a_done v' ∧ v'.2.1 = v.1 ∧ (v.1 = 0 → v.2.2.2.2.2 0 = v'.1.toInt64) ∧ WkR N v.2.1 v.2.2.1 v.2.2.2.1 v.2.2.2.2.1 v'.2.2.1 v'.2.2.2.2.1 v'.2.2.2.1 v'.2.2.2.2.2 := by
  obtain ⟨hN50, rfl, rfl⟩ := hN
  obtain ⟨rfl, rfl, rfl, hd, hat⟩ := id hW
  by_cases hz : nI N = 0
  · refine ⟨(1, wat, wen, wfe, dn, lo9), (0, 1, wat, wfe, wen, a_done), ?_, ⟨fun h => absurd hz h, fun _ => ⟨(0, 1), rfl, rfl⟩⟩, rfl, fun h => absurd (show (1 : Int32) = 0 from h) (by decide), hW⟩
    exact ⟨.inr ("java/lang/IllegalStateException", (wat, wen, wfe, dn)), ⟨_, EF_checkCompiled_no hz, fun u e => (nomatch e), fun E u e => (by cases e; rfl)⟩, fun r u e => (nomatch e), fun E u e => (by cases e; exact ⟨Or.inl rfl, fun _ => rfl, fun e => (by simp at e)⟩)⟩
  · by_cases hp : p1 < 0 ∨ ¬ p1 < nI N
    · refine ⟨(2, wat, wen, wfe, dn, lo9), (0, 2, wat, wfe, wen, a_done), ?_, ⟨fun _ => ⟨(0, ()), M_in_no hN50 hp, fun h => absurd rfl h, fun _ => ⟨(0, 2), rfl, rfl⟩⟩, fun h => absurd h hz⟩, rfl, fun h => absurd (show (2 : Int32) = 0 from h) (by decide), hW⟩
      exact ⟨.inr ("java/util/NoSuchElementException", (wat, wen, wfe, dn)), ⟨_, EF_checkCompiled_ok hz, fun u _ => ⟨_, EF_checkState_no hp, fun u e => (nomatch e), fun E u e => (by cases e; rfl)⟩, fun E u e => (nomatch e)⟩, fun r u e => (nomatch e), fun E u e => (by cases e; exact ⟨Or.inr rfl, fun e => (by simp at e), fun _ => rfl⟩)⟩
    · have h0 : ¬ p1 < 0 := fun z => hp (Or.inl z)
      have h1 : p1 < nI N := Decidable.not_not.mp (fun z => hp (Or.inr z))
      obtain ⟨a, ha, rfl⟩ := inN hN50 h0 h1
      refine ⟨(0, nI a, 0, 0, fillS 0 dn 10, vp_updL lo9 (0 : Int32).toNatClampNeg wat.toInt64), (wat, 0, nI a, 0, 0, fillS 0 a_done 10), ?_, ⟨fun _ => ⟨(1, ()), R_in_ok h0 ((ltN_iff hN50).mp h1), fun _ => ⟨_, R_M_begin_ok, rfl⟩, fun h => absurd h (by decide)⟩, fun h => absurd h hz⟩, rfl, fun _ => rfl, ⟨rfl, rfl, rfl, fun q hq => by simp [fillS, hq], a, rfl, Or.inl ha⟩⟩
      exact ⟨.inl (wat, (nI a, 0, 0, fillS 0 dn 10)), ⟨_, EF_checkCompiled_ok hz, fun u _ => ⟨_, EF_checkState_ok h0 h1, fun u _ => ⟨_, R_Walk_restart_ok, rfl⟩, fun E u e => (nomatch e)⟩, fun E u e => (nomatch e)⟩, fun r u e => (by cases e; exact ⟨v01, rfl⟩), fun E u e => (nomatch e)⟩
theorem EF_checkGoing_ok {ln fl npos ncc wat wen wfe : Int32} {N : Nat} (h : ¬ nI N = 0) (hw : wen = 0) : R_EF_checkGoing ln fl (nI N) npos ncc wat wen wfe (.inl ()) := ⟨_, EF_checkCompiled_ok h, fun u _ => ⟨fun _ => rfl, fun z => absurd hw z⟩, fun E u e => (nomatch e)⟩
theorem EF_checkGoing_no {ln fl npos ncc wat wen wfe : Int32} {N : Nat} (h : nI N = 0 ∨ ¬ wen = 0) : R_EF_checkGoing ln fl (nI N) npos ncc wat wen wfe (.inr ("java/lang/IllegalStateException", ())) := by
  by_cases hz : nI N = 0
  · exact ⟨_, EF_checkCompiled_no hz, fun u e => (nomatch e), fun E u e => (by cases e; rfl)⟩
  · exact ⟨_, EF_checkCompiled_ok hz, fun u _ => ⟨fun z => absurd z (h.elim (fun z => absurd z hz) id), fun _ => rfl⟩, fun E u e => (nomatch e)⟩
theorem perfS_eq {b : Int32} {f g : Nat → Int32} (h : ∀ q, q < 10 → f q = g q) : ∀ q, q < 10 → perfS b f 10 q = perfS b g 10 q := fun q hq => by unfold perfS; rw [h q hq]
theorem st_end {N : Nat} {ln fl ns npos ncc wat wen wfe : Int32} {dn a_done fi ea a_isFinal a_endDo : Nat → Int32} {lo9 : Nat → Int64} {z_length z_where z_at z_many z_bad z_states z_positions z_found z_thrown z_now z_fed z_over : Int32} (hN : StN N ns z_states) (hW : WkR N wat wen wfe dn z_now z_over z_fed a_done) (hfi : ∀ k, k < N → fi k = a_isFinal k) (hea : ∀ k, k < N → ea k = a_endDo k) :
    ∃ v v', R_L_end ln fl ns npos ncc wat wfe fi ea wen dn lo9 v ∧ R_M_end z_length z_where z_at z_many z_bad z_states z_positions z_now z_fed z_found a_endDo a_isFinal z_thrown z_over a_done v' ∧ v'.2.1 = v.1 ∧ (v.1 = 0 → v.2.2.2 0 = v'.1.toInt64) ∧ WkR N wat v.2.1 wfe v.2.2.1 z_now v'.2.2.1 z_fed v'.2.2.2 := by
  obtain ⟨hN50, rfl, rfl⟩ := hN
  obtain ⟨rfl, rfl, rfl, hd, a, rfl, ha⟩ := id hW
  by_cases hg : nI N = 0 ∨ ¬ wen = 0
  · refine ⟨(1, wen, dn, lo9), (0, 1, wen, a_done), ?_, ⟨fun _ => ⟨(0, 1), rfl, rfl⟩, fun hz => ⟨fun z => absurd z (hg.elim (fun y => absurd y hz) id), fun _ => ⟨(0, 1), rfl, rfl⟩⟩⟩, rfl, fun h => absurd (show (1 : Int32) = 0 from h) (by decide), hW⟩
    exact ⟨.inr ("java/lang/IllegalStateException", (wen, dn)), ⟨_, EF_checkGoing_no hg, fun u e => (nomatch e), fun E u e => (by cases e; rfl)⟩, fun r u e => (nomatch e), fun E u e => (by cases e; exact ⟨Or.inl rfl, fun _ => rfl, fun e => (by simp at e)⟩)⟩
  · have hz : ¬ nI N = 0 := fun z => hg (Or.inl z)
    have hw : wen = 0 := Decidable.not_not.mp (fun z => hg (Or.inr z))
    have haN : a < N := ha.elim id (fun z => absurd ((nI_zero hN50).mpr z) hz)
    have hi : vp_in (nI a) 50 := vp_in_nI (by omega) (by decide)
    have ec : (nI a).toNatClampNeg = a := nI_clamp (by omega)
    by_cases hf : fi a = 0
    · refine ⟨(2, wen, dn, lo9), (0, 2, wen, a_done), ?_, ⟨fun z => absurd z hz, fun _ => ⟨fun _ => ⟨hi, fun z => absurd (by rw [ec, ← hfi a haN]; exact hf) z, fun _ => ⟨(0, 2), rfl, rfl⟩⟩, fun z => absurd hw z⟩⟩, rfl, fun h => absurd (show (2 : Int32) = 0 from h) (by decide), hW⟩
      exact ⟨.inr ("java/lang/UnsupportedOperationException", (wen, dn)), ⟨_, EF_checkGoing_ok hz hw, fun u _ => ⟨hi, fun z => absurd (by rw [ec]; exact hf) z, fun _ => rfl⟩, fun E u e => (nomatch e)⟩, fun r u e => (nomatch e), fun E u e => (by cases e; exact ⟨Or.inr rfl, fun e => (by simp at e), fun _ => rfl⟩)⟩
    · refine ⟨(0, 1, perfS (ea a) dn 10, vp_updL lo9 (0 : Int32).toNatClampNeg (ea a).toInt64), (a_endDo a, 0, 1, perfS (a_endDo a) a_done 10), ?_, ⟨fun z => absurd z hz, fun _ => ⟨fun _ => ⟨hi, fun _ => ⟨hi, _, R_M_perform_ok, by rw [ec]⟩, fun z => absurd z (by rw [ec, ← hfi a haN]; exact hf)⟩, fun z => absurd hw z⟩⟩, rfl, fun _ => ?_, ⟨rfl, rfl, rfl, ?_, a, rfl, ha⟩⟩
      · exact ⟨.inl (ea a, (1, perfS (ea a) dn 10)), ⟨_, EF_checkGoing_ok hz hw, fun u _ => ⟨hi, fun _ => ⟨hi, _, ⟨_, R_Walk_perform_ok, rfl⟩, by rw [ec]⟩, fun z => absurd (by rw [ec] at z; exact z) hf⟩, fun E u e => (nomatch e)⟩, fun r u e => (by cases e; exact ⟨v01, rfl⟩), fun E u e => (nomatch e)⟩
      · show (ea a).toInt64 = (a_endDo a).toInt64
        rw [hea a haN]
      · show ∀ q, q < 10 → perfS (ea a) dn 10 q = perfS (a_endDo a) a_done 10 q
        rw [hea a haN]
        exact perfS_eq hd
