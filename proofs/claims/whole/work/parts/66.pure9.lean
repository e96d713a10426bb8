/-! ===== text ===== -/
def byt (w : Int64) (j : Nat) : Int32 := ((w >>> ((nI (8 * j)).toInt64 &&& 63)).toInt32) &&& 255
def sX : Nat → Int32
  | 0 => -8
  | j + 1 => nI (8 * j)
theorem sX_step : ∀ j, j < 8 → sX (j + 1) + (-8) = sX j := by decide +kernel
theorem sX_pos : ∀ j, j < 8 → ¬ sX (j + 1) < 0 := by decide +kernel
theorem sX_neg : sX 0 < 0 := by decide +kernel
theorem sX_8 : sX 8 = 56 := by decide +kernel
theorem and255 (x : Int32) : ∃ c : Nat, c < 256 ∧ x &&& 255 = nI c := by
  refine ⟨((x &&& 255).toBitVec).toNat, ?_, ?_⟩
  · rw [Int32.toBitVec_and, BitVec.toNat_and]
    exact Nat.lt_of_le_of_lt Nat.and_le_right (by decide)
  · apply Int32.toBitVec_inj.mp
    show _ = BitVec.ofNat 32 _
    rw [BitVec.ofNat_toNat, BitVec.setWidth_eq]
theorem nar_c : ∀ c, c < 256 → vp_nar .char (((nI c).toUInt32 % 65536).toInt32) = nI c := by decide +kernel
theorem byt_nar (w : Int64) (j : Nat) : vp_nar .char (((byt w j).toUInt32 % 65536).toInt32) = byt w j := by
  obtain ⟨c, hc, e⟩ := and255 ((w >>> ((nI (8 * j)).toInt64 &&& 63)).toInt32)
  show vp_nar .char (((((w >>> ((nI (8 * j)).toInt64 &&& 63)).toInt32) &&& 255).toUInt32 % 65536).toInt32) = (((w >>> ((nI (8 * j)).toInt64 &&& 63)).toInt32) &&& 255)
  rw [e]
  exact nar_c c hc
def cntT (w : Int64) : Nat → Nat
  | 0 => 0
  | j + 1 => (if byt w j = 0 then 0 else 1) + cntT w j
theorem cntT_le (w : Int64) (j : Nat) : cntT w j ≤ j := by
  induction j with
  | zero => exact Nat.le_refl _
  | succ j ih => unfold cntT; split <;> omega
theorem cntT_z {w : Int64} {j : Nat} (h : byt w j = 0) : cntT w (j + 1) = cntT w j := by simp [cntT, h]
theorem cntT_s {w : Int64} {j : Nat} (h : ¬ byt w j = 0) : cntT w (j + 1) = cntT w j + 1 := by simp [cntT, h, Nat.add_comm]
def gdB (b : Int32) : Prop := ¬ b < 32 ∧ b ≤ 126
def gdT (w : Int64) (j : Nat) : Prop := ∀ i, i < j → byt w i = 0 ∨ gdB (byt w i)
def appT (w : Int64) : Nat → Nat → (Nat → Int32) → (Nat → Int32)
  | 0, _, t => t
  | j + 1, k, t => if byt w j = 0 then appT w j k t else appT w j (k + 1) (upd t k (byt w j))
theorem byteAt_ok (w : Int64) {j : Nat} (hj : j < 8) : R_EF_byteAt w (sX (j + 1)) (byt w j, ()) := by
  show _ = _
  unfold byt
  rw [← byte_eq w (k := 8 * j) (by omega)]
  rfl
theorem EF_append_ok {w : Int64} {fl : Int32} : ∀ (j k : Nat) (t : Nat → Int32), j ≤ 8 → k + cntT w j ≤ 80 → g_EF_append w fl (j + 1) 1 (sX j) (nI k) t (nI (k + cntT w j), appT w j k t) := by
  intro j
  induction j with
  | zero =>
    intro k t _ _
    rw [g_EF_append_1]
    exact ⟨fun _ => rfl, fun h => absurd sX_neg h⟩
  | succ j ih =>
    intro k t hj hk
    rw [g_EF_append_1]
    refine ⟨fun h => absurd h (sX_pos j (by omega)), fun _ => ⟨_, byteAt_ok w (by omega), fun h => ?_, fun h => ?_⟩⟩
    · have h : byt w j = 0 := h
      rw [sX_step j (by omega)]
      have := ih k t (by omega) (by simp only [cntT, h, if_pos] at hk; omega)
      simp only [cntT, appT, h, if_pos, Nat.zero_add]
      exact this
    · have h : ¬ byt w j = 0 := h
      simp only [cntT, h, if_neg, if_false, not_false_iff] at hk
      refine ⟨fun z => absurd z (nI_ge (a := k) (b := 80) (by omega) (by decide)), fun _ => ⟨vp_in_nI (by omega) (by decide), ?_⟩⟩
      rw [sX_step j (by omega), nI_1, nI_clamp (by omega)]
      have := ih (k + 1) (upd t k (byt w j)) (by omega) (by omega)
      simp only [cntT, appT, h, if_neg, if_false, not_false_iff, byt_nar]
      rw [show k + (1 + cntT w j) = k + 1 + cntT w j by omega]
      exact this
theorem R_EF_append_ok {w : Int64} {fl : Int32} {k : Nat} {t : Nat → Int32} (hk : k + cntT w 8 ≤ 80) : R_EF_append w fl (nI k) t (nI (k + cntT w 8), appT w 8 k t) := ⟨9, by have := EF_append_ok (fl := fl) 8 k t (Nat.le_refl _) hk; rwa [sX_8] at this⟩
theorem gdT_succ {w : Int64} {j : Nat} : gdT w (j + 1) ↔ (byt w j = 0 ∨ gdB (byt w j)) ∧ gdT w j := by
  constructor
  · intro h; exact ⟨h j (by omega), fun i hi => h i (by omega)⟩
  · rintro ⟨h1, h2⟩ i hi
    by_cases e : i = j
    · subst e; exact h1
    · exact h2 i (by omega)
theorem EF_text_ok {w : Int64} {fl : Int32} {k : Nat} {t : Nat → Int32} {out} (hk : k ≤ 80) : ∀ (j c : Nat), j ≤ 8 → c + j ≤ 8 → (gdT w j → k + (c + cntT w j) ≤ 80 → k + cntT w 8 ≤ 80 ∧ out = .inl (nI (k + cntT w 8), (nI (k + cntT w 8), appT w 8 k t))) → (gdT w j → ¬ k + (c + cntT w j) ≤ 80 → out = .inr ("java/lang/IllegalStateException", (nI k, t))) → (¬ gdT w j → out = .inr ("java/lang/IllegalArgumentException", (nI k, t))) → g_EF_text w fl (j + 1) 1 (nI c) (sX j) (nI k) t out := by
  intro j
  induction j with
  | zero =>
    intro c _ hc h1 h2 h3
    rw [g_EF_text_1]
    refine ⟨fun _ => ⟨fun h => ?_, fun h => ?_⟩, fun h => absurd sX_neg h⟩
    · rw [nI_add, show (80 : Int32) = nI 80 from rfl, nI_leI (by omega) (by omega)] at h
      obtain ⟨h4, h5⟩ := h1 (fun i hi => absurd hi (by omega)) (by simpa [cntT] using h)
      exact ⟨_, R_EF_append_ok h4, h5⟩
    · rw [nI_add, show (80 : Int32) = nI 80 from rfl, nI_leI (by omega) (by omega)] at h
      exact h2 (fun i hi => absurd hi (by omega)) (by simpa [cntT] using h)
  | succ j ih =>
    intro c hj hc h1 h2 h3
    rw [g_EF_text_1]
    rw [gdT_succ] at h1 h2 h3
    refine ⟨fun h => absurd h (sX_pos j (by omega)), fun _ => ⟨_, byteAt_ok w (by omega), fun h => ?_, fun h => ?_⟩⟩
    · have h : byt w j = 0 := h
      rw [sX_step j (by omega)]
      refine ⟨fun _ => ?_, fun z => absurd h z⟩
      rw [cntT_z h] at h1 h2
      exact ih c (by omega) (by omega) (fun a b => h1 ⟨Or.inl h, a⟩ b) (fun a b => h2 ⟨Or.inl h, a⟩ b) (fun a => h3 (fun z => a z.2))
    · have h : ¬ byt w j = 0 := h
      rw [cntT_s h] at h1 h2
      refine ⟨fun z => h3 (fun y => y.1.elim h (fun x => x.1 z)), fun z => ⟨fun y => ⟨fun x => absurd x h, fun _ => ?_⟩, fun y => h3 (fun x => x.1.elim h (fun x => y x.2))⟩⟩
      rw [sX_step j (by omega), nI_1]
      exact ih (c + 1) (by omega) (by omega) (fun a b => h1 ⟨Or.inr ⟨z, y⟩, a⟩ (by omega)) (fun a b => h2 ⟨Or.inr ⟨z, y⟩, a⟩ (by omega)) (fun a => h3 (fun z => a z.2))
theorem M_text2_ok {w : Int64} {z_where z_at z_many z_bad z_states z_positions z_now z_fed z_found z_over z_thrown : Int32} : ∀ (j k : Nat) (t : Nat → Int32), j ≤ 8 → k + cntT w j ≤ 80 → ∀ x3 x4, g_M_text w z_where z_at z_many z_bad z_states z_positions z_now z_fed z_found z_over (j + 1) 2 x3 x4 (sX j) (nI k) z_thrown t (nI (k + cntT w j), (nI (k + cntT w j), z_thrown, appT w j k t)) := by
  intro j
  induction j with
  | zero =>
    intro k t _ _ x3 x4
    rw [g_M_text_2]
    exact ⟨fun _ => rfl, fun h => absurd sX_neg h⟩
  | succ j ih =>
    intro k t hj hk x3 x4
    rw [g_M_text_2]
    refine ⟨fun h => absurd h (sX_pos j (by omega)), fun _ => ⟨fun h => ?_, fun h => ?_⟩⟩
    · have h : ¬ byt w j = 0 := h
      simp only [cntT, h, if_neg, if_false, not_false_iff] at hk
      refine ⟨vp_in_nI (by omega) (by decide), ?_⟩
      rw [sX_step j (by omega), nI_1, nI_clamp (by omega)]
      have := ih (k + 1) (upd t k (byt w j)) (by omega) (by omega) 0 0
      simp only [cntT, appT, h, if_neg, if_false, not_false_iff]
      rw [show k + (1 + cntT w j) = k + 1 + cntT w j by omega]
      exact this
    · have h : byt w j = 0 := h
      rw [sX_step j (by omega)]
      have := ih k t (by omega) (by simp only [cntT, h, if_pos] at hk; omega) 0 0
      simp only [cntT, appT, h, if_pos, Nat.zero_add]
      exact this
theorem M_text_ok {w : Int64} {z_where z_at z_many z_bad z_states z_positions z_now z_fed z_found z_over z_thrown : Int32} {k : Nat} {t : Nat → Int32} {out} (hk : k ≤ 80) : ∀ (j c : Nat) (x4 : Int32), j ≤ 8 → c + j ≤ 8 → ((¬ x4 = 0 ∧ gdT w j) → k + (c + cntT w j) ≤ 80 → k + cntT w 8 ≤ 80 ∧ out = (nI (k + cntT w 8), (nI (k + cntT w 8), 0, appT w 8 k t))) → ((¬ x4 = 0 ∧ gdT w j) → ¬ k + (c + cntT w j) ≤ 80 → out = (0, (nI k, 2, t))) → (¬ (¬ x4 = 0 ∧ gdT w j) → out = (0, (nI k, 1, t))) → g_M_text w z_where z_at z_many z_bad z_states z_positions z_now z_fed z_found z_over (j + 10) 1 (nI c) x4 (sX j) (nI k) z_thrown t out := by
  intro j
  induction j with
  | zero =>
    intro c x4 _ hc h1 h2 h3
    rw [g_M_text_1]
    have hg : gdT w 0 := fun i hi => absurd hi (by omega)
    refine ⟨fun _ => ⟨fun hx => ⟨fun h => ?_, fun h => ?_⟩, fun hx => ⟨(0, 1), rfl, h3 (fun z => z.1 hx)⟩⟩, fun h => absurd sX_neg h⟩
    · rw [nI_add, show (80 : Int32) = nI 80 from rfl, nI_leI (by omega) (by omega)] at h
      obtain ⟨h4, h5⟩ := h1 ⟨hx, hg⟩ (by simpa [cntT] using h)
      rw [h5, ← sX_8]
      exact M_text2_ok 8 k t (by omega) h4 0 0
    · rw [nI_add, show (80 : Int32) = nI 80 from rfl, nI_leI (by omega) (by omega)] at h
      exact ⟨(0, 2), rfl, h2 ⟨hx, hg⟩ (by simpa [cntT] using h)⟩
  | succ j ih =>
    intro c x4 hj hc h1 h2 h3
    rw [show j + 1 + 10 = (j + 10) + 1 by omega, g_M_text_1]
    rw [gdT_succ] at h1 h2 h3
    refine ⟨fun h => absurd h (sX_pos j (by omega)), fun _ => ⟨fun h => ?_, fun h => ?_⟩⟩
    · have h : ¬ byt w j = 0 := h
      rw [cntT_s h] at h1 h2
      by_cases hg : gdB (byt w j)
      · refine ⟨(1, ()), ⟨fun z => absurd z hg.1, fun _ => ⟨fun z => absurd z (Int32.not_lt.mpr hg.2), fun _ => rfl⟩⟩, fun _ => ?_, fun z => absurd z (by decide)⟩
        rw [sX_step j (by omega), nI_1]
        exact ih (c + 1) x4 (by omega) (by omega) (fun a b => h1 ⟨a.1, Or.inr hg, a.2⟩ (by omega)) (fun a b => h2 ⟨a.1, Or.inr hg, a.2⟩ (by omega)) (fun a => h3 (fun z => a ⟨z.1, z.2.2⟩))
      · refine ⟨(0, ()), ⟨fun _ => rfl, fun z => ⟨fun _ => rfl, fun y => absurd ⟨z, Int32.not_lt.mp y⟩ hg⟩⟩, fun z => absurd rfl z, fun _ => ?_⟩
        rw [sX_step j (by omega), nI_1]
        exact ih (c + 1) 0 (by omega) (by omega) (fun a _ => absurd rfl a.1) (fun a _ => absurd rfl a.1) (fun _ => h3 (fun z => z.2.1.elim h hg))
    · have h : byt w j = 0 := h
      rw [sX_step j (by omega)]
      rw [cntT_z h] at h1 h2
      exact ih c x4 (by omega) (by omega) (fun a b => h1 ⟨a.1, Or.inl h, a.2⟩ b) (fun a b => h2 ⟨a.1, Or.inl h, a.2⟩ b) (fun a => h3 (fun z => a ⟨z.1, z.2.2⟩))
def chr (x : Int32) : Prop := ∃ c : Nat, 32 ≤ c ∧ c ≤ 126 ∧ x = nI c
/-- the rows hold the same text of k characters -/
def TxR (k : Nat) (ln : Int32) (tx : Nat → Int32) (z_length : Int32) (a_text : Nat → Int32) : Prop := k ≤ 80 ∧ ln = nI k ∧ z_length = nI k ∧ ∀ i, i < k → tx i = a_text i ∧ chr (tx i)
theorem gdB_chr {b : Int32} (h : gdB b) : chr b := by
  obtain ⟨j, hj, e⟩ := nI_of2 (n := 126) (M := 126) (x := b) (by decide) (fun z => h.1 (Int32.lt_trans z (by decide))) h.2
  refine ⟨j, ?_, hj, e⟩
  have := h.1
  rw [e, show (32 : Int32) = nI 32 from rfl, nI_ltI (by omega) (by omega)] at this
  omega
theorem appT_rel {w : Int64} : ∀ (j k : Nat) (t t' : Nat → Int32), gdT w j → (∀ i, i < k → t i = t' i ∧ chr (t i)) → ∀ i, i < k + cntT w j → appT w j k t i = appT w j k t' i ∧ chr (appT w j k t i) := by
  intro j
  induction j with
  | zero => intro k t t' _ h i hi; exact h i (by simpa [cntT] using hi)
  | succ j ih =>
    intro k t t' hg h i hi
    rw [gdT_succ] at hg
    by_cases e : byt w j = 0
    · simp only [appT, e, if_pos]
      exact ih k t t' hg.2 h i (by simpa [cntT, e] using hi)
    · simp only [appT, e, if_neg, if_false, not_false_iff]
      simp only [cntT, e, if_neg, if_false, not_false_iff] at hi
      refine ih (k + 1) _ _ hg.2 (fun q hq => ?_) i (by omega)
      unfold upd
      by_cases eq : q = k
      · simp only [eq, if_pos]
        exact ⟨trivial, gdB_chr (hg.1.elim (fun z => absurd z e) id)⟩
      · simp only [if_neg eq]
        exact h q (by omega)
theorem st_text {k : Nat} {w : Int64} {fl ln : Int32} {tx a_text : Nat → Int32} {lo9 : Nat → Int64} {z_where z_at z_many z_bad z_states z_positions z_now z_fed z_found z_over z_length z_thrown : Int32} (hT : TxR k ln tx z_length a_text) :
    ∃ v v' k', R_L_text w fl ln tx lo9 v ∧ R_M_text w z_where z_at z_many z_bad z_states z_positions z_now z_fed z_found z_over z_length z_thrown a_text v' ∧ v'.2.2.1 = v.1 ∧ (v.1 = 0 → v.2.2.2 0 = v'.1.toInt64) ∧ TxR k' v.2.1 v.2.2.1 v'.2.1 v'.2.2.2 := by
  obtain ⟨hk, rfl, rfl, hr⟩ := id hT
  have c0 : (1 : Int32) ≠ 0 := by decide
  by_cases hg : gdT w 8
  · by_cases hs : k + cntT w 8 ≤ 80
    · refine ⟨(0, (nI (k + cntT w 8), appT w 8 k tx, vp_updL lo9 (0 : Int32).toNatClampNeg (nI (k + cntT w 8)).toInt64)), (nI (k + cntT w 8), (nI (k + cntT w 8), 0, appT w 8 k a_text)), k + cntT w 8, ⟨.inl (nI (k + cntT w 8), (nI (k + cntT w 8), appT w 8 k tx)), ⟨9, ?_⟩, fun r u e => (by cases e; exact ⟨v01, rfl⟩), fun E u e => (nomatch e)⟩, ⟨18, ?_⟩, rfl, fun _ => rfl, hs, rfl, rfl, appT_rel 8 k tx a_text hg hr⟩
      · have := EF_text_ok (w := w) (fl := fl) (t := tx) (out := .inl (nI (k + cntT w 8), (nI (k + cntT w 8), appT w 8 k tx))) hk 8 0 (by omega) (by omega) (fun _ _ => ⟨hs, rfl⟩) (fun _ z => absurd (by omega) z) (fun z => absurd hg z)
        rwa [sX_8] at this
      · have := M_text_ok (w := w) (z_where := z_where) (z_at := z_at) (z_many := z_many) (z_bad := z_bad) (z_states := z_states) (z_positions := z_positions) (z_now := z_now) (z_fed := z_fed) (z_found := z_found) (z_over := z_over) (z_thrown := z_thrown) (t := a_text) (out := (nI (k + cntT w 8), (nI (k + cntT w 8), 0, appT w 8 k a_text))) hk 8 0 1 (by omega) (by omega) (fun _ _ => ⟨hs, rfl⟩) (fun _ z => absurd (by omega) z) (fun z => absurd ⟨c0, hg⟩ z)
        rwa [sX_8] at this
    · refine ⟨(2, (nI k, tx, lo9)), (0, (nI k, 2, a_text)), k, ⟨.inr ("java/lang/IllegalStateException", (nI k, tx)), ⟨9, ?_⟩, fun r u e => (nomatch e), fun E u e => (by cases e; exact ⟨Or.inr rfl, fun e => (by simp at e), fun _ => rfl⟩)⟩, ⟨18, ?_⟩, rfl, fun h => absurd (show (2 : Int32) = 0 from h) (by decide), hT⟩
      · have := EF_text_ok (w := w) (fl := fl) (t := tx) (out := .inr ("java/lang/IllegalStateException", (nI k, tx))) hk 8 0 (by omega) (by omega) (fun _ z => absurd z (by omega)) (fun _ z => rfl) (fun z => absurd hg z)
        rwa [sX_8] at this
      · have := M_text_ok (w := w) (z_where := z_where) (z_at := z_at) (z_many := z_many) (z_bad := z_bad) (z_states := z_states) (z_positions := z_positions) (z_now := z_now) (z_fed := z_fed) (z_found := z_found) (z_over := z_over) (z_thrown := z_thrown) (t := a_text) (out := (0, (nI k, 2, a_text))) hk 8 0 1 (by omega) (by omega) (fun _ z => absurd z (by omega)) (fun _ z => rfl) (fun z => absurd ⟨c0, hg⟩ z)
        rwa [sX_8] at this
  · refine ⟨(1, (nI k, tx, lo9)), (0, (nI k, 1, a_text)), k, ⟨.inr ("java/lang/IllegalArgumentException", (nI k, tx)), ⟨9, ?_⟩, fun r u e => (nomatch e), fun E u e => (by cases e; exact ⟨Or.inl rfl, fun _ => rfl, fun e => (by simp at e)⟩)⟩, ⟨18, ?_⟩, rfl, fun h => absurd (show (1 : Int32) = 0 from h) (by decide), hT⟩
    · have := EF_text_ok (w := w) (fl := fl) (t := tx) (out := .inr ("java/lang/IllegalArgumentException", (nI k, tx))) hk 8 0 (by omega) (by omega) (fun z _ => absurd z hg) (fun z _ => absurd z hg) (fun z => rfl)
      rwa [sX_8] at this
    · have := M_text_ok (w := w) (z_where := z_where) (z_at := z_at) (z_many := z_many) (z_bad := z_bad) (z_states := z_states) (z_positions := z_positions) (z_now := z_now) (z_fed := z_fed) (z_found := z_found) (z_over := z_over) (z_thrown := z_thrown) (t := a_text) (out := (0, (nI k, 1, a_text))) hk 8 0 1 (by omega) (by omega) (fun z _ => absurd z.2 hg) (fun z _ => absurd z.2 hg) (fun z => rfl)
      rwa [sX_8] at this
