/-! ===== atoms and factors on both sides ===== -/
abbrev RO : Type := Int32 × Int32 × CS
abbrev RCX : Type := Int32 → Int32 → Int32 → F1 → F1 → F1 → F1 → F1 → (Nat → PT) → RO → Prop
def Shp (LP : List Nat) (ad : Nat → Nat) (ae at_ af : Nat → Option Nat) : Prop := Inj27 ad ∧ (∀ w, w < 27 → ad w ∈ LP) ∧ ∀ d, d < 9 → ae d = some (ad (3 * d)) ∧ at_ d = some (ad (3 * d + 1)) ∧ af d = some (ad (3 * d + 2))
def Fl (E : EV) (d i : Nat) (M : MS) (v : RO) : Prop := v.1 = 0 ∧ ∃ (x1 ap : Int32) (M' : MS), ∀ out, GQ E 2 x1 1 0 0 0 v.2.1 ap 1 M' out → GQ E 2 (nI d) 1 0 0 0 (-2) (nI i) 0 M out
def ToS (E : EV) (d i : Nat) (M : MS) (j : Nat) (M' : MS) : Prop := ∀ out, GQ E 2 (nI d) 1 0 0 0 (-2) (nI j) 0 M' out → GQ E 2 (nI d) 1 0 0 0 (-2) (nI i) 0 M out
def Rdy (ad : Nat → Nat) (d : Nat) (b : Bool) (C : CS) (M : MS) : Prop := (b = false ∧ InvT ad C M ∧ ∀ w, 3 * d + 1 ≤ w → w < 27 → M.2.1 w = 0) ∨ (b = true ∧ PendT ad d C M)
def PostF (ad : Nat → Nat) (d : Nat) (b : Bool) (C : CS) (M M' : MS) : Prop := InvT ad C M' ∧ (¬ M'.2.1 (3 * d + 2) = 0) ∧ (∀ w, 3 * d + 3 ≤ w → w < 27 → M'.2.1 w = 0) ∧ (∀ w, w < 3 * d + 1 → M'.2.1 w = M.2.1 w) ∧ (b = false → M'.2.1 (3 * d + 1) = 0) ∧ (b = true → ¬ M'.2.1 (3 * d + 1) = 0)
theorem Rdy_go {ad : Nat → Nat} {d : Nat} {b : Bool} {C : CS} {M : MS} (hd : d < 9) (h : Rdy ad d b C M) (E : EV) (wh ap bad : Int32) : ∃ M', Rd E d wh ap bad M M' ∧ InvT ad C M' ∧ M'.1 = M.1 ∧ (∀ w, 3 * d + 2 ≤ w → w < 27 → M'.2.1 w = 0) ∧ (∀ w, w < 3 * d + 1 → M'.2.1 w = M.2.1 w) ∧ (b = false → M'.2.1 (3 * d + 1) = 0) ∧ (b = true → ¬ M'.2.1 (3 * d + 1) = 0) := by
  rcases h with ⟨h1, h2, h3⟩ | ⟨h1, h2, h3⟩
  · exact ⟨M, Or.inl ⟨h3 _ (by omega) (by omega), rfl⟩, h2, rfl, fun w hw => h3 w (by omega), fun w _ => rfl, fun _ => h3 _ (Nat.le_refl _) (by omega), fun z => by rw [h1] at z; exact absurd z (by decide)⟩
  · obtain ⟨u, k1, k2, k3, k4, k5⟩ := h3 E.1 wh E.2.1 ap M.1 bad E.2.2.1 E.2.2.2.1 E.2.2.2.2.1 E.2.2.2.2.2.1 E.2.2.2.2.2.2.1 E.2.2.2.2.2.2.2.1
    exact ⟨MB M u, Or.inr ⟨h2, u, k1, rfl⟩, k2, rfl, k4, k5, fun z => by rw [h1] at z; exact absurd z (by decide), fun _ => k3⟩
theorem m_re {E : EV} {x1 wh ap : Int32} {M : MS} {out : OP} (h : GQ E 2 x1 1 0 0 0 wh ap 0 M out) : GQ E 3 x1 1 0 0 0 wh ap 0 M out := by
  obtain ⟨n, h⟩ := h
  cases n with
  | zero => exact absurd h (by unfold g_M_parse; exact fun z => z)
  | succ n => rw [g_M_parse_2] at h; exact ⟨n, (h.2 (by decide)).2 rfl⟩
theorem cm_in {k : Nat} {tx : Nat → Int32} {j : Nat} (h : j < k) : cch k tx j = tx j ∧ mch k tx j = tx j := ⟨if_pos h, if_pos h⟩
theorem cm_out {k : Nat} {tx : Nat → Int32} {j : Nat} (h : ¬ j < k) : cch k tx j = 0 ∧ mch k tx j = -1 := ⟨if_neg h, if_neg h⟩
theorem sfx_cm {k : Nat} {tx : Nat → Int32} {j : Nat} : sfx (cch k tx j) = sfx (mch k tx j) := by
  by_cases h : j < k
  · rw [(cm_in h).1, (cm_in h).2]
  · rw [(cm_out h).1, (cm_out h).2]; decide
theorem bgn_cm {k : Nat} {tx : Nat → Int32} {j : Nat} : bgn (cch k tx j) = bgn (mch k tx j) := by
  by_cases h : j < k
  · rw [(cm_in h).1, (cm_in h).2]
  · rw [(cm_out h).1, (cm_out h).2]; decide
theorem letters_ok {k : Nat} {tx : Nat → Int32} {E : EV} (hT : TxE k tx E) {mn wh : Int32} : ∀ (c i : Nat) (x : Int32), i + c = k →
    (∃ (l : Int32) (j : Nat), (¬ l = 0) ∧ i < j ∧ j ≤ k ∧ (∃ n, g_Pars_readLetters (nI k) tx n 1 x (nI i) (l, nI j)) ∧ ∃ n, g_M_bits E.1 E.2.1 mn E.2.2.1 E.2.2.2.1 E.2.2.2.2.1 E.2.2.2.2.2.1 E.2.2.2.2.2.2.1 E.2.2.2.2.2.2.2.1 E.2.2.2.2.2.2.2.2 n 1 x wh (nI i) 0 (l, wh, nI j, 0))
    ∨ (∃ (y : Int32) (j : Nat), (∃ n, g_Pars_readLetters (nI k) tx n 1 x (nI i) (0, nI j)) ∧ ∃ n, g_M_bits E.1 E.2.1 mn E.2.2.1 E.2.2.2.1 E.2.2.2.2.1 E.2.2.2.2.2.1 E.2.2.2.2.2.2.1 E.2.2.2.2.2.2.2.1 E.2.2.2.2.2.2.2.2 n 1 x wh (nI i) 0 (y, nI j, nI (j + 1), 1)) := by
  have hk := hT.1
  have stop : ∀ (i : Nat) (x : Int32), i ≤ k → (i < k → lett (tx i) = 0) →
      (∃ (l : Int32) (j : Nat), (¬ l = 0) ∧ i < j ∧ j ≤ k ∧ (∃ n, g_Pars_readLetters (nI k) tx n 1 x (nI i) (l, nI j)) ∧ ∃ n, g_M_bits E.1 E.2.1 mn E.2.2.1 E.2.2.2.1 E.2.2.2.2.1 E.2.2.2.2.2.1 E.2.2.2.2.2.2.1 E.2.2.2.2.2.2.2.1 E.2.2.2.2.2.2.2.2 n 1 x wh (nI i) 0 (l, wh, nI j, 0))
      ∨ (∃ (y : Int32) (j : Nat), (∃ n, g_Pars_readLetters (nI k) tx n 1 x (nI i) (0, nI j)) ∧ ∃ n, g_M_bits E.1 E.2.1 mn E.2.2.1 E.2.2.2.1 E.2.2.2.2.1 E.2.2.2.2.2.1 E.2.2.2.2.2.2.1 E.2.2.2.2.2.2.2.1 E.2.2.2.2.2.2.2.2 n 1 x wh (nI i) 0 (y, nI j, nI (j + 1), 1)) := by
    intro i x hi hl
    have hlm : lett (mch k tx i) = 0 := by
      by_cases e : i < k
      · rw [(cm_in e).2]; exact hl e
      · rw [(cm_out e).2]; decide
    have bad : ∃ n, g_M_bits E.1 E.2.1 mn E.2.2.1 E.2.2.2.1 E.2.2.2.2.1 E.2.2.2.2.2.1 E.2.2.2.2.2.2.1 E.2.2.2.2.2.2.2.1 E.2.2.2.2.2.2.2.2 n 2 x wh (nI i) 0 (x, nI i, nI (i + 1), 1) := by
      refine ⟨1, ?_⟩
      rw [g_M_bits_2, nI_1]
      exact ⟨(nI i, 1), ⟨fun z => absurd rfl z, fun _ => rfl⟩, rfl⟩
    have cls : ∀ out : Int32 × Int32, ((x = 0 → out = (0, nI i)) ∧ (¬ x = 0 → ∃ v, R_Pars_here (nI k) (nI i) tx v ∧ (v.1 = 93 → out = (x, nI i + 1)) ∧ (¬ v.1 = 93 → out = (0, nI i)))) → ∃ n, g_Pars_readLetters (nI k) tx n 1 x (nI i) out := by
      intro out ho
      refine ⟨1, ?_⟩
      rw [g_Pars_readLetters_1]
      refine ⟨fun _ => ho, fun z => ⟨?_, _, R_isLetter_ok _, fun _ => ho, fun z2 => ?_⟩⟩
      · exact vp_in_nI (Nat.lt_of_not_le (fun q => z (nI_le (by omega) (by omega)))) (by decide)
      · rw [nI_clamp (by omega)] at z2
        have hik : i < k := Nat.lt_of_not_le (fun q => z (nI_le q (by omega)))
        exact absurd (hl hik) z2
    by_cases e : x = 0
    · refine Or.inr ⟨x, i, cls _ ⟨fun _ => rfl, fun z => absurd e z⟩, ?_⟩
      obtain ⟨n, h9⟩ := bad
      refine ⟨n + 1, ?_⟩
      rw [g_M_bits_1]
      exact ⟨_, M_here hT hi, _, R_inL_ok _, fun _ => ⟨fun _ => h9, fun z => absurd e z⟩, fun z => absurd hlm z⟩
    · by_cases e2 : i < k ∧ tx i = 93
      · refine Or.inl ⟨x, i + 1, e, by omega, by omega, cls _ ⟨fun z => absurd z e, fun _ => ⟨_, P_here hT hi, fun _ => by rw [nI_1], fun z => absurd (by show cch k tx i = 93; rw [(cm_in e2.1).1]; exact e2.2) z⟩⟩, 1, ?_⟩
        rw [g_M_bits_1, nI_1]
        exact ⟨_, M_here hT hi, _, R_inL_ok _, fun _ => ⟨fun z => absurd z e, fun _ => ⟨_, M_here hT hi, fun _ => rfl, fun z => absurd (by show mch k tx i = 93; rw [(cm_in e2.1).2]; exact e2.2) z⟩⟩, fun z => absurd hlm z⟩
      · have n1 : ¬ cch k tx i = 93 := by
          by_cases q : i < k
          · rw [(cm_in q).1]; exact fun z => e2 ⟨q, z⟩
          · rw [(cm_out q).1]; decide
        have n2 : ¬ mch k tx i = 93 := by
          by_cases q : i < k
          · rw [(cm_in q).2]; exact fun z => e2 ⟨q, z⟩
          · rw [(cm_out q).2]; decide
        refine Or.inr ⟨x, i, cls _ ⟨fun z => absurd z e, fun _ => ⟨_, P_here hT hi, fun z => absurd z n1, fun _ => rfl⟩⟩, ?_⟩
        obtain ⟨n, h9⟩ := bad
        refine ⟨n + 1, ?_⟩
        rw [g_M_bits_1]
        exact ⟨_, M_here hT hi, _, R_inL_ok _, fun _ => ⟨fun z => absurd z e, fun _ => ⟨_, M_here hT hi, fun z => absurd z n2, fun _ => h9⟩⟩, fun z => absurd hlm z⟩
  intro c
  induction c with
  | zero => intro i x h; exact stop i x (by omega) (fun z => by omega)
  | succ c ih =>
    intro i x h
    by_cases e : lett (tx i) = 0
    · exact stop i x (by omega) (fun _ => e)
    · have hik : i < k := by omega
      have c1 : ∀ out : Int32 × Int32, (∃ n, g_Pars_readLetters (nI k) tx n 1 (x ||| (1 <<< ((tx i - 97) &&& 31))) (nI (i + 1)) out) → ∃ n, g_Pars_readLetters (nI k) tx n 1 x (nI i) out := by
        intro out ⟨n, h9⟩
        refine ⟨n + 1, ?_⟩
        rw [g_Pars_readLetters_1, nI_1, nI_clamp (show i < 2 ^ 31 by omega)]
        exact ⟨fun z => absurd z (nI_ge hik (by omega)), fun _ => ⟨vp_in_nI (by omega) (by decide), _, R_isLetter_ok _, fun z => absurd z e, fun _ => ⟨vp_in_nI (by omega) (by decide), _, rfl, h9⟩⟩⟩
      have c2 : ∀ out : Int32 × Int32 × Int32 × Int32, (∃ n, g_M_bits E.1 E.2.1 mn E.2.2.1 E.2.2.2.1 E.2.2.2.2.1 E.2.2.2.2.2.1 E.2.2.2.2.2.2.1 E.2.2.2.2.2.2.2.1 E.2.2.2.2.2.2.2.2 n 1 (x ||| (1 <<< ((tx i - 97) &&& 31))) wh (nI (i + 1)) 0 out) → ∃ n, g_M_bits E.1 E.2.1 mn E.2.2.1 E.2.2.2.1 E.2.2.2.2.1 E.2.2.2.2.2.1 E.2.2.2.2.2.2.1 E.2.2.2.2.2.2.2.1 E.2.2.2.2.2.2.2.2 n 1 x wh (nI i) 0 out := by
        intro out ⟨n, h9⟩
        refine ⟨n + 1, ?_⟩
        rw [g_M_bits_1, nI_1]
        have hm := (cm_in (tx := tx) hik).2
        exact ⟨(tx i, ()), by rw [← hm]; exact M_here hT (by omega), _, R_inL_ok _, fun z => absurd z e, fun _ => ⟨(tx i, ()), by rw [← hm]; exact M_here hT (by omega), h9⟩⟩
      rcases ih (i + 1) (x ||| (1 <<< ((tx i - 97) &&& 31))) (by omega) with ⟨l, j, h1, h2, h3, h4, h5⟩ | ⟨y, j, h4, h5⟩
      · exact Or.inl ⟨l, j, h1, by omega, h3, c1 _ h4, c2 _ h5⟩
      · exact Or.inr ⟨y, j, c1 _ h4, c2 _ h5⟩
/-- a nested expression's law -/
def ExpOK (rc : RCX) (k : Nat) (tx : Nat → Int32) (E : EV) (ad : Nat → Nat) (d : Nat) : Prop := ∀ (i : Nat) (C : CS) (M : MS), i ≤ k → InvT ad C M → (∀ w, 3 * d ≤ w → w < 27 → M.2.1 w = 0) →
  (∃ (v : RO) (j : Nat) (M' : MS), rc (nI d) (nI i) C.1 C.2.1 C.2.2.1 C.2.2.2.1 C.2.2.2.2.1 C.2.2.2.2.2.1 C.2.2.2.2.2.2 v ∧ v.1 = 1 ∧ v.2.1 = nI j ∧ i < j ∧ j ≤ k ∧ (j < k → ¬ tx j = 32) ∧ sfx (mch k tx j) = 0 ∧ bgn (mch k tx j) = 0 ∧ (¬ mch k tx j = 124) ∧ PendE ad d v.2.2 M' ∧ (∀ w, w < 3 * d → M'.2.1 w = M.2.1 w) ∧ ToS E d i M j M')
  ∨ ∃ v : RO, rc (nI d) (nI i) C.1 C.2.1 C.2.2.1 C.2.2.2.1 C.2.2.2.2.1 C.2.2.2.2.2.1 C.2.2.2.2.2.2 v ∧ Fl E d i M v
theorem bt_lett {c : Int32} (h : ¬ lett c = 0) : ¬ ((1 : Int32) <<< ((c - 97) &&& 31)) = 0 := by
  have hn : ¬ c < 97 := fun z => h (by unfold lett; rw [if_pos z])
  have hn2 : ¬ 100 < c := fun z => h (by unfold lett; rw [if_neg hn, if_pos z])
  have h1 : (97 : Int) ≤ c.toInt := by
    have := Int32.not_lt.mp hn
    exact Int32.le_iff_toInt_le.mp this
  have h2 : c.toInt ≤ 100 := by
    have := Int32.not_lt.mp hn2
    exact Int32.le_iff_toInt_le.mp this
  have h3 : c = 97 ∨ c = 98 ∨ c = 99 ∨ c = 100 := by
    have q : c.toInt = 97 ∨ c.toInt = 98 ∨ c.toInt = 99 ∨ c.toInt = 100 := by omega
    rcases q with q | q | q | q
    · exact Or.inl (Int32.toInt_inj.mp (q.trans (by decide)))
    · exact Or.inr (Or.inl (Int32.toInt_inj.mp (q.trans (by decide))))
    · exact Or.inr (Or.inr (Or.inl (Int32.toInt_inj.mp (q.trans (by decide)))))
    · exact Or.inr (Or.inr (Or.inr (Int32.toInt_inj.mp (q.trans (by decide)))))
  rcases h3 with q | q | q | q <;> subst q <;> decide
theorem st_group {rc : RCX} {LP : List Nat} {ad : Nat → Nat} {ae at_ af : Nat → Option Nat} {k : Nat} {tx : Nat → Int32} {E : EV} (hT : TxE k tx E) (hS : Shp LP ad ae at_ af) {d : Nat} (hd : d < 9) (hrc : d < 8 → ExpOK rc k tx E ad (d + 1)) {b : Bool} {C : CS} {M : MS} {j : Nat} (hj : j < k) (hc : tx j = 40) (hR : Rdy ad d b C M) :
    (∃ (v : RO) (j2 : Nat) (M' : MS), R_Pars_readGroup rc LP (nI d) (nI k) tx ae at_ af (nI j) C.1 C.2.1 C.2.2.1 C.2.2.2.1 C.2.2.2.2.1 C.2.2.2.2.2.1 C.2.2.2.2.2.2 v ∧ v.1 = 1 ∧ v.2.1 = nI j2 ∧ j < j2 ∧ j2 ≤ k ∧ PostF ad d b v.2.2 M M' ∧ ∀ out, GQ E 2 (nI d) 1 0 0 0 (-2) (nI j2) 0 M' out → GQ E 3 (nI d) 1 0 0 0 (-2) (nI j) 0 M out)
    ∨ ∃ v : RO, R_Pars_readGroup rc LP (nI d) (nI k) tx ae at_ af (nI j) C.1 C.2.1 C.2.2.1 C.2.2.2.1 C.2.2.2.2.1 C.2.2.2.2.2.1 C.2.2.2.2.2.2 v ∧ v.1 = 0 ∧ ∃ (x1 ap : Int32) (M' : MS), ∀ out, GQ E 2 x1 1 0 0 0 v.2.1 ap 1 M' out → GQ E 3 (nI d) 1 0 0 0 (-2) (nI j) 0 M out := by
  have hk := hT.1
  have hm : mch k tx j = 40 := by rw [(cm_in hj).2]; exact hc
  obtain ⟨hA, hLP, hSh⟩ := hS
  by_cases h8 : d < 8
  · obtain ⟨M1, r1, r2, _, r4, r5, r6, r7⟩ := Rdy_go hd hR E (-2) (nI j) 0
    have step : ∀ out, GQ E 2 (nI (d + 1)) 1 0 0 0 (-2) (nI (j + 1)) 0 M1 out → GQ E 3 (nI d) 1 0 0 0 (-2) (nI j) 0 M out := fun out h => m_3open hT (by omega) hm (m_4o h8 (m_6open hd r1 h))
    have cl8 : nI d < 8 := nI_lt (b := 8) h8 (by omega)
    rcases hrc h8 (j + 1) C M1 (by omega) r2 (fun w hw hw2 => r4 w (by omega) hw2) with ⟨v, j2, M2, e1, e2, e3, e4, e5, e6, e7, e8, e9, p1, p2, p3⟩ | ⟨v, e1, e2, x1, ap, M2, e3⟩
    · have hsk := Sk_self e5 e6
      by_cases q : mch k tx j2 = 41
      · have hj2 : j2 < k := by
          by_cases z : j2 < k
          · exact z
          · rw [(cm_out z).2] at q; exact absurd q (by decide)
        obtain ⟨f1, f2⟩ := p1
        obtain ⟨u, g1, t, g2, g3, g4, g5, g6⟩ := f2 E.1 (-2) E.2.1 (nI j2) M2.1 0 E.2.2.1 E.2.2.2.1 E.2.2.2.2.1 E.2.2.2.2.2.1 E.2.2.2.2.2.2.1 E.2.2.2.2.2.2.2.1
        have hfree : ∀ w, 3 * d + 2 ≤ w → w < 27 → w ≠ 3 * d + 3 → (MC M2 u t).2.1 w = 0 := by
          intro w w1 w2 w3
          rcases Nat.lt_or_ge w (3 * d + 3) with z | z
          · have z2 : w = 3 * d + 2 := by omega
            subst z2
            exact (g6 _ (by omega)).trans ((p2 _ (by omega)).trans (r4 _ (Nat.le_refl _) (by omega)))
          · exact g5 w (by omega) w2
        obtain ⟨k1, k2⟩ := op_copy (v := 3 * d + 3) (d := 3 * d + 2) g3 hA (by omega) g4 (by omega) hfree
        obtain ⟨t2, k3, k4, k5, k6, k7⟩ := k2 E.1 (-2) E.2.1 (nI (j2 + 1)) (MC M2 u t).1 0 E.2.2.1 E.2.2.2.1 E.2.2.2.2.1 E.2.2.2.2.2.1 E.2.2.2.2.2.2.1 E.2.2.2.2.2.2.2.1
        refine Or.inl ⟨(1, nI (j2 + 1), (v.2.2.1, v.2.2.2.1, v.2.2.2.2.1, v.2.2.2.2.2.1, v.2.2.2.2.2.2.1, v.2.2.2.2.2.2.2.1, va_up v.2.2.2.2.2.2.2.2 (ad (3 * d + 2)) (v.2.2.2.2.2.2.2.2 (ad (3 * d + 3))))), j2 + 1, MK (MC M2 u t) t2, ?_, rfl, rfl, by omega, by omega, ⟨k4, k5, fun w hw hw2 => k6 w hw hw2, fun w hw => ?_, fun hb => ?_, fun hb => ?_⟩, fun out h => ?_⟩
        · refine ⟨fun _ => ⟨v, by rw [nI_1, nI_1]; exact e1, fun z => absurd (e2.symm.trans z) (by decide), fun _ => ⟨(cch k tx j2, nI j2), by rw [e3]; exact P_next hT hsk, fun _ => ⟨vp_in_nI (by omega) (by decide), ad (3 * d + 2), ?_, hLP _ (by omega), ?_, ad (3 * d + 3), ?_, hLP _ (by omega), _, k1, ?_⟩, fun z => ?_⟩⟩, fun z => absurd cl8 z⟩
          · rw [nI_clamp (by omega)]; exact (hSh d hd).2.2
          · rw [nI_1]; exact vp_in_nI (by omega) (by decide)
          · rw [nI_1, nI_clamp (by omega)]; exact (hSh (d + 1) (by omega)).1
          · rw [nI_1 j2]
          · exact absurd (by show cch k tx j2 = 41; rw [(cm_in hj2).1, ← (cm_in (tx := tx) hj2).2]; exact q) z
        · exact (k7 w (by omega)).trans ((g6 w (by omega)).trans ((p2 w (by omega)).trans (r5 w hw)))
        · exact (k7 _ (by omega)).trans ((g6 _ (by omega)).trans ((p2 _ (by omega)).trans (r6 hb)))
        · exact fun z => r7 hb (((k7 _ (by omega)).trans ((g6 _ (by omega)).trans (p2 _ (by omega)))).symm.trans z)
        · refine step out (p3 out (m_go hT hsk (m_38 hT (by omega) e5 (Or.inr ⟨q, by omega⟩) f1 ?_)))
          rw [q]
          exact m_8 (by omega) g1 g2 (m_9close k3 h)
      · have n1 : ¬ cch k tx j2 = 41 := by
          by_cases z : j2 < k
          · rw [(cm_in z).1, ← (cm_in (tx := tx) z).2]; exact q
          · rw [(cm_out z).1]; decide
        refine Or.inr ⟨(0, nI j2, v.2.2), ⟨fun _ => ⟨v, by rw [nI_1, nI_1]; exact e1, fun z => absurd (e2.symm.trans z) (by decide), fun _ => ⟨(cch k tx j2, nI j2), by rw [e3]; exact P_next hT hsk, fun z => absurd z n1, fun _ => rfl⟩⟩, fun z => absurd cl8 z⟩, rfl, nI (d + 1), nI j2, M2, fun out h => step out (p3 out (m_go hT hsk (m_37 hT (by omega) e5 (mch_ne32 e6) e8 e7 e9 (fun z => absurd z q) p1.1 (m_7bad (by omega) (Or.inr (by omega)) h))))⟩
    · exact Or.inr ⟨(0, v.2), ⟨fun _ => ⟨v, by rw [nI_1, nI_1]; exact e1, fun _ => rfl, fun z => absurd e2 z⟩, fun z => absurd cl8 z⟩, rfl, x1, ap, M2, fun out h => step out (e3 out h)⟩
  · have h9 : d = 8 := by omega
    subst h9
    obtain ⟨M1, r1, _⟩ := Rdy_go hd hR E (nI j) (nI j) 1
    exact Or.inr ⟨(0, nI j, C), ⟨fun z => absurd z (by decide), fun _ => rfl⟩, rfl, nI 8, nI j, M1, fun out h => m_3open hT (by omega) hm (m_4deep (m_6bad (by omega) r1 h))⟩
theorem st_atom {rc : RCX} {LP : List Nat} {ad : Nat → Nat} {ae at_ af : Nat → Option Nat} {k : Nat} {tx : Nat → Int32} {E : EV} (hT : TxE k tx E) (hS : Shp LP ad ae at_ af) {d : Nat} (hd : d < 9) (hrc : d < 8 → ExpOK rc k tx E ad (d + 1)) {b : Bool} {C : CS} {M : MS} {i : Nat} (hi : i ≤ k) (hR : Rdy ad d b C M) (hb0 : b = true → ∀ j, Sk k tx i j → ¬ bgn (mch k tx j) = 0) :
    (∃ (v : RO) (j : Nat) (M' : MS), R_Pars_readAtom rc LP (nI d) (nI k) tx ae at_ af (nI i) C.1 C.2.1 C.2.2.1 C.2.2.2.1 C.2.2.2.2.1 C.2.2.2.2.2.1 C.2.2.2.2.2.2 v ∧ v.1 = 1 ∧ v.2.1 = nI j ∧ i < j ∧ j ≤ k ∧ PostF ad d b v.2.2 M M' ∧ ToS E d i M j M')
    ∨ ∃ v : RO, R_Pars_readAtom rc LP (nI d) (nI k) tx ae at_ af (nI i) C.1 C.2.1 C.2.2.1 C.2.2.2.1 C.2.2.2.2.1 C.2.2.2.2.2.1 C.2.2.2.2.2.2 v ∧ Fl E d i M v := by
  have hk := hT.1
  obtain ⟨j, hsk⟩ := Sk_ex (k := k) (tx := tx) (k - i) i (by omega)
  have hij := hsk.1
  have hjk := hsk.2.1
  have hn := mch_ne32 hsk.2.2.2
  by_cases q40 : j < k ∧ tx j = 40
  · have c40 : cch k tx j = 40 := by rw [(cm_in q40.1).1]; exact q40.2
    rcases st_group hT hS hd hrc q40.1 q40.2 hR with ⟨v, j2, M', e1, e2, e3, e4, e5, e6, e7⟩ | ⟨v, e1, e2, x1, ap, M', e3⟩
    · refine Or.inl ⟨v, j2, M', ⟨_, P_next hT hsk, fun z => absurd c40 z, fun _ => ⟨v, e1, zb_v (Or.inr e2), rfl⟩⟩, e2, e3, by omega, e5, e6, fun out h => m_go hT hsk (e7 out h)⟩
    · exact Or.inr ⟨v, ⟨_, P_next hT hsk, fun z => absurd c40 z, fun _ => ⟨v, e1, zb_v (Or.inl e2), rfl⟩⟩, e2, x1, ap, M', fun out h => m_go hT hsk (e3 out h)⟩
  · have n40 : ¬ cch k tx j = 40 := by
      by_cases z : j < k
      · rw [(cm_in z).1]; exact fun z2 => q40 ⟨z, z2⟩
      · rw [(cm_out z).1]; decide
    have m40 : ¬ mch k tx j = 40 := by
      by_cases z : j < k
      · rw [(cm_in z).2]; exact fun z2 => q40 ⟨z, z2⟩
      · rw [(cm_out z).2]; decide
    by_cases hb : bgn (mch k tx j) = 0
    · refine Or.inr ⟨(0, nI j, C), ⟨_, P_next hT hsk, fun _ => ⟨_, R_beginsAtom_ok _, fun _ => rfl, fun z => absurd (by show bgn (cch k tx j) = 0; rw [bgn_cm]; exact hb) z⟩, fun z => absurd z n40⟩, rfl, nI d, nI j, M, fun out h => m_go hT hsk (m_3none hT hd hjk hn hb ?_ h)⟩
      rcases hR with ⟨h1, h2, h3⟩ | ⟨h1, _⟩
      · exact h3 _ (by omega) (by omega)
      · exact absurd hb (hb0 h1 j hsk)
    · have ha : ¬ atm (mch k tx j) = 0 := by
        rcases bgn_1 hb with z | z
        · exact z.1
        · exact absurd z m40
      have hj : j < k := by
        by_cases z : j < k
        · exact z
        · rw [(cm_out z).2] at ha; exact absurd (by decide) ha
      have hcm : cch k tx j = mch k tx j := by rw [(cm_in hj).1, (cm_in hj).2]
      have nb : ¬ bgn (cch k tx j) = 0 := by rw [hcm]; exact hb
      have hP : ∃ P, P ≤ 30 ∧ C.1 = nI P ∧ M.1 = nI P := by
        obtain ⟨M1, _, ⟨P, p1, p2, p3⟩, r3, _⟩ := Rdy_go hd hR E (-2) (nI j) 0
        exact ⟨P, p3.1, p1, by rw [← r3]; exact p2⟩
      obtain ⟨P, hP30, hCp, hMp⟩ := hP
      by_cases hfull : P = 30
      · subst hfull
        obtain ⟨M1, r1, _⟩ := Rdy_go hd hR E (nI j) (nI j) 1
        refine Or.inr ⟨(0, nI j, C), ⟨_, P_next hT hsk, fun _ => ⟨_, R_beginsAtom_ok _, fun z => absurd z nb, fun _ => ⟨(1, ()), ?_, fun z => absurd z (by decide), fun _ => rfl⟩⟩, fun z => absurd z n40⟩, rfl, nI d, nI j, M1, fun out h => m_go hT hsk (m_3atom hT hjk hn ha (m_4full m40 hMp (m_6bad hd r1 h)))⟩
        rw [hCp]; exact ⟨fun z => absurd z (by decide), fun _ => rfl⟩
      · have h30 : P < 30 := by omega
        have hfl : R_Net_isFull C.1 (0, ()) := by rw [hCp]; exact ⟨fun _ => rfl, fun z => absurd (nI_lt (b := 30) h30 (by omega)) z⟩
        obtain ⟨M1, r1, r2, r3, r4, r5, r6, r7⟩ := Rdy_go hd hR E (-2) (nI j) 0
        have hA := hS.1
        have hLP := hS.2.1
        have hSh := hS.2.2
        have fin : ∀ (l : Int32) (j2 : Nat), (¬ l = 0) → j < j2 → j2 ≤ k → R_M_bits E.1 E.2.1 M.1 E.2.2.1 E.2.2.2.1 E.2.2.2.2.1 E.2.2.2.2.2.1 E.2.2.2.2.2.2.1 E.2.2.2.2.2.2.2.1 E.2.2.2.2.2.2.2.2 (-2) (nI j) 0 (l, -2, nI j2, 0) → (∀ v : RO, (∃ n, g_Pars_readAtom rc LP (nI d) (nI k) tx ae at_ af n 1 l (nI j2) C.1 C.2.1 C.2.2.1 C.2.2.2.1 C.2.2.2.2.1 C.2.2.2.2.2.1 C.2.2.2.2.2.2 v) → R_Pars_readAtom rc LP (nI d) (nI k) tx ae at_ af (nI i) C.1 C.2.1 C.2.2.1 C.2.2.2.1 C.2.2.2.2.1 C.2.2.2.2.2.1 C.2.2.2.2.2.2 v) →
            ∃ (v : RO) (j : Nat) (M' : MS), R_Pars_readAtom rc LP (nI d) (nI k) tx ae at_ af (nI i) C.1 C.2.1 C.2.2.1 C.2.2.2.1 C.2.2.2.2.1 C.2.2.2.2.2.1 C.2.2.2.2.2.2 v ∧ v.1 = 1 ∧ v.2.1 = nI j ∧ i < j ∧ j ≤ k ∧ PostF ad d b v.2.2 M M' ∧ ToS E d i M j M' := by
          intro l j2 hl h1 h2 hbits hcls
          obtain ⟨C', M', k1, k2, k3, k4, k5, k6⟩ := op_position (l := l) (z_length := E.1) (z_where := -2) (z_thrown := E.2.1) (z_at := nI j2) (z_bad := 0) (z_states := E.2.2.1) (z_positions := E.2.2.2.1) (z_now := E.2.2.2.2.1) (z_fed := E.2.2.2.2.2.1) (z_found := E.2.2.2.2.2.2.1) (z_over := E.2.2.2.2.2.2.2.1) r2 hA hCp h30 (show 3 * d + 2 < 27 by omega) r4
          refine ⟨(1, nI j2, C'), j2, M', hcls _ ⟨1, ?_⟩, rfl, rfl, by omega, h2, ⟨k3, k4, k5, fun w hw => (k6 w (by omega)).trans (r5 w hw), fun z => (k6 _ (by omega)).trans (r6 z), fun z z2 => r7 z ((k6 _ (by omega)).symm.trans z2)⟩, fun out h => m_go hT hsk (m_3atom hT hjk hn ha (m_4a m40 hMp h30 (m_6atom hd m40 r1 hbits k2 h)))⟩
          rw [g_Pars_readAtom_1, nI_clamp (show d < 2 ^ 31 by omega)]
          exact ⟨fun _ => ⟨vp_in_nI (by omega) (by decide), _, (hSh d hd).2.2, hLP _ (by omega), C', k1, rfl⟩, fun z => absurd z hl⟩
        have hhere : R_M_here E.1 (-2) E.2.1 (nI j) M.1 0 E.2.2.1 E.2.2.2.1 E.2.2.2.2.1 E.2.2.2.2.2.1 E.2.2.2.2.2.2.1 E.2.2.2.2.2.2.2.1 E.2.2.2.2.2.2.2.2 (cch k tx j, ()) := by rw [hcm]; exact M_here hT hjk
        by_cases q46 : cch k tx j = 46
        · refine Or.inl (fin 15 (j + 1) (by decide) (by omega) (by omega) ⟨_, hhere, fun z => absurd (q46.symm.trans z) (by decide), fun _ => ⟨fun z => absurd q46 z, fun _ => by rw [nI_1]⟩⟩ (fun v hv => ⟨_, P_next hT hsk, fun _ => ⟨_, R_beginsAtom_ok _, fun z => absurd z nb, fun _ => ⟨_, hfl, fun _ => ⟨fun z => absurd q46 z, fun _ => by rw [nI_1 j]; exact hv⟩, fun z => absurd rfl z⟩⟩, fun z => absurd z n40⟩))
        · by_cases q91 : cch k tx j = 91
          · rcases letters_ok hT (mn := M.1) (wh := -2) (k - (j + 1)) (j + 1) 0 (by omega) with ⟨l, j2, l1, l2, l3, l4, l5⟩ | ⟨y, j2, l4, l5⟩
            · exact Or.inl (fin l j2 l1 (by omega) l3 ⟨_, hhere, fun _ => by rw [nI_1]; exact l5, fun z => absurd q91 z⟩ (fun v hv => ⟨_, P_next hT hsk, fun _ => ⟨_, R_beginsAtom_ok _, fun z => absurd z nb, fun _ => ⟨_, hfl, fun _ => ⟨fun _ => ⟨fun z => absurd q91 z, fun _ => ⟨(l, nI j2), by rw [nI_1 j]; exact l4, hv⟩⟩, fun z => absurd z q46⟩, fun z => absurd rfl z⟩⟩, fun z => absurd z n40⟩))
            · obtain ⟨C', M', k1, k2, k3, k4, k5, k6⟩ := op_position (l := y) (z_length := E.1) (z_where := nI j2) (z_thrown := E.2.1) (z_at := nI (j2 + 1)) (z_bad := 1) (z_states := E.2.2.1) (z_positions := E.2.2.2.1) (z_now := E.2.2.2.2.1) (z_fed := E.2.2.2.2.2.1) (z_found := E.2.2.2.2.2.2.1) (z_over := E.2.2.2.2.2.2.2.1) r2 hA hCp h30 (show 3 * d + 2 < 27 by omega) r4
              refine Or.inr ⟨(0, nI j2, C), ⟨_, P_next hT hsk, fun _ => ⟨_, R_beginsAtom_ok _, fun z => absurd z nb, fun _ => ⟨_, hfl, fun _ => ⟨fun _ => ⟨fun z => absurd q91 z, fun _ => ⟨(0, nI j2), by rw [nI_1 j]; exact l4, 1, ?_⟩⟩, fun z => absurd z q46⟩, fun z => absurd rfl z⟩⟩, fun z => absurd z n40⟩, rfl, nI d, nI (j2 + 1), M', fun out h => m_go hT hsk (m_3atom hT hjk hn ha (m_4a m40 hMp h30 (m_6atom (v := (y, nI j2, nI (j2 + 1), 1)) hd m40 r1 ⟨_, hhere, fun _ => by rw [nI_1 j]; exact l5, fun z => absurd q91 z⟩ k2 h)))⟩
              rw [g_Pars_readAtom_1]
              exact ⟨fun z => absurd rfl z, fun _ => rfl⟩
          · have hl : ¬ lett (cch k tx j) = 0 := by
              intro z
              have z2 : atm (cch k tx j) = 0 := by unfold atm; rw [if_neg (fun q => q z), if_neg q46, if_neg q91]
              rw [hcm] at z2
              exact ha z2
            exact Or.inl (fin _ (j + 1) (bt_lett hl) (by omega) (by omega) ⟨_, hhere, fun z => absurd z q91, fun _ => ⟨fun _ => by rw [nI_1], fun z => absurd z q46⟩⟩ (fun v hv => ⟨_, P_next hT hsk, fun _ => ⟨_, R_beginsAtom_ok _, fun z => absurd z nb, fun _ => ⟨_, hfl, fun _ => ⟨fun _ => ⟨fun _ => ⟨_, rfl, by rw [nI_1 j]; exact hv⟩, fun z => absurd z q91⟩, fun z => absurd z q46⟩, fun z => absurd rfl z⟩⟩, fun z => absurd z n40⟩))
