/-! ===== characters ===== -/
def lett (c : Int32) : Int32 := if c < 97 then 0 else if 100 < c then 0 else 1
def atm (c : Int32) : Int32 := if ¬ lett c = 0 then 1 else if c = 46 then 1 else if c = 91 then 1 else 0
def bgn (c : Int32) : Int32 := if ¬ atm c = 0 then 1 else if c = 40 then 1 else 0
def rpt (c : Int32) : Int32 := if c = 42 then 1 else if c = 43 then 1 else if c = 63 then 1 else 0
def sfx (c : Int32) : Int32 := if ¬ rpt c = 0 then 1 else if c = 62 then 1 else if c = 64 then 1 else if c = 36 then 1 else if c = 37 then 1 else 0
theorem R_isLetter_ok (c : Int32) : R_Pars_isLetter c (lett c, ()) := by
  unfold lett
  refine ⟨fun e => by rw [if_pos e], fun e => ⟨fun e2 => by rw [if_neg e, if_pos e2], fun e2 => by rw [if_neg e, if_neg e2]⟩⟩
theorem R_inL_ok (c : Int32) : R_M_in c 97 100 (lett c, ()) := by
  unfold lett
  refine ⟨fun e => by rw [if_pos e], fun e => ⟨fun e2 => by rw [if_neg e, if_pos e2], fun e2 => by rw [if_neg e, if_neg e2]⟩⟩
theorem R_isAtom_ok (c : Int32) : R_M_isAtom c (atm c, ()) := by
  unfold atm
  refine ⟨_, R_inL_ok c, fun (e : ¬ lett c = 0) => by rw [if_pos e], fun (e : lett c = 0) => ⟨fun e2 => by rw [if_neg (fun z => z e), if_pos e2], fun e2 => ⟨fun e3 => by rw [if_neg (fun z => z e), if_neg e2, if_neg e3], fun e3 => by rw [if_neg (fun z => z e), if_neg e2, if_pos e3]⟩⟩⟩
theorem R_beginsAtom_ok (c : Int32) : R_Pars_beginsAtom c (bgn c, ()) := by
  unfold bgn atm
  by_cases e : lett c = 0
  · by_cases e2 : c = 46
    · refine ⟨_, R_isLetter_ok c, fun z => absurd e z, fun _ => ⟨fun _ => by simp [e, e2], fun z => absurd e2 z⟩⟩
    · by_cases e3 : c = 91
      · refine ⟨_, R_isLetter_ok c, fun z => absurd e z, fun _ => ⟨fun z => absurd z e2, fun _ => ⟨fun _ => by simp [e, e3], fun z => absurd e3 z⟩⟩⟩
      · refine ⟨_, R_isLetter_ok c, fun z => absurd e z, fun _ => ⟨fun z => absurd z e2, fun _ => ⟨fun z => absurd z e3, fun _ => ⟨fun e4 => ?_, fun e4 => ?_⟩⟩⟩⟩
        · simp [e, e2, e3, e4]
        · simp [e, e4]
  · refine ⟨_, R_isLetter_ok c, fun _ => by rw [if_pos e]; rfl, fun z => absurd z e⟩
theorem R_isRepeat_ok (c : Int32) : R_Pars_isRepeat c (rpt c, ()) := by
  unfold rpt
  refine ⟨fun e => by rw [if_pos e], fun e => ⟨fun e2 => by rw [if_neg e, if_pos e2], fun e2 => ⟨fun e3 => by rw [if_neg e, if_neg e2, if_neg e3], fun e3 => by rw [if_neg e, if_neg e2, if_pos e3]⟩⟩⟩
theorem R_isSign_ok (c : Int32) : R_Pars_isSign c (sfx c, ()) := by
  unfold sfx
  refine ⟨_, R_isRepeat_ok c, fun (e : ¬ rpt c = 0) => by rw [if_pos e], fun (e : rpt c = 0) => ⟨fun e1 => ?_, fun e1 => ⟨fun e2 => ?_, fun e2 => ⟨fun e3 => ?_, fun e3 => ⟨fun e4 => ?_, fun e4 => ?_⟩⟩⟩⟩⟩
  · rw [if_neg (fun z => z e), if_pos e1]
  · rw [if_neg (fun z => z e), if_neg e1, if_pos e2]
  · rw [if_neg (fun z => z e), if_neg e1, if_neg e2, if_pos e3]
  · rw [if_neg (fun z => z e), if_neg e1, if_neg e2, if_neg e3, if_neg e4]
  · rw [if_neg (fun z => z e), if_neg e1, if_neg e2, if_neg e3, if_pos e4]
theorem R_isSuffix_ok (c : Int32) : R_M_isSuffix c (sfx c, ()) := by
  unfold sfx rpt
  refine ⟨fun e => ?_, fun e => ⟨fun e0 => ?_, fun e0 => ⟨fun e9 => ?_, fun e9 => ⟨fun e1 => ?_, fun e1 => ⟨fun e2 => ?_, fun e2 => ⟨fun e3 => ?_, fun e3 => ⟨fun e4 => ?_, fun e4 => ?_⟩⟩⟩⟩⟩⟩⟩
  · rw [if_pos e]; rfl
  · rw [if_neg e, if_pos e0]; rfl
  · rw [if_neg e, if_neg e0, if_pos e9]; rfl
  · rw [if_neg e, if_neg e0, if_neg e9, if_neg (fun z => z rfl), if_pos e1]
  · rw [if_neg e, if_neg e0, if_neg e9, if_neg (fun z => z rfl), if_neg e1, if_pos e2]
  · rw [if_neg e, if_neg e0, if_neg e9, if_neg (fun z => z rfl), if_neg e1, if_neg e2, if_pos e3]
  · rw [if_neg e, if_neg e0, if_neg e9, if_neg (fun z => z rfl), if_neg e1, if_neg e2, if_neg e3, if_neg e4]
  · rw [if_neg e, if_neg e0, if_neg e9, if_neg (fun z => z rfl), if_neg e1, if_neg e2, if_neg e3, if_pos e4]
theorem sfx_not {c : Int32} (h : sfx c = 0) : ¬ c = 42 ∧ ¬ c = 43 ∧ ¬ c = 63 ∧ ¬ c = 62 ∧ ¬ c = 64 ∧ ¬ c = 36 ∧ ¬ c = 37 := by
  refine ⟨?_, ?_, ?_, ?_, ?_, ?_, ?_⟩ <;> intro e <;> subst e <;> exact absurd h (by decide)
theorem sfx_act {c : Int32} (h : ¬ sfx c = 0) (h2 : rpt c = 0) : c = 62 ∨ c = 64 ∨ c = 36 ∨ c = 37 := by
  unfold sfx at h
  by_cases e1 : c = 62
  · exact Or.inl e1
  · by_cases e2 : c = 64
    · exact Or.inr (Or.inl e2)
    · by_cases e3 : c = 36
      · exact Or.inr (Or.inr (Or.inl e3))
      · by_cases e4 : c = 37
        · exact Or.inr (Or.inr (Or.inr e4))
        · exact absurd (by rw [if_neg (fun z => z h2), if_neg e1, if_neg e2, if_neg e3, if_neg e4]) h
theorem rpt_is {c : Int32} (h : ¬ rpt c = 0) : c = 42 ∨ c = 43 ∨ c = 63 := by
  unfold rpt at h
  by_cases e1 : c = 42
  · exact Or.inl e1
  · by_cases e2 : c = 43
    · exact Or.inr (Or.inl e2)
    · by_cases e3 : c = 63
      · exact Or.inr (Or.inr e3)
      · exact absurd (by rw [if_neg e1, if_neg e2, if_neg e3]) h
theorem bgn_0 {c : Int32} (h : bgn c = 0) : atm c = 0 ∧ ¬ c = 40 := by
  unfold bgn at h
  by_cases e : atm c = 0
  · refine ⟨e, fun z => ?_⟩
    rw [if_neg (fun q => q e), if_pos z] at h
    exact absurd h (by decide)
  · rw [if_pos e] at h
    exact absurd h (by decide)
theorem bgn_1 {c : Int32} (h : ¬ bgn c = 0) : (¬ atm c = 0 ∧ ¬ c = 40) ∨ c = 40 := by
  unfold bgn at h
  by_cases e : c = 40
  · exact Or.inr e
  · by_cases e2 : atm c = 0
    · exact absurd (by rw [if_neg (fun q => q e2), if_neg e]) h
    · exact Or.inl ⟨e2, e⟩
/-! ===== the text on both sides ===== -/
abbrev EV : Type := Int32 × Int32 × Int32 × Int32 × Int32 × Int32 × Int32 × Int32 × (Nat → Int32)
def TxE (k : Nat) (tx : Nat → Int32) (E : EV) : Prop := k ≤ 80 ∧ E.1 = nI k ∧ ∀ i, i < k → tx i = E.2.2.2.2.2.2.2.2 i ∧ chr (tx i)
theorem zc_chr {x : Int32} (h : chr x) : zc x := by
  obtain ⟨c, h1, h2, rfl⟩ := h
  have h := (by decide +kernel : ∀ c, c < 127 → (nI c).toUInt32.toUInt16.toUInt32.toInt32 = nI c ∧ fits .char (.int (nI c)) = true) c (by omega)
  exact ⟨congrArg Value.int h.1, h.2⟩
def Sk (k : Nat) (tx : Nat → Int32) (i j : Nat) : Prop := i ≤ j ∧ j ≤ k ∧ (∀ t, i ≤ t → t < j → tx t = 32) ∧ (j < k → ¬ tx j = 32)
theorem Sk_ex {k : Nat} {tx : Nat → Int32} : ∀ (c i : Nat), i + c = k → ∃ j, Sk k tx i j := by
  intro c
  induction c with
  | zero => intro i h; exact ⟨i, Nat.le_refl _, by omega, fun t h1 h2 => by omega, fun h1 => by omega⟩
  | succ c ih =>
    intro i h
    by_cases e : tx i = 32
    · obtain ⟨j, h1, h2, h3, h4⟩ := ih (i + 1) (by omega)
      refine ⟨j, by omega, h2, fun t t1 t2 => ?_, h4⟩
      rcases Nat.eq_or_lt_of_le t1 with q | q
      · rw [← q]; exact e
      · exact h3 t q t2
    · exact ⟨i, Nat.le_refl _, by omega, fun t h1 h2 => by omega, fun _ => e⟩
theorem Sk_self {k : Nat} {tx : Nat → Int32} {i : Nat} (h : i ≤ k) (h2 : i < k → ¬ tx i = 32) : Sk k tx i i := ⟨Nat.le_refl _, h, fun t h1 h2 => by omega, h2⟩
def cch (k : Nat) (tx : Nat → Int32) (j : Nat) : Int32 := if j < k then tx j else 0
def mch (k : Nat) (tx : Nat → Int32) (j : Nat) : Int32 := if j < k then tx j else -1
theorem P_here {k : Nat} {tx : Nat → Int32} {E : EV} (hT : TxE k tx E) {j : Nat} (hj : j ≤ k) : R_Pars_here (nI k) (nI j) tx (cch k tx j, ()) := by
  obtain ⟨h1, h2, h3⟩ := hT
  unfold cch
  by_cases e : j < k
  · refine ⟨fun z => absurd z (nI_ge e (by omega)), fun _ => ⟨vp_in_nI (by omega) (by decide), ?_, ?_⟩⟩
    · rw [nI_clamp (by omega)]; exact zc_chr (h3 j e).2
    · rw [nI_clamp (by omega), if_pos e]
  · exact ⟨fun _ => by rw [if_neg e], fun z => absurd (nI_le (by omega) (by omega)) z⟩
theorem P_next {k : Nat} {tx : Nat → Int32} {E : EV} (hT : TxE k tx E) {i j : Nat} (hS : Sk k tx i j) : R_Pars_next (nI k) tx (nI i) (cch k tx j, nI j) := by
  have hT0 := hT
  obtain ⟨h1, h2, h3⟩ := hT
  have key : ∀ (c i : Nat), i + c = j → (∀ t, i ≤ t → t < j → tx t = 32) → ∃ n, g_Pars_next (nI k) tx n 1 (nI i) (cch k tx j, nI j) := by
    intro c
    induction c with
    | zero =>
      intro i h _
      have e : i = j := by omega
      subst e
      refine ⟨1, ?_⟩
      rw [g_Pars_next_1]
      unfold cch
      have hj := hS.2.1
      by_cases e : i < k
      · refine ⟨fun z => absurd z (nI_ge e (by omega)), fun _ => ⟨vp_in_nI (by omega) (by decide), fun _ => ⟨fun z => absurd z (nI_ge e (by omega)), fun _ => ⟨vp_in_nI (by omega) (by decide), ?_, ?_⟩⟩, fun z => ?_⟩⟩
        · rw [nI_clamp (by omega)]; exact zc_chr (h3 i e).2
        · rw [nI_clamp (by omega), if_pos e]
        · rw [nI_clamp (by omega)] at z; exact absurd z (hS.2.2.2 e)
      · exact ⟨fun _ => ⟨fun _ => by rw [if_neg e], fun z => absurd (nI_le (by omega) (by omega)) z⟩, fun z => absurd (nI_le (by omega) (by omega)) z⟩
    | succ c ih =>
      intro i h hs
      obtain ⟨n, h9⟩ := ih (i + 1) (by omega) (fun t t1 t2 => hs t (by omega) t2)
      have hj := hS.2.1
      refine ⟨n + 1, ?_⟩
      rw [g_Pars_next_1, nI_1]
      refine ⟨fun z => absurd z (nI_ge (by omega) (by omega)), fun _ => ⟨vp_in_nI (by omega) (by decide), fun z => ?_, fun _ => h9⟩⟩
      rw [nI_clamp (by omega)] at z
      exact absurd (hs i (Nat.le_refl _) (by omega)) z
  exact key (j - i) i (by have := hS.1; omega) hS.2.2.1
theorem M_here {k : Nat} {tx : Nat → Int32} {E : EV} (hT : TxE k tx E) {j : Nat} (hj : j ≤ k) {wh mn bd : Int32} : R_M_here E.1 wh E.2.1 (nI j) mn bd E.2.2.1 E.2.2.2.1 E.2.2.2.2.1 E.2.2.2.2.2.1 E.2.2.2.2.2.2.1 E.2.2.2.2.2.2.2.1 E.2.2.2.2.2.2.2.2 (mch k tx j, ()) := by
  obtain ⟨h1, h2, h3⟩ := hT
  unfold mch
  by_cases e : j < k
  · refine ⟨fun z => absurd z (by rw [h2]; exact nI_ge e (by omega)), fun _ => ⟨vp_in_nI (by omega) (by decide), ?_⟩⟩
    rw [nI_clamp (by omega), if_pos e, (h3 j e).1]
  · exact ⟨fun _ => by rw [if_neg e], fun z => absurd (by rw [h2]; exact nI_le (by omega) (by omega)) z⟩
/-! ===== the model's parse, a step at a time ===== -/
abbrev OP : Type := Int32 × Int32 × Int32 × Int32 × F1 × F1 × F1 × F1 × F1 × F1 × F1 × F1 × F1 × F1 × F1
abbrev GQ (E : EV) (c : Nat) (x1 x2 x3 x4 z0 wh ap bad : Int32) (M : MS) (out : OP) : Prop := ∃ n, g_M_parse E.1 E.2.1 E.2.2.1 E.2.2.2.1 E.2.2.2.2.1 E.2.2.2.2.2.1 E.2.2.2.2.2.2.1 E.2.2.2.2.2.2.2.1 E.2.2.2.2.2.2.2.2 n c x1 x2 x3 x4 z0 wh ap M.1 bad M.2.1 M.2.2.1 M.2.2.2.1 M.2.2.2.2.1 M.2.2.2.2.2.1 M.2.2.2.2.2.2.1 M.2.2.2.2.2.2.2.1 M.2.2.2.2.2.2.2.2.1 M.2.2.2.2.2.2.2.2.2.1 M.2.2.2.2.2.2.2.2.2.2.1 M.2.2.2.2.2.2.2.2.2.2.2 out
theorem m_go {k : Nat} {tx : Nat → Int32} {E : EV} (hT : TxE k tx E) {i j : Nat} (hS : Sk k tx i j) {x1 wh : Int32} {M : MS} {out : OP} (h : GQ E 3 x1 1 0 0 0 wh (nI j) 0 M out) : GQ E 2 x1 1 0 0 0 wh (nI i) 0 M out := by
  have key : ∀ (c i : Nat), i + c = j → (∀ t, i ≤ t → t < j → tx t = 32) → GQ E 3 x1 1 0 0 0 wh (nI i) 0 M out := by
    intro c
    induction c with
    | zero =>
      intro i hi _
      have e : i = j := by omega
      subst e
      exact h
    | succ c ih =>
      intro i hi hs
      obtain ⟨n, h9⟩ := ih (i + 1) (by omega) (fun t t1 t2 => hs t (by omega) t2)
      have hj := hS.2.1
      refine ⟨n + 1, ?_⟩
      rw [g_M_parse_3, nI_1]
      refine ⟨_, M_here hT (by omega), fun z => ?_, fun _ => h9⟩
      exact absurd (by show mch k tx i = 32; unfold mch; rw [if_pos (by omega)]; exact hs i (Nat.le_refl _) (by omega)) z
  obtain ⟨n, h9⟩ := key (j - i) i (by have := hS.1; omega) hS.2.2.1
  refine ⟨n + 1, ?_⟩
  rw [g_M_parse_2]
  exact ⟨fun z => absurd z (by decide), fun _ => ⟨fun z => absurd rfl z, fun _ => h9⟩⟩
theorem ix3 (d : Nat) : 3 * nI d = nI (3 * d) := by rw [show (3 : Int32) = nI 3 from rfl, pk_mul]
theorem nI_2 (a : Nat) : nI a + 2 = nI (a + 2) := nI_add a 2
theorem mch_ne32 {k : Nat} {tx : Nat → Int32} {j : Nat} (h : j < k → ¬ tx j = 32) : ¬ mch k tx j = 32 := by
  unfold mch; split
  · exact h (by assumption)
  · decide
theorem m_3atom {k : Nat} {tx : Nat → Int32} {E : EV} (hT : TxE k tx E) {d j : Nat} (hj : j ≤ k) (hn : ¬ mch k tx j = 32) (ha : ¬ atm (mch k tx j) = 0) {wh : Int32} {M : MS} {out : OP} (h : GQ E 4 (nI d) 1 (mch k tx j) (nI (3 * d)) 0 wh (nI j) 0 M out) : GQ E 3 (nI d) 1 0 0 0 wh (nI j) 0 M out := by
  obtain ⟨n, h9⟩ := h
  refine ⟨n + 1, ?_⟩
  rw [g_M_parse_3, ix3]
  exact ⟨_, M_here hT hj, fun _ => ⟨_, M_here hT hj, _, R_isAtom_ok _, fun _ => h9, fun z => absurd z ha⟩, fun z => absurd z hn⟩
theorem m_3open {k : Nat} {tx : Nat → Int32} {E : EV} (hT : TxE k tx E) {d j : Nat} (hj : j ≤ k) (ho : mch k tx j = 40) {wh : Int32} {M : MS} {out : OP} (h : GQ E 4 (nI d) 1 40 (nI (3 * d)) 0 wh (nI j) 0 M out) : GQ E 3 (nI d) 1 0 0 0 wh (nI j) 0 M out := by
  obtain ⟨n, h9⟩ := h
  refine ⟨n + 1, ?_⟩
  rw [g_M_parse_3, ix3]
  exact ⟨(40, ()), by rw [← ho]; exact M_here hT hj, fun _ => ⟨(40, ()), by rw [← ho]; exact M_here hT hj, _, R_isAtom_ok _, fun _ => h9, fun _ => ⟨fun z => absurd rfl z, fun _ => h9⟩⟩, fun z => absurd z (by decide)⟩
theorem m_3none {k : Nat} {tx : Nat → Int32} {E : EV} (hT : TxE k tx E) {d j : Nat} (hd : d < 9) (hj : j ≤ k) (hn : ¬ mch k tx j = 32) (hb : bgn (mch k tx j) = 0) {wh : Int32} {M : MS} {out : OP} (hF : M.2.1 (3 * d + 2) = 0) (h : GQ E 2 (nI d) 1 0 0 0 (nI j) (nI j) 1 M out) : GQ E 3 (nI d) 1 0 0 0 wh (nI j) 0 M out := by
  obtain ⟨n, h9⟩ := h
  obtain ⟨b1, b2⟩ := bgn_0 hb
  refine ⟨n + 1, ?_⟩
  rw [g_M_parse_3, ix3, nI_2, nI_clamp (show 3 * d + 2 < 2 ^ 31 by omega)]
  exact ⟨_, M_here hT hj, fun _ => ⟨_, M_here hT hj, _, R_isAtom_ok _, fun z => absurd b1 z, fun _ => ⟨fun _ => ⟨vin30 (by omega), fun z => absurd hF z, fun _ => ⟨(nI j, 1), ⟨fun z => absurd rfl z, fun _ => rfl⟩, h9⟩⟩, fun z => absurd z b2⟩⟩, fun z => absurd z hn⟩
theorem m_3suf {k : Nat} {tx : Nat → Int32} {E : EV} (hT : TxE k tx E) {d j : Nat} (hd : d < 9) (hj : j ≤ k) (hn : ¬ mch k tx j = 32) (hb : bgn (mch k tx j) = 0) (hs : ¬ sfx (mch k tx j) = 0) {wh : Int32} {M : MS} {out : OP} (hF : ¬ M.2.1 (3 * d + 2) = 0) {v : Int32 × Int32 × Int32 × F1 × F1 × F1 × F1 × F1 × F1} (hv : R_M_suffix (nI (3 * d + 2)) E.1 E.2.1 M.1 E.2.2.1 E.2.2.2.1 E.2.2.2.2.1 E.2.2.2.2.2.1 E.2.2.2.2.2.2.1 E.2.2.2.2.2.2.2.1 E.2.2.2.2.2.2.2.2 M.2.2.2.1 M.2.2.2.2.2.1 M.2.2.2.2.2.2.1 wh (nI j) 0 M.2.2.1 M.2.2.2.2.1 M.2.2.2.2.2.2.2.1 M.2.2.2.2.2.2.2.2.1 M.2.2.2.2.2.2.2.2.2.2.1 M.2.2.2.2.2.2.2.2.2.2.2 v) (h : GQ E 2 (nI d) 1 0 0 0 v.1 v.2.1 v.2.2.1 (M.1, M.2.1, v.2.2.2.1, M.2.2.2.1, v.2.2.2.2.1, M.2.2.2.2.2.1, M.2.2.2.2.2.2.1, v.2.2.2.2.2.1, v.2.2.2.2.2.2.1, M.2.2.2.2.2.2.2.2.2.1, v.2.2.2.2.2.2.2.1, v.2.2.2.2.2.2.2.2) out) : GQ E 3 (nI d) 1 0 0 0 wh (nI j) 0 M out := by
  obtain ⟨n, h9⟩ := h
  obtain ⟨b1, b2⟩ := bgn_0 hb
  refine ⟨n + 1, ?_⟩
  rw [g_M_parse_3, ix3, nI_2, nI_clamp (show 3 * d + 2 < 2 ^ 31 by omega)]
  exact ⟨_, M_here hT hj, fun _ => ⟨_, M_here hT hj, _, R_isAtom_ok _, fun z => absurd b1 z, fun _ => ⟨fun _ => ⟨vin30 (by omega), fun _ => ⟨_, R_isSuffix_ok _, fun z => absurd z hs, fun _ => ⟨v, hv, h9⟩⟩, fun z => absurd z hF⟩, fun z => absurd z b2⟩⟩, fun z => absurd z hn⟩
theorem m_38 {k : Nat} {tx : Nat → Int32} {E : EV} (hT : TxE k tx E) {d j : Nat} (hd : d < 9) (hj : j ≤ k) (hc : mch k tx j = 124 ∨ (mch k tx j = 41 ∧ 0 < d)) {wh : Int32} {M : MS} {out : OP} (hF : ¬ M.2.1 (3 * d + 2) = 0) (h : GQ E 8 (nI d) 0 (mch k tx j) (nI (3 * d)) 0 wh (nI j) 0 M out) : GQ E 3 (nI d) 1 0 0 0 wh (nI j) 0 M out := by
  obtain ⟨n, h9⟩ := h
  refine ⟨n + 1, ?_⟩
  rw [g_M_parse_3, ix3, nI_2, nI_clamp (show 3 * d + 2 < 2 ^ 31 by omega)]
  rcases hc with hc | ⟨hc, hd0⟩
  · rw [hc] at h9
    exact ⟨(124, ()), by rw [← hc]; exact M_here hT hj, fun _ => ⟨(124, ()), by rw [← hc]; exact M_here hT hj, _, R_isAtom_ok _, fun z => absurd (by decide) z, fun _ => ⟨fun _ => ⟨vin30 (by omega), fun _ => ⟨_, R_isSuffix_ok _, fun _ => ⟨fun _ => h9, fun z => absurd rfl z⟩, fun z => absurd (by decide) z⟩, fun z => absurd z hF⟩, fun z => absurd z (by decide)⟩⟩, fun z => absurd z (by decide)⟩
  · rw [hc] at h9
    exact ⟨(41, ()), by rw [← hc]; exact M_here hT hj, fun _ => ⟨(41, ()), by rw [← hc]; exact M_here hT hj, _, R_isAtom_ok _, fun z => absurd (by decide) z, fun _ => ⟨fun _ => ⟨vin30 (by omega), fun _ => ⟨_, R_isSuffix_ok _, fun _ => ⟨fun _ => h9, fun _ => ⟨fun z => absurd rfl z, fun _ => ⟨fun _ => h9, fun z => absurd (nI_lt hd0 (by omega)) z⟩⟩⟩, fun z => absurd (by decide) z⟩, fun z => absurd z hF⟩, fun z => absurd z (by decide)⟩⟩, fun z => absurd z (by decide)⟩
theorem m_37 {k : Nat} {tx : Nat → Int32} {E : EV} (hT : TxE k tx E) {d j : Nat} (hd : d < 9) (hj : j ≤ k) (hn : ¬ mch k tx j = 32) (hb : bgn (mch k tx j) = 0) (hs : sfx (mch k tx j) = 0) (hc1 : ¬ mch k tx j = 124) (hc2 : mch k tx j = 41 → d = 0) {wh : Int32} {M : MS} {out : OP} (hF : ¬ M.2.1 (3 * d + 2) = 0) (h : GQ E 7 (nI d) 1 (mch k tx j) (nI (3 * d)) 0 wh (nI j) 0 M out) : GQ E 3 (nI d) 1 0 0 0 wh (nI j) 0 M out := by
  obtain ⟨n, h9⟩ := h
  obtain ⟨b1, b2⟩ := bgn_0 hb
  refine ⟨n + 1, ?_⟩
  rw [g_M_parse_3, ix3, nI_2, nI_clamp (show 3 * d + 2 < 2 ^ 31 by omega)]
  exact ⟨_, M_here hT hj, fun _ => ⟨_, M_here hT hj, _, R_isAtom_ok _, fun z => absurd b1 z, fun _ => ⟨fun _ => ⟨vin30 (by omega), fun _ => ⟨_, R_isSuffix_ok _, fun _ => ⟨fun z => absurd z hc1, fun _ => ⟨fun _ => h9, fun z => ⟨fun z2 => absurd z2 (by rw [hc2 z]; decide), fun _ => h9⟩⟩⟩, fun z => absurd hs z⟩, fun z => absurd z hF⟩, fun z => absurd z b2⟩⟩, fun z => absurd z hn⟩
theorem m_7bad {E : EV} {d j : Nat} (hd : d < 9) {c wh : Int32} (hc : 0 ≤ c ∨ 0 < d) {M : MS} {x4 : Int32} {out : OP} (h : GQ E 2 (nI d) 1 0 0 0 (nI j) (nI j) 1 M out) : GQ E 7 (nI d) 1 c x4 0 wh (nI j) 0 M out := by
  obtain ⟨n, h9⟩ := h
  refine ⟨n + 1, ?_⟩
  rw [g_M_parse_7]
  refine ⟨fun _ => ⟨(nI j, 1), ⟨fun z => absurd rfl z, fun _ => rfl⟩, h9⟩, fun z => ⟨fun _ => ⟨(nI j, 1), ⟨fun z => absurd rfl z, fun _ => rfl⟩, h9⟩, fun z2 => ?_⟩⟩
  rcases hc with q | q
  · exact absurd q z
  · exact absurd z2 (nI_ne0 q (by omega))
/-- M with F_d joined into T_d, where F_d is live -/
def Rd (E : EV) (d : Nat) (wh ap bad : Int32) (M M' : MS) : Prop := (M.2.1 (3 * d + 2) = 0 ∧ M' = M) ∨ ((¬ M.2.1 (3 * d + 2) = 0) ∧ ∃ u : UB, R_M_behind (nI (3 * d + 1)) (nI (3 * d + 2)) E.1 wh E.2.1 ap M.1 bad E.2.2.1 E.2.2.2.1 E.2.2.2.2.1 E.2.2.2.2.2.1 E.2.2.2.2.2.2.1 E.2.2.2.2.2.2.2.1 M.2.1 M.2.2.1 M.2.2.2.1 M.2.2.2.2.1 M.2.2.2.2.2.1 M.2.2.2.2.2.2.1 M.2.2.2.2.2.2.2.1 M.2.2.2.2.2.2.2.2.1 M.2.2.2.2.2.2.2.2.2.2.1 M.2.2.2.2.2.2.2.2.2.2.2 u ∧ M' = MB M u)
theorem m_6bad {E : EV} {d : Nat} (hd : d < 9) {x1 c wh ap : Int32} {M M' : MS} {out : OP} (hR : Rd E d wh ap 1 M M') (h : GQ E 2 x1 1 0 0 0 wh ap 1 M' out) : GQ E 6 x1 1 c (nI (3 * d)) 0 wh ap 1 M out := by
  obtain ⟨n, h9⟩ := h
  refine ⟨n + 1, ?_⟩
  rw [g_M_parse_6, nI_2, nI_1, nI_clamp (show 3 * d + 2 < 2 ^ 31 by omega)]
  rcases hR with ⟨h1, rfl⟩ | ⟨h1, u, h2, rfl⟩
  · exact ⟨vin30 (by omega), fun _ => ⟨fun z => absurd z (by decide), fun _ => h9⟩, fun z => absurd h1 z⟩
  · exact ⟨vin30 (by omega), fun z => absurd z h1, fun _ => ⟨u, h2, fun z => absurd z (by decide), fun _ => h9⟩⟩
theorem m_6open {E : EV} {d : Nat} (hd : d < 9) {wh : Int32} {j : Nat} {M M' : MS} {out : OP} (hR : Rd E d wh (nI j) 0 M M') (h : GQ E 2 (nI (d + 1)) 1 0 0 0 wh (nI (j + 1)) 0 M' out) : GQ E 6 (nI d) 1 40 (nI (3 * d)) 0 wh (nI j) 0 M out := by
  obtain ⟨n, h9⟩ := h
  refine ⟨n + 1, ?_⟩
  rw [g_M_parse_6, nI_2, nI_1 (3 * d), nI_1 d, nI_1 j, nI_clamp (show 3 * d + 2 < 2 ^ 31 by omega)]
  rcases hR with ⟨h1, rfl⟩ | ⟨h1, u, h2, rfl⟩
  · exact ⟨vin30 (by omega), fun _ => ⟨fun _ => ⟨fun z => absurd rfl z, fun _ => h9⟩, fun z => absurd rfl z⟩, fun z => absurd h1 z⟩
  · exact ⟨vin30 (by omega), fun z => absurd z h1, fun _ => ⟨u, h2, fun _ => ⟨fun z => absurd rfl z, fun _ => h9⟩, fun z => absurd rfl z⟩⟩
theorem m_6atom {E : EV} {d : Nat} (hd : d < 9) {c wh : Int32} {j : Nat} {M M' M2 : MS} {out : OP} (hc : ¬ c = 40) (hR : Rd E d wh (nI j) 0 M M') {v : Int32 × Int32 × Int32 × Int32} (hv : R_M_bits E.1 E.2.1 M.1 E.2.2.1 E.2.2.2.1 E.2.2.2.2.1 E.2.2.2.2.2.1 E.2.2.2.2.2.2.1 E.2.2.2.2.2.2.2.1 E.2.2.2.2.2.2.2.2 wh (nI j) 0 v) (hp : R_M_position (nI (3 * d + 2)) v.1 E.1 v.2.1 E.2.1 v.2.2.1 v.2.2.2 E.2.2.1 E.2.2.2.1 E.2.2.2.2.1 E.2.2.2.2.2.1 E.2.2.2.2.2.2.1 E.2.2.2.2.2.2.2.1 M'.1 M'.2.1 M'.2.2.1 M'.2.2.2.1 M'.2.2.2.2.1 M'.2.2.2.2.2.1 M'.2.2.2.2.2.2.1 M'.2.2.2.2.2.2.2.1 M'.2.2.2.2.2.2.2.2.1 M'.2.2.2.2.2.2.2.2.2.1 M'.2.2.2.2.2.2.2.2.2.2.1 M'.2.2.2.2.2.2.2.2.2.2.2 M2) (h : GQ E 2 (nI d) 1 0 0 0 v.2.1 v.2.2.1 v.2.2.2 M2 out) : GQ E 6 (nI d) 1 c (nI (3 * d)) 0 wh (nI j) 0 M out := by
  obtain ⟨n, h9⟩ := h
  refine ⟨n + 1, ?_⟩
  rw [g_M_parse_6, nI_2, nI_1 (3 * d), nI_clamp (show 3 * d + 2 < 2 ^ 31 by omega)]
  rcases hR with ⟨h1, rfl⟩ | ⟨h1, u, h2, rfl⟩
  · exact ⟨vin30 (by omega), fun _ => ⟨fun _ => ⟨fun _ => ⟨v, hv, M2, hp, h9⟩, fun z => absurd z hc⟩, fun z => absurd rfl z⟩, fun z => absurd h1 z⟩
  · exact ⟨vin30 (by omega), fun z => absurd z h1, fun _ => ⟨u, h2, fun _ => ⟨fun _ => ⟨v, hv, M2, hp, h9⟩, fun z => absurd z hc⟩, fun z => absurd rfl z⟩⟩
theorem m_4a {E : EV} {d : Nat} {c wh : Int32} {j P : Nat} {M : MS} {x4 : Int32} {out : OP} (hc : ¬ c = 40) (hP : M.1 = nI P) (h30 : P < 30) (h : GQ E 6 (nI d) 1 c x4 0 wh (nI j) 0 M out) : GQ E 4 (nI d) 1 c x4 0 wh (nI j) 0 M out := by
  obtain ⟨n, h9⟩ := h
  refine ⟨n + 1, ?_⟩
  rw [g_M_parse_4]
  exact ⟨fun _ => ⟨fun _ => h9, fun z => absurd (nI_eqD (b := 30) (by omega) (by omega) (hP.symm.trans z)) (by omega)⟩, fun z => absurd z hc⟩
theorem m_4full {E : EV} {d : Nat} {c wh : Int32} {j : Nat} {M : MS} {x4 : Int32} {out : OP} (hc : ¬ c = 40) (hP : M.1 = 30) (h : GQ E 6 (nI d) 1 c x4 0 (nI j) (nI j) 1 M out) : GQ E 4 (nI d) 1 c x4 0 wh (nI j) 0 M out := by
  obtain ⟨n, h9⟩ := h
  refine ⟨n + 1 + 1, ?_⟩
  rw [g_M_parse_4]
  refine ⟨fun _ => ⟨fun z => absurd hP z, fun _ => ?_⟩, fun z => absurd z hc⟩
  rw [g_M_parse_5]
  exact ⟨(nI j, 1), ⟨fun z => absurd rfl z, fun _ => rfl⟩, h9⟩
theorem m_4o {E : EV} {d : Nat} {wh : Int32} {j : Nat} {M : MS} {x4 : Int32} {out : OP} (hd : d < 8) (h : GQ E 6 (nI d) 1 40 x4 0 wh (nI j) 0 M out) : GQ E 4 (nI d) 1 40 x4 0 wh (nI j) 0 M out := by
  obtain ⟨n, h9⟩ := h
  refine ⟨n + 1, ?_⟩
  rw [g_M_parse_4]
  exact ⟨fun z => absurd rfl z, fun _ => ⟨fun _ => h9, fun z => absurd (nI_eqD (b := 8) (by omega) (by omega) z) (by omega)⟩⟩
theorem m_4deep {E : EV} {wh : Int32} {j : Nat} {M : MS} {x4 : Int32} {out : OP} (h : GQ E 6 (nI 8) 1 40 x4 0 (nI j) (nI j) 1 M out) : GQ E 4 (nI 8) 1 40 x4 0 wh (nI j) 0 M out := by
  obtain ⟨n, h9⟩ := h
  refine ⟨n + 1 + 1, ?_⟩
  rw [g_M_parse_4]
  refine ⟨fun z => absurd rfl z, fun _ => ⟨fun z => absurd rfl z, fun _ => ?_⟩⟩
  rw [g_M_parse_5]
  exact ⟨(nI j, 1), ⟨fun z => absurd rfl z, fun _ => rfl⟩, h9⟩
theorem m_8 {E : EV} {d : Nat} (hd : d < 9) {c wh : Int32} {j : Nat} {M : MS} {out : OP} {u : UB} {t : UC} (h1 : R_M_behind (nI (3 * d + 1)) (nI (3 * d + 2)) E.1 wh E.2.1 (nI j) M.1 0 E.2.2.1 E.2.2.2.1 E.2.2.2.2.1 E.2.2.2.2.2.1 E.2.2.2.2.2.2.1 E.2.2.2.2.2.2.2.1 M.2.1 M.2.2.1 M.2.2.2.1 M.2.2.2.2.1 M.2.2.2.2.2.1 M.2.2.2.2.2.2.1 M.2.2.2.2.2.2.2.1 M.2.2.2.2.2.2.2.2.1 M.2.2.2.2.2.2.2.2.2.2.1 M.2.2.2.2.2.2.2.2.2.2.2 u) (h2 : R_M_beside (nI (3 * d)) (nI (3 * d + 1)) E.1 wh E.2.1 (nI j) M.1 0 E.2.2.1 E.2.2.2.1 E.2.2.2.2.1 E.2.2.2.2.2.1 E.2.2.2.2.2.2.1 E.2.2.2.2.2.2.2.1 u.1 u.2.1 u.2.2.1 u.2.2.2.1 u.2.2.2.2.1 u.2.2.2.2.2.1 u.2.2.2.2.2.2.1 u.2.2.2.2.2.2.2.1 t) (h : GQ E 9 (nI d) 0 c (nI (3 * d)) (if c < 0 then 0 else 1) wh (nI j) 0 (MC M u t) out) : GQ E 8 (nI d) 0 c (nI (3 * d)) 0 wh (nI j) 0 M out := by
  obtain ⟨n, h9⟩ := h
  refine ⟨n + 1, ?_⟩
  rw [g_M_parse_8, nI_2, nI_1 (3 * d), Int32.add_zero]
  refine ⟨u, h1, t, h2, fun e => ?_, fun e => ?_⟩
  · rw [if_pos e] at h9; exact h9
  · rw [if_neg e] at h9; exact h9
theorem m_9bar {E : EV} {d : Nat} {c x4 z0 wh : Int32} {j : Nat} {M : MS} {out : OP} (hc : ¬ c = 41) (h : GQ E 2 (nI d) z0 0 0 0 wh (nI (j + 1)) 0 M out) : GQ E 9 (nI d) 0 c x4 z0 wh (nI j) 0 M out := by
  obtain ⟨n, h9⟩ := h
  refine ⟨n + 1, ?_⟩
  rw [g_M_parse_9, nI_1 j]
  exact ⟨fun z => absurd z hc, fun _ => h9⟩
theorem m_9close {E : EV} {d : Nat} {wh : Int32} {j : Nat} {M : MS} {out : OP} {t : UC} (h1 : R_M_copy (nI (3 * d + 2)) (nI (3 * d + 3)) E.1 wh E.2.1 (nI (j + 1)) M.1 0 E.2.2.1 E.2.2.2.1 E.2.2.2.2.1 E.2.2.2.2.2.1 E.2.2.2.2.2.2.1 E.2.2.2.2.2.2.2.1 M.2.1 M.2.2.1 M.2.2.2.1 M.2.2.2.2.1 M.2.2.2.2.2.1 M.2.2.2.2.2.2.1 M.2.2.2.2.2.2.2.1 M.2.2.2.2.2.2.2.2.1 t) (h : GQ E 2 (nI d) 1 0 0 0 wh (nI (j + 1)) 0 (MK M t) out) : GQ E 9 (nI (d + 1)) 0 41 (nI (3 * (d + 1))) 1 wh (nI j) 0 M out := by
  obtain ⟨n, h9⟩ := h
  refine ⟨n + 1, ?_⟩
  have e1 : nI (3 * (d + 1)) - 1 = nI (3 * d + 2) := nI_pred (3 * d + 2)
  have e2 : nI (d + 1) + (-1) = nI d := by rw [← nI_pred d]; exact (Int32.sub_eq_add_neg _ _).symm
  rw [g_M_parse_9, nI_1 j, e1, e2]
  exact ⟨fun _ => ⟨t, h1, h9⟩, fun z => absurd rfl z⟩
