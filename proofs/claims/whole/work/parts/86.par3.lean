/-! ===== factors, terms, expressions on both sides ===== -/
def dgt (c : Int32) : Int32 := if c < 48 then 0 else if 57 < c then 0 else 1
theorem R_inD_ok (c : Int32) : R_M_in c 48 57 (dgt c, ()) := by
  unfold dgt
  refine ⟨fun e => by rw [if_pos e], fun e => ⟨fun e2 => by rw [if_neg e, if_pos e2], fun e2 => by rw [if_neg e, if_neg e2]⟩⟩
theorem sfx_bgn {c : Int32} (h : ¬ sfx c = 0) : bgn c = 0 := by
  by_cases hr : rpt c = 0
  · rcases sfx_act h hr with e | e | e | e <;> subst e <;> decide
  · rcases rpt_is hr with e | e | e <;> subst e <;> decide
theorem suf_rep {k : Nat} {tx : Nat → Int32} {E : EV} (hT : TxE k tx E) {j v : Nat} (hj : j ≤ k) (hr : ¬ rpt (mch k tx j) = 0) {M : MS} {wh : Int32} {u : F1 × F1 × F1 × F1} (hu : R_M_repeat (nI v) (mch k tx j) E.1 wh E.2.1 (nI (j + 1)) M.1 0 E.2.2.1 E.2.2.2.1 E.2.2.2.2.1 E.2.2.2.2.2.1 E.2.2.2.2.2.2.1 E.2.2.2.2.2.2.2.1 M.2.2.2.2.2.1 M.2.2.2.2.2.2.1 M.2.2.2.2.2.2.2.1 M.2.2.2.2.2.2.2.2.1 M.2.2.1 M.2.2.2.2.1 M.2.2.2.2.2.2.2.2.2.2.1 M.2.2.2.2.2.2.2.2.2.2.2 u) : R_M_suffix (nI v) E.1 E.2.1 M.1 E.2.2.1 E.2.2.2.1 E.2.2.2.2.1 E.2.2.2.2.2.1 E.2.2.2.2.2.2.1 E.2.2.2.2.2.2.2.1 E.2.2.2.2.2.2.2.2 M.2.2.2.1 M.2.2.2.2.2.1 M.2.2.2.2.2.2.1 wh (nI j) 0 M.2.2.1 M.2.2.2.2.1 M.2.2.2.2.2.2.2.1 M.2.2.2.2.2.2.2.2.1 M.2.2.2.2.2.2.2.2.2.2.1 M.2.2.2.2.2.2.2.2.2.2.2 (wh, nI (j + 1), 0, u.1, u.2.1, M.2.2.2.2.2.2.2.1, M.2.2.2.2.2.2.2.2.1, u.2.2.1, u.2.2.2) := by
  unfold R_M_suffix
  rw [nI_1]
  refine ⟨_, M_here hT hj, fun _ => ⟨u, hu, rfl⟩, fun e1 => ⟨fun _ => ⟨u, hu, rfl⟩, fun e2 => ⟨fun e3 => ?_, fun _ => ⟨u, hu, rfl⟩⟩⟩⟩
  rcases rpt_is hr with e | e | e
  · exact absurd e e1
  · exact absurd e e2
  · exact absurd e e3
theorem suf_act {k : Nat} {tx : Nat → Int32} {E : EV} (hT : TxE k tx E) {j v : Nat} (hj : j + 1 ≤ k) (hs : mch k tx j = 62 ∨ mch k tx j = 64 ∨ mch k tx j = 36 ∨ mch k tx j = 37) (hd : ¬ dgt (mch k tx (j + 1)) = 0) {M : MS} {wh : Int32} {u : F1 × F1 × F1 × F1} (hu : R_M_act (nI v) (mch k tx j) (1 <<< ((mch k tx (j + 1) - 48) &&& 31)) E.1 wh E.2.1 (nI (j + 1)) M.1 0 E.2.2.1 E.2.2.2.1 E.2.2.2.2.1 E.2.2.2.2.2.1 E.2.2.2.2.2.2.1 E.2.2.2.2.2.2.2.1 M.2.2.1 M.2.2.2.1 M.2.2.2.2.2.1 M.2.2.2.2.2.2.1 M.2.2.2.2.2.2.2.2.2.2.2 M.2.2.2.2.1 M.2.2.2.2.2.2.2.1 M.2.2.2.2.2.2.2.2.1 M.2.2.2.2.2.2.2.2.2.2.1 u) : R_M_suffix (nI v) E.1 E.2.1 M.1 E.2.2.1 E.2.2.2.1 E.2.2.2.2.1 E.2.2.2.2.2.1 E.2.2.2.2.2.2.1 E.2.2.2.2.2.2.2.1 E.2.2.2.2.2.2.2.2 M.2.2.2.1 M.2.2.2.2.2.1 M.2.2.2.2.2.2.1 wh (nI j) 0 M.2.2.1 M.2.2.2.2.1 M.2.2.2.2.2.2.2.1 M.2.2.2.2.2.2.2.2.1 M.2.2.2.2.2.2.2.2.2.2.1 M.2.2.2.2.2.2.2.2.2.2.2 (wh, nI (j + 2), 0, M.2.2.1, u.1, u.2.1, u.2.2.1, u.2.2.2, M.2.2.2.2.2.2.2.2.2.2.2) := by
  unfold R_M_suffix
  rw [nI_1, nI_1]
  have n1 : ¬ mch k tx j = 42 ∧ ¬ mch k tx j = 43 ∧ ¬ mch k tx j = 63 := by rcases hs with e | e | e | e <;> rw [e] <;> decide
  exact ⟨_, M_here hT (by omega), fun z => absurd z n1.1, fun _ => ⟨fun z => absurd z n1.2.1, fun _ => ⟨fun _ => ⟨_, M_here hT hj, _, R_inD_ok _, fun _ => ⟨_, M_here hT hj, u, hu, rfl⟩, fun z => absurd z hd⟩, fun z => absurd z n1.2.2⟩⟩⟩
theorem suf_bad {k : Nat} {tx : Nat → Int32} {E : EV} (hT : TxE k tx E) {j v : Nat} (hj : j + 1 ≤ k) (hs : mch k tx j = 62 ∨ mch k tx j = 64 ∨ mch k tx j = 36 ∨ mch k tx j = 37) (hd : dgt (mch k tx (j + 1)) = 0) {M : MS} {wh : Int32} : R_M_suffix (nI v) E.1 E.2.1 M.1 E.2.2.1 E.2.2.2.1 E.2.2.2.2.1 E.2.2.2.2.2.1 E.2.2.2.2.2.2.1 E.2.2.2.2.2.2.2.1 E.2.2.2.2.2.2.2.2 M.2.2.2.1 M.2.2.2.2.2.1 M.2.2.2.2.2.2.1 wh (nI j) 0 M.2.2.1 M.2.2.2.2.1 M.2.2.2.2.2.2.2.1 M.2.2.2.2.2.2.2.2.1 M.2.2.2.2.2.2.2.2.2.2.1 M.2.2.2.2.2.2.2.2.2.2.2 (nI (j + 1), nI (j + 2), 1, M.2.2.1, M.2.2.2.2.1, M.2.2.2.2.2.2.2.1, M.2.2.2.2.2.2.2.2.1, M.2.2.2.2.2.2.2.2.2.2.1, M.2.2.2.2.2.2.2.2.2.2.2) := by
  unfold R_M_suffix
  rw [nI_1, nI_1]
  have n1 : ¬ mch k tx j = 42 ∧ ¬ mch k tx j = 43 ∧ ¬ mch k tx j = 63 := by rcases hs with e | e | e | e <;> rw [e] <;> decide
  exact ⟨_, M_here hT (by omega), fun z => absurd z n1.1, fun _ => ⟨fun z => absurd z n1.2.1, fun _ => ⟨fun _ => ⟨_, M_here hT hj, _, R_inD_ok _, fun z => absurd hd z, fun _ => ⟨(nI (j + 1), 1), ⟨fun z => absurd rfl z, fun _ => rfl⟩, rfl⟩⟩, fun z => absurd z n1.2.2⟩⟩⟩
def FQ (rc : RCX) (LP : List Nat) (ae at_ af : Nat → Option Nat) (k : Nat) (tx : Nat → Int32) (E : EV) (ad : Nat → Nat) (d : Nat) (b : Bool) (M0 : MS) (i x : Nat) (C : CS) (M : MS) : Prop :=
  (∃ (v : RO) (j : Nat) (M' : MS), (∃ m, g_Pars_readFactor rc LP (nI d) (nI k) tx ae at_ af m 1 (nI x) (nI i) C.1 C.2.1 C.2.2.1 C.2.2.2.1 C.2.2.2.2.1 C.2.2.2.2.2.1 C.2.2.2.2.2.2 v) ∧ v.1 = 1 ∧ v.2.1 = nI j ∧ i ≤ j ∧ j ≤ k ∧ (j < k → ¬ tx j = 32) ∧ sfx (mch k tx j) = 0 ∧ PostF ad d b v.2.2 M0 M' ∧ ToS E d i M j M')
  ∨ ∃ v : RO, (∃ m, g_Pars_readFactor rc LP (nI d) (nI k) tx ae at_ af m 1 (nI x) (nI i) C.1 C.2.1 C.2.2.1 C.2.2.2.1 C.2.2.2.2.1 C.2.2.2.2.2.1 C.2.2.2.2.2.2 v) ∧ Fl E d i M v
theorem FQ_more {rc : RCX} {LP : List Nat} {ae at_ af : Nat → Option Nat} {k : Nat} {tx : Nat → Int32} {E : EV} {ad : Nat → Nat} {d : Nat} {b : Bool} {M0 : MS} {i x i' x' : Nat} {C C' : CS} {M M' : MS} (h : FQ rc LP ae at_ af k tx E ad d b M0 i' x' C' M') (hi : i ≤ i') (hc : ∀ v : RO, (∃ m, g_Pars_readFactor rc LP (nI d) (nI k) tx ae at_ af m 1 (nI x') (nI i') C'.1 C'.2.1 C'.2.2.1 C'.2.2.2.1 C'.2.2.2.2.1 C'.2.2.2.2.2.1 C'.2.2.2.2.2.2 v) → ∃ m, g_Pars_readFactor rc LP (nI d) (nI k) tx ae at_ af m 1 (nI x) (nI i) C.1 C.2.1 C.2.2.1 C.2.2.2.1 C.2.2.2.2.1 C.2.2.2.2.2.1 C.2.2.2.2.2.2 v) (hm : ToS E d i M i' M') : FQ rc LP ae at_ af k tx E ad d b M0 i x C M := by
  rcases h with ⟨v, j, M2, h1, h2, h3, h4, h5, h6, h7, h8, h9⟩ | ⟨v, h1, h2, x1, ap, M2, h3⟩
  · exact Or.inl ⟨v, j, M2, hc v h1, h2, h3, by omega, h5, h6, h7, h8, fun out h => hm out (h9 out h)⟩
  · exact Or.inr ⟨v, hc v h1, h2, x1, ap, M2, fun out h => hm out (h3 out h)⟩
theorem st_floop {rc : RCX} {LP : List Nat} {ad : Nat → Nat} {ae at_ af : Nat → Option Nat} {k : Nat} {tx : Nat → Int32} {E : EV} (hT : TxE k tx E) (hS : Shp LP ad ae at_ af) {d : Nat} (hd : d < 9) {b : Bool} {M0 : MS} : ∀ (n i x : Nat) (C : CS) (M : MS), k - i ≤ n → i ≤ k → x < i → PostF ad d b C M0 M → FQ rc LP ae at_ af k tx E ad d b M0 i x C M := by
  have hk := hT.1
  obtain ⟨hA, hLP, hSh⟩ := hS
  have body : ∀ (i x : Nat) (C : CS) (M : MS), i ≤ k → x < i → PostF ad d b C M0 M → (∀ (i' x' : Nat) (C' : CS) (M' : MS), i < i' → i' ≤ k → x' < i' → PostF ad d b C' M0 M' → FQ rc LP ae at_ af k tx E ad d b M0 i' x' C' M') → FQ rc LP ae at_ af k tx E ad d b M0 i x C M := by
    intro i x C M hi hx hp ih
    obtain ⟨j, hsk⟩ := Sk_ex (k := k) (tx := tx) (k - i) i (by omega)
    have hij := hsk.1
    have hjk := hsk.2.1
    have hn := mch_ne32 hsk.2.2.2
    have hx80 : ¬ 80 ≤ nI x := nI_ge (a := x) (b := 80) (by omega) (by omega)
    by_cases hs : sfx (mch k tx j) = 0
    · refine Or.inl ⟨(1, nI j, C), j, M, ⟨1, ?_⟩, rfl, rfl, hij, hjk, hsk.2.2.2, hs, hp, fun out h => m_go hT hsk (m_re h)⟩
      rw [g_Pars_readFactor_1]
      exact ⟨fun z => absurd z hx80, fun _ => ⟨_, P_next hT hsk, _, R_isSign_ok _, fun _ => rfl, fun z => absurd (by show sfx (cch k tx j) = 0; rw [sfx_cm]; exact hs) z⟩⟩
    · have hj : j < k := by
        by_cases z : j < k
        · exact z
        · rw [(cm_out z).2] at hs; exact absurd (by decide) hs
      have hcm : cch k tx j = mch k tx j := by rw [(cm_in hj).1, (cm_in hj).2]
      have hs2 : ¬ sfx (cch k tx j) = 0 := by rw [hcm]; exact hs
      obtain ⟨p1, p2, p3, p4, p5, p6⟩ := hp
      have hb := sfx_bgn hs
      have hcl : (nI d).toNatClampNeg = d := nI_clamp (by omega)
      have v9 : vp_in (nI d) 9 := vp_in_nI (by omega) (by decide)
      by_cases hr : rpt (mch k tx j) = 0
      · have hr2 : rpt (cch k tx j) = 0 := by rw [hcm]; exact hr
        have hact := sfx_act hs hr
        by_cases hdg : dgt (mch k tx (j + 1)) = 0
        · refine Or.inr ⟨(0, nI (j + 1), C), ⟨1, ?_⟩, rfl, nI d, nI (j + 2), M, fun out h => m_go hT hsk (m_3suf hT hd hjk hn hb hs p2 (suf_bad hT (by omega) hact hdg) h)⟩
          rw [g_Pars_readFactor_1, hcl]
          refine ⟨fun z => absurd z hx80, fun _ => ⟨_, P_next hT hsk, _, R_isSign_ok _, fun z => absurd z hs2, fun _ => ⟨_, P_here hT hjk, _, R_isRepeat_ok _, fun _ => ⟨v9, ad (3 * d + 2), (hSh d hd).2.2, hLP _ (by omega), (0, nI (j + 1), C.2.2.1, C.2.2.2.1, C.2.2.2.2.2.1, C.2.2.2.2.2.2), ?_, fun z => absurd rfl z, fun _ => rfl⟩, fun z => absurd hr2 z⟩⟩⟩
          rw [nI_1]
          refine ⟨_, P_here hT (show j + 1 ≤ k by omega), fun _ => rfl, fun z => ⟨fun z2 => ?_, fun _ => rfl⟩⟩
          by_cases q : j + 1 < k
          · have z3 : ¬ cch k tx (j + 1) < 48 := z
            have z4 : cch k tx (j + 1) ≤ 57 := z2
            rw [(cm_in q).1] at z3 z4
            rw [(cm_in q).2] at hdg
            unfold dgt at hdg
            rw [if_neg z3, if_neg (Int32.not_lt.mpr z4)] at hdg
            exact absurd hdg (by decide)
          · have z3 : ¬ cch k tx (j + 1) < 48 := z
            rw [(cm_out q).1] at z3
            exact absurd (by decide) z3
        · have hj1 : j + 1 < k := by
            by_cases z : j + 1 < k
            · exact z
            · rw [(cm_out z).2] at hdg; exact absurd (by decide) hdg
          have hcm1 : cch k tx (j + 1) = mch k tx (j + 1) := by rw [(cm_in hj1).1, (cm_in hj1).2]
          have g1 : ¬ cch k tx (j + 1) < 48 := by
            intro z; rw [hcm1] at z; exact hdg (by unfold dgt; rw [if_pos z])
          have g2 : cch k tx (j + 1) ≤ 57 := by
            refine Int32.not_lt.mp (fun z => ?_)
            rw [hcm1] at z g1; exact hdg (by unfold dgt; rw [if_neg g1, if_pos z])
          obtain ⟨w, u, k1, k2, k3⟩ := op_act (sg := mch k tx j) (dg := mch k tx (j + 1) - 48) (z_length := E.1) (z_where := -2) (z_thrown := E.2.1) (z_at := nI (j + 1)) (z_bad := 0) (z_states := E.2.2.1) (z_positions := E.2.2.2.1) (z_now := E.2.2.2.2.1) (z_fed := E.2.2.2.2.2.1) (z_found := E.2.2.2.2.2.2.1) (z_over := E.2.2.2.2.2.2.2.1) p1 hA (show 3 * d + 2 < 27 by omega) p2 p3 hact
          refine FQ_more (ih (j + 2) (x + 1) (C.1, C.2.1, w.1, w.2.1, C.2.2.2.2.1, w.2.2.1, w.2.2.2) (M.1, M.2.1, M.2.2.1, M.2.2.2.1, u.1, M.2.2.2.2.2.1, M.2.2.2.2.2.2.1, u.2.1, u.2.2.1, M.2.2.2.2.2.2.2.2.2.1, u.2.2.2, M.2.2.2.2.2.2.2.2.2.2.2) (by omega) (by omega) (by omega) ⟨k3, p2, p3, p4, p5, p6⟩) (by omega) (fun v hv => ?_) (fun out h => m_go hT hsk (m_3suf hT hd hjk hn hb hs p2 (suf_act hT (by omega) hact hdg k2) h))
          obtain ⟨m, hv⟩ := hv
          refine ⟨m + 1, ?_⟩
          rw [g_Pars_readFactor_1, hcl, nI_1 x]
          refine ⟨fun z => absurd z hx80, fun _ => ⟨_, P_next hT hsk, _, R_isSign_ok _, fun z => absurd z hs2, fun _ => ⟨_, P_here hT hjk, _, R_isRepeat_ok _, fun _ => ⟨v9, ad (3 * d + 2), (hSh d hd).2.2, hLP _ (by omega), (1, nI (j + 2), w.1, w.2.1, w.2.2.1, w.2.2.2), ?_, fun _ => hv, fun z => absurd (show (1 : Int32) = 0 from z) (by decide)⟩, fun z => absurd hr2 z⟩⟩⟩
          rw [nI_1]
          refine ⟨_, P_here hT (show j + 1 ≤ k by omega), fun z => absurd z g1, fun _ => ⟨fun _ => ⟨w, ?_, by rw [nI_1]⟩, fun z => absurd g2 z⟩⟩
          rw [hcm, hcm1]; exact k1
      · have hr2 : ¬ rpt (cch k tx j) = 0 := by rw [hcm]; exact hr
        obtain ⟨w, u, k1, k2, k3⟩ := op_repeat (sg := mch k tx j) (z_length := E.1) (z_where := -2) (z_thrown := E.2.1) (z_at := nI (j + 1)) (z_many := M.1) (z_bad := 0) (z_states := E.2.2.1) (z_positions := E.2.2.2.1) (z_now := E.2.2.2.2.1) (z_fed := E.2.2.2.2.2.1) (z_found := E.2.2.2.2.2.2.1) (z_over := E.2.2.2.2.2.2.2.1) p1 hA (show 3 * d + 2 < 27 by omega) p2
        refine FQ_more (ih (j + 1) (x + 1) (C.1, C.2.1, C.2.2.1, C.2.2.2.1, w.1, w.2.1, w.2.2) (M.1, M.2.1, u.1, M.2.2.2.1, u.2.1, M.2.2.2.2.2.1, M.2.2.2.2.2.2.1, M.2.2.2.2.2.2.2.1, M.2.2.2.2.2.2.2.2.1, M.2.2.2.2.2.2.2.2.2.1, u.2.2.1, u.2.2.2) (by omega) (by omega) (by omega) ⟨k3, p2, p3, p4, p5, p6⟩) (by omega) (fun v hv => ?_) (fun out h => m_go hT hsk (m_3suf hT hd hjk hn hb hs p2 (suf_rep hT hjk hr k2) h))
        obtain ⟨m, hv⟩ := hv
        refine ⟨m + 1, ?_⟩
        rw [g_Pars_readFactor_1, hcl, nI_1 x]
        refine ⟨fun z => absurd z hx80, fun _ => ⟨_, P_next hT hsk, _, R_isSign_ok _, fun z => absurd z hs2, fun _ => ⟨_, P_here hT hjk, _, R_isRepeat_ok _, fun z => absurd z hr2, fun _ => ⟨v9, ad (3 * d + 2), (hSh d hd).2.2, hLP _ (by omega), w, ?_, ?_⟩⟩⟩⟩
        · rw [hcm]; exact k1
        · rw [nI_1]; exact hv
  intro n
  induction n with
  | zero => intro i x C M h1 h2 h3 h4; exact body i x C M h2 h3 h4 (fun i' x' C' M' q1 q2 => by omega)
  | succ n ih => intro i x C M h1 h2 h3 h4; exact body i x C M h2 h3 h4 (fun i' x' C' M' q1 q2 q3 q4 => ih i' x' C' M' (by omega) q2 q3 q4)
theorem st_factor {rc : RCX} {LP : List Nat} {ad : Nat → Nat} {ae at_ af : Nat → Option Nat} {k : Nat} {tx : Nat → Int32} {E : EV} (hT : TxE k tx E) (hS : Shp LP ad ae at_ af) {d : Nat} (hd : d < 9) (hrc : d < 8 → ExpOK rc k tx E ad (d + 1)) {b : Bool} {C : CS} {M : MS} {i : Nat} (hi : i ≤ k) (hR : Rdy ad d b C M) (hb0 : b = true → ∀ j, Sk k tx i j → ¬ bgn (mch k tx j) = 0) :
    (∃ (v : RO) (j : Nat) (M' : MS), R_Pars_readFactor rc LP (nI d) (nI k) tx ae at_ af (nI i) C.1 C.2.1 C.2.2.1 C.2.2.2.1 C.2.2.2.2.1 C.2.2.2.2.2.1 C.2.2.2.2.2.2 v ∧ v.1 = 1 ∧ v.2.1 = nI j ∧ i < j ∧ j ≤ k ∧ (j < k → ¬ tx j = 32) ∧ sfx (mch k tx j) = 0 ∧ PostF ad d b v.2.2 M M' ∧ ToS E d i M j M')
    ∨ ∃ v : RO, R_Pars_readFactor rc LP (nI d) (nI k) tx ae at_ af (nI i) C.1 C.2.1 C.2.2.1 C.2.2.2.1 C.2.2.2.2.1 C.2.2.2.2.2.1 C.2.2.2.2.2.2 v ∧ Fl E d i M v := by
  rcases st_atom hT hS hd hrc hi hR hb0 with ⟨v, j, M1, h1, h2, h3, h4, h5, h6, h7⟩ | ⟨v, h1, h2⟩
  · rcases st_floop (rc := rc) hT hS hd (k - j) j 0 v.2.2 M1 (by omega) h5 (by omega) h6 with ⟨v2, j2, M2, e1, e2, e3, e4, e5, e6, e7, e8, e9⟩ | ⟨v2, e1, e2, x1, ap, M2, e3⟩
    · refine Or.inl ⟨v2, j2, M2, ⟨v, h1, fun _ => by rw [h3]; exact e1, fun z => absurd (h2.symm.trans z) (by decide)⟩, e2, e3, by omega, e5, e6, e7, e8, fun out h => h7 out (e9 out h)⟩
    · exact Or.inr ⟨v2, ⟨v, h1, fun _ => by rw [h3]; exact e1, fun z => absurd (h2.symm.trans z) (by decide)⟩, e2, x1, ap, M2, fun out h => h7 out (e3 out h)⟩
  · exact Or.inr ⟨(0, v.2), ⟨v, h1, fun z => absurd h2.1 z, fun _ => rfl⟩, rfl, h2.2⟩
def TQ (rc : RCX) (LP : List Nat) (ae at_ af : Nat → Option Nat) (k : Nat) (tx : Nat → Int32) (E : EV) (ad : Nat → Nat) (d : Nat) (M0 : MS) (i x : Nat) (C : CS) (M : MS) : Prop :=
  (∃ (v : RO) (j : Nat) (M' : MS), (∃ m, g_Pars_readTerm rc LP (nI d) (nI k) tx ae at_ af m 1 (nI x) (nI i) C.1 C.2.1 C.2.2.1 C.2.2.2.1 C.2.2.2.2.1 C.2.2.2.2.2.1 C.2.2.2.2.2.2 v) ∧ v.1 = 1 ∧ v.2.1 = nI j ∧ i ≤ j ∧ j ≤ k ∧ (j < k → ¬ tx j = 32) ∧ sfx (mch k tx j) = 0 ∧ bgn (mch k tx j) = 0 ∧ PendT ad d v.2.2 M' ∧ (∀ w, w < 3 * d + 1 → M'.2.1 w = M0.2.1 w) ∧ ToS E d i M j M')
  ∨ ∃ v : RO, (∃ m, g_Pars_readTerm rc LP (nI d) (nI k) tx ae at_ af m 1 (nI x) (nI i) C.1 C.2.1 C.2.2.1 C.2.2.2.1 C.2.2.2.2.1 C.2.2.2.2.2.1 C.2.2.2.2.2.2 v) ∧ Fl E d i M v
theorem st_tloop {rc : RCX} {LP : List Nat} {ad : Nat → Nat} {ae at_ af : Nat → Option Nat} {k : Nat} {tx : Nat → Int32} {E : EV} (hT : TxE k tx E) (hS : Shp LP ad ae at_ af) {d : Nat} (hd : d < 9) (hrc : d < 8 → ExpOK rc k tx E ad (d + 1)) {M0 : MS} : ∀ (n i x : Nat) (C : CS) (M : MS), k - i ≤ n → i ≤ k → x < i → (i < k → ¬ tx i = 32) → sfx (mch k tx i) = 0 → PendT ad d C M → (∀ w, w < 3 * d + 1 → M.2.1 w = M0.2.1 w) → TQ rc LP ae at_ af k tx E ad d M0 i x C M := by
  have hk := hT.1
  have hA := hS.1
  have hLP := hS.2.1
  have hSh := hS.2.2
  have body : ∀ (i x : Nat) (C : CS) (M : MS), i ≤ k → x < i → (i < k → ¬ tx i = 32) → sfx (mch k tx i) = 0 → PendT ad d C M → (∀ w, w < 3 * d + 1 → M.2.1 w = M0.2.1 w) → (∀ (i' x' : Nat) (C' : CS) (M' : MS), i < i' → i' ≤ k → x' < i' → (i' < k → ¬ tx i' = 32) → sfx (mch k tx i') = 0 → PendT ad d C' M' → (∀ w, w < 3 * d + 1 → M'.2.1 w = M0.2.1 w) → TQ rc LP ae at_ af k tx E ad d M0 i' x' C' M') → TQ rc LP ae at_ af k tx E ad d M0 i x C M := by
    intro i x C M hi hx hn hs hp hf ih
    have hsk := Sk_self hi hn
    have hx80 : ¬ 80 ≤ nI x := nI_ge (a := x) (b := 80) (by omega) (by omega)
    have hcl : (nI d).toNatClampNeg = d := nI_clamp (by omega)
    have v9 : vp_in (nI d) 9 := vp_in_nI (by omega) (by decide)
    by_cases hb : bgn (mch k tx i) = 0
    · refine Or.inl ⟨(1, nI i, C), i, M, ⟨1, ?_⟩, rfl, rfl, Nat.le_refl _, hi, hn, hs, hb, hp, hf, fun out h => h⟩
      rw [g_Pars_readTerm_1]
      exact ⟨fun z => absurd z hx80, fun _ => ⟨_, P_next hT hsk, _, R_beginsAtom_ok _, fun _ => rfl, fun z => absurd (by show bgn (cch k tx i) = 0; rw [bgn_cm]; exact hb) z⟩⟩
    · have nb : ¬ bgn (cch k tx i) = 0 := by rw [bgn_cm]; exact hb
      have hb0 : true = true → ∀ j, Sk k tx i j → ¬ bgn (mch k tx j) = 0 := by
        intro _ j hj
        have e : j = i := by
          rcases Nat.eq_or_lt_of_le hj.1 with q | q
          · exact q.symm
          · exact absurd (hj.2.2.1 i (Nat.le_refl _) q) (hn (by have := hj.2.1; omega))
        subst e
        exact hb
      rcases st_factor hT hS hd hrc hi (Or.inr ⟨rfl, hp⟩) hb0 with ⟨v, j, M1, e1, e2, e3, e4, e5, e6, e7, ⟨p1, p2, p3, p4, p5, p6⟩, e9⟩ | ⟨v, e1, e2, x1, ap, M2, e3⟩
      · obtain ⟨w9, k1, k2⟩ := op_behind_join (v := 3 * d + 2) (d := 3 * d + 1) p1 hA (by omega) p2 (by omega) (p6 rfl) (fun w h1 h2 h3 => p3 w (by omega) h2)
        have hq := ih j (x + 1) (v.2.2.1, v.2.2.2.1, w9.1, w9.2.1, w9.2.2.1, w9.2.2.2.1, w9.2.2.2.2) M1 e4 e5 (by omega) e6 e7 ⟨p2, k2⟩ (fun w hw => (p4 w hw).trans (hf w hw))
        have hc : ∀ o : RO, (∃ m, g_Pars_readTerm rc LP (nI d) (nI k) tx ae at_ af m 1 (nI (x + 1)) (nI j) v.2.2.1 v.2.2.2.1 w9.1 w9.2.1 w9.2.2.1 w9.2.2.2.1 w9.2.2.2.2 o) → ∃ m, g_Pars_readTerm rc LP (nI d) (nI k) tx ae at_ af m 1 (nI x) (nI i) C.1 C.2.1 C.2.2.1 C.2.2.2.1 C.2.2.2.2.1 C.2.2.2.2.2.1 C.2.2.2.2.2.2 o := by
          intro o ⟨m, ho⟩
          refine ⟨m + 1, ?_⟩
          rw [g_Pars_readTerm_1, hcl, nI_1 x]
          refine ⟨fun z => absurd z hx80, fun _ => ⟨_, P_next hT hsk, _, R_beginsAtom_ok _, fun z => absurd z nb, fun _ => ⟨v, e1, fun _ => ⟨v9, ad (3 * d + 1), (hSh d hd).2.1, hLP _ (by omega), v9, ad (3 * d + 2), (hSh d hd).2.2, hLP _ (by omega), w9, k1, by rw [e3]; exact ho⟩, fun z => absurd (e2.symm.trans z) (by decide)⟩⟩⟩
        rcases hq with ⟨v2, j2, M2, q1, q2, q3, q4, q5, q6, q7, q8, q9, q10, q11⟩ | ⟨v2, q1, q2, x1, ap, M2, q3⟩
        · exact Or.inl ⟨v2, j2, M2, hc v2 q1, q2, q3, by omega, q5, q6, q7, q8, q9, q10, fun out h => e9 out (q11 out h)⟩
        · exact Or.inr ⟨v2, hc v2 q1, q2, x1, ap, M2, fun out h => e9 out (q3 out h)⟩
      · refine Or.inr ⟨(0, v.2), ⟨1, ?_⟩, rfl, x1, ap, M2, e3⟩
        rw [g_Pars_readTerm_1]
        exact ⟨fun z => absurd z hx80, fun _ => ⟨_, P_next hT hsk, _, R_beginsAtom_ok _, fun z => absurd z nb, fun _ => ⟨v, e1, fun z => absurd e2 z, fun _ => rfl⟩⟩⟩
  intro n
  induction n with
  | zero => intro i x C M h0 h1 h2 h3 h4 h5 h6; exact body i x C M h1 h2 h3 h4 h5 h6 (fun i' x' C' M' q1 q2 => by omega)
  | succ n ih => intro i x C M h0 h1 h2 h3 h4 h5 h6; exact body i x C M h1 h2 h3 h4 h5 h6 (fun i' x' C' M' q1 q2 q3 q4 q5 q6 q7 => ih i' x' C' M' (by omega) q2 q3 q4 q5 q6 q7)
theorem st_term {rc : RCX} {LP : List Nat} {ad : Nat → Nat} {ae at_ af : Nat → Option Nat} {k : Nat} {tx : Nat → Int32} {E : EV} (hT : TxE k tx E) (hS : Shp LP ad ae at_ af) {d : Nat} (hd : d < 9) (hrc : d < 8 → ExpOK rc k tx E ad (d + 1)) {C : CS} {M : MS} {i : Nat} (hi : i ≤ k) (hI : InvT ad C M) (hD : ∀ w, 3 * d + 1 ≤ w → w < 27 → M.2.1 w = 0) :
    (∃ (v : RO) (j : Nat) (M' : MS), R_Pars_readTerm rc LP (nI d) (nI k) tx ae at_ af (nI i) C.1 C.2.1 C.2.2.1 C.2.2.2.1 C.2.2.2.2.1 C.2.2.2.2.2.1 C.2.2.2.2.2.2 v ∧ v.1 = 1 ∧ v.2.1 = nI j ∧ i < j ∧ j ≤ k ∧ (j < k → ¬ tx j = 32) ∧ sfx (mch k tx j) = 0 ∧ bgn (mch k tx j) = 0 ∧ PendT ad d v.2.2 M' ∧ (∀ w, w < 3 * d + 1 → M'.2.1 w = M.2.1 w) ∧ ToS E d i M j M')
    ∨ ∃ v : RO, R_Pars_readTerm rc LP (nI d) (nI k) tx ae at_ af (nI i) C.1 C.2.1 C.2.2.1 C.2.2.2.1 C.2.2.2.2.1 C.2.2.2.2.2.1 C.2.2.2.2.2.2 v ∧ Fl E d i M v := by
  have hk := hT.1
  have hA := hS.1
  have hLP := hS.2.1
  have hSh := hS.2.2
  have hcl : (nI d).toNatClampNeg = d := nI_clamp (by omega)
  have v9 : vp_in (nI d) 9 := vp_in_nI (by omega) (by decide)
  rcases st_factor hT hS hd hrc hi (Or.inl ⟨rfl, hI, hD⟩) (fun z => absurd z (by decide)) with ⟨v, j, M1, e1, e2, e3, e4, e5, e6, e7, ⟨p1, p2, p3, p4, p5, p6⟩, e9⟩ | ⟨v, e1, e2, e3⟩
  · obtain ⟨pf', k1, k2⟩ := op_behind_copy (v := 3 * d + 2) (d := 3 * d + 1) p1 hA (by omega) p2 (by omega) (fun w h1 h2 h3 => by
      rcases Nat.eq_or_lt_of_le h1 with q | q
      · rw [← q]; exact p5 rfl
      · exact p3 w (by omega) h2)
    have hc : ∀ o : RO, (∃ m, g_Pars_readTerm rc LP (nI d) (nI k) tx ae at_ af m 1 (nI 0) (nI j) v.2.2.1 v.2.2.2.1 v.2.2.2.2.1 v.2.2.2.2.2.1 v.2.2.2.2.2.2.1 v.2.2.2.2.2.2.2.1 pf' o) → R_Pars_readTerm rc LP (nI d) (nI k) tx ae at_ af (nI i) C.1 C.2.1 C.2.2.1 C.2.2.2.1 C.2.2.2.2.1 C.2.2.2.2.2.1 C.2.2.2.2.2.2 o := by
      intro o ho
      unfold R_Pars_readTerm
      rw [hcl]
      exact ⟨v, e1, fun _ => ⟨v9, ad (3 * d + 1), (hSh d hd).2.1, hLP _ (by omega), v9, ad (3 * d + 2), (hSh d hd).2.2, hLP _ (by omega), pf', k1, by rw [e3]; exact ho⟩, fun z => absurd (e2.symm.trans z) (by decide)⟩
    rcases st_tloop hT hS hd hrc (M0 := M) (k - j) j 0 (v.2.2.1, v.2.2.2.1, v.2.2.2.2.1, v.2.2.2.2.2.1, v.2.2.2.2.2.2.1, v.2.2.2.2.2.2.2.1, pf') M1 (by omega) e5 (by omega) e6 e7 ⟨p2, k2⟩ p4 with ⟨v2, j2, M2, q1, q2, q3, q4, q5, q6, q7, q8, q9, q10, q11⟩ | ⟨v2, q1, q2, x1, ap, M2, q3⟩
    · exact Or.inl ⟨v2, j2, M2, hc v2 q1, q2, q3, by omega, q5, q6, q7, q8, q9, q10, fun out h => e9 out (q11 out h)⟩
    · exact Or.inr ⟨v2, hc v2 q1, q2, x1, ap, M2, fun out h => e9 out (q3 out h)⟩
  · exact Or.inr ⟨(0, v.2), ⟨v, e1, fun z => absurd e2 z, fun _ => rfl⟩, rfl, e3⟩
def EQ9 (rc : RCX) (LP : List Nat) (ae at_ af : Nat → Option Nat) (k : Nat) (tx : Nat → Int32) (E : EV) (ad : Nat → Nat) (d : Nat) (M0 : MS) (i x : Nat) (C : CS) (M : MS) : Prop :=
  (∃ (v : RO) (j : Nat) (M' : MS), (∃ m, g_Pars_readExpression rc LP (nI d) (nI k) tx ae at_ af m 1 (nI x) (nI i) C.1 C.2.1 C.2.2.1 C.2.2.2.1 C.2.2.2.2.1 C.2.2.2.2.2.1 C.2.2.2.2.2.2 v) ∧ v.1 = 1 ∧ v.2.1 = nI j ∧ i ≤ j ∧ j ≤ k ∧ (j < k → ¬ tx j = 32) ∧ sfx (mch k tx j) = 0 ∧ bgn (mch k tx j) = 0 ∧ (¬ mch k tx j = 124) ∧ PendE ad d v.2.2 M' ∧ (∀ w, w < 3 * d → M'.2.1 w = M0.2.1 w) ∧ ToS E d i M j M')
  ∨ ∃ v : RO, (∃ m, g_Pars_readExpression rc LP (nI d) (nI k) tx ae at_ af m 1 (nI x) (nI i) C.1 C.2.1 C.2.2.1 C.2.2.2.1 C.2.2.2.2.1 C.2.2.2.2.2.1 C.2.2.2.2.2.2 v) ∧ Fl E d i M v
theorem st_eloop {rc : RCX} {LP : List Nat} {ad : Nat → Nat} {ae at_ af : Nat → Option Nat} {k : Nat} {tx : Nat → Int32} {E : EV} (hT : TxE k tx E) (hS : Shp LP ad ae at_ af) {d : Nat} (hd : d < 9) (hrc : d < 8 → ExpOK rc k tx E ad (d + 1)) {M0 : MS} : ∀ (n i x : Nat) (C : CS) (M : MS), k - i ≤ n → i ≤ k → x < i → (i < k → ¬ tx i = 32) → sfx (mch k tx i) = 0 → bgn (mch k tx i) = 0 → PendE ad d C M → (∀ w, w < 3 * d → M.2.1 w = M0.2.1 w) → EQ9 rc LP ae at_ af k tx E ad d M0 i x C M := by
  have hk := hT.1
  have hA := hS.1
  have hLP := hS.2.1
  have hSh := hS.2.2
  have body : ∀ (i x : Nat) (C : CS) (M : MS), i ≤ k → x < i → (i < k → ¬ tx i = 32) → sfx (mch k tx i) = 0 → bgn (mch k tx i) = 0 → PendE ad d C M → (∀ w, w < 3 * d → M.2.1 w = M0.2.1 w) → (∀ (i' x' : Nat) (C' : CS) (M' : MS), i < i' → i' ≤ k → x' < i' → (i' < k → ¬ tx i' = 32) → sfx (mch k tx i') = 0 → bgn (mch k tx i') = 0 → PendE ad d C' M' → (∀ w, w < 3 * d → M'.2.1 w = M0.2.1 w) → EQ9 rc LP ae at_ af k tx E ad d M0 i' x' C' M') → EQ9 rc LP ae at_ af k tx E ad d M0 i x C M := by
    intro i x C M hi hx hn hs hb hp hf ih
    have hsk := Sk_self hi hn
    have hx80 : ¬ 80 ≤ nI x := nI_ge (a := x) (b := 80) (by omega) (by omega)
    have hcl : (nI d).toNatClampNeg = d := nI_clamp (by omega)
    have v9 : vp_in (nI d) 9 := vp_in_nI (by omega) (by decide)
    by_cases hbar : mch k tx i = 124
    · have hik : i < k := by
        by_cases z : i < k
        · exact z
        · rw [(cm_out z).2] at hbar; exact absurd hbar (by decide)
      have cbar : cch k tx i = 124 := by rw [(cm_in hik).1, ← (cm_in (tx := tx) hik).2]; exact hbar
      obtain ⟨f1, f2⟩ := hp
      obtain ⟨u, g1, t, g2, g3, g4, g5, g6⟩ := f2 E.1 (-2) E.2.1 (nI i) M.1 0 E.2.2.1 E.2.2.2.1 E.2.2.2.2.1 E.2.2.2.2.2.1 E.2.2.2.2.2.2.1 E.2.2.2.2.2.2.2.1
      have step : ∀ out, GQ E 2 (nI d) 1 0 0 0 (-2) (nI (i + 1)) 0 (MC M u t) out → GQ E 2 (nI d) 1 0 0 0 (-2) (nI i) 0 M out := by
        intro out h
        refine m_go hT hsk (m_38 hT hd hi (Or.inl hbar) f1 ?_)
        rw [hbar]
        exact m_8 hd g1 g2 (m_9bar (by decide) h)
      rcases st_term hT hS hd hrc (show i + 1 ≤ k by omega) g3 g5 with ⟨v, j, M1, e1, e2, e3, e4, e5, e6, e7, e8, e9, e10, e11⟩ | ⟨v, e1, e2, x1, ap, M2, e3⟩
      · obtain ⟨pf', k1, k2⟩ := pendE_either hd hA e9 (fun z => g4 ((e10 _ (by omega)).symm.trans z))
        have hq := ih j (x + 1) (v.2.2.1, v.2.2.2.1, v.2.2.2.2.1, v.2.2.2.2.2.1, v.2.2.2.2.2.2.1, v.2.2.2.2.2.2.2.1, pf') M1 (by omega) e5 (by omega) e6 e7 e8 k2 (fun w hw => (e10 w (by omega)).trans ((g6 w hw).trans (hf w hw)))
        have hc : ∀ o : RO, (∃ m, g_Pars_readExpression rc LP (nI d) (nI k) tx ae at_ af m 1 (nI (x + 1)) (nI j) v.2.2.1 v.2.2.2.1 v.2.2.2.2.1 v.2.2.2.2.2.1 v.2.2.2.2.2.2.1 v.2.2.2.2.2.2.2.1 pf' o) → ∃ m, g_Pars_readExpression rc LP (nI d) (nI k) tx ae at_ af m 1 (nI x) (nI i) C.1 C.2.1 C.2.2.1 C.2.2.2.1 C.2.2.2.2.1 C.2.2.2.2.2.1 C.2.2.2.2.2.2 o := by
          intro o ⟨m, ho⟩
          refine ⟨m + 1, ?_⟩
          rw [g_Pars_readExpression_1, hcl, nI_1 x]
          refine ⟨fun z => absurd z hx80, fun _ => ⟨(cch k tx i, nI i), P_next hT hsk, fun z => absurd cbar z, fun _ => ⟨v, by rw [nI_1]; exact e1, fun _ => ⟨v9, ad (3 * d), (hSh d hd).1, hLP _ (by omega), v9, ad (3 * d + 1), (hSh d hd).2.1, hLP _ (by omega), pf', k1, by rw [e3]; exact ho⟩, fun z => absurd (e2.symm.trans z) (by decide)⟩⟩⟩
        rcases hq with ⟨v2, j2, M2, q1, q2, q3, q4, q5, q6, q7, q8, q9, q10, q11, q12⟩ | ⟨v2, q1, q2, x1, ap, M2, q3⟩
        · exact Or.inl ⟨v2, j2, M2, hc v2 q1, q2, q3, by omega, q5, q6, q7, q8, q9, q10, q11, fun out h => step out (e11 out (q12 out h))⟩
        · exact Or.inr ⟨v2, hc v2 q1, q2, x1, ap, M2, fun out h => step out (e11 out (q3 out h))⟩
      · refine Or.inr ⟨(0, v.2), ⟨1, ?_⟩, rfl, x1, ap, M2, fun out h => step out (e3 out h)⟩
        rw [g_Pars_readExpression_1]
        exact ⟨fun z => absurd z hx80, fun _ => ⟨(cch k tx i, nI i), P_next hT hsk, fun z => absurd cbar z, fun _ => ⟨v, by rw [nI_1]; exact e1, fun z => absurd e2 z, fun _ => rfl⟩⟩⟩
    · have nbar : ¬ cch k tx i = 124 := by
        by_cases z : i < k
        · rw [(cm_in z).1, ← (cm_in (tx := tx) z).2]; exact hbar
        · rw [(cm_out z).1]; decide
      refine Or.inl ⟨(1, nI i, C), i, M, ⟨1, ?_⟩, rfl, rfl, Nat.le_refl _, hi, hn, hs, hb, hbar, hp, hf, fun out h => h⟩
      rw [g_Pars_readExpression_1]
      exact ⟨fun z => absurd z hx80, fun _ => ⟨_, P_next hT hsk, fun _ => rfl, fun z => absurd z nbar⟩⟩
  intro n
  induction n with
  | zero => intro i x C M h0 h1 h2 h3 h4 h5 h6 h7; exact body i x C M h1 h2 h3 h4 h5 h6 h7 (fun i' x' C' M' q1 q2 => by omega)
  | succ n ih => intro i x C M h0 h1 h2 h3 h4 h5 h6 h7; exact body i x C M h1 h2 h3 h4 h5 h6 h7 (fun i' x' C' M' q1 q2 q3 q4 q5 q6 q7 q8 => ih i' x' C' M' (by omega) q2 q3 q4 q5 q6 q7 q8)
theorem st_expr {LP : List Nat} {ad : Nat → Nat} {ae at_ af : Nat → Option Nat} {k : Nat} {tx : Nat → Int32} {E : EV} (hT : TxE k tx E) (hS : Shp LP ad ae at_ af) : ∀ (m d : Nat), d + m = 9 → 0 < m → ExpOK (R_readExpr LP (nI k) tx ae at_ af m) k tx E ad d := by
  have hk := hT.1
  have hA := hS.1
  have hLP := hS.2.1
  have hSh := hS.2.2
  intro m
  induction m with
  | zero => intro d _ h; exact absurd h (by omega)
  | succ m ih =>
    intro d hdm _ i C M hi hI hD
    have hd : d < 9 := by omega
    have hrc : d < 8 → ExpOK (R_readExpr LP (nI k) tx ae at_ af m) k tx E ad (d + 1) := fun h => ih (d + 1) (by omega) (by omega)
    have hcl : (nI d).toNatClampNeg = d := nI_clamp (by omega)
    have v9 : vp_in (nI d) 9 := vp_in_nI (by omega) (by decide)
    have n8 : ¬ 8 < nI d := nI_nlt (a := 8) (b := d) (by omega) (by omega)
    rcases st_term hT hS hd hrc hi hI (fun w hw hw2 => hD w (by omega) hw2) with ⟨v, j, M1, e1, e2, e3, e4, e5, e6, e7, e8, e9, e10, e11⟩ | ⟨v, e1, e2, e3⟩
    · obtain ⟨pf', k1, k2⟩ := pendE_become hd hA e9 ((e10 _ (by omega)).trans (hD _ (Nat.le_refl _) (by omega)))
      have hc : ∀ o : RO, (∃ n, g_Pars_readExpression (R_readExpr LP (nI k) tx ae at_ af m) LP (nI d) (nI k) tx ae at_ af n 1 (nI 0) (nI j) v.2.2.1 v.2.2.2.1 v.2.2.2.2.1 v.2.2.2.2.2.1 v.2.2.2.2.2.2.1 v.2.2.2.2.2.2.2.1 pf' o) → R_readExpr LP (nI k) tx ae at_ af (m + 1) (nI d) (nI i) C.1 C.2.1 C.2.2.1 C.2.2.2.1 C.2.2.2.2.1 C.2.2.2.2.2.1 C.2.2.2.2.2.2 o := by
        intro o ho
        show R_Pars_readExpression (R_readExpr LP (nI k) tx ae at_ af m) LP (nI d) (nI k) tx ae at_ af (nI i) C.1 C.2.1 C.2.2.1 C.2.2.2.1 C.2.2.2.2.1 C.2.2.2.2.2.1 C.2.2.2.2.2.2 o
        unfold R_Pars_readExpression
        rw [hcl]
        exact ⟨fun z => absurd z n8, fun _ => ⟨v, e1, fun _ => ⟨v9, ad (3 * d), (hSh d hd).1, hLP _ (by omega), v9, ad (3 * d + 1), (hSh d hd).2.1, hLP _ (by omega), pf', k1, by rw [e3]; exact ho⟩, fun z => absurd (e2.symm.trans z) (by decide)⟩⟩
      rcases st_eloop hT hS hd hrc (M0 := M) (k - j) j 0 (v.2.2.1, v.2.2.2.1, v.2.2.2.2.1, v.2.2.2.2.2.1, v.2.2.2.2.2.2.1, v.2.2.2.2.2.2.2.1, pf') M1 (by omega) e5 (by omega) e6 e7 e8 k2 (fun w hw => e10 w (by omega)) with ⟨v2, j2, M2, q1, q2, q3, q4, q5, q6, q7, q8, q9, q10, q11, q12⟩ | ⟨v2, q1, q2, x1, ap, M2, q3⟩
      · exact Or.inl ⟨v2, j2, M2, hc v2 q1, q2, q3, by omega, q5, q6, q7, q8, q9, q10, q11, fun out h => e11 out (q12 out h)⟩
      · exact Or.inr ⟨v2, hc v2 q1, q2, x1, ap, M2, fun out h => e11 out (q3 out h)⟩
    · exact Or.inr ⟨(0, v.2), ⟨fun z => absurd z n8, fun _ => ⟨v, e1, fun z => absurd e2 z, fun _ => rfl⟩⟩, rfl, e3⟩
