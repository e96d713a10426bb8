/-! ===== the whole parse ===== -/
theorem m_clear {E : EV} {M : MS} : ∀ (c x : Nat) (is : F1), x + c = 30 → (∀ w, w < x → is w = 0) → ∃ is' : F1, (∀ w, w < 30 → is' w = 0) ∧ ∀ out : OP, GQ E 2 0 1 0 0 0 (-2) 0 0 (M.1, is', M.2.2.1, M.2.2.2.1, M.2.2.2.2.1, M.2.2.2.2.2.1, M.2.2.2.2.2.2.1, M.2.2.2.2.2.2.2.1, M.2.2.2.2.2.2.2.2.1, M.2.2.2.2.2.2.2.2.2.1, M.2.2.2.2.2.2.2.2.2.2.1, M.2.2.2.2.2.2.2.2.2.2.2) out → GQ E 1 0 (nI x) 0 0 0 (-2) 0 0 (M.1, is, M.2.2.1, M.2.2.2.1, M.2.2.2.2.1, M.2.2.2.2.2.1, M.2.2.2.2.2.2.1, M.2.2.2.2.2.2.2.1, M.2.2.2.2.2.2.2.2.1, M.2.2.2.2.2.2.2.2.2.1, M.2.2.2.2.2.2.2.2.2.2.1, M.2.2.2.2.2.2.2.2.2.2.2) out := by
  intro c
  induction c with
  | zero =>
    intro x is hx h0
    have e : x = 30 := by omega
    subst e
    refine ⟨is, h0, fun out ⟨n, h⟩ => ⟨n + 1, ?_⟩⟩
    rw [g_M_parse_1]
    exact ⟨fun _ => h, fun z => absurd (nI_le (a := 30) (b := 30) (by omega) (by omega)) z⟩
  | succ c ih =>
    intro x is hx h0
    obtain ⟨is', h1, h2⟩ := ih (x + 1) (upd is x 0) (by omega) (fun w hw => by
      rw [upd_at]; split
      · rfl
      · exact h0 w (by omega))
    refine ⟨is', h1, fun out h => ?_⟩
    obtain ⟨n, h⟩ := h2 out h
    refine ⟨n + 1, ?_⟩
    rw [g_M_parse_1, nI_1, nI_clamp (show x < 2 ^ 31 by omega), nar0]
    exact ⟨fun z => absurd z (nI_ge (b := 30) (by omega) (by omega)), fun _ => ⟨vin30 (by omega), h⟩⟩
theorem m_badend {E : EV} {x1 wh ap : Int32} {M : MS} : GQ E 2 x1 1 0 0 0 wh ap 1 M (wh, ap, M.1, 1, M.2.1, M.2.2.1, M.2.2.2.1, M.2.2.2.2.1, M.2.2.2.2.2.1, M.2.2.2.2.2.2.1, M.2.2.2.2.2.2.2.1, M.2.2.2.2.2.2.2.2.1, M.2.2.2.2.2.2.2.2.2.1, M.2.2.2.2.2.2.2.2.2.2.1, M.2.2.2.2.2.2.2.2.2.2.2) := by
  refine ⟨1, ?_⟩
  rw [g_M_parse_2]
  exact ⟨fun z => absurd z (by decide), fun _ => ⟨fun _ => rfl, fun z => absurd z (by decide)⟩⟩
theorem parse_ok {LP : List Nat} {ad : Nat → Nat} {ae at_ af : Nat → Option Nat} {k : Nat} {tx : Nat → Int32} {E : EV} (hT : TxE k tx E) (hS : Shp LP ad ae at_ af) (tw r0 : Nat) (len ap : Int32) (C : CS) (wh0 at0 bd0 : Int32) (M : MS) :
    (∃ (j ap' : Int32) (C' : CS) (M' : MS), R_Pars_parse LP (nI k) tw tx ae at_ af r0 len ap C.1 C.2.1 C.2.2.1 C.2.2.2.1 C.2.2.2.2.1 C.2.2.2.2.2.1 C.2.2.2.2.2.2 (1, tw, nI k, j, C') ∧ R_M_parse E.1 E.2.1 E.2.2.1 E.2.2.2.1 E.2.2.2.2.1 E.2.2.2.2.2.1 E.2.2.2.2.2.2.1 E.2.2.2.2.2.2.2.1 E.2.2.2.2.2.2.2.2 wh0 at0 M.1 bd0 M.2.1 M.2.2.1 M.2.2.2.1 M.2.2.2.2.1 M.2.2.2.2.2.1 M.2.2.2.2.2.2.1 M.2.2.2.2.2.2.2.1 M.2.2.2.2.2.2.2.2.1 M.2.2.2.2.2.2.2.2.2.1 M.2.2.2.2.2.2.2.2.2.2.1 M.2.2.2.2.2.2.2.2.2.2.2 (-2, ap', M'.1, 0, M'.2.1, M'.2.2.1, M'.2.2.2.1, M'.2.2.2.2.1, M'.2.2.2.2.2.1, M'.2.2.2.2.2.2.1, M'.2.2.2.2.2.2.2.1, M'.2.2.2.2.2.2.2.2.1, M'.2.2.2.2.2.2.2.2.2.1, M'.2.2.2.2.2.2.2.2.2.2.1, M'.2.2.2.2.2.2.2.2.2.2.2) ∧ InvT ad C' M' ∧ ¬ M'.2.1 0 = 0)
    ∨ ∃ (p ap' : Int32) (C' : CS) (M' : MS), R_Pars_parse LP (nI k) tw tx ae at_ af r0 len ap C.1 C.2.1 C.2.2.1 C.2.2.2.1 C.2.2.2.2.1 C.2.2.2.2.2.1 C.2.2.2.2.2.2 (0, tw, nI k, p, C') ∧ R_M_parse E.1 E.2.1 E.2.2.1 E.2.2.2.1 E.2.2.2.2.1 E.2.2.2.2.2.1 E.2.2.2.2.2.2.1 E.2.2.2.2.2.2.2.1 E.2.2.2.2.2.2.2.2 wh0 at0 M.1 bd0 M.2.1 M.2.2.1 M.2.2.2.1 M.2.2.2.2.1 M.2.2.2.2.2.1 M.2.2.2.2.2.2.1 M.2.2.2.2.2.2.2.1 M.2.2.2.2.2.2.2.2.1 M.2.2.2.2.2.2.2.2.2.1 M.2.2.2.2.2.2.2.2.2.2.1 M.2.2.2.2.2.2.2.2.2.2.2 (p, ap', M'.1, 1, M'.2.1, M'.2.2.1, M'.2.2.2.1, M'.2.2.2.2.1, M'.2.2.2.2.2.1, M'.2.2.2.2.2.2.1, M'.2.2.2.2.2.2.2.1, M'.2.2.2.2.2.2.2.2.1, M'.2.2.2.2.2.2.2.2.2.1, M'.2.2.2.2.2.2.2.2.2.2.1, M'.2.2.2.2.2.2.2.2.2.2.2) := by
  have hk := hT.1
  have hlen : (if 80 < nI k then 80 else nI k) = nI k := if_neg (nI_nlt (a := 80) (b := k) (by omega) (by omega))
  obtain ⟨wl', h1, h2⟩ : ∃ wl', R_Arrays_fill 0 4 C.2.1 wl' ∧ ∀ l, l < 4 → wl' l = 0 := ⟨_, R_Arrays_fill_ok (by decide), fun l hl => by simp [fillS, hl]⟩
  obtain ⟨is', h3, h4⟩ := m_clear (E := E) (M := (0, M.2.1, M.2.2.1, M.2.2.2.1, M.2.2.2.2.1, M.2.2.2.2.2.1, M.2.2.2.2.2.2.1, M.2.2.2.2.2.2.2.1, M.2.2.2.2.2.2.2.2.1, M.2.2.2.2.2.2.2.2.2.1, M.2.2.2.2.2.2.2.2.2.2.1, M.2.2.2.2.2.2.2.2.2.2.2)) 30 0 M.2.1 (by omega) (fun w hw => by omega)
  have hI : InvT ad (0, wl', C.2.2.1, C.2.2.2.1, C.2.2.2.2.1, C.2.2.2.2.2.1, C.2.2.2.2.2.2) (0, is', M.2.2.1, M.2.2.2.1, M.2.2.2.2.1, M.2.2.2.2.2.1, M.2.2.2.2.2.2.1, M.2.2.2.2.2.2.2.1, M.2.2.2.2.2.2.2.2.1, M.2.2.2.2.2.2.2.2.2.1, M.2.2.2.2.2.2.2.2.2.2.1, M.2.2.2.2.2.2.2.2.2.2.2) := by
    refine ⟨0, nI_0.symm, nI_0.symm, by omega, ⟨fun x y hx => by omega, fun x i hx => by omega, fun x y hx => by omega, fun x y hx => by omega, fun l p _ hp => by omega, fun l p hl _ => ?_⟩, fun w hw hl => absurd (h3 w (by omega)) hl, fun v w hv hw hl => absurd (h3 v (by omega)) hl⟩
    show bt (wl' l) p = false
    rw [h2 l hl, b_0]
  have start : ∀ out : OP, GQ E 2 (nI 0) 1 0 0 0 (-2) (nI 0) 0 (0, is', M.2.2.1, M.2.2.2.1, M.2.2.2.2.1, M.2.2.2.2.2.1, M.2.2.2.2.2.2.1, M.2.2.2.2.2.2.2.1, M.2.2.2.2.2.2.2.2.1, M.2.2.2.2.2.2.2.2.2.1, M.2.2.2.2.2.2.2.2.2.2.1, M.2.2.2.2.2.2.2.2.2.2.2) out → R_M_parse E.1 E.2.1 E.2.2.1 E.2.2.2.1 E.2.2.2.2.1 E.2.2.2.2.2.1 E.2.2.2.2.2.2.1 E.2.2.2.2.2.2.2.1 E.2.2.2.2.2.2.2.2 wh0 at0 M.1 bd0 M.2.1 M.2.2.1 M.2.2.2.1 M.2.2.2.2.1 M.2.2.2.2.2.1 M.2.2.2.2.2.2.1 M.2.2.2.2.2.2.2.1 M.2.2.2.2.2.2.2.2.1 M.2.2.2.2.2.2.2.2.2.1 M.2.2.2.2.2.2.2.2.2.2.1 M.2.2.2.2.2.2.2.2.2.2.2 out := by
    intro out h
    rw [nI_0] at h
    have h9 := h4 out h
    rw [nI_0] at h9
    exact h9
  have cls : ∀ (v : RO) (o : Int32 × Nat × Int32 × Int32 × CS), R_readExpr LP (nI k) tx ae at_ af 9 (nI 0) (nI 0) 0 wl' C.2.2.1 C.2.2.2.1 C.2.2.2.2.1 C.2.2.2.2.2.1 C.2.2.2.2.2.2 v → ((v.1 = 0 → o = (0, tw, nI k, v.2)) ∧ (¬ v.1 = 0 → ∃ v5, R_Pars_next (nI k) tx v.2.1 v5 ∧ (¬ v5.1 = 0 → o = (0, tw, nI k, v5.2, v.2.2)) ∧ (v5.1 = 0 → o = (1, tw, nI k, v5.2, v.2.2)))) → R_Pars_parse LP (nI k) tw tx ae at_ af r0 len ap C.1 C.2.1 C.2.2.1 C.2.2.2.1 C.2.2.2.2.1 C.2.2.2.2.2.1 C.2.2.2.2.2.2 o := by
    intro v o hv ho
    unfold R_Pars_parse
    rw [hlen]
    rw [nI_0] at hv
    exact ⟨(0, wl'), ⟨wl', h1, rfl⟩, v, hv, ho⟩
  rcases st_expr hT hS 9 0 (by omega) (by omega) 0 _ _ (by omega) hI (fun w _ hw => h3 w (by omega)) with ⟨v, j, M1, e1, e2, e3, e4, e5, e6, e7, e8, e9, p1, p2, p3⟩ | ⟨v, e1, e2, x1, ap1, M1, e3⟩
  · have hsk := Sk_self e5 e6
    have hnx := P_next hT hsk
    by_cases hj : j < k
    · have hc : chr (tx j) := (hT.2.2 j hj).2
      have hc0 : ¬ cch k tx j = 0 := by
        rw [(cm_in hj).1]
        obtain ⟨c, c1, c2, c3⟩ := hc
        rw [c3]; exact nI_ne0 (by omega) (by omega)
      have hm0 : 0 ≤ mch k tx j := by
        rw [(cm_in hj).2]
        obtain ⟨c, c1, c2, c3⟩ := hc
        rw [c3]; exact nI_pos' (by omega)
      refine Or.inr ⟨nI j, nI j, v.2.2, M1, cls v _ e1 ⟨fun z => absurd (e2.symm.trans z) (by decide), fun _ => ⟨(cch k tx j, nI j), by rw [e3]; exact hnx, fun _ => rfl, fun z => absurd z hc0⟩⟩, start _ (p3 _ (m_go hT hsk (m_37 hT (by omega) e5 (mch_ne32 e6) e8 e7 e9 (fun _ => rfl) p1.1 (m_7bad (by omega) (Or.inl hm0) m_badend))))⟩
    · obtain ⟨f1, f2⟩ := p1
      obtain ⟨u, g1, t, g2, g3, g4, g5, g6⟩ := f2 E.1 (-2) E.2.1 (nI j) M1.1 0 E.2.2.1 E.2.2.2.1 E.2.2.2.2.1 E.2.2.2.2.2.1 E.2.2.2.2.2.2.1 E.2.2.2.2.2.2.2.1
      have hm : mch k tx j = -1 := (cm_out hj).2
      refine Or.inl ⟨nI j, nI (j + 1), v.2.2, MC M1 u t, cls v _ e1 ⟨fun z => absurd (e2.symm.trans z) (by decide), fun _ => ⟨(cch k tx j, nI j), by rw [e3]; exact hnx, fun z => absurd (cm_out hj).1 z, fun _ => rfl⟩⟩, start _ (p3 _ (m_go hT hsk (m_37 hT (by omega) e5 (mch_ne32 e6) e8 e7 e9 (fun _ => rfl) f1 ?_))), g3, g4⟩
      have c2 : GQ E 2 (nI 0) 0 0 0 0 (-2) (nI (j + 1)) 0 (MC M1 u t) (-2, nI (j + 1), (MC M1 u t).1, 0, (MC M1 u t).2.1, (MC M1 u t).2.2.1, (MC M1 u t).2.2.2.1, (MC M1 u t).2.2.2.2.1, (MC M1 u t).2.2.2.2.2.1, (MC M1 u t).2.2.2.2.2.2.1, (MC M1 u t).2.2.2.2.2.2.2.1, (MC M1 u t).2.2.2.2.2.2.2.2.1, (MC M1 u t).2.2.2.2.2.2.2.2.2.1, (MC M1 u t).2.2.2.2.2.2.2.2.2.2.1, (MC M1 u t).2.2.2.2.2.2.2.2.2.2.2) := by
        refine ⟨1, ?_⟩
        rw [g_M_parse_2]
        exact ⟨fun _ => rfl, fun z => absurd rfl z⟩
      have c8 := m_8 (E := E) (d := 0) (c := -1) (wh := -2) (j := j) (M := M1) (u := u) (t := t) (by omega) g1 g2 (by
        rw [if_pos (by decide)]
        exact m_9bar (by decide) c2)
      obtain ⟨n, c8⟩ := c8
      rw [hm]
      refine ⟨n + 1, ?_⟩
      rw [g_M_parse_7]
      exact ⟨fun z => absurd z (by decide), fun _ => ⟨fun z => absurd nI_0 z, fun _ => c8⟩⟩
  · exact Or.inr ⟨v.2.1, ap1, v.2.2, M1, cls v _ e1 ⟨fun _ => rfl, fun z => absurd e2 z⟩, start _ (e3 _ m_badend)⟩
