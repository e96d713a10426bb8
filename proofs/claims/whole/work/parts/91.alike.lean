/-! ===== alike states: what both sides reach ===== -/
def tc (r : Nat → Nat) (w : Int32) : Int32 := if w = -1 then -1 else nI (r w.toNatClampNeg)
def stpE (wy wa : F1) (r : Nat → Nat) (x y : Nat) : Prop := ∀ l, l < 4 → wa (x * 4 + l) = wa (y * 4 + l) ∧ tc r (wy (x * 4 + l)) = tc r (wy (y * 4 + l))
def feE (fi ea : F1) (x y : Nat) : Prop := fi x = fi y ∧ ea x = ea y
def like (wy wa fi ea : F1) (r : Nat → Nat) (x y : Nat) : Prop := r x = r y ∧ feE fi ea x y ∧ stpE wy wa r x y
def EqvE (L : Nat → Nat → Prop) : Prop := (∀ x, L x x) ∧ (∀ x y, L x y → L y x) ∧ ∀ x y z, L x y → L y z → L x z
theorem feE_eqv (fi ea : F1) : EqvE (feE fi ea) := ⟨fun _ => ⟨rfl, rfl⟩, fun _ _ h => ⟨h.1.symm, h.2.symm⟩, fun _ _ _ h k => ⟨h.1.trans k.1, h.2.trans k.2⟩⟩
theorem like_eqv (wy wa fi ea : F1) (r : Nat → Nat) : EqvE (like wy wa fi ea r) := ⟨fun x => ⟨rfl, ⟨rfl, rfl⟩, fun l _ => ⟨rfl, rfl⟩⟩, fun x y h => ⟨h.1.symm, ⟨h.2.1.1.symm, h.2.1.2.symm⟩, fun l hl => ⟨(h.2.2 l hl).1.symm, (h.2.2 l hl).2.symm⟩⟩, fun x y z h k => ⟨h.1.trans k.1, ⟨h.2.1.1.trans k.2.1.1, h.2.1.2.trans k.2.1.2⟩, fun l hl => ⟨(h.2.2 l hl).1.trans (k.2.2 l hl).1, (h.2.2 l hl).2.trans (k.2.2 l hl).2⟩⟩⟩
def isLst (L : Nat → Nat → Prop) (x y : Nat) : Prop := y ≤ x ∧ L x y ∧ ∀ z, z < y → ¬ L x z
def RepR (N : Nat) (r : Nat → Nat) : Prop := ∀ x, x < N → r x ≤ x ∧ r (r x) = r x
theorem lst_self {L : Nat → Nat → Prop} (hL : EqvE L) {x y : Nat} (h : isLst L x y) : isLst L y y := ⟨Nat.le_refl _, hL.1 y, fun z hz k => h.2.2 z hz (hL.2.2 x y z h.2.1 k)⟩
theorem lst_eq {L : Nat → Nat → Prop} {x a b : Nat} (h : isLst L x a) (k : isLst L x b) : a = b := by
  rcases Nat.lt_trichotomy a b with q | q | q
  · exact absurd h.2.1 (k.2.2 a q)
  · exact q
  · exact absurd k.2.1 (h.2.2 b q)
theorem lst_rep {N : Nat} {L : Nat → Nat → Prop} (hL : EqvE L) {r : Nat → Nat} (h : ∀ x, x < N → isLst L x (r x)) : RepR N r ∧ ∀ x y, x < N → y < N → (r x = r y ↔ L x y) := by
  refine ⟨fun x hx => ⟨(h x hx).1, ?_⟩, fun x y hx hy => ⟨fun e => ?_, fun e => ?_⟩⟩
  · exact lst_eq (h (r x) (by have := (h x hx).1; omega)) (lst_self hL (h x hx))
  · have k := (h y hy).2.1
    rw [← e] at k
    exact hL.2.2 x (r x) y (h x hx).2.1 (hL.2.1 _ _ k)
  · have k := h y hy
    have k2 : ∀ z, L x z ↔ L y z := fun z => ⟨fun q => hL.2.2 y x z (hL.2.1 _ _ e) q, fun q => hL.2.2 x y z e q⟩
    rcases Nat.lt_trichotomy (r x) (r y) with q | q | q
    · exact absurd ((k2 _).mp (h x hx).2.1) (k.2.2 _ q)
    · exact q
    · exact absurd ((k2 _).mpr k.2.1) ((h x hx).2.2 _ q)
def Tbl (N : Nat) (wy wa : F1) : Prop := N ≤ 50 ∧ ∀ k, k < N * 4 → ((wy k = -1 ∧ wa k = 0) ∨ ∃ t, t < N ∧ wy k = nI t)
def Bis (N : Nat) (wy wa fi ea : F1) (R : Nat → Nat → Prop) : Prop := ∀ x y, R x y → x < N ∧ y < N ∧ feE fi ea x y ∧ ∀ l, l < 4 → wa (x * 4 + l) = wa (y * 4 + l) ∧ ((wy (x * 4 + l) = -1 ∧ wy (y * 4 + l) = -1) ∨ ∃ t u, t < N ∧ u < N ∧ wy (x * 4 + l) = nI t ∧ wy (y * 4 + l) = nI u ∧ R t u)
def BisB (N : Nat) (wy wa fi ea : F1) (x y : Nat) : Prop := ∃ R, Bis N wy wa fi ea R ∧ R x y
def BigR (N : Nat) (wy wa fi ea : F1) (r : Nat → Nat) : Prop := ∀ x y, BisB N wy wa fi ea x y → r x = r y
theorem m1_nI {t : Nat} (h : t < 50) : ¬ nI t = -1 := nI_m1 h
theorem tc_nI {r : Nat → Nat} {t : Nat} (h : t < 50) : tc r (nI t) = nI (r t) := by
  unfold tc
  rw [if_neg (m1_nI h), nI_clamp (by omega)]
theorem big_like {N : Nat} {wy wa fi ea : F1} {r : Nat → Nat} (hN : N ≤ 50) (h : BigR N wy wa fi ea r) {x y : Nat} (hb : BisB N wy wa fi ea x y) : like wy wa fi ea r x y := by
  obtain ⟨R, hR, hxy⟩ := id hb
  obtain ⟨_, _, k3, k4⟩ := hR x y hxy
  refine ⟨h x y hb, k3, fun l hl => ?_⟩
  obtain ⟨j1, j2⟩ := k4 l hl
  refine ⟨j1, ?_⟩
  rcases j2 with ⟨j2, j3⟩ | ⟨t, u, t1, u1, t2, u2, t3⟩
  · rw [j2, j3]
  · rw [t2, u2, tc_nI (by omega), tc_nI (by omega), h t u ⟨R, hR, t3⟩]
theorem big_next {N : Nat} {wy wa fi ea : F1} {r r' : Nat → Nat} (hN : N ≤ 50) (h : BigR N wy wa fi ea r) (h2 : ∀ x y, x < N → y < N → (r' x = r' y ↔ like wy wa fi ea r x y)) : BigR N wy wa fi ea r' := by
  intro x y hb
  obtain ⟨R, hR, hxy⟩ := id hb
  obtain ⟨k1, k2, _⟩ := hR x y hxy
  exact (h2 x y k1 k2).mpr (big_like hN h hb)
def Stab (N : Nat) (wy wa fi ea : F1) (r : Nat → Nat) : Prop := ∀ x y, x < N → y < N → r x = r y → like wy wa fi ea r x y
theorem stab_bis {N : Nat} {wy wa fi ea : F1} {r : Nat → Nat} (hT : Tbl N wy wa) (hR : RepR N r) (h : Stab N wy wa fi ea r) {x y : Nat} (hx : x < N) (hy : y < N) (he : r x = r y) : BisB N wy wa fi ea x y := by
  refine ⟨fun x y => x < N ∧ y < N ∧ r x = r y, fun x y ⟨h1, h2, h3⟩ => ⟨h1, h2, (h x y h1 h2 h3).2.1, fun l hl => ?_⟩, hx, hy, he⟩
  obtain ⟨k1, k2⟩ := (h x y h1 h2 h3).2.2 l hl
  refine ⟨k1, ?_⟩
  rcases hT.2 (x * 4 + l) (by omega) with ⟨e, _⟩ | ⟨t, t1, t2⟩
  · rcases hT.2 (y * 4 + l) (by omega) with ⟨e9, _⟩ | ⟨u, u1, u2⟩
    · exact Or.inl ⟨e, e9⟩
    · rw [e, u2, tc_nI (by have := hT.1; omega)] at k2
      exact absurd k2.symm (m1_nI (by have := hT.1; have := (hR u u1).1; omega))
  · rcases hT.2 (y * 4 + l) (by omega) with ⟨e9, _⟩ | ⟨u, u1, u2⟩
    · rw [e9, t2, tc_nI (by have := hT.1; omega)] at k2
      exact absurd k2 (m1_nI (by have := hT.1; have := (hR t t1).1; omega))
    · rw [t2, u2, tc_nI (by have := hT.1; omega), tc_nI (by have := hT.1; omega)] at k2
      exact Or.inr ⟨t, u, t1, u1, t2, u2, t1, u1, nI_eqD (by have := hT.1; have := (hR t t1).1; omega) (by have := hT.1; have := (hR u u1).1; omega) k2⟩
theorem rep_one {N : Nat} {wy wa fi ea : F1} {r r' : Nat → Nat} (hT : Tbl N wy wa) (h1 : RepR N r) (h2 : Stab N wy wa fi ea r) (h3 : BigR N wy wa fi ea r) (k1 : RepR N r') (k2 : Stab N wy wa fi ea r') (k3 : BigR N wy wa fi ea r') : ∀ x, x < N → r x = r' x := by
  have half : ∀ {a b : Nat → Nat}, RepR N a → Stab N wy wa fi ea a → RepR N b → BigR N wy wa fi ea b → ∀ x, x < N → b x ≤ a x := by
    intro a b p1 p2 p3 p4 x hx
    have q := p1 x hx
    have e := p4 (a x) x (stab_bis hT p1 p2 (by omega) hx q.2)
    rw [← e]
    exact (p3 (a x) (by omega)).1
  intro x hx
  exact Nat.le_antisymm (half k1 k2 h1 h3 x hx) (half h1 h2 k1 k3 x hx)
def cn (r : Nat → Nat) : Nat → Nat
  | 0 => 0
  | k + 1 => if r k = k then cn r k + 1 else cn r k
theorem cn_le (r : Nat → Nat) (n : Nat) : cn r n ≤ n := by
  induction n with
  | zero => exact Nat.le_refl _
  | succ n ih => unfold cn; split <;> omega
theorem cn_mono {r r' : Nat → Nat} : ∀ n, (∀ x, x < n → r x = x → r' x = x) → cn r n ≤ cn r' n ∧ ((∃ z, z < n ∧ r' z = z ∧ ¬ r z = z) → cn r n < cn r' n) := by
  intro n
  induction n with
  | zero => intro _; exact ⟨Nat.le_refl _, fun ⟨z, h, _⟩ => by omega⟩
  | succ n ih =>
    intro h
    obtain ⟨i1, i2⟩ := ih (fun x hx => h x (by omega))
    unfold cn
    by_cases e : r n = n
    · rw [if_pos e, if_pos (h n (by omega) e)]
      refine ⟨by omega, fun ⟨z, z1, z2, z3⟩ => ?_⟩
      have q : z ≠ n := fun q => z3 (q ▸ e)
      have := i2 ⟨z, by omega, z2, z3⟩
      omega
    · rw [if_neg e]
      by_cases e2 : r' n = n
      · rw [if_pos e2]; exact ⟨by omega, fun _ => by omega⟩
      · rw [if_neg e2]
        refine ⟨i1, fun ⟨z, z1, z2, z3⟩ => ?_⟩
        have q : z ≠ n := fun q => e2 (q ▸ z2)
        exact i2 ⟨z, by omega, z2, z3⟩
theorem cn_up {N : Nat} {wy wa fi ea : F1} {r r' : Nat → Nat} (h1 : RepR N r) (k1 : RepR N r') (k2 : ∀ x y, x < N → y < N → (r' x = r' y ↔ like wy wa fi ea r x y)) {x : Nat} (hx : x < N) (hne : ¬ r' x = r x) : cn r N < cn r' N := by
  refine (cn_mono N (fun z hz e => ?_)).2 ⟨r' x, ?_, (k1 x hx).2, fun e => ?_⟩
  · have q := k1 z hz
    have l := ((k2 (r' z) z (by omega) hz).mp q.2).1
    rw [e] at l
    have := (h1 (r' z) (by omega)).1
    omega
  · have := (k1 x hx).1; omega
  · have q := k1 x hx
    have l := ((k2 (r' x) x (by omega) hx).mp q.2).1
    rw [e] at l
    exact hne l
/-! ===== the class's rounds ===== -/
theorem looks_loop {N x y : Nat} {ns np ncc : Int32} {wy wa fi ea cl : F1} {r : Nat → Nat} (hT : Tbl N wy wa) (hx : x < N) (hy : y < N) (hcl : ∀ z, z < N → cl z = nI (r z)) : ∀ (c l : Nat), l + c = 4 → ((∀ j, l ≤ j → j < 4 → wa (x * 4 + j) = wa (y * 4 + j) ∧ tc r (wy (x * 4 + j)) = tc r (wy (y * 4 + j))) → ∃ n, g_Mach_looksLike (nI x) (nI y) ns np ncc wy wa fi ea cl n 1 1 (nI l) (1, ())) ∧ ((¬ ∀ j, l ≤ j → j < 4 → wa (x * 4 + j) = wa (y * 4 + j) ∧ tc r (wy (x * 4 + j)) = tc r (wy (y * 4 + j))) → ∃ n, g_Mach_looksLike (nI x) (nI y) ns np ncc wy wa fi ea cl n 1 1 (nI l) (0, ())) := by
  have h50 := hT.1
  have off : ∀ l, ∃ n, g_Mach_looksLike (nI x) (nI y) ns np ncc wy wa fi ea cl n 1 0 l (0, ()) := by
    intro l
    refine ⟨1, ?_⟩
    rw [g_Mach_looksLike_1]
    exact ⟨fun _ => ⟨zb_v (Or.inl rfl), rfl⟩, fun _ => ⟨fun _ => ⟨zb_v (Or.inl rfl), rfl⟩, fun z => absurd rfl z⟩⟩
  have beh : ∀ (s l : Nat), s < N → l < 4 → R_Mach_classBehind (nI s) (nI l) ns np ncc wy cl (tc r (wy (s * 4 + l)), ()) := by
    intro s l hs hl
    refine ⟨(wy (s * 4 + l), ()), ⟨?_, ?_⟩, fun z => ?_, fun z => ?_⟩
    · rw [ix1]; exact vp_in_nI (by omega) (by decide)
    · rw [ix1, nI_clamp (by omega)]
    · rcases hT.2 (s * 4 + l) (by omega) with ⟨e, _⟩ | ⟨t, t1, t2⟩
      · exact absurd e z
      · rw [t2]
        refine ⟨vp_in_nI (by omega) (by decide), ?_⟩
        rw [tc_nI (by omega)]
        show _ = (cl (nI t).toNatClampNeg, ())
        rw [nI_clamp (by omega), hcl t t1]
    · have z9 : wy (s * 4 + l) = -1 := z
      unfold tc; rw [if_pos z9]
  have awy : ∀ (s l : Nat), s < N → l < 4 → R_Mach_actionsOnWay (nI s) (nI l) ns np ncc wa (wa (s * 4 + l), ()) := by
    intro s l hs hl
    refine ⟨?_, ?_⟩
    · rw [ix1]; exact vp_in_nI (by omega) (by decide)
    · rw [ix1, nI_clamp (by omega)]
  intro c
  induction c with
  | zero =>
    intro l hl
    refine ⟨fun _ => ⟨1, ?_⟩, fun h => absurd (fun j h1 h2 => by omega) h⟩
    rw [g_Mach_looksLike_1]
    exact ⟨fun _ => ⟨zb_v (Or.inr rfl), rfl⟩, fun z => absurd (nI_le (a := 4) (by omega) (by omega)) z⟩
  | succ c ih =>
    intro l hl
    obtain ⟨i1, i2⟩ := ih (l + 1) (by omega)
    have n4 : ¬ 4 ≤ nI l := nI_ge (a := l) (b := 4) (by omega) (by omega)
    by_cases e : wa (x * 4 + l) = wa (y * 4 + l) ∧ tc r (wy (x * 4 + l)) = tc r (wy (y * 4 + l))
    · have go : ∀ out, (∃ n, g_Mach_looksLike (nI x) (nI y) ns np ncc wy wa fi ea cl n 1 1 (nI (l + 1)) out) → ∃ n, g_Mach_looksLike (nI x) (nI y) ns np ncc wy wa fi ea cl n 1 1 (nI l) out := by
        intro out ⟨n, h⟩
        refine ⟨n + 1, ?_⟩
        rw [g_Mach_looksLike_1, nI_1]
        exact ⟨fun z => absurd z n4, fun _ => ⟨fun z => absurd z (by decide), fun _ => ⟨_, awy x l hx (by omega), _, awy y l hy (by omega), fun z => absurd e.1 z, fun _ => ⟨_, beh x l hx (by omega), _, beh y l hy (by omega), fun z => absurd e.2 z, fun _ => h⟩⟩⟩⟩
      refine ⟨fun h => go _ (i1 (fun j h1 h2 => h j (by omega) h2)), fun h => go _ (i2 (fun h9 => h (fun j h1 h2 => ?_)))⟩
      rcases Nat.eq_or_lt_of_le h1 with q | q
      · rw [← q]; exact e
      · exact h9 j q h2
    · refine ⟨fun h => absurd (h l (Nat.le_refl _) (by omega)) e, fun _ => ?_⟩
      obtain ⟨n, h⟩ := off (nI (l + 1))
      refine ⟨n + 1, ?_⟩
      rw [g_Mach_looksLike_1, nI_1]
      exact ⟨fun z => absurd z n4, fun _ => ⟨fun z => absurd z (by decide), fun _ => ⟨_, awy x l hx (by omega), _, awy y l hy (by omega), fun _ => h, fun z1 => ⟨_, beh x l hx (by omega), _, beh y l hy (by omega), fun _ => h, fun z2 => absurd ⟨z1, z2⟩ e⟩⟩⟩⟩
theorem looks_ok {N x y : Nat} {ns np ncc : Int32} {wy wa fi ea cl : F1} {r : Nat → Nat} (hT : Tbl N wy wa) (hR : RepR N r) (hx : x < N) (hy : y < N) (hcl : ∀ z, z < N → cl z = nI (r z)) : (like wy wa fi ea r x y → R_Mach_looksLike (nI x) (nI y) ns np ncc wy wa fi ea cl (1, ())) ∧ ((¬ like wy wa fi ea r x y) → R_Mach_looksLike (nI x) (nI y) ns np ncc wy wa fi ea cl (0, ())) := by
  have h50 := hT.1
  obtain ⟨i1, i2⟩ := looks_loop (ns := ns) (np := np) (ncc := ncc) (fi := fi) (ea := ea) hT hx hy hcl 4 0 (by omega)
  rw [nI_0] at i1 i2
  have off : ∃ n, g_Mach_looksLike (nI x) (nI y) ns np ncc wy wa fi ea cl n 1 0 0 (0, ()) := by
    refine ⟨1, ?_⟩
    rw [g_Mach_looksLike_1]
    exact ⟨fun _ => ⟨zb_v (Or.inl rfl), rfl⟩, fun _ => ⟨fun _ => ⟨zb_v (Or.inl rfl), rfl⟩, fun z => absurd rfl z⟩⟩
  have vx : vp_in (nI x) 50 := vp_in_nI (by omega) (by decide)
  have vy : vp_in (nI y) 50 := vp_in_nI (by omega) (by decide)
  have ec : cl x = cl y ↔ r x = r y := by
    rw [hcl x hx, hcl y hy]
    exact ⟨fun h => nI_eqD (by have := (hR x hx).1; omega) (by have := (hR y hy).1; omega) h, fun h => by rw [h]⟩
  unfold R_Mach_looksLike
  rw [nI_clamp (show x < 2 ^ 31 by omega), nI_clamp (show y < 2 ^ 31 by omega)]
  refine ⟨fun h => ⟨vx, vy, fun z => absurd (ec.mpr h.1) z, fun _ => ⟨vx, vy, fun z => absurd h.2.1.1 z, fun _ => ⟨vx, vy, fun z => absurd h.2.1.2 z, fun _ => i1 (fun j _ hj => h.2.2 j hj)⟩⟩⟩, fun h => ⟨vx, vy, fun _ => off, fun z1 => ⟨vx, vy, fun _ => off, fun z2 => ⟨vx, vy, fun _ => off, fun z3 => i2 (fun h9 => h ⟨ec.mp z1, ⟨z2, z3⟩, fun l hl => h9 l (by omega) hl⟩)⟩⟩⟩⟩
theorem least_ok {N x : Nat} {ns np ncc : Int32} {wy wa fi ea cl fn : F1} {r r' : Nat → Nat} (hT : Tbl N wy wa) (hR : RepR N r) (hx : x < N) (hcl : ∀ z, z < N → cl z = nI (r z)) (hfn : ∀ z, z < x → fn z = nI (r' z) ∧ isLst (like wy wa fi ea r) z (r' z)) : ∀ (c y : Nat), y + c = x → (∀ z, z < y → ¬ like wy wa fi ea r x z) → ∃ m, isLst (like wy wa fi ea r) x m ∧ ∃ n, g_Mach_leastAlike (nI x) ns np ncc wy wa fi ea cl fn n 1 (nI y) (nI m, ()) := by
  have h50 := hT.1
  intro c
  induction c with
  | zero =>
    intro y hy hz
    have e : y = x := by omega
    subst e
    refine ⟨y, ⟨Nat.le_refl _, (like_eqv wy wa fi ea r).1 y, hz⟩, 1, ?_⟩
    rw [g_Mach_leastAlike_1]
    exact ⟨fun _ => rfl, fun z => absurd (nI_le (Nat.le_refl _) (by omega)) z⟩
  | succ c ih =>
    intro y hy hz
    have hyx : y < x := by omega
    have ngo : ¬ nI x ≤ nI y := nI_ge hyx (by omega)
    have vy : vp_in (nI y) 50 := vp_in_nI (by omega) (by decide)
    have cy := nI_clamp (show y < 2 ^ 31 by omega)
    obtain ⟨f1, f2⟩ := hfn y hyx
    have hr : r' y ≤ y := f2.1
    by_cases e : r' y = y
    · by_cases hk : like wy wa fi ea r x y
      · refine ⟨y, ⟨by omega, hk, hz⟩, 1, ?_⟩
        rw [g_Mach_leastAlike_1, cy]
        exact ⟨fun z => absurd z ngo, fun _ => ⟨vy, fun z => absurd (by rw [f1, e]) z, fun _ => ⟨_, (looks_ok hT hR hx (by omega) hcl).1 hk, fun z => absurd z (by decide), fun _ => rfl⟩⟩⟩
      · obtain ⟨m, h1, n, h2⟩ := ih (y + 1) (by omega) (fun z hz9 => by
          rcases Nat.eq_or_lt_of_le (Nat.lt_succ_iff.mp hz9) with q | q
          · rw [q]; exact hk
          · exact hz z q)
        refine ⟨m, h1, n + 1, ?_⟩
        rw [g_Mach_leastAlike_1, cy, nI_1]
        exact ⟨fun z => absurd z ngo, fun _ => ⟨vy, fun _ => h2, fun _ => ⟨_, (looks_ok hT hR hx (by omega) hcl).2 hk, fun _ => h2, fun z => absurd rfl z⟩⟩⟩
    · have hk : ¬ like wy wa fi ea r x y := fun h => hz (r' y) (by omega) ((like_eqv wy wa fi ea r).2.2 x y (r' y) h f2.2.1)
      obtain ⟨m, h1, n, h2⟩ := ih (y + 1) (by omega) (fun z hz9 => by
        rcases Nat.eq_or_lt_of_le (Nat.lt_succ_iff.mp hz9) with q | q
        · rw [q]; exact hk
        · exact hz z q)
      refine ⟨m, h1, n + 1, ?_⟩
      rw [g_Mach_leastAlike_1, cy, nI_1]
      exact ⟨fun z => absurd z ngo, fun _ => ⟨vy, fun _ => h2, fun z => absurd (nI_eqD (by omega) (by omega) (f1.symm.trans z)) e⟩⟩
theorem refine_ok {N : Nat} {np ncc : Int32} {wy wa fi ea cl : F1} {r : Nat → Nat} (hT : Tbl N wy wa) (hR : RepR N r) (hcl : ∀ z, z < N → cl z = nI (r z)) : ∀ (c x : Nat) (b : Int32) (fn : F1) (r' : Nat → Nat), x + c = N → (b = 0 ∨ b = 1) → (b = 0 ↔ ∀ z, z < x → r' z = r z) → (∀ z, z < x → fn z = nI (r' z) ∧ isLst (like wy wa fi ea r) z (r' z)) → ∃ (b' : Int32) (cl' fn' : F1) (r2 : Nat → Nat), (∃ n, g_Mach_refine (nI N) np ncc wy wa fi ea n 1 b (nI x) cl fn (b', cl', fn')) ∧ (b' = 0 ∨ b' = 1) ∧ (b' = 0 ↔ ∀ z, z < N → r2 z = r z) ∧ (∀ z, z < N → isLst (like wy wa fi ea r) z (r2 z)) ∧ ∀ z, z < N → cl' z = nI (r2 z) := by
  have h50 := hT.1
  intro c
  induction c with
  | zero =>
    intro x b fn r' hx hb hb0 hfn
    have e : x = N := by omega
    subst e
    refine ⟨b, va_cpy fn cl 0 0 x, fn, r', ⟨1, ?_⟩, hb, hb0, fun z hz => (hfn z hz).2, fun z hz => ?_⟩
    · rw [g_Mach_refine_1, nI_clamp (show x < 2 ^ 31 by omega)]
      have z9 : (0 : Int32).toNatClampNeg = 0 := by decide
      rw [z9]
      exact ⟨fun _ => ⟨⟨by decide, by decide, nI_pos (by omega), by omega, by omega⟩, zb_v hb, rfl⟩, fun z => absurd (nI_le (Nat.le_refl _) (by omega)) z⟩
    · rw [pk_cpy_in (by omega) (by omega), Nat.sub_zero, Nat.zero_add]
      exact (hfn z hz).1
  | succ c ih =>
    intro x b fn r' hx hb hb0 hfn
    have hxN : x < N := by omega
    obtain ⟨m, m1, m2⟩ := least_ok (ns := nI N) (np := np) (ncc := ncc) hT hR hxN hcl hfn x 0 (by omega) (fun z hz => by omega)
    rw [nI_0] at m2
    have cx := nI_clamp (show x < 2 ^ 31 by omega)
    have vx : vp_in (nI x) 50 := vp_in_nI (by omega) (by decide)
    have ngo : ¬ nI N ≤ nI x := nI_ge hxN (by omega)
    obtain ⟨rn, new, old9⟩ : ∃ rn : Nat → Nat, rn x = m ∧ ∀ z, z ≠ x → rn z = r' z := ⟨fun w => if w = x then m else r' w, by simp, fun z hz => by simp [hz]⟩
    have old : ∀ z, z < x → rn z = r' z := fun z hz => old9 z (by omega)
    have hfn2 : ∀ z, z < x + 1 → upd fn x (nI m) z = nI (rn z) ∧ isLst (like wy wa fi ea r) z (rn z) := by
      intro z hz
      by_cases e : z = x
      · subst e
        rw [upd_at, if_pos rfl, new]
        exact ⟨rfl, m1⟩
      · rw [upd_at, if_neg e, old9 z e]
        exact hfn z (by omega)
    by_cases eb : b = 0
    · by_cases em : m = r x
      · obtain ⟨b', cl', fn', r2, ⟨n, h1⟩, h2⟩ := ih (x + 1) 0 (upd fn x (nI m)) rn (by omega) (Or.inl rfl) ⟨fun _ z hz => by
          rcases Nat.eq_or_lt_of_le (Nat.lt_succ_iff.mp hz) with q | q
          · rw [q, new]; exact em
          · rw [old z q]; exact hb0.mp eb z q, fun _ => rfl⟩ hfn2
        refine ⟨b', cl', fn', r2, ⟨n + 1, ?_⟩, h2⟩
        rw [g_Mach_refine_1, cx, nI_1]
        exact ⟨fun z => absurd z ngo, fun _ => ⟨(nI m, ()), m2, vx, fun z => absurd eb z, fun _ => ⟨vx, vx, fun _ => h1, fun z => absurd (by show upd fn x (nI m) x = cl x; rw [upd_at, if_pos rfl, hcl x hxN, em]) z⟩⟩⟩
      · obtain ⟨b', cl', fn', r2, ⟨n, h1⟩, h2⟩ := ih (x + 1) 1 (upd fn x (nI m)) rn (by omega) (Or.inr rfl) ⟨fun z => absurd z (by decide), fun z => absurd (by have := z x (by omega); rw [new] at this; exact this) em⟩ hfn2
        refine ⟨b', cl', fn', r2, ⟨n + 1, ?_⟩, h2⟩
        rw [g_Mach_refine_1, cx, nI_1]
        refine ⟨fun z => absurd z ngo, fun _ => ⟨(nI m, ()), m2, vx, fun z => absurd eb z, fun _ => ⟨vx, vx, fun z => ?_, fun _ => h1⟩⟩⟩
        have z2 : upd fn x (nI m) x = cl x := z
        rw [upd_at, if_pos rfl, hcl x hxN] at z2
        exact absurd (nI_eqD (by have := m1.1; omega) (by have := (hR x hxN).1; omega) z2) em
    · obtain ⟨b', cl', fn', r2, ⟨n, h1⟩, h2⟩ := ih (x + 1) 1 (upd fn x (nI m)) rn (by omega) (Or.inr rfl) ⟨fun z => absurd z (by decide), fun z => absurd (hb0.mpr (fun w hw => by have := z w (by omega); rw [old w hw] at this; exact this)) eb⟩ hfn2
      refine ⟨b', cl', fn', r2, ⟨n + 1, ?_⟩, h2⟩
      rw [g_Mach_refine_1, cx, nI_1]
      exact ⟨fun z => absurd z ngo, fun _ => ⟨(nI m, ()), m2, vx, fun _ => h1, fun z => absurd z eb⟩⟩
theorem count_ok {N : Nat} {np : Int32} {wy wa fi ea cl fn : F1} (h50 : N ≤ 50) : ∀ (c x : Nat), x + c = N → ∃ n, g_Mach_findClasses (nI N) np wy wa fi ea n 2 0 (nI x) (nI (cntS cl x)) cl fn (nI (cntS cl N), cl, fn) := by
  intro c
  induction c with
  | zero =>
    intro x hx
    have e : x = N := by omega
    subst e
    refine ⟨1, ?_⟩
    rw [g_Mach_findClasses_2]
    exact ⟨fun _ => rfl, fun z => absurd (nI_le (Nat.le_refl _) (by omega)) z⟩
  | succ c ih =>
    intro x hx
    obtain ⟨n, h⟩ := ih (x + 1) (by omega)
    have e9 : cntS cl (x + 1) = if cl x = nI x then cntS cl x + 1 else cntS cl x := rfl
    refine ⟨n + 1, ?_⟩
    rw [g_Mach_findClasses_2, nI_clamp (show x < 2 ^ 31 by omega), nI_1 x]
    refine ⟨fun z => absurd z (nI_ge (by omega) (by omega)), fun _ => ⟨vp_in_nI (by omega) (by decide), fun z => ?_, fun z => ?_⟩⟩
    · rw [e9, if_neg z] at h; exact h
    · rw [e9, if_pos z] at h; rw [nI_1]; exact h
theorem findClasses_ok {N : Nat} {np ncc : Int32} {wy wa fi ea cl fn : F1} (hT : Tbl N wy wa) (h1N : 1 ≤ N) : ∃ (cl' fn' : F1) (r : Nat → Nat), R_Mach_findClasses (nI N) np wy wa fi ea ncc cl fn (nI (cntS cl' N), cl', fn') ∧ (∀ z, z < N → cl' z = nI (r z)) ∧ RepR N r ∧ Stab N wy wa fi ea r ∧ BigR N wy wa fi ea r := by
  have h50 := hT.1
  have key : ∀ (c k : Nat) (cl fn : F1) (r : Nat → Nat), k + c = 50 → k + 1 ≤ cn r N → (∀ z, z < N → cl z = nI (r z)) → RepR N r → BigR N wy wa fi ea r → ∃ (cl' fn' : F1) (r2 : Nat → Nat), (∃ n, g_Mach_findClasses (nI N) np wy wa fi ea n 1 1 (nI k) ncc cl fn (nI (cntS cl' N), cl', fn')) ∧ (∀ z, z < N → cl' z = nI (r2 z)) ∧ RepR N r2 ∧ Stab N wy wa fi ea r2 ∧ BigR N wy wa fi ea r2 := by
    intro c
    induction c with
    | zero => intro k cl fn r h1 h2; have := cn_le r N; omega
    | succ c ih =>
      intro k cl fn r hk hcn hcl hR hBig
      have nk : ¬ 50 ≤ nI k := nI_ge (a := k) (b := 50) (by omega) (by omega)
      obtain ⟨b', cl', fn', r2, e1, hb01, e2, e3, e4⟩ := refine_ok (np := np) (ncc := ncc) hT hR hcl N 0 0 fn r (by omega) (Or.inl rfl) ⟨fun _ z hz => by omega, fun _ => rfl⟩ (fun z hz => by omega)
      rw [nI_0] at e1
      obtain ⟨l1, l2⟩ := lst_rep (like_eqv wy wa fi ea r) e3
      have hBig2 := big_next h50 hBig l2
      by_cases eb : b' = 0
      · refine ⟨cl', fn', r2, ?_, e4, l1, fun x y hx hy he => ?_, hBig2⟩
        · obtain ⟨n, hc⟩ := count_ok (np := np) (wy := wy) (wa := wa) (fi := fi) (ea := ea) (cl := cl') (fn := fn') h50 N 0 (by omega)
          rw [show cntS cl' 0 = 0 from rfl, nI_0] at hc
          refine ⟨n + 1 + 1, ?_⟩
          rw [g_Mach_findClasses_1, nI_1]
          refine ⟨fun z => absurd z nk, fun _ => ⟨fun z => absurd z (by decide), fun _ => ⟨_, e1, ?_⟩⟩⟩
          rw [g_Mach_findClasses_1]
          exact ⟨fun _ => hc, fun _ => ⟨fun _ => hc, fun z => absurd eb z⟩⟩
        · have hs := e2.mp eb
          have k1 := (l2 x y hx hy).mp he
          refine ⟨he, k1.2.1, fun l hl => ⟨(k1.2.2 l hl).1, ?_⟩⟩
          have k2 := (k1.2.2 l hl).2
          have same : ∀ s, s < N → tc r2 (wy (s * 4 + l)) = tc r (wy (s * 4 + l)) := by
            intro s hs9
            rcases hT.2 (s * 4 + l) (by omega) with ⟨e, _⟩ | ⟨t, t1, t2⟩
            · rw [e]; rfl
            · rw [t2, tc_nI (by omega), tc_nI (by omega), hs t t1]
          rw [same x hx, same y hy]; exact k2
      · have hex : ∃ x, x < N ∧ ¬ r2 x = r x := by
          refine Classical.byContradiction (fun z => eb (e2.mpr (fun x hx => ?_)))
          exact Classical.byContradiction (fun q => z ⟨x, hx, q⟩)
        obtain ⟨x, hx, hne⟩ := hex
        have hcn2 := cn_up hR l1 l2 hx hne
        obtain ⟨cl2, fn2, r3, ⟨n, q1⟩, q2⟩ := ih (k + 1) cl' fn' r2 (by omega) (by omega) e4 l1 hBig2
        have eb1 : b' = 1 := hb01.resolve_left eb
        refine ⟨cl2, fn2, r3, ⟨n + 1, ?_⟩, q2⟩
        rw [g_Mach_findClasses_1, nI_1]
        refine ⟨fun z => absurd z nk, fun _ => ⟨fun z => absurd z (by decide), fun _ => ⟨_, e1, ?_⟩⟩⟩
        rw [eb1]; exact q1
  obtain ⟨cl0, h0, h00⟩ : ∃ cl0 : F1, R_Arrays_fill 0 50 cl cl0 ∧ ∀ z, z < 50 → cl0 z = 0 := ⟨_, R_Arrays_fill_ok (by decide), fun z hz => by simp [fillS, hz]⟩
  have hcn : 0 + 1 ≤ cn (fun _ => 0) N := by
    have : ∀ n, 1 ≤ n → 1 ≤ cn (fun _ => 0) n := by
      intro n
      induction n with
      | zero => intro h; omega
      | succ n ih =>
        intro _
        unfold cn
        by_cases e : n = 0
        · subst e; rw [if_pos rfl]; omega
        · rw [if_neg (fun z => e z.symm)]; exact ih (by omega)
    exact this N h1N
  obtain ⟨cl', fn', r2, q1, q2⟩ := key 50 0 cl0 fn (fun _ => 0) (by omega) hcn (fun z hz => by rw [h00 z (by omega), nI_0]) (fun x hx => ⟨Nat.zero_le _, rfl⟩) (fun x y _ => rfl)
  rw [nI_0] at q1
  exact ⟨cl', fn', r2, ⟨cl0, h0, q1⟩, q2⟩
