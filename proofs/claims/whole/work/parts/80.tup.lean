/-! ===== the same steps with the two sides as tuples ===== -/
abbrev CS : Type := Int32 × (Nat → Int32) × (Nat → Int32) × (Nat → Int32) × (Nat → Int32) × (Nat → Int32) × (Nat → PT)
abbrev F1 : Type := Nat → Int32
abbrev MS : Type := Int32 × F1 × F1 × F1 × F1 × F1 × F1 × F1 × F1 × F1 × F1 × F1
abbrev UB : Type := F1 × F1 × F1 × F1 × F1 × F1 × F1 × F1 × F1 × F1
abbrev UC : Type := F1 × F1 × F1 × F1 × F1 × F1 × F1 × F1
def InvT (ad : Nat → Nat) (C : CS) (M : MS) : Prop := ∃ P, C.1 = nI P ∧ M.1 = nI P ∧ Inv ad P C.2.1 C.2.2.1 C.2.2.2.1 C.2.2.2.2.1 C.2.2.2.2.2.1 C.2.2.2.2.2.2 M.2.1 M.2.2.1 M.2.2.2.1 M.2.2.2.2.1 M.2.2.2.2.2.1 M.2.2.2.2.2.2.1 M.2.2.2.2.2.2.2.1 M.2.2.2.2.2.2.2.2.1 M.2.2.2.2.2.2.2.2.2.1 M.2.2.2.2.2.2.2.2.2.2.1 M.2.2.2.2.2.2.2.2.2.2.2
def MB (M : MS) (u : UB) : MS := (M.1, u.1, u.2.1, u.2.2.1, u.2.2.2.1, u.2.2.2.2.1, u.2.2.2.2.2.1, u.2.2.2.2.2.2.1, u.2.2.2.2.2.2.2.1, M.2.2.2.2.2.2.2.2.2.1, u.2.2.2.2.2.2.2.2.1, u.2.2.2.2.2.2.2.2.2)
def MC (M : MS) (u : UB) (t : UC) : MS := (M.1, t.1, t.2.1, t.2.2.1, t.2.2.2.1, t.2.2.2.2.1, t.2.2.2.2.2.1, t.2.2.2.2.2.2.1, t.2.2.2.2.2.2.2, M.2.2.2.2.2.2.2.2.2.1, u.2.2.2.2.2.2.2.2.1, u.2.2.2.2.2.2.2.2.2)
def MK (M : MS) (t : UC) : MS := (M.1, t.1, t.2.1, t.2.2.1, t.2.2.2.1, t.2.2.2.2.1, t.2.2.2.2.2.1, t.2.2.2.2.2.2.1, t.2.2.2.2.2.2.2, M.2.2.2.2.2.2.2.2.2.1, M.2.2.2.2.2.2.2.2.2.2.1, M.2.2.2.2.2.2.2.2.2.2.2)
theorem op_position {ad : Nat → Nat} {C : CS} {M : MS} {P v : Nat} {l : Int32} {z_length z_where z_thrown z_at z_bad z_states z_positions z_now z_fed z_found z_over : Int32} (hI : InvT ad C M) (hA : Inj27 ad) (hP : C.1 = nI P) (h30 : P < 30) (hv : v < 27) (hD : ∀ w, v ≤ w → w < 27 → M.2.1 w = 0) : ∃ (C' : CS) (M' : MS), R_Net_addPosition l (ad v) C.1 C.2.1 C.2.2.1 C.2.2.2.1 C.2.2.2.2.1 C.2.2.2.2.2.1 C.2.2.2.2.2.2 C' ∧ R_M_position (nI v) l z_length z_where z_thrown z_at z_bad z_states z_positions z_now z_fed z_found z_over M.1 M.2.1 M.2.2.1 M.2.2.2.1 M.2.2.2.2.1 M.2.2.2.2.2.1 M.2.2.2.2.2.2.1 M.2.2.2.2.2.2.2.1 M.2.2.2.2.2.2.2.2.1 M.2.2.2.2.2.2.2.2.2.1 M.2.2.2.2.2.2.2.2.2.2.1 M.2.2.2.2.2.2.2.2.2.2.2 M' ∧ InvT ad C' M' ∧ (¬ M'.2.1 v = 0) ∧ (∀ w, v + 1 ≤ w → w < 27 → M'.2.1 w = 0) ∧ ∀ w, w < v → M'.2.1 w = M.2.1 w := by
  obtain ⟨P0, e1, e2, hI⟩ := hI
  have h0 : P0 = P := nI_eqD (by have := hI.1; omega) (by omega) (e1.symm.trans hP)
  subst h0
  obtain ⟨wl', sa', h1, h2, h3⟩ := R_addPosition_ok (q := ad v) (l := l) (wl := C.2.1) (fa := C.2.2.1) (la := C.2.2.2.1) (sp := C.2.2.2.2.1) (sa := C.2.2.2.2.2.1) (pf := C.2.2.2.2.2.2) h30
  obtain ⟨sd', st', h4, h5, h6⟩ := R_M_position_ok (l := l) (z_length := z_length) (z_where := z_where) (z_thrown := z_thrown) (z_at := z_at) (z_bad := z_bad) (z_states := z_states) (z_positions := z_positions) (z_now := z_now) (z_fed := z_fed) (z_found := z_found) (z_over := z_over) (a_is := M.2.1) (a_empty := M.2.2.1) (a_from := M.2.2.2.1) (a_nothing := M.2.2.2.2.1) (a_first := M.2.2.2.2.2.1) (a_last := M.2.2.2.2.2.2.1) (fD := M.2.2.2.2.2.2.2.1) (lD := M.2.2.2.2.2.2.2.2.1) (lt := M.2.2.2.2.2.2.2.2.2.1) (sd := M.2.2.2.2.2.2.2.2.2.2.1) (st := M.2.2.2.2.2.2.2.2.2.2.2) (show v < 30 by omega) h30
  refine ⟨_, _, by rw [e1]; exact h1, by rw [e2]; exact h4, ⟨P0 + 1, rfl, rfl, Inv_position hI hA h30 hv hD h2 h3 h5 h6⟩, ?_, fun w hw hw2 => ?_, fun w hw => ?_⟩
  · show ¬ upd _ _ _ _ = 0
    rw [upd_at, if_pos rfl]; decide
  · show upd _ _ _ _ = 0
    rw [upd_at, if_neg (by omega)]; exact hD w (by omega) hw2
  · show upd _ _ _ _ = _
    rw [upd_at, if_neg (by omega)]
theorem op_repeat {ad : Nat → Nat} {C : CS} {M : MS} {v : Nat} {sg : Int32} {z_length z_where z_thrown z_at z_many z_bad z_states z_positions z_now z_fed z_found z_over : Int32} (hI : InvT ad C M) (hA : Inj27 ad) (hv : v < 27) (hl : ¬ M.2.1 v = 0) : ∃ (w : F1 × F1 × (Nat → PT)) (u : F1 × F1 × F1 × F1), R_Net_repeat sg C.1 C.2.2.1 C.2.2.2.1 (ad v) C.2.2.2.2.1 C.2.2.2.2.2.1 C.2.2.2.2.2.2 w ∧ R_M_repeat (nI v) sg z_length z_where z_thrown z_at z_many z_bad z_states z_positions z_now z_fed z_found z_over M.2.2.2.2.2.1 M.2.2.2.2.2.2.1 M.2.2.2.2.2.2.2.1 M.2.2.2.2.2.2.2.2.1 M.2.2.1 M.2.2.2.2.1 M.2.2.2.2.2.2.2.2.2.2.1 M.2.2.2.2.2.2.2.2.2.2.2 u ∧ InvT ad (C.1, C.2.1, C.2.2.1, C.2.2.2.1, w.1, w.2.1, w.2.2) (M.1, M.2.1, u.1, M.2.2.2.1, u.2.1, M.2.2.2.2.2.1, M.2.2.2.2.2.2.1, M.2.2.2.2.2.2.2.1, M.2.2.2.2.2.2.2.2.1, M.2.2.2.2.2.2.2.2.2.1, u.2.2.1, u.2.2.2) := by
  obtain ⟨P, e1, e2, hI⟩ := hI
  have hP := hI.1
  obtain ⟨sp', sa', h1, h2, h3⟩ := R_Net_repeat_ok (q := ad v) (sg := sg) (fa := C.2.2.1) (la := C.2.2.2.1) (sp := C.2.2.2.2.1) (sa := C.2.2.2.2.2.1) (pf := C.2.2.2.2.2.2) hP
  obtain ⟨em', no', sd', st', h4, h5, h6, h7, h8⟩ := R_M_repeat_ok (sg := sg) (z_length := z_length) (z_where := z_where) (z_thrown := z_thrown) (z_at := z_at) (z_many := z_many) (z_bad := z_bad) (z_states := z_states) (z_positions := z_positions) (z_now := z_now) (z_fed := z_fed) (z_found := z_found) (z_over := z_over) (a_first := M.2.2.2.2.2.1) (a_last := M.2.2.2.2.2.2.1) (fD := M.2.2.2.2.2.2.2.1) (lD := M.2.2.2.2.2.2.2.2.1) (em := M.2.2.1) (no := M.2.2.2.2.1) (sd := M.2.2.2.2.2.2.2.2.2.2.1) (st := M.2.2.2.2.2.2.2.2.2.2.2) (show v < 30 by omega)
  rw [← e1] at h1
  exact ⟨_, _, h1, h4, P, e1, e2, Inv_repeat hI hA hv hl h5 h6 h7 h8 h2 h3⟩
theorem op_act {ad : Nat → Nat} {C : CS} {M : MS} {v : Nat} {sg dg : Int32} {z_length z_where z_thrown z_at z_bad z_states z_positions z_now z_fed z_found z_over : Int32} (hI : InvT ad C M) (hA : Inj27 ad) (hv : v < 27) (hl : ¬ M.2.1 v = 0) (hD : ∀ w, v + 1 ≤ w → w < 27 → M.2.1 w = 0) (hs : sg = 62 ∨ sg = 64 ∨ sg = 36 ∨ sg = 37) : ∃ (w : F1 × F1 × F1 × (Nat → PT)) (u : F1 × F1 × F1 × F1), R_Net_act sg dg C.1 C.2.2.2.2.1 (ad v) C.2.2.1 C.2.2.2.1 C.2.2.2.2.2.1 C.2.2.2.2.2.2 w ∧ R_M_act (nI v) sg (1 <<< (dg &&& 31)) z_length z_where z_thrown z_at M.1 z_bad z_states z_positions z_now z_fed z_found z_over M.2.2.1 M.2.2.2.1 M.2.2.2.2.2.1 M.2.2.2.2.2.2.1 M.2.2.2.2.2.2.2.2.2.2.2 M.2.2.2.2.1 M.2.2.2.2.2.2.2.1 M.2.2.2.2.2.2.2.2.1 M.2.2.2.2.2.2.2.2.2.2.1 u ∧ InvT ad (C.1, C.2.1, w.1, w.2.1, C.2.2.2.2.1, w.2.2.1, w.2.2.2) (M.1, M.2.1, M.2.2.1, M.2.2.2.1, u.1, M.2.2.2.2.2.1, M.2.2.2.2.2.2.1, u.2.1, u.2.2.1, M.2.2.2.2.2.2.2.2.2.1, u.2.2.2, M.2.2.2.2.2.2.2.2.2.2.2) := by
  obtain ⟨P, e1, e2, hI⟩ := hI
  have hP := hI.1
  obtain ⟨f, f1, f2, f3, _⟩ := Inv_from hI hv hl
  obtain ⟨fa', la', sa', h1, h2, h3, h4⟩ := R_Net_act_ok (q := ad v) (sg := sg) (dg := dg) (fa := C.2.2.1) (la := C.2.2.2.1) (sp := C.2.2.2.2.1) (sa := C.2.2.2.2.2.1) (pf := C.2.2.2.2.2.2) hP f1 (by rw [f3]) hs
  obtain ⟨no', fD', lD', sd', h5, h6, h7, h8, h9⟩ := R_M_act_ok (sg := sg) (b := (1 <<< (dg &&& 31))) (z_length := z_length) (z_where := z_where) (z_thrown := z_thrown) (z_at := z_at) (z_bad := z_bad) (z_states := z_states) (z_positions := z_positions) (z_now := z_now) (z_fed := z_fed) (z_found := z_found) (z_over := z_over) (em := M.2.2.1) (fr := M.2.2.2.1) (F := M.2.2.2.2.2.1) (L := M.2.2.2.2.2.2.1) (st := M.2.2.2.2.2.2.2.2.2.2.2) (no := M.2.2.2.2.1) (fD := M.2.2.2.2.2.2.2.1) (lD := M.2.2.2.2.2.2.2.2.1) (sd := M.2.2.2.2.2.2.2.2.2.2.1) hP (show v < 30 by omega) f1 f2
  exact ⟨_, _, by rw [e1]; exact h1, by rw [e2]; exact h5, P, e1, e2, Inv_act hI hA hv hl (fun w h => hD w h) f1 f2 h6 h7 h8 h9 h2 h3 h4⟩
theorem op_copy {ad : Nat → Nat} {C : CS} {M : MS} {v d : Nat} (hI : InvT ad C M) (hA : Inj27 ad) (hv : v < 27) (hl : ¬ M.2.1 v = 0) (hd : d < v) (hfree : ∀ w, d ≤ w → w < 27 → w ≠ v → M.2.1 w = 0) : R_Part_become (ad d) (ad v) C.2.2.2.2.2.2 (va_up C.2.2.2.2.2.2 (ad d) (C.2.2.2.2.2.2 (ad v))) ∧ ∀ z_length z_where z_thrown z_at z_many z_bad z_states z_positions z_now z_fed z_found z_over : Int32, ∃ t : UC, R_M_copy (nI d) (nI v) z_length z_where z_thrown z_at z_many z_bad z_states z_positions z_now z_fed z_found z_over M.2.1 M.2.2.1 M.2.2.2.1 M.2.2.2.2.1 M.2.2.2.2.2.1 M.2.2.2.2.2.2.1 M.2.2.2.2.2.2.2.1 M.2.2.2.2.2.2.2.2.1 t ∧ InvT ad (C.1, C.2.1, C.2.2.1, C.2.2.2.1, C.2.2.2.2.1, C.2.2.2.2.2.1, va_up C.2.2.2.2.2.2 (ad d) (C.2.2.2.2.2.2 (ad v))) (MK M t) ∧ (¬ t.1 d = 0) ∧ (∀ w, d + 1 ≤ w → w < 27 → t.1 w = 0) ∧ ∀ w, w < d → t.1 w = M.2.1 w := by
  obtain ⟨P, e1, e2, hI⟩ := hI
  obtain ⟨f, f1, f2, f3, f4, _⟩ := Inv_from hI hv hl
  refine ⟨R_become_ok (fun z => absurd (hA v d hv (by omega) z) (by omega)) (by rw [f3]; exact f4), fun z_length z_where z_thrown z_at z_many z_bad z_states z_positions z_now z_fed z_found z_over => ?_⟩
  obtain ⟨fD', lD', h1, h2, h3⟩ := R_M_copy_ok (z_length := z_length) (z_where := z_where) (z_thrown := z_thrown) (z_at := z_at) (z_many := z_many) (z_bad := z_bad) (z_states := z_states) (z_positions := z_positions) (z_now := z_now) (z_fed := z_fed) (z_found := z_found) (z_over := z_over) (a_is := M.2.1) (a_empty := M.2.2.1) (a_from := M.2.2.2.1) (a_nothing := M.2.2.2.2.1) (a_first := M.2.2.2.2.2.1) (a_last := M.2.2.2.2.2.2.1) (fD := M.2.2.2.2.2.2.2.1) (lD := M.2.2.2.2.2.2.2.2.1) (show d < 30 by omega) (show v < 30 by omega) (by omega) f4
  refine ⟨_, h1, ⟨P, e1, e2, Inv_copy hI hA hv hl hd hfree h2 h3⟩, ?_, fun w hw hw2 => ?_, fun w hw => ?_⟩
  · show ¬ upd (upd _ _ _) _ _ _ = 0
    rw [upd_at, if_neg (by omega), upd_at, if_pos rfl]; decide
  · show upd (upd _ _ _) _ _ _ = 0
    rw [upd_at]; split
    · rfl
    · rename_i q
      rw [upd_at, if_neg (by omega)]; exact hfree w (by omega) hw2 q
  · show upd (upd _ _ _) _ _ _ = _
    rw [upd_at, if_neg (by omega), upd_at, if_neg (by omega)]
theorem op_behind_copy {ad : Nat → Nat} {C : CS} {M : MS} {v d : Nat} (hI : InvT ad C M) (hA : Inj27 ad) (hv : v < 27) (hl : ¬ M.2.1 v = 0) (hd : d < v) (hfree : ∀ w, d ≤ w → w < 27 → w ≠ v → M.2.1 w = 0) : ∃ pf', R_Part_become (ad d) (ad v) C.2.2.2.2.2.2 pf' ∧ ∀ z_length z_where z_thrown z_at z_many z_bad z_states z_positions z_now z_fed z_found z_over : Int32, ∃ u : UB, R_M_behind (nI d) (nI v) z_length z_where z_thrown z_at z_many z_bad z_states z_positions z_now z_fed z_found z_over M.2.1 M.2.2.1 M.2.2.2.1 M.2.2.2.2.1 M.2.2.2.2.2.1 M.2.2.2.2.2.2.1 M.2.2.2.2.2.2.2.1 M.2.2.2.2.2.2.2.2.1 M.2.2.2.2.2.2.2.2.2.2.1 M.2.2.2.2.2.2.2.2.2.2.2 u ∧ InvT ad (C.1, C.2.1, C.2.2.1, C.2.2.2.1, C.2.2.2.2.1, C.2.2.2.2.2.1, pf') (MB M u) ∧ (¬ u.1 d = 0) ∧ (∀ w, d + 1 ≤ w → w < 27 → u.1 w = 0) ∧ ∀ w, w < d → u.1 w = M.2.1 w := by
  obtain ⟨h1, h2⟩ := op_copy hI hA hv hl hd hfree
  refine ⟨_, h1, fun z_length z_where z_thrown z_at z_many z_bad z_states z_positions z_now z_fed z_found z_over => ?_⟩
  obtain ⟨t, h3, h4, h5, h6, h7⟩ := h2 z_length z_where z_thrown z_at z_many z_bad z_states z_positions z_now z_fed z_found z_over
  have h0 : M.2.1 (nI d).toNatClampNeg = 0 := by rw [nI_clamp (by omega)]; exact hfree d (Nat.le_refl _) (by omega) (by omega)
  exact ⟨(t.1, t.2.1, t.2.2.1, t.2.2.2.1, t.2.2.2.2.1, t.2.2.2.2.2.1, t.2.2.2.2.2.2.1, t.2.2.2.2.2.2.2, M.2.2.2.2.2.2.2.2.2.2.1, M.2.2.2.2.2.2.2.2.2.2.2), ⟨vin30 (by omega), fun z => absurd h0 z, fun _ => ⟨t, h3, rfl⟩⟩, h4, h5, h6, h7⟩
theorem op_behind_join {ad : Nat → Nat} {C : CS} {M : MS} {v d : Nat} (hI : InvT ad C M) (hA : Inj27 ad) (hv : v < 27) (hl : ¬ M.2.1 v = 0) (hd : d < v) (hld : ¬ M.2.1 d = 0) (hfree : ∀ w, d < w → w < 27 → w ≠ v → M.2.1 w = 0) : ∃ w9 : F1 × F1 × F1 × F1 × (Nat → PT), R_Net_chain C.1 (ad d) (ad v) C.2.2.1 C.2.2.2.1 C.2.2.2.2.1 C.2.2.2.2.2.1 C.2.2.2.2.2.2 w9 ∧ ∀ z_length z_where z_thrown z_at z_many z_bad z_states z_positions z_now z_fed z_found z_over : Int32, ∃ u : UB, R_M_behind (nI d) (nI v) z_length z_where z_thrown z_at z_many z_bad z_states z_positions z_now z_fed z_found z_over M.2.1 M.2.2.1 M.2.2.2.1 M.2.2.2.2.1 M.2.2.2.2.2.1 M.2.2.2.2.2.2.1 M.2.2.2.2.2.2.2.1 M.2.2.2.2.2.2.2.2.1 M.2.2.2.2.2.2.2.2.2.2.1 M.2.2.2.2.2.2.2.2.2.2.2 u ∧ InvT ad (C.1, C.2.1, w9.1, w9.2.1, w9.2.2.1, w9.2.2.2.1, w9.2.2.2.2) (MB M u) ∧ (¬ u.1 d = 0) ∧ (∀ w, d + 1 ≤ w → w < 27 → u.1 w = 0) ∧ ∀ w, w < d → u.1 w = M.2.1 w := by
  obtain ⟨P, e1, e2, hI⟩ := hI
  have hP := hI.1
  obtain ⟨f, f1, f2, f3, f4, f5, f6⟩ := Inv_from hI hv hl
  have hna : ad v ≠ ad d := fun z => absurd (hA v d hv (by omega) z) (by omega)
  obtain ⟨v3, h1, h2, h3⟩ := R_Net_link_ok (L := (C.2.2.2.2.2.2 (ad d)).2.2.1) (F := (C.2.2.2.2.2.2 (ad v)).2.1) (fa := C.2.2.1) (la := C.2.2.2.1) (sp := C.2.2.2.2.1) (sa := C.2.2.2.2.2.1) hP
  refine ⟨_, by rw [e1]; exact R_Net_chain_ok hP hna h1, fun z_length z_where z_thrown z_at z_many z_bad z_states z_positions z_now z_fed z_found z_over => ?_⟩
  obtain ⟨fb', lb', fD', lD', sd', st', k1, k2, k3, k4, k5, k6, k7⟩ := R_M_behind_ok (z_length := z_length) (z_where := z_where) (z_thrown := z_thrown) (z_at := z_at) (z_many := z_many) (z_bad := z_bad) (z_states := z_states) (z_positions := z_positions) (z_now := z_now) (z_fed := z_fed) (z_found := z_found) (z_over := z_over) (a_is := M.2.1) (a_empty := M.2.2.1) (a_from := M.2.2.2.1) (a_nothing := M.2.2.2.2.1) (a_first := M.2.2.2.2.2.1) (a_last := M.2.2.2.2.2.2.1) (fD := M.2.2.2.2.2.2.2.1) (lD := M.2.2.2.2.2.2.2.2.1) (sd := M.2.2.2.2.2.2.2.2.2.2.1) (st := M.2.2.2.2.2.2.2.2.2.2.2) (show d < 30 by omega) (show v < 30 by omega) (by omega) hld (fun i hi => f5 i (by omega)) (fun i hi => f6 i (by omega))
  refine ⟨_, k1, ⟨P, e1, e2, Inv_chain hI hA hv hl hd hld hfree h2 h3 k2 k3 k4 k5 k6 k7⟩, ?_, fun w hw hw2 => ?_, fun w hw => ?_⟩
  · show ¬ upd _ _ _ _ = 0
    rw [upd_at, if_neg (by omega)]; exact hld
  · show upd _ _ _ _ = 0
    rw [upd_at]; split
    · rfl
    · rename_i q; exact hfree w (by omega) hw2 q
  · show upd _ _ _ _ = _
    rw [upd_at, if_neg (by omega)]
theorem op_beside_copy {ad : Nat → Nat} {C : CS} {M : MS} {v d : Nat} {z_length z_where z_thrown z_at z_many z_bad z_states z_positions z_now z_fed z_found z_over : Int32} (hI : InvT ad C M) (hA : Inj27 ad) (hv : v < 27) (hl : ¬ M.2.1 v = 0) (hd : d < v) (hfree : ∀ w, d ≤ w → w < 27 → w ≠ v → M.2.1 w = 0) : ∃ t : UC, R_M_beside (nI d) (nI v) z_length z_where z_thrown z_at z_many z_bad z_states z_positions z_now z_fed z_found z_over M.2.1 M.2.2.1 M.2.2.2.1 M.2.2.2.2.1 M.2.2.2.2.2.1 M.2.2.2.2.2.2.1 M.2.2.2.2.2.2.2.1 M.2.2.2.2.2.2.2.2.1 t ∧ InvT ad (C.1, C.2.1, C.2.2.1, C.2.2.2.1, C.2.2.2.2.1, C.2.2.2.2.2.1, va_up C.2.2.2.2.2.2 (ad d) (C.2.2.2.2.2.2 (ad v))) (MK M t) ∧ (¬ t.1 d = 0) ∧ (∀ w, d + 1 ≤ w → w < 27 → t.1 w = 0) ∧ ∀ w, w < d → t.1 w = M.2.1 w := by
  obtain ⟨h1, h2⟩ := op_copy hI hA hv hl hd hfree
  obtain ⟨t, h3, h4⟩ := h2 z_length z_where z_thrown z_at z_many z_bad z_states z_positions z_now z_fed z_found z_over
  have h0 : M.2.1 (nI d).toNatClampNeg = 0 := by rw [nI_clamp (by omega)]; exact hfree d (Nat.le_refl _) (by omega) (by omega)
  exact ⟨t, ⟨vin30 (by omega), fun z => absurd h0 z, fun _ => ⟨t, h3, rfl⟩⟩, h4⟩
theorem op_beside_join {ad : Nat → Nat} {C : CS} {M : MS} {v d : Nat} {z_length z_where z_thrown z_at z_many z_bad z_states z_positions z_now z_fed z_found z_over : Int32} (hI : InvT ad C M) (hA : Inj27 ad) (hv : v < 27) (hl : ¬ M.2.1 v = 0) (hd : d < v) (hld : ¬ M.2.1 d = 0) (hfree : ∀ w, d < w → w < 27 → w ≠ v → M.2.1 w = 0) : ∃ t : UC, R_M_beside (nI d) (nI v) z_length z_where z_thrown z_at z_many z_bad z_states z_positions z_now z_fed z_found z_over M.2.1 M.2.2.1 M.2.2.2.1 M.2.2.2.2.1 M.2.2.2.2.2.1 M.2.2.2.2.2.2.1 M.2.2.2.2.2.2.2.1 M.2.2.2.2.2.2.2.2.1 t ∧ InvT ad (C.1, C.2.1, C.2.2.1, C.2.2.2.1, C.2.2.2.2.1, C.2.2.2.2.2.1, va_up C.2.2.2.2.2.2 (ad d) ((C.2.2.2.2.2.2 (ad d)).1, (C.2.2.2.2.2.2 (ad d)).2.1 ||| (C.2.2.2.2.2.2 (ad v)).2.1, (C.2.2.2.2.2.2 (ad d)).2.2.1 ||| (C.2.2.2.2.2.2 (ad v)).2.2.1, if (C.2.2.2.2.2.2 (ad d)).2.2.2.1 = 0 ∧ (C.2.2.2.2.2.2 (ad v)).2.2.2.1 = 0 then 0 else 1, (C.2.2.2.2.2.2 (ad d)).2.2.2.2 ||| (C.2.2.2.2.2.2 (ad v)).2.2.2.2)) (MK M t) ∧ (¬ t.1 d = 0) ∧ (∀ w, d + 1 ≤ w → w < 27 → t.1 w = 0) ∧ ∀ w, w < d → t.1 w = M.2.1 w := by
  obtain ⟨P, e1, e2, hI⟩ := hI
  have hP := hI.1
  obtain ⟨f, f1, f2, f3, f4, f5, f6⟩ := Inv_from hI hv hl
  obtain ⟨fb', lb', fD', lD', k1, k2, k3, k4, k5⟩ := R_M_beside_ok (z_length := z_length) (z_where := z_where) (z_thrown := z_thrown) (z_at := z_at) (z_many := z_many) (z_bad := z_bad) (z_states := z_states) (z_positions := z_positions) (z_now := z_now) (z_fed := z_fed) (z_found := z_found) (z_over := z_over) (a_is := M.2.1) (a_empty := M.2.2.1) (a_from := M.2.2.2.1) (a_nothing := M.2.2.2.2.1) (a_first := M.2.2.2.2.2.1) (a_last := M.2.2.2.2.2.2.1) (fD := M.2.2.2.2.2.2.2.1) (lD := M.2.2.2.2.2.2.2.2.1) (show d < 30 by omega) (show v < 30 by omega) (by omega) hld (fun i hi => f5 i (by omega)) (fun i hi => f6 i (by omega))
  refine ⟨_, k1, ⟨P, e1, e2, Inv_either hI hA hv hl hd hld hfree k2 k3 k4 k5⟩, ?_, fun w hw hw2 => ?_, fun w hw => ?_⟩
  · show ¬ upd _ _ _ _ = 0
    rw [upd_at, if_neg (by omega)]; exact hld
  · show upd _ _ _ _ = 0
    rw [upd_at]; split
    · rfl
    · rename_i q; exact hfree w (by omega) hw2 q
  · show upd _ _ _ _ = _
    rw [upd_at, if_neg (by omega)]
def PendT (ad : Nat → Nat) (d : Nat) (C : CS) (M : MS) : Prop := (¬ M.2.1 (3 * d + 2) = 0) ∧ ∀ z_length z_where z_thrown z_at z_many z_bad z_states z_positions z_now z_fed z_found z_over : Int32, ∃ u : UB, R_M_behind (nI (3 * d + 1)) (nI (3 * d + 2)) z_length z_where z_thrown z_at z_many z_bad z_states z_positions z_now z_fed z_found z_over M.2.1 M.2.2.1 M.2.2.2.1 M.2.2.2.2.1 M.2.2.2.2.2.1 M.2.2.2.2.2.2.1 M.2.2.2.2.2.2.2.1 M.2.2.2.2.2.2.2.2.1 M.2.2.2.2.2.2.2.2.2.2.1 M.2.2.2.2.2.2.2.2.2.2.2 u ∧ InvT ad C (MB M u) ∧ (¬ u.1 (3 * d + 1) = 0) ∧ (∀ w, 3 * d + 2 ≤ w → w < 27 → u.1 w = 0) ∧ ∀ w, w < 3 * d + 1 → u.1 w = M.2.1 w
def PendE (ad : Nat → Nat) (d : Nat) (C : CS) (M : MS) : Prop := (¬ M.2.1 (3 * d + 2) = 0) ∧ ∀ z_length z_where z_thrown z_at z_many z_bad z_states z_positions z_now z_fed z_found z_over : Int32, ∃ u : UB, R_M_behind (nI (3 * d + 1)) (nI (3 * d + 2)) z_length z_where z_thrown z_at z_many z_bad z_states z_positions z_now z_fed z_found z_over M.2.1 M.2.2.1 M.2.2.2.1 M.2.2.2.2.1 M.2.2.2.2.2.1 M.2.2.2.2.2.2.1 M.2.2.2.2.2.2.2.1 M.2.2.2.2.2.2.2.2.1 M.2.2.2.2.2.2.2.2.2.2.1 M.2.2.2.2.2.2.2.2.2.2.2 u ∧ ∃ t : UC, R_M_beside (nI (3 * d)) (nI (3 * d + 1)) z_length z_where z_thrown z_at z_many z_bad z_states z_positions z_now z_fed z_found z_over u.1 u.2.1 u.2.2.1 u.2.2.2.1 u.2.2.2.2.1 u.2.2.2.2.2.1 u.2.2.2.2.2.2.1 u.2.2.2.2.2.2.2.1 t ∧ InvT ad C (MC M u t) ∧ (¬ t.1 (3 * d) = 0) ∧ (∀ w, 3 * d + 1 ≤ w → w < 27 → t.1 w = 0) ∧ ∀ w, w < 3 * d → t.1 w = M.2.1 w
theorem pendE_become {ad : Nat → Nat} {C : CS} {M : MS} {d : Nat} (hd : d < 9) (hA : Inj27 ad) (h : PendT ad d C M) (hE : M.2.1 (3 * d) = 0) : ∃ pf', R_Part_become (ad (3 * d)) (ad (3 * d + 1)) C.2.2.2.2.2.2 pf' ∧ PendE ad d (C.1, C.2.1, C.2.2.1, C.2.2.2.1, C.2.2.2.2.1, C.2.2.2.2.2.1, pf') M := by
  obtain ⟨h1, h2⟩ := h
  refine ⟨va_up C.2.2.2.2.2.2 (ad (3 * d)) (C.2.2.2.2.2.2 (ad (3 * d + 1))), ?_, h1, fun z_length z_where z_thrown z_at z_many z_bad z_states z_positions z_now z_fed z_found z_over => ?_⟩
  · obtain ⟨u, k1, k2, k3, k4, k5⟩ := h2 0 0 0 0 0 0 0 0 0 0 0 0
    exact (op_copy k2 hA (by omega) k3 (by omega) (fun w hw hw2 hw3 => by
      rcases Nat.lt_or_ge (3 * d + 1) w with q | q
      · exact k4 w (by omega) hw2
      · have q2 : w = 3 * d := by omega
        subst q2
        exact (k5 _ (by omega)).trans hE)).1
  · obtain ⟨u, k1, k2, k3, k4, k5⟩ := h2 z_length z_where z_thrown z_at z_many z_bad z_states z_positions z_now z_fed z_found z_over
    obtain ⟨t, j1, j2, j3, j4, j5⟩ := op_beside_copy (z_length := z_length) (z_where := z_where) (z_thrown := z_thrown) (z_at := z_at) (z_many := z_many) (z_bad := z_bad) (z_states := z_states) (z_positions := z_positions) (z_now := z_now) (z_fed := z_fed) (z_found := z_found) (z_over := z_over) k2 hA (show 3 * d + 1 < 27 by omega) k3 (show 3 * d < 3 * d + 1 by omega) (fun w hw hw2 hw3 => by
      rcases Nat.lt_or_ge (3 * d + 1) w with q | q
      · exact k4 w (by omega) hw2
      · have q2 : w = 3 * d := by omega
        subst q2
        exact (k5 _ (by omega)).trans hE)
    exact ⟨u, k1, t, j1, j2, j3, j4, fun w hw => (j5 w hw).trans (k5 w (by omega))⟩
theorem pendE_either {ad : Nat → Nat} {C : CS} {M : MS} {d : Nat} (hd : d < 9) (hA : Inj27 ad) (h : PendT ad d C M) (hE : ¬ M.2.1 (3 * d) = 0) : ∃ pf', R_Net_either C.1 (ad (3 * d)) (ad (3 * d + 1)) C.2.2.2.2.2.2 pf' ∧ PendE ad d (C.1, C.2.1, C.2.2.1, C.2.2.2.1, C.2.2.2.2.1, C.2.2.2.2.2.1, pf') M := by
  obtain ⟨h1, h2⟩ := h
  refine ⟨_, R_Net_either_ok (fun z => absurd (hA _ _ (by omega) (by omega) z) (by omega)), h1, fun z_length z_where z_thrown z_at z_many z_bad z_states z_positions z_now z_fed z_found z_over => ?_⟩
  obtain ⟨u, k1, k2, k3, k4, k5⟩ := h2 z_length z_where z_thrown z_at z_many z_bad z_states z_positions z_now z_fed z_found z_over
  obtain ⟨t, j1, j2, j3, j4, j5⟩ := op_beside_join (z_length := z_length) (z_where := z_where) (z_thrown := z_thrown) (z_at := z_at) (z_many := z_many) (z_bad := z_bad) (z_states := z_states) (z_positions := z_positions) (z_now := z_now) (z_fed := z_fed) (z_found := z_found) (z_over := z_over) k2 hA (show 3 * d + 1 < 27 by omega) k3 (show 3 * d < 3 * d + 1 by omega) (fun z => hE ((k5 _ (by omega)).symm.trans z)) (fun w hw hw2 hw3 => k4 w (by omega) hw2)
  exact ⟨u, k1, t, j1, j2, j3, j4, fun w hw => (j5 w hw).trans (k5 w (by omega))⟩
