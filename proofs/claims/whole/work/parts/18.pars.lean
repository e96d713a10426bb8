def R_Pars_isLetter (p0 : Int32)  (out : Int32 × Unit) : Prop := ((p0 < 97) → (out = (0, ()))) ∧ (¬ (p0 < 97) → (((100 < p0) → (out = (0, ()))) ∧ (¬ (100 < p0) → (out = (1, ())))))
set_option maxHeartbeats 4000000 in
set_option maxRecDepth 100000 in
theorem c_Pars_isLetter (l : Launch) (dC : Nat → ClassId) (dI : Nat → Nat → Nat) (cA : Nat → ClassId) (sz : Nat) (p0 : Int32)  (out : Int32 × Unit) (hR : R_Pars_isLetter p0  out) : Met l y_Pars_isLetter ws_Pars_isLetter ({ frames := 0, cells := 0, slots := 0, locals := 0 }) (va_Pc [.int p0] (fun U => U.heap.size = sz ∧ va_P (dC, dI) clA [] U.heap ∧ va_K (dC, dI) clA (tysA cA) U ∧ nW U ∧ va_D (fun _ => True) [])) (va_Qi (fun (r : Int32) (u : Unit) => out = (r, u)) (fun (u : Unit) (t : State) => va_P (dC, dI) clA [] t.heap ∧ va_K (dC, dI) clA (tysA cA) t ∧ va_D (va_A [] sz) []) (va_A [] sz)) 0 0 (va_A [] sz) := by
  refine Met.ofW (cc := b_Pars_isLetter) (maxL := 1) (ret := (some .boolean)) (by decide) rfl ?_
  intro p e s m args below meth c s₁ B hml hv
  obtain ⟨rfl, hsz, hP, hK, hN, hD0⟩ := hv
  have hx := B.exec
  have hb := B.bytes
  have hr := B.returns
  have hts := atoms_spec (ws := ws_Pars_isLetter) B.pre
  have hown : s.vm.findClass RX2 = some m.cls := findClass_of_methodNamed B.named
  have hlocks := B.notSynchronized
  subst hsz
  have hD := hD0.self (sz := s.heap.size)
  generalize hAe : va_A [] s.heap.size = A at hD ⊢
  have hA : ∀ q : Nat, s.heap.size ≤ q → A q := fun q h => by rw [← hAe]; exact Or.inr h
  have hS : va_S A s.heap s.heap [] := va_S.rf
  have hP : va_P (dC, dI) clA [] s.heap := hP
  have hl := lv_entry ([.int p0]) (n := 1) (Nat.le_of_ble_eq_true rfl)
  rw [lg_entry_eq]
  generalize (lg_sl ([.int p0]) ++ List.replicate (1 - (lg_sl ([.int p0])).length) Slot.unset).toArray = ls at hl ⊢
  have hl : lv_has ls 1 [(0, .int p0)] := hl
  refine W_gen (fun Qz hQz => ?_)
  have hf := hR
  unfold R_Pars_isLetter at hf
  refine lv_iload_n hx hb d_Pars_isLetter_0 rfl (lv_at hl 0 rfl) ?_
  refine lv_bipush (v := 97) hx hb d_Pars_isLetter_1 (by decide) ?_
  refine lv_icmp_lt (tgt := 16) hx hb d_Pars_isLetter_3 (by decide) (fun c_1 => ?_) (fun c_1 => ?_)
  · replace hf := hf.1 c_1
    refine lv_iconst (v := 0) hx hb d_Pars_isLetter_16 (by decide) ?_
    have hP9 := hP.sub (ws' := []) [] rfl
    have hD9 := hD.sub (ws' := []) [] (by decide) rfl
    refine W_end hQz ?_
    exact W.zret (v := 0) hx hb hr (by decide) (fun t ht hW => ⟨⟨0, (), rfl, hf, P_cg ht.symm hP9, va_K.moved hW.alike hK, hD9⟩, hS.F ht⟩) hS.2.2 d_Pars_isLetter_17 hlocks
  · replace hf := hf.2 c_1
    refine lv_iload_n hx hb d_Pars_isLetter_6 rfl (lv_at hl 0 rfl) ?_
    refine lv_bipush (v := 100) hx hb d_Pars_isLetter_7 (by decide) ?_
    refine lv_icmp_gt (tgt := 16) hx hb d_Pars_isLetter_9 (by decide) (fun c_3 => ?_) (fun c_3 => ?_)
    · replace hf := hf.1 c_3
      refine lv_iconst (v := 0) hx hb d_Pars_isLetter_16 (by decide) ?_
      have hP9 := hP.sub (ws' := []) [] rfl
      have hD9 := hD.sub (ws' := []) [] (by decide) rfl
      refine W_end hQz ?_
      exact W.zret (v := 0) hx hb hr (by decide) (fun t ht hW => ⟨⟨0, (), rfl, hf, P_cg ht.symm hP9, va_K.moved hW.alike hK, hD9⟩, hS.F ht⟩) hS.2.2 d_Pars_isLetter_17 hlocks
    · replace hf := hf.2 c_3
      refine lv_iconst (v := 1) hx hb d_Pars_isLetter_12 (by decide) ?_
      refine lv_goto (tgt := 17) hx hb d_Pars_isLetter_13 (by decide) ?_
      have hP9 := hP.sub (ws' := []) [] rfl
      have hD9 := hD.sub (ws' := []) [] (by decide) rfl
      refine W_end hQz ?_
      exact W.zret (v := 1) hx hb hr (by decide) (fun t ht hW => ⟨⟨1, (), rfl, hf, P_cg ht.symm hP9, va_K.moved hW.alike hK, hD9⟩, hS.F ht⟩) hS.2.2 d_Pars_isLetter_17 hlocks
def R_Pars_letterBit (p0 : Int32)  (out : Int32 × Unit) : Prop := (out = ((1 <<< ((p0 - 97) &&& 31)), ()))
set_option maxHeartbeats 4000000 in
set_option maxRecDepth 100000 in
theorem c_Pars_letterBit (l : Launch) (dC : Nat → ClassId) (dI : Nat → Nat → Nat) (cA : Nat → ClassId) (sz : Nat) (p0 : Int32)  (out : Int32 × Unit) (hR : R_Pars_letterBit p0  out) : Met l y_Pars_letterBit ws_Pars_letterBit ({ frames := 0, cells := 0, slots := 0, locals := 0 }) (va_Pc [.int p0] (fun U => U.heap.size = sz ∧ va_P (dC, dI) clA [] U.heap ∧ va_K (dC, dI) clA (tysA cA) U ∧ nW U ∧ va_D (fun _ => True) [])) (va_Qi (fun (r : Int32) (u : Unit) => out = (r, u)) (fun (u : Unit) (t : State) => va_P (dC, dI) clA [] t.heap ∧ va_K (dC, dI) clA (tysA cA) t ∧ va_D (va_A [] sz) []) (va_A [] sz)) 0 0 (va_A [] sz) := by
  refine Met.ofW (cc := b_Pars_letterBit) (maxL := 1) (ret := (some .int)) (by decide) rfl ?_
  intro p e s m args below meth c s₁ B hml hv
  obtain ⟨rfl, hsz, hP, hK, hN, hD0⟩ := hv
  have hx := B.exec
  have hb := B.bytes
  have hr := B.returns
  have hts := atoms_spec (ws := ws_Pars_letterBit) B.pre
  have hown : s.vm.findClass RX2 = some m.cls := findClass_of_methodNamed B.named
  have hlocks := B.notSynchronized
  subst hsz
  have hD := hD0.self (sz := s.heap.size)
  generalize hAe : va_A [] s.heap.size = A at hD ⊢
  have hA : ∀ q : Nat, s.heap.size ≤ q → A q := fun q h => by rw [← hAe]; exact Or.inr h
  have hS : va_S A s.heap s.heap [] := va_S.rf
  have hP : va_P (dC, dI) clA [] s.heap := hP
  have hl := lv_entry ([.int p0]) (n := 1) (Nat.le_of_ble_eq_true rfl)
  rw [lg_entry_eq]
  generalize (lg_sl ([.int p0]) ++ List.replicate (1 - (lg_sl ([.int p0])).length) Slot.unset).toArray = ls at hl ⊢
  have hl : lv_has ls 1 [(0, .int p0)] := hl
  refine W_gen (fun Qz hQz => ?_)
  have hf := hR
  unfold R_Pars_letterBit at hf
  refine lv_iconst (v := 1) hx hb d_Pars_letterBit_0 (by decide) ?_
  refine lv_iload_n hx hb d_Pars_letterBit_1 rfl (lv_at hl 0 rfl) ?_
  refine lv_bipush (v := 97) hx hb d_Pars_letterBit_2 (by decide) ?_
  refine lv_isub hx hb d_Pars_letterBit_4 ?_
  refine lv_ishl hx hb d_Pars_letterBit_5 ?_
  have hP9 := hP.sub (ws' := []) [] rfl
  have hD9 := hD.sub (ws' := []) [] (by decide) rfl
  refine W_end hQz ?_
  exact W.iret (v := (1 <<< ((p0 - 97) &&& 31))) hx hb hr (fun t ht hW => ⟨⟨(1 <<< ((p0 - 97) &&& 31)), (), rfl, hf, P_cg ht.symm hP9, va_K.moved hW.alike hK, hD9⟩, hS.F ht⟩) hS.2.2 d_Pars_letterBit_6 hlocks
def R_Pars_beginsAtom (p0 : Int32)  (out : Int32 × Unit) : Prop := ∃ v_1, R_Pars_isLetter p0 v_1 ∧ (((¬ v_1.1 = 0) → (out = (1, ()))) ∧ ((v_1.1 = 0) → (((p0 = 46) → (out = (1, ()))) ∧ (¬ (p0 = 46) → (((p0 = 91) → (out = (1, ()))) ∧ (¬ (p0 = 91) → (((¬ p0 = 40) → (out = (0, ()))) ∧ ((p0 = 40) → (out = (1, ()))))))))))
set_option maxHeartbeats 4000000 in
set_option maxRecDepth 100000 in
theorem c_Pars_beginsAtom (l : Launch) (dC : Nat → ClassId) (dI : Nat → Nat → Nat) (cA : Nat → ClassId) (sz : Nat) (p0 : Int32)  (out : Int32 × Unit) (hR : R_Pars_beginsAtom p0  out) : Met l y_Pars_beginsAtom ws_Pars_beginsAtom ({ frames := 1, cells := 0, slots := 0, locals := 20 }) (va_Pc [.int p0] (fun U => U.heap.size = sz ∧ va_P (dC, dI) clA [] U.heap ∧ va_K (dC, dI) clA (tysA cA) U ∧ nW U ∧ va_D (fun _ => True) [])) (va_Qi (fun (r : Int32) (u : Unit) => out = (r, u)) (fun (u : Unit) (t : State) => va_P (dC, dI) clA [] t.heap ∧ va_K (dC, dI) clA (tysA cA) t ∧ va_D (va_A [] sz) []) (va_A [] sz)) 0 0 (va_A [] sz) := by
  refine Met.ofW (cc := b_Pars_beginsAtom) (maxL := 1) (ret := (some .boolean)) (by decide) rfl ?_
  intro p e s m args below meth c s₁ B hml hv
  obtain ⟨rfl, hsz, hP, hK, hN, hD0⟩ := hv
  have hx := B.exec
  have hb := B.bytes
  have hr := B.returns
  have hts := atoms_spec (ws := ws_Pars_beginsAtom) B.pre
  have hown : s.vm.findClass RX2 = some m.cls := findClass_of_methodNamed B.named
  have hlocks := B.notSynchronized
  subst hsz
  have hD := hD0.self (sz := s.heap.size)
  generalize hAe : va_A [] s.heap.size = A at hD ⊢
  have hA : ∀ q : Nat, s.heap.size ≤ q → A q := fun q h => by rw [← hAe]; exact Or.inr h
  have hS : va_S A s.heap s.heap [] := va_S.rf
  have hP : va_P (dC, dI) clA [] s.heap := hP
  have hl := lv_entry ([.int p0]) (n := 1) (Nat.le_of_ble_eq_true rfl)
  rw [lg_entry_eq]
  generalize (lg_sl ([.int p0]) ++ List.replicate (1 - (lg_sl ([.int p0])).length) Slot.unset).toArray = ls at hl ⊢
  have hl : lv_has ls 1 [(0, .int p0)] := hl
  refine W_gen (fun Qz hQz => ?_)
  have hf := hR
  unfold R_Pars_beginsAtom at hf
  refine lv_iload_n hx hb d_Pars_beginsAtom_0 rfl (lv_at hl 0 rfl) ?_
  obtain ⟨v_1, hv_1, hf⟩ := hf
  have hPc := hP.sub (ws' := []) [] rfl
  have hDc := hD.sub (ws' := []) [] (by decide) rfl
  have hFc := va_free (wc := []) hD hS hA [] rfl
  refine va_calli (va_runS (As := [.int p0]) (rest := []) ⟨hx, hb, hml, hown, hts⟩ (c_Pars_isLetter l dC dI cA s.heap.size p0 v_1 hv_1) (va_cwS 1 hts (gS9 k_420 k_421 k_50 k_422) rfl rfl rfl hs_Pars_isLetter ⟨Nat.le_of_ble_eq_true rfl, Nat.le_of_ble_eq_true rfl⟩) ⟨fun a U g mk q => by obtain ⟨q0, q1, qP, qK, qN, qD⟩ := q; exact ⟨q0, q1, qP, va_K.moved (u := U) (U := U.calling g mk a) (Vm.Alike.refl U.vm) qK, nW_same (u := U) (U := U.calling g mk a) rfl qN, qD⟩, fun U hU hW => ⟨rfl, congrArg _ hU, P_cg hU.symm hPc, va_K.moved hW.alike hK, nW_warm hW hN, hDc.weaken (fun _ _ _ _ => trivial)⟩⟩ rfl rfl hl.1 rfl (lv_room (Nat.le_of_ble_eq_true rfl)) d_Pars_beginsAtom_1 ⟨Nat.zero_le _, Nat.zero_le _⟩) hS (fun q _ h => hFc q h) hFc (fun r u t H locs ht hvm hw hB hz1 hk1 hS => ?_)
  obtain ⟨rfl, rfl⟩ : r = v_1.1 ∧ u = v_1.2 := ⟨(congrArg Prod.fst hw).symm, (congrArg Prod.snd hw).symm⟩
  obtain ⟨hP1, hK1, hD1⟩ := hB
  replace hP1 := P_cg ht hP1
  obtain ⟨hP, hD⟩ := va_join (wc := []) (wr := []) (w1 := []) hP hD [] [] rfl rfl (by decide) (by decide) hk1 hFc hP1 hD1
  have hP : va_P (dC, dI) clA [] H := hP
  have hD : va_D A [] := hD
  refine lv_if_ne (tgt := 25) hx hb d_Pars_beginsAtom_4 (by decide) (fun c_2 => ?_) (fun c_2 => ?_)
  · replace hf := hf.1 c_2
    refine lv_iconst (v := 1) hx hb d_Pars_beginsAtom_25 (by decide) ?_
    refine lv_goto (tgt := 30) hx hb d_Pars_beginsAtom_26 (by decide) ?_
    have hP9 := hP.sub (ws' := []) [] rfl
    have hD9 := hD.sub (ws' := []) [] (by decide) rfl
    refine W_end hQz ?_
    exact W.zret (v := 1) hx hb hr (by decide) (fun t ht hW => ⟨⟨1, (), rfl, hf, P_cg ht.symm hP9, va_K.moved hW.alike hK, hD9⟩, hS.F ht⟩) hS.2.2 d_Pars_beginsAtom_30 hlocks
  · replace hf := hf.2 c_2
    refine lv_iload_n hx hb d_Pars_beginsAtom_7 rfl (lv_at hl 0 rfl) ?_
    refine lv_bipush (v := 46) hx hb d_Pars_beginsAtom_8 (by decide) ?_
    refine lv_icmp_eq (tgt := 25) hx hb d_Pars_beginsAtom_10 (by decide) (fun c_4 => ?_) (fun c_4 => ?_)
    · replace hf := hf.1 c_4
      refine lv_iconst (v := 1) hx hb d_Pars_beginsAtom_25 (by decide) ?_
      refine lv_goto (tgt := 30) hx hb d_Pars_beginsAtom_26 (by decide) ?_
      have hP9 := hP.sub (ws' := []) [] rfl
      have hD9 := hD.sub (ws' := []) [] (by decide) rfl
      refine W_end hQz ?_
      exact W.zret (v := 1) hx hb hr (by decide) (fun t ht hW => ⟨⟨1, (), rfl, hf, P_cg ht.symm hP9, va_K.moved hW.alike hK, hD9⟩, hS.F ht⟩) hS.2.2 d_Pars_beginsAtom_30 hlocks
    · replace hf := hf.2 c_4
      refine lv_iload_n hx hb d_Pars_beginsAtom_13 rfl (lv_at hl 0 rfl) ?_
      refine lv_bipush (v := 91) hx hb d_Pars_beginsAtom_14 (by decide) ?_
      refine lv_icmp_eq (tgt := 25) hx hb d_Pars_beginsAtom_16 (by decide) (fun c_6 => ?_) (fun c_6 => ?_)
      · replace hf := hf.1 c_6
        refine lv_iconst (v := 1) hx hb d_Pars_beginsAtom_25 (by decide) ?_
        refine lv_goto (tgt := 30) hx hb d_Pars_beginsAtom_26 (by decide) ?_
        have hP9 := hP.sub (ws' := []) [] rfl
        have hD9 := hD.sub (ws' := []) [] (by decide) rfl
        refine W_end hQz ?_
        exact W.zret (v := 1) hx hb hr (by decide) (fun t ht hW => ⟨⟨1, (), rfl, hf, P_cg ht.symm hP9, va_K.moved hW.alike hK, hD9⟩, hS.F ht⟩) hS.2.2 d_Pars_beginsAtom_30 hlocks
      · replace hf := hf.2 c_6
        refine lv_iload_n hx hb d_Pars_beginsAtom_19 rfl (lv_at hl 0 rfl) ?_
        refine lv_bipush (v := 40) hx hb d_Pars_beginsAtom_20 (by decide) ?_
        refine lv_icmp_ne (tgt := 29) hx hb d_Pars_beginsAtom_22 (by decide) (fun c_8 => ?_) (fun c_8 => ?_)
        · replace hf := hf.1 c_8
          refine lv_iconst (v := 0) hx hb d_Pars_beginsAtom_29 (by decide) ?_
          have hP9 := hP.sub (ws' := []) [] rfl
          have hD9 := hD.sub (ws' := []) [] (by decide) rfl
          refine W_end hQz ?_
          exact W.zret (v := 0) hx hb hr (by decide) (fun t ht hW => ⟨⟨0, (), rfl, hf, P_cg ht.symm hP9, va_K.moved hW.alike hK, hD9⟩, hS.F ht⟩) hS.2.2 d_Pars_beginsAtom_30 hlocks
        · replace hf := hf.2 c_8
          refine lv_iconst (v := 1) hx hb d_Pars_beginsAtom_25 (by decide) ?_
          refine lv_goto (tgt := 30) hx hb d_Pars_beginsAtom_26 (by decide) ?_
          have hP9 := hP.sub (ws' := []) [] rfl
          have hD9 := hD.sub (ws' := []) [] (by decide) rfl
          refine W_end hQz ?_
          exact W.zret (v := 1) hx hb hr (by decide) (fun t ht hW => ⟨⟨1, (), rfl, hf, P_cg ht.symm hP9, va_K.moved hW.alike hK, hD9⟩, hS.F ht⟩) hS.2.2 d_Pars_beginsAtom_30 hlocks
def R_Pars_isRepeat (p0 : Int32)  (out : Int32 × Unit) : Prop := ((p0 = 42) → (out = (1, ()))) ∧ (¬ (p0 = 42) → (((p0 = 43) → (out = (1, ()))) ∧ (¬ (p0 = 43) → (((¬ p0 = 63) → (out = (0, ()))) ∧ ((p0 = 63) → (out = (1, ())))))))
set_option maxHeartbeats 4000000 in
set_option maxRecDepth 100000 in
theorem c_Pars_isRepeat (l : Launch) (dC : Nat → ClassId) (dI : Nat → Nat → Nat) (cA : Nat → ClassId) (sz : Nat) (p0 : Int32)  (out : Int32 × Unit) (hR : R_Pars_isRepeat p0  out) : Met l y_Pars_isRepeat ws_Pars_isRepeat ({ frames := 0, cells := 0, slots := 0, locals := 0 }) (va_Pc [.int p0] (fun U => U.heap.size = sz ∧ va_P (dC, dI) clA [] U.heap ∧ va_K (dC, dI) clA (tysA cA) U ∧ nW U ∧ va_D (fun _ => True) [])) (va_Qi (fun (r : Int32) (u : Unit) => out = (r, u)) (fun (u : Unit) (t : State) => va_P (dC, dI) clA [] t.heap ∧ va_K (dC, dI) clA (tysA cA) t ∧ va_D (va_A [] sz) []) (va_A [] sz)) 0 0 (va_A [] sz) := by
  refine Met.ofW (cc := b_Pars_isRepeat) (maxL := 1) (ret := (some .boolean)) (by decide) rfl ?_
  intro p e s m args below meth c s₁ B hml hv
  obtain ⟨rfl, hsz, hP, hK, hN, hD0⟩ := hv
  have hx := B.exec
  have hb := B.bytes
  have hr := B.returns
  have hts := atoms_spec (ws := ws_Pars_isRepeat) B.pre
  have hown : s.vm.findClass RX2 = some m.cls := findClass_of_methodNamed B.named
  have hlocks := B.notSynchronized
  subst hsz
  have hD := hD0.self (sz := s.heap.size)
  generalize hAe : va_A [] s.heap.size = A at hD ⊢
  have hA : ∀ q : Nat, s.heap.size ≤ q → A q := fun q h => by rw [← hAe]; exact Or.inr h
  have hS : va_S A s.heap s.heap [] := va_S.rf
  have hP : va_P (dC, dI) clA [] s.heap := hP
  have hl := lv_entry ([.int p0]) (n := 1) (Nat.le_of_ble_eq_true rfl)
  rw [lg_entry_eq]
  generalize (lg_sl ([.int p0]) ++ List.replicate (1 - (lg_sl ([.int p0])).length) Slot.unset).toArray = ls at hl ⊢
  have hl : lv_has ls 1 [(0, .int p0)] := hl
  refine W_gen (fun Qz hQz => ?_)
  have hf := hR
  unfold R_Pars_isRepeat at hf
  refine lv_iload_n hx hb d_Pars_isRepeat_0 rfl (lv_at hl 0 rfl) ?_
  refine lv_bipush (v := 42) hx hb d_Pars_isRepeat_1 (by decide) ?_
  refine lv_icmp_eq (tgt := 18) hx hb d_Pars_isRepeat_3 (by decide) (fun c_1 => ?_) (fun c_1 => ?_)
  · replace hf := hf.1 c_1
    refine lv_iconst (v := 1) hx hb d_Pars_isRepeat_18 (by decide) ?_
    refine lv_goto (tgt := 23) hx hb d_Pars_isRepeat_19 (by decide) ?_
    have hP9 := hP.sub (ws' := []) [] rfl
    have hD9 := hD.sub (ws' := []) [] (by decide) rfl
    refine W_end hQz ?_
    exact W.zret (v := 1) hx hb hr (by decide) (fun t ht hW => ⟨⟨1, (), rfl, hf, P_cg ht.symm hP9, va_K.moved hW.alike hK, hD9⟩, hS.F ht⟩) hS.2.2 d_Pars_isRepeat_23 hlocks
  · replace hf := hf.2 c_1
    refine lv_iload_n hx hb d_Pars_isRepeat_6 rfl (lv_at hl 0 rfl) ?_
    refine lv_bipush (v := 43) hx hb d_Pars_isRepeat_7 (by decide) ?_
    refine lv_icmp_eq (tgt := 18) hx hb d_Pars_isRepeat_9 (by decide) (fun c_3 => ?_) (fun c_3 => ?_)
    · replace hf := hf.1 c_3
      refine lv_iconst (v := 1) hx hb d_Pars_isRepeat_18 (by decide) ?_
      refine lv_goto (tgt := 23) hx hb d_Pars_isRepeat_19 (by decide) ?_
      have hP9 := hP.sub (ws' := []) [] rfl
      have hD9 := hD.sub (ws' := []) [] (by decide) rfl
      refine W_end hQz ?_
      exact W.zret (v := 1) hx hb hr (by decide) (fun t ht hW => ⟨⟨1, (), rfl, hf, P_cg ht.symm hP9, va_K.moved hW.alike hK, hD9⟩, hS.F ht⟩) hS.2.2 d_Pars_isRepeat_23 hlocks
    · replace hf := hf.2 c_3
      refine lv_iload_n hx hb d_Pars_isRepeat_12 rfl (lv_at hl 0 rfl) ?_
      refine lv_bipush (v := 63) hx hb d_Pars_isRepeat_13 (by decide) ?_
      refine lv_icmp_ne (tgt := 22) hx hb d_Pars_isRepeat_15 (by decide) (fun c_5 => ?_) (fun c_5 => ?_)
      · replace hf := hf.1 c_5
        refine lv_iconst (v := 0) hx hb d_Pars_isRepeat_22 (by decide) ?_
        have hP9 := hP.sub (ws' := []) [] rfl
        have hD9 := hD.sub (ws' := []) [] (by decide) rfl
        refine W_end hQz ?_
        exact W.zret (v := 0) hx hb hr (by decide) (fun t ht hW => ⟨⟨0, (), rfl, hf, P_cg ht.symm hP9, va_K.moved hW.alike hK, hD9⟩, hS.F ht⟩) hS.2.2 d_Pars_isRepeat_23 hlocks
      · replace hf := hf.2 c_5
        refine lv_iconst (v := 1) hx hb d_Pars_isRepeat_18 (by decide) ?_
        refine lv_goto (tgt := 23) hx hb d_Pars_isRepeat_19 (by decide) ?_
        have hP9 := hP.sub (ws' := []) [] rfl
        have hD9 := hD.sub (ws' := []) [] (by decide) rfl
        refine W_end hQz ?_
        exact W.zret (v := 1) hx hb hr (by decide) (fun t ht hW => ⟨⟨1, (), rfl, hf, P_cg ht.symm hP9, va_K.moved hW.alike hK, hD9⟩, hS.F ht⟩) hS.2.2 d_Pars_isRepeat_23 hlocks
def R_Pars_isSign (p0 : Int32)  (out : Int32 × Unit) : Prop := ∃ v_1, R_Pars_isRepeat p0 v_1 ∧ (((¬ v_1.1 = 0) → (out = (1, ()))) ∧ ((v_1.1 = 0) → (((p0 = 62) → (out = (1, ()))) ∧ (¬ (p0 = 62) → (((p0 = 64) → (out = (1, ()))) ∧ (¬ (p0 = 64) → (((p0 = 36) → (out = (1, ()))) ∧ (¬ (p0 = 36) → (((¬ p0 = 37) → (out = (0, ()))) ∧ ((p0 = 37) → (out = (1, ()))))))))))))
set_option maxHeartbeats 4000000 in
set_option maxRecDepth 100000 in
theorem c_Pars_isSign (l : Launch) (dC : Nat → ClassId) (dI : Nat → Nat → Nat) (cA : Nat → ClassId) (sz : Nat) (p0 : Int32)  (out : Int32 × Unit) (hR : R_Pars_isSign p0  out) : Met l y_Pars_isSign ws_Pars_isSign ({ frames := 1, cells := 0, slots := 0, locals := 20 }) (va_Pc [.int p0] (fun U => U.heap.size = sz ∧ va_P (dC, dI) clA [] U.heap ∧ va_K (dC, dI) clA (tysA cA) U ∧ nW U ∧ va_D (fun _ => True) [])) (va_Qi (fun (r : Int32) (u : Unit) => out = (r, u)) (fun (u : Unit) (t : State) => va_P (dC, dI) clA [] t.heap ∧ va_K (dC, dI) clA (tysA cA) t ∧ va_D (va_A [] sz) []) (va_A [] sz)) 0 0 (va_A [] sz) := by
  refine Met.ofW (cc := b_Pars_isSign) (maxL := 1) (ret := (some .boolean)) (by decide) rfl ?_
  intro p e s m args below meth c s₁ B hml hv
  obtain ⟨rfl, hsz, hP, hK, hN, hD0⟩ := hv
  have hx := B.exec
  have hb := B.bytes
  have hr := B.returns
  have hts := atoms_spec (ws := ws_Pars_isSign) B.pre
  have hown : s.vm.findClass RX2 = some m.cls := findClass_of_methodNamed B.named
  have hlocks := B.notSynchronized
  subst hsz
  have hD := hD0.self (sz := s.heap.size)
  generalize hAe : va_A [] s.heap.size = A at hD ⊢
  have hA : ∀ q : Nat, s.heap.size ≤ q → A q := fun q h => by rw [← hAe]; exact Or.inr h
  have hS : va_S A s.heap s.heap [] := va_S.rf
  have hP : va_P (dC, dI) clA [] s.heap := hP
  have hl := lv_entry ([.int p0]) (n := 1) (Nat.le_of_ble_eq_true rfl)
  rw [lg_entry_eq]
  generalize (lg_sl ([.int p0]) ++ List.replicate (1 - (lg_sl ([.int p0])).length) Slot.unset).toArray = ls at hl ⊢
  have hl : lv_has ls 1 [(0, .int p0)] := hl
  refine W_gen (fun Qz hQz => ?_)
  have hf := hR
  unfold R_Pars_isSign at hf
  refine lv_iload_n hx hb d_Pars_isSign_0 rfl (lv_at hl 0 rfl) ?_
  obtain ⟨v_1, hv_1, hf⟩ := hf
  have hPc := hP.sub (ws' := []) [] rfl
  have hDc := hD.sub (ws' := []) [] (by decide) rfl
  have hFc := va_free (wc := []) hD hS hA [] rfl
  refine va_calli (va_runS (As := [.int p0]) (rest := []) ⟨hx, hb, hml, hown, hts⟩ (c_Pars_isRepeat l dC dI cA s.heap.size p0 v_1 hv_1) (va_cwS 1 hts (gS9 k_707 k_708 k_50 k_709) rfl rfl rfl hs_Pars_isRepeat ⟨Nat.le_of_ble_eq_true rfl, Nat.le_of_ble_eq_true rfl⟩) ⟨fun a U g mk q => by obtain ⟨q0, q1, qP, qK, qN, qD⟩ := q; exact ⟨q0, q1, qP, va_K.moved (u := U) (U := U.calling g mk a) (Vm.Alike.refl U.vm) qK, nW_same (u := U) (U := U.calling g mk a) rfl qN, qD⟩, fun U hU hW => ⟨rfl, congrArg _ hU, P_cg hU.symm hPc, va_K.moved hW.alike hK, nW_warm hW hN, hDc.weaken (fun _ _ _ _ => trivial)⟩⟩ rfl rfl hl.1 rfl (lv_room (Nat.le_of_ble_eq_true rfl)) d_Pars_isSign_1 ⟨Nat.zero_le _, Nat.zero_le _⟩) hS (fun q _ h => hFc q h) hFc (fun r u t H locs ht hvm hw hB hz1 hk1 hS => ?_)
  obtain ⟨rfl, rfl⟩ : r = v_1.1 ∧ u = v_1.2 := ⟨(congrArg Prod.fst hw).symm, (congrArg Prod.snd hw).symm⟩
  obtain ⟨hP1, hK1, hD1⟩ := hB
  replace hP1 := P_cg ht hP1
  obtain ⟨hP, hD⟩ := va_join (wc := []) (wr := []) (w1 := []) hP hD [] [] rfl rfl (by decide) (by decide) hk1 hFc hP1 hD1
  have hP : va_P (dC, dI) clA [] H := hP
  have hD : va_D A [] := hD
  refine lv_if_ne (tgt := 31) hx hb d_Pars_isSign_4 (by decide) (fun c_2 => ?_) (fun c_2 => ?_)
  · replace hf := hf.1 c_2
    refine lv_iconst (v := 1) hx hb d_Pars_isSign_31 (by decide) ?_
    refine lv_goto (tgt := 36) hx hb d_Pars_isSign_32 (by decide) ?_
    have hP9 := hP.sub (ws' := []) [] rfl
    have hD9 := hD.sub (ws' := []) [] (by decide) rfl
    refine W_end hQz ?_
    exact W.zret (v := 1) hx hb hr (by decide) (fun t ht hW => ⟨⟨1, (), rfl, hf, P_cg ht.symm hP9, va_K.moved hW.alike hK, hD9⟩, hS.F ht⟩) hS.2.2 d_Pars_isSign_36 hlocks
  · replace hf := hf.2 c_2
    refine lv_iload_n hx hb d_Pars_isSign_7 rfl (lv_at hl 0 rfl) ?_
    refine lv_bipush (v := 62) hx hb d_Pars_isSign_8 (by decide) ?_
    refine lv_icmp_eq (tgt := 31) hx hb d_Pars_isSign_10 (by decide) (fun c_4 => ?_) (fun c_4 => ?_)
    · replace hf := hf.1 c_4
      refine lv_iconst (v := 1) hx hb d_Pars_isSign_31 (by decide) ?_
      refine lv_goto (tgt := 36) hx hb d_Pars_isSign_32 (by decide) ?_
      have hP9 := hP.sub (ws' := []) [] rfl
      have hD9 := hD.sub (ws' := []) [] (by decide) rfl
      refine W_end hQz ?_
      exact W.zret (v := 1) hx hb hr (by decide) (fun t ht hW => ⟨⟨1, (), rfl, hf, P_cg ht.symm hP9, va_K.moved hW.alike hK, hD9⟩, hS.F ht⟩) hS.2.2 d_Pars_isSign_36 hlocks
    · replace hf := hf.2 c_4
      refine lv_iload_n hx hb d_Pars_isSign_13 rfl (lv_at hl 0 rfl) ?_
      refine lv_bipush (v := 64) hx hb d_Pars_isSign_14 (by decide) ?_
      refine lv_icmp_eq (tgt := 31) hx hb d_Pars_isSign_16 (by decide) (fun c_6 => ?_) (fun c_6 => ?_)
      · replace hf := hf.1 c_6
        refine lv_iconst (v := 1) hx hb d_Pars_isSign_31 (by decide) ?_
        refine lv_goto (tgt := 36) hx hb d_Pars_isSign_32 (by decide) ?_
        have hP9 := hP.sub (ws' := []) [] rfl
        have hD9 := hD.sub (ws' := []) [] (by decide) rfl
        refine W_end hQz ?_
        exact W.zret (v := 1) hx hb hr (by decide) (fun t ht hW => ⟨⟨1, (), rfl, hf, P_cg ht.symm hP9, va_K.moved hW.alike hK, hD9⟩, hS.F ht⟩) hS.2.2 d_Pars_isSign_36 hlocks
      · replace hf := hf.2 c_6
        refine lv_iload_n hx hb d_Pars_isSign_19 rfl (lv_at hl 0 rfl) ?_
        refine lv_bipush (v := 36) hx hb d_Pars_isSign_20 (by decide) ?_
        refine lv_icmp_eq (tgt := 31) hx hb d_Pars_isSign_22 (by decide) (fun c_8 => ?_) (fun c_8 => ?_)
        · replace hf := hf.1 c_8
          refine lv_iconst (v := 1) hx hb d_Pars_isSign_31 (by decide) ?_
          refine lv_goto (tgt := 36) hx hb d_Pars_isSign_32 (by decide) ?_
          have hP9 := hP.sub (ws' := []) [] rfl
          have hD9 := hD.sub (ws' := []) [] (by decide) rfl
          refine W_end hQz ?_
          exact W.zret (v := 1) hx hb hr (by decide) (fun t ht hW => ⟨⟨1, (), rfl, hf, P_cg ht.symm hP9, va_K.moved hW.alike hK, hD9⟩, hS.F ht⟩) hS.2.2 d_Pars_isSign_36 hlocks
        · replace hf := hf.2 c_8
          refine lv_iload_n hx hb d_Pars_isSign_25 rfl (lv_at hl 0 rfl) ?_
          refine lv_bipush (v := 37) hx hb d_Pars_isSign_26 (by decide) ?_
          refine lv_icmp_ne (tgt := 35) hx hb d_Pars_isSign_28 (by decide) (fun c_10 => ?_) (fun c_10 => ?_)
          · replace hf := hf.1 c_10
            refine lv_iconst (v := 0) hx hb d_Pars_isSign_35 (by decide) ?_
            have hP9 := hP.sub (ws' := []) [] rfl
            have hD9 := hD.sub (ws' := []) [] (by decide) rfl
            refine W_end hQz ?_
            exact W.zret (v := 0) hx hb hr (by decide) (fun t ht hW => ⟨⟨0, (), rfl, hf, P_cg ht.symm hP9, va_K.moved hW.alike hK, hD9⟩, hS.F ht⟩) hS.2.2 d_Pars_isSign_36 hlocks
          · replace hf := hf.2 c_10
            refine lv_iconst (v := 1) hx hb d_Pars_isSign_31 (by decide) ?_
            refine lv_goto (tgt := 36) hx hb d_Pars_isSign_32 (by decide) ?_
            have hP9 := hP.sub (ws' := []) [] rfl
            have hD9 := hD.sub (ws' := []) [] (by decide) rfl
            refine W_end hQz ?_
            exact W.zret (v := 1) hx hb hr (by decide) (fun t ht hW => ⟨⟨1, (), rfl, hf, P_cg ht.symm hP9, va_K.moved hW.alike hK, hD9⟩, hS.F ht⟩) hS.2.2 d_Pars_isSign_36 hlocks
def R_Pars_here (len : Int32) (ap : Int32) (tx : Nat → Int32)  (out : Int32 × Unit) : Prop := ((len ≤ ap) → (out = (0, ()))) ∧ (¬ (len ≤ ap) → (vp_in ap 80 ∧ (zc (tx ap.toNatClampNeg) ∧ out = ((tx ap.toNatClampNeg), ()))))
set_option maxHeartbeats 4000000 in
set_option maxRecDepth 100000 in
theorem c_Pars_here (l : Launch) (dC : Nat → ClassId) (dI : Nat → Nat → Nat) (cA : Nat → ClassId) (h0 tw n0 e1 e2 e3 : Nat) (sz : Nat) (len : Int32) (ap : Int32) (tx : Nat → Int32)  (out : Int32 × Unit) (hR : R_Pars_here len ap tx  out) : Met l y_Pars_here ws_Pars_here ({ frames := 0, cells := 0, slots := 0, locals := 0 }) (va_Pc [.ref h0] (fun U => U.heap.size = sz ∧ va_P (dC, dI) clA [(h0, .inr (2, [.ref n0, .ref e1, .ref e2, .ref e3, .ref tw, .int len, .int ap])), (tw, .inl ((cA 2), 80, .inl tx))] U.heap ∧ va_K (dC, dI) clA (tysA cA) U ∧ nW U ∧ va_D (fun _ => True) [(h0, .inr (2, [.ref n0, .ref e1, .ref e2, .ref e3, .ref tw, .int len, .int ap])), (tw, .inl ((cA 2), 80, .inl tx))])) (va_Qi (fun (r : Int32) (u : Unit) => out = (r, u)) (fun (u : Unit) (t : State) => va_P (dC, dI) clA [(h0, .inr (2, [.ref n0, .ref e1, .ref e2, .ref e3, .ref tw, .int len, .int ap])), (tw, .inl ((cA 2), 80, .inl tx))] t.heap ∧ va_K (dC, dI) clA (tysA cA) t ∧ va_D (va_A [(h0, .inr (2, [.ref n0, .ref e1, .ref e2, .ref e3, .ref tw, .int len, .int ap])), (tw, .inl ((cA 2), 80, .inl tx))] sz) [(h0, .inr (2, [.ref n0, .ref e1, .ref e2, .ref e3, .ref tw, .int len, .int ap])), (tw, .inl ((cA 2), 80, .inl tx))]) (va_A [(h0, .inr (2, [.ref n0, .ref e1, .ref e2, .ref e3, .ref tw, .int len, .int ap])), (tw, .inl ((cA 2), 80, .inl tx))] sz)) 0 0 (va_A [(h0, .inr (2, [.ref n0, .ref e1, .ref e2, .ref e3, .ref tw, .int len, .int ap])), (tw, .inl ((cA 2), 80, .inl tx))] sz) := by
  refine Met.ofW (cc := b_Pars_here) (maxL := 1) (ret := (some .char)) (by decide) rfl ?_
  intro p e s m args below meth c s₁ B hml hv
  obtain ⟨rfl, hsz, hP, hK, hN, hD0⟩ := hv
  have hx := B.exec
  have hb := B.bytes
  have hr := B.returns
  have hts := atoms_spec (ws := ws_Pars_here) B.pre
  have hown : s.vm.findClass RX2 = some m.cls := findClass_of_methodNamed B.named
  have hlocks := B.notSynchronized
  subst hsz
  have hD := hD0.self (sz := s.heap.size)
  generalize hAe : va_A [(h0, .inr (2, [.ref n0, .ref e1, .ref e2, .ref e3, .ref tw, .int len, .int ap])), (tw, .inl ((cA 2), 80, .inl tx))] s.heap.size = A at hD ⊢
  have hA : ∀ q : Nat, s.heap.size ≤ q → A q := fun q h => by rw [← hAe]; exact Or.inr h
  have hS : va_S A s.heap s.heap [] := va_S.rf
  have hP : va_P (dC, dI) clA [(h0, .inr (2, [.ref n0, .ref e1, .ref e2, .ref e3, .ref tw, .int len, .int ap])), (tw, .inl ((cA 2), 80, .inl tx))] s.heap := hP
  have hl := lv_entry ([.ref h0]) (n := 1) (Nat.le_of_ble_eq_true rfl)
  rw [lg_entry_eq]
  generalize (lg_sl ([.ref h0]) ++ List.replicate (1 - (lg_sl ([.ref h0])).length) Slot.unset).toArray = ls at hl ⊢
  have hl : lv_has ls 1 [(0, .ref h0)] := hl
  refine W_gen (fun Qz hQz => ?_)
  have hf := hR
  unfold R_Pars_here at hf
  refine lv_aload_n hx hb d_Pars_here_0 rfl (lv_at hl 0 rfl) ?_
  refine va_get (D := (dC, dI)) (ci := 2) (v := .int ap) (C := RX2) (T := TX2) (N := 7) hx hb hts (fun w h => List.mem_cons_of_mem _ (in_X2 w h)) hown hK hP 0 rfl rfl 6 (by decide) (hts _ (List.mem_cons_of_mem _ k_157)) (fun _ h9 => h9) rfl d_Pars_here_1 ?_
  refine lv_aload_n hx hb d_Pars_here_4 rfl (lv_at hl 0 rfl) ?_
  refine va_get (D := (dC, dI)) (ci := 2) (v := .int len) (C := RX2) (T := TX2) (N := 7) hx hb hts (fun w h => List.mem_cons_of_mem _ (in_X2 w h)) hown hK hP 0 rfl rfl 5 (by decide) (hts _ (List.mem_cons_of_mem _ k_156)) (fun _ h9 => h9) rfl d_Pars_here_5 ?_
  refine lv_icmp_ge (tgt := 23) hx hb d_Pars_here_8 (by decide) (fun c_1 => ?_) (fun c_1 => ?_)
  · replace hf := hf.1 c_1
    refine lv_iconst (v := 0) hx hb d_Pars_here_23 (by decide) ?_
    have hP9 := hP.sub (ws' := [(h0, .inr (2, [.ref n0, .ref e1, .ref e2, .ref e3, .ref tw, .int len, .int ap])), (tw, .inl ((cA 2), 80, .inl tx))]) [0, 1] rfl
    have hD9 := hD.sub (ws' := [(h0, .inr (2, [.ref n0, .ref e1, .ref e2, .ref e3, .ref tw, .int len, .int ap])), (tw, .inl ((cA 2), 80, .inl tx))]) [0, 1] (by decide) rfl
    refine W_end hQz ?_
    exact W.zret (v := 0) hx hb hr (by decide) (fun t ht hW => ⟨⟨0, (), rfl, hf, P_cg ht.symm hP9, va_K.moved hW.alike hK, hD9⟩, hS.F ht⟩) hS.2.2 d_Pars_here_24 hlocks
  · replace hf := hf.2 c_1
    refine lv_aload_n hx hb d_Pars_here_11 rfl (lv_at hl 0 rfl) ?_
    refine va_get (D := (dC, dI)) (ci := 2) (v := .ref tw) (C := RX2) (T := TX2) (N := 7) hx hb hts (fun w h => List.mem_cons_of_mem _ (in_X2 w h)) hown hK hP 0 rfl rfl 4 (by decide) (hts _ (List.mem_cons_of_mem _ k_155)) (fun _ h9 => h9) rfl d_Pars_here_12 ?_
    refine lv_aload_n hx hb d_Pars_here_15 rfl (lv_at hl 0 rfl) ?_
    refine va_get (D := (dC, dI)) (ci := 2) (v := .int ap) (C := RX2) (T := TX2) (N := 7) hx hb hts (fun w h => List.mem_cons_of_mem _ (in_X2 w h)) hown hK hP 0 rfl rfl 6 (by decide) (hts _ (List.mem_cons_of_mem _ k_157)) (fun _ h9 => h9) rfl d_Pars_here_16 ?_
    obtain ⟨h_3, hf⟩ := hf
    refine va_cald hx hb hK hP 1 2 rfl rfl h_3 d_Pars_here_19 ?_
    refine lv_goto (tgt := 24) hx hb d_Pars_here_20 (by decide) ?_
    obtain ⟨hz, hf⟩ := hf
    have hP9 := hP.sub (ws' := [(h0, .inr (2, [.ref n0, .ref e1, .ref e2, .ref e3, .ref tw, .int len, .int ap])), (tw, .inl ((cA 2), 80, .inl tx))]) [0, 1] rfl
    have hD9 := hD.sub (ws' := [(h0, .inr (2, [.ref n0, .ref e1, .ref e2, .ref e3, .ref tw, .int len, .int ap])), (tw, .inl ((cA 2), 80, .inl tx))]) [0, 1] (by decide) rfl
    refine W_end hQz ?_
    exact W.zret (v := (tx ap.toNatClampNeg)) hx hb hr hz.1 (fun t ht hW => ⟨⟨(tx ap.toNatClampNeg), (), rfl, hf, P_cg ht.symm hP9, va_K.moved hW.alike hK, hD9⟩, hS.F ht⟩) hS.2.2 d_Pars_here_24 hlocks
def g_Pars_next (len : Int32) (tx : Nat → Int32) : Nat → Nat → Int32 → (Int32 × Int32) → Prop
  | 0, _, _, _ => False
  | n + 1, k, ap, out => match k with
    | 1 => ((len ≤ ap) → (((len ≤ ap) → (out = (0, (ap)))) ∧ (¬ (len ≤ ap) → (vp_in ap 80 ∧ (zc (tx ap.toNatClampNeg) ∧ out = ((tx ap.toNatClampNeg), (ap))))))) ∧ (¬ (len ≤ ap) → (vp_in ap 80 ∧ (((¬ (tx ap.toNatClampNeg) = 32) → (((len ≤ ap) → (out = (0, (ap)))) ∧ (¬ (len ≤ ap) → (vp_in ap 80 ∧ (zc (tx ap.toNatClampNeg) ∧ out = ((tx ap.toNatClampNeg), (ap))))))) ∧ (((tx ap.toNatClampNeg) = 32) → (g_Pars_next len tx n 1 (ap + 1) out)))))
    | _ => False
theorem g_Pars_next_1 (len : Int32) (tx : Nat → Int32) (n : Nat) (ap : Int32) (out : Int32 × Int32) : g_Pars_next len tx (n + 1) 1 ap out = (((len ≤ ap) → (((len ≤ ap) → (out = (0, (ap)))) ∧ (¬ (len ≤ ap) → (vp_in ap 80 ∧ (zc (tx ap.toNatClampNeg) ∧ out = ((tx ap.toNatClampNeg), (ap))))))) ∧ (¬ (len ≤ ap) → (vp_in ap 80 ∧ (((¬ (tx ap.toNatClampNeg) = 32) → (((len ≤ ap) → (out = (0, (ap)))) ∧ (¬ (len ≤ ap) → (vp_in ap 80 ∧ (zc (tx ap.toNatClampNeg) ∧ out = ((tx ap.toNatClampNeg), (ap))))))) ∧ (((tx ap.toNatClampNeg) = 32) → (g_Pars_next len tx n 1 (ap + 1) out)))))) := rfl
def R_Pars_next (len : Int32) (tx : Nat → Int32) (ap : Int32) (out : Int32 × Int32) : Prop := (∃ n, g_Pars_next len tx n 1 ap out)
set_option maxHeartbeats 4000000 in
set_option maxRecDepth 100000 in
theorem c_Pars_next (l : Launch) (dC : Nat → ClassId) (dI : Nat → Nat → Nat) (cA : Nat → ClassId) (h0 tw n0 e1 e2 e3 : Nat) (sz : Nat) (len : Int32) (tx : Nat → Int32) (ap : Int32) (out : Int32 × Int32) (hR : R_Pars_next len tx ap out) : Met l y_Pars_next ws_Pars_next ({ frames := 0, cells := 0, slots := 0, locals := 0 }) (va_Pc [.ref h0] (fun U => U.heap.size = sz ∧ va_P (dC, dI) clA [(h0, .inr (2, [.ref n0, .ref e1, .ref e2, .ref e3, .ref tw, .int len, .int ap])), (tw, .inl ((cA 2), 80, .inl tx))] U.heap ∧ va_K (dC, dI) clA (tysA cA) U ∧ nW U ∧ va_D (fun _ => True) [(h0, .inr (2, [.ref n0, .ref e1, .ref e2, .ref e3, .ref tw, .int len, .int ap])), (tw, .inl ((cA 2), 80, .inl tx))])) (va_Qi (fun (r : Int32) (u : Int32) => out = (r, u)) (fun (u : Int32) (t : State) => va_P (dC, dI) clA [(h0, .inr (2, [.ref n0, .ref e1, .ref e2, .ref e3, .ref tw, .int len, .int u])), (tw, .inl ((cA 2), 80, .inl tx))] t.heap ∧ va_K (dC, dI) clA (tysA cA) t ∧ va_D (va_A [(h0, .inr (2, [.ref n0, .ref e1, .ref e2, .ref e3, .ref tw, .int len, .int ap])), (tw, .inl ((cA 2), 80, .inl tx))] sz) [(h0, .inr (2, [.ref n0, .ref e1, .ref e2, .ref e3, .ref tw, .int len, .int u])), (tw, .inl ((cA 2), 80, .inl tx))]) (va_A [(h0, .inr (2, [.ref n0, .ref e1, .ref e2, .ref e3, .ref tw, .int len, .int ap])), (tw, .inl ((cA 2), 80, .inl tx))] sz)) 0 0 (va_A [(h0, .inr (2, [.ref n0, .ref e1, .ref e2, .ref e3, .ref tw, .int len, .int ap])), (tw, .inl ((cA 2), 80, .inl tx))] sz) := by
  refine Met.ofW (cc := b_Pars_next) (maxL := 1) (ret := (some .char)) (by decide) rfl ?_
  intro p e s m args below meth c s₁ B hml hv
  obtain ⟨rfl, hsz, hP, hK, hN, hD0⟩ := hv
  have hx := B.exec
  have hb := B.bytes
  have hr := B.returns
  have hts := atoms_spec (ws := ws_Pars_next) B.pre
  have hown : s.vm.findClass RX2 = some m.cls := findClass_of_methodNamed B.named
  have hlocks := B.notSynchronized
  subst hsz
  have hD := hD0.self (sz := s.heap.size)
  generalize hAe : va_A [(h0, .inr (2, [.ref n0, .ref e1, .ref e2, .ref e3, .ref tw, .int len, .int ap])), (tw, .inl ((cA 2), 80, .inl tx))] s.heap.size = A at hD ⊢
  have hA : ∀ q : Nat, s.heap.size ≤ q → A q := fun q h => by rw [← hAe]; exact Or.inr h
  have hS : va_S A s.heap s.heap [] := va_S.rf
  have hP : va_P (dC, dI) clA [(h0, .inr (2, [.ref n0, .ref e1, .ref e2, .ref e3, .ref tw, .int len, .int ap])), (tw, .inl ((cA 2), 80, .inl tx))] s.heap := hP
  have hl := lv_entry ([.ref h0]) (n := 1) (Nat.le_of_ble_eq_true rfl)
  rw [lg_entry_eq]
  generalize (lg_sl ([.ref h0]) ++ List.replicate (1 - (lg_sl ([.ref h0])).length) Slot.unset).toArray = ls at hl ⊢
  have hl : lv_has ls 1 [(0, .ref h0)] := hl
  refine W_gen (fun Qz hQz => ?_)
  have hC : ∀ n : Nat, (∀ (ap : Int32) (H : Heap) (locs : List Loc) (ls : Array Slot), g_Pars_next len tx n 1 ap out → va_P (dC, dI) clA [(h0, .inr (2, [.ref n0, .ref e1, .ref e2, .ref e3, .ref tw, .int len, .int ap])), (tw, .inl ((cA 2), 80, .inl tx))] H → va_D A [(h0, .inr (2, [.ref n0, .ref e1, .ref e2, .ref e3, .ref tw, .int len, .int ap])), (tw, .inl ((cA 2), 80, .inl tx))] → va_S A s.heap H locs → lv_has ls 1 [(0, .ref h0)] → W p l e ({ frames := 0, cells := 0, slots := 0, locals := 0 }) s m ([.ref h0]).toArray below meth c H locs 0 0 Qz (F0 m 0 ls [])) := by
    intro n
    induction n with
    | zero => exact fun _ _ _ _ hf => hf.elim
    | succ n ih =>
      have ih1 := ih
      · intro ap H locs ls hf hP hD hS hl
        rw [g_Pars_next_1] at hf
        refine lv_aload_n hx hb d_Pars_next_0 rfl (lv_at hl 0 rfl) ?_
        refine va_get (D := (dC, dI)) (ci := 2) (v := .int ap) (C := RX2) (T := TX2) (N := 7) hx hb hts (fun w h => List.mem_cons_of_mem _ (in_X2 w h)) hown hK hP 0 rfl rfl 6 (by decide) (hts _ (List.mem_cons_of_mem _ k_157)) (fun _ h9 => h9) rfl d_Pars_next_1 ?_
        refine lv_aload_n hx hb d_Pars_next_4 rfl (lv_at hl 0 rfl) ?_
        refine va_get (D := (dC, dI)) (ci := 2) (v := .int len) (C := RX2) (T := TX2) (N := 7) hx hb hts (fun w h => List.mem_cons_of_mem _ (in_X2 w h)) hown hK hP 0 rfl rfl 5 (by decide) (hts _ (List.mem_cons_of_mem _ k_156)) (fun _ h9 => h9) rfl d_Pars_next_5 ?_
        refine lv_icmp_ge (tgt := 38) hx hb d_Pars_next_8 (by decide) (fun c_1 => ?_) (fun c_1 => ?_)
        · replace hf := hf.1 c_1
          refine lv_aload_n hx hb d_Pars_next_38 rfl (lv_at hl 0 rfl) ?_
          refine va_get (D := (dC, dI)) (ci := 2) (v := .int ap) (C := RX2) (T := TX2) (N := 7) hx hb hts (fun w h => List.mem_cons_of_mem _ (in_X2 w h)) hown hK hP 0 rfl rfl 6 (by decide) (hts _ (List.mem_cons_of_mem _ k_157)) (fun _ h9 => h9) rfl d_Pars_next_39 ?_
          refine lv_aload_n hx hb d_Pars_next_42 rfl (lv_at hl 0 rfl) ?_
          refine va_get (D := (dC, dI)) (ci := 2) (v := .int len) (C := RX2) (T := TX2) (N := 7) hx hb hts (fun w h => List.mem_cons_of_mem _ (in_X2 w h)) hown hK hP 0 rfl rfl 5 (by decide) (hts _ (List.mem_cons_of_mem _ k_156)) (fun _ h9 => h9) rfl d_Pars_next_43 ?_
          refine lv_icmp_ge (tgt := 61) hx hb d_Pars_next_46 (by decide) (fun c_2 => ?_) (fun c_2 => ?_)
          · replace hf := hf.1 c_2
            refine lv_iconst (v := 0) hx hb d_Pars_next_61 (by decide) ?_
            have hP9 := hP.sub (ws' := [(h0, .inr (2, [.ref n0, .ref e1, .ref e2, .ref e3, .ref tw, .int len, .int ap])), (tw, .inl ((cA 2), 80, .inl tx))]) [0, 1] rfl
            have hD9 := hD.sub (ws' := [(h0, .inr (2, [.ref n0, .ref e1, .ref e2, .ref e3, .ref tw, .int len, .int ap])), (tw, .inl ((cA 2), 80, .inl tx))]) [0, 1] (by decide) rfl
            refine W_end hQz ?_
            exact W.zret (v := 0) hx hb hr (by decide) (fun t ht hW => ⟨⟨0, (ap), rfl, hf, P_cg ht.symm hP9, va_K.moved hW.alike hK, hD9⟩, hS.F ht⟩) hS.2.2 d_Pars_next_62 hlocks
          · replace hf := hf.2 c_2
            refine lv_aload_n hx hb d_Pars_next_49 rfl (lv_at hl 0 rfl) ?_
            refine va_get (D := (dC, dI)) (ci := 2) (v := .ref tw) (C := RX2) (T := TX2) (N := 7) hx hb hts (fun w h => List.mem_cons_of_mem _ (in_X2 w h)) hown hK hP 0 rfl rfl 4 (by decide) (hts _ (List.mem_cons_of_mem _ k_155)) (fun _ h9 => h9) rfl d_Pars_next_50 ?_
            refine lv_aload_n hx hb d_Pars_next_53 rfl (lv_at hl 0 rfl) ?_
            refine va_get (D := (dC, dI)) (ci := 2) (v := .int ap) (C := RX2) (T := TX2) (N := 7) hx hb hts (fun w h => List.mem_cons_of_mem _ (in_X2 w h)) hown hK hP 0 rfl rfl 6 (by decide) (hts _ (List.mem_cons_of_mem _ k_157)) (fun _ h9 => h9) rfl d_Pars_next_54 ?_
            obtain ⟨h_4, hf⟩ := hf
            refine va_cald hx hb hK hP 1 2 rfl rfl h_4 d_Pars_next_57 ?_
            refine lv_goto (tgt := 62) hx hb d_Pars_next_58 (by decide) ?_
            obtain ⟨hz, hf⟩ := hf
            have hP9 := hP.sub (ws' := [(h0, .inr (2, [.ref n0, .ref e1, .ref e2, .ref e3, .ref tw, .int len, .int ap])), (tw, .inl ((cA 2), 80, .inl tx))]) [0, 1] rfl
            have hD9 := hD.sub (ws' := [(h0, .inr (2, [.ref n0, .ref e1, .ref e2, .ref e3, .ref tw, .int len, .int ap])), (tw, .inl ((cA 2), 80, .inl tx))]) [0, 1] (by decide) rfl
            refine W_end hQz ?_
            exact W.zret (v := (tx ap.toNatClampNeg)) hx hb hr hz.1 (fun t ht hW => ⟨⟨(tx ap.toNatClampNeg), (ap), rfl, hf, P_cg ht.symm hP9, va_K.moved hW.alike hK, hD9⟩, hS.F ht⟩) hS.2.2 d_Pars_next_62 hlocks
        · replace hf := hf.2 c_1
          refine lv_aload_n hx hb d_Pars_next_11 rfl (lv_at hl 0 rfl) ?_
          refine va_get (D := (dC, dI)) (ci := 2) (v := .ref tw) (C := RX2) (T := TX2) (N := 7) hx hb hts (fun w h => List.mem_cons_of_mem _ (in_X2 w h)) hown hK hP 0 rfl rfl 4 (by decide) (hts _ (List.mem_cons_of_mem _ k_155)) (fun _ h9 => h9) rfl d_Pars_next_12 ?_
          refine lv_aload_n hx hb d_Pars_next_15 rfl (lv_at hl 0 rfl) ?_
          refine va_get (D := (dC, dI)) (ci := 2) (v := .int ap) (C := RX2) (T := TX2) (N := 7) hx hb hts (fun w h => List.mem_cons_of_mem _ (in_X2 w h)) hown hK hP 0 rfl rfl 6 (by decide) (hts _ (List.mem_cons_of_mem _ k_157)) (fun _ h9 => h9) rfl d_Pars_next_16 ?_
          obtain ⟨h_6, hf⟩ := hf
          refine va_cald hx hb hK hP 1 2 rfl rfl h_6 d_Pars_next_19 ?_
          refine lv_bipush (v := 32) hx hb d_Pars_next_20 (by decide) ?_
          refine lv_icmp_ne (tgt := 38) hx hb d_Pars_next_22 (by decide) (fun c_7 => ?_) (fun c_7 => ?_)
          · replace hf := hf.1 c_7
            refine lv_aload_n hx hb d_Pars_next_38 rfl (lv_at hl 0 rfl) ?_
            refine va_get (D := (dC, dI)) (ci := 2) (v := .int ap) (C := RX2) (T := TX2) (N := 7) hx hb hts (fun w h => List.mem_cons_of_mem _ (in_X2 w h)) hown hK hP 0 rfl rfl 6 (by decide) (hts _ (List.mem_cons_of_mem _ k_157)) (fun _ h9 => h9) rfl d_Pars_next_39 ?_
            refine lv_aload_n hx hb d_Pars_next_42 rfl (lv_at hl 0 rfl) ?_
            refine va_get (D := (dC, dI)) (ci := 2) (v := .int len) (C := RX2) (T := TX2) (N := 7) hx hb hts (fun w h => List.mem_cons_of_mem _ (in_X2 w h)) hown hK hP 0 rfl rfl 5 (by decide) (hts _ (List.mem_cons_of_mem _ k_156)) (fun _ h9 => h9) rfl d_Pars_next_43 ?_
            refine lv_icmp_ge (tgt := 61) hx hb d_Pars_next_46 (by decide) (fun c_8 => ?_) (fun c_8 => ?_)
            · replace hf := hf.1 c_8
              refine lv_iconst (v := 0) hx hb d_Pars_next_61 (by decide) ?_
              have hP9 := hP.sub (ws' := [(h0, .inr (2, [.ref n0, .ref e1, .ref e2, .ref e3, .ref tw, .int len, .int ap])), (tw, .inl ((cA 2), 80, .inl tx))]) [0, 1] rfl
              have hD9 := hD.sub (ws' := [(h0, .inr (2, [.ref n0, .ref e1, .ref e2, .ref e3, .ref tw, .int len, .int ap])), (tw, .inl ((cA 2), 80, .inl tx))]) [0, 1] (by decide) rfl
              refine W_end hQz ?_
              exact W.zret (v := 0) hx hb hr (by decide) (fun t ht hW => ⟨⟨0, (ap), rfl, hf, P_cg ht.symm hP9, va_K.moved hW.alike hK, hD9⟩, hS.F ht⟩) hS.2.2 d_Pars_next_62 hlocks
            · replace hf := hf.2 c_8
              refine lv_aload_n hx hb d_Pars_next_49 rfl (lv_at hl 0 rfl) ?_
              refine va_get (D := (dC, dI)) (ci := 2) (v := .ref tw) (C := RX2) (T := TX2) (N := 7) hx hb hts (fun w h => List.mem_cons_of_mem _ (in_X2 w h)) hown hK hP 0 rfl rfl 4 (by decide) (hts _ (List.mem_cons_of_mem _ k_155)) (fun _ h9 => h9) rfl d_Pars_next_50 ?_
              refine lv_aload_n hx hb d_Pars_next_53 rfl (lv_at hl 0 rfl) ?_
              refine va_get (D := (dC, dI)) (ci := 2) (v := .int ap) (C := RX2) (T := TX2) (N := 7) hx hb hts (fun w h => List.mem_cons_of_mem _ (in_X2 w h)) hown hK hP 0 rfl rfl 6 (by decide) (hts _ (List.mem_cons_of_mem _ k_157)) (fun _ h9 => h9) rfl d_Pars_next_54 ?_
              obtain ⟨h_10, hf⟩ := hf
              refine va_cald hx hb hK hP 1 2 rfl rfl h_10 d_Pars_next_57 ?_
              refine lv_goto (tgt := 62) hx hb d_Pars_next_58 (by decide) ?_
              obtain ⟨hz, hf⟩ := hf
              have hP9 := hP.sub (ws' := [(h0, .inr (2, [.ref n0, .ref e1, .ref e2, .ref e3, .ref tw, .int len, .int ap])), (tw, .inl ((cA 2), 80, .inl tx))]) [0, 1] rfl
              have hD9 := hD.sub (ws' := [(h0, .inr (2, [.ref n0, .ref e1, .ref e2, .ref e3, .ref tw, .int len, .int ap])), (tw, .inl ((cA 2), 80, .inl tx))]) [0, 1] (by decide) rfl
              refine W_end hQz ?_
              exact W.zret (v := (tx ap.toNatClampNeg)) hx hb hr hz.1 (fun t ht hW => ⟨⟨(tx ap.toNatClampNeg), (ap), rfl, hf, P_cg ht.symm hP9, va_K.moved hW.alike hK, hD9⟩, hS.F ht⟩) hS.2.2 d_Pars_next_62 hlocks
          · replace hf := hf.2 c_7
            refine lv_aload_n hx hb d_Pars_next_25 rfl (lv_at hl 0 rfl) ?_
            refine lv_dup hx hb d_Pars_next_26 rfl ?_
            refine va_get (D := (dC, dI)) (ci := 2) (v := .int ap) (C := RX2) (T := TX2) (N := 7) hx hb hts (fun w h => List.mem_cons_of_mem _ (in_X2 w h)) hown hK hP 0 rfl rfl 6 (by decide) (hts _ (List.mem_cons_of_mem _ k_157)) (fun _ h9 => h9) rfl d_Pars_next_27 ?_
            refine lv_iconst (v := 1) hx hb d_Pars_next_30 (by decide) ?_
            refine lv_iadd hx hb d_Pars_next_31 ?_
            refine va_put (D := (dC, dI)) (ci := 2) (v := .int (ap + 1)) (ty := .int) (C := RX2) (T := TX2) (N := 7) hx hb hts (fun w h => List.mem_cons_of_mem _ (in_X2 w h)) tyX2 tyX2_ok nmX2 hown hK hP hD hS 0 rfl rfl 6 (by decide) (hts _ (List.mem_cons_of_mem _ k_157)) (fun _ h9 => h9) rfl (tyX2_ok 6 (by decide)) rfl rfl (Nat.le_of_ble_eq_true rfl) d_Pars_next_32 (fun H locs hP hD hS => ?_)
            have hP : va_P (dC, dI) clA [(h0, .inr (2, [.ref n0, .ref e1, .ref e2, .ref e3, .ref tw, .int len, .int (ap + 1)])), (tw, .inl ((cA 2), 80, .inl tx))] H := hP
            have hD : va_D A [(h0, .inr (2, [.ref n0, .ref e1, .ref e2, .ref e3, .ref tw, .int len, .int (ap + 1)])), (tw, .inl ((cA 2), 80, .inl tx))] := hD
            refine lv_goto (tgt := 0) hx hb d_Pars_next_35 (by decide) ?_
            exact ih1 _ _ _ _ hf (hP.sub [0, 1] rfl) (hD.sub [0, 1] (by decide) rfl) hS (lv_sub hl [0] rfl)
  have hf := hR
  unfold R_Pars_next at hf
  obtain ⟨n, hf⟩ := hf
  exact (hC n) _ _ _ _ hf (hP.sub [0, 1] rfl) (hD.sub [0, 1] (by decide) rfl) hS (lv_sub hl [0] rfl)
def g_Pars_readLetters (len : Int32) (tx : Nat → Int32) : Nat → Nat → Int32 → Int32 → (Int32 × Int32) → Prop
  | 0, _, _, _, _ => False
  | n + 1, k, x1, ap, out => match k with
    | 1 => ((len ≤ ap) → (((x1 = 0) → (out = (0, (ap)))) ∧ (¬ (x1 = 0) → (∃ v_4, R_Pars_here len ap tx v_4 ∧ (((v_4.1 = 93) → (out = (x1, ((ap + 1))))) ∧ (¬ (v_4.1 = 93) → (out = (0, (ap))))))))) ∧ (¬ (len ≤ ap) → (vp_in ap 80 ∧ (∃ v_9, R_Pars_isLetter (tx ap.toNatClampNeg) v_9 ∧ (((v_9.1 = 0) → (((x1 = 0) → (out = (0, (ap)))) ∧ (¬ (x1 = 0) → (∃ v_13, R_Pars_here len ap tx v_13 ∧ (((v_13.1 = 93) → (out = (x1, ((ap + 1))))) ∧ (¬ (v_13.1 = 93) → (out = (0, (ap))))))))) ∧ (¬ (v_9.1 = 0) → (vp_in ap 80 ∧ (∃ v_18, R_Pars_letterBit (tx ap.toNatClampNeg) v_18 ∧ (g_Pars_readLetters len tx n 1 (x1 ||| v_18.1) (ap + 1) out))))))))
    | _ => False
theorem g_Pars_readLetters_1 (len : Int32) (tx : Nat → Int32) (n : Nat) (x1 : Int32) (ap : Int32) (out : Int32 × Int32) : g_Pars_readLetters len tx (n + 1) 1 x1 ap out = (((len ≤ ap) → (((x1 = 0) → (out = (0, (ap)))) ∧ (¬ (x1 = 0) → (∃ v_4, R_Pars_here len ap tx v_4 ∧ (((v_4.1 = 93) → (out = (x1, ((ap + 1))))) ∧ (¬ (v_4.1 = 93) → (out = (0, (ap))))))))) ∧ (¬ (len ≤ ap) → (vp_in ap 80 ∧ (∃ v_9, R_Pars_isLetter (tx ap.toNatClampNeg) v_9 ∧ (((v_9.1 = 0) → (((x1 = 0) → (out = (0, (ap)))) ∧ (¬ (x1 = 0) → (∃ v_13, R_Pars_here len ap tx v_13 ∧ (((v_13.1 = 93) → (out = (x1, ((ap + 1))))) ∧ (¬ (v_13.1 = 93) → (out = (0, (ap))))))))) ∧ (¬ (v_9.1 = 0) → (vp_in ap 80 ∧ (∃ v_18, R_Pars_letterBit (tx ap.toNatClampNeg) v_18 ∧ (g_Pars_readLetters len tx n 1 (x1 ||| v_18.1) (ap + 1) out))))))))) := rfl
def R_Pars_readLetters (len : Int32) (tx : Nat → Int32) (ap : Int32) (out : Int32 × Int32) : Prop := (∃ n, g_Pars_readLetters len tx n 1 0 ap out)
set_option maxHeartbeats 4000000 in
set_option maxRecDepth 100000 in
theorem c_Pars_readLetters (l : Launch) (dC : Nat → ClassId) (dI : Nat → Nat → Nat) (cA : Nat → ClassId) (h0 tw n0 e1 e2 e3 : Nat) (sz : Nat) (len : Int32) (tx : Nat → Int32) (ap : Int32) (out : Int32 × Int32) (hR : R_Pars_readLetters len tx ap out) : Met l y_Pars_readLetters ws_Pars_readLetters ({ frames := 1, cells := 0, slots := 0, locals := 20 }) (va_Pc [.ref h0] (fun U => U.heap.size = sz ∧ va_P (dC, dI) clA [(h0, .inr (2, [.ref n0, .ref e1, .ref e2, .ref e3, .ref tw, .int len, .int ap])), (tw, .inl ((cA 2), 80, .inl tx))] U.heap ∧ va_K (dC, dI) clA (tysA cA) U ∧ nW U ∧ va_D (fun _ => True) [(h0, .inr (2, [.ref n0, .ref e1, .ref e2, .ref e3, .ref tw, .int len, .int ap])), (tw, .inl ((cA 2), 80, .inl tx))])) (va_Qi (fun (r : Int32) (u : Int32) => out = (r, u)) (fun (u : Int32) (t : State) => va_P (dC, dI) clA [(h0, .inr (2, [.ref n0, .ref e1, .ref e2, .ref e3, .ref tw, .int len, .int u])), (tw, .inl ((cA 2), 80, .inl tx))] t.heap ∧ va_K (dC, dI) clA (tysA cA) t ∧ va_D (va_A [(h0, .inr (2, [.ref n0, .ref e1, .ref e2, .ref e3, .ref tw, .int len, .int ap])), (tw, .inl ((cA 2), 80, .inl tx))] sz) [(h0, .inr (2, [.ref n0, .ref e1, .ref e2, .ref e3, .ref tw, .int len, .int u])), (tw, .inl ((cA 2), 80, .inl tx))]) (va_A [(h0, .inr (2, [.ref n0, .ref e1, .ref e2, .ref e3, .ref tw, .int len, .int ap])), (tw, .inl ((cA 2), 80, .inl tx))] sz)) 0 0 (va_A [(h0, .inr (2, [.ref n0, .ref e1, .ref e2, .ref e3, .ref tw, .int len, .int ap])), (tw, .inl ((cA 2), 80, .inl tx))] sz) := by
  refine Met.ofW (cc := b_Pars_readLetters) (maxL := 2) (ret := (some .int)) (by decide) rfl ?_
  intro p e s m args below meth c s₁ B hml hv
  obtain ⟨rfl, hsz, hP, hK, hN, hD0⟩ := hv
  have hx := B.exec
  have hb := B.bytes
  have hr := B.returns
  have hts := atoms_spec (ws := ws_Pars_readLetters) B.pre
  have hown : s.vm.findClass RX2 = some m.cls := findClass_of_methodNamed B.named
  have hlocks := B.notSynchronized
  subst hsz
  have hD := hD0.self (sz := s.heap.size)
  generalize hAe : va_A [(h0, .inr (2, [.ref n0, .ref e1, .ref e2, .ref e3, .ref tw, .int len, .int ap])), (tw, .inl ((cA 2), 80, .inl tx))] s.heap.size = A at hD ⊢
  have hA : ∀ q : Nat, s.heap.size ≤ q → A q := fun q h => by rw [← hAe]; exact Or.inr h
  have hS : va_S A s.heap s.heap [] := va_S.rf
  have hP : va_P (dC, dI) clA [(h0, .inr (2, [.ref n0, .ref e1, .ref e2, .ref e3, .ref tw, .int len, .int ap])), (tw, .inl ((cA 2), 80, .inl tx))] s.heap := hP
  have hl := lv_entry ([.ref h0]) (n := 2) (Nat.le_of_ble_eq_true rfl)
  rw [lg_entry_eq]
  generalize (lg_sl ([.ref h0]) ++ List.replicate (2 - (lg_sl ([.ref h0])).length) Slot.unset).toArray = ls at hl ⊢
  have hl : lv_has ls 2 [(0, .ref h0)] := hl
  refine W_gen (fun Qz hQz => ?_)
  have hC : ∀ n : Nat, (∀ (x1 : Int32) (ap : Int32) (H : Heap) (locs : List Loc) (ls : Array Slot), g_Pars_readLetters len tx n 1 x1 ap out → va_P (dC, dI) clA [(h0, .inr (2, [.ref n0, .ref e1, .ref e2, .ref e3, .ref tw, .int len, .int ap])), (tw, .inl ((cA 2), 80, .inl tx))] H → va_D A [(h0, .inr (2, [.ref n0, .ref e1, .ref e2, .ref e3, .ref tw, .int len, .int ap])), (tw, .inl ((cA 2), 80, .inl tx))] → va_S A s.heap H locs → lv_has ls 2 [(0, .ref h0), (1, .int x1)] → W p l e ({ frames := 1, cells := 0, slots := 0, locals := 20 }) s m ([.ref h0]).toArray below meth c H locs 0 0 Qz (F0 m 2 ls [])) := by
    intro n
    induction n with
    | zero => exact fun _ _ _ _ _ hf => hf.elim
    | succ n ih =>
      have ih1 := ih
      · intro x1 ap H locs ls hf hP hD hS hl
        rw [g_Pars_readLetters_1] at hf
        refine lv_aload_n hx hb d_Pars_readLetters_2 rfl (lv_at hl 0 rfl) ?_
        refine va_get (D := (dC, dI)) (ci := 2) (v := .int ap) (C := RX2) (T := TX2) (N := 7) hx hb hts (fun w h => List.mem_cons_of_mem _ (in_X2 w h)) hown hK hP 0 rfl rfl 6 (by decide) (hts _ (List.mem_cons_of_mem _ k_157)) (fun _ h9 => h9) rfl d_Pars_readLetters_3 ?_
        refine lv_aload_n hx hb d_Pars_readLetters_6 rfl (lv_at hl 0 rfl) ?_
        refine va_get (D := (dC, dI)) (ci := 2) (v := .int len) (C := RX2) (T := TX2) (N := 7) hx hb hts (fun w h => List.mem_cons_of_mem _ (in_X2 w h)) hown hK hP 0 rfl rfl 5 (by decide) (hts _ (List.mem_cons_of_mem _ k_156)) (fun _ h9 => h9) rfl d_Pars_readLetters_7 ?_
        refine lv_icmp_ge (tgt := 56) hx hb d_Pars_readLetters_10 (by decide) (fun c_1 => ?_) (fun c_1 => ?_)
        · replace hf := hf.1 c_1
          refine lv_iload_n hx hb d_Pars_readLetters_56 rfl (lv_at hl 1 rfl) ?_
          refine lv_if_eq (tgt := 69) hx hb d_Pars_readLetters_57 (by decide) (fun c_2 => ?_) (fun c_2 => ?_)
          · replace hf := hf.1 c_2
            refine lv_iconst (v := 0) hx hb d_Pars_readLetters_69 (by decide) ?_
            have hP9 := hP.sub (ws' := [(h0, .inr (2, [.ref n0, .ref e1, .ref e2, .ref e3, .ref tw, .int len, .int ap])), (tw, .inl ((cA 2), 80, .inl tx))]) [0, 1] rfl
            have hD9 := hD.sub (ws' := [(h0, .inr (2, [.ref n0, .ref e1, .ref e2, .ref e3, .ref tw, .int len, .int ap])), (tw, .inl ((cA 2), 80, .inl tx))]) [0, 1] (by decide) rfl
            refine W_end hQz ?_
            exact W.iret (v := 0) hx hb hr (fun t ht hW => ⟨⟨0, (ap), rfl, hf, P_cg ht.symm hP9, va_K.moved hW.alike hK, hD9⟩, hS.F ht⟩) hS.2.2 d_Pars_readLetters_70 hlocks
          · replace hf := hf.2 c_2
            refine lv_aload_n hx hb d_Pars_readLetters_60 rfl (lv_at hl 0 rfl) ?_
            obtain ⟨v_4, hv_4, hf⟩ := hf
            have hPc := hP.sub (ws' := [(h0, .inr (2, [.ref n0, .ref e1, .ref e2, .ref e3, .ref tw, .int len, .int ap])), (tw, .inl ((cA 2), 80, .inl tx))]) [0, 1] rfl
            have hDc := hD.sub (ws' := [(h0, .inr (2, [.ref n0, .ref e1, .ref e2, .ref e3, .ref tw, .int len, .int ap])), (tw, .inl ((cA 2), 80, .inl tx))]) [0, 1] (by decide) rfl
            have hFc := va_free (wc := [(h0, .inr (2, [.ref n0, .ref e1, .ref e2, .ref e3, .ref tw, .int len, .int ap])), (tw, .inl ((cA 2), 80, .inl tx))]) hD hS hA [0, 1] rfl
            refine va_calli (va_runV (As := []) (rest := []) ⟨hx, hb, hml, hown, hts⟩ (c_Pars_here l dC dI cA h0 tw n0 e1 e2 e3 H.size len ap tx v_4 hv_4) (cwV 0 hts (gV9 k_434 k_436 k_9 k_50 k_437) rfl rfl rfl hv_Pars_here ⟨Nat.le_of_ble_eq_true rfl, Nat.le_of_ble_eq_true rfl⟩) ⟨fun a U g mk q => by obtain ⟨q0, q1, qP, qK, qN, qD⟩ := q; exact ⟨q0, q1, qP, va_K.moved (u := U) (U := U.calling g mk a) (Vm.Alike.refl U.vm) qK, nW_same (u := U) (U := U.calling g mk a) rfl qN, qD⟩, va_recv hK hPc (ci := 2) (q0 := 0) rfl rfl, fun U hU hW => ⟨rfl, congrArg _ hU, P_cg hU.symm hPc, va_K.moved hW.alike hK, nW_warm hW hN, hDc.weaken (fun _ _ _ _ => trivial)⟩⟩ rfl rfl hl.1 rfl (lv_room (Nat.le_of_ble_eq_true rfl)) d_Pars_readLetters_61 ⟨Nat.zero_le _, Nat.zero_le _⟩) hS (fun q _ h => hFc q h) hFc (fun r u t H locs ht hvm hw hB hz1 hk1 hS => ?_)
            obtain ⟨rfl, rfl⟩ : r = v_4.1 ∧ u = v_4.2 := ⟨(congrArg Prod.fst hw).symm, (congrArg Prod.snd hw).symm⟩
            obtain ⟨hP1, hK1, hD1⟩ := hB
            replace hP1 := P_cg ht hP1
            obtain ⟨hP, hD⟩ := va_join (wc := [(h0, .inr (2, [.ref n0, .ref e1, .ref e2, .ref e3, .ref tw, .int len, .int ap])), (tw, .inl ((cA 2), 80, .inl tx))]) (wr := []) (w1 := [(h0, .inr (2, [.ref n0, .ref e1, .ref e2, .ref e3, .ref tw, .int len, .int ap])), (tw, .inl ((cA 2), 80, .inl tx))]) hP hD [0, 1] [] rfl rfl (by decide) (by decide) hk1 hFc hP1 hD1
            have hP : va_P (dC, dI) clA [(h0, .inr (2, [.ref n0, .ref e1, .ref e2, .ref e3, .ref tw, .int len, .int ap])), (tw, .inl ((cA 2), 80, .inl tx))] H := hP
            have hD : va_D A [(h0, .inr (2, [.ref n0, .ref e1, .ref e2, .ref e3, .ref tw, .int len, .int ap])), (tw, .inl ((cA 2), 80, .inl tx))] := hD
            refine lv_bipush (v := 93) hx hb d_Pars_readLetters_64 (by decide) ?_
            refine lv_icmp_eq (tgt := 71) hx hb d_Pars_readLetters_66 (by decide) (fun c_5 => ?_) (fun c_5 => ?_)
            · replace hf := hf.1 c_5
              refine lv_aload_n hx hb d_Pars_readLetters_71 rfl (lv_at hl 0 rfl) ?_
              refine lv_dup hx hb d_Pars_readLetters_72 rfl ?_
              refine va_get (D := (dC, dI)) (ci := 2) (v := .int ap) (C := RX2) (T := TX2) (N := 7) hx hb hts (fun w h => List.mem_cons_of_mem _ (in_X2 w h)) hown hK hP 0 rfl rfl 6 (by decide) (hts _ (List.mem_cons_of_mem _ k_157)) (fun _ h9 => h9) rfl d_Pars_readLetters_73 ?_
              refine lv_iconst (v := 1) hx hb d_Pars_readLetters_76 (by decide) ?_
              refine lv_iadd hx hb d_Pars_readLetters_77 ?_
              refine va_put (D := (dC, dI)) (ci := 2) (v := .int (ap + 1)) (ty := .int) (C := RX2) (T := TX2) (N := 7) hx hb hts (fun w h => List.mem_cons_of_mem _ (in_X2 w h)) tyX2 tyX2_ok nmX2 hown hK hP hD hS 0 rfl rfl 6 (by decide) (hts _ (List.mem_cons_of_mem _ k_157)) (fun _ h9 => h9) rfl (tyX2_ok 6 (by decide)) rfl rfl (Nat.le_of_ble_eq_true rfl) d_Pars_readLetters_78 (fun H locs hP hD hS => ?_)
              have hP : va_P (dC, dI) clA [(h0, .inr (2, [.ref n0, .ref e1, .ref e2, .ref e3, .ref tw, .int len, .int (ap + 1)])), (tw, .inl ((cA 2), 80, .inl tx))] H := hP
              have hD : va_D A [(h0, .inr (2, [.ref n0, .ref e1, .ref e2, .ref e3, .ref tw, .int len, .int (ap + 1)])), (tw, .inl ((cA 2), 80, .inl tx))] := hD
              refine lv_iload_n hx hb d_Pars_readLetters_81 rfl (lv_at hl 1 rfl) ?_
              have hP9 := hP.sub (ws' := [(h0, .inr (2, [.ref n0, .ref e1, .ref e2, .ref e3, .ref tw, .int len, .int (ap + 1)])), (tw, .inl ((cA 2), 80, .inl tx))]) [0, 1] rfl
              have hD9 := hD.sub (ws' := [(h0, .inr (2, [.ref n0, .ref e1, .ref e2, .ref e3, .ref tw, .int len, .int (ap + 1)])), (tw, .inl ((cA 2), 80, .inl tx))]) [0, 1] (by decide) rfl
              refine W_end hQz ?_
              exact W.iret (v := x1) hx hb hr (fun t ht hW => ⟨⟨x1, ((ap + 1)), rfl, hf, P_cg ht.symm hP9, va_K.moved hW.alike hK, hD9⟩, hS.F ht⟩) hS.2.2 d_Pars_readLetters_82 hlocks
            · replace hf := hf.2 c_5
              refine lv_iconst (v := 0) hx hb d_Pars_readLetters_69 (by decide) ?_
              have hP9 := hP.sub (ws' := [(h0, .inr (2, [.ref n0, .ref e1, .ref e2, .ref e3, .ref tw, .int len, .int ap])), (tw, .inl ((cA 2), 80, .inl tx))]) [0, 1] rfl
              have hD9 := hD.sub (ws' := [(h0, .inr (2, [.ref n0, .ref e1, .ref e2, .ref e3, .ref tw, .int len, .int ap])), (tw, .inl ((cA 2), 80, .inl tx))]) [0, 1] (by decide) rfl
              refine W_end hQz ?_
              exact W.iret (v := 0) hx hb hr (fun t ht hW => ⟨⟨0, (ap), rfl, hf, P_cg ht.symm hP9, va_K.moved hW.alike hK, hD9⟩, hS.F ht⟩) hS.2.2 d_Pars_readLetters_70 hlocks
        · replace hf := hf.2 c_1
          refine lv_aload_n hx hb d_Pars_readLetters_13 rfl (lv_at hl 0 rfl) ?_
          refine va_get (D := (dC, dI)) (ci := 2) (v := .ref tw) (C := RX2) (T := TX2) (N := 7) hx hb hts (fun w h => List.mem_cons_of_mem _ (in_X2 w h)) hown hK hP 0 rfl rfl 4 (by decide) (hts _ (List.mem_cons_of_mem _ k_155)) (fun _ h9 => h9) rfl d_Pars_readLetters_14 ?_
          refine lv_aload_n hx hb d_Pars_readLetters_17 rfl (lv_at hl 0 rfl) ?_
          refine va_get (D := (dC, dI)) (ci := 2) (v := .int ap) (C := RX2) (T := TX2) (N := 7) hx hb hts (fun w h => List.mem_cons_of_mem _ (in_X2 w h)) hown hK hP 0 rfl rfl 6 (by decide) (hts _ (List.mem_cons_of_mem _ k_157)) (fun _ h9 => h9) rfl d_Pars_readLetters_18 ?_
          obtain ⟨h_8, hf⟩ := hf
          refine va_cald hx hb hK hP 1 2 rfl rfl h_8 d_Pars_readLetters_21 ?_
          obtain ⟨v_9, hv_9, hf⟩ := hf
          have hPc := hP.sub (ws' := []) [] rfl
          have hDc := hD.sub (ws' := []) [] (by decide) rfl
          have hFc := va_free (wc := []) hD hS hA [] rfl
          refine va_calli (va_runS (As := [.int (tx ap.toNatClampNeg)]) (rest := []) ⟨hx, hb, hml, hown, hts⟩ (c_Pars_isLetter l dC dI cA H.size (tx ap.toNatClampNeg) v_9 hv_9) (va_cwS 1 hts (gS9 k_420 k_421 k_50 k_422) rfl rfl rfl hs_Pars_isLetter ⟨Nat.le_of_ble_eq_true rfl, Nat.le_of_ble_eq_true rfl⟩) ⟨fun a U g mk q => by obtain ⟨q0, q1, qP, qK, qN, qD⟩ := q; exact ⟨q0, q1, qP, va_K.moved (u := U) (U := U.calling g mk a) (Vm.Alike.refl U.vm) qK, nW_same (u := U) (U := U.calling g mk a) rfl qN, qD⟩, fun U hU hW => ⟨rfl, congrArg _ hU, P_cg hU.symm hPc, va_K.moved hW.alike hK, nW_warm hW hN, hDc.weaken (fun _ _ _ _ => trivial)⟩⟩ rfl rfl hl.1 rfl (lv_room (Nat.le_of_ble_eq_true rfl)) d_Pars_readLetters_22 ⟨Nat.zero_le _, Nat.zero_le _⟩) hS (fun q _ h => hFc q h) hFc (fun r u t H locs ht hvm hw hB hz1 hk1 hS => ?_)
          obtain ⟨rfl, rfl⟩ : r = v_9.1 ∧ u = v_9.2 := ⟨(congrArg Prod.fst hw).symm, (congrArg Prod.snd hw).symm⟩
          obtain ⟨hP1, hK1, hD1⟩ := hB
          replace hP1 := P_cg ht hP1
          obtain ⟨hP, hD⟩ := va_join (wc := []) (wr := [(h0, .inr (2, [.ref n0, .ref e1, .ref e2, .ref e3, .ref tw, .int len, .int ap])), (tw, .inl ((cA 2), 80, .inl tx))]) (w1 := []) hP hD [] [0, 1] rfl rfl (by decide) (by decide) hk1 hFc hP1 hD1
          have hP : va_P (dC, dI) clA [(h0, .inr (2, [.ref n0, .ref e1, .ref e2, .ref e3, .ref tw, .int len, .int ap])), (tw, .inl ((cA 2), 80, .inl tx))] H := hP
          have hD : va_D A [(h0, .inr (2, [.ref n0, .ref e1, .ref e2, .ref e3, .ref tw, .int len, .int ap])), (tw, .inl ((cA 2), 80, .inl tx))] := hD
          refine lv_if_eq (tgt := 56) hx hb d_Pars_readLetters_25 (by decide) (fun c_10 => ?_) (fun c_10 => ?_)
          · replace hf := hf.1 c_10
            refine lv_iload_n hx hb d_Pars_readLetters_56 rfl (lv_at hl 1 rfl) ?_
            refine lv_if_eq (tgt := 69) hx hb d_Pars_readLetters_57 (by decide) (fun c_11 => ?_) (fun c_11 => ?_)
            · replace hf := hf.1 c_11
              refine lv_iconst (v := 0) hx hb d_Pars_readLetters_69 (by decide) ?_
              have hP9 := hP.sub (ws' := [(h0, .inr (2, [.ref n0, .ref e1, .ref e2, .ref e3, .ref tw, .int len, .int ap])), (tw, .inl ((cA 2), 80, .inl tx))]) [0, 1] rfl
              have hD9 := hD.sub (ws' := [(h0, .inr (2, [.ref n0, .ref e1, .ref e2, .ref e3, .ref tw, .int len, .int ap])), (tw, .inl ((cA 2), 80, .inl tx))]) [0, 1] (by decide) rfl
              refine W_end hQz ?_
              exact W.iret (v := 0) hx hb hr (fun t ht hW => ⟨⟨0, (ap), rfl, hf, P_cg ht.symm hP9, va_K.moved hW.alike hK, hD9⟩, hS.F ht⟩) hS.2.2 d_Pars_readLetters_70 hlocks
            · replace hf := hf.2 c_11
              refine lv_aload_n hx hb d_Pars_readLetters_60 rfl (lv_at hl 0 rfl) ?_
              obtain ⟨v_13, hv_13, hf⟩ := hf
              have hPc := hP.sub (ws' := [(h0, .inr (2, [.ref n0, .ref e1, .ref e2, .ref e3, .ref tw, .int len, .int ap])), (tw, .inl ((cA 2), 80, .inl tx))]) [0, 1] rfl
              have hDc := hD.sub (ws' := [(h0, .inr (2, [.ref n0, .ref e1, .ref e2, .ref e3, .ref tw, .int len, .int ap])), (tw, .inl ((cA 2), 80, .inl tx))]) [0, 1] (by decide) rfl
              have hFc := va_free (wc := [(h0, .inr (2, [.ref n0, .ref e1, .ref e2, .ref e3, .ref tw, .int len, .int ap])), (tw, .inl ((cA 2), 80, .inl tx))]) hD hS hA [0, 1] rfl
              refine va_calli (va_runV (As := []) (rest := []) ⟨hx, hb, hml, hown, hts⟩ (c_Pars_here l dC dI cA h0 tw n0 e1 e2 e3 H.size len ap tx v_13 hv_13) (cwV 0 hts (gV9 k_434 k_436 k_9 k_50 k_437) rfl rfl rfl hv_Pars_here ⟨Nat.le_of_ble_eq_true rfl, Nat.le_of_ble_eq_true rfl⟩) ⟨fun a U g mk q => by obtain ⟨q0, q1, qP, qK, qN, qD⟩ := q; exact ⟨q0, q1, qP, va_K.moved (u := U) (U := U.calling g mk a) (Vm.Alike.refl U.vm) qK, nW_same (u := U) (U := U.calling g mk a) rfl qN, qD⟩, va_recv hK hPc (ci := 2) (q0 := 0) rfl rfl, fun U hU hW => ⟨rfl, congrArg _ hU, P_cg hU.symm hPc, va_K.moved hW.alike hK, nW_warm hW hN, hDc.weaken (fun _ _ _ _ => trivial)⟩⟩ rfl rfl hl.1 rfl (lv_room (Nat.le_of_ble_eq_true rfl)) d_Pars_readLetters_61 ⟨Nat.zero_le _, Nat.zero_le _⟩) hS (fun q _ h => hFc q h) hFc (fun r u t H locs ht hvm hw hB hz1 hk1 hS => ?_)
              obtain ⟨rfl, rfl⟩ : r = v_13.1 ∧ u = v_13.2 := ⟨(congrArg Prod.fst hw).symm, (congrArg Prod.snd hw).symm⟩
              obtain ⟨hP1, hK1, hD1⟩ := hB
              replace hP1 := P_cg ht hP1
              obtain ⟨hP, hD⟩ := va_join (wc := [(h0, .inr (2, [.ref n0, .ref e1, .ref e2, .ref e3, .ref tw, .int len, .int ap])), (tw, .inl ((cA 2), 80, .inl tx))]) (wr := []) (w1 := [(h0, .inr (2, [.ref n0, .ref e1, .ref e2, .ref e3, .ref tw, .int len, .int ap])), (tw, .inl ((cA 2), 80, .inl tx))]) hP hD [0, 1] [] rfl rfl (by decide) (by decide) hk1 hFc hP1 hD1
              have hP : va_P (dC, dI) clA [(h0, .inr (2, [.ref n0, .ref e1, .ref e2, .ref e3, .ref tw, .int len, .int ap])), (tw, .inl ((cA 2), 80, .inl tx))] H := hP
              have hD : va_D A [(h0, .inr (2, [.ref n0, .ref e1, .ref e2, .ref e3, .ref tw, .int len, .int ap])), (tw, .inl ((cA 2), 80, .inl tx))] := hD
              refine lv_bipush (v := 93) hx hb d_Pars_readLetters_64 (by decide) ?_
              refine lv_icmp_eq (tgt := 71) hx hb d_Pars_readLetters_66 (by decide) (fun c_14 => ?_) (fun c_14 => ?_)
              · replace hf := hf.1 c_14
                refine lv_aload_n hx hb d_Pars_readLetters_71 rfl (lv_at hl 0 rfl) ?_
                refine lv_dup hx hb d_Pars_readLetters_72 rfl ?_
                refine va_get (D := (dC, dI)) (ci := 2) (v := .int ap) (C := RX2) (T := TX2) (N := 7) hx hb hts (fun w h => List.mem_cons_of_mem _ (in_X2 w h)) hown hK hP 0 rfl rfl 6 (by decide) (hts _ (List.mem_cons_of_mem _ k_157)) (fun _ h9 => h9) rfl d_Pars_readLetters_73 ?_
                refine lv_iconst (v := 1) hx hb d_Pars_readLetters_76 (by decide) ?_
                refine lv_iadd hx hb d_Pars_readLetters_77 ?_
                refine va_put (D := (dC, dI)) (ci := 2) (v := .int (ap + 1)) (ty := .int) (C := RX2) (T := TX2) (N := 7) hx hb hts (fun w h => List.mem_cons_of_mem _ (in_X2 w h)) tyX2 tyX2_ok nmX2 hown hK hP hD hS 0 rfl rfl 6 (by decide) (hts _ (List.mem_cons_of_mem _ k_157)) (fun _ h9 => h9) rfl (tyX2_ok 6 (by decide)) rfl rfl (Nat.le_of_ble_eq_true rfl) d_Pars_readLetters_78 (fun H locs hP hD hS => ?_)
                have hP : va_P (dC, dI) clA [(h0, .inr (2, [.ref n0, .ref e1, .ref e2, .ref e3, .ref tw, .int len, .int (ap + 1)])), (tw, .inl ((cA 2), 80, .inl tx))] H := hP
                have hD : va_D A [(h0, .inr (2, [.ref n0, .ref e1, .ref e2, .ref e3, .ref tw, .int len, .int (ap + 1)])), (tw, .inl ((cA 2), 80, .inl tx))] := hD
                refine lv_iload_n hx hb d_Pars_readLetters_81 rfl (lv_at hl 1 rfl) ?_
                have hP9 := hP.sub (ws' := [(h0, .inr (2, [.ref n0, .ref e1, .ref e2, .ref e3, .ref tw, .int len, .int (ap + 1)])), (tw, .inl ((cA 2), 80, .inl tx))]) [0, 1] rfl
                have hD9 := hD.sub (ws' := [(h0, .inr (2, [.ref n0, .ref e1, .ref e2, .ref e3, .ref tw, .int len, .int (ap + 1)])), (tw, .inl ((cA 2), 80, .inl tx))]) [0, 1] (by decide) rfl
                refine W_end hQz ?_
                exact W.iret (v := x1) hx hb hr (fun t ht hW => ⟨⟨x1, ((ap + 1)), rfl, hf, P_cg ht.symm hP9, va_K.moved hW.alike hK, hD9⟩, hS.F ht⟩) hS.2.2 d_Pars_readLetters_82 hlocks
              · replace hf := hf.2 c_14
                refine lv_iconst (v := 0) hx hb d_Pars_readLetters_69 (by decide) ?_
                have hP9 := hP.sub (ws' := [(h0, .inr (2, [.ref n0, .ref e1, .ref e2, .ref e3, .ref tw, .int len, .int ap])), (tw, .inl ((cA 2), 80, .inl tx))]) [0, 1] rfl
                have hD9 := hD.sub (ws' := [(h0, .inr (2, [.ref n0, .ref e1, .ref e2, .ref e3, .ref tw, .int len, .int ap])), (tw, .inl ((cA 2), 80, .inl tx))]) [0, 1] (by decide) rfl
                refine W_end hQz ?_
                exact W.iret (v := 0) hx hb hr (fun t ht hW => ⟨⟨0, (ap), rfl, hf, P_cg ht.symm hP9, va_K.moved hW.alike hK, hD9⟩, hS.F ht⟩) hS.2.2 d_Pars_readLetters_70 hlocks
          · replace hf := hf.2 c_10
            refine lv_iload_n hx hb d_Pars_readLetters_28 rfl (lv_at hl 1 rfl) ?_
            refine lv_aload_n hx hb d_Pars_readLetters_29 rfl (lv_at hl 0 rfl) ?_
            refine va_get (D := (dC, dI)) (ci := 2) (v := .ref tw) (C := RX2) (T := TX2) (N := 7) hx hb hts (fun w h => List.mem_cons_of_mem _ (in_X2 w h)) hown hK hP 0 rfl rfl 4 (by decide) (hts _ (List.mem_cons_of_mem _ k_155)) (fun _ h9 => h9) rfl d_Pars_readLetters_30 ?_
            refine lv_aload_n hx hb d_Pars_readLetters_33 rfl (lv_at hl 0 rfl) ?_
            refine va_get (D := (dC, dI)) (ci := 2) (v := .int ap) (C := RX2) (T := TX2) (N := 7) hx hb hts (fun w h => List.mem_cons_of_mem _ (in_X2 w h)) hown hK hP 0 rfl rfl 6 (by decide) (hts _ (List.mem_cons_of_mem _ k_157)) (fun _ h9 => h9) rfl d_Pars_readLetters_34 ?_
            obtain ⟨h_17, hf⟩ := hf
            refine va_cald hx hb hK hP 1 2 rfl rfl h_17 d_Pars_readLetters_37 ?_
            obtain ⟨v_18, hv_18, hf⟩ := hf
            have hPc := hP.sub (ws' := []) [] rfl
            have hDc := hD.sub (ws' := []) [] (by decide) rfl
            have hFc := va_free (wc := []) hD hS hA [] rfl
            refine va_calli (va_runS (As := [.int (tx ap.toNatClampNeg)]) (rest := [.int x1]) ⟨hx, hb, hml, hown, hts⟩ (c_Pars_letterBit l dC dI cA H.size (tx ap.toNatClampNeg) v_18 hv_18) (va_cwS 1 hts (gS9 k_431 k_432 k_50 k_433) rfl rfl rfl hs_Pars_letterBit ⟨Nat.le_of_ble_eq_true rfl, Nat.le_of_ble_eq_true rfl⟩) ⟨fun a U g mk q => by obtain ⟨q0, q1, qP, qK, qN, qD⟩ := q; exact ⟨q0, q1, qP, va_K.moved (u := U) (U := U.calling g mk a) (Vm.Alike.refl U.vm) qK, nW_same (u := U) (U := U.calling g mk a) rfl qN, qD⟩, fun U hU hW => ⟨rfl, congrArg _ hU, P_cg hU.symm hPc, va_K.moved hW.alike hK, nW_warm hW hN, hDc.weaken (fun _ _ _ _ => trivial)⟩⟩ rfl rfl hl.1 rfl (lv_room (Nat.le_of_ble_eq_true rfl)) d_Pars_readLetters_38 ⟨Nat.zero_le _, Nat.zero_le _⟩) hS (fun q _ h => hFc q h) hFc (fun r u t H locs ht hvm hw hB hz1 hk1 hS => ?_)
            obtain ⟨rfl, rfl⟩ : r = v_18.1 ∧ u = v_18.2 := ⟨(congrArg Prod.fst hw).symm, (congrArg Prod.snd hw).symm⟩
            obtain ⟨hP1, hK1, hD1⟩ := hB
            replace hP1 := P_cg ht hP1
            obtain ⟨hP, hD⟩ := va_join (wc := []) (wr := [(h0, .inr (2, [.ref n0, .ref e1, .ref e2, .ref e3, .ref tw, .int len, .int ap])), (tw, .inl ((cA 2), 80, .inl tx))]) (w1 := []) hP hD [] [0, 1] rfl rfl (by decide) (by decide) hk1 hFc hP1 hD1
            have hP : va_P (dC, dI) clA [(h0, .inr (2, [.ref n0, .ref e1, .ref e2, .ref e3, .ref tw, .int len, .int ap])), (tw, .inl ((cA 2), 80, .inl tx))] H := hP
            have hD : va_D A [(h0, .inr (2, [.ref n0, .ref e1, .ref e2, .ref e3, .ref tw, .int len, .int ap])), (tw, .inl ((cA 2), 80, .inl tx))] := hD
            refine lv_ior hx hb d_Pars_readLetters_41 ?_
            refine lv_istore_n (lv' := [(1, .int (x1 ||| v_18.1)), (0, .ref h0)]) hx hb d_Pars_readLetters_42 rfl hl (by decide) rfl (fun ls hl => ?_)
            refine lv_aload_n hx hb d_Pars_readLetters_43 rfl (lv_at hl 1 rfl) ?_
            refine lv_dup hx hb d_Pars_readLetters_44 rfl ?_
            refine va_get (D := (dC, dI)) (ci := 2) (v := .int ap) (C := RX2) (T := TX2) (N := 7) hx hb hts (fun w h => List.mem_cons_of_mem _ (in_X2 w h)) hown hK hP 0 rfl rfl 6 (by decide) (hts _ (List.mem_cons_of_mem _ k_157)) (fun _ h9 => h9) rfl d_Pars_readLetters_45 ?_
            refine lv_iconst (v := 1) hx hb d_Pars_readLetters_48 (by decide) ?_
            refine lv_iadd hx hb d_Pars_readLetters_49 ?_
            refine va_put (D := (dC, dI)) (ci := 2) (v := .int (ap + 1)) (ty := .int) (C := RX2) (T := TX2) (N := 7) hx hb hts (fun w h => List.mem_cons_of_mem _ (in_X2 w h)) tyX2 tyX2_ok nmX2 hown hK hP hD hS 0 rfl rfl 6 (by decide) (hts _ (List.mem_cons_of_mem _ k_157)) (fun _ h9 => h9) rfl (tyX2_ok 6 (by decide)) rfl rfl (Nat.le_of_ble_eq_true rfl) d_Pars_readLetters_50 (fun H locs hP hD hS => ?_)
            have hP : va_P (dC, dI) clA [(h0, .inr (2, [.ref n0, .ref e1, .ref e2, .ref e3, .ref tw, .int len, .int (ap + 1)])), (tw, .inl ((cA 2), 80, .inl tx))] H := hP
            have hD : va_D A [(h0, .inr (2, [.ref n0, .ref e1, .ref e2, .ref e3, .ref tw, .int len, .int (ap + 1)])), (tw, .inl ((cA 2), 80, .inl tx))] := hD
            refine lv_goto (tgt := 2) hx hb d_Pars_readLetters_53 (by decide) ?_
            exact ih1 _ _ _ _ _ hf (hP.sub [0, 1] rfl) (hD.sub [0, 1] (by decide) rfl) hS (lv_sub hl [1, 0] rfl)
  have hf := hR
  unfold R_Pars_readLetters at hf
  refine lv_iconst (v := 0) hx hb d_Pars_readLetters_0 (by decide) ?_
  refine lv_istore_n (lv' := [(1, .int 0), (0, .ref h0)]) hx hb d_Pars_readLetters_1 rfl hl (by decide) rfl (fun ls hl => ?_)
  obtain ⟨n, hf⟩ := hf
  exact (hC n) _ _ _ _ _ hf (hP.sub [0, 1] rfl) (hD.sub [0, 1] (by decide) rfl) hS (lv_sub hl [1, 0] rfl)
def R_Pars_place (len : Int32) (ap : Int32)  (out : Int32 × Unit) : Prop := (out = (ap, ()))
set_option maxHeartbeats 4000000 in
set_option maxRecDepth 100000 in
theorem c_Pars_place (l : Launch) (dC : Nat → ClassId) (dI : Nat → Nat → Nat) (cA : Nat → ClassId) (h0 n0 e1 e2 e3 tw : Nat) (sz : Nat) (len : Int32) (ap : Int32)  (out : Int32 × Unit) (hR : R_Pars_place len ap  out) : Met l y_Pars_place ws_Pars_place ({ frames := 0, cells := 0, slots := 0, locals := 0 }) (va_Pc [.ref h0] (fun U => U.heap.size = sz ∧ va_P (dC, dI) clA [(h0, .inr (2, [.ref n0, .ref e1, .ref e2, .ref e3, .ref tw, .int len, .int ap]))] U.heap ∧ va_K (dC, dI) clA (tysA cA) U ∧ nW U ∧ va_D (fun _ => True) [(h0, .inr (2, [.ref n0, .ref e1, .ref e2, .ref e3, .ref tw, .int len, .int ap]))])) (va_Qi (fun (r : Int32) (u : Unit) => out = (r, u)) (fun (u : Unit) (t : State) => va_P (dC, dI) clA [(h0, .inr (2, [.ref n0, .ref e1, .ref e2, .ref e3, .ref tw, .int len, .int ap]))] t.heap ∧ va_K (dC, dI) clA (tysA cA) t ∧ va_D (va_A [(h0, .inr (2, [.ref n0, .ref e1, .ref e2, .ref e3, .ref tw, .int len, .int ap]))] sz) [(h0, .inr (2, [.ref n0, .ref e1, .ref e2, .ref e3, .ref tw, .int len, .int ap]))]) (va_A [(h0, .inr (2, [.ref n0, .ref e1, .ref e2, .ref e3, .ref tw, .int len, .int ap]))] sz)) 0 0 (va_A [(h0, .inr (2, [.ref n0, .ref e1, .ref e2, .ref e3, .ref tw, .int len, .int ap]))] sz) := by
  refine Met.ofW (cc := b_Pars_place) (maxL := 1) (ret := (some .int)) (by decide) rfl ?_
  intro p e s m args below meth c s₁ B hml hv
  obtain ⟨rfl, hsz, hP, hK, hN, hD0⟩ := hv
  have hx := B.exec
  have hb := B.bytes
  have hr := B.returns
  have hts := atoms_spec (ws := ws_Pars_place) B.pre
  have hown : s.vm.findClass RX2 = some m.cls := findClass_of_methodNamed B.named
  have hlocks := B.notSynchronized
  subst hsz
  have hD := hD0.self (sz := s.heap.size)
  generalize hAe : va_A [(h0, .inr (2, [.ref n0, .ref e1, .ref e2, .ref e3, .ref tw, .int len, .int ap]))] s.heap.size = A at hD ⊢
  have hA : ∀ q : Nat, s.heap.size ≤ q → A q := fun q h => by rw [← hAe]; exact Or.inr h
  have hS : va_S A s.heap s.heap [] := va_S.rf
  have hP : va_P (dC, dI) clA [(h0, .inr (2, [.ref n0, .ref e1, .ref e2, .ref e3, .ref tw, .int len, .int ap]))] s.heap := hP
  have hl := lv_entry ([.ref h0]) (n := 1) (Nat.le_of_ble_eq_true rfl)
  rw [lg_entry_eq]
  generalize (lg_sl ([.ref h0]) ++ List.replicate (1 - (lg_sl ([.ref h0])).length) Slot.unset).toArray = ls at hl ⊢
  have hl : lv_has ls 1 [(0, .ref h0)] := hl
  refine W_gen (fun Qz hQz => ?_)
  have hf := hR
  unfold R_Pars_place at hf
  refine lv_aload_n hx hb d_Pars_place_0 rfl (lv_at hl 0 rfl) ?_
  refine va_get (D := (dC, dI)) (ci := 2) (v := .int ap) (C := RX2) (T := TX2) (N := 7) hx hb hts (fun w h => List.mem_cons_of_mem _ (in_X2 w h)) hown hK hP 0 rfl rfl 6 (by decide) (hts _ (List.mem_cons_of_mem _ k_157)) (fun _ h9 => h9) rfl d_Pars_place_1 ?_
  have hP9 := hP.sub (ws' := [(h0, .inr (2, [.ref n0, .ref e1, .ref e2, .ref e3, .ref tw, .int len, .int ap]))]) [0] rfl
  have hD9 := hD.sub (ws' := [(h0, .inr (2, [.ref n0, .ref e1, .ref e2, .ref e3, .ref tw, .int len, .int ap]))]) [0] (by decide) rfl
  refine W_end hQz ?_
  exact W.iret (v := ap) hx hb hr (fun t ht hW => ⟨⟨ap, (), rfl, hf, P_cg ht.symm hP9, va_K.moved hW.alike hK, hD9⟩, hS.F ht⟩) hS.2.2 d_Pars_place_4 hlocks
def R_Pars_readAction (p2 : Int32) (len : Int32) (pos : Int32) (tx : Nat → Int32) (sp : Nat → Int32) (q1 : Nat) (ap : Int32) (fa : Nat → Int32) (la : Nat → Int32) (sa : Nat → Int32) (pf : Nat → PT) (out : Int32 × Int32 × (Nat → Int32) × (Nat → Int32) × (Nat → Int32) × (Nat → PT)) : Prop := ∃ v_1, R_Pars_here len ap tx v_1 ∧ (((v_1.1 < 48) → (out = (0, (ap, fa, la, sa, pf)))) ∧ (¬ (v_1.1 < 48) → (((v_1.1 ≤ 57) → (∃ v_5, R_Net_act p2 (v_1.1 - 48) pos sp q1 fa la sa pf v_5 ∧ (out = (1, ((ap + 1), v_5.1, v_5.2.1, v_5.2.2.1, v_5.2.2.2))))) ∧ (¬ (v_1.1 ≤ 57) → (out = (0, (ap, fa, la, sa, pf)))))))
set_option maxHeartbeats 4000000 in
set_option maxRecDepth 100000 in
theorem c_Pars_readAction (l : Launch) (dC : Nat → ClassId) (dI : Nat → Nat → Nat) (cA : Nat → ClassId) (h0 tw n0 a2 a3 a4 a5 e1 e2 e3 a1 q1 : Nat) (LP : List Nat) (hm1 : q1 ∈ LP) (sz : Nat) (p2 : Int32) (len : Int32) (pos : Int32) (tx : Nat → Int32) (sp : Nat → Int32) (ap : Int32) (fa : Nat → Int32) (la : Nat → Int32) (sa : Nat → Int32) (pf : Nat → PT) (out : Int32 × Int32 × (Nat → Int32) × (Nat → Int32) × (Nat → Int32) × (Nat → PT)) (hR : R_Pars_readAction p2 len pos tx sp q1 ap fa la sa pf out) : Met l y_Pars_readAction ws_Pars_readAction ({ frames := 2, cells := 0, slots := 0, locals := 50 }) (va_Pc [.ref h0, .ref q1, .int p2] (fun U => U.heap.size = sz ∧ va_P (dC, dI) clA (@HAppend.hAppend va_W va_W va_W _ [(h0, .inr (2, [.ref n0, .ref e1, .ref e2, .ref e3, .ref tw, .int len, .int ap])), (tw, .inl ((cA 2), 80, .inl tx)), (n0, .inr (1, [.int pos, .ref a1, .ref a2, .ref a3, .ref a4, .ref a5])), (a2, .inl ((cA 0), 30, .inl fa)), (a3, .inl ((cA 0), 30, .inl la)), (a4, .inl ((cA 0), 30, .inl sp)), (a5, .inl ((cA 0), 900, .inl sa))] (va_pl LP (ptF pf))) U.heap ∧ va_K (dC, dI) clA (tysA cA) U ∧ nW U ∧ va_D (fun _ => True) (@HAppend.hAppend va_W va_W va_W _ [(h0, .inr (2, [.ref n0, .ref e1, .ref e2, .ref e3, .ref tw, .int len, .int ap])), (tw, .inl ((cA 2), 80, .inl tx)), (n0, .inr (1, [.int pos, .ref a1, .ref a2, .ref a3, .ref a4, .ref a5])), (a2, .inl ((cA 0), 30, .inl fa)), (a3, .inl ((cA 0), 30, .inl la)), (a4, .inl ((cA 0), 30, .inl sp)), (a5, .inl ((cA 0), 900, .inl sa))] (va_pl LP (ptF pf))))) (va_Qi (fun (r : Int32) (u : Int32 × (Nat → Int32) × (Nat → Int32) × (Nat → Int32) × (Nat → PT)) => out = (r, u)) (fun (u : Int32 × (Nat → Int32) × (Nat → Int32) × (Nat → Int32) × (Nat → PT)) (t : State) => va_P (dC, dI) clA (@HAppend.hAppend va_W va_W va_W _ [(h0, .inr (2, [.ref n0, .ref e1, .ref e2, .ref e3, .ref tw, .int len, .int u.1])), (tw, .inl ((cA 2), 80, .inl tx)), (n0, .inr (1, [.int pos, .ref a1, .ref a2, .ref a3, .ref a4, .ref a5])), (a2, .inl ((cA 0), 30, .inl u.2.1)), (a3, .inl ((cA 0), 30, .inl u.2.2.1)), (a4, .inl ((cA 0), 30, .inl sp)), (a5, .inl ((cA 0), 900, .inl u.2.2.2.1))] (va_pl LP (ptF u.2.2.2.2))) t.heap ∧ va_K (dC, dI) clA (tysA cA) t ∧ va_D (va_A (@HAppend.hAppend va_W va_W va_W _ [(h0, .inr (2, [.ref n0, .ref e1, .ref e2, .ref e3, .ref tw, .int len, .int ap])), (tw, .inl ((cA 2), 80, .inl tx)), (n0, .inr (1, [.int pos, .ref a1, .ref a2, .ref a3, .ref a4, .ref a5])), (a2, .inl ((cA 0), 30, .inl fa)), (a3, .inl ((cA 0), 30, .inl la)), (a4, .inl ((cA 0), 30, .inl sp)), (a5, .inl ((cA 0), 900, .inl sa))] (va_pl LP (ptF pf))) sz) (@HAppend.hAppend va_W va_W va_W _ [(h0, .inr (2, [.ref n0, .ref e1, .ref e2, .ref e3, .ref tw, .int len, .int u.1])), (tw, .inl ((cA 2), 80, .inl tx)), (n0, .inr (1, [.int pos, .ref a1, .ref a2, .ref a3, .ref a4, .ref a5])), (a2, .inl ((cA 0), 30, .inl u.2.1)), (a3, .inl ((cA 0), 30, .inl u.2.2.1)), (a4, .inl ((cA 0), 30, .inl sp)), (a5, .inl ((cA 0), 900, .inl u.2.2.2.1))] (va_pl LP (ptF u.2.2.2.2)))) (va_A (@HAppend.hAppend va_W va_W va_W _ [(h0, .inr (2, [.ref n0, .ref e1, .ref e2, .ref e3, .ref tw, .int len, .int ap])), (tw, .inl ((cA 2), 80, .inl tx)), (n0, .inr (1, [.int pos, .ref a1, .ref a2, .ref a3, .ref a4, .ref a5])), (a2, .inl ((cA 0), 30, .inl fa)), (a3, .inl ((cA 0), 30, .inl la)), (a4, .inl ((cA 0), 30, .inl sp)), (a5, .inl ((cA 0), 900, .inl sa))] (va_pl LP (ptF pf))) sz)) 0 0 (va_A (@HAppend.hAppend va_W va_W va_W _ [(h0, .inr (2, [.ref n0, .ref e1, .ref e2, .ref e3, .ref tw, .int len, .int ap])), (tw, .inl ((cA 2), 80, .inl tx)), (n0, .inr (1, [.int pos, .ref a1, .ref a2, .ref a3, .ref a4, .ref a5])), (a2, .inl ((cA 0), 30, .inl fa)), (a3, .inl ((cA 0), 30, .inl la)), (a4, .inl ((cA 0), 30, .inl sp)), (a5, .inl ((cA 0), 900, .inl sa))] (va_pl LP (ptF pf))) sz) := by
  refine Met.ofW (cc := b_Pars_readAction) (maxL := 4) (ret := (some .boolean)) (by decide) rfl ?_
  intro p e s m args below meth c s₁ B hml hv
  obtain ⟨rfl, hsz, hP, hK, hN, hD0⟩ := hv
  have hx := B.exec
  have hb := B.bytes
  have hr := B.returns
  have hts := atoms_spec (ws := ws_Pars_readAction) B.pre
  have hown : s.vm.findClass RX2 = some m.cls := findClass_of_methodNamed B.named
  have hlocks := B.notSynchronized
  subst hsz
  have hD := hD0.self (sz := s.heap.size)
  generalize hAe : va_A (@HAppend.hAppend va_W va_W va_W _ [(h0, .inr (2, [.ref n0, .ref e1, .ref e2, .ref e3, .ref tw, .int len, .int ap])), (tw, .inl ((cA 2), 80, .inl tx)), (n0, .inr (1, [.int pos, .ref a1, .ref a2, .ref a3, .ref a4, .ref a5])), (a2, .inl ((cA 0), 30, .inl fa)), (a3, .inl ((cA 0), 30, .inl la)), (a4, .inl ((cA 0), 30, .inl sp)), (a5, .inl ((cA 0), 900, .inl sa))] (va_pl LP (ptF pf))) s.heap.size = A at hD ⊢
  have hA : ∀ q : Nat, s.heap.size ≤ q → A q := fun q h => by rw [← hAe]; exact Or.inr h
  have hS : va_S A s.heap s.heap [] := va_S.rf
  have hP : va_P (dC, dI) clA (@HAppend.hAppend va_W va_W va_W _ [(h0, .inr (2, [.ref n0, .ref e1, .ref e2, .ref e3, .ref tw, .int len, .int ap])), (tw, .inl ((cA 2), 80, .inl tx)), (n0, .inr (1, [.int pos, .ref a1, .ref a2, .ref a3, .ref a4, .ref a5])), (a2, .inl ((cA 0), 30, .inl fa)), (a3, .inl ((cA 0), 30, .inl la)), (a4, .inl ((cA 0), 30, .inl sp)), (a5, .inl ((cA 0), 900, .inl sa))] (va_pl LP (ptF pf))) s.heap := hP
  have hl := lv_entry ([.ref h0, .ref q1, .int p2]) (n := 4) (Nat.le_of_ble_eq_true rfl)
  rw [lg_entry_eq]
  generalize (lg_sl ([.ref h0, .ref q1, .int p2]) ++ List.replicate (4 - (lg_sl ([.ref h0, .ref q1, .int p2])).length) Slot.unset).toArray = ls at hl ⊢
  have hl : lv_has ls 4 [(0, .ref h0), (1, .ref q1), (2, .int p2)] := hl
  refine W_gen (fun Qz hQz => ?_)
  have hf := hR
  unfold R_Pars_readAction at hf
  refine lv_aload_n hx hb d_Pars_readAction_0 rfl (lv_at hl 0 rfl) ?_
  obtain ⟨v_1, hv_1, hf⟩ := hf
  have hPc := hP.sub (ws' := [(h0, .inr (2, [.ref n0, .ref e1, .ref e2, .ref e3, .ref tw, .int len, .int ap])), (tw, .inl ((cA 2), 80, .inl tx))]) [0, 1] rfl
  have hDc := hD.sub (ws' := [(h0, .inr (2, [.ref n0, .ref e1, .ref e2, .ref e3, .ref tw, .int len, .int ap])), (tw, .inl ((cA 2), 80, .inl tx))]) [0, 1] (by decide) rfl
  have hFc := va_free (wc := [(h0, .inr (2, [.ref n0, .ref e1, .ref e2, .ref e3, .ref tw, .int len, .int ap])), (tw, .inl ((cA 2), 80, .inl tx))]) hD hS hA [0, 1] rfl
  refine va_calli (va_runV (As := []) (rest := []) ⟨hx, hb, hml, hown, hts⟩ (c_Pars_here l dC dI cA h0 tw n0 e1 e2 e3 s.heap.size len ap tx v_1 hv_1) (cwV 0 hts (gV9 k_434 k_436 k_9 k_50 k_437) rfl rfl rfl hv_Pars_here ⟨Nat.le_of_ble_eq_true rfl, Nat.le_of_ble_eq_true rfl⟩) ⟨fun a U g mk q => by obtain ⟨q0, q1, qP, qK, qN, qD⟩ := q; exact ⟨q0, q1, qP, va_K.moved (u := U) (U := U.calling g mk a) (Vm.Alike.refl U.vm) qK, nW_same (u := U) (U := U.calling g mk a) rfl qN, qD⟩, va_recv hK hPc (ci := 2) (q0 := 0) rfl rfl, fun U hU hW => ⟨rfl, congrArg _ hU, P_cg hU.symm hPc, va_K.moved hW.alike hK, nW_warm hW hN, hDc.weaken (fun _ _ _ _ => trivial)⟩⟩ rfl rfl hl.1 rfl (lv_room (Nat.le_of_ble_eq_true rfl)) d_Pars_readAction_1 ⟨Nat.zero_le _, Nat.zero_le _⟩) hS (fun q _ h => hFc q h) hFc (fun r u t H locs ht hvm hw hB hz1 hk1 hS => ?_)
  obtain ⟨rfl, rfl⟩ : r = v_1.1 ∧ u = v_1.2 := ⟨(congrArg Prod.fst hw).symm, (congrArg Prod.snd hw).symm⟩
  obtain ⟨hP1, hK1, hD1⟩ := hB
  replace hP1 := P_cg ht hP1
  obtain ⟨hP, hD⟩ := va_joinQ (cx := [(h0, .inr (2, [.ref n0, .ref e1, .ref e2, .ref e3, .ref tw, .int len, .int ap])), (tw, .inl ((cA 2), 80, .inl tx))]) (wr := [(n0, .inr (1, [.int pos, .ref a1, .ref a2, .ref a3, .ref a4, .ref a5])), (a2, .inl ((cA 0), 30, .inl fa)), (a3, .inl ((cA 0), 30, .inl la)), (a4, .inl ((cA 0), 30, .inl sp)), (a5, .inl ((cA 0), 900, .inl sa))]) (w1 := [(h0, .inr (2, [.ref n0, .ref e1, .ref e2, .ref e3, .ref tw, .int len, .int ap])), (tw, .inl ((cA 2), 80, .inl tx))]) hP hD [0, 1] [2, 3, 4, 5, 6] rfl rfl (by decide) (by decide) hk1 hFc hP1 hD1
  have hP : va_P (dC, dI) clA (@HAppend.hAppend va_W va_W va_W _ [(n0, .inr (1, [.int pos, .ref a1, .ref a2, .ref a3, .ref a4, .ref a5])), (a2, .inl ((cA 0), 30, .inl fa)), (a3, .inl ((cA 0), 30, .inl la)), (a4, .inl ((cA 0), 30, .inl sp)), (a5, .inl ((cA 0), 900, .inl sa)), (h0, .inr (2, [.ref n0, .ref e1, .ref e2, .ref e3, .ref tw, .int len, .int ap])), (tw, .inl ((cA 2), 80, .inl tx))] (va_pl LP (ptF pf))) H := hP
  have hD : va_D A (@HAppend.hAppend va_W va_W va_W _ [(n0, .inr (1, [.int pos, .ref a1, .ref a2, .ref a3, .ref a4, .ref a5])), (a2, .inl ((cA 0), 30, .inl fa)), (a3, .inl ((cA 0), 30, .inl la)), (a4, .inl ((cA 0), 30, .inl sp)), (a5, .inl ((cA 0), 900, .inl sa)), (h0, .inr (2, [.ref n0, .ref e1, .ref e2, .ref e3, .ref tw, .int len, .int ap])), (tw, .inl ((cA 2), 80, .inl tx))] (va_pl LP (ptF pf))) := hD
  refine lv_istore_n (lv' := [(3, .int v_1.1), (0, .ref h0), (1, .ref q1), (2, .int p2)]) hx hb d_Pars_readAction_4 rfl hl (by decide) rfl (fun ls hl => ?_)
  refine lv_iload_n hx hb d_Pars_readAction_5 rfl (lv_at hl 0 rfl) ?_
  refine lv_bipush (v := 48) hx hb d_Pars_readAction_6 (by decide) ?_
  refine lv_icmp_lt (tgt := 17) hx hb d_Pars_readAction_8 (by decide) (fun c_2 => ?_) (fun c_2 => ?_)
  · replace hf := hf.1 c_2
    refine lv_iconst (v := 0) hx hb d_Pars_readAction_17 (by decide) ?_
    have hP9 := hP.part (cx := [(h0, .inr (2, [.ref n0, .ref e1, .ref e2, .ref e3, .ref tw, .int len, .int ap])), (tw, .inl ((cA 2), 80, .inl tx)), (n0, .inr (1, [.int pos, .ref a1, .ref a2, .ref a3, .ref a4, .ref a5])), (a2, .inl ((cA 0), 30, .inl fa)), (a3, .inl ((cA 0), 30, .inl la)), (a4, .inl ((cA 0), 30, .inl sp)), (a5, .inl ((cA 0), 900, .inl sa))]) [5, 6, 0, 1, 2, 3, 4] rfl
    have hD9 := hD.part (cx := [(h0, .inr (2, [.ref n0, .ref e1, .ref e2, .ref e3, .ref tw, .int len, .int ap])), (tw, .inl ((cA 2), 80, .inl tx)), (n0, .inr (1, [.int pos, .ref a1, .ref a2, .ref a3, .ref a4, .ref a5])), (a2, .inl ((cA 0), 30, .inl fa)), (a3, .inl ((cA 0), 30, .inl la)), (a4, .inl ((cA 0), 30, .inl sp)), (a5, .inl ((cA 0), 900, .inl sa))]) [5, 6, 0, 1, 2, 3, 4] (by decide) rfl
    refine W_end hQz ?_
    exact W.zret (v := 0) hx hb hr (by decide) (fun t ht hW => ⟨⟨0, (ap, fa, la, sa, pf), rfl, hf, P_cg ht.symm hP9, va_K.moved hW.alike hK, hD9⟩, hS.F ht⟩) hS.2.2 d_Pars_readAction_18 hlocks
  · replace hf := hf.2 c_2
    refine lv_iload_n hx hb d_Pars_readAction_11 rfl (lv_at hl 0 rfl) ?_
    refine lv_bipush (v := 57) hx hb d_Pars_readAction_12 (by decide) ?_
    refine lv_icmp_le (tgt := 19) hx hb d_Pars_readAction_14 (by decide) (fun c_4 => ?_) (fun c_4 => ?_)
    · replace hf := hf.1 c_4
      refine lv_aload_n hx hb d_Pars_readAction_19 rfl (lv_at hl 1 rfl) ?_
      refine lv_dup hx hb d_Pars_readAction_20 rfl ?_
      refine va_get (D := (dC, dI)) (ci := 2) (v := .int ap) (C := RX2) (T := TX2) (N := 7) hx hb hts (fun w h => List.mem_cons_of_mem _ (in_X2 w h)) hown hK hP 5 rfl rfl 6 (by decide) (hts _ (List.mem_cons_of_mem _ k_157)) (fun _ h9 => h9) rfl d_Pars_readAction_21 ?_
      refine lv_iconst (v := 1) hx hb d_Pars_readAction_24 (by decide) ?_
      refine lv_iadd hx hb d_Pars_readAction_25 ?_
      refine va_put (D := (dC, dI)) (ci := 2) (v := .int (ap + 1)) (ty := .int) (C := RX2) (T := TX2) (N := 7) hx hb hts (fun w h => List.mem_cons_of_mem _ (in_X2 w h)) tyX2 tyX2_ok nmX2 hown hK hP hD hS 5 rfl rfl 6 (by decide) (hts _ (List.mem_cons_of_mem _ k_157)) (fun _ h9 => h9) rfl (tyX2_ok 6 (by decide)) rfl rfl (Nat.le_of_ble_eq_true rfl) d_Pars_readAction_26 (fun H locs hP hD hS => ?_)
      have hP : va_P (dC, dI) clA (@HAppend.hAppend va_W va_W va_W _ [(n0, .inr (1, [.int pos, .ref a1, .ref a2, .ref a3, .ref a4, .ref a5])), (a2, .inl ((cA 0), 30, .inl fa)), (a3, .inl ((cA 0), 30, .inl la)), (a4, .inl ((cA 0), 30, .inl sp)), (a5, .inl ((cA 0), 900, .inl sa)), (h0, .inr (2, [.ref n0, .ref e1, .ref e2, .ref e3, .ref tw, .int len, .int (ap + 1)])), (tw, .inl ((cA 2), 80, .inl tx))] (va_pl LP (ptF pf))) H := hP
      have hD : va_D A (@HAppend.hAppend va_W va_W va_W _ [(n0, .inr (1, [.int pos, .ref a1, .ref a2, .ref a3, .ref a4, .ref a5])), (a2, .inl ((cA 0), 30, .inl fa)), (a3, .inl ((cA 0), 30, .inl la)), (a4, .inl ((cA 0), 30, .inl sp)), (a5, .inl ((cA 0), 900, .inl sa)), (h0, .inr (2, [.ref n0, .ref e1, .ref e2, .ref e3, .ref tw, .int len, .int (ap + 1)])), (tw, .inl ((cA 2), 80, .inl tx))] (va_pl LP (ptF pf))) := hD
      refine lv_aload_n hx hb d_Pars_readAction_29 rfl (lv_at hl 1 rfl) ?_
      refine va_get (D := (dC, dI)) (ci := 2) (v := .ref n0) (C := RX2) (T := TX2) (N := 7) hx hb hts (fun w h => List.mem_cons_of_mem _ (in_X2 w h)) hown hK hP 5 rfl rfl 0 (by decide) (hts _ (List.mem_cons_of_mem _ k_150)) (fun _ h9 => h9) rfl d_Pars_readAction_30 ?_
      refine lv_aload_n hx hb d_Pars_readAction_33 rfl (lv_at hl 2 rfl) ?_
      refine lv_iload_n hx hb d_Pars_readAction_34 rfl (lv_at hl 3 rfl) ?_
      refine lv_iload_n hx hb d_Pars_readAction_35 rfl (lv_at hl 0 rfl) ?_
      refine lv_bipush (v := 48) hx hb d_Pars_readAction_36 (by decide) ?_
      refine lv_isub hx hb d_Pars_readAction_38 ?_
      obtain ⟨v_5, hv_5, hf⟩ := hf
      have hPc := hP.part (cx := [(n0, .inr (1, [.int pos, .ref a1, .ref a2, .ref a3, .ref a4, .ref a5])), (a2, .inl ((cA 0), 30, .inl fa)), (a3, .inl ((cA 0), 30, .inl la)), (a4, .inl ((cA 0), 30, .inl sp)), (a5, .inl ((cA 0), 900, .inl sa))]) [0, 1, 2, 3, 4] rfl
      have hDc := hD.part (cx := [(n0, .inr (1, [.int pos, .ref a1, .ref a2, .ref a3, .ref a4, .ref a5])), (a2, .inl ((cA 0), 30, .inl fa)), (a3, .inl ((cA 0), 30, .inl la)), (a4, .inl ((cA 0), 30, .inl sp)), (a5, .inl ((cA 0), 900, .inl sa))]) [0, 1, 2, 3, 4] (by decide) rfl
      have hFc := va_freeP (cx := [(n0, .inr (1, [.int pos, .ref a1, .ref a2, .ref a3, .ref a4, .ref a5])), (a2, .inl ((cA 0), 30, .inl fa)), (a3, .inl ((cA 0), 30, .inl la)), (a4, .inl ((cA 0), 30, .inl sp)), (a5, .inl ((cA 0), 900, .inl sa))]) hD hS hA [0, 1, 2, 3, 4] rfl
      refine va_callv (va_runV (As := [.ref q1, .int p2, .int (v_1.1 - 48)]) (rest := []) ⟨hx, hb, hml, hown, hts⟩ (c_Net_act l dC dI cA n0 a2 a3 a4 a5 a1 q1 LP hm1 H.size p2 (v_1.1 - 48) pos sp fa la sa pf v_5 hv_5) (cwV 3 hts (gV9 k_722 k_723 k_724 k_51 k_725) rfl rfl rfl hv_Net_act ⟨Nat.le_of_ble_eq_true rfl, Nat.le_of_ble_eq_true rfl⟩) ⟨fun a U g mk q => by obtain ⟨q0, q1, qP, qK, qN, qD⟩ := q; exact ⟨q0, q1, qP, va_K.moved (u := U) (U := U.calling g mk a) (Vm.Alike.refl U.vm) qK, nW_same (u := U) (U := U.calling g mk a) rfl qN, qD⟩, va_recv hK hPc (ci := 1) (q0 := 0) rfl rfl, fun U hU hW => ⟨rfl, congrArg _ hU, P_cg hU.symm hPc, va_K.moved hW.alike hK, nW_warm hW hN, hDc.weaken (fun _ _ _ _ => trivial)⟩⟩ rfl rfl hl.1 rfl (lv_room (Nat.le_of_ble_eq_true rfl)) d_Pars_readAction_39 ⟨Nat.zero_le _, Nat.zero_le _⟩) hS (fun q _ h => hFc q h) hFc (fun u t H locs ht hvm hw hB hz1 hk1 hS => ?_)
      subst hw
      obtain ⟨hP1, hK1, hD1⟩ := hB
      replace hP1 := P_cg ht hP1
      obtain ⟨hP, hD⟩ := va_joinP (cx := [(n0, .inr (1, [.int pos, .ref a1, .ref a2, .ref a3, .ref a4, .ref a5])), (a2, .inl ((cA 0), 30, .inl fa)), (a3, .inl ((cA 0), 30, .inl la)), (a4, .inl ((cA 0), 30, .inl sp)), (a5, .inl ((cA 0), 900, .inl sa))]) (wr := [(h0, .inr (2, [.ref n0, .ref e1, .ref e2, .ref e3, .ref tw, .int len, .int (ap + 1)])), (tw, .inl ((cA 2), 80, .inl tx))]) (rx := [(n0, .inr (1, [.int pos, .ref a1, .ref a2, .ref a3, .ref a4, .ref a5])), (a2, .inl ((cA 0), 30, .inl v_5.1)), (a3, .inl ((cA 0), 30, .inl v_5.2.1)), (a4, .inl ((cA 0), 30, .inl sp)), (a5, .inl ((cA 0), 900, .inl v_5.2.2.1))]) hP hD [0, 1, 2, 3, 4] [5, 6] rfl rfl (by decide) (by decide) hk1 hFc hP1 hD1
      have hP : va_P (dC, dI) clA (@HAppend.hAppend va_W va_W va_W _ [(h0, .inr (2, [.ref n0, .ref e1, .ref e2, .ref e3, .ref tw, .int len, .int (ap + 1)])), (tw, .inl ((cA 2), 80, .inl tx)), (n0, .inr (1, [.int pos, .ref a1, .ref a2, .ref a3, .ref a4, .ref a5])), (a2, .inl ((cA 0), 30, .inl v_5.1)), (a3, .inl ((cA 0), 30, .inl v_5.2.1)), (a4, .inl ((cA 0), 30, .inl sp)), (a5, .inl ((cA 0), 900, .inl v_5.2.2.1))] (va_pl LP (ptF v_5.2.2.2))) H := hP
      have hD : va_D A (@HAppend.hAppend va_W va_W va_W _ [(h0, .inr (2, [.ref n0, .ref e1, .ref e2, .ref e3, .ref tw, .int len, .int (ap + 1)])), (tw, .inl ((cA 2), 80, .inl tx)), (n0, .inr (1, [.int pos, .ref a1, .ref a2, .ref a3, .ref a4, .ref a5])), (a2, .inl ((cA 0), 30, .inl v_5.1)), (a3, .inl ((cA 0), 30, .inl v_5.2.1)), (a4, .inl ((cA 0), 30, .inl sp)), (a5, .inl ((cA 0), 900, .inl v_5.2.2.1))] (va_pl LP (ptF v_5.2.2.2))) := hD
      refine lv_iconst (v := 1) hx hb d_Pars_readAction_42 (by decide) ?_
      have hP9 := hP.part (cx := [(h0, .inr (2, [.ref n0, .ref e1, .ref e2, .ref e3, .ref tw, .int len, .int (ap + 1)])), (tw, .inl ((cA 2), 80, .inl tx)), (n0, .inr (1, [.int pos, .ref a1, .ref a2, .ref a3, .ref a4, .ref a5])), (a2, .inl ((cA 0), 30, .inl v_5.1)), (a3, .inl ((cA 0), 30, .inl v_5.2.1)), (a4, .inl ((cA 0), 30, .inl sp)), (a5, .inl ((cA 0), 900, .inl v_5.2.2.1))]) [0, 1, 2, 3, 4, 5, 6] rfl
      have hD9 := hD.part (cx := [(h0, .inr (2, [.ref n0, .ref e1, .ref e2, .ref e3, .ref tw, .int len, .int (ap + 1)])), (tw, .inl ((cA 2), 80, .inl tx)), (n0, .inr (1, [.int pos, .ref a1, .ref a2, .ref a3, .ref a4, .ref a5])), (a2, .inl ((cA 0), 30, .inl v_5.1)), (a3, .inl ((cA 0), 30, .inl v_5.2.1)), (a4, .inl ((cA 0), 30, .inl sp)), (a5, .inl ((cA 0), 900, .inl v_5.2.2.1))]) [0, 1, 2, 3, 4, 5, 6] (by decide) rfl
      refine W_end hQz ?_
      exact W.zret (v := 1) hx hb hr (by decide) (fun t ht hW => ⟨⟨1, ((ap + 1), v_5.1, v_5.2.1, v_5.2.2.1, v_5.2.2.2), rfl, hf, P_cg ht.symm hP9, va_K.moved hW.alike hK, hD9⟩, hS.F ht⟩) hS.2.2 d_Pars_readAction_43 hlocks
    · replace hf := hf.2 c_4
      refine lv_iconst (v := 0) hx hb d_Pars_readAction_17 (by decide) ?_
      have hP9 := hP.part (cx := [(h0, .inr (2, [.ref n0, .ref e1, .ref e2, .ref e3, .ref tw, .int len, .int ap])), (tw, .inl ((cA 2), 80, .inl tx)), (n0, .inr (1, [.int pos, .ref a1, .ref a2, .ref a3, .ref a4, .ref a5])), (a2, .inl ((cA 0), 30, .inl fa)), (a3, .inl ((cA 0), 30, .inl la)), (a4, .inl ((cA 0), 30, .inl sp)), (a5, .inl ((cA 0), 900, .inl sa))]) [5, 6, 0, 1, 2, 3, 4] rfl
      have hD9 := hD.part (cx := [(h0, .inr (2, [.ref n0, .ref e1, .ref e2, .ref e3, .ref tw, .int len, .int ap])), (tw, .inl ((cA 2), 80, .inl tx)), (n0, .inr (1, [.int pos, .ref a1, .ref a2, .ref a3, .ref a4, .ref a5])), (a2, .inl ((cA 0), 30, .inl fa)), (a3, .inl ((cA 0), 30, .inl la)), (a4, .inl ((cA 0), 30, .inl sp)), (a5, .inl ((cA 0), 900, .inl sa))]) [5, 6, 0, 1, 2, 3, 4] (by decide) rfl
      refine W_end hQz ?_
      exact W.zret (v := 0) hx hb hr (by decide) (fun t ht hW => ⟨⟨0, (ap, fa, la, sa, pf), rfl, hf, P_cg ht.symm hP9, va_K.moved hW.alike hK, hD9⟩, hS.F ht⟩) hS.2.2 d_Pars_readAction_18 hlocks
