def R_EF_checkLetter (p0 : Int32)  (out : (Unit) ⊕ (String × Unit)) : Prop := ((p0 < 0) → (out = .inr ("java/lang/IllegalArgumentException", ()))) ∧ (¬ (p0 < 0) → (((p0 < 4) → (out = .inl ())) ∧ (¬ (p0 < 4) → (out = .inr ("java/lang/IllegalArgumentException", ())))))
set_option maxHeartbeats 4000000 in
set_option maxRecDepth 100000 in
theorem c_EF_checkLetter (l : Launch) (hl9 : l.stackTraces = false) (dC : Nat → ClassId) (dI : Nat → Nat → Nat) (cA : Nat → ClassId) (sz : Nat) (p0 : Int32)  (out : (Unit) ⊕ (String × Unit)) (hR : R_EF_checkLetter p0  out) : vx_Met l y_EF_checkLetter ws_EF_checkLetter ({ frames := 6, cells := 1, slots := 6, locals := 100 }) (va_Pc [.int p0] (fun U => U.heap.size = sz ∧ va_P (dC, dI) clA [] U.heap ∧ va_K (dC, dI) clA (tysA cA) U ∧ nW U ∧ xW (va_A [] sz) U ∧ va_D (fun _ => True) [])) (va_Qv (fun u : Unit => out = .inl u) (fun (u : Unit) (t : State) => va_P (dC, dI) clA [] t.heap ∧ va_K (dC, dI) clA (tysA cA) t ∧ va_D (va_A [] sz) []) (va_A [] sz)) (vx_X (fun _ : Unit => True) (fun (E : String) (u : Unit) (t : State) => out = .inr (E, u) ∧ va_P (dC, dI) clA [] t.heap ∧ va_K (dC, dI) clA (tysA cA) t ∧ va_D (va_A [] sz) []) (va_A [] sz)) 1 6 (va_A [] sz) := by
  refine vx_ofW (cc := b_EF_checkLetter) (maxL := 1) (ret := none) (by decide) rfl ?_
  intro p e s m args below meth c s₁ B hml ht9 hv
  obtain ⟨rfl, hsz, hP, hK, hN, hX9, hD0⟩ := hv
  have hx := B.exec
  have hb := B.bytes
  have hr := B.returns
  have hts := atoms_spec (ws := ws_EF_checkLetter) B.pre
  have hown : s.vm.findClass RX5 = some m.cls := findClass_of_methodNamed B.named
  have hlocks := B.notSynchronized
  subst hsz
  have hD := hD0.self (sz := s.heap.size)
  generalize hAe : va_A [] s.heap.size = A at hD hX9 ⊢
  have hA : ∀ q : Nat, s.heap.size ≤ q → A q := fun q h => by rw [← hAe]; exact Or.inr h
  have hS : va_S A s.heap s.heap [] := va_S.rf
  have hP : va_P (dC, dI) clA [] s.heap := hP
  have hl := lv_entry ([.int p0]) (n := 1) (Nat.le_of_ble_eq_true rfl)
  rw [lg_entry_eq]
  generalize (lg_sl ([.int p0]) ++ List.replicate (1 - (lg_sl ([.int p0])).length) Slot.unset).toArray = ls at hl ⊢
  have hl : lv_has ls 1 [(0, .int p0)] := hl
  refine W_gen (fun Qz hQz => ?_)
  have hf := hR
  unfold R_EF_checkLetter at hf
  refine lv_iload_n hx hb d_EF_checkLetter_0 rfl (lv_at hl 0 rfl) ?_
  refine lv_if_lt (tgt := 9) hx hb d_EF_checkLetter_1 (by decide) (fun c_1 => ?_) (fun c_1 => ?_)
  · replace hf := hf.1 c_1
    have hP9 := hP.sub (ws' := []) [] rfl
    have hD9 := hD.sub (ws' := []) [] (by decide) rfl
    refine W_end hQz ?_
    exact vx_throw0 (own := RX5) (cls := "java/lang/IllegalArgumentException") (names := ["java/lang/RuntimeException", "java/lang/Exception"]) hx hb hl9 hown (by decide +kernel) (by decide +kernel) (hts _ (List.mem_cons_of_mem _ k_283)) (hts _ (List.mem_cons_of_mem _ k_59)) (hat_IllegalArgument hts hX9) (by decide +kernel) hX9.2.2.1 hX9.2.2.2 hS (hl.1.trans hml.symm) d_EF_checkLetter_9 d_EF_checkLetter_12 d_EF_checkLetter_13 d_EF_checkLetter_16 (fun x h9 => (ht9 x h9).elim) (Nat.le_of_ble_eq_true rfl) (Nat.le_of_ble_eq_true rfl) (by decide) (by decide) hlocks (fun t ha hsz hk => ⟨(), trivial, ⟨hf, hP9.kept (fun k q hq => hk q.1 (hP9 k q hq).lt), va_K.moved ha hK, hD9⟩, Nat.le_trans hS.1 hsz, fun q h1 h2 => (hk q (Nat.lt_of_lt_of_le h1 hS.1)).trans (hS.2.1 q h1 h2)⟩) hS.2.2 (by decide) (by decide)
  · replace hf := hf.2 c_1
    refine lv_iload_n hx hb d_EF_checkLetter_4 rfl (lv_at hl 0 rfl) ?_
    refine lv_iconst (v := 4) hx hb d_EF_checkLetter_5 (by decide) ?_
    refine lv_icmp_lt (tgt := 17) hx hb d_EF_checkLetter_6 (by decide) (fun c_2 => ?_) (fun c_2 => ?_)
    · replace hf := hf.1 c_2
      have hP9 := hP.sub (ws' := []) [] rfl
      have hD9 := hD.sub (ws' := []) [] (by decide) rfl
      refine W_end hQz ?_
      refine W.widen (k := 1) (n := 6) (by decide) (by decide) ?_
      refine vx_ret ?_
      exact W.vret hx hb hr (fun t ht hW => ⟨⟨(), rfl, hf, P_cg ht.symm hP9, va_K.moved hW.alike hK, hD9⟩, hS.F ht⟩) hS.2.2 d_EF_checkLetter_17 hlocks
    · replace hf := hf.2 c_2
      have hP9 := hP.sub (ws' := []) [] rfl
      have hD9 := hD.sub (ws' := []) [] (by decide) rfl
      refine W_end hQz ?_
      exact vx_throw0 (own := RX5) (cls := "java/lang/IllegalArgumentException") (names := ["java/lang/RuntimeException", "java/lang/Exception"]) hx hb hl9 hown (by decide +kernel) (by decide +kernel) (hts _ (List.mem_cons_of_mem _ k_283)) (hts _ (List.mem_cons_of_mem _ k_59)) (hat_IllegalArgument hts hX9) (by decide +kernel) hX9.2.2.1 hX9.2.2.2 hS (hl.1.trans hml.symm) d_EF_checkLetter_9 d_EF_checkLetter_12 d_EF_checkLetter_13 d_EF_checkLetter_16 (fun x h9 => (ht9 x h9).elim) (Nat.le_of_ble_eq_true rfl) (Nat.le_of_ble_eq_true rfl) (by decide) (by decide) hlocks (fun t ha hsz hk => ⟨(), trivial, ⟨hf, hP9.kept (fun k q hq => hk q.1 (hP9 k q hq).lt), va_K.moved ha hK, hD9⟩, Nat.le_trans hS.1 hsz, fun q h1 h2 => (hk q (Nat.lt_of_lt_of_le h1 hS.1)).trans (hS.2.1 q h1 h2)⟩) hS.2.2 (by decide) (by decide)
def R_EF_checkState (p1 : Int32) (ln : Int32) (fl : Int32) (ns : Int32) (npos : Int32) (ncc : Int32)  (out : (Unit) ⊕ (String × Unit)) : Prop := ((p1 < 0) → (out = .inr ("java/util/NoSuchElementException", ()))) ∧ (¬ (p1 < 0) → (((p1 < ns) → (out = .inl ())) ∧ (¬ (p1 < ns) → (out = .inr ("java/util/NoSuchElementException", ())))))
set_option maxHeartbeats 4000000 in
set_option maxRecDepth 100000 in
theorem c_EF_checkState (l : Launch) (hl9 : l.stackTraces = false) (dC : Nat → ClassId) (dI : Nat → Nat → Nat) (cA : Nat → ClassId) (h0 mA tw ps wk sA m1 m2 m3 m4 m5 m6 m7 : Nat) (sz : Nat) (p1 : Int32) (ln : Int32) (fl : Int32) (ns : Int32) (npos : Int32) (ncc : Int32)  (out : (Unit) ⊕ (String × Unit)) (hR : R_EF_checkState p1 ln fl ns npos ncc  out) : vx_Met l y_EF_checkState ws_EF_checkState ({ frames := 6, cells := 1, slots := 6, locals := 100 }) (va_Pc [.ref h0, .int p1] (fun U => U.heap.size = sz ∧ va_P (dC, dI) clA [(h0, .inr (5, [.ref tw, .int ln, .int fl, .ref ps, .ref wk, .ref mA, .ref sA])), (mA, .inr (0, [.int ns, .int npos, .int ncc, .ref m1, .ref m2, .ref m3, .ref m4, .ref m5, .ref m6, .ref m7]))] U.heap ∧ va_K (dC, dI) clA (tysA cA) U ∧ nW U ∧ xW (va_A [(h0, .inr (5, [.ref tw, .int ln, .int fl, .ref ps, .ref wk, .ref mA, .ref sA])), (mA, .inr (0, [.int ns, .int npos, .int ncc, .ref m1, .ref m2, .ref m3, .ref m4, .ref m5, .ref m6, .ref m7]))] sz) U ∧ va_D (fun _ => True) [(h0, .inr (5, [.ref tw, .int ln, .int fl, .ref ps, .ref wk, .ref mA, .ref sA])), (mA, .inr (0, [.int ns, .int npos, .int ncc, .ref m1, .ref m2, .ref m3, .ref m4, .ref m5, .ref m6, .ref m7]))])) (va_Qv (fun u : Unit => out = .inl u) (fun (u : Unit) (t : State) => va_P (dC, dI) clA [(h0, .inr (5, [.ref tw, .int ln, .int fl, .ref ps, .ref wk, .ref mA, .ref sA])), (mA, .inr (0, [.int ns, .int npos, .int ncc, .ref m1, .ref m2, .ref m3, .ref m4, .ref m5, .ref m6, .ref m7]))] t.heap ∧ va_K (dC, dI) clA (tysA cA) t ∧ va_D (va_A [(h0, .inr (5, [.ref tw, .int ln, .int fl, .ref ps, .ref wk, .ref mA, .ref sA])), (mA, .inr (0, [.int ns, .int npos, .int ncc, .ref m1, .ref m2, .ref m3, .ref m4, .ref m5, .ref m6, .ref m7]))] sz) [(h0, .inr (5, [.ref tw, .int ln, .int fl, .ref ps, .ref wk, .ref mA, .ref sA])), (mA, .inr (0, [.int ns, .int npos, .int ncc, .ref m1, .ref m2, .ref m3, .ref m4, .ref m5, .ref m6, .ref m7]))]) (va_A [(h0, .inr (5, [.ref tw, .int ln, .int fl, .ref ps, .ref wk, .ref mA, .ref sA])), (mA, .inr (0, [.int ns, .int npos, .int ncc, .ref m1, .ref m2, .ref m3, .ref m4, .ref m5, .ref m6, .ref m7]))] sz)) (vx_X (fun _ : Unit => True) (fun (E : String) (u : Unit) (t : State) => out = .inr (E, u) ∧ va_P (dC, dI) clA [(h0, .inr (5, [.ref tw, .int ln, .int fl, .ref ps, .ref wk, .ref mA, .ref sA])), (mA, .inr (0, [.int ns, .int npos, .int ncc, .ref m1, .ref m2, .ref m3, .ref m4, .ref m5, .ref m6, .ref m7]))] t.heap ∧ va_K (dC, dI) clA (tysA cA) t ∧ va_D (va_A [(h0, .inr (5, [.ref tw, .int ln, .int fl, .ref ps, .ref wk, .ref mA, .ref sA])), (mA, .inr (0, [.int ns, .int npos, .int ncc, .ref m1, .ref m2, .ref m3, .ref m4, .ref m5, .ref m6, .ref m7]))] sz) [(h0, .inr (5, [.ref tw, .int ln, .int fl, .ref ps, .ref wk, .ref mA, .ref sA])), (mA, .inr (0, [.int ns, .int npos, .int ncc, .ref m1, .ref m2, .ref m3, .ref m4, .ref m5, .ref m6, .ref m7]))]) (va_A [(h0, .inr (5, [.ref tw, .int ln, .int fl, .ref ps, .ref wk, .ref mA, .ref sA])), (mA, .inr (0, [.int ns, .int npos, .int ncc, .ref m1, .ref m2, .ref m3, .ref m4, .ref m5, .ref m6, .ref m7]))] sz)) 1 6 (va_A [(h0, .inr (5, [.ref tw, .int ln, .int fl, .ref ps, .ref wk, .ref mA, .ref sA])), (mA, .inr (0, [.int ns, .int npos, .int ncc, .ref m1, .ref m2, .ref m3, .ref m4, .ref m5, .ref m6, .ref m7]))] sz) := by
  refine vx_ofW (cc := b_EF_checkState) (maxL := 2) (ret := none) (by decide) rfl ?_
  intro p e s m args below meth c s₁ B hml ht9 hv
  obtain ⟨rfl, hsz, hP, hK, hN, hX9, hD0⟩ := hv
  have hx := B.exec
  have hb := B.bytes
  have hr := B.returns
  have hts := atoms_spec (ws := ws_EF_checkState) B.pre
  have hown : s.vm.findClass RX5 = some m.cls := findClass_of_methodNamed B.named
  have hlocks := B.notSynchronized
  subst hsz
  have hD := hD0.self (sz := s.heap.size)
  generalize hAe : va_A [(h0, .inr (5, [.ref tw, .int ln, .int fl, .ref ps, .ref wk, .ref mA, .ref sA])), (mA, .inr (0, [.int ns, .int npos, .int ncc, .ref m1, .ref m2, .ref m3, .ref m4, .ref m5, .ref m6, .ref m7]))] s.heap.size = A at hD hX9 ⊢
  have hA : ∀ q : Nat, s.heap.size ≤ q → A q := fun q h => by rw [← hAe]; exact Or.inr h
  have hS : va_S A s.heap s.heap [] := va_S.rf
  have hP : va_P (dC, dI) clA [(h0, .inr (5, [.ref tw, .int ln, .int fl, .ref ps, .ref wk, .ref mA, .ref sA])), (mA, .inr (0, [.int ns, .int npos, .int ncc, .ref m1, .ref m2, .ref m3, .ref m4, .ref m5, .ref m6, .ref m7]))] s.heap := hP
  have hl := lv_entry ([.ref h0, .int p1]) (n := 2) (Nat.le_of_ble_eq_true rfl)
  rw [lg_entry_eq]
  generalize (lg_sl ([.ref h0, .int p1]) ++ List.replicate (2 - (lg_sl ([.ref h0, .int p1])).length) Slot.unset).toArray = ls at hl ⊢
  have hl : lv_has ls 2 [(0, .ref h0), (1, .int p1)] := hl
  refine W_gen (fun Qz hQz => ?_)
  have hf := hR
  unfold R_EF_checkState at hf
  refine lv_iload_n hx hb d_EF_checkState_0 rfl (lv_at hl 1 rfl) ?_
  refine lv_if_lt (tgt := 15) hx hb d_EF_checkState_1 (by decide) (fun c_1 => ?_) (fun c_1 => ?_)
  · replace hf := hf.1 c_1
    have hP9 := hP.sub (ws' := [(h0, .inr (5, [.ref tw, .int ln, .int fl, .ref ps, .ref wk, .ref mA, .ref sA])), (mA, .inr (0, [.int ns, .int npos, .int ncc, .ref m1, .ref m2, .ref m3, .ref m4, .ref m5, .ref m6, .ref m7]))]) [0, 1] rfl
    have hD9 := hD.sub (ws' := [(h0, .inr (5, [.ref tw, .int ln, .int fl, .ref ps, .ref wk, .ref mA, .ref sA])), (mA, .inr (0, [.int ns, .int npos, .int ncc, .ref m1, .ref m2, .ref m3, .ref m4, .ref m5, .ref m6, .ref m7]))]) [0, 1] (by decide) rfl
    refine W_end hQz ?_
    exact vx_throw0 (own := RX5) (cls := "java/util/NoSuchElementException") (names := ["java/lang/RuntimeException", "java/lang/Exception"]) hx hb hl9 hown (by decide +kernel) (by decide +kernel) (hts _ (List.mem_cons_of_mem _ k_847)) (hts _ (List.mem_cons_of_mem _ k_73)) (hat_NoSuchElement hts hX9) (by decide +kernel) hX9.2.2.1 hX9.2.2.2 hS (hl.1.trans hml.symm) d_EF_checkState_15 d_EF_checkState_18 d_EF_checkState_19 d_EF_checkState_22 (fun x h9 => (ht9 x h9).elim) (Nat.le_of_ble_eq_true rfl) (Nat.le_of_ble_eq_true rfl) (by decide) (by decide) hlocks (fun t ha hsz hk => ⟨(), trivial, ⟨hf, hP9.kept (fun k q hq => hk q.1 (hP9 k q hq).lt), va_K.moved ha hK, hD9⟩, Nat.le_trans hS.1 hsz, fun q h1 h2 => (hk q (Nat.lt_of_lt_of_le h1 hS.1)).trans (hS.2.1 q h1 h2)⟩) hS.2.2 (by decide) (by decide)
  · replace hf := hf.2 c_1
    refine lv_iload_n hx hb d_EF_checkState_4 rfl (lv_at hl 1 rfl) ?_
    refine lv_aload_n hx hb d_EF_checkState_5 rfl (lv_at hl 0 rfl) ?_
    refine va_get (D := (dC, dI)) (ci := 5) (v := .ref mA) (C := RX5) (T := TX5) (N := 7) hx hb hts (fun w h => List.mem_cons_of_mem _ (in_X5 w h)) hown hK hP 0 rfl rfl 5 (by decide) (hts _ (List.mem_cons_of_mem _ k_246)) (fun _ h9 => h9) rfl d_EF_checkState_6 ?_
    refine va_getN (D := (dC, dI)) (ci := 0) (v := .int ns) (C := RX0) (T := TX0) (N := 10) hx hb hts (fun w h => List.mem_cons_of_mem _ (in_X0 w h)) hown hK hP 1 rfl rfl 0 (by decide) (va_Nw.use rfl (hN _ nl_17)) (fun _ h9 => h9) rfl d_EF_checkState_9 ?_
    refine lv_icmp_lt (tgt := 23) hx hb d_EF_checkState_12 (by decide) (fun c_2 => ?_) (fun c_2 => ?_)
    · replace hf := hf.1 c_2
      have hP9 := hP.sub (ws' := [(h0, .inr (5, [.ref tw, .int ln, .int fl, .ref ps, .ref wk, .ref mA, .ref sA])), (mA, .inr (0, [.int ns, .int npos, .int ncc, .ref m1, .ref m2, .ref m3, .ref m4, .ref m5, .ref m6, .ref m7]))]) [0, 1] rfl
      have hD9 := hD.sub (ws' := [(h0, .inr (5, [.ref tw, .int ln, .int fl, .ref ps, .ref wk, .ref mA, .ref sA])), (mA, .inr (0, [.int ns, .int npos, .int ncc, .ref m1, .ref m2, .ref m3, .ref m4, .ref m5, .ref m6, .ref m7]))]) [0, 1] (by decide) rfl
      refine W_end hQz ?_
      refine W.widen (k := 1) (n := 6) (by decide) (by decide) ?_
      refine vx_ret ?_
      exact W.vret hx hb hr (fun t ht hW => ⟨⟨(), rfl, hf, P_cg ht.symm hP9, va_K.moved hW.alike hK, hD9⟩, hS.F ht⟩) hS.2.2 d_EF_checkState_23 hlocks
    · replace hf := hf.2 c_2
      have hP9 := hP.sub (ws' := [(h0, .inr (5, [.ref tw, .int ln, .int fl, .ref ps, .ref wk, .ref mA, .ref sA])), (mA, .inr (0, [.int ns, .int npos, .int ncc, .ref m1, .ref m2, .ref m3, .ref m4, .ref m5, .ref m6, .ref m7]))]) [0, 1] rfl
      have hD9 := hD.sub (ws' := [(h0, .inr (5, [.ref tw, .int ln, .int fl, .ref ps, .ref wk, .ref mA, .ref sA])), (mA, .inr (0, [.int ns, .int npos, .int ncc, .ref m1, .ref m2, .ref m3, .ref m4, .ref m5, .ref m6, .ref m7]))]) [0, 1] (by decide) rfl
      refine W_end hQz ?_
      exact vx_throw0 (own := RX5) (cls := "java/util/NoSuchElementException") (names := ["java/lang/RuntimeException", "java/lang/Exception"]) hx hb hl9 hown (by decide +kernel) (by decide +kernel) (hts _ (List.mem_cons_of_mem _ k_847)) (hts _ (List.mem_cons_of_mem _ k_73)) (hat_NoSuchElement hts hX9) (by decide +kernel) hX9.2.2.1 hX9.2.2.2 hS (hl.1.trans hml.symm) d_EF_checkState_15 d_EF_checkState_18 d_EF_checkState_19 d_EF_checkState_22 (fun x h9 => (ht9 x h9).elim) (Nat.le_of_ble_eq_true rfl) (Nat.le_of_ble_eq_true rfl) (by decide) (by decide) hlocks (fun t ha hsz hk => ⟨(), trivial, ⟨hf, hP9.kept (fun k q hq => hk q.1 (hP9 k q hq).lt), va_K.moved ha hK, hD9⟩, Nat.le_trans hS.1 hsz, fun q h1 h2 => (hk q (Nat.lt_of_lt_of_le h1 hS.1)).trans (hS.2.1 q h1 h2)⟩) hS.2.2 (by decide) (by decide)
def R_EF_checkCompiled (ln : Int32) (fl : Int32) (ns : Int32) (npos : Int32) (ncc : Int32)  (out : (Unit) ⊕ (String × Unit)) : Prop := ((¬ ns = 0) → (out = .inl ())) ∧ ((ns = 0) → (out = .inr ("java/lang/IllegalStateException", ())))
set_option maxHeartbeats 4000000 in
set_option maxRecDepth 100000 in
theorem c_EF_checkCompiled (l : Launch) (hl9 : l.stackTraces = false) (dC : Nat → ClassId) (dI : Nat → Nat → Nat) (cA : Nat → ClassId) (h0 mA tw ps wk sA m1 m2 m3 m4 m5 m6 m7 : Nat) (sz : Nat) (ln : Int32) (fl : Int32) (ns : Int32) (npos : Int32) (ncc : Int32)  (out : (Unit) ⊕ (String × Unit)) (hR : R_EF_checkCompiled ln fl ns npos ncc  out) : vx_Met l y_EF_checkCompiled ws_EF_checkCompiled ({ frames := 6, cells := 1, slots := 6, locals := 100 }) (va_Pc [.ref h0] (fun U => U.heap.size = sz ∧ va_P (dC, dI) clA [(h0, .inr (5, [.ref tw, .int ln, .int fl, .ref ps, .ref wk, .ref mA, .ref sA])), (mA, .inr (0, [.int ns, .int npos, .int ncc, .ref m1, .ref m2, .ref m3, .ref m4, .ref m5, .ref m6, .ref m7]))] U.heap ∧ va_K (dC, dI) clA (tysA cA) U ∧ nW U ∧ xW (va_A [(h0, .inr (5, [.ref tw, .int ln, .int fl, .ref ps, .ref wk, .ref mA, .ref sA])), (mA, .inr (0, [.int ns, .int npos, .int ncc, .ref m1, .ref m2, .ref m3, .ref m4, .ref m5, .ref m6, .ref m7]))] sz) U ∧ va_D (fun _ => True) [(h0, .inr (5, [.ref tw, .int ln, .int fl, .ref ps, .ref wk, .ref mA, .ref sA])), (mA, .inr (0, [.int ns, .int npos, .int ncc, .ref m1, .ref m2, .ref m3, .ref m4, .ref m5, .ref m6, .ref m7]))])) (va_Qv (fun u : Unit => out = .inl u) (fun (u : Unit) (t : State) => va_P (dC, dI) clA [(h0, .inr (5, [.ref tw, .int ln, .int fl, .ref ps, .ref wk, .ref mA, .ref sA])), (mA, .inr (0, [.int ns, .int npos, .int ncc, .ref m1, .ref m2, .ref m3, .ref m4, .ref m5, .ref m6, .ref m7]))] t.heap ∧ va_K (dC, dI) clA (tysA cA) t ∧ va_D (va_A [(h0, .inr (5, [.ref tw, .int ln, .int fl, .ref ps, .ref wk, .ref mA, .ref sA])), (mA, .inr (0, [.int ns, .int npos, .int ncc, .ref m1, .ref m2, .ref m3, .ref m4, .ref m5, .ref m6, .ref m7]))] sz) [(h0, .inr (5, [.ref tw, .int ln, .int fl, .ref ps, .ref wk, .ref mA, .ref sA])), (mA, .inr (0, [.int ns, .int npos, .int ncc, .ref m1, .ref m2, .ref m3, .ref m4, .ref m5, .ref m6, .ref m7]))]) (va_A [(h0, .inr (5, [.ref tw, .int ln, .int fl, .ref ps, .ref wk, .ref mA, .ref sA])), (mA, .inr (0, [.int ns, .int npos, .int ncc, .ref m1, .ref m2, .ref m3, .ref m4, .ref m5, .ref m6, .ref m7]))] sz)) (vx_X (fun _ : Unit => True) (fun (E : String) (u : Unit) (t : State) => out = .inr (E, u) ∧ va_P (dC, dI) clA [(h0, .inr (5, [.ref tw, .int ln, .int fl, .ref ps, .ref wk, .ref mA, .ref sA])), (mA, .inr (0, [.int ns, .int npos, .int ncc, .ref m1, .ref m2, .ref m3, .ref m4, .ref m5, .ref m6, .ref m7]))] t.heap ∧ va_K (dC, dI) clA (tysA cA) t ∧ va_D (va_A [(h0, .inr (5, [.ref tw, .int ln, .int fl, .ref ps, .ref wk, .ref mA, .ref sA])), (mA, .inr (0, [.int ns, .int npos, .int ncc, .ref m1, .ref m2, .ref m3, .ref m4, .ref m5, .ref m6, .ref m7]))] sz) [(h0, .inr (5, [.ref tw, .int ln, .int fl, .ref ps, .ref wk, .ref mA, .ref sA])), (mA, .inr (0, [.int ns, .int npos, .int ncc, .ref m1, .ref m2, .ref m3, .ref m4, .ref m5, .ref m6, .ref m7]))]) (va_A [(h0, .inr (5, [.ref tw, .int ln, .int fl, .ref ps, .ref wk, .ref mA, .ref sA])), (mA, .inr (0, [.int ns, .int npos, .int ncc, .ref m1, .ref m2, .ref m3, .ref m4, .ref m5, .ref m6, .ref m7]))] sz)) 1 6 (va_A [(h0, .inr (5, [.ref tw, .int ln, .int fl, .ref ps, .ref wk, .ref mA, .ref sA])), (mA, .inr (0, [.int ns, .int npos, .int ncc, .ref m1, .ref m2, .ref m3, .ref m4, .ref m5, .ref m6, .ref m7]))] sz) := by
  refine vx_ofW (cc := b_EF_checkCompiled) (maxL := 1) (ret := none) (by decide) rfl ?_
  intro p e s m args below meth c s₁ B hml ht9 hv
  obtain ⟨rfl, hsz, hP, hK, hN, hX9, hD0⟩ := hv
  have hx := B.exec
  have hb := B.bytes
  have hr := B.returns
  have hts := atoms_spec (ws := ws_EF_checkCompiled) B.pre
  have hown : s.vm.findClass RX5 = some m.cls := findClass_of_methodNamed B.named
  have hlocks := B.notSynchronized
  subst hsz
  have hD := hD0.self (sz := s.heap.size)
  generalize hAe : va_A [(h0, .inr (5, [.ref tw, .int ln, .int fl, .ref ps, .ref wk, .ref mA, .ref sA])), (mA, .inr (0, [.int ns, .int npos, .int ncc, .ref m1, .ref m2, .ref m3, .ref m4, .ref m5, .ref m6, .ref m7]))] s.heap.size = A at hD hX9 ⊢
  have hA : ∀ q : Nat, s.heap.size ≤ q → A q := fun q h => by rw [← hAe]; exact Or.inr h
  have hS : va_S A s.heap s.heap [] := va_S.rf
  have hP : va_P (dC, dI) clA [(h0, .inr (5, [.ref tw, .int ln, .int fl, .ref ps, .ref wk, .ref mA, .ref sA])), (mA, .inr (0, [.int ns, .int npos, .int ncc, .ref m1, .ref m2, .ref m3, .ref m4, .ref m5, .ref m6, .ref m7]))] s.heap := hP
  have hl := lv_entry ([.ref h0]) (n := 1) (Nat.le_of_ble_eq_true rfl)
  rw [lg_entry_eq]
  generalize (lg_sl ([.ref h0]) ++ List.replicate (1 - (lg_sl ([.ref h0])).length) Slot.unset).toArray = ls at hl ⊢
  have hl : lv_has ls 1 [(0, .ref h0)] := hl
  refine W_gen (fun Qz hQz => ?_)
  have hf := hR
  unfold R_EF_checkCompiled at hf
  refine lv_aload_n hx hb d_EF_checkCompiled_0 rfl (lv_at hl 0 rfl) ?_
  refine va_get (D := (dC, dI)) (ci := 5) (v := .ref mA) (C := RX5) (T := TX5) (N := 7) hx hb hts (fun w h => List.mem_cons_of_mem _ (in_X5 w h)) hown hK hP 0 rfl rfl 5 (by decide) (hts _ (List.mem_cons_of_mem _ k_246)) (fun _ h9 => h9) rfl d_EF_checkCompiled_1 ?_
  refine va_getN (D := (dC, dI)) (ci := 0) (v := .int ns) (C := RX0) (T := TX0) (N := 10) hx hb hts (fun w h => List.mem_cons_of_mem _ (in_X0 w h)) hown hK hP 1 rfl rfl 0 (by decide) (va_Nw.use rfl (hN _ nl_17)) (fun _ h9 => h9) rfl d_EF_checkCompiled_4 ?_
  refine lv_if_ne (tgt := 18) hx hb d_EF_checkCompiled_7 (by decide) (fun c_1 => ?_) (fun c_1 => ?_)
  · replace hf := hf.1 c_1
    have hP9 := hP.sub (ws' := [(h0, .inr (5, [.ref tw, .int ln, .int fl, .ref ps, .ref wk, .ref mA, .ref sA])), (mA, .inr (0, [.int ns, .int npos, .int ncc, .ref m1, .ref m2, .ref m3, .ref m4, .ref m5, .ref m6, .ref m7]))]) [0, 1] rfl
    have hD9 := hD.sub (ws' := [(h0, .inr (5, [.ref tw, .int ln, .int fl, .ref ps, .ref wk, .ref mA, .ref sA])), (mA, .inr (0, [.int ns, .int npos, .int ncc, .ref m1, .ref m2, .ref m3, .ref m4, .ref m5, .ref m6, .ref m7]))]) [0, 1] (by decide) rfl
    refine W_end hQz ?_
    refine W.widen (k := 1) (n := 6) (by decide) (by decide) ?_
    refine vx_ret ?_
    exact W.vret hx hb hr (fun t ht hW => ⟨⟨(), rfl, hf, P_cg ht.symm hP9, va_K.moved hW.alike hK, hD9⟩, hS.F ht⟩) hS.2.2 d_EF_checkCompiled_18 hlocks
  · replace hf := hf.2 c_1
    have hP9 := hP.sub (ws' := [(h0, .inr (5, [.ref tw, .int ln, .int fl, .ref ps, .ref wk, .ref mA, .ref sA])), (mA, .inr (0, [.int ns, .int npos, .int ncc, .ref m1, .ref m2, .ref m3, .ref m4, .ref m5, .ref m6, .ref m7]))]) [0, 1] rfl
    have hD9 := hD.sub (ws' := [(h0, .inr (5, [.ref tw, .int ln, .int fl, .ref ps, .ref wk, .ref mA, .ref sA])), (mA, .inr (0, [.int ns, .int npos, .int ncc, .ref m1, .ref m2, .ref m3, .ref m4, .ref m5, .ref m6, .ref m7]))]) [0, 1] (by decide) rfl
    refine W_end hQz ?_
    exact vx_throw0 (own := RX5) (cls := "java/lang/IllegalStateException") (names := ["java/lang/RuntimeException", "java/lang/Exception"]) hx hb hl9 hown (by decide +kernel) (by decide +kernel) (hts _ (List.mem_cons_of_mem _ k_348)) (hts _ (List.mem_cons_of_mem _ k_60)) (hat_IllegalState hts hX9) (by decide +kernel) hX9.2.2.1 hX9.2.2.2 hS (hl.1.trans hml.symm) d_EF_checkCompiled_10 d_EF_checkCompiled_13 d_EF_checkCompiled_14 d_EF_checkCompiled_17 (fun x h9 => (ht9 x h9).elim) (Nat.le_of_ble_eq_true rfl) (Nat.le_of_ble_eq_true rfl) (by decide) (by decide) hlocks (fun t ha hsz hk => ⟨(), trivial, ⟨hf, hP9.kept (fun k q hq => hk q.1 (hP9 k q hq).lt), va_K.moved ha hK, hD9⟩, Nat.le_trans hS.1 hsz, fun q h1 h2 => (hk q (Nat.lt_of_lt_of_le h1 hS.1)).trans (hS.2.1 q h1 h2)⟩) hS.2.2 (by decide) (by decide)
def R_EF_checkGoing (ln : Int32) (fl : Int32) (ns : Int32) (npos : Int32) (ncc : Int32) (wat : Int32) (wen : Int32) (wfe : Int32)  (out : (Unit) ⊕ (String × Unit)) : Prop := ∃ v_1, R_EF_checkCompiled ln fl ns npos ncc v_1 ∧ ((∀ u, v_1 = .inl u → (((wen = 0) → (out = .inl ())) ∧ (¬ (wen = 0) → (out = .inr ("java/lang/IllegalStateException", ()))))) ∧ (∀ E u, v_1 = .inr (E, u) → out = .inr (E, ())))
set_option maxHeartbeats 4000000 in
set_option maxRecDepth 100000 in
theorem c_EF_checkGoing (l : Launch) (hl9 : l.stackTraces = false) (dC : Nat → ClassId) (dI : Nat → Nat → Nat) (cA : Nat → ClassId) (h0 mA wk tw ps sA m1 m2 m3 m4 m5 m6 m7 d1 : Nat) (sz : Nat) (ln : Int32) (fl : Int32) (ns : Int32) (npos : Int32) (ncc : Int32) (wat : Int32) (wen : Int32) (wfe : Int32)  (out : (Unit) ⊕ (String × Unit)) (hR : R_EF_checkGoing ln fl ns npos ncc wat wen wfe  out) : vx_Met l y_EF_checkGoing ws_EF_checkGoing ({ frames := 7, cells := 2, slots := 12, locals := 120 }) (va_Pc [.ref h0] (fun U => U.heap.size = sz ∧ va_P (dC, dI) clA [(h0, .inr (5, [.ref tw, .int ln, .int fl, .ref ps, .ref wk, .ref mA, .ref sA])), (mA, .inr (0, [.int ns, .int npos, .int ncc, .ref m1, .ref m2, .ref m3, .ref m4, .ref m5, .ref m6, .ref m7])), (wk, .inr (4, [.int wat, .int wen, .int wfe, .ref d1]))] U.heap ∧ va_K (dC, dI) clA (tysA cA) U ∧ nW U ∧ xW (va_A [(h0, .inr (5, [.ref tw, .int ln, .int fl, .ref ps, .ref wk, .ref mA, .ref sA])), (mA, .inr (0, [.int ns, .int npos, .int ncc, .ref m1, .ref m2, .ref m3, .ref m4, .ref m5, .ref m6, .ref m7])), (wk, .inr (4, [.int wat, .int wen, .int wfe, .ref d1]))] sz) U ∧ va_D (fun _ => True) [(h0, .inr (5, [.ref tw, .int ln, .int fl, .ref ps, .ref wk, .ref mA, .ref sA])), (mA, .inr (0, [.int ns, .int npos, .int ncc, .ref m1, .ref m2, .ref m3, .ref m4, .ref m5, .ref m6, .ref m7])), (wk, .inr (4, [.int wat, .int wen, .int wfe, .ref d1]))])) (va_Qv (fun u : Unit => out = .inl u) (fun (u : Unit) (t : State) => va_P (dC, dI) clA [(h0, .inr (5, [.ref tw, .int ln, .int fl, .ref ps, .ref wk, .ref mA, .ref sA])), (mA, .inr (0, [.int ns, .int npos, .int ncc, .ref m1, .ref m2, .ref m3, .ref m4, .ref m5, .ref m6, .ref m7])), (wk, .inr (4, [.int wat, .int wen, .int wfe, .ref d1]))] t.heap ∧ va_K (dC, dI) clA (tysA cA) t ∧ va_D (va_A [(h0, .inr (5, [.ref tw, .int ln, .int fl, .ref ps, .ref wk, .ref mA, .ref sA])), (mA, .inr (0, [.int ns, .int npos, .int ncc, .ref m1, .ref m2, .ref m3, .ref m4, .ref m5, .ref m6, .ref m7])), (wk, .inr (4, [.int wat, .int wen, .int wfe, .ref d1]))] sz) [(h0, .inr (5, [.ref tw, .int ln, .int fl, .ref ps, .ref wk, .ref mA, .ref sA])), (mA, .inr (0, [.int ns, .int npos, .int ncc, .ref m1, .ref m2, .ref m3, .ref m4, .ref m5, .ref m6, .ref m7])), (wk, .inr (4, [.int wat, .int wen, .int wfe, .ref d1]))]) (va_A [(h0, .inr (5, [.ref tw, .int ln, .int fl, .ref ps, .ref wk, .ref mA, .ref sA])), (mA, .inr (0, [.int ns, .int npos, .int ncc, .ref m1, .ref m2, .ref m3, .ref m4, .ref m5, .ref m6, .ref m7])), (wk, .inr (4, [.int wat, .int wen, .int wfe, .ref d1]))] sz)) (vx_X (fun _ : Unit => True) (fun (E : String) (u : Unit) (t : State) => out = .inr (E, u) ∧ va_P (dC, dI) clA [(h0, .inr (5, [.ref tw, .int ln, .int fl, .ref ps, .ref wk, .ref mA, .ref sA])), (mA, .inr (0, [.int ns, .int npos, .int ncc, .ref m1, .ref m2, .ref m3, .ref m4, .ref m5, .ref m6, .ref m7])), (wk, .inr (4, [.int wat, .int wen, .int wfe, .ref d1]))] t.heap ∧ va_K (dC, dI) clA (tysA cA) t ∧ va_D (va_A [(h0, .inr (5, [.ref tw, .int ln, .int fl, .ref ps, .ref wk, .ref mA, .ref sA])), (mA, .inr (0, [.int ns, .int npos, .int ncc, .ref m1, .ref m2, .ref m3, .ref m4, .ref m5, .ref m6, .ref m7])), (wk, .inr (4, [.int wat, .int wen, .int wfe, .ref d1]))] sz) [(h0, .inr (5, [.ref tw, .int ln, .int fl, .ref ps, .ref wk, .ref mA, .ref sA])), (mA, .inr (0, [.int ns, .int npos, .int ncc, .ref m1, .ref m2, .ref m3, .ref m4, .ref m5, .ref m6, .ref m7])), (wk, .inr (4, [.int wat, .int wen, .int wfe, .ref d1]))]) (va_A [(h0, .inr (5, [.ref tw, .int ln, .int fl, .ref ps, .ref wk, .ref mA, .ref sA])), (mA, .inr (0, [.int ns, .int npos, .int ncc, .ref m1, .ref m2, .ref m3, .ref m4, .ref m5, .ref m6, .ref m7])), (wk, .inr (4, [.int wat, .int wen, .int wfe, .ref d1]))] sz)) 2 12 (va_A [(h0, .inr (5, [.ref tw, .int ln, .int fl, .ref ps, .ref wk, .ref mA, .ref sA])), (mA, .inr (0, [.int ns, .int npos, .int ncc, .ref m1, .ref m2, .ref m3, .ref m4, .ref m5, .ref m6, .ref m7])), (wk, .inr (4, [.int wat, .int wen, .int wfe, .ref d1]))] sz) := by
  refine vx_ofW (cc := b_EF_checkGoing) (maxL := 1) (ret := none) (by decide) rfl ?_
  intro p e s m args below meth c s₁ B hml ht9 hv
  obtain ⟨rfl, hsz, hP, hK, hN, hX9, hD0⟩ := hv
  have hx := B.exec
  have hb := B.bytes
  have hr := B.returns
  have hts := atoms_spec (ws := ws_EF_checkGoing) B.pre
  have hown : s.vm.findClass RX5 = some m.cls := findClass_of_methodNamed B.named
  have hlocks := B.notSynchronized
  subst hsz
  have hD := hD0.self (sz := s.heap.size)
  generalize hAe : va_A [(h0, .inr (5, [.ref tw, .int ln, .int fl, .ref ps, .ref wk, .ref mA, .ref sA])), (mA, .inr (0, [.int ns, .int npos, .int ncc, .ref m1, .ref m2, .ref m3, .ref m4, .ref m5, .ref m6, .ref m7])), (wk, .inr (4, [.int wat, .int wen, .int wfe, .ref d1]))] s.heap.size = A at hD hX9 ⊢
  have hA : ∀ q : Nat, s.heap.size ≤ q → A q := fun q h => by rw [← hAe]; exact Or.inr h
  have hS : va_S A s.heap s.heap [] := va_S.rf
  have hP : va_P (dC, dI) clA [(h0, .inr (5, [.ref tw, .int ln, .int fl, .ref ps, .ref wk, .ref mA, .ref sA])), (mA, .inr (0, [.int ns, .int npos, .int ncc, .ref m1, .ref m2, .ref m3, .ref m4, .ref m5, .ref m6, .ref m7])), (wk, .inr (4, [.int wat, .int wen, .int wfe, .ref d1]))] s.heap := hP
  have hl := lv_entry ([.ref h0]) (n := 1) (Nat.le_of_ble_eq_true rfl)
  rw [lg_entry_eq]
  generalize (lg_sl ([.ref h0]) ++ List.replicate (1 - (lg_sl ([.ref h0])).length) Slot.unset).toArray = ls at hl ⊢
  have hl : lv_has ls 1 [(0, .ref h0)] := hl
  refine W_gen (fun Qz hQz => ?_)
  have hf := hR
  unfold R_EF_checkGoing at hf
  refine lv_aload_n hx hb d_EF_checkGoing_0 rfl (lv_at hl 0 rfl) ?_
  obtain ⟨v_1, hv_1, hf⟩ := hf
  have hPc := hP.sub (ws' := [(h0, .inr (5, [.ref tw, .int ln, .int fl, .ref ps, .ref wk, .ref mA, .ref sA])), (mA, .inr (0, [.int ns, .int npos, .int ncc, .ref m1, .ref m2, .ref m3, .ref m4, .ref m5, .ref m6, .ref m7]))]) [0, 1] rfl
  have hDc := hD.sub (ws' := [(h0, .inr (5, [.ref tw, .int ln, .int fl, .ref ps, .ref wk, .ref mA, .ref sA])), (mA, .inr (0, [.int ns, .int npos, .int ncc, .ref m1, .ref m2, .ref m3, .ref m4, .ref m5, .ref m6, .ref m7]))]) [0, 1] (by decide) rfl
  have hFc := va_free (wc := [(h0, .inr (5, [.ref tw, .int ln, .int fl, .ref ps, .ref wk, .ref mA, .ref sA])), (mA, .inr (0, [.int ns, .int npos, .int ncc, .ref m1, .ref m2, .ref m3, .ref m4, .ref m5, .ref m6, .ref m7]))]) hD hS hA [0, 1] rfl
  refine vx_callv (vx_runV (As := []) (rest := []) ⟨hx, hb, hml, hown, hts⟩ (c_EF_checkCompiled l hl9 dC dI cA h0 mA tw ps wk sA m1 m2 m3 m4 m5 m6 m7 s.heap.size ln fl ns npos ncc v_1 hv_1) (cwV 0 hts (gV9 k_895 k_897 k_25 k_49 k_898) rfl rfl rfl hv_EF_checkCompiled ⟨Nat.le_of_ble_eq_true rfl, Nat.le_of_ble_eq_true rfl⟩) ⟨fun a U g mk q => by obtain ⟨q0, q1, qP, qK, qN, qX, qD⟩ := q; exact ⟨q0, q1, qP, va_K.moved (u := U) (U := U.calling g mk a) (Vm.Alike.refl U.vm) qK, nW_same (u := U) (U := U.calling g mk a) rfl qN, xW_same (u := U) (U := U.calling g mk a) (Vm.Alike.refl U.vm) rfl rfl qX, qD⟩, va_recv hK hPc (ci := 5) (q0 := 0) rfl rfl, fun U hU hW => ⟨rfl, congrArg _ hU, P_cg hU.symm hPc, va_K.moved hW.alike hK, nW_warm hW hN, xW_at hX9 hS hFc hU hW, hDc.weaken (fun _ _ _ _ => trivial)⟩⟩ rfl rfl hl.1 rfl (lv_room (Nat.le_of_ble_eq_true rfl)) d_EF_checkGoing_1 ⟨by decide, by decide⟩) hS (fun q _ h => hFc q h) hFc (fun q _ h => hFc q h) (fun E ce q9 u t H locs ht hvm hpx hB hz1 hk1 hS hce hcv hcl => ?_) (fun u t H locs ht hvm hw hB hz1 hk1 hS => ?_)
  · obtain ⟨hw, hP1, hK1, hD1⟩ := hB
    replace hf := hf.2 E u hw
    replace hP1 := P_cg ht hP1
    obtain ⟨hP, hD⟩ := va_join (wc := [(h0, .inr (5, [.ref tw, .int ln, .int fl, .ref ps, .ref wk, .ref mA, .ref sA])), (mA, .inr (0, [.int ns, .int npos, .int ncc, .ref m1, .ref m2, .ref m3, .ref m4, .ref m5, .ref m6, .ref m7]))]) (wr := [(wk, .inr (4, [.int wat, .int wen, .int wfe, .ref d1]))]) (w1 := [(h0, .inr (5, [.ref tw, .int ln, .int fl, .ref ps, .ref wk, .ref mA, .ref sA])), (mA, .inr (0, [.int ns, .int npos, .int ncc, .ref m1, .ref m2, .ref m3, .ref m4, .ref m5, .ref m6, .ref m7]))]) hP hD [0, 1] [2] rfl rfl (by decide) (by decide) hk1 hFc hP1 hD1
    have hP9 := hP.sub (ws' := [(h0, .inr (5, [.ref tw, .int ln, .int fl, .ref ps, .ref wk, .ref mA, .ref sA])), (mA, .inr (0, [.int ns, .int npos, .int ncc, .ref m1, .ref m2, .ref m3, .ref m4, .ref m5, .ref m6, .ref m7])), (wk, .inr (4, [.int wat, .int wen, .int wfe, .ref d1]))]) [1, 2, 0] rfl
    have hD9 := hD.sub (ws' := [(h0, .inr (5, [.ref tw, .int ln, .int fl, .ref ps, .ref wk, .ref mA, .ref sA])), (mA, .inr (0, [.int ns, .int npos, .int ncc, .ref m1, .ref m2, .ref m3, .ref m4, .ref m5, .ref m6, .ref m7])), (wk, .inr (4, [.int wat, .int wen, .int wfe, .ref d1]))]) [1, 2, 0] (by decide) rfl
    refine X_end hQz ?_
    exact vx_out (fun x h9 => (ht9 x h9).elim) hlocks hce hcv hcl (fun t ht ha => ⟨(), trivial, ⟨hf, P_cg ht.symm hP9, va_K.moved ha hK, hD9⟩, hS.F ht⟩) hS.2.2 (by decide) (by decide)
  · obtain ⟨hP1, hK1, hD1⟩ := hB
    replace hf := hf.1 u hw
    replace hP1 := P_cg ht hP1
    obtain ⟨hP, hD⟩ := va_join (wc := [(h0, .inr (5, [.ref tw, .int ln, .int fl, .ref ps, .ref wk, .ref mA, .ref sA])), (mA, .inr (0, [.int ns, .int npos, .int ncc, .ref m1, .ref m2, .ref m3, .ref m4, .ref m5, .ref m6, .ref m7]))]) (wr := [(wk, .inr (4, [.int wat, .int wen, .int wfe, .ref d1]))]) (w1 := [(h0, .inr (5, [.ref tw, .int ln, .int fl, .ref ps, .ref wk, .ref mA, .ref sA])), (mA, .inr (0, [.int ns, .int npos, .int ncc, .ref m1, .ref m2, .ref m3, .ref m4, .ref m5, .ref m6, .ref m7]))]) hP hD [0, 1] [2] rfl rfl (by decide) (by decide) hk1 hFc hP1 hD1
    have hP : va_P (dC, dI) clA [(wk, .inr (4, [.int wat, .int wen, .int wfe, .ref d1])), (h0, .inr (5, [.ref tw, .int ln, .int fl, .ref ps, .ref wk, .ref mA, .ref sA])), (mA, .inr (0, [.int ns, .int npos, .int ncc, .ref m1, .ref m2, .ref m3, .ref m4, .ref m5, .ref m6, .ref m7]))] H := hP
    have hD : va_D A [(wk, .inr (4, [.int wat, .int wen, .int wfe, .ref d1])), (h0, .inr (5, [.ref tw, .int ln, .int fl, .ref ps, .ref wk, .ref mA, .ref sA])), (mA, .inr (0, [.int ns, .int npos, .int ncc, .ref m1, .ref m2, .ref m3, .ref m4, .ref m5, .ref m6, .ref m7]))] := hD
    refine lv_aload_n hx hb d_EF_checkGoing_4 rfl (lv_at hl 0 rfl) ?_
    refine va_get (D := (dC, dI)) (ci := 5) (v := .ref wk) (C := RX5) (T := TX5) (N := 7) hx hb hts (fun w h => List.mem_cons_of_mem _ (in_X5 w h)) hown hK hP 1 rfl rfl 4 (by decide) (hts _ (List.mem_cons_of_mem _ k_245)) (fun _ h9 => h9) rfl d_EF_checkGoing_5 ?_
    refine va_getN (D := (dC, dI)) (ci := 4) (v := .int wen) (C := RX4) (T := TX4) (N := 4) hx hb hts (fun w h => List.mem_cons_of_mem _ (in_X4 w h)) hown hK hP 0 rfl rfl 1 (by decide) (va_Nw.use rfl (hN _ nl_14)) (fun _ h9 => h9) rfl d_EF_checkGoing_8 ?_
    refine lv_if_eq (tgt := 22) hx hb d_EF_checkGoing_11 (by decide) (fun c_2 => ?_) (fun c_2 => ?_)
    · replace hf := hf.1 c_2
      have hP9 := hP.sub (ws' := [(h0, .inr (5, [.ref tw, .int ln, .int fl, .ref ps, .ref wk, .ref mA, .ref sA])), (mA, .inr (0, [.int ns, .int npos, .int ncc, .ref m1, .ref m2, .ref m3, .ref m4, .ref m5, .ref m6, .ref m7])), (wk, .inr (4, [.int wat, .int wen, .int wfe, .ref d1]))]) [1, 2, 0] rfl
      have hD9 := hD.sub (ws' := [(h0, .inr (5, [.ref tw, .int ln, .int fl, .ref ps, .ref wk, .ref mA, .ref sA])), (mA, .inr (0, [.int ns, .int npos, .int ncc, .ref m1, .ref m2, .ref m3, .ref m4, .ref m5, .ref m6, .ref m7])), (wk, .inr (4, [.int wat, .int wen, .int wfe, .ref d1]))]) [1, 2, 0] (by decide) rfl
      refine W_end hQz ?_
      refine W.widen (k := 2) (n := 12) (by decide) (by decide) ?_
      refine vx_ret ?_
      exact W.vret hx hb hr (fun t ht hW => ⟨⟨(), rfl, hf, P_cg ht.symm hP9, va_K.moved hW.alike hK, hD9⟩, hS.F ht⟩) hS.2.2 d_EF_checkGoing_22 hlocks
    · replace hf := hf.2 c_2
      have hP9 := hP.sub (ws' := [(h0, .inr (5, [.ref tw, .int ln, .int fl, .ref ps, .ref wk, .ref mA, .ref sA])), (mA, .inr (0, [.int ns, .int npos, .int ncc, .ref m1, .ref m2, .ref m3, .ref m4, .ref m5, .ref m6, .ref m7])), (wk, .inr (4, [.int wat, .int wen, .int wfe, .ref d1]))]) [1, 2, 0] rfl
      have hD9 := hD.sub (ws' := [(h0, .inr (5, [.ref tw, .int ln, .int fl, .ref ps, .ref wk, .ref mA, .ref sA])), (mA, .inr (0, [.int ns, .int npos, .int ncc, .ref m1, .ref m2, .ref m3, .ref m4, .ref m5, .ref m6, .ref m7])), (wk, .inr (4, [.int wat, .int wen, .int wfe, .ref d1]))]) [1, 2, 0] (by decide) rfl
      refine W_end hQz ?_
      exact vx_throw0 (own := RX5) (cls := "java/lang/IllegalStateException") (names := ["java/lang/RuntimeException", "java/lang/Exception"]) hx hb hl9 hown (by decide +kernel) (by decide +kernel) (hts _ (List.mem_cons_of_mem _ k_348)) (hts _ (List.mem_cons_of_mem _ k_60)) (hat_IllegalState hts hX9) (by decide +kernel) hX9.2.2.1 hX9.2.2.2 hS (hl.1.trans hml.symm) d_EF_checkGoing_14 d_EF_checkGoing_17 d_EF_checkGoing_18 d_EF_checkGoing_21 (fun x h9 => (ht9 x h9).elim) (Nat.le_of_ble_eq_true rfl) (Nat.le_of_ble_eq_true rfl) (by decide) (by decide) hlocks (fun t ha hsz hk => ⟨(), trivial, ⟨hf, hP9.kept (fun k q hq => hk q.1 (hP9 k q hq).lt), va_K.moved ha hK, hD9⟩, Nat.le_trans hS.1 hsz, fun q h1 h2 => (hk q (Nat.lt_of_lt_of_le h1 hS.1)).trans (hS.2.1 q h1 h2)⟩) hS.2.2 (by decide) (by decide)
def g_EF_text (w : Int64) (fl : Int32) : Nat → Nat → Int32 → Int32 → Int32 → (Nat → Int32) → ((Int32 × Int32 × (Nat → Int32)) ⊕ (String × Int32 × (Nat → Int32))) → Prop
  | 0, _, _, _, _, _, _ => False
  | n + 1, k, x3, x4, ln, tx, out => match k with
    | 1 => ((x4 < 0) → ((((ln + x3) ≤ 80) → (∃ v_3, R_EF_append w fl ln tx v_3 ∧ (out = .inl (v_3.1, (v_3.1, v_3.2))))) ∧ (¬ ((ln + x3) ≤ 80) → (out = .inr ("java/lang/IllegalStateException", (ln, tx)))))) ∧ (¬ (x4 < 0) → (∃ v_5, R_EF_byteAt w x4 v_5 ∧ (((v_5.1 = 0) → (((v_5.1 = 0) → (g_EF_text w fl n 1 x3 (x4 + (-8)) ln tx out)) ∧ (¬ (v_5.1 = 0) → (g_EF_text w fl n 1 (x3 + 1) (x4 + (-8)) ln tx out)))) ∧ (¬ (v_5.1 = 0) → (((v_5.1 < 32) → (out = .inr ("java/lang/IllegalArgumentException", (ln, tx)))) ∧ (¬ (v_5.1 < 32) → (((v_5.1 ≤ 126) → (((v_5.1 = 0) → (g_EF_text w fl n 1 x3 (x4 + (-8)) ln tx out)) ∧ (¬ (v_5.1 = 0) → (g_EF_text w fl n 1 (x3 + 1) (x4 + (-8)) ln tx out)))) ∧ (¬ (v_5.1 ≤ 126) → (out = .inr ("java/lang/IllegalArgumentException", (ln, tx)))))))))))
    | _ => False
theorem g_EF_text_1 (w : Int64) (fl : Int32) (n : Nat) (x3 : Int32) (x4 : Int32) (ln : Int32) (tx : Nat → Int32) (out : (Int32 × Int32 × (Nat → Int32)) ⊕ (String × Int32 × (Nat → Int32))) : g_EF_text w fl (n + 1) 1 x3 x4 ln tx out = (((x4 < 0) → ((((ln + x3) ≤ 80) → (∃ v_3, R_EF_append w fl ln tx v_3 ∧ (out = .inl (v_3.1, (v_3.1, v_3.2))))) ∧ (¬ ((ln + x3) ≤ 80) → (out = .inr ("java/lang/IllegalStateException", (ln, tx)))))) ∧ (¬ (x4 < 0) → (∃ v_5, R_EF_byteAt w x4 v_5 ∧ (((v_5.1 = 0) → (((v_5.1 = 0) → (g_EF_text w fl n 1 x3 (x4 + (-8)) ln tx out)) ∧ (¬ (v_5.1 = 0) → (g_EF_text w fl n 1 (x3 + 1) (x4 + (-8)) ln tx out)))) ∧ (¬ (v_5.1 = 0) → (((v_5.1 < 32) → (out = .inr ("java/lang/IllegalArgumentException", (ln, tx)))) ∧ (¬ (v_5.1 < 32) → (((v_5.1 ≤ 126) → (((v_5.1 = 0) → (g_EF_text w fl n 1 x3 (x4 + (-8)) ln tx out)) ∧ (¬ (v_5.1 = 0) → (g_EF_text w fl n 1 (x3 + 1) (x4 + (-8)) ln tx out)))) ∧ (¬ (v_5.1 ≤ 126) → (out = .inr ("java/lang/IllegalArgumentException", (ln, tx)))))))))))) := rfl
def R_EF_text (w : Int64) (fl : Int32) (ln : Int32) (tx : Nat → Int32) (out : (Int32 × Int32 × (Nat → Int32)) ⊕ (String × Int32 × (Nat → Int32))) : Prop := (∃ n, g_EF_text w fl n 1 0 56 ln tx out)
set_option maxHeartbeats 4000000 in
set_option maxRecDepth 100000 in
theorem c_EF_text (l : Launch) (hl9 : l.stackTraces = false) (dC : Nat → ClassId) (dI : Nat → Nat → Nat) (cA : Nat → ClassId) (h0 tw ps wk mA sA : Nat) (sz : Nat) (w : Int64) (fl : Int32) (ln : Int32) (tx : Nat → Int32) (out : (Int32 × Int32 × (Nat → Int32)) ⊕ (String × Int32 × (Nat → Int32))) (hR : R_EF_text w fl ln tx out) : vx_Met l y_EF_text ws_EF_text ({ frames := 6, cells := 1, slots := 6, locals := 100 }) (va_Pc [.ref h0, .long w] (fun U => U.heap.size = sz ∧ va_P (dC, dI) clA [(h0, .inr (5, [.ref tw, .int ln, .int fl, .ref ps, .ref wk, .ref mA, .ref sA])), (tw, .inl ((cA 2), 80, .inl tx))] U.heap ∧ va_K (dC, dI) clA (tysA cA) U ∧ nW U ∧ xW (va_A [(h0, .inr (5, [.ref tw, .int ln, .int fl, .ref ps, .ref wk, .ref mA, .ref sA])), (tw, .inl ((cA 2), 80, .inl tx))] sz) U ∧ va_D (fun _ => True) [(h0, .inr (5, [.ref tw, .int ln, .int fl, .ref ps, .ref wk, .ref mA, .ref sA])), (tw, .inl ((cA 2), 80, .inl tx))])) (va_Qi (fun (r : Int32) (u : Int32 × (Nat → Int32)) => out = .inl (r, u)) (fun (u : Int32 × (Nat → Int32)) (t : State) => va_P (dC, dI) clA [(h0, .inr (5, [.ref tw, .int u.1, .int fl, .ref ps, .ref wk, .ref mA, .ref sA])), (tw, .inl ((cA 2), 80, .inl u.2))] t.heap ∧ va_K (dC, dI) clA (tysA cA) t ∧ va_D (va_A [(h0, .inr (5, [.ref tw, .int ln, .int fl, .ref ps, .ref wk, .ref mA, .ref sA])), (tw, .inl ((cA 2), 80, .inl tx))] sz) [(h0, .inr (5, [.ref tw, .int u.1, .int fl, .ref ps, .ref wk, .ref mA, .ref sA])), (tw, .inl ((cA 2), 80, .inl u.2))]) (va_A [(h0, .inr (5, [.ref tw, .int ln, .int fl, .ref ps, .ref wk, .ref mA, .ref sA])), (tw, .inl ((cA 2), 80, .inl tx))] sz)) (vx_X (fun _ : Int32 × (Nat → Int32) => True) (fun (E : String) (u : Int32 × (Nat → Int32)) (t : State) => out = .inr (E, u) ∧ va_P (dC, dI) clA [(h0, .inr (5, [.ref tw, .int u.1, .int fl, .ref ps, .ref wk, .ref mA, .ref sA])), (tw, .inl ((cA 2), 80, .inl u.2))] t.heap ∧ va_K (dC, dI) clA (tysA cA) t ∧ va_D (va_A [(h0, .inr (5, [.ref tw, .int ln, .int fl, .ref ps, .ref wk, .ref mA, .ref sA])), (tw, .inl ((cA 2), 80, .inl tx))] sz) [(h0, .inr (5, [.ref tw, .int u.1, .int fl, .ref ps, .ref wk, .ref mA, .ref sA])), (tw, .inl ((cA 2), 80, .inl u.2))]) (va_A [(h0, .inr (5, [.ref tw, .int ln, .int fl, .ref ps, .ref wk, .ref mA, .ref sA])), (tw, .inl ((cA 2), 80, .inl tx))] sz)) 1 6 (va_A [(h0, .inr (5, [.ref tw, .int ln, .int fl, .ref ps, .ref wk, .ref mA, .ref sA])), (tw, .inl ((cA 2), 80, .inl tx))] sz) := by
  refine vx_ofW (cc := b_EF_text) (maxL := 6) (ret := (some .int)) (by decide) rfl ?_
  intro p e s m args below meth c s₁ B hml ht9 hv
  obtain ⟨rfl, hsz, hP, hK, hN, hX9, hD0⟩ := hv
  have hx := B.exec
  have hb := B.bytes
  have hr := B.returns
  have hts := atoms_spec (ws := ws_EF_text) B.pre
  have hown : s.vm.findClass RX5 = some m.cls := findClass_of_methodNamed B.named
  have hlocks := B.notSynchronized
  subst hsz
  have hD := hD0.self (sz := s.heap.size)
  generalize hAe : va_A [(h0, .inr (5, [.ref tw, .int ln, .int fl, .ref ps, .ref wk, .ref mA, .ref sA])), (tw, .inl ((cA 2), 80, .inl tx))] s.heap.size = A at hD hX9 ⊢
  have hA : ∀ q : Nat, s.heap.size ≤ q → A q := fun q h => by rw [← hAe]; exact Or.inr h
  have hS : va_S A s.heap s.heap [] := va_S.rf
  have hP : va_P (dC, dI) clA [(h0, .inr (5, [.ref tw, .int ln, .int fl, .ref ps, .ref wk, .ref mA, .ref sA])), (tw, .inl ((cA 2), 80, .inl tx))] s.heap := hP
  have hl := lv_entry ([.ref h0, .long w]) (n := 6) (Nat.le_of_ble_eq_true rfl)
  rw [lg_entry_eq]
  generalize (lg_sl ([.ref h0, .long w]) ++ List.replicate (6 - (lg_sl ([.ref h0, .long w])).length) Slot.unset).toArray = ls at hl ⊢
  have hl : lv_has ls 6 [(0, .ref h0), (1, .long w)] := hl
  refine W_gen (fun Qz hQz => ?_)
  have hC : ∀ n : Nat, (∀ (x3 : Int32) (x4 : Int32) (ln : Int32) (tx : Nat → Int32) (H : Heap) (locs : List Loc) (ls : Array Slot), g_EF_text w fl n 1 x3 x4 ln tx out → va_P (dC, dI) clA [(h0, .inr (5, [.ref tw, .int ln, .int fl, .ref ps, .ref wk, .ref mA, .ref sA])), (tw, .inl ((cA 2), 80, .inl tx))] H → va_D A [(h0, .inr (5, [.ref tw, .int ln, .int fl, .ref ps, .ref wk, .ref mA, .ref sA])), (tw, .inl ((cA 2), 80, .inl tx))] → va_S A s.heap H locs → lv_has ls 6 [(0, .ref h0), (1, .long w), (3, .int x3), (4, .int x4)] → W p l e ({ frames := 6, cells := 1, slots := 6, locals := 100 }) s m ([.ref h0, .long w]).toArray below meth c H locs 0 0 Qz (F0 m 6 ls [])) := by
    intro n
    induction n with
    | zero => exact fun _ _ _ _ _ _ _ hf => hf.elim
    | succ n ih =>
      have ih1 := ih
      · intro x3 x4 ln tx H locs ls hf hP hD hS hl
        rw [g_EF_text_1] at hf
        refine lv_iload hx hb d_EF_text_6 (lv_at hl 3 rfl) ?_
        refine lv_if_lt (tgt := 60) hx hb d_EF_text_8 (by decide) (fun c_1 => ?_) (fun c_1 => ?_)
        · replace hf := hf.1 c_1
          refine lv_aload_n hx hb d_EF_text_60 rfl (lv_at hl 0 rfl) ?_
          refine va_get (D := (dC, dI)) (ci := 5) (v := .int ln) (C := RX5) (T := TX5) (N := 7) hx hb hts (fun w h => List.mem_cons_of_mem _ (in_X5 w h)) hown hK hP 0 rfl rfl 1 (by decide) (hts _ (List.mem_cons_of_mem _ k_242)) (fun _ h9 => h9) rfl d_EF_text_61 ?_
          refine lv_iload_n hx hb d_EF_text_64 rfl (lv_at hl 2 rfl) ?_
          refine lv_iadd hx hb d_EF_text_65 ?_
          refine lv_bipush (v := 80) hx hb d_EF_text_66 (by decide) ?_
          refine lv_icmp_le (tgt := 79) hx hb d_EF_text_68 (by decide) (fun c_2 => ?_) (fun c_2 => ?_)
          · replace hf := hf.1 c_2
            refine lv_aload_n hx hb d_EF_text_79 rfl (lv_at hl 0 rfl) ?_
            refine lv_lload_n hx hb d_EF_text_80 rfl (lv_at hl 1 rfl) ?_
            obtain ⟨v_3, hv_3, hf⟩ := hf
            have hPc := hP.sub (ws' := [(h0, .inr (5, [.ref tw, .int ln, .int fl, .ref ps, .ref wk, .ref mA, .ref sA])), (tw, .inl ((cA 2), 80, .inl tx))]) [0, 1] rfl
            have hDc := hD.sub (ws' := [(h0, .inr (5, [.ref tw, .int ln, .int fl, .ref ps, .ref wk, .ref mA, .ref sA])), (tw, .inl ((cA 2), 80, .inl tx))]) [0, 1] (by decide) rfl
            have hFc := va_free (wc := [(h0, .inr (5, [.ref tw, .int ln, .int fl, .ref ps, .ref wk, .ref mA, .ref sA])), (tw, .inl ((cA 2), 80, .inl tx))]) hD hS hA [0, 1] rfl
            refine va_callv (va_runV (As := [.long w]) (rest := []) ⟨hx, hb, hml, hown, hts⟩ (c_EF_append l dC dI cA h0 tw ps wk mA sA H.size w fl ln tx v_3 hv_3) (cwV 1 hts (gV9 k_363 k_365 k_1 k_49 k_366) rfl rfl rfl hv_EF_append ⟨Nat.le_of_ble_eq_true rfl, Nat.le_of_ble_eq_true rfl⟩) ⟨fun a U g mk q => by obtain ⟨q0, q1, qP, qK, qN, qD⟩ := q; exact ⟨q0, q1, qP, va_K.moved (u := U) (U := U.calling g mk a) (Vm.Alike.refl U.vm) qK, nW_same (u := U) (U := U.calling g mk a) rfl qN, qD⟩, va_recv hK hPc (ci := 5) (q0 := 0) rfl rfl, fun U hU hW => ⟨rfl, congrArg _ hU, P_cg hU.symm hPc, va_K.moved hW.alike hK, nW_warm hW hN, hDc.weaken (fun _ _ _ _ => trivial)⟩⟩ rfl rfl hl.1 rfl (lv_room (Nat.le_of_ble_eq_true rfl)) d_EF_text_81 ⟨by decide, by decide⟩) hS (fun q _ h => hFc q h) hFc (fun u t H locs ht hvm hw hB hz1 hk1 hS => ?_)
            subst hw
            obtain ⟨hP1, hK1, hD1⟩ := hB
            replace hP1 := P_cg ht hP1
            obtain ⟨hP, hD⟩ := va_join (wc := [(h0, .inr (5, [.ref tw, .int ln, .int fl, .ref ps, .ref wk, .ref mA, .ref sA])), (tw, .inl ((cA 2), 80, .inl tx))]) (wr := []) (w1 := [(h0, .inr (5, [.ref tw, .int v_3.1, .int fl, .ref ps, .ref wk, .ref mA, .ref sA])), (tw, .inl ((cA 2), 80, .inl v_3.2))]) hP hD [0, 1] [] rfl rfl (by decide) (by decide) hk1 hFc hP1 hD1
            have hP : va_P (dC, dI) clA [(h0, .inr (5, [.ref tw, .int v_3.1, .int fl, .ref ps, .ref wk, .ref mA, .ref sA])), (tw, .inl ((cA 2), 80, .inl v_3.2))] H := hP
            have hD : va_D A [(h0, .inr (5, [.ref tw, .int v_3.1, .int fl, .ref ps, .ref wk, .ref mA, .ref sA])), (tw, .inl ((cA 2), 80, .inl v_3.2))] := hD
            refine lv_aload_n hx hb d_EF_text_84 rfl (lv_at hl 0 rfl) ?_
            refine va_get (D := (dC, dI)) (ci := 5) (v := .int v_3.1) (C := RX5) (T := TX5) (N := 7) hx hb hts (fun w h => List.mem_cons_of_mem _ (in_X5 w h)) hown hK hP 0 rfl rfl 1 (by decide) (hts _ (List.mem_cons_of_mem _ k_242)) (fun _ h9 => h9) rfl d_EF_text_85 ?_
            have hP9 := hP.sub (ws' := [(h0, .inr (5, [.ref tw, .int v_3.1, .int fl, .ref ps, .ref wk, .ref mA, .ref sA])), (tw, .inl ((cA 2), 80, .inl v_3.2))]) [0, 1] rfl
            have hD9 := hD.sub (ws' := [(h0, .inr (5, [.ref tw, .int v_3.1, .int fl, .ref ps, .ref wk, .ref mA, .ref sA])), (tw, .inl ((cA 2), 80, .inl v_3.2))]) [0, 1] (by decide) rfl
            refine W_end hQz ?_
            refine W.widen (k := 1) (n := 6) (by decide) (by decide) ?_
            refine vx_ret ?_
            exact W.iret (v := v_3.1) hx hb hr (fun t ht hW => ⟨⟨v_3.1, (v_3.1, v_3.2), rfl, hf, P_cg ht.symm hP9, va_K.moved hW.alike hK, hD9⟩, hS.F ht⟩) hS.2.2 d_EF_text_88 hlocks
          · replace hf := hf.2 c_2
            have hP9 := hP.sub (ws' := [(h0, .inr (5, [.ref tw, .int ln, .int fl, .ref ps, .ref wk, .ref mA, .ref sA])), (tw, .inl ((cA 2), 80, .inl tx))]) [0, 1] rfl
            have hD9 := hD.sub (ws' := [(h0, .inr (5, [.ref tw, .int ln, .int fl, .ref ps, .ref wk, .ref mA, .ref sA])), (tw, .inl ((cA 2), 80, .inl tx))]) [0, 1] (by decide) rfl
            refine W_end hQz ?_
            exact vx_throw0 (own := RX5) (cls := "java/lang/IllegalStateException") (names := ["java/lang/RuntimeException", "java/lang/Exception"]) hx hb hl9 hown (by decide +kernel) (by decide +kernel) (hts _ (List.mem_cons_of_mem _ k_348)) (hts _ (List.mem_cons_of_mem _ k_60)) (hat_IllegalState hts hX9) (by decide +kernel) hX9.2.2.1 hX9.2.2.2 hS (hl.1.trans hml.symm) d_EF_text_71 d_EF_text_74 d_EF_text_75 d_EF_text_78 (fun x h9 => (ht9 x h9).elim) (Nat.le_of_ble_eq_true rfl) (Nat.le_of_ble_eq_true rfl) (by decide) (by decide) hlocks (fun t ha hsz hk => ⟨(ln, tx), trivial, ⟨hf, hP9.kept (fun k q hq => hk q.1 (hP9 k q hq).lt), va_K.moved ha hK, hD9⟩, Nat.le_trans hS.1 hsz, fun q h1 h2 => (hk q (Nat.lt_of_lt_of_le h1 hS.1)).trans (hS.2.1 q h1 h2)⟩) hS.2.2 (by decide) (by decide)
        · replace hf := hf.2 c_1
          refine lv_lload_n hx hb d_EF_text_11 rfl (lv_at hl 1 rfl) ?_
          refine lv_iload hx hb d_EF_text_12 (lv_at hl 3 rfl) ?_
          obtain ⟨v_5, hv_5, hf⟩ := hf
          have hPc := hP.sub (ws' := []) [] rfl
          have hDc := hD.sub (ws' := []) [] (by decide) rfl
          have hFc := va_free (wc := []) hD hS hA [] rfl
          refine va_calli (va_runS (As := [.long w, .int x4]) (rest := []) ⟨hx, hb, hml, hown, hts⟩ (c_EF_byteAt l dC dI cA H.size w x4 v_5 hv_5) (va_cwS 2 hts (gS9 k_280 k_281 k_49 k_282) rfl rfl rfl hs_EF_byteAt ⟨Nat.le_of_ble_eq_true rfl, Nat.le_of_ble_eq_true rfl⟩) ⟨fun a U g mk q => by obtain ⟨q0, q1, qP, qK, qN, qD⟩ := q; exact ⟨q0, q1, qP, va_K.moved (u := U) (U := U.calling g mk a) (Vm.Alike.refl U.vm) qK, nW_same (u := U) (U := U.calling g mk a) rfl qN, qD⟩, fun U hU hW => ⟨rfl, congrArg _ hU, P_cg hU.symm hPc, va_K.moved hW.alike hK, nW_warm hW hN, hDc.weaken (fun _ _ _ _ => trivial)⟩⟩ rfl rfl hl.1 rfl (lv_room (Nat.le_of_ble_eq_true rfl)) d_EF_text_14 ⟨by decide, by decide⟩) hS (fun q _ h => hFc q h) hFc (fun r u t H locs ht hvm hw hB hz1 hk1 hS => ?_)
          obtain ⟨rfl, rfl⟩ : r = v_5.1 ∧ u = v_5.2 := ⟨(congrArg Prod.fst hw).symm, (congrArg Prod.snd hw).symm⟩
          obtain ⟨hP1, hK1, hD1⟩ := hB
          replace hP1 := P_cg ht hP1
          obtain ⟨hP, hD⟩ := va_join (wc := []) (wr := [(h0, .inr (5, [.ref tw, .int ln, .int fl, .ref ps, .ref wk, .ref mA, .ref sA])), (tw, .inl ((cA 2), 80, .inl tx))]) (w1 := []) hP hD [] [0, 1] rfl rfl (by decide) (by decide) hk1 hFc hP1 hD1
          have hP : va_P (dC, dI) clA [(h0, .inr (5, [.ref tw, .int ln, .int fl, .ref ps, .ref wk, .ref mA, .ref sA])), (tw, .inl ((cA 2), 80, .inl tx))] H := hP
          have hD : va_D A [(h0, .inr (5, [.ref tw, .int ln, .int fl, .ref ps, .ref wk, .ref mA, .ref sA])), (tw, .inl ((cA 2), 80, .inl tx))] := hD
          refine lv_istore (lv' := [(5, .int v_5.1), (0, .ref h0), (1, .long w), (3, .int x3), (4, .int x4)]) hx hb d_EF_text_17 hl (by decide) rfl (fun ls hl => ?_)
          refine lv_iload hx hb d_EF_text_19 (lv_at hl 0 rfl) ?_
          refine lv_if_eq (tgt := 46) hx hb d_EF_text_21 (by decide) (fun c_6 => ?_) (fun c_6 => ?_)
          · replace hf := hf.1 c_6
            refine lv_iload hx hb d_EF_text_46 (lv_at hl 0 rfl) ?_
            refine lv_if_eq (tgt := 54) hx hb d_EF_text_48 (by decide) (fun c_7 => ?_) (fun c_7 => ?_)
            · replace hf := hf.1 c_7
              refine lv_iinc (v := x4 + (-8)) (lv' := [(4, .int (x4 + (-8))), (5, .int v_5.1), (0, .ref h0), (1, .long w), (3, .int x3)]) hx hb d_EF_text_54 hl (k := 4) rfl rfl (by decide) rfl (fun ls hl => ?_)
              refine lv_goto (tgt := 6) hx hb d_EF_text_57 (by decide) ?_
              exact ih1 _ _ _ _ _ _ _ hf (hP.sub [0, 1] rfl) (hD.sub [0, 1] (by decide) rfl) hS (lv_sub hl [2, 3, 4, 0] rfl)
            · replace hf := hf.2 c_7
              refine lv_iinc (v := x3 + 1) (lv' := [(3, .int (x3 + 1)), (5, .int v_5.1), (0, .ref h0), (1, .long w), (4, .int x4)]) hx hb d_EF_text_51 hl (k := 3) rfl rfl (by decide) rfl (fun ls hl => ?_)
              refine lv_iinc (v := x4 + (-8)) (lv' := [(4, .int (x4 + (-8))), (3, .int (x3 + 1)), (5, .int v_5.1), (0, .ref h0), (1, .long w)]) hx hb d_EF_text_54 hl (k := 4) rfl rfl (by decide) rfl (fun ls hl => ?_)
              refine lv_goto (tgt := 6) hx hb d_EF_text_57 (by decide) ?_
              exact ih1 _ _ _ _ _ _ _ hf (hP.sub [0, 1] rfl) (hD.sub [0, 1] (by decide) rfl) hS (lv_sub hl [3, 4, 1, 0] rfl)
          · replace hf := hf.2 c_6
            refine lv_iload hx hb d_EF_text_24 (lv_at hl 0 rfl) ?_
            refine lv_bipush (v := 32) hx hb d_EF_text_26 (by decide) ?_
            refine lv_icmp_lt (tgt := 38) hx hb d_EF_text_28 (by decide) (fun c_8 => ?_) (fun c_8 => ?_)
            · replace hf := hf.1 c_8
              have hP9 := hP.sub (ws' := [(h0, .inr (5, [.ref tw, .int ln, .int fl, .ref ps, .ref wk, .ref mA, .ref sA])), (tw, .inl ((cA 2), 80, .inl tx))]) [0, 1] rfl
              have hD9 := hD.sub (ws' := [(h0, .inr (5, [.ref tw, .int ln, .int fl, .ref ps, .ref wk, .ref mA, .ref sA])), (tw, .inl ((cA 2), 80, .inl tx))]) [0, 1] (by decide) rfl
              refine W_end hQz ?_
              exact vx_throw0 (own := RX5) (cls := "java/lang/IllegalArgumentException") (names := ["java/lang/RuntimeException", "java/lang/Exception"]) hx hb hl9 hown (by decide +kernel) (by decide +kernel) (hts _ (List.mem_cons_of_mem _ k_283)) (hts _ (List.mem_cons_of_mem _ k_59)) (hat_IllegalArgument hts hX9) (by decide +kernel) hX9.2.2.1 hX9.2.2.2 hS (hl.1.trans hml.symm) d_EF_text_38 d_EF_text_41 d_EF_text_42 d_EF_text_45 (fun x h9 => (ht9 x h9).elim) (Nat.le_of_ble_eq_true rfl) (Nat.le_of_ble_eq_true rfl) (by decide) (by decide) hlocks (fun t ha hsz hk => ⟨(ln, tx), trivial, ⟨hf, hP9.kept (fun k q hq => hk q.1 (hP9 k q hq).lt), va_K.moved ha hK, hD9⟩, Nat.le_trans hS.1 hsz, fun q h1 h2 => (hk q (Nat.lt_of_lt_of_le h1 hS.1)).trans (hS.2.1 q h1 h2)⟩) hS.2.2 (by decide) (by decide)
            · replace hf := hf.2 c_8
              refine lv_iload hx hb d_EF_text_31 (lv_at hl 0 rfl) ?_
              refine lv_bipush (v := 126) hx hb d_EF_text_33 (by decide) ?_
              refine lv_icmp_le (tgt := 46) hx hb d_EF_text_35 (by decide) (fun c_9 => ?_) (fun c_9 => ?_)
              · replace hf := hf.1 c_9
                refine lv_iload hx hb d_EF_text_46 (lv_at hl 0 rfl) ?_
                refine lv_if_eq (tgt := 54) hx hb d_EF_text_48 (by decide) (fun c_10 => ?_) (fun c_10 => ?_)
                · replace hf := hf.1 c_10
                  refine lv_iinc (v := x4 + (-8)) (lv' := [(4, .int (x4 + (-8))), (5, .int v_5.1), (0, .ref h0), (1, .long w), (3, .int x3)]) hx hb d_EF_text_54 hl (k := 4) rfl rfl (by decide) rfl (fun ls hl => ?_)
                  refine lv_goto (tgt := 6) hx hb d_EF_text_57 (by decide) ?_
                  exact ih1 _ _ _ _ _ _ _ hf (hP.sub [0, 1] rfl) (hD.sub [0, 1] (by decide) rfl) hS (lv_sub hl [2, 3, 4, 0] rfl)
                · replace hf := hf.2 c_10
                  refine lv_iinc (v := x3 + 1) (lv' := [(3, .int (x3 + 1)), (5, .int v_5.1), (0, .ref h0), (1, .long w), (4, .int x4)]) hx hb d_EF_text_51 hl (k := 3) rfl rfl (by decide) rfl (fun ls hl => ?_)
                  refine lv_iinc (v := x4 + (-8)) (lv' := [(4, .int (x4 + (-8))), (3, .int (x3 + 1)), (5, .int v_5.1), (0, .ref h0), (1, .long w)]) hx hb d_EF_text_54 hl (k := 4) rfl rfl (by decide) rfl (fun ls hl => ?_)
                  refine lv_goto (tgt := 6) hx hb d_EF_text_57 (by decide) ?_
                  exact ih1 _ _ _ _ _ _ _ hf (hP.sub [0, 1] rfl) (hD.sub [0, 1] (by decide) rfl) hS (lv_sub hl [3, 4, 1, 0] rfl)
              · replace hf := hf.2 c_9
                have hP9 := hP.sub (ws' := [(h0, .inr (5, [.ref tw, .int ln, .int fl, .ref ps, .ref wk, .ref mA, .ref sA])), (tw, .inl ((cA 2), 80, .inl tx))]) [0, 1] rfl
                have hD9 := hD.sub (ws' := [(h0, .inr (5, [.ref tw, .int ln, .int fl, .ref ps, .ref wk, .ref mA, .ref sA])), (tw, .inl ((cA 2), 80, .inl tx))]) [0, 1] (by decide) rfl
                refine W_end hQz ?_
                exact vx_throw0 (own := RX5) (cls := "java/lang/IllegalArgumentException") (names := ["java/lang/RuntimeException", "java/lang/Exception"]) hx hb hl9 hown (by decide +kernel) (by decide +kernel) (hts _ (List.mem_cons_of_mem _ k_283)) (hts _ (List.mem_cons_of_mem _ k_59)) (hat_IllegalArgument hts hX9) (by decide +kernel) hX9.2.2.1 hX9.2.2.2 hS (hl.1.trans hml.symm) d_EF_text_38 d_EF_text_41 d_EF_text_42 d_EF_text_45 (fun x h9 => (ht9 x h9).elim) (Nat.le_of_ble_eq_true rfl) (Nat.le_of_ble_eq_true rfl) (by decide) (by decide) hlocks (fun t ha hsz hk => ⟨(ln, tx), trivial, ⟨hf, hP9.kept (fun k q hq => hk q.1 (hP9 k q hq).lt), va_K.moved ha hK, hD9⟩, Nat.le_trans hS.1 hsz, fun q h1 h2 => (hk q (Nat.lt_of_lt_of_le h1 hS.1)).trans (hS.2.1 q h1 h2)⟩) hS.2.2 (by decide) (by decide)
  have hf := hR
  unfold R_EF_text at hf
  refine lv_iconst (v := 0) hx hb d_EF_text_0 (by decide) ?_
  refine lv_istore_n (lv' := [(3, .int 0), (0, .ref h0), (1, .long w)]) hx hb d_EF_text_1 rfl hl (by decide) rfl (fun ls hl => ?_)
  refine lv_bipush (v := 56) hx hb d_EF_text_2 (by decide) ?_
  refine lv_istore (lv' := [(4, .int 56), (3, .int 0), (0, .ref h0), (1, .long w)]) hx hb d_EF_text_4 hl (by decide) rfl (fun ls hl => ?_)
  obtain ⟨n, hf⟩ := hf
  exact (hC n) _ _ _ _ _ _ _ hf (hP.sub [0, 1] rfl) (hD.sub [0, 1] (by decide) rfl) hS (lv_sub hl [2, 3, 1, 0] rfl)
def R_EF_way (p1 : Int32) (p2 : Int32) (ln : Int32) (fl : Int32) (ns : Int32) (npos : Int32) (ncc : Int32) (wy : Nat → Int32)  (out : (Int32 × Unit) ⊕ (String × Unit)) : Prop := ∃ v_1, R_EF_checkLetter p2 v_1 ∧ ((∀ u, v_1 = .inl u → (∃ v_2, R_EF_checkState p1 ln fl ns npos ncc v_2 ∧ ((∀ u, v_2 = .inl u → (∃ v_3, R_Mach_target p1 p2 ns npos ncc wy v_3 ∧ (out = .inl (v_3.1, ())))) ∧ (∀ E u, v_2 = .inr (E, u) → out = .inr (E, ()))))) ∧ (∀ E u, v_1 = .inr (E, u) → out = .inr (E, ())))
set_option maxHeartbeats 4000000 in
set_option maxRecDepth 100000 in
theorem c_EF_way (l : Launch) (hl9 : l.stackTraces = false) (dC : Nat → ClassId) (dI : Nat → Nat → Nat) (cA : Nat → ClassId) (h0 mA m2 tw ps wk sA m1 m3 m4 m5 m6 m7 : Nat) (sz : Nat) (p1 : Int32) (p2 : Int32) (ln : Int32) (fl : Int32) (ns : Int32) (npos : Int32) (ncc : Int32) (wy : Nat → Int32)  (out : (Int32 × Unit) ⊕ (String × Unit)) (hR : R_EF_way p1 p2 ln fl ns npos ncc wy  out) : vx_Met l y_EF_way ws_EF_way ({ frames := 7, cells := 2, slots := 12, locals := 121 }) (va_Pc [.ref h0, .int p1, .int p2] (fun U => U.heap.size = sz ∧ va_P (dC, dI) clA [(h0, .inr (5, [.ref tw, .int ln, .int fl, .ref ps, .ref wk, .ref mA, .ref sA])), (mA, .inr (0, [.int ns, .int npos, .int ncc, .ref m1, .ref m2, .ref m3, .ref m4, .ref m5, .ref m6, .ref m7])), (m2, .inl ((cA 0), 200, .inl wy))] U.heap ∧ va_K (dC, dI) clA (tysA cA) U ∧ nW U ∧ xW (va_A [(h0, .inr (5, [.ref tw, .int ln, .int fl, .ref ps, .ref wk, .ref mA, .ref sA])), (mA, .inr (0, [.int ns, .int npos, .int ncc, .ref m1, .ref m2, .ref m3, .ref m4, .ref m5, .ref m6, .ref m7])), (m2, .inl ((cA 0), 200, .inl wy))] sz) U ∧ va_D (fun _ => True) [(h0, .inr (5, [.ref tw, .int ln, .int fl, .ref ps, .ref wk, .ref mA, .ref sA])), (mA, .inr (0, [.int ns, .int npos, .int ncc, .ref m1, .ref m2, .ref m3, .ref m4, .ref m5, .ref m6, .ref m7])), (m2, .inl ((cA 0), 200, .inl wy))])) (va_Qi (fun (r : Int32) (u : Unit) => out = .inl (r, u)) (fun (u : Unit) (t : State) => va_P (dC, dI) clA [(h0, .inr (5, [.ref tw, .int ln, .int fl, .ref ps, .ref wk, .ref mA, .ref sA])), (mA, .inr (0, [.int ns, .int npos, .int ncc, .ref m1, .ref m2, .ref m3, .ref m4, .ref m5, .ref m6, .ref m7])), (m2, .inl ((cA 0), 200, .inl wy))] t.heap ∧ va_K (dC, dI) clA (tysA cA) t ∧ va_D (va_A [(h0, .inr (5, [.ref tw, .int ln, .int fl, .ref ps, .ref wk, .ref mA, .ref sA])), (mA, .inr (0, [.int ns, .int npos, .int ncc, .ref m1, .ref m2, .ref m3, .ref m4, .ref m5, .ref m6, .ref m7])), (m2, .inl ((cA 0), 200, .inl wy))] sz) [(h0, .inr (5, [.ref tw, .int ln, .int fl, .ref ps, .ref wk, .ref mA, .ref sA])), (mA, .inr (0, [.int ns, .int npos, .int ncc, .ref m1, .ref m2, .ref m3, .ref m4, .ref m5, .ref m6, .ref m7])), (m2, .inl ((cA 0), 200, .inl wy))]) (va_A [(h0, .inr (5, [.ref tw, .int ln, .int fl, .ref ps, .ref wk, .ref mA, .ref sA])), (mA, .inr (0, [.int ns, .int npos, .int ncc, .ref m1, .ref m2, .ref m3, .ref m4, .ref m5, .ref m6, .ref m7])), (m2, .inl ((cA 0), 200, .inl wy))] sz)) (vx_X (fun _ : Unit => True) (fun (E : String) (u : Unit) (t : State) => out = .inr (E, u) ∧ va_P (dC, dI) clA [(h0, .inr (5, [.ref tw, .int ln, .int fl, .ref ps, .ref wk, .ref mA, .ref sA])), (mA, .inr (0, [.int ns, .int npos, .int ncc, .ref m1, .ref m2, .ref m3, .ref m4, .ref m5, .ref m6, .ref m7])), (m2, .inl ((cA 0), 200, .inl wy))] t.heap ∧ va_K (dC, dI) clA (tysA cA) t ∧ va_D (va_A [(h0, .inr (5, [.ref tw, .int ln, .int fl, .ref ps, .ref wk, .ref mA, .ref sA])), (mA, .inr (0, [.int ns, .int npos, .int ncc, .ref m1, .ref m2, .ref m3, .ref m4, .ref m5, .ref m6, .ref m7])), (m2, .inl ((cA 0), 200, .inl wy))] sz) [(h0, .inr (5, [.ref tw, .int ln, .int fl, .ref ps, .ref wk, .ref mA, .ref sA])), (mA, .inr (0, [.int ns, .int npos, .int ncc, .ref m1, .ref m2, .ref m3, .ref m4, .ref m5, .ref m6, .ref m7])), (m2, .inl ((cA 0), 200, .inl wy))]) (va_A [(h0, .inr (5, [.ref tw, .int ln, .int fl, .ref ps, .ref wk, .ref mA, .ref sA])), (mA, .inr (0, [.int ns, .int npos, .int ncc, .ref m1, .ref m2, .ref m3, .ref m4, .ref m5, .ref m6, .ref m7])), (m2, .inl ((cA 0), 200, .inl wy))] sz)) 2 12 (va_A [(h0, .inr (5, [.ref tw, .int ln, .int fl, .ref ps, .ref wk, .ref mA, .ref sA])), (mA, .inr (0, [.int ns, .int npos, .int ncc, .ref m1, .ref m2, .ref m3, .ref m4, .ref m5, .ref m6, .ref m7])), (m2, .inl ((cA 0), 200, .inl wy))] sz) := by
  refine vx_ofW (cc := b_EF_way) (maxL := 3) (ret := (some .int)) (by decide) rfl ?_
  intro p e s m args below meth c s₁ B hml ht9 hv
  obtain ⟨rfl, hsz, hP, hK, hN, hX9, hD0⟩ := hv
  have hx := B.exec
  have hb := B.bytes
  have hr := B.returns
  have hts := atoms_spec (ws := ws_EF_way) B.pre
  have hown : s.vm.findClass RX5 = some m.cls := findClass_of_methodNamed B.named
  have hlocks := B.notSynchronized
  subst hsz
  have hD := hD0.self (sz := s.heap.size)
  generalize hAe : va_A [(h0, .inr (5, [.ref tw, .int ln, .int fl, .ref ps, .ref wk, .ref mA, .ref sA])), (mA, .inr (0, [.int ns, .int npos, .int ncc, .ref m1, .ref m2, .ref m3, .ref m4, .ref m5, .ref m6, .ref m7])), (m2, .inl ((cA 0), 200, .inl wy))] s.heap.size = A at hD hX9 ⊢
  have hA : ∀ q : Nat, s.heap.size ≤ q → A q := fun q h => by rw [← hAe]; exact Or.inr h
  have hS : va_S A s.heap s.heap [] := va_S.rf
  have hP : va_P (dC, dI) clA [(h0, .inr (5, [.ref tw, .int ln, .int fl, .ref ps, .ref wk, .ref mA, .ref sA])), (mA, .inr (0, [.int ns, .int npos, .int ncc, .ref m1, .ref m2, .ref m3, .ref m4, .ref m5, .ref m6, .ref m7])), (m2, .inl ((cA 0), 200, .inl wy))] s.heap := hP
  have hl := lv_entry ([.ref h0, .int p1, .int p2]) (n := 3) (Nat.le_of_ble_eq_true rfl)
  rw [lg_entry_eq]
  generalize (lg_sl ([.ref h0, .int p1, .int p2]) ++ List.replicate (3 - (lg_sl ([.ref h0, .int p1, .int p2])).length) Slot.unset).toArray = ls at hl ⊢
  have hl : lv_has ls 3 [(0, .ref h0), (1, .int p1), (2, .int p2)] := hl
  refine W_gen (fun Qz hQz => ?_)
  have hf := hR
  unfold R_EF_way at hf
  refine lv_iload_n hx hb d_EF_way_0 rfl (lv_at hl 2 rfl) ?_
  obtain ⟨v_1, hv_1, hf⟩ := hf
  have hPc := hP.sub (ws' := []) [] rfl
  have hDc := hD.sub (ws' := []) [] (by decide) rfl
  have hFc := va_free (wc := []) hD hS hA [] rfl
  refine vx_callv (vx_runS (As := [.int p2]) (rest := []) ⟨hx, hb, hml, hown, hts⟩ (c_EF_checkLetter l hl9 dC dI cA s.heap.size p2 v_1 hv_1) (va_cwS 1 hts (gS9 k_840 k_841 k_49 k_842) rfl rfl rfl hs_EF_checkLetter ⟨Nat.le_of_ble_eq_true rfl, Nat.le_of_ble_eq_true rfl⟩) ⟨fun a U g mk q => by obtain ⟨q0, q1, qP, qK, qN, qX, qD⟩ := q; exact ⟨q0, q1, qP, va_K.moved (u := U) (U := U.calling g mk a) (Vm.Alike.refl U.vm) qK, nW_same (u := U) (U := U.calling g mk a) rfl qN, xW_same (u := U) (U := U.calling g mk a) (Vm.Alike.refl U.vm) rfl rfl qX, qD⟩, fun U hU hW => ⟨rfl, congrArg _ hU, P_cg hU.symm hPc, va_K.moved hW.alike hK, nW_warm hW hN, xW_at hX9 hS hFc hU hW, hDc.weaken (fun _ _ _ _ => trivial)⟩⟩ rfl rfl hl.1 rfl (lv_room (Nat.le_of_ble_eq_true rfl)) d_EF_way_1 ⟨by decide, by decide⟩) hS (fun q _ h => hFc q h) hFc (fun q _ h => hFc q h) (fun E ce q9 u t H locs ht hvm hpx hB hz1 hk1 hS hce hcv hcl => ?_) (fun u t H locs ht hvm hw hB hz1 hk1 hS => ?_)
  · obtain ⟨hw, hP1, hK1, hD1⟩ := hB
    replace hf := hf.2 E u hw
    replace hP1 := P_cg ht hP1
    obtain ⟨hP, hD⟩ := va_join (wc := []) (wr := [(h0, .inr (5, [.ref tw, .int ln, .int fl, .ref ps, .ref wk, .ref mA, .ref sA])), (mA, .inr (0, [.int ns, .int npos, .int ncc, .ref m1, .ref m2, .ref m3, .ref m4, .ref m5, .ref m6, .ref m7])), (m2, .inl ((cA 0), 200, .inl wy))]) (w1 := []) hP hD [] [0, 1, 2] rfl rfl (by decide) (by decide) hk1 hFc hP1 hD1
    have hP9 := hP.sub (ws' := [(h0, .inr (5, [.ref tw, .int ln, .int fl, .ref ps, .ref wk, .ref mA, .ref sA])), (mA, .inr (0, [.int ns, .int npos, .int ncc, .ref m1, .ref m2, .ref m3, .ref m4, .ref m5, .ref m6, .ref m7])), (m2, .inl ((cA 0), 200, .inl wy))]) [0, 1, 2] rfl
    have hD9 := hD.sub (ws' := [(h0, .inr (5, [.ref tw, .int ln, .int fl, .ref ps, .ref wk, .ref mA, .ref sA])), (mA, .inr (0, [.int ns, .int npos, .int ncc, .ref m1, .ref m2, .ref m3, .ref m4, .ref m5, .ref m6, .ref m7])), (m2, .inl ((cA 0), 200, .inl wy))]) [0, 1, 2] (by decide) rfl
    refine X_end hQz ?_
    exact vx_out (fun x h9 => (ht9 x h9).elim) hlocks hce hcv hcl (fun t ht ha => ⟨(), trivial, ⟨hf, P_cg ht.symm hP9, va_K.moved ha hK, hD9⟩, hS.F ht⟩) hS.2.2 (by decide) (by decide)
  · obtain ⟨hP1, hK1, hD1⟩ := hB
    replace hf := hf.1 u hw
    replace hP1 := P_cg ht hP1
    obtain ⟨hP, hD⟩ := va_join (wc := []) (wr := [(h0, .inr (5, [.ref tw, .int ln, .int fl, .ref ps, .ref wk, .ref mA, .ref sA])), (mA, .inr (0, [.int ns, .int npos, .int ncc, .ref m1, .ref m2, .ref m3, .ref m4, .ref m5, .ref m6, .ref m7])), (m2, .inl ((cA 0), 200, .inl wy))]) (w1 := []) hP hD [] [0, 1, 2] rfl rfl (by decide) (by decide) hk1 hFc hP1 hD1
    have hP : va_P (dC, dI) clA [(h0, .inr (5, [.ref tw, .int ln, .int fl, .ref ps, .ref wk, .ref mA, .ref sA])), (mA, .inr (0, [.int ns, .int npos, .int ncc, .ref m1, .ref m2, .ref m3, .ref m4, .ref m5, .ref m6, .ref m7])), (m2, .inl ((cA 0), 200, .inl wy))] H := hP
    have hD : va_D A [(h0, .inr (5, [.ref tw, .int ln, .int fl, .ref ps, .ref wk, .ref mA, .ref sA])), (mA, .inr (0, [.int ns, .int npos, .int ncc, .ref m1, .ref m2, .ref m3, .ref m4, .ref m5, .ref m6, .ref m7])), (m2, .inl ((cA 0), 200, .inl wy))] := hD
    refine lv_aload_n hx hb d_EF_way_4 rfl (lv_at hl 0 rfl) ?_
    refine lv_iload_n hx hb d_EF_way_5 rfl (lv_at hl 1 rfl) ?_
    obtain ⟨v_2, hv_2, hf⟩ := hf
    have hPc := hP.sub (ws' := [(h0, .inr (5, [.ref tw, .int ln, .int fl, .ref ps, .ref wk, .ref mA, .ref sA])), (mA, .inr (0, [.int ns, .int npos, .int ncc, .ref m1, .ref m2, .ref m3, .ref m4, .ref m5, .ref m6, .ref m7]))]) [0, 1] rfl
    have hDc := hD.sub (ws' := [(h0, .inr (5, [.ref tw, .int ln, .int fl, .ref ps, .ref wk, .ref mA, .ref sA])), (mA, .inr (0, [.int ns, .int npos, .int ncc, .ref m1, .ref m2, .ref m3, .ref m4, .ref m5, .ref m6, .ref m7]))]) [0, 1] (by decide) rfl
    have hFc := va_free (wc := [(h0, .inr (5, [.ref tw, .int ln, .int fl, .ref ps, .ref wk, .ref mA, .ref sA])), (mA, .inr (0, [.int ns, .int npos, .int ncc, .ref m1, .ref m2, .ref m3, .ref m4, .ref m5, .ref m6, .ref m7]))]) hD hS hA [0, 1] rfl
    refine vx_callv (vx_runV (As := [.int p1]) (rest := []) ⟨hx, hb, hml, hown, hts⟩ (c_EF_checkState l hl9 dC dI cA h0 mA tw ps wk sA m1 m2 m3 m4 m5 m6 m7 H.size p1 ln fl ns npos ncc v_2 hv_2) (cwV 1 hts (gV9 k_843 k_845 k_23 k_49 k_846) rfl rfl rfl hv_EF_checkState ⟨Nat.le_of_ble_eq_true rfl, Nat.le_of_ble_eq_true rfl⟩) ⟨fun a U g mk q => by obtain ⟨q0, q1, qP, qK, qN, qX, qD⟩ := q; exact ⟨q0, q1, qP, va_K.moved (u := U) (U := U.calling g mk a) (Vm.Alike.refl U.vm) qK, nW_same (u := U) (U := U.calling g mk a) rfl qN, xW_same (u := U) (U := U.calling g mk a) (Vm.Alike.refl U.vm) rfl rfl qX, qD⟩, va_recv hK hPc (ci := 5) (q0 := 0) rfl rfl, fun U hU hW => ⟨rfl, congrArg _ hU, P_cg hU.symm hPc, va_K.moved hW.alike hK, nW_warm hW hN, xW_at hX9 hS hFc hU hW, hDc.weaken (fun _ _ _ _ => trivial)⟩⟩ rfl rfl hl.1 rfl (lv_room (Nat.le_of_ble_eq_true rfl)) d_EF_way_6 ⟨by decide, by decide⟩) hS (fun q _ h => hFc q h) hFc (fun q _ h => hFc q h) (fun E ce q9 u t H locs ht hvm hpx hB hz1 hk1 hS hce hcv hcl => ?_) (fun u t H locs ht hvm hw hB hz1 hk1 hS => ?_)
    · obtain ⟨hw, hP1, hK1, hD1⟩ := hB
      replace hf := hf.2 E u hw
      replace hP1 := P_cg ht hP1
      obtain ⟨hP, hD⟩ := va_join (wc := [(h0, .inr (5, [.ref tw, .int ln, .int fl, .ref ps, .ref wk, .ref mA, .ref sA])), (mA, .inr (0, [.int ns, .int npos, .int ncc, .ref m1, .ref m2, .ref m3, .ref m4, .ref m5, .ref m6, .ref m7]))]) (wr := [(m2, .inl ((cA 0), 200, .inl wy))]) (w1 := [(h0, .inr (5, [.ref tw, .int ln, .int fl, .ref ps, .ref wk, .ref mA, .ref sA])), (mA, .inr (0, [.int ns, .int npos, .int ncc, .ref m1, .ref m2, .ref m3, .ref m4, .ref m5, .ref m6, .ref m7]))]) hP hD [0, 1] [2] rfl rfl (by decide) (by decide) hk1 hFc hP1 hD1
      have hP9 := hP.sub (ws' := [(h0, .inr (5, [.ref tw, .int ln, .int fl, .ref ps, .ref wk, .ref mA, .ref sA])), (mA, .inr (0, [.int ns, .int npos, .int ncc, .ref m1, .ref m2, .ref m3, .ref m4, .ref m5, .ref m6, .ref m7])), (m2, .inl ((cA 0), 200, .inl wy))]) [1, 2, 0] rfl
      have hD9 := hD.sub (ws' := [(h0, .inr (5, [.ref tw, .int ln, .int fl, .ref ps, .ref wk, .ref mA, .ref sA])), (mA, .inr (0, [.int ns, .int npos, .int ncc, .ref m1, .ref m2, .ref m3, .ref m4, .ref m5, .ref m6, .ref m7])), (m2, .inl ((cA 0), 200, .inl wy))]) [1, 2, 0] (by decide) rfl
      refine X_end hQz ?_
      exact vx_out (fun x h9 => (ht9 x h9).elim) hlocks hce hcv hcl (fun t ht ha => ⟨(), trivial, ⟨hf, P_cg ht.symm hP9, va_K.moved ha hK, hD9⟩, hS.F ht⟩) hS.2.2 (by decide) (by decide)
    · obtain ⟨hP1, hK1, hD1⟩ := hB
      replace hf := hf.1 u hw
      replace hP1 := P_cg ht hP1
      obtain ⟨hP, hD⟩ := va_join (wc := [(h0, .inr (5, [.ref tw, .int ln, .int fl, .ref ps, .ref wk, .ref mA, .ref sA])), (mA, .inr (0, [.int ns, .int npos, .int ncc, .ref m1, .ref m2, .ref m3, .ref m4, .ref m5, .ref m6, .ref m7]))]) (wr := [(m2, .inl ((cA 0), 200, .inl wy))]) (w1 := [(h0, .inr (5, [.ref tw, .int ln, .int fl, .ref ps, .ref wk, .ref mA, .ref sA])), (mA, .inr (0, [.int ns, .int npos, .int ncc, .ref m1, .ref m2, .ref m3, .ref m4, .ref m5, .ref m6, .ref m7]))]) hP hD [0, 1] [2] rfl rfl (by decide) (by decide) hk1 hFc hP1 hD1
      have hP : va_P (dC, dI) clA [(m2, .inl ((cA 0), 200, .inl wy)), (h0, .inr (5, [.ref tw, .int ln, .int fl, .ref ps, .ref wk, .ref mA, .ref sA])), (mA, .inr (0, [.int ns, .int npos, .int ncc, .ref m1, .ref m2, .ref m3, .ref m4, .ref m5, .ref m6, .ref m7]))] H := hP
      have hD : va_D A [(m2, .inl ((cA 0), 200, .inl wy)), (h0, .inr (5, [.ref tw, .int ln, .int fl, .ref ps, .ref wk, .ref mA, .ref sA])), (mA, .inr (0, [.int ns, .int npos, .int ncc, .ref m1, .ref m2, .ref m3, .ref m4, .ref m5, .ref m6, .ref m7]))] := hD
      refine lv_aload_n hx hb d_EF_way_9 rfl (lv_at hl 0 rfl) ?_
      refine va_get (D := (dC, dI)) (ci := 5) (v := .ref mA) (C := RX5) (T := TX5) (N := 7) hx hb hts (fun w h => List.mem_cons_of_mem _ (in_X5 w h)) hown hK hP 1 rfl rfl 5 (by decide) (hts _ (List.mem_cons_of_mem _ k_246)) (fun _ h9 => h9) rfl d_EF_way_10 ?_
      refine lv_iload_n hx hb d_EF_way_13 rfl (lv_at hl 1 rfl) ?_
      refine lv_iload_n hx hb d_EF_way_14 rfl (lv_at hl 2 rfl) ?_
      obtain ⟨v_3, hv_3, hf⟩ := hf
      have hPc := hP.sub (ws' := [(mA, .inr (0, [.int ns, .int npos, .int ncc, .ref m1, .ref m2, .ref m3, .ref m4, .ref m5, .ref m6, .ref m7])), (m2, .inl ((cA 0), 200, .inl wy))]) [2, 0] rfl
      have hDc := hD.sub (ws' := [(mA, .inr (0, [.int ns, .int npos, .int ncc, .ref m1, .ref m2, .ref m3, .ref m4, .ref m5, .ref m6, .ref m7])), (m2, .inl ((cA 0), 200, .inl wy))]) [2, 0] (by decide) rfl
      have hFc := va_free (wc := [(mA, .inr (0, [.int ns, .int npos, .int ncc, .ref m1, .ref m2, .ref m3, .ref m4, .ref m5, .ref m6, .ref m7])), (m2, .inl ((cA 0), 200, .inl wy))]) hD hS hA [2, 0] rfl
      refine va_calli (va_runV (As := [.int p1, .int p2]) (rest := []) ⟨hx, hb, hml, hown, hts⟩ (c_Mach_target l dC dI cA mA m2 m1 m3 m4 m5 m6 m7 H.size p1 p2 ns npos ncc wy v_3 hv_3) (cwV 2 hts (gV9 k_862 k_808 k_809 k_54 k_810) rfl rfl rfl hv_Mach_target ⟨Nat.le_of_ble_eq_true rfl, Nat.le_of_ble_eq_true rfl⟩) ⟨fun a U g mk q => by obtain ⟨q0, q1, qP, qK, qN, qD⟩ := q; exact ⟨q0, q1, qP, va_K.moved (u := U) (U := U.calling g mk a) (Vm.Alike.refl U.vm) qK, nW_same (u := U) (U := U.calling g mk a) rfl qN, qD⟩, va_recv hK hPc (ci := 0) (q0 := 0) rfl rfl, fun U hU hW => ⟨rfl, congrArg _ hU, P_cg hU.symm hPc, va_K.moved hW.alike hK, nW_warm hW hN, hDc.weaken (fun _ _ _ _ => trivial)⟩⟩ rfl rfl hl.1 rfl (lv_room (Nat.le_of_ble_eq_true rfl)) d_EF_way_15 ⟨by decide, by decide⟩) hS (fun q _ h => hFc q h) hFc (fun r u t H locs ht hvm hw hB hz1 hk1 hS => ?_)
      obtain ⟨rfl, rfl⟩ : r = v_3.1 ∧ u = v_3.2 := ⟨(congrArg Prod.fst hw).symm, (congrArg Prod.snd hw).symm⟩
      obtain ⟨hP1, hK1, hD1⟩ := hB
      replace hP1 := P_cg ht hP1
      obtain ⟨hP, hD⟩ := va_join (wc := [(mA, .inr (0, [.int ns, .int npos, .int ncc, .ref m1, .ref m2, .ref m3, .ref m4, .ref m5, .ref m6, .ref m7])), (m2, .inl ((cA 0), 200, .inl wy))]) (wr := [(h0, .inr (5, [.ref tw, .int ln, .int fl, .ref ps, .ref wk, .ref mA, .ref sA]))]) (w1 := [(mA, .inr (0, [.int ns, .int npos, .int ncc, .ref m1, .ref m2, .ref m3, .ref m4, .ref m5, .ref m6, .ref m7])), (m2, .inl ((cA 0), 200, .inl wy))]) hP hD [2, 0] [1] rfl rfl (by decide) (by decide) hk1 hFc hP1 hD1
      have hP : va_P (dC, dI) clA [(h0, .inr (5, [.ref tw, .int ln, .int fl, .ref ps, .ref wk, .ref mA, .ref sA])), (mA, .inr (0, [.int ns, .int npos, .int ncc, .ref m1, .ref m2, .ref m3, .ref m4, .ref m5, .ref m6, .ref m7])), (m2, .inl ((cA 0), 200, .inl wy))] H := hP
      have hD : va_D A [(h0, .inr (5, [.ref tw, .int ln, .int fl, .ref ps, .ref wk, .ref mA, .ref sA])), (mA, .inr (0, [.int ns, .int npos, .int ncc, .ref m1, .ref m2, .ref m3, .ref m4, .ref m5, .ref m6, .ref m7])), (m2, .inl ((cA 0), 200, .inl wy))] := hD
      have hP9 := hP.sub (ws' := [(h0, .inr (5, [.ref tw, .int ln, .int fl, .ref ps, .ref wk, .ref mA, .ref sA])), (mA, .inr (0, [.int ns, .int npos, .int ncc, .ref m1, .ref m2, .ref m3, .ref m4, .ref m5, .ref m6, .ref m7])), (m2, .inl ((cA 0), 200, .inl wy))]) [0, 1, 2] rfl
      have hD9 := hD.sub (ws' := [(h0, .inr (5, [.ref tw, .int ln, .int fl, .ref ps, .ref wk, .ref mA, .ref sA])), (mA, .inr (0, [.int ns, .int npos, .int ncc, .ref m1, .ref m2, .ref m3, .ref m4, .ref m5, .ref m6, .ref m7])), (m2, .inl ((cA 0), 200, .inl wy))]) [0, 1, 2] (by decide) rfl
      refine W_end hQz ?_
      refine W.widen (k := 2) (n := 12) (by decide) (by decide) ?_
      refine vx_ret ?_
      exact W.iret (v := v_3.1) hx hb hr (fun t ht hW => ⟨⟨v_3.1, (), rfl, hf, P_cg ht.symm hP9, va_K.moved hW.alike hK, hD9⟩, hS.F ht⟩) hS.2.2 d_EF_way_18 hlocks
def R_EF_actions (p1 : Int32) (p2 : Int32) (ln : Int32) (fl : Int32) (ns : Int32) (npos : Int32) (ncc : Int32) (wa : Nat → Int32)  (out : (Int32 × Unit) ⊕ (String × Unit)) : Prop := ∃ v_1, R_EF_checkLetter p2 v_1 ∧ ((∀ u, v_1 = .inl u → (∃ v_2, R_EF_checkState p1 ln fl ns npos ncc v_2 ∧ ((∀ u, v_2 = .inl u → (∃ v_3, R_Mach_actionsOnWay p1 p2 ns npos ncc wa v_3 ∧ (out = .inl (v_3.1, ())))) ∧ (∀ E u, v_2 = .inr (E, u) → out = .inr (E, ()))))) ∧ (∀ E u, v_1 = .inr (E, u) → out = .inr (E, ())))
set_option maxHeartbeats 4000000 in
set_option maxRecDepth 100000 in
theorem c_EF_actions (l : Launch) (hl9 : l.stackTraces = false) (dC : Nat → ClassId) (dI : Nat → Nat → Nat) (cA : Nat → ClassId) (h0 mA m3 tw ps wk sA m1 m2 m4 m5 m6 m7 : Nat) (sz : Nat) (p1 : Int32) (p2 : Int32) (ln : Int32) (fl : Int32) (ns : Int32) (npos : Int32) (ncc : Int32) (wa : Nat → Int32)  (out : (Int32 × Unit) ⊕ (String × Unit)) (hR : R_EF_actions p1 p2 ln fl ns npos ncc wa  out) : vx_Met l y_EF_actions ws_EF_actions ({ frames := 7, cells := 2, slots := 12, locals := 121 }) (va_Pc [.ref h0, .int p1, .int p2] (fun U => U.heap.size = sz ∧ va_P (dC, dI) clA [(h0, .inr (5, [.ref tw, .int ln, .int fl, .ref ps, .ref wk, .ref mA, .ref sA])), (mA, .inr (0, [.int ns, .int npos, .int ncc, .ref m1, .ref m2, .ref m3, .ref m4, .ref m5, .ref m6, .ref m7])), (m3, .inl ((cA 0), 200, .inl wa))] U.heap ∧ va_K (dC, dI) clA (tysA cA) U ∧ nW U ∧ xW (va_A [(h0, .inr (5, [.ref tw, .int ln, .int fl, .ref ps, .ref wk, .ref mA, .ref sA])), (mA, .inr (0, [.int ns, .int npos, .int ncc, .ref m1, .ref m2, .ref m3, .ref m4, .ref m5, .ref m6, .ref m7])), (m3, .inl ((cA 0), 200, .inl wa))] sz) U ∧ va_D (fun _ => True) [(h0, .inr (5, [.ref tw, .int ln, .int fl, .ref ps, .ref wk, .ref mA, .ref sA])), (mA, .inr (0, [.int ns, .int npos, .int ncc, .ref m1, .ref m2, .ref m3, .ref m4, .ref m5, .ref m6, .ref m7])), (m3, .inl ((cA 0), 200, .inl wa))])) (va_Qi (fun (r : Int32) (u : Unit) => out = .inl (r, u)) (fun (u : Unit) (t : State) => va_P (dC, dI) clA [(h0, .inr (5, [.ref tw, .int ln, .int fl, .ref ps, .ref wk, .ref mA, .ref sA])), (mA, .inr (0, [.int ns, .int npos, .int ncc, .ref m1, .ref m2, .ref m3, .ref m4, .ref m5, .ref m6, .ref m7])), (m3, .inl ((cA 0), 200, .inl wa))] t.heap ∧ va_K (dC, dI) clA (tysA cA) t ∧ va_D (va_A [(h0, .inr (5, [.ref tw, .int ln, .int fl, .ref ps, .ref wk, .ref mA, .ref sA])), (mA, .inr (0, [.int ns, .int npos, .int ncc, .ref m1, .ref m2, .ref m3, .ref m4, .ref m5, .ref m6, .ref m7])), (m3, .inl ((cA 0), 200, .inl wa))] sz) [(h0, .inr (5, [.ref tw, .int ln, .int fl, .ref ps, .ref wk, .ref mA, .ref sA])), (mA, .inr (0, [.int ns, .int npos, .int ncc, .ref m1, .ref m2, .ref m3, .ref m4, .ref m5, .ref m6, .ref m7])), (m3, .inl ((cA 0), 200, .inl wa))]) (va_A [(h0, .inr (5, [.ref tw, .int ln, .int fl, .ref ps, .ref wk, .ref mA, .ref sA])), (mA, .inr (0, [.int ns, .int npos, .int ncc, .ref m1, .ref m2, .ref m3, .ref m4, .ref m5, .ref m6, .ref m7])), (m3, .inl ((cA 0), 200, .inl wa))] sz)) (vx_X (fun _ : Unit => True) (fun (E : String) (u : Unit) (t : State) => out = .inr (E, u) ∧ va_P (dC, dI) clA [(h0, .inr (5, [.ref tw, .int ln, .int fl, .ref ps, .ref wk, .ref mA, .ref sA])), (mA, .inr (0, [.int ns, .int npos, .int ncc, .ref m1, .ref m2, .ref m3, .ref m4, .ref m5, .ref m6, .ref m7])), (m3, .inl ((cA 0), 200, .inl wa))] t.heap ∧ va_K (dC, dI) clA (tysA cA) t ∧ va_D (va_A [(h0, .inr (5, [.ref tw, .int ln, .int fl, .ref ps, .ref wk, .ref mA, .ref sA])), (mA, .inr (0, [.int ns, .int npos, .int ncc, .ref m1, .ref m2, .ref m3, .ref m4, .ref m5, .ref m6, .ref m7])), (m3, .inl ((cA 0), 200, .inl wa))] sz) [(h0, .inr (5, [.ref tw, .int ln, .int fl, .ref ps, .ref wk, .ref mA, .ref sA])), (mA, .inr (0, [.int ns, .int npos, .int ncc, .ref m1, .ref m2, .ref m3, .ref m4, .ref m5, .ref m6, .ref m7])), (m3, .inl ((cA 0), 200, .inl wa))]) (va_A [(h0, .inr (5, [.ref tw, .int ln, .int fl, .ref ps, .ref wk, .ref mA, .ref sA])), (mA, .inr (0, [.int ns, .int npos, .int ncc, .ref m1, .ref m2, .ref m3, .ref m4, .ref m5, .ref m6, .ref m7])), (m3, .inl ((cA 0), 200, .inl wa))] sz)) 2 12 (va_A [(h0, .inr (5, [.ref tw, .int ln, .int fl, .ref ps, .ref wk, .ref mA, .ref sA])), (mA, .inr (0, [.int ns, .int npos, .int ncc, .ref m1, .ref m2, .ref m3, .ref m4, .ref m5, .ref m6, .ref m7])), (m3, .inl ((cA 0), 200, .inl wa))] sz) := by
  refine vx_ofW (cc := b_EF_actions) (maxL := 3) (ret := (some .int)) (by decide) rfl ?_
  intro p e s m args below meth c s₁ B hml ht9 hv
  obtain ⟨rfl, hsz, hP, hK, hN, hX9, hD0⟩ := hv
  have hx := B.exec
  have hb := B.bytes
  have hr := B.returns
  have hts := atoms_spec (ws := ws_EF_actions) B.pre
  have hown : s.vm.findClass RX5 = some m.cls := findClass_of_methodNamed B.named
  have hlocks := B.notSynchronized
  subst hsz
  have hD := hD0.self (sz := s.heap.size)
  generalize hAe : va_A [(h0, .inr (5, [.ref tw, .int ln, .int fl, .ref ps, .ref wk, .ref mA, .ref sA])), (mA, .inr (0, [.int ns, .int npos, .int ncc, .ref m1, .ref m2, .ref m3, .ref m4, .ref m5, .ref m6, .ref m7])), (m3, .inl ((cA 0), 200, .inl wa))] s.heap.size = A at hD hX9 ⊢
  have hA : ∀ q : Nat, s.heap.size ≤ q → A q := fun q h => by rw [← hAe]; exact Or.inr h
  have hS : va_S A s.heap s.heap [] := va_S.rf
  have hP : va_P (dC, dI) clA [(h0, .inr (5, [.ref tw, .int ln, .int fl, .ref ps, .ref wk, .ref mA, .ref sA])), (mA, .inr (0, [.int ns, .int npos, .int ncc, .ref m1, .ref m2, .ref m3, .ref m4, .ref m5, .ref m6, .ref m7])), (m3, .inl ((cA 0), 200, .inl wa))] s.heap := hP
  have hl := lv_entry ([.ref h0, .int p1, .int p2]) (n := 3) (Nat.le_of_ble_eq_true rfl)
  rw [lg_entry_eq]
  generalize (lg_sl ([.ref h0, .int p1, .int p2]) ++ List.replicate (3 - (lg_sl ([.ref h0, .int p1, .int p2])).length) Slot.unset).toArray = ls at hl ⊢
  have hl : lv_has ls 3 [(0, .ref h0), (1, .int p1), (2, .int p2)] := hl
  refine W_gen (fun Qz hQz => ?_)
  have hf := hR
  unfold R_EF_actions at hf
  refine lv_iload_n hx hb d_EF_actions_0 rfl (lv_at hl 2 rfl) ?_
  obtain ⟨v_1, hv_1, hf⟩ := hf
  have hPc := hP.sub (ws' := []) [] rfl
  have hDc := hD.sub (ws' := []) [] (by decide) rfl
  have hFc := va_free (wc := []) hD hS hA [] rfl
  refine vx_callv (vx_runS (As := [.int p2]) (rest := []) ⟨hx, hb, hml, hown, hts⟩ (c_EF_checkLetter l hl9 dC dI cA s.heap.size p2 v_1 hv_1) (va_cwS 1 hts (gS9 k_840 k_841 k_49 k_842) rfl rfl rfl hs_EF_checkLetter ⟨Nat.le_of_ble_eq_true rfl, Nat.le_of_ble_eq_true rfl⟩) ⟨fun a U g mk q => by obtain ⟨q0, q1, qP, qK, qN, qX, qD⟩ := q; exact ⟨q0, q1, qP, va_K.moved (u := U) (U := U.calling g mk a) (Vm.Alike.refl U.vm) qK, nW_same (u := U) (U := U.calling g mk a) rfl qN, xW_same (u := U) (U := U.calling g mk a) (Vm.Alike.refl U.vm) rfl rfl qX, qD⟩, fun U hU hW => ⟨rfl, congrArg _ hU, P_cg hU.symm hPc, va_K.moved hW.alike hK, nW_warm hW hN, xW_at hX9 hS hFc hU hW, hDc.weaken (fun _ _ _ _ => trivial)⟩⟩ rfl rfl hl.1 rfl (lv_room (Nat.le_of_ble_eq_true rfl)) d_EF_actions_1 ⟨by decide, by decide⟩) hS (fun q _ h => hFc q h) hFc (fun q _ h => hFc q h) (fun E ce q9 u t H locs ht hvm hpx hB hz1 hk1 hS hce hcv hcl => ?_) (fun u t H locs ht hvm hw hB hz1 hk1 hS => ?_)
  · obtain ⟨hw, hP1, hK1, hD1⟩ := hB
    replace hf := hf.2 E u hw
    replace hP1 := P_cg ht hP1
    obtain ⟨hP, hD⟩ := va_join (wc := []) (wr := [(h0, .inr (5, [.ref tw, .int ln, .int fl, .ref ps, .ref wk, .ref mA, .ref sA])), (mA, .inr (0, [.int ns, .int npos, .int ncc, .ref m1, .ref m2, .ref m3, .ref m4, .ref m5, .ref m6, .ref m7])), (m3, .inl ((cA 0), 200, .inl wa))]) (w1 := []) hP hD [] [0, 1, 2] rfl rfl (by decide) (by decide) hk1 hFc hP1 hD1
    have hP9 := hP.sub (ws' := [(h0, .inr (5, [.ref tw, .int ln, .int fl, .ref ps, .ref wk, .ref mA, .ref sA])), (mA, .inr (0, [.int ns, .int npos, .int ncc, .ref m1, .ref m2, .ref m3, .ref m4, .ref m5, .ref m6, .ref m7])), (m3, .inl ((cA 0), 200, .inl wa))]) [0, 1, 2] rfl
    have hD9 := hD.sub (ws' := [(h0, .inr (5, [.ref tw, .int ln, .int fl, .ref ps, .ref wk, .ref mA, .ref sA])), (mA, .inr (0, [.int ns, .int npos, .int ncc, .ref m1, .ref m2, .ref m3, .ref m4, .ref m5, .ref m6, .ref m7])), (m3, .inl ((cA 0), 200, .inl wa))]) [0, 1, 2] (by decide) rfl
    refine X_end hQz ?_
    exact vx_out (fun x h9 => (ht9 x h9).elim) hlocks hce hcv hcl (fun t ht ha => ⟨(), trivial, ⟨hf, P_cg ht.symm hP9, va_K.moved ha hK, hD9⟩, hS.F ht⟩) hS.2.2 (by decide) (by decide)
  · obtain ⟨hP1, hK1, hD1⟩ := hB
    replace hf := hf.1 u hw
    replace hP1 := P_cg ht hP1
    obtain ⟨hP, hD⟩ := va_join (wc := []) (wr := [(h0, .inr (5, [.ref tw, .int ln, .int fl, .ref ps, .ref wk, .ref mA, .ref sA])), (mA, .inr (0, [.int ns, .int npos, .int ncc, .ref m1, .ref m2, .ref m3, .ref m4, .ref m5, .ref m6, .ref m7])), (m3, .inl ((cA 0), 200, .inl wa))]) (w1 := []) hP hD [] [0, 1, 2] rfl rfl (by decide) (by decide) hk1 hFc hP1 hD1
    have hP : va_P (dC, dI) clA [(h0, .inr (5, [.ref tw, .int ln, .int fl, .ref ps, .ref wk, .ref mA, .ref sA])), (mA, .inr (0, [.int ns, .int npos, .int ncc, .ref m1, .ref m2, .ref m3, .ref m4, .ref m5, .ref m6, .ref m7])), (m3, .inl ((cA 0), 200, .inl wa))] H := hP
    have hD : va_D A [(h0, .inr (5, [.ref tw, .int ln, .int fl, .ref ps, .ref wk, .ref mA, .ref sA])), (mA, .inr (0, [.int ns, .int npos, .int ncc, .ref m1, .ref m2, .ref m3, .ref m4, .ref m5, .ref m6, .ref m7])), (m3, .inl ((cA 0), 200, .inl wa))] := hD
    refine lv_aload_n hx hb d_EF_actions_4 rfl (lv_at hl 0 rfl) ?_
    refine lv_iload_n hx hb d_EF_actions_5 rfl (lv_at hl 1 rfl) ?_
    obtain ⟨v_2, hv_2, hf⟩ := hf
    have hPc := hP.sub (ws' := [(h0, .inr (5, [.ref tw, .int ln, .int fl, .ref ps, .ref wk, .ref mA, .ref sA])), (mA, .inr (0, [.int ns, .int npos, .int ncc, .ref m1, .ref m2, .ref m3, .ref m4, .ref m5, .ref m6, .ref m7]))]) [0, 1] rfl
    have hDc := hD.sub (ws' := [(h0, .inr (5, [.ref tw, .int ln, .int fl, .ref ps, .ref wk, .ref mA, .ref sA])), (mA, .inr (0, [.int ns, .int npos, .int ncc, .ref m1, .ref m2, .ref m3, .ref m4, .ref m5, .ref m6, .ref m7]))]) [0, 1] (by decide) rfl
    have hFc := va_free (wc := [(h0, .inr (5, [.ref tw, .int ln, .int fl, .ref ps, .ref wk, .ref mA, .ref sA])), (mA, .inr (0, [.int ns, .int npos, .int ncc, .ref m1, .ref m2, .ref m3, .ref m4, .ref m5, .ref m6, .ref m7]))]) hD hS hA [0, 1] rfl
    refine vx_callv (vx_runV (As := [.int p1]) (rest := []) ⟨hx, hb, hml, hown, hts⟩ (c_EF_checkState l hl9 dC dI cA h0 mA tw ps wk sA m1 m2 m3 m4 m5 m6 m7 H.size p1 ln fl ns npos ncc v_2 hv_2) (cwV 1 hts (gV9 k_843 k_845 k_23 k_49 k_846) rfl rfl rfl hv_EF_checkState ⟨Nat.le_of_ble_eq_true rfl, Nat.le_of_ble_eq_true rfl⟩) ⟨fun a U g mk q => by obtain ⟨q0, q1, qP, qK, qN, qX, qD⟩ := q; exact ⟨q0, q1, qP, va_K.moved (u := U) (U := U.calling g mk a) (Vm.Alike.refl U.vm) qK, nW_same (u := U) (U := U.calling g mk a) rfl qN, xW_same (u := U) (U := U.calling g mk a) (Vm.Alike.refl U.vm) rfl rfl qX, qD⟩, va_recv hK hPc (ci := 5) (q0 := 0) rfl rfl, fun U hU hW => ⟨rfl, congrArg _ hU, P_cg hU.symm hPc, va_K.moved hW.alike hK, nW_warm hW hN, xW_at hX9 hS hFc hU hW, hDc.weaken (fun _ _ _ _ => trivial)⟩⟩ rfl rfl hl.1 rfl (lv_room (Nat.le_of_ble_eq_true rfl)) d_EF_actions_6 ⟨by decide, by decide⟩) hS (fun q _ h => hFc q h) hFc (fun q _ h => hFc q h) (fun E ce q9 u t H locs ht hvm hpx hB hz1 hk1 hS hce hcv hcl => ?_) (fun u t H locs ht hvm hw hB hz1 hk1 hS => ?_)
    · obtain ⟨hw, hP1, hK1, hD1⟩ := hB
      replace hf := hf.2 E u hw
      replace hP1 := P_cg ht hP1
      obtain ⟨hP, hD⟩ := va_join (wc := [(h0, .inr (5, [.ref tw, .int ln, .int fl, .ref ps, .ref wk, .ref mA, .ref sA])), (mA, .inr (0, [.int ns, .int npos, .int ncc, .ref m1, .ref m2, .ref m3, .ref m4, .ref m5, .ref m6, .ref m7]))]) (wr := [(m3, .inl ((cA 0), 200, .inl wa))]) (w1 := [(h0, .inr (5, [.ref tw, .int ln, .int fl, .ref ps, .ref wk, .ref mA, .ref sA])), (mA, .inr (0, [.int ns, .int npos, .int ncc, .ref m1, .ref m2, .ref m3, .ref m4, .ref m5, .ref m6, .ref m7]))]) hP hD [0, 1] [2] rfl rfl (by decide) (by decide) hk1 hFc hP1 hD1
      have hP9 := hP.sub (ws' := [(h0, .inr (5, [.ref tw, .int ln, .int fl, .ref ps, .ref wk, .ref mA, .ref sA])), (mA, .inr (0, [.int ns, .int npos, .int ncc, .ref m1, .ref m2, .ref m3, .ref m4, .ref m5, .ref m6, .ref m7])), (m3, .inl ((cA 0), 200, .inl wa))]) [1, 2, 0] rfl
      have hD9 := hD.sub (ws' := [(h0, .inr (5, [.ref tw, .int ln, .int fl, .ref ps, .ref wk, .ref mA, .ref sA])), (mA, .inr (0, [.int ns, .int npos, .int ncc, .ref m1, .ref m2, .ref m3, .ref m4, .ref m5, .ref m6, .ref m7])), (m3, .inl ((cA 0), 200, .inl wa))]) [1, 2, 0] (by decide) rfl
      refine X_end hQz ?_
      exact vx_out (fun x h9 => (ht9 x h9).elim) hlocks hce hcv hcl (fun t ht ha => ⟨(), trivial, ⟨hf, P_cg ht.symm hP9, va_K.moved ha hK, hD9⟩, hS.F ht⟩) hS.2.2 (by decide) (by decide)
    · obtain ⟨hP1, hK1, hD1⟩ := hB
      replace hf := hf.1 u hw
      replace hP1 := P_cg ht hP1
      obtain ⟨hP, hD⟩ := va_join (wc := [(h0, .inr (5, [.ref tw, .int ln, .int fl, .ref ps, .ref wk, .ref mA, .ref sA])), (mA, .inr (0, [.int ns, .int npos, .int ncc, .ref m1, .ref m2, .ref m3, .ref m4, .ref m5, .ref m6, .ref m7]))]) (wr := [(m3, .inl ((cA 0), 200, .inl wa))]) (w1 := [(h0, .inr (5, [.ref tw, .int ln, .int fl, .ref ps, .ref wk, .ref mA, .ref sA])), (mA, .inr (0, [.int ns, .int npos, .int ncc, .ref m1, .ref m2, .ref m3, .ref m4, .ref m5, .ref m6, .ref m7]))]) hP hD [0, 1] [2] rfl rfl (by decide) (by decide) hk1 hFc hP1 hD1
      have hP : va_P (dC, dI) clA [(m3, .inl ((cA 0), 200, .inl wa)), (h0, .inr (5, [.ref tw, .int ln, .int fl, .ref ps, .ref wk, .ref mA, .ref sA])), (mA, .inr (0, [.int ns, .int npos, .int ncc, .ref m1, .ref m2, .ref m3, .ref m4, .ref m5, .ref m6, .ref m7]))] H := hP
      have hD : va_D A [(m3, .inl ((cA 0), 200, .inl wa)), (h0, .inr (5, [.ref tw, .int ln, .int fl, .ref ps, .ref wk, .ref mA, .ref sA])), (mA, .inr (0, [.int ns, .int npos, .int ncc, .ref m1, .ref m2, .ref m3, .ref m4, .ref m5, .ref m6, .ref m7]))] := hD
      refine lv_aload_n hx hb d_EF_actions_9 rfl (lv_at hl 0 rfl) ?_
      refine va_get (D := (dC, dI)) (ci := 5) (v := .ref mA) (C := RX5) (T := TX5) (N := 7) hx hb hts (fun w h => List.mem_cons_of_mem _ (in_X5 w h)) hown hK hP 1 rfl rfl 5 (by decide) (hts _ (List.mem_cons_of_mem _ k_246)) (fun _ h9 => h9) rfl d_EF_actions_10 ?_
      refine lv_iload_n hx hb d_EF_actions_13 rfl (lv_at hl 1 rfl) ?_
      refine lv_iload_n hx hb d_EF_actions_14 rfl (lv_at hl 2 rfl) ?_
      obtain ⟨v_3, hv_3, hf⟩ := hf
      have hPc := hP.sub (ws' := [(mA, .inr (0, [.int ns, .int npos, .int ncc, .ref m1, .ref m2, .ref m3, .ref m4, .ref m5, .ref m6, .ref m7])), (m3, .inl ((cA 0), 200, .inl wa))]) [2, 0] rfl
      have hDc := hD.sub (ws' := [(mA, .inr (0, [.int ns, .int npos, .int ncc, .ref m1, .ref m2, .ref m3, .ref m4, .ref m5, .ref m6, .ref m7])), (m3, .inl ((cA 0), 200, .inl wa))]) [2, 0] (by decide) rfl
      have hFc := va_free (wc := [(mA, .inr (0, [.int ns, .int npos, .int ncc, .ref m1, .ref m2, .ref m3, .ref m4, .ref m5, .ref m6, .ref m7])), (m3, .inl ((cA 0), 200, .inl wa))]) hD hS hA [2, 0] rfl
      refine va_calli (va_runV (As := [.int p1, .int p2]) (rest := []) ⟨hx, hb, hml, hown, hts⟩ (c_Mach_actionsOnWay l dC dI cA mA m3 m1 m2 m4 m5 m6 m7 H.size p1 p2 ns npos ncc wa v_3 hv_3) (cwV 2 hts (gV9 k_870 k_800 k_801 k_54 k_802) rfl rfl rfl hv_Mach_actionsOnWay ⟨Nat.le_of_ble_eq_true rfl, Nat.le_of_ble_eq_true rfl⟩) ⟨fun a U g mk q => by obtain ⟨q0, q1, qP, qK, qN, qD⟩ := q; exact ⟨q0, q1, qP, va_K.moved (u := U) (U := U.calling g mk a) (Vm.Alike.refl U.vm) qK, nW_same (u := U) (U := U.calling g mk a) rfl qN, qD⟩, va_recv hK hPc (ci := 0) (q0 := 0) rfl rfl, fun U hU hW => ⟨rfl, congrArg _ hU, P_cg hU.symm hPc, va_K.moved hW.alike hK, nW_warm hW hN, hDc.weaken (fun _ _ _ _ => trivial)⟩⟩ rfl rfl hl.1 rfl (lv_room (Nat.le_of_ble_eq_true rfl)) d_EF_actions_15 ⟨by decide, by decide⟩) hS (fun q _ h => hFc q h) hFc (fun r u t H locs ht hvm hw hB hz1 hk1 hS => ?_)
      obtain ⟨rfl, rfl⟩ : r = v_3.1 ∧ u = v_3.2 := ⟨(congrArg Prod.fst hw).symm, (congrArg Prod.snd hw).symm⟩
      obtain ⟨hP1, hK1, hD1⟩ := hB
      replace hP1 := P_cg ht hP1
      obtain ⟨hP, hD⟩ := va_join (wc := [(mA, .inr (0, [.int ns, .int npos, .int ncc, .ref m1, .ref m2, .ref m3, .ref m4, .ref m5, .ref m6, .ref m7])), (m3, .inl ((cA 0), 200, .inl wa))]) (wr := [(h0, .inr (5, [.ref tw, .int ln, .int fl, .ref ps, .ref wk, .ref mA, .ref sA]))]) (w1 := [(mA, .inr (0, [.int ns, .int npos, .int ncc, .ref m1, .ref m2, .ref m3, .ref m4, .ref m5, .ref m6, .ref m7])), (m3, .inl ((cA 0), 200, .inl wa))]) hP hD [2, 0] [1] rfl rfl (by decide) (by decide) hk1 hFc hP1 hD1
      have hP : va_P (dC, dI) clA [(h0, .inr (5, [.ref tw, .int ln, .int fl, .ref ps, .ref wk, .ref mA, .ref sA])), (mA, .inr (0, [.int ns, .int npos, .int ncc, .ref m1, .ref m2, .ref m3, .ref m4, .ref m5, .ref m6, .ref m7])), (m3, .inl ((cA 0), 200, .inl wa))] H := hP
      have hD : va_D A [(h0, .inr (5, [.ref tw, .int ln, .int fl, .ref ps, .ref wk, .ref mA, .ref sA])), (mA, .inr (0, [.int ns, .int npos, .int ncc, .ref m1, .ref m2, .ref m3, .ref m4, .ref m5, .ref m6, .ref m7])), (m3, .inl ((cA 0), 200, .inl wa))] := hD
      have hP9 := hP.sub (ws' := [(h0, .inr (5, [.ref tw, .int ln, .int fl, .ref ps, .ref wk, .ref mA, .ref sA])), (mA, .inr (0, [.int ns, .int npos, .int ncc, .ref m1, .ref m2, .ref m3, .ref m4, .ref m5, .ref m6, .ref m7])), (m3, .inl ((cA 0), 200, .inl wa))]) [0, 1, 2] rfl
      have hD9 := hD.sub (ws' := [(h0, .inr (5, [.ref tw, .int ln, .int fl, .ref ps, .ref wk, .ref mA, .ref sA])), (mA, .inr (0, [.int ns, .int npos, .int ncc, .ref m1, .ref m2, .ref m3, .ref m4, .ref m5, .ref m6, .ref m7])), (m3, .inl ((cA 0), 200, .inl wa))]) [0, 1, 2] (by decide) rfl
      refine W_end hQz ?_
      refine W.widen (k := 2) (n := 12) (by decide) (by decide) ?_
      refine vx_ret ?_
      exact W.iret (v := v_3.1) hx hb hr (fun t ht hW => ⟨⟨v_3.1, (), rfl, hf, P_cg ht.symm hP9, va_K.moved hW.alike hK, hD9⟩, hS.F ht⟩) hS.2.2 d_EF_actions_18 hlocks
def R_EF_state (p1 : Int32) (p2 : Int32) (ln : Int32) (fl : Int32) (ns : Int32) (npos : Int32) (ncc : Int32) (se : Nat → Int32) (fi : Nat → Int32) (ea : Nat → Int32) (cl : Nat → Int32)  (out : (Int32 × Unit) ⊕ (String × Unit)) : Prop := ((p2 < 0) → (out = .inr ("java/lang/IllegalArgumentException", ()))) ∧ (¬ (p2 < 0) → (((p2 ≤ 3) → (∃ v_3, R_EF_checkState p1 ln fl ns npos ncc v_3 ∧ ((∀ u, v_3 = .inl u → (((p2.toInt < 0 ∨ 2 < p2.toInt) → (vp_in p1 50 ∧ (∃ v_6, R_Int_bitCount (se p1.toNatClampNeg) v_6 ∧ (out = .inl (v_6.1, ()))))) ∧ ((p2 = 0) → (vp_in p1 50 ∧ ((((fi p1.toNatClampNeg) = 0) → (out = .inl (0, ()))) ∧ (¬ ((fi p1.toNatClampNeg) = 0) → (out = .inl (1, ())))))) ∧ ((p2 = 1) → (vp_in p1 50 ∧ (out = .inl ((ea p1.toNatClampNeg), ())))) ∧ ((p2 = 2) → (vp_in p1 50 ∧ (out = .inl ((cl p1.toNatClampNeg), ())))))) ∧ (∀ E u, v_3 = .inr (E, u) → out = .inr (E, ()))))) ∧ (¬ (p2 ≤ 3) → (out = .inr ("java/lang/IllegalArgumentException", ())))))
set_option maxHeartbeats 4000000 in
set_option maxRecDepth 100000 in
theorem c_EF_state (l : Launch) (hl9 : l.stackTraces = false) (dC : Nat → ClassId) (dI : Nat → Nat → Nat) (cA : Nat → ClassId) (h0 mA m1 m4 m5 m6 tw ps wk sA m2 m3 m7 : Nat) (sz : Nat) (p1 : Int32) (p2 : Int32) (ln : Int32) (fl : Int32) (ns : Int32) (npos : Int32) (ncc : Int32) (se : Nat → Int32) (fi : Nat → Int32) (ea : Nat → Int32) (cl : Nat → Int32)  (out : (Int32 × Unit) ⊕ (String × Unit)) (hR : R_EF_state p1 p2 ln fl ns npos ncc se fi ea cl  out) : vx_Met l y_EF_state ws_EF_state ({ frames := 7, cells := 1, slots := 6, locals := 121 }) (va_Pc [.ref h0, .int p1, .int p2] (fun U => U.heap.size = sz ∧ va_P (dC, dI) clA [(h0, .inr (5, [.ref tw, .int ln, .int fl, .ref ps, .ref wk, .ref mA, .ref sA])), (mA, .inr (0, [.int ns, .int npos, .int ncc, .ref m1, .ref m2, .ref m3, .ref m4, .ref m5, .ref m6, .ref m7])), (m1, .inl ((cA 0), 50, .inl se)), (m4, .inl ((cA 1), 50, .inl fi)), (m5, .inl ((cA 0), 50, .inl ea)), (m6, .inl ((cA 0), 50, .inl cl))] U.heap ∧ va_K (dC, dI) clA (tysA cA) U ∧ nW U ∧ xW (va_A [(h0, .inr (5, [.ref tw, .int ln, .int fl, .ref ps, .ref wk, .ref mA, .ref sA])), (mA, .inr (0, [.int ns, .int npos, .int ncc, .ref m1, .ref m2, .ref m3, .ref m4, .ref m5, .ref m6, .ref m7])), (m1, .inl ((cA 0), 50, .inl se)), (m4, .inl ((cA 1), 50, .inl fi)), (m5, .inl ((cA 0), 50, .inl ea)), (m6, .inl ((cA 0), 50, .inl cl))] sz) U ∧ va_D (fun _ => True) [(h0, .inr (5, [.ref tw, .int ln, .int fl, .ref ps, .ref wk, .ref mA, .ref sA])), (mA, .inr (0, [.int ns, .int npos, .int ncc, .ref m1, .ref m2, .ref m3, .ref m4, .ref m5, .ref m6, .ref m7])), (m1, .inl ((cA 0), 50, .inl se)), (m4, .inl ((cA 1), 50, .inl fi)), (m5, .inl ((cA 0), 50, .inl ea)), (m6, .inl ((cA 0), 50, .inl cl))])) (va_Qi (fun (r : Int32) (u : Unit) => out = .inl (r, u)) (fun (u : Unit) (t : State) => va_P (dC, dI) clA [(h0, .inr (5, [.ref tw, .int ln, .int fl, .ref ps, .ref wk, .ref mA, .ref sA])), (mA, .inr (0, [.int ns, .int npos, .int ncc, .ref m1, .ref m2, .ref m3, .ref m4, .ref m5, .ref m6, .ref m7])), (m1, .inl ((cA 0), 50, .inl se)), (m4, .inl ((cA 1), 50, .inl fi)), (m5, .inl ((cA 0), 50, .inl ea)), (m6, .inl ((cA 0), 50, .inl cl))] t.heap ∧ va_K (dC, dI) clA (tysA cA) t ∧ va_D (va_A [(h0, .inr (5, [.ref tw, .int ln, .int fl, .ref ps, .ref wk, .ref mA, .ref sA])), (mA, .inr (0, [.int ns, .int npos, .int ncc, .ref m1, .ref m2, .ref m3, .ref m4, .ref m5, .ref m6, .ref m7])), (m1, .inl ((cA 0), 50, .inl se)), (m4, .inl ((cA 1), 50, .inl fi)), (m5, .inl ((cA 0), 50, .inl ea)), (m6, .inl ((cA 0), 50, .inl cl))] sz) [(h0, .inr (5, [.ref tw, .int ln, .int fl, .ref ps, .ref wk, .ref mA, .ref sA])), (mA, .inr (0, [.int ns, .int npos, .int ncc, .ref m1, .ref m2, .ref m3, .ref m4, .ref m5, .ref m6, .ref m7])), (m1, .inl ((cA 0), 50, .inl se)), (m4, .inl ((cA 1), 50, .inl fi)), (m5, .inl ((cA 0), 50, .inl ea)), (m6, .inl ((cA 0), 50, .inl cl))]) (va_A [(h0, .inr (5, [.ref tw, .int ln, .int fl, .ref ps, .ref wk, .ref mA, .ref sA])), (mA, .inr (0, [.int ns, .int npos, .int ncc, .ref m1, .ref m2, .ref m3, .ref m4, .ref m5, .ref m6, .ref m7])), (m1, .inl ((cA 0), 50, .inl se)), (m4, .inl ((cA 1), 50, .inl fi)), (m5, .inl ((cA 0), 50, .inl ea)), (m6, .inl ((cA 0), 50, .inl cl))] sz)) (vx_X (fun _ : Unit => True) (fun (E : String) (u : Unit) (t : State) => out = .inr (E, u) ∧ va_P (dC, dI) clA [(h0, .inr (5, [.ref tw, .int ln, .int fl, .ref ps, .ref wk, .ref mA, .ref sA])), (mA, .inr (0, [.int ns, .int npos, .int ncc, .ref m1, .ref m2, .ref m3, .ref m4, .ref m5, .ref m6, .ref m7])), (m1, .inl ((cA 0), 50, .inl se)), (m4, .inl ((cA 1), 50, .inl fi)), (m5, .inl ((cA 0), 50, .inl ea)), (m6, .inl ((cA 0), 50, .inl cl))] t.heap ∧ va_K (dC, dI) clA (tysA cA) t ∧ va_D (va_A [(h0, .inr (5, [.ref tw, .int ln, .int fl, .ref ps, .ref wk, .ref mA, .ref sA])), (mA, .inr (0, [.int ns, .int npos, .int ncc, .ref m1, .ref m2, .ref m3, .ref m4, .ref m5, .ref m6, .ref m7])), (m1, .inl ((cA 0), 50, .inl se)), (m4, .inl ((cA 1), 50, .inl fi)), (m5, .inl ((cA 0), 50, .inl ea)), (m6, .inl ((cA 0), 50, .inl cl))] sz) [(h0, .inr (5, [.ref tw, .int ln, .int fl, .ref ps, .ref wk, .ref mA, .ref sA])), (mA, .inr (0, [.int ns, .int npos, .int ncc, .ref m1, .ref m2, .ref m3, .ref m4, .ref m5, .ref m6, .ref m7])), (m1, .inl ((cA 0), 50, .inl se)), (m4, .inl ((cA 1), 50, .inl fi)), (m5, .inl ((cA 0), 50, .inl ea)), (m6, .inl ((cA 0), 50, .inl cl))]) (va_A [(h0, .inr (5, [.ref tw, .int ln, .int fl, .ref ps, .ref wk, .ref mA, .ref sA])), (mA, .inr (0, [.int ns, .int npos, .int ncc, .ref m1, .ref m2, .ref m3, .ref m4, .ref m5, .ref m6, .ref m7])), (m1, .inl ((cA 0), 50, .inl se)), (m4, .inl ((cA 1), 50, .inl fi)), (m5, .inl ((cA 0), 50, .inl ea)), (m6, .inl ((cA 0), 50, .inl cl))] sz)) 1 6 (va_A [(h0, .inr (5, [.ref tw, .int ln, .int fl, .ref ps, .ref wk, .ref mA, .ref sA])), (mA, .inr (0, [.int ns, .int npos, .int ncc, .ref m1, .ref m2, .ref m3, .ref m4, .ref m5, .ref m6, .ref m7])), (m1, .inl ((cA 0), 50, .inl se)), (m4, .inl ((cA 1), 50, .inl fi)), (m5, .inl ((cA 0), 50, .inl ea)), (m6, .inl ((cA 0), 50, .inl cl))] sz) := by
  refine vx_ofW (cc := b_EF_state) (maxL := 3) (ret := (some .int)) (by decide) rfl ?_
  intro p e s m args below meth c s₁ B hml ht9 hv
  obtain ⟨rfl, hsz, hP, hK, hN, hX9, hD0⟩ := hv
  have hx := B.exec
  have hb := B.bytes
  have hr := B.returns
  have hts := atoms_spec (ws := ws_EF_state) B.pre
  have hown : s.vm.findClass RX5 = some m.cls := findClass_of_methodNamed B.named
  have hlocks := B.notSynchronized
  subst hsz
  have hD := hD0.self (sz := s.heap.size)
  generalize hAe : va_A [(h0, .inr (5, [.ref tw, .int ln, .int fl, .ref ps, .ref wk, .ref mA, .ref sA])), (mA, .inr (0, [.int ns, .int npos, .int ncc, .ref m1, .ref m2, .ref m3, .ref m4, .ref m5, .ref m6, .ref m7])), (m1, .inl ((cA 0), 50, .inl se)), (m4, .inl ((cA 1), 50, .inl fi)), (m5, .inl ((cA 0), 50, .inl ea)), (m6, .inl ((cA 0), 50, .inl cl))] s.heap.size = A at hD hX9 ⊢
  have hA : ∀ q : Nat, s.heap.size ≤ q → A q := fun q h => by rw [← hAe]; exact Or.inr h
  have hS : va_S A s.heap s.heap [] := va_S.rf
  have hP : va_P (dC, dI) clA [(h0, .inr (5, [.ref tw, .int ln, .int fl, .ref ps, .ref wk, .ref mA, .ref sA])), (mA, .inr (0, [.int ns, .int npos, .int ncc, .ref m1, .ref m2, .ref m3, .ref m4, .ref m5, .ref m6, .ref m7])), (m1, .inl ((cA 0), 50, .inl se)), (m4, .inl ((cA 1), 50, .inl fi)), (m5, .inl ((cA 0), 50, .inl ea)), (m6, .inl ((cA 0), 50, .inl cl))] s.heap := hP
  have hl := lv_entry ([.ref h0, .int p1, .int p2]) (n := 3) (Nat.le_of_ble_eq_true rfl)
  rw [lg_entry_eq]
  generalize (lg_sl ([.ref h0, .int p1, .int p2]) ++ List.replicate (3 - (lg_sl ([.ref h0, .int p1, .int p2])).length) Slot.unset).toArray = ls at hl ⊢
  have hl : lv_has ls 3 [(0, .ref h0), (1, .int p1), (2, .int p2)] := hl
  refine W_gen (fun Qz hQz => ?_)
  have hf := hR
  unfold R_EF_state at hf
  refine lv_iload_n hx hb d_EF_state_0 rfl (lv_at hl 2 rfl) ?_
  refine lv_if_lt (tgt := 9) hx hb d_EF_state_1 (by decide) (fun c_1 => ?_) (fun c_1 => ?_)
  · replace hf := hf.1 c_1
    have hP9 := hP.sub (ws' := [(h0, .inr (5, [.ref tw, .int ln, .int fl, .ref ps, .ref wk, .ref mA, .ref sA])), (mA, .inr (0, [.int ns, .int npos, .int ncc, .ref m1, .ref m2, .ref m3, .ref m4, .ref m5, .ref m6, .ref m7])), (m1, .inl ((cA 0), 50, .inl se)), (m4, .inl ((cA 1), 50, .inl fi)), (m5, .inl ((cA 0), 50, .inl ea)), (m6, .inl ((cA 0), 50, .inl cl))]) [0, 1, 2, 3, 4, 5] rfl
    have hD9 := hD.sub (ws' := [(h0, .inr (5, [.ref tw, .int ln, .int fl, .ref ps, .ref wk, .ref mA, .ref sA])), (mA, .inr (0, [.int ns, .int npos, .int ncc, .ref m1, .ref m2, .ref m3, .ref m4, .ref m5, .ref m6, .ref m7])), (m1, .inl ((cA 0), 50, .inl se)), (m4, .inl ((cA 1), 50, .inl fi)), (m5, .inl ((cA 0), 50, .inl ea)), (m6, .inl ((cA 0), 50, .inl cl))]) [0, 1, 2, 3, 4, 5] (by decide) rfl
    refine W_end hQz ?_
    exact vx_throw0 (own := RX5) (cls := "java/lang/IllegalArgumentException") (names := ["java/lang/RuntimeException", "java/lang/Exception"]) hx hb hl9 hown (by decide +kernel) (by decide +kernel) (hts _ (List.mem_cons_of_mem _ k_283)) (hts _ (List.mem_cons_of_mem _ k_59)) (hat_IllegalArgument hts hX9) (by decide +kernel) hX9.2.2.1 hX9.2.2.2 hS (hl.1.trans hml.symm) d_EF_state_9 d_EF_state_12 d_EF_state_13 d_EF_state_16 (fun x h9 => (ht9 x h9).elim) (Nat.le_of_ble_eq_true rfl) (Nat.le_of_ble_eq_true rfl) (by decide) (by decide) hlocks (fun t ha hsz hk => ⟨(), trivial, ⟨hf, hP9.kept (fun k q hq => hk q.1 (hP9 k q hq).lt), va_K.moved ha hK, hD9⟩, Nat.le_trans hS.1 hsz, fun q h1 h2 => (hk q (Nat.lt_of_lt_of_le h1 hS.1)).trans (hS.2.1 q h1 h2)⟩) hS.2.2 (by decide) (by decide)
  · replace hf := hf.2 c_1
    refine lv_iload_n hx hb d_EF_state_4 rfl (lv_at hl 2 rfl) ?_
    refine lv_iconst (v := 3) hx hb d_EF_state_5 (by decide) ?_
    refine lv_icmp_le (tgt := 17) hx hb d_EF_state_6 (by decide) (fun c_2 => ?_) (fun c_2 => ?_)
    · replace hf := hf.1 c_2
      refine lv_aload_n hx hb d_EF_state_17 rfl (lv_at hl 0 rfl) ?_
      refine lv_iload_n hx hb d_EF_state_18 rfl (lv_at hl 1 rfl) ?_
      obtain ⟨v_3, hv_3, hf⟩ := hf
      have hPc := hP.sub (ws' := [(h0, .inr (5, [.ref tw, .int ln, .int fl, .ref ps, .ref wk, .ref mA, .ref sA])), (mA, .inr (0, [.int ns, .int npos, .int ncc, .ref m1, .ref m2, .ref m3, .ref m4, .ref m5, .ref m6, .ref m7]))]) [0, 1] rfl
      have hDc := hD.sub (ws' := [(h0, .inr (5, [.ref tw, .int ln, .int fl, .ref ps, .ref wk, .ref mA, .ref sA])), (mA, .inr (0, [.int ns, .int npos, .int ncc, .ref m1, .ref m2, .ref m3, .ref m4, .ref m5, .ref m6, .ref m7]))]) [0, 1] (by decide) rfl
      have hFc := va_free (wc := [(h0, .inr (5, [.ref tw, .int ln, .int fl, .ref ps, .ref wk, .ref mA, .ref sA])), (mA, .inr (0, [.int ns, .int npos, .int ncc, .ref m1, .ref m2, .ref m3, .ref m4, .ref m5, .ref m6, .ref m7]))]) hD hS hA [0, 1] rfl
      refine vx_callv (vx_runV (As := [.int p1]) (rest := []) ⟨hx, hb, hml, hown, hts⟩ (c_EF_checkState l hl9 dC dI cA h0 mA tw ps wk sA m1 m2 m3 m4 m5 m6 m7 s.heap.size p1 ln fl ns npos ncc v_3 hv_3) (cwV 1 hts (gV9 k_843 k_845 k_23 k_49 k_846) rfl rfl rfl hv_EF_checkState ⟨Nat.le_of_ble_eq_true rfl, Nat.le_of_ble_eq_true rfl⟩) ⟨fun a U g mk q => by obtain ⟨q0, q1, qP, qK, qN, qX, qD⟩ := q; exact ⟨q0, q1, qP, va_K.moved (u := U) (U := U.calling g mk a) (Vm.Alike.refl U.vm) qK, nW_same (u := U) (U := U.calling g mk a) rfl qN, xW_same (u := U) (U := U.calling g mk a) (Vm.Alike.refl U.vm) rfl rfl qX, qD⟩, va_recv hK hPc (ci := 5) (q0 := 0) rfl rfl, fun U hU hW => ⟨rfl, congrArg _ hU, P_cg hU.symm hPc, va_K.moved hW.alike hK, nW_warm hW hN, xW_at hX9 hS hFc hU hW, hDc.weaken (fun _ _ _ _ => trivial)⟩⟩ rfl rfl hl.1 rfl (lv_room (Nat.le_of_ble_eq_true rfl)) d_EF_state_19 ⟨by decide, by decide⟩) hS (fun q _ h => hFc q h) hFc (fun q _ h => hFc q h) (fun E ce q9 u t H locs ht hvm hpx hB hz1 hk1 hS hce hcv hcl => ?_) (fun u t H locs ht hvm hw hB hz1 hk1 hS => ?_)
      · obtain ⟨hw, hP1, hK1, hD1⟩ := hB
        replace hf := hf.2 E u hw
        replace hP1 := P_cg ht hP1
        obtain ⟨hP, hD⟩ := va_join (wc := [(h0, .inr (5, [.ref tw, .int ln, .int fl, .ref ps, .ref wk, .ref mA, .ref sA])), (mA, .inr (0, [.int ns, .int npos, .int ncc, .ref m1, .ref m2, .ref m3, .ref m4, .ref m5, .ref m6, .ref m7]))]) (wr := [(m1, .inl ((cA 0), 50, .inl se)), (m4, .inl ((cA 1), 50, .inl fi)), (m5, .inl ((cA 0), 50, .inl ea)), (m6, .inl ((cA 0), 50, .inl cl))]) (w1 := [(h0, .inr (5, [.ref tw, .int ln, .int fl, .ref ps, .ref wk, .ref mA, .ref sA])), (mA, .inr (0, [.int ns, .int npos, .int ncc, .ref m1, .ref m2, .ref m3, .ref m4, .ref m5, .ref m6, .ref m7]))]) hP hD [0, 1] [2, 3, 4, 5] rfl rfl (by decide) (by decide) hk1 hFc hP1 hD1
        have hP9 := hP.sub (ws' := [(h0, .inr (5, [.ref tw, .int ln, .int fl, .ref ps, .ref wk, .ref mA, .ref sA])), (mA, .inr (0, [.int ns, .int npos, .int ncc, .ref m1, .ref m2, .ref m3, .ref m4, .ref m5, .ref m6, .ref m7])), (m1, .inl ((cA 0), 50, .inl se)), (m4, .inl ((cA 1), 50, .inl fi)), (m5, .inl ((cA 0), 50, .inl ea)), (m6, .inl ((cA 0), 50, .inl cl))]) [4, 5, 0, 1, 2, 3] rfl
        have hD9 := hD.sub (ws' := [(h0, .inr (5, [.ref tw, .int ln, .int fl, .ref ps, .ref wk, .ref mA, .ref sA])), (mA, .inr (0, [.int ns, .int npos, .int ncc, .ref m1, .ref m2, .ref m3, .ref m4, .ref m5, .ref m6, .ref m7])), (m1, .inl ((cA 0), 50, .inl se)), (m4, .inl ((cA 1), 50, .inl fi)), (m5, .inl ((cA 0), 50, .inl ea)), (m6, .inl ((cA 0), 50, .inl cl))]) [4, 5, 0, 1, 2, 3] (by decide) rfl
        refine X_end hQz ?_
        exact vx_out (fun x h9 => (ht9 x h9).elim) hlocks hce hcv hcl (fun t ht ha => ⟨(), trivial, ⟨hf, P_cg ht.symm hP9, va_K.moved ha hK, hD9⟩, hS.F ht⟩) hS.2.2 (by decide) (by decide)
      · obtain ⟨hP1, hK1, hD1⟩ := hB
        replace hf := hf.1 u hw
        replace hP1 := P_cg ht hP1
        obtain ⟨hP, hD⟩ := va_join (wc := [(h0, .inr (5, [.ref tw, .int ln, .int fl, .ref ps, .ref wk, .ref mA, .ref sA])), (mA, .inr (0, [.int ns, .int npos, .int ncc, .ref m1, .ref m2, .ref m3, .ref m4, .ref m5, .ref m6, .ref m7]))]) (wr := [(m1, .inl ((cA 0), 50, .inl se)), (m4, .inl ((cA 1), 50, .inl fi)), (m5, .inl ((cA 0), 50, .inl ea)), (m6, .inl ((cA 0), 50, .inl cl))]) (w1 := [(h0, .inr (5, [.ref tw, .int ln, .int fl, .ref ps, .ref wk, .ref mA, .ref sA])), (mA, .inr (0, [.int ns, .int npos, .int ncc, .ref m1, .ref m2, .ref m3, .ref m4, .ref m5, .ref m6, .ref m7]))]) hP hD [0, 1] [2, 3, 4, 5] rfl rfl (by decide) (by decide) hk1 hFc hP1 hD1
        have hP : va_P (dC, dI) clA [(m1, .inl ((cA 0), 50, .inl se)), (m4, .inl ((cA 1), 50, .inl fi)), (m5, .inl ((cA 0), 50, .inl ea)), (m6, .inl ((cA 0), 50, .inl cl)), (h0, .inr (5, [.ref tw, .int ln, .int fl, .ref ps, .ref wk, .ref mA, .ref sA])), (mA, .inr (0, [.int ns, .int npos, .int ncc, .ref m1, .ref m2, .ref m3, .ref m4, .ref m5, .ref m6, .ref m7]))] H := hP
        have hD : va_D A [(m1, .inl ((cA 0), 50, .inl se)), (m4, .inl ((cA 1), 50, .inl fi)), (m5, .inl ((cA 0), 50, .inl ea)), (m6, .inl ((cA 0), 50, .inl cl)), (h0, .inr (5, [.ref tw, .int ln, .int fl, .ref ps, .ref wk, .ref mA, .ref sA])), (mA, .inr (0, [.int ns, .int npos, .int ncc, .ref m1, .ref m2, .ref m3, .ref m4, .ref m5, .ref m6, .ref m7]))] := hD
        refine lv_iload_n hx hb d_EF_state_22 rfl (lv_at hl 2 rfl) ?_
        by_cases hd_4 : p2.toInt < 0 ∨ 2 < p2.toInt
        · replace hf := hf.1 hd_4
          refine lv_tableOut (tgt := 86) hx hb d_EF_state_23 hd_4 (by decide) ?_
          refine lv_aload_n hx hb d_EF_state_86 rfl (lv_at hl 0 rfl) ?_
          refine va_get (D := (dC, dI)) (ci := 5) (v := .ref mA) (C := RX5) (T := TX5) (N := 7) hx hb hts (fun w h => List.mem_cons_of_mem _ (in_X5 w h)) hown hK hP 4 rfl rfl 5 (by decide) (hts _ (List.mem_cons_of_mem _ k_246)) (fun _ h9 => h9) rfl d_EF_state_87 ?_
          refine va_getN (D := (dC, dI)) (ci := 0) (v := .ref m1) (C := RX0) (T := TX0) (N := 10) hx hb hts (fun w h => List.mem_cons_of_mem _ (in_X0 w h)) hown hK hP 5 rfl rfl 3 (by decide) (va_Nw.use rfl (hN _ nl_20)) (fun _ h9 => h9) rfl d_EF_state_90 ?_
          refine lv_iload_n hx hb d_EF_state_93 rfl (lv_at hl 1 rfl) ?_
          obtain ⟨h_5, hf⟩ := hf
          refine va_iald hx hb hK hP 0 0 rfl rfl h_5 d_EF_state_94 ?_
          obtain ⟨v_6, hv_6, hf⟩ := hf
          have hPc := hP.sub (ws' := []) [] rfl
          have hDc := hD.sub (ws' := []) [] (by decide) rfl
          have hFc := va_free (wc := []) hD hS hA [] rfl
          refine va_calli (va_runS (As := [.int (se p1.toNatClampNeg)]) (rest := []) ⟨hx, hb, hml, hown, hts⟩ (c_Int_bitCount l dC dI cA H.size (se p1.toNatClampNeg) v_6 hv_6) (va_cwS 1 hts (gS9 k_878 k_879 k_71 k_880) rfl rfl rfl hs_Int_bitCount ⟨Nat.le_of_ble_eq_true rfl, Nat.le_of_ble_eq_true rfl⟩) ⟨fun a U g mk q => by obtain ⟨q0, q1, qP, qK, qN, qD⟩ := q; exact ⟨q0, q1, qP, va_K.moved (u := U) (U := U.calling g mk a) (Vm.Alike.refl U.vm) qK, nW_same (u := U) (U := U.calling g mk a) rfl qN, qD⟩, fun U hU hW => ⟨rfl, congrArg _ hU, P_cg hU.symm hPc, va_K.moved hW.alike hK, nW_warm hW hN, hDc.weaken (fun _ _ _ _ => trivial)⟩⟩ rfl rfl hl.1 rfl (lv_room (Nat.le_of_ble_eq_true rfl)) d_EF_state_95 ⟨by decide, by decide⟩) hS (fun q _ h => hFc q h) hFc (fun r u t H locs ht hvm hw hB hz1 hk1 hS => ?_)
          obtain ⟨rfl, rfl⟩ : r = v_6.1 ∧ u = v_6.2 := ⟨(congrArg Prod.fst hw).symm, (congrArg Prod.snd hw).symm⟩
          obtain ⟨hP1, hK1, hD1⟩ := hB
          replace hP1 := P_cg ht hP1
          obtain ⟨hP, hD⟩ := va_join (wc := []) (wr := [(m1, .inl ((cA 0), 50, .inl se)), (m4, .inl ((cA 1), 50, .inl fi)), (m5, .inl ((cA 0), 50, .inl ea)), (m6, .inl ((cA 0), 50, .inl cl)), (h0, .inr (5, [.ref tw, .int ln, .int fl, .ref ps, .ref wk, .ref mA, .ref sA])), (mA, .inr (0, [.int ns, .int npos, .int ncc, .ref m1, .ref m2, .ref m3, .ref m4, .ref m5, .ref m6, .ref m7]))]) (w1 := []) hP hD [] [0, 1, 2, 3, 4, 5] rfl rfl (by decide) (by decide) hk1 hFc hP1 hD1
          have hP : va_P (dC, dI) clA [(m1, .inl ((cA 0), 50, .inl se)), (m4, .inl ((cA 1), 50, .inl fi)), (m5, .inl ((cA 0), 50, .inl ea)), (m6, .inl ((cA 0), 50, .inl cl)), (h0, .inr (5, [.ref tw, .int ln, .int fl, .ref ps, .ref wk, .ref mA, .ref sA])), (mA, .inr (0, [.int ns, .int npos, .int ncc, .ref m1, .ref m2, .ref m3, .ref m4, .ref m5, .ref m6, .ref m7]))] H := hP
          have hD : va_D A [(m1, .inl ((cA 0), 50, .inl se)), (m4, .inl ((cA 1), 50, .inl fi)), (m5, .inl ((cA 0), 50, .inl ea)), (m6, .inl ((cA 0), 50, .inl cl)), (h0, .inr (5, [.ref tw, .int ln, .int fl, .ref ps, .ref wk, .ref mA, .ref sA])), (mA, .inr (0, [.int ns, .int npos, .int ncc, .ref m1, .ref m2, .ref m3, .ref m4, .ref m5, .ref m6, .ref m7]))] := hD
          have hP9 := hP.sub (ws' := [(h0, .inr (5, [.ref tw, .int ln, .int fl, .ref ps, .ref wk, .ref mA, .ref sA])), (mA, .inr (0, [.int ns, .int npos, .int ncc, .ref m1, .ref m2, .ref m3, .ref m4, .ref m5, .ref m6, .ref m7])), (m1, .inl ((cA 0), 50, .inl se)), (m4, .inl ((cA 1), 50, .inl fi)), (m5, .inl ((cA 0), 50, .inl ea)), (m6, .inl ((cA 0), 50, .inl cl))]) [4, 5, 0, 1, 2, 3] rfl
          have hD9 := hD.sub (ws' := [(h0, .inr (5, [.ref tw, .int ln, .int fl, .ref ps, .ref wk, .ref mA, .ref sA])), (mA, .inr (0, [.int ns, .int npos, .int ncc, .ref m1, .ref m2, .ref m3, .ref m4, .ref m5, .ref m6, .ref m7])), (m1, .inl ((cA 0), 50, .inl se)), (m4, .inl ((cA 1), 50, .inl fi)), (m5, .inl ((cA 0), 50, .inl ea)), (m6, .inl ((cA 0), 50, .inl cl))]) [4, 5, 0, 1, 2, 3] (by decide) rfl
          refine W_end hQz ?_
          refine W.widen (k := 1) (n := 6) (by decide) (by decide) ?_
          refine vx_ret ?_
          exact W.iret (v := v_6.1) hx hb hr (fun t ht hW => ⟨⟨v_6.1, (), rfl, hf, P_cg ht.symm hP9, va_K.moved hW.alike hK, hD9⟩, hS.F ht⟩) hS.2.2 d_EF_state_98 hlocks
        · replace hf := hf.2
          have hc_4 : p2.toInt = 0 ∨ p2.toInt = 1 ∨ p2.toInt = 2 := by omega
          rcases hc_4 with hc_4 | hc_4 | hc_4
          · replace hc_4 : p2 = 0 := Int32.toInt_inj.mp (hc_4.trans (by decide))
            replace hf := hf.1 hc_4
            refine lv_tableIn (off := 25) (tgt := 48) hx hb d_EF_state_23 (by rw [hc_4]; decide) (by rw [hc_4]; decide) (by rw [hc_4]; decide) (by decide) ?_
            refine lv_aload_n hx hb d_EF_state_48 rfl (lv_at hl 0 rfl) ?_
            refine va_get (D := (dC, dI)) (ci := 5) (v := .ref mA) (C := RX5) (T := TX5) (N := 7) hx hb hts (fun w h => List.mem_cons_of_mem _ (in_X5 w h)) hown hK hP 4 rfl rfl 5 (by decide) (hts _ (List.mem_cons_of_mem _ k_246)) (fun _ h9 => h9) rfl d_EF_state_49 ?_
            refine va_getN (D := (dC, dI)) (ci := 0) (v := .ref m4) (C := RX0) (T := TX0) (N := 10) hx hb hts (fun w h => List.mem_cons_of_mem _ (in_X0 w h)) hown hK hP 5 rfl rfl 6 (by decide) (va_Nw.use rfl (hN _ nl_21)) (fun _ h9 => h9) rfl d_EF_state_52 ?_
            refine lv_iload_n hx hb d_EF_state_55 rfl (lv_at hl 1 rfl) ?_
            obtain ⟨h_8, hf⟩ := hf
            refine va_zald hx hb hK hP 1 1 rfl rfl h_8 d_EF_state_56 ?_
            refine lv_if_eq (tgt := 64) hx hb d_EF_state_57 (by decide) (fun c_9 => ?_) (fun c_9 => ?_)
            · replace hf := hf.1 c_9
              refine lv_iconst (v := 0) hx hb d_EF_state_64 (by decide) ?_
              have hP9 := hP.sub (ws' := [(h0, .inr (5, [.ref tw, .int ln, .int fl, .ref ps, .ref wk, .ref mA, .ref sA])), (mA, .inr (0, [.int ns, .int npos, .int ncc, .ref m1, .ref m2, .ref m3, .ref m4, .ref m5, .ref m6, .ref m7])), (m1, .inl ((cA 0), 50, .inl se)), (m4, .inl ((cA 1), 50, .inl fi)), (m5, .inl ((cA 0), 50, .inl ea)), (m6, .inl ((cA 0), 50, .inl cl))]) [4, 5, 0, 1, 2, 3] rfl
              have hD9 := hD.sub (ws' := [(h0, .inr (5, [.ref tw, .int ln, .int fl, .ref ps, .ref wk, .ref mA, .ref sA])), (mA, .inr (0, [.int ns, .int npos, .int ncc, .ref m1, .ref m2, .ref m3, .ref m4, .ref m5, .ref m6, .ref m7])), (m1, .inl ((cA 0), 50, .inl se)), (m4, .inl ((cA 1), 50, .inl fi)), (m5, .inl ((cA 0), 50, .inl ea)), (m6, .inl ((cA 0), 50, .inl cl))]) [4, 5, 0, 1, 2, 3] (by decide) rfl
              refine W_end hQz ?_
              refine W.widen (k := 1) (n := 6) (by decide) (by decide) ?_
              refine vx_ret ?_
              exact W.iret (v := 0) hx hb hr (fun t ht hW => ⟨⟨0, (), rfl, hf, P_cg ht.symm hP9, va_K.moved hW.alike hK, hD9⟩, hS.F ht⟩) hS.2.2 d_EF_state_65 hlocks
            · replace hf := hf.2 c_9
              refine lv_iconst (v := 1) hx hb d_EF_state_60 (by decide) ?_
              refine lv_goto (tgt := 65) hx hb d_EF_state_61 (by decide) ?_
              have hP9 := hP.sub (ws' := [(h0, .inr (5, [.ref tw, .int ln, .int fl, .ref ps, .ref wk, .ref mA, .ref sA])), (mA, .inr (0, [.int ns, .int npos, .int ncc, .ref m1, .ref m2, .ref m3, .ref m4, .ref m5, .ref m6, .ref m7])), (m1, .inl ((cA 0), 50, .inl se)), (m4, .inl ((cA 1), 50, .inl fi)), (m5, .inl ((cA 0), 50, .inl ea)), (m6, .inl ((cA 0), 50, .inl cl))]) [4, 5, 0, 1, 2, 3] rfl
              have hD9 := hD.sub (ws' := [(h0, .inr (5, [.ref tw, .int ln, .int fl, .ref ps, .ref wk, .ref mA, .ref sA])), (mA, .inr (0, [.int ns, .int npos, .int ncc, .ref m1, .ref m2, .ref m3, .ref m4, .ref m5, .ref m6, .ref m7])), (m1, .inl ((cA 0), 50, .inl se)), (m4, .inl ((cA 1), 50, .inl fi)), (m5, .inl ((cA 0), 50, .inl ea)), (m6, .inl ((cA 0), 50, .inl cl))]) [4, 5, 0, 1, 2, 3] (by decide) rfl
              refine W_end hQz ?_
              refine W.widen (k := 1) (n := 6) (by decide) (by decide) ?_
              refine vx_ret ?_
              exact W.iret (v := 1) hx hb hr (fun t ht hW => ⟨⟨1, (), rfl, hf, P_cg ht.symm hP9, va_K.moved hW.alike hK, hD9⟩, hS.F ht⟩) hS.2.2 d_EF_state_65 hlocks
          · replace hc_4 : p2 = 1 := Int32.toInt_inj.mp (hc_4.trans (by decide))
            replace hf := hf.2.1 hc_4
            refine lv_tableIn (off := 43) (tgt := 66) hx hb d_EF_state_23 (by rw [hc_4]; decide) (by rw [hc_4]; decide) (by rw [hc_4]; decide) (by decide) ?_
            refine lv_aload_n hx hb d_EF_state_66 rfl (lv_at hl 0 rfl) ?_
            refine va_get (D := (dC, dI)) (ci := 5) (v := .ref mA) (C := RX5) (T := TX5) (N := 7) hx hb hts (fun w h => List.mem_cons_of_mem _ (in_X5 w h)) hown hK hP 4 rfl rfl 5 (by decide) (hts _ (List.mem_cons_of_mem _ k_246)) (fun _ h9 => h9) rfl d_EF_state_67 ?_
            refine va_getN (D := (dC, dI)) (ci := 0) (v := .ref m5) (C := RX0) (T := TX0) (N := 10) hx hb hts (fun w h => List.mem_cons_of_mem _ (in_X0 w h)) hown hK hP 5 rfl rfl 7 (by decide) (va_Nw.use rfl (hN _ nl_22)) (fun _ h9 => h9) rfl d_EF_state_70 ?_
            refine lv_iload_n hx hb d_EF_state_73 rfl (lv_at hl 1 rfl) ?_
            obtain ⟨h_12, hf⟩ := hf
            refine va_iald hx hb hK hP 2 0 rfl rfl h_12 d_EF_state_74 ?_
            have hP9 := hP.sub (ws' := [(h0, .inr (5, [.ref tw, .int ln, .int fl, .ref ps, .ref wk, .ref mA, .ref sA])), (mA, .inr (0, [.int ns, .int npos, .int ncc, .ref m1, .ref m2, .ref m3, .ref m4, .ref m5, .ref m6, .ref m7])), (m1, .inl ((cA 0), 50, .inl se)), (m4, .inl ((cA 1), 50, .inl fi)), (m5, .inl ((cA 0), 50, .inl ea)), (m6, .inl ((cA 0), 50, .inl cl))]) [4, 5, 0, 1, 2, 3] rfl
            have hD9 := hD.sub (ws' := [(h0, .inr (5, [.ref tw, .int ln, .int fl, .ref ps, .ref wk, .ref mA, .ref sA])), (mA, .inr (0, [.int ns, .int npos, .int ncc, .ref m1, .ref m2, .ref m3, .ref m4, .ref m5, .ref m6, .ref m7])), (m1, .inl ((cA 0), 50, .inl se)), (m4, .inl ((cA 1), 50, .inl fi)), (m5, .inl ((cA 0), 50, .inl ea)), (m6, .inl ((cA 0), 50, .inl cl))]) [4, 5, 0, 1, 2, 3] (by decide) rfl
            refine W_end hQz ?_
            refine W.widen (k := 1) (n := 6) (by decide) (by decide) ?_
            refine vx_ret ?_
            exact W.iret (v := (ea p1.toNatClampNeg)) hx hb hr (fun t ht hW => ⟨⟨(ea p1.toNatClampNeg), (), rfl, hf, P_cg ht.symm hP9, va_K.moved hW.alike hK, hD9⟩, hS.F ht⟩) hS.2.2 d_EF_state_75 hlocks
          · replace hc_4 : p2 = 2 := Int32.toInt_inj.mp (hc_4.trans (by decide))
            replace hf := hf.2.2 hc_4
            refine lv_tableIn (off := 53) (tgt := 76) hx hb d_EF_state_23 (by rw [hc_4]; decide) (by rw [hc_4]; decide) (by rw [hc_4]; decide) (by decide) ?_
            refine lv_aload_n hx hb d_EF_state_76 rfl (lv_at hl 0 rfl) ?_
            refine va_get (D := (dC, dI)) (ci := 5) (v := .ref mA) (C := RX5) (T := TX5) (N := 7) hx hb hts (fun w h => List.mem_cons_of_mem _ (in_X5 w h)) hown hK hP 4 rfl rfl 5 (by decide) (hts _ (List.mem_cons_of_mem _ k_246)) (fun _ h9 => h9) rfl d_EF_state_77 ?_
            refine va_getN (D := (dC, dI)) (ci := 0) (v := .ref m6) (C := RX0) (T := TX0) (N := 10) hx hb hts (fun w h => List.mem_cons_of_mem _ (in_X0 w h)) hown hK hP 5 rfl rfl 8 (by decide) (va_Nw.use rfl (hN _ nl_23)) (fun _ h9 => h9) rfl d_EF_state_80 ?_
            refine lv_iload_n hx hb d_EF_state_83 rfl (lv_at hl 1 rfl) ?_
            obtain ⟨h_14, hf⟩ := hf
            refine va_iald hx hb hK hP 3 0 rfl rfl h_14 d_EF_state_84 ?_
            have hP9 := hP.sub (ws' := [(h0, .inr (5, [.ref tw, .int ln, .int fl, .ref ps, .ref wk, .ref mA, .ref sA])), (mA, .inr (0, [.int ns, .int npos, .int ncc, .ref m1, .ref m2, .ref m3, .ref m4, .ref m5, .ref m6, .ref m7])), (m1, .inl ((cA 0), 50, .inl se)), (m4, .inl ((cA 1), 50, .inl fi)), (m5, .inl ((cA 0), 50, .inl ea)), (m6, .inl ((cA 0), 50, .inl cl))]) [4, 5, 0, 1, 2, 3] rfl
            have hD9 := hD.sub (ws' := [(h0, .inr (5, [.ref tw, .int ln, .int fl, .ref ps, .ref wk, .ref mA, .ref sA])), (mA, .inr (0, [.int ns, .int npos, .int ncc, .ref m1, .ref m2, .ref m3, .ref m4, .ref m5, .ref m6, .ref m7])), (m1, .inl ((cA 0), 50, .inl se)), (m4, .inl ((cA 1), 50, .inl fi)), (m5, .inl ((cA 0), 50, .inl ea)), (m6, .inl ((cA 0), 50, .inl cl))]) [4, 5, 0, 1, 2, 3] (by decide) rfl
            refine W_end hQz ?_
            refine W.widen (k := 1) (n := 6) (by decide) (by decide) ?_
            refine vx_ret ?_
            exact W.iret (v := (cl p1.toNatClampNeg)) hx hb hr (fun t ht hW => ⟨⟨(cl p1.toNatClampNeg), (), rfl, hf, P_cg ht.symm hP9, va_K.moved hW.alike hK, hD9⟩, hS.F ht⟩) hS.2.2 d_EF_state_85 hlocks
    · replace hf := hf.2 c_2
      have hP9 := hP.sub (ws' := [(h0, .inr (5, [.ref tw, .int ln, .int fl, .ref ps, .ref wk, .ref mA, .ref sA])), (mA, .inr (0, [.int ns, .int npos, .int ncc, .ref m1, .ref m2, .ref m3, .ref m4, .ref m5, .ref m6, .ref m7])), (m1, .inl ((cA 0), 50, .inl se)), (m4, .inl ((cA 1), 50, .inl fi)), (m5, .inl ((cA 0), 50, .inl ea)), (m6, .inl ((cA 0), 50, .inl cl))]) [0, 1, 2, 3, 4, 5] rfl
      have hD9 := hD.sub (ws' := [(h0, .inr (5, [.ref tw, .int ln, .int fl, .ref ps, .ref wk, .ref mA, .ref sA])), (mA, .inr (0, [.int ns, .int npos, .int ncc, .ref m1, .ref m2, .ref m3, .ref m4, .ref m5, .ref m6, .ref m7])), (m1, .inl ((cA 0), 50, .inl se)), (m4, .inl ((cA 1), 50, .inl fi)), (m5, .inl ((cA 0), 50, .inl ea)), (m6, .inl ((cA 0), 50, .inl cl))]) [0, 1, 2, 3, 4, 5] (by decide) rfl
      refine W_end hQz ?_
      exact vx_throw0 (own := RX5) (cls := "java/lang/IllegalArgumentException") (names := ["java/lang/RuntimeException", "java/lang/Exception"]) hx hb hl9 hown (by decide +kernel) (by decide +kernel) (hts _ (List.mem_cons_of_mem _ k_283)) (hts _ (List.mem_cons_of_mem _ k_59)) (hat_IllegalArgument hts hX9) (by decide +kernel) hX9.2.2.1 hX9.2.2.2 hS (hl.1.trans hml.symm) d_EF_state_9 d_EF_state_12 d_EF_state_13 d_EF_state_16 (fun x h9 => (ht9 x h9).elim) (Nat.le_of_ble_eq_true rfl) (Nat.le_of_ble_eq_true rfl) (by decide) (by decide) hlocks (fun t ha hsz hk => ⟨(), trivial, ⟨hf, hP9.kept (fun k q hq => hk q.1 (hP9 k q hq).lt), va_K.moved ha hK, hD9⟩, Nat.le_trans hS.1 hsz, fun q h1 h2 => (hk q (Nat.lt_of_lt_of_le h1 hS.1)).trans (hS.2.1 q h1 h2)⟩) hS.2.2 (by decide) (by decide)
def R_EF_feed (p1 : Int32) (ln : Int32) (fl : Int32) (ns : Int32) (npos : Int32) (ncc : Int32) (wen : Int32) (wy : Nat → Int32) (wa : Nat → Int32) (wat : Int32) (wfe : Int32) (dn : Nat → Int32) (out : (Int32 × Int32 × Int32 × (Nat → Int32)) ⊕ (String × Int32 × Int32 × (Nat → Int32))) : Prop := ∃ v_1, R_EF_checkLetter p1 v_1 ∧ ((∀ u, v_1 = .inl u → (∃ v_2, R_EF_checkGoing ln fl ns npos ncc wat wen wfe v_2 ∧ ((∀ u, v_2 = .inl u → (∃ v_3, R_Mach_target wat p1 ns npos ncc wy v_3 ∧ (((¬ v_3.1 = (-1)) → (∃ v_5, R_Mach_actionsOnWay wat p1 ns npos ncc wa v_5 ∧ (∃ v_6, R_Walk_goOn v_3.1 v_5.1 wen wat wfe dn v_6 ∧ (out = .inl (v_5.1, (v_6.1, v_6.2.1, v_6.2.2)))))) ∧ ((v_3.1 = (-1)) → (out = .inr ("java/lang/UnsupportedOperationException", (wat, wfe, dn))))))) ∧ (∀ E u, v_2 = .inr (E, u) → out = .inr (E, (wat, wfe, dn)))))) ∧ (∀ E u, v_1 = .inr (E, u) → out = .inr (E, (wat, wfe, dn))))
set_option maxHeartbeats 4000000 in
set_option maxRecDepth 100000 in
theorem c_EF_feed (l : Launch) (hl9 : l.stackTraces = false) (dC : Nat → ClassId) (dI : Nat → Nat → Nat) (cA : Nat → ClassId) (h0 mA m2 m3 wk d1 tw ps sA m1 m4 m5 m6 m7 : Nat) (sz : Nat) (p1 : Int32) (ln : Int32) (fl : Int32) (ns : Int32) (npos : Int32) (ncc : Int32) (wen : Int32) (wy : Nat → Int32) (wa : Nat → Int32) (wat : Int32) (wfe : Int32) (dn : Nat → Int32) (out : (Int32 × Int32 × Int32 × (Nat → Int32)) ⊕ (String × Int32 × Int32 × (Nat → Int32))) (hR : R_EF_feed p1 ln fl ns npos ncc wen wy wa wat wfe dn out) : vx_Met l y_EF_feed ws_EF_feed ({ frames := 8, cells := 4, slots := 24, locals := 140 }) (va_Pc [.ref h0, .int p1] (fun U => U.heap.size = sz ∧ va_P (dC, dI) clA [(h0, .inr (5, [.ref tw, .int ln, .int fl, .ref ps, .ref wk, .ref mA, .ref sA])), (mA, .inr (0, [.int ns, .int npos, .int ncc, .ref m1, .ref m2, .ref m3, .ref m4, .ref m5, .ref m6, .ref m7])), (m2, .inl ((cA 0), 200, .inl wy)), (m3, .inl ((cA 0), 200, .inl wa)), (wk, .inr (4, [.int wat, .int wen, .int wfe, .ref d1])), (d1, .inl ((cA 0), 10, .inl dn))] U.heap ∧ va_K (dC, dI) clA (tysA cA) U ∧ nW U ∧ xW (va_A [(h0, .inr (5, [.ref tw, .int ln, .int fl, .ref ps, .ref wk, .ref mA, .ref sA])), (mA, .inr (0, [.int ns, .int npos, .int ncc, .ref m1, .ref m2, .ref m3, .ref m4, .ref m5, .ref m6, .ref m7])), (m2, .inl ((cA 0), 200, .inl wy)), (m3, .inl ((cA 0), 200, .inl wa)), (wk, .inr (4, [.int wat, .int wen, .int wfe, .ref d1])), (d1, .inl ((cA 0), 10, .inl dn))] sz) U ∧ va_D (fun _ => True) [(h0, .inr (5, [.ref tw, .int ln, .int fl, .ref ps, .ref wk, .ref mA, .ref sA])), (mA, .inr (0, [.int ns, .int npos, .int ncc, .ref m1, .ref m2, .ref m3, .ref m4, .ref m5, .ref m6, .ref m7])), (m2, .inl ((cA 0), 200, .inl wy)), (m3, .inl ((cA 0), 200, .inl wa)), (wk, .inr (4, [.int wat, .int wen, .int wfe, .ref d1])), (d1, .inl ((cA 0), 10, .inl dn))])) (va_Qi (fun (r : Int32) (u : Int32 × Int32 × (Nat → Int32)) => out = .inl (r, u)) (fun (u : Int32 × Int32 × (Nat → Int32)) (t : State) => va_P (dC, dI) clA [(h0, .inr (5, [.ref tw, .int ln, .int fl, .ref ps, .ref wk, .ref mA, .ref sA])), (mA, .inr (0, [.int ns, .int npos, .int ncc, .ref m1, .ref m2, .ref m3, .ref m4, .ref m5, .ref m6, .ref m7])), (m2, .inl ((cA 0), 200, .inl wy)), (m3, .inl ((cA 0), 200, .inl wa)), (wk, .inr (4, [.int u.1, .int wen, .int u.2.1, .ref d1])), (d1, .inl ((cA 0), 10, .inl u.2.2))] t.heap ∧ va_K (dC, dI) clA (tysA cA) t ∧ va_D (va_A [(h0, .inr (5, [.ref tw, .int ln, .int fl, .ref ps, .ref wk, .ref mA, .ref sA])), (mA, .inr (0, [.int ns, .int npos, .int ncc, .ref m1, .ref m2, .ref m3, .ref m4, .ref m5, .ref m6, .ref m7])), (m2, .inl ((cA 0), 200, .inl wy)), (m3, .inl ((cA 0), 200, .inl wa)), (wk, .inr (4, [.int wat, .int wen, .int wfe, .ref d1])), (d1, .inl ((cA 0), 10, .inl dn))] sz) [(h0, .inr (5, [.ref tw, .int ln, .int fl, .ref ps, .ref wk, .ref mA, .ref sA])), (mA, .inr (0, [.int ns, .int npos, .int ncc, .ref m1, .ref m2, .ref m3, .ref m4, .ref m5, .ref m6, .ref m7])), (m2, .inl ((cA 0), 200, .inl wy)), (m3, .inl ((cA 0), 200, .inl wa)), (wk, .inr (4, [.int u.1, .int wen, .int u.2.1, .ref d1])), (d1, .inl ((cA 0), 10, .inl u.2.2))]) (va_A [(h0, .inr (5, [.ref tw, .int ln, .int fl, .ref ps, .ref wk, .ref mA, .ref sA])), (mA, .inr (0, [.int ns, .int npos, .int ncc, .ref m1, .ref m2, .ref m3, .ref m4, .ref m5, .ref m6, .ref m7])), (m2, .inl ((cA 0), 200, .inl wy)), (m3, .inl ((cA 0), 200, .inl wa)), (wk, .inr (4, [.int wat, .int wen, .int wfe, .ref d1])), (d1, .inl ((cA 0), 10, .inl dn))] sz)) (vx_X (fun _ : Int32 × Int32 × (Nat → Int32) => True) (fun (E : String) (u : Int32 × Int32 × (Nat → Int32)) (t : State) => out = .inr (E, u) ∧ va_P (dC, dI) clA [(h0, .inr (5, [.ref tw, .int ln, .int fl, .ref ps, .ref wk, .ref mA, .ref sA])), (mA, .inr (0, [.int ns, .int npos, .int ncc, .ref m1, .ref m2, .ref m3, .ref m4, .ref m5, .ref m6, .ref m7])), (m2, .inl ((cA 0), 200, .inl wy)), (m3, .inl ((cA 0), 200, .inl wa)), (wk, .inr (4, [.int u.1, .int wen, .int u.2.1, .ref d1])), (d1, .inl ((cA 0), 10, .inl u.2.2))] t.heap ∧ va_K (dC, dI) clA (tysA cA) t ∧ va_D (va_A [(h0, .inr (5, [.ref tw, .int ln, .int fl, .ref ps, .ref wk, .ref mA, .ref sA])), (mA, .inr (0, [.int ns, .int npos, .int ncc, .ref m1, .ref m2, .ref m3, .ref m4, .ref m5, .ref m6, .ref m7])), (m2, .inl ((cA 0), 200, .inl wy)), (m3, .inl ((cA 0), 200, .inl wa)), (wk, .inr (4, [.int wat, .int wen, .int wfe, .ref d1])), (d1, .inl ((cA 0), 10, .inl dn))] sz) [(h0, .inr (5, [.ref tw, .int ln, .int fl, .ref ps, .ref wk, .ref mA, .ref sA])), (mA, .inr (0, [.int ns, .int npos, .int ncc, .ref m1, .ref m2, .ref m3, .ref m4, .ref m5, .ref m6, .ref m7])), (m2, .inl ((cA 0), 200, .inl wy)), (m3, .inl ((cA 0), 200, .inl wa)), (wk, .inr (4, [.int u.1, .int wen, .int u.2.1, .ref d1])), (d1, .inl ((cA 0), 10, .inl u.2.2))]) (va_A [(h0, .inr (5, [.ref tw, .int ln, .int fl, .ref ps, .ref wk, .ref mA, .ref sA])), (mA, .inr (0, [.int ns, .int npos, .int ncc, .ref m1, .ref m2, .ref m3, .ref m4, .ref m5, .ref m6, .ref m7])), (m2, .inl ((cA 0), 200, .inl wy)), (m3, .inl ((cA 0), 200, .inl wa)), (wk, .inr (4, [.int wat, .int wen, .int wfe, .ref d1])), (d1, .inl ((cA 0), 10, .inl dn))] sz)) 4 24 (va_A [(h0, .inr (5, [.ref tw, .int ln, .int fl, .ref ps, .ref wk, .ref mA, .ref sA])), (mA, .inr (0, [.int ns, .int npos, .int ncc, .ref m1, .ref m2, .ref m3, .ref m4, .ref m5, .ref m6, .ref m7])), (m2, .inl ((cA 0), 200, .inl wy)), (m3, .inl ((cA 0), 200, .inl wa)), (wk, .inr (4, [.int wat, .int wen, .int wfe, .ref d1])), (d1, .inl ((cA 0), 10, .inl dn))] sz) := by
  refine vx_ofW (cc := b_EF_feed) (maxL := 4) (ret := (some .int)) (by decide) rfl ?_
  intro p e s m args below meth c s₁ B hml ht9 hv
  obtain ⟨rfl, hsz, hP, hK, hN, hX9, hD0⟩ := hv
  have hx := B.exec
  have hb := B.bytes
  have hr := B.returns
  have hts := atoms_spec (ws := ws_EF_feed) B.pre
  have hown : s.vm.findClass RX5 = some m.cls := findClass_of_methodNamed B.named
  have hlocks := B.notSynchronized
  subst hsz
  have hD := hD0.self (sz := s.heap.size)
  generalize hAe : va_A [(h0, .inr (5, [.ref tw, .int ln, .int fl, .ref ps, .ref wk, .ref mA, .ref sA])), (mA, .inr (0, [.int ns, .int npos, .int ncc, .ref m1, .ref m2, .ref m3, .ref m4, .ref m5, .ref m6, .ref m7])), (m2, .inl ((cA 0), 200, .inl wy)), (m3, .inl ((cA 0), 200, .inl wa)), (wk, .inr (4, [.int wat, .int wen, .int wfe, .ref d1])), (d1, .inl ((cA 0), 10, .inl dn))] s.heap.size = A at hD hX9 ⊢
  have hA : ∀ q : Nat, s.heap.size ≤ q → A q := fun q h => by rw [← hAe]; exact Or.inr h
  have hS : va_S A s.heap s.heap [] := va_S.rf
  have hP : va_P (dC, dI) clA [(h0, .inr (5, [.ref tw, .int ln, .int fl, .ref ps, .ref wk, .ref mA, .ref sA])), (mA, .inr (0, [.int ns, .int npos, .int ncc, .ref m1, .ref m2, .ref m3, .ref m4, .ref m5, .ref m6, .ref m7])), (m2, .inl ((cA 0), 200, .inl wy)), (m3, .inl ((cA 0), 200, .inl wa)), (wk, .inr (4, [.int wat, .int wen, .int wfe, .ref d1])), (d1, .inl ((cA 0), 10, .inl dn))] s.heap := hP
  have hl := lv_entry ([.ref h0, .int p1]) (n := 4) (Nat.le_of_ble_eq_true rfl)
  rw [lg_entry_eq]
  generalize (lg_sl ([.ref h0, .int p1]) ++ List.replicate (4 - (lg_sl ([.ref h0, .int p1])).length) Slot.unset).toArray = ls at hl ⊢
  have hl : lv_has ls 4 [(0, .ref h0), (1, .int p1)] := hl
  refine W_gen (fun Qz hQz => ?_)
  have hf := hR
  unfold R_EF_feed at hf
  refine lv_iload_n hx hb d_EF_feed_0 rfl (lv_at hl 1 rfl) ?_
  obtain ⟨v_1, hv_1, hf⟩ := hf
  have hPc := hP.sub (ws' := []) [] rfl
  have hDc := hD.sub (ws' := []) [] (by decide) rfl
  have hFc := va_free (wc := []) hD hS hA [] rfl
  refine vx_callv (vx_runS (As := [.int p1]) (rest := []) ⟨hx, hb, hml, hown, hts⟩ (c_EF_checkLetter l hl9 dC dI cA s.heap.size p1 v_1 hv_1) (va_cwS 1 hts (gS9 k_840 k_841 k_49 k_842) rfl rfl rfl hs_EF_checkLetter ⟨Nat.le_of_ble_eq_true rfl, Nat.le_of_ble_eq_true rfl⟩) ⟨fun a U g mk q => by obtain ⟨q0, q1, qP, qK, qN, qX, qD⟩ := q; exact ⟨q0, q1, qP, va_K.moved (u := U) (U := U.calling g mk a) (Vm.Alike.refl U.vm) qK, nW_same (u := U) (U := U.calling g mk a) rfl qN, xW_same (u := U) (U := U.calling g mk a) (Vm.Alike.refl U.vm) rfl rfl qX, qD⟩, fun U hU hW => ⟨rfl, congrArg _ hU, P_cg hU.symm hPc, va_K.moved hW.alike hK, nW_warm hW hN, xW_at hX9 hS hFc hU hW, hDc.weaken (fun _ _ _ _ => trivial)⟩⟩ rfl rfl hl.1 rfl (lv_room (Nat.le_of_ble_eq_true rfl)) d_EF_feed_1 ⟨by decide, by decide⟩) hS (fun q _ h => hFc q h) hFc (fun q _ h => hFc q h) (fun E ce q9 u t H locs ht hvm hpx hB hz1 hk1 hS hce hcv hcl => ?_) (fun u t H locs ht hvm hw hB hz1 hk1 hS => ?_)
  · obtain ⟨hw, hP1, hK1, hD1⟩ := hB
    replace hf := hf.2 E u hw
    replace hP1 := P_cg ht hP1
    obtain ⟨hP, hD⟩ := va_join (wc := []) (wr := [(h0, .inr (5, [.ref tw, .int ln, .int fl, .ref ps, .ref wk, .ref mA, .ref sA])), (mA, .inr (0, [.int ns, .int npos, .int ncc, .ref m1, .ref m2, .ref m3, .ref m4, .ref m5, .ref m6, .ref m7])), (m2, .inl ((cA 0), 200, .inl wy)), (m3, .inl ((cA 0), 200, .inl wa)), (wk, .inr (4, [.int wat, .int wen, .int wfe, .ref d1])), (d1, .inl ((cA 0), 10, .inl dn))]) (w1 := []) hP hD [] [0, 1, 2, 3, 4, 5] rfl rfl (by decide) (by decide) hk1 hFc hP1 hD1
    have hP9 := hP.sub (ws' := [(h0, .inr (5, [.ref tw, .int ln, .int fl, .ref ps, .ref wk, .ref mA, .ref sA])), (mA, .inr (0, [.int ns, .int npos, .int ncc, .ref m1, .ref m2, .ref m3, .ref m4, .ref m5, .ref m6, .ref m7])), (m2, .inl ((cA 0), 200, .inl wy)), (m3, .inl ((cA 0), 200, .inl wa)), (wk, .inr (4, [.int wat, .int wen, .int wfe, .ref d1])), (d1, .inl ((cA 0), 10, .inl dn))]) [0, 1, 2, 3, 4, 5] rfl
    have hD9 := hD.sub (ws' := [(h0, .inr (5, [.ref tw, .int ln, .int fl, .ref ps, .ref wk, .ref mA, .ref sA])), (mA, .inr (0, [.int ns, .int npos, .int ncc, .ref m1, .ref m2, .ref m3, .ref m4, .ref m5, .ref m6, .ref m7])), (m2, .inl ((cA 0), 200, .inl wy)), (m3, .inl ((cA 0), 200, .inl wa)), (wk, .inr (4, [.int wat, .int wen, .int wfe, .ref d1])), (d1, .inl ((cA 0), 10, .inl dn))]) [0, 1, 2, 3, 4, 5] (by decide) rfl
    refine X_end hQz ?_
    exact vx_out (fun x h9 => (ht9 x h9).elim) hlocks hce hcv hcl (fun t ht ha => ⟨(wat, wfe, dn), trivial, ⟨hf, P_cg ht.symm hP9, va_K.moved ha hK, hD9⟩, hS.F ht⟩) hS.2.2 (by decide) (by decide)
  · obtain ⟨hP1, hK1, hD1⟩ := hB
    replace hf := hf.1 u hw
    replace hP1 := P_cg ht hP1
    obtain ⟨hP, hD⟩ := va_join (wc := []) (wr := [(h0, .inr (5, [.ref tw, .int ln, .int fl, .ref ps, .ref wk, .ref mA, .ref sA])), (mA, .inr (0, [.int ns, .int npos, .int ncc, .ref m1, .ref m2, .ref m3, .ref m4, .ref m5, .ref m6, .ref m7])), (m2, .inl ((cA 0), 200, .inl wy)), (m3, .inl ((cA 0), 200, .inl wa)), (wk, .inr (4, [.int wat, .int wen, .int wfe, .ref d1])), (d1, .inl ((cA 0), 10, .inl dn))]) (w1 := []) hP hD [] [0, 1, 2, 3, 4, 5] rfl rfl (by decide) (by decide) hk1 hFc hP1 hD1
    have hP : va_P (dC, dI) clA [(h0, .inr (5, [.ref tw, .int ln, .int fl, .ref ps, .ref wk, .ref mA, .ref sA])), (mA, .inr (0, [.int ns, .int npos, .int ncc, .ref m1, .ref m2, .ref m3, .ref m4, .ref m5, .ref m6, .ref m7])), (m2, .inl ((cA 0), 200, .inl wy)), (m3, .inl ((cA 0), 200, .inl wa)), (wk, .inr (4, [.int wat, .int wen, .int wfe, .ref d1])), (d1, .inl ((cA 0), 10, .inl dn))] H := hP
    have hD : va_D A [(h0, .inr (5, [.ref tw, .int ln, .int fl, .ref ps, .ref wk, .ref mA, .ref sA])), (mA, .inr (0, [.int ns, .int npos, .int ncc, .ref m1, .ref m2, .ref m3, .ref m4, .ref m5, .ref m6, .ref m7])), (m2, .inl ((cA 0), 200, .inl wy)), (m3, .inl ((cA 0), 200, .inl wa)), (wk, .inr (4, [.int wat, .int wen, .int wfe, .ref d1])), (d1, .inl ((cA 0), 10, .inl dn))] := hD
    refine lv_aload_n hx hb d_EF_feed_4 rfl (lv_at hl 0 rfl) ?_
    obtain ⟨v_2, hv_2, hf⟩ := hf
    have hPc := hP.sub (ws' := [(h0, .inr (5, [.ref tw, .int ln, .int fl, .ref ps, .ref wk, .ref mA, .ref sA])), (mA, .inr (0, [.int ns, .int npos, .int ncc, .ref m1, .ref m2, .ref m3, .ref m4, .ref m5, .ref m6, .ref m7])), (wk, .inr (4, [.int wat, .int wen, .int wfe, .ref d1]))]) [0, 1, 4] rfl
    have hDc := hD.sub (ws' := [(h0, .inr (5, [.ref tw, .int ln, .int fl, .ref ps, .ref wk, .ref mA, .ref sA])), (mA, .inr (0, [.int ns, .int npos, .int ncc, .ref m1, .ref m2, .ref m3, .ref m4, .ref m5, .ref m6, .ref m7])), (wk, .inr (4, [.int wat, .int wen, .int wfe, .ref d1]))]) [0, 1, 4] (by decide) rfl
    have hFc := va_free (wc := [(h0, .inr (5, [.ref tw, .int ln, .int fl, .ref ps, .ref wk, .ref mA, .ref sA])), (mA, .inr (0, [.int ns, .int npos, .int ncc, .ref m1, .ref m2, .ref m3, .ref m4, .ref m5, .ref m6, .ref m7])), (wk, .inr (4, [.int wat, .int wen, .int wfe, .ref d1]))]) hD hS hA [0, 1, 4] rfl
    refine vx_callv (vx_runV (As := []) (rest := []) ⟨hx, hb, hml, hown, hts⟩ (c_EF_checkGoing l hl9 dC dI cA h0 mA wk tw ps sA m1 m2 m3 m4 m5 m6 m7 d1 H.size ln fl ns npos ncc wat wen wfe v_2 hv_2) (cwV 0 hts (gV9 k_891 k_893 k_24 k_49 k_894) rfl rfl rfl hv_EF_checkGoing ⟨Nat.le_of_ble_eq_true rfl, Nat.le_of_ble_eq_true rfl⟩) ⟨fun a U g mk q => by obtain ⟨q0, q1, qP, qK, qN, qX, qD⟩ := q; exact ⟨q0, q1, qP, va_K.moved (u := U) (U := U.calling g mk a) (Vm.Alike.refl U.vm) qK, nW_same (u := U) (U := U.calling g mk a) rfl qN, xW_same (u := U) (U := U.calling g mk a) (Vm.Alike.refl U.vm) rfl rfl qX, qD⟩, va_recv hK hPc (ci := 5) (q0 := 0) rfl rfl, fun U hU hW => ⟨rfl, congrArg _ hU, P_cg hU.symm hPc, va_K.moved hW.alike hK, nW_warm hW hN, xW_at hX9 hS hFc hU hW, hDc.weaken (fun _ _ _ _ => trivial)⟩⟩ rfl rfl hl.1 rfl (lv_room (Nat.le_of_ble_eq_true rfl)) d_EF_feed_5 ⟨by decide, by decide⟩) hS (fun q _ h => hFc q h) hFc (fun q _ h => hFc q h) (fun E ce q9 u t H locs ht hvm hpx hB hz1 hk1 hS hce hcv hcl => ?_) (fun u t H locs ht hvm hw hB hz1 hk1 hS => ?_)
    · obtain ⟨hw, hP1, hK1, hD1⟩ := hB
      replace hf := hf.2 E u hw
      replace hP1 := P_cg ht hP1
      obtain ⟨hP, hD⟩ := va_join (wc := [(h0, .inr (5, [.ref tw, .int ln, .int fl, .ref ps, .ref wk, .ref mA, .ref sA])), (mA, .inr (0, [.int ns, .int npos, .int ncc, .ref m1, .ref m2, .ref m3, .ref m4, .ref m5, .ref m6, .ref m7])), (wk, .inr (4, [.int wat, .int wen, .int wfe, .ref d1]))]) (wr := [(m2, .inl ((cA 0), 200, .inl wy)), (m3, .inl ((cA 0), 200, .inl wa)), (d1, .inl ((cA 0), 10, .inl dn))]) (w1 := [(h0, .inr (5, [.ref tw, .int ln, .int fl, .ref ps, .ref wk, .ref mA, .ref sA])), (mA, .inr (0, [.int ns, .int npos, .int ncc, .ref m1, .ref m2, .ref m3, .ref m4, .ref m5, .ref m6, .ref m7])), (wk, .inr (4, [.int wat, .int wen, .int wfe, .ref d1]))]) hP hD [0, 1, 4] [2, 3, 5] rfl rfl (by decide) (by decide) hk1 hFc hP1 hD1
      have hP9 := hP.sub (ws' := [(h0, .inr (5, [.ref tw, .int ln, .int fl, .ref ps, .ref wk, .ref mA, .ref sA])), (mA, .inr (0, [.int ns, .int npos, .int ncc, .ref m1, .ref m2, .ref m3, .ref m4, .ref m5, .ref m6, .ref m7])), (m2, .inl ((cA 0), 200, .inl wy)), (m3, .inl ((cA 0), 200, .inl wa)), (wk, .inr (4, [.int wat, .int wen, .int wfe, .ref d1])), (d1, .inl ((cA 0), 10, .inl dn))]) [3, 4, 0, 1, 5, 2] rfl
      have hD9 := hD.sub (ws' := [(h0, .inr (5, [.ref tw, .int ln, .int fl, .ref ps, .ref wk, .ref mA, .ref sA])), (mA, .inr (0, [.int ns, .int npos, .int ncc, .ref m1, .ref m2, .ref m3, .ref m4, .ref m5, .ref m6, .ref m7])), (m2, .inl ((cA 0), 200, .inl wy)), (m3, .inl ((cA 0), 200, .inl wa)), (wk, .inr (4, [.int wat, .int wen, .int wfe, .ref d1])), (d1, .inl ((cA 0), 10, .inl dn))]) [3, 4, 0, 1, 5, 2] (by decide) rfl
      refine X_end hQz ?_
      exact vx_out (fun x h9 => (ht9 x h9).elim) hlocks hce hcv hcl (fun t ht ha => ⟨(wat, wfe, dn), trivial, ⟨hf, P_cg ht.symm hP9, va_K.moved ha hK, hD9⟩, hS.F ht⟩) hS.2.2 (by decide) (by decide)
    · obtain ⟨hP1, hK1, hD1⟩ := hB
      replace hf := hf.1 u hw
      replace hP1 := P_cg ht hP1
      obtain ⟨hP, hD⟩ := va_join (wc := [(h0, .inr (5, [.ref tw, .int ln, .int fl, .ref ps, .ref wk, .ref mA, .ref sA])), (mA, .inr (0, [.int ns, .int npos, .int ncc, .ref m1, .ref m2, .ref m3, .ref m4, .ref m5, .ref m6, .ref m7])), (wk, .inr (4, [.int wat, .int wen, .int wfe, .ref d1]))]) (wr := [(m2, .inl ((cA 0), 200, .inl wy)), (m3, .inl ((cA 0), 200, .inl wa)), (d1, .inl ((cA 0), 10, .inl dn))]) (w1 := [(h0, .inr (5, [.ref tw, .int ln, .int fl, .ref ps, .ref wk, .ref mA, .ref sA])), (mA, .inr (0, [.int ns, .int npos, .int ncc, .ref m1, .ref m2, .ref m3, .ref m4, .ref m5, .ref m6, .ref m7])), (wk, .inr (4, [.int wat, .int wen, .int wfe, .ref d1]))]) hP hD [0, 1, 4] [2, 3, 5] rfl rfl (by decide) (by decide) hk1 hFc hP1 hD1
      have hP : va_P (dC, dI) clA [(m2, .inl ((cA 0), 200, .inl wy)), (m3, .inl ((cA 0), 200, .inl wa)), (d1, .inl ((cA 0), 10, .inl dn)), (h0, .inr (5, [.ref tw, .int ln, .int fl, .ref ps, .ref wk, .ref mA, .ref sA])), (mA, .inr (0, [.int ns, .int npos, .int ncc, .ref m1, .ref m2, .ref m3, .ref m4, .ref m5, .ref m6, .ref m7])), (wk, .inr (4, [.int wat, .int wen, .int wfe, .ref d1]))] H := hP
      have hD : va_D A [(m2, .inl ((cA 0), 200, .inl wy)), (m3, .inl ((cA 0), 200, .inl wa)), (d1, .inl ((cA 0), 10, .inl dn)), (h0, .inr (5, [.ref tw, .int ln, .int fl, .ref ps, .ref wk, .ref mA, .ref sA])), (mA, .inr (0, [.int ns, .int npos, .int ncc, .ref m1, .ref m2, .ref m3, .ref m4, .ref m5, .ref m6, .ref m7])), (wk, .inr (4, [.int wat, .int wen, .int wfe, .ref d1]))] := hD
      refine lv_aload_n hx hb d_EF_feed_8 rfl (lv_at hl 0 rfl) ?_
      refine va_get (D := (dC, dI)) (ci := 5) (v := .ref mA) (C := RX5) (T := TX5) (N := 7) hx hb hts (fun w h => List.mem_cons_of_mem _ (in_X5 w h)) hown hK hP 3 rfl rfl 5 (by decide) (hts _ (List.mem_cons_of_mem _ k_246)) (fun _ h9 => h9) rfl d_EF_feed_9 ?_
      refine lv_aload_n hx hb d_EF_feed_12 rfl (lv_at hl 0 rfl) ?_
      refine va_get (D := (dC, dI)) (ci := 5) (v := .ref wk) (C := RX5) (T := TX5) (N := 7) hx hb hts (fun w h => List.mem_cons_of_mem _ (in_X5 w h)) hown hK hP 3 rfl rfl 4 (by decide) (hts _ (List.mem_cons_of_mem _ k_245)) (fun _ h9 => h9) rfl d_EF_feed_13 ?_
      refine va_getN (D := (dC, dI)) (ci := 4) (v := .int wat) (C := RX4) (T := TX4) (N := 4) hx hb hts (fun w h => List.mem_cons_of_mem _ (in_X4 w h)) hown hK hP 5 rfl rfl 0 (by decide) (va_Nw.use rfl (hN _ nl_13)) (fun _ h9 => h9) rfl d_EF_feed_16 ?_
      refine lv_iload_n hx hb d_EF_feed_19 rfl (lv_at hl 1 rfl) ?_
      obtain ⟨v_3, hv_3, hf⟩ := hf
      have hPc := hP.sub (ws' := [(mA, .inr (0, [.int ns, .int npos, .int ncc, .ref m1, .ref m2, .ref m3, .ref m4, .ref m5, .ref m6, .ref m7])), (m2, .inl ((cA 0), 200, .inl wy))]) [4, 0] rfl
      have hDc := hD.sub (ws' := [(mA, .inr (0, [.int ns, .int npos, .int ncc, .ref m1, .ref m2, .ref m3, .ref m4, .ref m5, .ref m6, .ref m7])), (m2, .inl ((cA 0), 200, .inl wy))]) [4, 0] (by decide) rfl
      have hFc := va_free (wc := [(mA, .inr (0, [.int ns, .int npos, .int ncc, .ref m1, .ref m2, .ref m3, .ref m4, .ref m5, .ref m6, .ref m7])), (m2, .inl ((cA 0), 200, .inl wy))]) hD hS hA [4, 0] rfl
      refine va_calli (va_runV (As := [.int wat, .int p1]) (rest := []) ⟨hx, hb, hml, hown, hts⟩ (c_Mach_target l dC dI cA mA m2 m1 m3 m4 m5 m6 m7 H.size wat p1 ns npos ncc wy v_3 hv_3) (cwV 2 hts (gV9 k_862 k_808 k_809 k_54 k_810) rfl rfl rfl hv_Mach_target ⟨Nat.le_of_ble_eq_true rfl, Nat.le_of_ble_eq_true rfl⟩) ⟨fun a U g mk q => by obtain ⟨q0, q1, qP, qK, qN, qD⟩ := q; exact ⟨q0, q1, qP, va_K.moved (u := U) (U := U.calling g mk a) (Vm.Alike.refl U.vm) qK, nW_same (u := U) (U := U.calling g mk a) rfl qN, qD⟩, va_recv hK hPc (ci := 0) (q0 := 0) rfl rfl, fun U hU hW => ⟨rfl, congrArg _ hU, P_cg hU.symm hPc, va_K.moved hW.alike hK, nW_warm hW hN, hDc.weaken (fun _ _ _ _ => trivial)⟩⟩ rfl rfl hl.1 rfl (lv_room (Nat.le_of_ble_eq_true rfl)) d_EF_feed_20 ⟨by decide, by decide⟩) hS (fun q _ h => hFc q h) hFc (fun r u t H locs ht hvm hw hB hz1 hk1 hS => ?_)
      obtain ⟨rfl, rfl⟩ : r = v_3.1 ∧ u = v_3.2 := ⟨(congrArg Prod.fst hw).symm, (congrArg Prod.snd hw).symm⟩
      obtain ⟨hP1, hK1, hD1⟩ := hB
      replace hP1 := P_cg ht hP1
      obtain ⟨hP, hD⟩ := va_join (wc := [(mA, .inr (0, [.int ns, .int npos, .int ncc, .ref m1, .ref m2, .ref m3, .ref m4, .ref m5, .ref m6, .ref m7])), (m2, .inl ((cA 0), 200, .inl wy))]) (wr := [(m3, .inl ((cA 0), 200, .inl wa)), (d1, .inl ((cA 0), 10, .inl dn)), (h0, .inr (5, [.ref tw, .int ln, .int fl, .ref ps, .ref wk, .ref mA, .ref sA])), (wk, .inr (4, [.int wat, .int wen, .int wfe, .ref d1]))]) (w1 := [(mA, .inr (0, [.int ns, .int npos, .int ncc, .ref m1, .ref m2, .ref m3, .ref m4, .ref m5, .ref m6, .ref m7])), (m2, .inl ((cA 0), 200, .inl wy))]) hP hD [4, 0] [1, 2, 3, 5] rfl rfl (by decide) (by decide) hk1 hFc hP1 hD1
      have hP : va_P (dC, dI) clA [(m3, .inl ((cA 0), 200, .inl wa)), (d1, .inl ((cA 0), 10, .inl dn)), (h0, .inr (5, [.ref tw, .int ln, .int fl, .ref ps, .ref wk, .ref mA, .ref sA])), (wk, .inr (4, [.int wat, .int wen, .int wfe, .ref d1])), (mA, .inr (0, [.int ns, .int npos, .int ncc, .ref m1, .ref m2, .ref m3, .ref m4, .ref m5, .ref m6, .ref m7])), (m2, .inl ((cA 0), 200, .inl wy))] H := hP
      have hD : va_D A [(m3, .inl ((cA 0), 200, .inl wa)), (d1, .inl ((cA 0), 10, .inl dn)), (h0, .inr (5, [.ref tw, .int ln, .int fl, .ref ps, .ref wk, .ref mA, .ref sA])), (wk, .inr (4, [.int wat, .int wen, .int wfe, .ref d1])), (mA, .inr (0, [.int ns, .int npos, .int ncc, .ref m1, .ref m2, .ref m3, .ref m4, .ref m5, .ref m6, .ref m7])), (m2, .inl ((cA 0), 200, .inl wy))] := hD
      refine lv_istore_n (lv' := [(2, .int v_3.1), (0, .ref h0), (1, .int p1)]) hx hb d_EF_feed_23 rfl hl (by decide) rfl (fun ls hl => ?_)
      refine lv_iload_n hx hb d_EF_feed_24 rfl (lv_at hl 0 rfl) ?_
      refine lv_iconst (v := -1) hx hb d_EF_feed_25 (by decide) ?_
      refine lv_icmp_ne (tgt := 37) hx hb d_EF_feed_26 (by decide) (fun c_4 => ?_) (fun c_4 => ?_)
      · replace hf := hf.1 c_4
        refine lv_aload_n hx hb d_EF_feed_37 rfl (lv_at hl 1 rfl) ?_
        refine va_get (D := (dC, dI)) (ci := 5) (v := .ref mA) (C := RX5) (T := TX5) (N := 7) hx hb hts (fun w h => List.mem_cons_of_mem _ (in_X5 w h)) hown hK hP 2 rfl rfl 5 (by decide) (hts _ (List.mem_cons_of_mem _ k_246)) (fun _ h9 => h9) rfl d_EF_feed_38 ?_
        refine lv_aload_n hx hb d_EF_feed_41 rfl (lv_at hl 1 rfl) ?_
        refine va_get (D := (dC, dI)) (ci := 5) (v := .ref wk) (C := RX5) (T := TX5) (N := 7) hx hb hts (fun w h => List.mem_cons_of_mem _ (in_X5 w h)) hown hK hP 2 rfl rfl 4 (by decide) (hts _ (List.mem_cons_of_mem _ k_245)) (fun _ h9 => h9) rfl d_EF_feed_42 ?_
        refine va_getN (D := (dC, dI)) (ci := 4) (v := .int wat) (C := RX4) (T := TX4) (N := 4) hx hb hts (fun w h => List.mem_cons_of_mem _ (in_X4 w h)) hown hK hP 3 rfl rfl 0 (by decide) (va_Nw.use rfl (hN _ nl_13)) (fun _ h9 => h9) rfl d_EF_feed_45 ?_
        refine lv_iload_n hx hb d_EF_feed_48 rfl (lv_at hl 2 rfl) ?_
        obtain ⟨v_5, hv_5, hf⟩ := hf
        have hPc := hP.sub (ws' := [(mA, .inr (0, [.int ns, .int npos, .int ncc, .ref m1, .ref m2, .ref m3, .ref m4, .ref m5, .ref m6, .ref m7])), (m3, .inl ((cA 0), 200, .inl wa))]) [4, 0] rfl
        have hDc := hD.sub (ws' := [(mA, .inr (0, [.int ns, .int npos, .int ncc, .ref m1, .ref m2, .ref m3, .ref m4, .ref m5, .ref m6, .ref m7])), (m3, .inl ((cA 0), 200, .inl wa))]) [4, 0] (by decide) rfl
        have hFc := va_free (wc := [(mA, .inr (0, [.int ns, .int npos, .int ncc, .ref m1, .ref m2, .ref m3, .ref m4, .ref m5, .ref m6, .ref m7])), (m3, .inl ((cA 0), 200, .inl wa))]) hD hS hA [4, 0] rfl
        refine va_calli (va_runV (As := [.int wat, .int p1]) (rest := []) ⟨hx, hb, hml, hown, hts⟩ (c_Mach_actionsOnWay l dC dI cA mA m3 m1 m2 m4 m5 m6 m7 H.size wat p1 ns npos ncc wa v_5 hv_5) (cwV 2 hts (gV9 k_870 k_800 k_801 k_54 k_802) rfl rfl rfl hv_Mach_actionsOnWay ⟨Nat.le_of_ble_eq_true rfl, Nat.le_of_ble_eq_true rfl⟩) ⟨fun a U g mk q => by obtain ⟨q0, q1, qP, qK, qN, qD⟩ := q; exact ⟨q0, q1, qP, va_K.moved (u := U) (U := U.calling g mk a) (Vm.Alike.refl U.vm) qK, nW_same (u := U) (U := U.calling g mk a) rfl qN, qD⟩, va_recv hK hPc (ci := 0) (q0 := 0) rfl rfl, fun U hU hW => ⟨rfl, congrArg _ hU, P_cg hU.symm hPc, va_K.moved hW.alike hK, nW_warm hW hN, hDc.weaken (fun _ _ _ _ => trivial)⟩⟩ rfl rfl hl.1 rfl (lv_room (Nat.le_of_ble_eq_true rfl)) d_EF_feed_49 ⟨by decide, by decide⟩) hS (fun q _ h => hFc q h) hFc (fun r u t H locs ht hvm hw hB hz1 hk1 hS => ?_)
        obtain ⟨rfl, rfl⟩ : r = v_5.1 ∧ u = v_5.2 := ⟨(congrArg Prod.fst hw).symm, (congrArg Prod.snd hw).symm⟩
        obtain ⟨hP1, hK1, hD1⟩ := hB
        replace hP1 := P_cg ht hP1
        obtain ⟨hP, hD⟩ := va_join (wc := [(mA, .inr (0, [.int ns, .int npos, .int ncc, .ref m1, .ref m2, .ref m3, .ref m4, .ref m5, .ref m6, .ref m7])), (m3, .inl ((cA 0), 200, .inl wa))]) (wr := [(d1, .inl ((cA 0), 10, .inl dn)), (h0, .inr (5, [.ref tw, .int ln, .int fl, .ref ps, .ref wk, .ref mA, .ref sA])), (wk, .inr (4, [.int wat, .int wen, .int wfe, .ref d1])), (m2, .inl ((cA 0), 200, .inl wy))]) (w1 := [(mA, .inr (0, [.int ns, .int npos, .int ncc, .ref m1, .ref m2, .ref m3, .ref m4, .ref m5, .ref m6, .ref m7])), (m3, .inl ((cA 0), 200, .inl wa))]) hP hD [4, 0] [1, 2, 3, 5] rfl rfl (by decide) (by decide) hk1 hFc hP1 hD1
        have hP : va_P (dC, dI) clA [(d1, .inl ((cA 0), 10, .inl dn)), (h0, .inr (5, [.ref tw, .int ln, .int fl, .ref ps, .ref wk, .ref mA, .ref sA])), (wk, .inr (4, [.int wat, .int wen, .int wfe, .ref d1])), (m2, .inl ((cA 0), 200, .inl wy)), (mA, .inr (0, [.int ns, .int npos, .int ncc, .ref m1, .ref m2, .ref m3, .ref m4, .ref m5, .ref m6, .ref m7])), (m3, .inl ((cA 0), 200, .inl wa))] H := hP
        have hD : va_D A [(d1, .inl ((cA 0), 10, .inl dn)), (h0, .inr (5, [.ref tw, .int ln, .int fl, .ref ps, .ref wk, .ref mA, .ref sA])), (wk, .inr (4, [.int wat, .int wen, .int wfe, .ref d1])), (m2, .inl ((cA 0), 200, .inl wy)), (mA, .inr (0, [.int ns, .int npos, .int ncc, .ref m1, .ref m2, .ref m3, .ref m4, .ref m5, .ref m6, .ref m7])), (m3, .inl ((cA 0), 200, .inl wa))] := hD
        refine lv_istore_n (lv' := [(3, .int v_5.1), (2, .int v_3.1), (0, .ref h0), (1, .int p1)]) hx hb d_EF_feed_52 rfl hl (by decide) rfl (fun ls hl => ?_)
        refine lv_aload_n hx hb d_EF_feed_53 rfl (lv_at hl 2 rfl) ?_
        refine va_get (D := (dC, dI)) (ci := 5) (v := .ref wk) (C := RX5) (T := TX5) (N := 7) hx hb hts (fun w h => List.mem_cons_of_mem _ (in_X5 w h)) hown hK hP 1 rfl rfl 4 (by decide) (hts _ (List.mem_cons_of_mem _ k_245)) (fun _ h9 => h9) rfl d_EF_feed_54 ?_
        refine lv_iload_n hx hb d_EF_feed_57 rfl (lv_at hl 1 rfl) ?_
        refine lv_iload_n hx hb d_EF_feed_58 rfl (lv_at hl 0 rfl) ?_
        obtain ⟨v_6, hv_6, hf⟩ := hf
        have hPc := hP.sub (ws' := [(wk, .inr (4, [.int wat, .int wen, .int wfe, .ref d1])), (d1, .inl ((cA 0), 10, .inl dn))]) [2, 0] rfl
        have hDc := hD.sub (ws' := [(wk, .inr (4, [.int wat, .int wen, .int wfe, .ref d1])), (d1, .inl ((cA 0), 10, .inl dn))]) [2, 0] (by decide) rfl
        have hFc := va_free (wc := [(wk, .inr (4, [.int wat, .int wen, .int wfe, .ref d1])), (d1, .inl ((cA 0), 10, .inl dn))]) hD hS hA [2, 0] rfl
        refine va_callv (va_runV (As := [.int v_3.1, .int v_5.1]) (rest := []) ⟨hx, hb, hml, hown, hts⟩ (c_Walk_goOn l dC dI cA wk d1 H.size v_3.1 v_5.1 wen wat wfe dn v_6 hv_6) (cwV 2 hts (gV9 k_899 k_900 k_901 k_53 k_902) rfl rfl rfl hv_Walk_goOn ⟨Nat.le_of_ble_eq_true rfl, Nat.le_of_ble_eq_true rfl⟩) ⟨fun a U g mk q => by obtain ⟨q0, q1, qP, qK, qN, qD⟩ := q; exact ⟨q0, q1, qP, va_K.moved (u := U) (U := U.calling g mk a) (Vm.Alike.refl U.vm) qK, nW_same (u := U) (U := U.calling g mk a) rfl qN, qD⟩, va_recv hK hPc (ci := 4) (q0 := 0) rfl rfl, fun U hU hW => ⟨rfl, congrArg _ hU, P_cg hU.symm hPc, va_K.moved hW.alike hK, nW_warm hW hN, hDc.weaken (fun _ _ _ _ => trivial)⟩⟩ rfl rfl hl.1 rfl (lv_room (Nat.le_of_ble_eq_true rfl)) d_EF_feed_59 ⟨by decide, by decide⟩) hS (fun q _ h => hFc q h) hFc (fun u t H locs ht hvm hw hB hz1 hk1 hS => ?_)
        subst hw
        obtain ⟨hP1, hK1, hD1⟩ := hB
        replace hP1 := P_cg ht hP1
        obtain ⟨hP, hD⟩ := va_join (wc := [(wk, .inr (4, [.int wat, .int wen, .int wfe, .ref d1])), (d1, .inl ((cA 0), 10, .inl dn))]) (wr := [(h0, .inr (5, [.ref tw, .int ln, .int fl, .ref ps, .ref wk, .ref mA, .ref sA])), (m2, .inl ((cA 0), 200, .inl wy)), (mA, .inr (0, [.int ns, .int npos, .int ncc, .ref m1, .ref m2, .ref m3, .ref m4, .ref m5, .ref m6, .ref m7])), (m3, .inl ((cA 0), 200, .inl wa))]) (w1 := [(wk, .inr (4, [.int v_6.1, .int wen, .int v_6.2.1, .ref d1])), (d1, .inl ((cA 0), 10, .inl v_6.2.2))]) hP hD [2, 0] [1, 3, 4, 5] rfl rfl (by decide) (by decide) hk1 hFc hP1 hD1
        have hP : va_P (dC, dI) clA [(h0, .inr (5, [.ref tw, .int ln, .int fl, .ref ps, .ref wk, .ref mA, .ref sA])), (m2, .inl ((cA 0), 200, .inl wy)), (mA, .inr (0, [.int ns, .int npos, .int ncc, .ref m1, .ref m2, .ref m3, .ref m4, .ref m5, .ref m6, .ref m7])), (m3, .inl ((cA 0), 200, .inl wa)), (wk, .inr (4, [.int v_6.1, .int wen, .int v_6.2.1, .ref d1])), (d1, .inl ((cA 0), 10, .inl v_6.2.2))] H := hP
        have hD : va_D A [(h0, .inr (5, [.ref tw, .int ln, .int fl, .ref ps, .ref wk, .ref mA, .ref sA])), (m2, .inl ((cA 0), 200, .inl wy)), (mA, .inr (0, [.int ns, .int npos, .int ncc, .ref m1, .ref m2, .ref m3, .ref m4, .ref m5, .ref m6, .ref m7])), (m3, .inl ((cA 0), 200, .inl wa)), (wk, .inr (4, [.int v_6.1, .int wen, .int v_6.2.1, .ref d1])), (d1, .inl ((cA 0), 10, .inl v_6.2.2))] := hD
        refine lv_iload_n hx hb d_EF_feed_62 rfl (lv_at hl 0 rfl) ?_
        have hP9 := hP.sub (ws' := [(h0, .inr (5, [.ref tw, .int ln, .int fl, .ref ps, .ref wk, .ref mA, .ref sA])), (mA, .inr (0, [.int ns, .int npos, .int ncc, .ref m1, .ref m2, .ref m3, .ref m4, .ref m5, .ref m6, .ref m7])), (m2, .inl ((cA 0), 200, .inl wy)), (m3, .inl ((cA 0), 200, .inl wa)), (wk, .inr (4, [.int v_6.1, .int wen, .int v_6.2.1, .ref d1])), (d1, .inl ((cA 0), 10, .inl v_6.2.2))]) [0, 2, 1, 3, 4, 5] rfl
        have hD9 := hD.sub (ws' := [(h0, .inr (5, [.ref tw, .int ln, .int fl, .ref ps, .ref wk, .ref mA, .ref sA])), (mA, .inr (0, [.int ns, .int npos, .int ncc, .ref m1, .ref m2, .ref m3, .ref m4, .ref m5, .ref m6, .ref m7])), (m2, .inl ((cA 0), 200, .inl wy)), (m3, .inl ((cA 0), 200, .inl wa)), (wk, .inr (4, [.int v_6.1, .int wen, .int v_6.2.1, .ref d1])), (d1, .inl ((cA 0), 10, .inl v_6.2.2))]) [0, 2, 1, 3, 4, 5] (by decide) rfl
        refine W_end hQz ?_
        refine W.widen (k := 4) (n := 24) (by decide) (by decide) ?_
        refine vx_ret ?_
        exact W.iret (v := v_5.1) hx hb hr (fun t ht hW => ⟨⟨v_5.1, (v_6.1, v_6.2.1, v_6.2.2), rfl, hf, P_cg ht.symm hP9, va_K.moved hW.alike hK, hD9⟩, hS.F ht⟩) hS.2.2 d_EF_feed_63 hlocks
      · replace hf := hf.2 c_4
        have hP9 := hP.sub (ws' := [(h0, .inr (5, [.ref tw, .int ln, .int fl, .ref ps, .ref wk, .ref mA, .ref sA])), (mA, .inr (0, [.int ns, .int npos, .int ncc, .ref m1, .ref m2, .ref m3, .ref m4, .ref m5, .ref m6, .ref m7])), (m2, .inl ((cA 0), 200, .inl wy)), (m3, .inl ((cA 0), 200, .inl wa)), (wk, .inr (4, [.int wat, .int wen, .int wfe, .ref d1])), (d1, .inl ((cA 0), 10, .inl dn))]) [2, 4, 5, 0, 3, 1] rfl
        have hD9 := hD.sub (ws' := [(h0, .inr (5, [.ref tw, .int ln, .int fl, .ref ps, .ref wk, .ref mA, .ref sA])), (mA, .inr (0, [.int ns, .int npos, .int ncc, .ref m1, .ref m2, .ref m3, .ref m4, .ref m5, .ref m6, .ref m7])), (m2, .inl ((cA 0), 200, .inl wy)), (m3, .inl ((cA 0), 200, .inl wa)), (wk, .inr (4, [.int wat, .int wen, .int wfe, .ref d1])), (d1, .inl ((cA 0), 10, .inl dn))]) [2, 4, 5, 0, 3, 1] (by decide) rfl
        refine W_end hQz ?_
        exact vx_throw0 (own := RX5) (cls := "java/lang/UnsupportedOperationException") (names := ["java/lang/RuntimeException", "java/lang/Exception"]) hx hb hl9 hown (by decide +kernel) (by decide +kernel) (hts _ (List.mem_cons_of_mem _ k_812)) (hts _ (List.mem_cons_of_mem _ k_72)) (hat_UnsupportedOperation hts hX9) (by decide +kernel) hX9.2.2.1 hX9.2.2.2 hS (hl.1.trans hml.symm) d_EF_feed_29 d_EF_feed_32 d_EF_feed_33 d_EF_feed_36 (fun x h9 => (ht9 x h9).elim) (Nat.le_of_ble_eq_true rfl) (Nat.le_of_ble_eq_true rfl) (by decide) (by decide) hlocks (fun t ha hsz hk => ⟨(wat, wfe, dn), trivial, ⟨hf, hP9.kept (fun k q hq => hk q.1 (hP9 k q hq).lt), va_K.moved ha hK, hD9⟩, Nat.le_trans hS.1 hsz, fun q h1 h2 => (hk q (Nat.lt_of_lt_of_le h1 hS.1)).trans (hS.2.1 q h1 h2)⟩) hS.2.2 (by decide) (by decide)
def R_EF_end (ln : Int32) (fl : Int32) (ns : Int32) (npos : Int32) (ncc : Int32) (wat : Int32) (wfe : Int32) (fi : Nat → Int32) (ea : Nat → Int32) (wen : Int32) (dn : Nat → Int32) (out : (Int32 × Int32 × (Nat → Int32)) ⊕ (String × Int32 × (Nat → Int32))) : Prop := ∃ v_1, R_EF_checkGoing ln fl ns npos ncc wat wen wfe v_1 ∧ ((∀ u, v_1 = .inl u → (vp_in wat 50 ∧ (((¬ (fi wat.toNatClampNeg) = 0) → (vp_in wat 50 ∧ (∃ v_5, R_Walk_finish (ea wat.toNatClampNeg) wat wfe wen dn v_5 ∧ (out = .inl ((ea wat.toNatClampNeg), (v_5.1, v_5.2)))))) ∧ (((fi wat.toNatClampNeg) = 0) → (out = .inr ("java/lang/UnsupportedOperationException", (wen, dn))))))) ∧ (∀ E u, v_1 = .inr (E, u) → out = .inr (E, (wen, dn))))
set_option maxHeartbeats 4000000 in
set_option maxRecDepth 100000 in
theorem c_EF_end (l : Launch) (hl9 : l.stackTraces = false) (dC : Nat → ClassId) (dI : Nat → Nat → Nat) (cA : Nat → ClassId) (h0 mA m4 m5 wk d1 tw ps sA m1 m2 m3 m6 m7 : Nat) (sz : Nat) (ln : Int32) (fl : Int32) (ns : Int32) (npos : Int32) (ncc : Int32) (wat : Int32) (wfe : Int32) (fi : Nat → Int32) (ea : Nat → Int32) (wen : Int32) (dn : Nat → Int32) (out : (Int32 × Int32 × (Nat → Int32)) ⊕ (String × Int32 × (Nat → Int32))) (hR : R_EF_end ln fl ns npos ncc wat wfe fi ea wen dn out) : vx_Met l y_EF_end ws_EF_end ({ frames := 8, cells := 3, slots := 18, locals := 140 }) (va_Pc [.ref h0] (fun U => U.heap.size = sz ∧ va_P (dC, dI) clA [(h0, .inr (5, [.ref tw, .int ln, .int fl, .ref ps, .ref wk, .ref mA, .ref sA])), (mA, .inr (0, [.int ns, .int npos, .int ncc, .ref m1, .ref m2, .ref m3, .ref m4, .ref m5, .ref m6, .ref m7])), (m4, .inl ((cA 1), 50, .inl fi)), (m5, .inl ((cA 0), 50, .inl ea)), (wk, .inr (4, [.int wat, .int wen, .int wfe, .ref d1])), (d1, .inl ((cA 0), 10, .inl dn))] U.heap ∧ va_K (dC, dI) clA (tysA cA) U ∧ nW U ∧ xW (va_A [(h0, .inr (5, [.ref tw, .int ln, .int fl, .ref ps, .ref wk, .ref mA, .ref sA])), (mA, .inr (0, [.int ns, .int npos, .int ncc, .ref m1, .ref m2, .ref m3, .ref m4, .ref m5, .ref m6, .ref m7])), (m4, .inl ((cA 1), 50, .inl fi)), (m5, .inl ((cA 0), 50, .inl ea)), (wk, .inr (4, [.int wat, .int wen, .int wfe, .ref d1])), (d1, .inl ((cA 0), 10, .inl dn))] sz) U ∧ va_D (fun _ => True) [(h0, .inr (5, [.ref tw, .int ln, .int fl, .ref ps, .ref wk, .ref mA, .ref sA])), (mA, .inr (0, [.int ns, .int npos, .int ncc, .ref m1, .ref m2, .ref m3, .ref m4, .ref m5, .ref m6, .ref m7])), (m4, .inl ((cA 1), 50, .inl fi)), (m5, .inl ((cA 0), 50, .inl ea)), (wk, .inr (4, [.int wat, .int wen, .int wfe, .ref d1])), (d1, .inl ((cA 0), 10, .inl dn))])) (va_Qi (fun (r : Int32) (u : Int32 × (Nat → Int32)) => out = .inl (r, u)) (fun (u : Int32 × (Nat → Int32)) (t : State) => va_P (dC, dI) clA [(h0, .inr (5, [.ref tw, .int ln, .int fl, .ref ps, .ref wk, .ref mA, .ref sA])), (mA, .inr (0, [.int ns, .int npos, .int ncc, .ref m1, .ref m2, .ref m3, .ref m4, .ref m5, .ref m6, .ref m7])), (m4, .inl ((cA 1), 50, .inl fi)), (m5, .inl ((cA 0), 50, .inl ea)), (wk, .inr (4, [.int wat, .int u.1, .int wfe, .ref d1])), (d1, .inl ((cA 0), 10, .inl u.2))] t.heap ∧ va_K (dC, dI) clA (tysA cA) t ∧ va_D (va_A [(h0, .inr (5, [.ref tw, .int ln, .int fl, .ref ps, .ref wk, .ref mA, .ref sA])), (mA, .inr (0, [.int ns, .int npos, .int ncc, .ref m1, .ref m2, .ref m3, .ref m4, .ref m5, .ref m6, .ref m7])), (m4, .inl ((cA 1), 50, .inl fi)), (m5, .inl ((cA 0), 50, .inl ea)), (wk, .inr (4, [.int wat, .int wen, .int wfe, .ref d1])), (d1, .inl ((cA 0), 10, .inl dn))] sz) [(h0, .inr (5, [.ref tw, .int ln, .int fl, .ref ps, .ref wk, .ref mA, .ref sA])), (mA, .inr (0, [.int ns, .int npos, .int ncc, .ref m1, .ref m2, .ref m3, .ref m4, .ref m5, .ref m6, .ref m7])), (m4, .inl ((cA 1), 50, .inl fi)), (m5, .inl ((cA 0), 50, .inl ea)), (wk, .inr (4, [.int wat, .int u.1, .int wfe, .ref d1])), (d1, .inl ((cA 0), 10, .inl u.2))]) (va_A [(h0, .inr (5, [.ref tw, .int ln, .int fl, .ref ps, .ref wk, .ref mA, .ref sA])), (mA, .inr (0, [.int ns, .int npos, .int ncc, .ref m1, .ref m2, .ref m3, .ref m4, .ref m5, .ref m6, .ref m7])), (m4, .inl ((cA 1), 50, .inl fi)), (m5, .inl ((cA 0), 50, .inl ea)), (wk, .inr (4, [.int wat, .int wen, .int wfe, .ref d1])), (d1, .inl ((cA 0), 10, .inl dn))] sz)) (vx_X (fun _ : Int32 × (Nat → Int32) => True) (fun (E : String) (u : Int32 × (Nat → Int32)) (t : State) => out = .inr (E, u) ∧ va_P (dC, dI) clA [(h0, .inr (5, [.ref tw, .int ln, .int fl, .ref ps, .ref wk, .ref mA, .ref sA])), (mA, .inr (0, [.int ns, .int npos, .int ncc, .ref m1, .ref m2, .ref m3, .ref m4, .ref m5, .ref m6, .ref m7])), (m4, .inl ((cA 1), 50, .inl fi)), (m5, .inl ((cA 0), 50, .inl ea)), (wk, .inr (4, [.int wat, .int u.1, .int wfe, .ref d1])), (d1, .inl ((cA 0), 10, .inl u.2))] t.heap ∧ va_K (dC, dI) clA (tysA cA) t ∧ va_D (va_A [(h0, .inr (5, [.ref tw, .int ln, .int fl, .ref ps, .ref wk, .ref mA, .ref sA])), (mA, .inr (0, [.int ns, .int npos, .int ncc, .ref m1, .ref m2, .ref m3, .ref m4, .ref m5, .ref m6, .ref m7])), (m4, .inl ((cA 1), 50, .inl fi)), (m5, .inl ((cA 0), 50, .inl ea)), (wk, .inr (4, [.int wat, .int wen, .int wfe, .ref d1])), (d1, .inl ((cA 0), 10, .inl dn))] sz) [(h0, .inr (5, [.ref tw, .int ln, .int fl, .ref ps, .ref wk, .ref mA, .ref sA])), (mA, .inr (0, [.int ns, .int npos, .int ncc, .ref m1, .ref m2, .ref m3, .ref m4, .ref m5, .ref m6, .ref m7])), (m4, .inl ((cA 1), 50, .inl fi)), (m5, .inl ((cA 0), 50, .inl ea)), (wk, .inr (4, [.int wat, .int u.1, .int wfe, .ref d1])), (d1, .inl ((cA 0), 10, .inl u.2))]) (va_A [(h0, .inr (5, [.ref tw, .int ln, .int fl, .ref ps, .ref wk, .ref mA, .ref sA])), (mA, .inr (0, [.int ns, .int npos, .int ncc, .ref m1, .ref m2, .ref m3, .ref m4, .ref m5, .ref m6, .ref m7])), (m4, .inl ((cA 1), 50, .inl fi)), (m5, .inl ((cA 0), 50, .inl ea)), (wk, .inr (4, [.int wat, .int wen, .int wfe, .ref d1])), (d1, .inl ((cA 0), 10, .inl dn))] sz)) 3 18 (va_A [(h0, .inr (5, [.ref tw, .int ln, .int fl, .ref ps, .ref wk, .ref mA, .ref sA])), (mA, .inr (0, [.int ns, .int npos, .int ncc, .ref m1, .ref m2, .ref m3, .ref m4, .ref m5, .ref m6, .ref m7])), (m4, .inl ((cA 1), 50, .inl fi)), (m5, .inl ((cA 0), 50, .inl ea)), (wk, .inr (4, [.int wat, .int wen, .int wfe, .ref d1])), (d1, .inl ((cA 0), 10, .inl dn))] sz) := by
  refine vx_ofW (cc := b_EF_end) (maxL := 2) (ret := (some .int)) (by decide) rfl ?_
  intro p e s m args below meth c s₁ B hml ht9 hv
  obtain ⟨rfl, hsz, hP, hK, hN, hX9, hD0⟩ := hv
  have hx := B.exec
  have hb := B.bytes
  have hr := B.returns
  have hts := atoms_spec (ws := ws_EF_end) B.pre
  have hown : s.vm.findClass RX5 = some m.cls := findClass_of_methodNamed B.named
  have hlocks := B.notSynchronized
  subst hsz
  have hD := hD0.self (sz := s.heap.size)
  generalize hAe : va_A [(h0, .inr (5, [.ref tw, .int ln, .int fl, .ref ps, .ref wk, .ref mA, .ref sA])), (mA, .inr (0, [.int ns, .int npos, .int ncc, .ref m1, .ref m2, .ref m3, .ref m4, .ref m5, .ref m6, .ref m7])), (m4, .inl ((cA 1), 50, .inl fi)), (m5, .inl ((cA 0), 50, .inl ea)), (wk, .inr (4, [.int wat, .int wen, .int wfe, .ref d1])), (d1, .inl ((cA 0), 10, .inl dn))] s.heap.size = A at hD hX9 ⊢
  have hA : ∀ q : Nat, s.heap.size ≤ q → A q := fun q h => by rw [← hAe]; exact Or.inr h
  have hS : va_S A s.heap s.heap [] := va_S.rf
  have hP : va_P (dC, dI) clA [(h0, .inr (5, [.ref tw, .int ln, .int fl, .ref ps, .ref wk, .ref mA, .ref sA])), (mA, .inr (0, [.int ns, .int npos, .int ncc, .ref m1, .ref m2, .ref m3, .ref m4, .ref m5, .ref m6, .ref m7])), (m4, .inl ((cA 1), 50, .inl fi)), (m5, .inl ((cA 0), 50, .inl ea)), (wk, .inr (4, [.int wat, .int wen, .int wfe, .ref d1])), (d1, .inl ((cA 0), 10, .inl dn))] s.heap := hP
  have hl := lv_entry ([.ref h0]) (n := 2) (Nat.le_of_ble_eq_true rfl)
  rw [lg_entry_eq]
  generalize (lg_sl ([.ref h0]) ++ List.replicate (2 - (lg_sl ([.ref h0])).length) Slot.unset).toArray = ls at hl ⊢
  have hl : lv_has ls 2 [(0, .ref h0)] := hl
  refine W_gen (fun Qz hQz => ?_)
  have hf := hR
  unfold R_EF_end at hf
  refine lv_aload_n hx hb d_EF_end_0 rfl (lv_at hl 0 rfl) ?_
  obtain ⟨v_1, hv_1, hf⟩ := hf
  have hPc := hP.sub (ws' := [(h0, .inr (5, [.ref tw, .int ln, .int fl, .ref ps, .ref wk, .ref mA, .ref sA])), (mA, .inr (0, [.int ns, .int npos, .int ncc, .ref m1, .ref m2, .ref m3, .ref m4, .ref m5, .ref m6, .ref m7])), (wk, .inr (4, [.int wat, .int wen, .int wfe, .ref d1]))]) [0, 1, 4] rfl
  have hDc := hD.sub (ws' := [(h0, .inr (5, [.ref tw, .int ln, .int fl, .ref ps, .ref wk, .ref mA, .ref sA])), (mA, .inr (0, [.int ns, .int npos, .int ncc, .ref m1, .ref m2, .ref m3, .ref m4, .ref m5, .ref m6, .ref m7])), (wk, .inr (4, [.int wat, .int wen, .int wfe, .ref d1]))]) [0, 1, 4] (by decide) rfl
  have hFc := va_free (wc := [(h0, .inr (5, [.ref tw, .int ln, .int fl, .ref ps, .ref wk, .ref mA, .ref sA])), (mA, .inr (0, [.int ns, .int npos, .int ncc, .ref m1, .ref m2, .ref m3, .ref m4, .ref m5, .ref m6, .ref m7])), (wk, .inr (4, [.int wat, .int wen, .int wfe, .ref d1]))]) hD hS hA [0, 1, 4] rfl
  refine vx_callv (vx_runV (As := []) (rest := []) ⟨hx, hb, hml, hown, hts⟩ (c_EF_checkGoing l hl9 dC dI cA h0 mA wk tw ps sA m1 m2 m3 m4 m5 m6 m7 d1 s.heap.size ln fl ns npos ncc wat wen wfe v_1 hv_1) (cwV 0 hts (gV9 k_891 k_893 k_24 k_49 k_894) rfl rfl rfl hv_EF_checkGoing ⟨Nat.le_of_ble_eq_true rfl, Nat.le_of_ble_eq_true rfl⟩) ⟨fun a U g mk q => by obtain ⟨q0, q1, qP, qK, qN, qX, qD⟩ := q; exact ⟨q0, q1, qP, va_K.moved (u := U) (U := U.calling g mk a) (Vm.Alike.refl U.vm) qK, nW_same (u := U) (U := U.calling g mk a) rfl qN, xW_same (u := U) (U := U.calling g mk a) (Vm.Alike.refl U.vm) rfl rfl qX, qD⟩, va_recv hK hPc (ci := 5) (q0 := 0) rfl rfl, fun U hU hW => ⟨rfl, congrArg _ hU, P_cg hU.symm hPc, va_K.moved hW.alike hK, nW_warm hW hN, xW_at hX9 hS hFc hU hW, hDc.weaken (fun _ _ _ _ => trivial)⟩⟩ rfl rfl hl.1 rfl (lv_room (Nat.le_of_ble_eq_true rfl)) d_EF_end_1 ⟨by decide, by decide⟩) hS (fun q _ h => hFc q h) hFc (fun q _ h => hFc q h) (fun E ce q9 u t H locs ht hvm hpx hB hz1 hk1 hS hce hcv hcl => ?_) (fun u t H locs ht hvm hw hB hz1 hk1 hS => ?_)
  · obtain ⟨hw, hP1, hK1, hD1⟩ := hB
    replace hf := hf.2 E u hw
    replace hP1 := P_cg ht hP1
    obtain ⟨hP, hD⟩ := va_join (wc := [(h0, .inr (5, [.ref tw, .int ln, .int fl, .ref ps, .ref wk, .ref mA, .ref sA])), (mA, .inr (0, [.int ns, .int npos, .int ncc, .ref m1, .ref m2, .ref m3, .ref m4, .ref m5, .ref m6, .ref m7])), (wk, .inr (4, [.int wat, .int wen, .int wfe, .ref d1]))]) (wr := [(m4, .inl ((cA 1), 50, .inl fi)), (m5, .inl ((cA 0), 50, .inl ea)), (d1, .inl ((cA 0), 10, .inl dn))]) (w1 := [(h0, .inr (5, [.ref tw, .int ln, .int fl, .ref ps, .ref wk, .ref mA, .ref sA])), (mA, .inr (0, [.int ns, .int npos, .int ncc, .ref m1, .ref m2, .ref m3, .ref m4, .ref m5, .ref m6, .ref m7])), (wk, .inr (4, [.int wat, .int wen, .int wfe, .ref d1]))]) hP hD [0, 1, 4] [2, 3, 5] rfl rfl (by decide) (by decide) hk1 hFc hP1 hD1
    have hP9 := hP.sub (ws' := [(h0, .inr (5, [.ref tw, .int ln, .int fl, .ref ps, .ref wk, .ref mA, .ref sA])), (mA, .inr (0, [.int ns, .int npos, .int ncc, .ref m1, .ref m2, .ref m3, .ref m4, .ref m5, .ref m6, .ref m7])), (m4, .inl ((cA 1), 50, .inl fi)), (m5, .inl ((cA 0), 50, .inl ea)), (wk, .inr (4, [.int wat, .int wen, .int wfe, .ref d1])), (d1, .inl ((cA 0), 10, .inl dn))]) [3, 4, 0, 1, 5, 2] rfl
    have hD9 := hD.sub (ws' := [(h0, .inr (5, [.ref tw, .int ln, .int fl, .ref ps, .ref wk, .ref mA, .ref sA])), (mA, .inr (0, [.int ns, .int npos, .int ncc, .ref m1, .ref m2, .ref m3, .ref m4, .ref m5, .ref m6, .ref m7])), (m4, .inl ((cA 1), 50, .inl fi)), (m5, .inl ((cA 0), 50, .inl ea)), (wk, .inr (4, [.int wat, .int wen, .int wfe, .ref d1])), (d1, .inl ((cA 0), 10, .inl dn))]) [3, 4, 0, 1, 5, 2] (by decide) rfl
    refine X_end hQz ?_
    exact vx_out (fun x h9 => (ht9 x h9).elim) hlocks hce hcv hcl (fun t ht ha => ⟨(wen, dn), trivial, ⟨hf, P_cg ht.symm hP9, va_K.moved ha hK, hD9⟩, hS.F ht⟩) hS.2.2 (by decide) (by decide)
  · obtain ⟨hP1, hK1, hD1⟩ := hB
    replace hf := hf.1 u hw
    replace hP1 := P_cg ht hP1
    obtain ⟨hP, hD⟩ := va_join (wc := [(h0, .inr (5, [.ref tw, .int ln, .int fl, .ref ps, .ref wk, .ref mA, .ref sA])), (mA, .inr (0, [.int ns, .int npos, .int ncc, .ref m1, .ref m2, .ref m3, .ref m4, .ref m5, .ref m6, .ref m7])), (wk, .inr (4, [.int wat, .int wen, .int wfe, .ref d1]))]) (wr := [(m4, .inl ((cA 1), 50, .inl fi)), (m5, .inl ((cA 0), 50, .inl ea)), (d1, .inl ((cA 0), 10, .inl dn))]) (w1 := [(h0, .inr (5, [.ref tw, .int ln, .int fl, .ref ps, .ref wk, .ref mA, .ref sA])), (mA, .inr (0, [.int ns, .int npos, .int ncc, .ref m1, .ref m2, .ref m3, .ref m4, .ref m5, .ref m6, .ref m7])), (wk, .inr (4, [.int wat, .int wen, .int wfe, .ref d1]))]) hP hD [0, 1, 4] [2, 3, 5] rfl rfl (by decide) (by decide) hk1 hFc hP1 hD1
    have hP : va_P (dC, dI) clA [(m4, .inl ((cA 1), 50, .inl fi)), (m5, .inl ((cA 0), 50, .inl ea)), (d1, .inl ((cA 0), 10, .inl dn)), (h0, .inr (5, [.ref tw, .int ln, .int fl, .ref ps, .ref wk, .ref mA, .ref sA])), (mA, .inr (0, [.int ns, .int npos, .int ncc, .ref m1, .ref m2, .ref m3, .ref m4, .ref m5, .ref m6, .ref m7])), (wk, .inr (4, [.int wat, .int wen, .int wfe, .ref d1]))] H := hP
    have hD : va_D A [(m4, .inl ((cA 1), 50, .inl fi)), (m5, .inl ((cA 0), 50, .inl ea)), (d1, .inl ((cA 0), 10, .inl dn)), (h0, .inr (5, [.ref tw, .int ln, .int fl, .ref ps, .ref wk, .ref mA, .ref sA])), (mA, .inr (0, [.int ns, .int npos, .int ncc, .ref m1, .ref m2, .ref m3, .ref m4, .ref m5, .ref m6, .ref m7])), (wk, .inr (4, [.int wat, .int wen, .int wfe, .ref d1]))] := hD
    refine lv_aload_n hx hb d_EF_end_4 rfl (lv_at hl 0 rfl) ?_
    refine va_get (D := (dC, dI)) (ci := 5) (v := .ref mA) (C := RX5) (T := TX5) (N := 7) hx hb hts (fun w h => List.mem_cons_of_mem _ (in_X5 w h)) hown hK hP 3 rfl rfl 5 (by decide) (hts _ (List.mem_cons_of_mem _ k_246)) (fun _ h9 => h9) rfl d_EF_end_5 ?_
    refine va_getN (D := (dC, dI)) (ci := 0) (v := .ref m4) (C := RX0) (T := TX0) (N := 10) hx hb hts (fun w h => List.mem_cons_of_mem _ (in_X0 w h)) hown hK hP 4 rfl rfl 6 (by decide) (va_Nw.use rfl (hN _ nl_21)) (fun _ h9 => h9) rfl d_EF_end_8 ?_
    refine lv_aload_n hx hb d_EF_end_11 rfl (lv_at hl 0 rfl) ?_
    refine va_get (D := (dC, dI)) (ci := 5) (v := .ref wk) (C := RX5) (T := TX5) (N := 7) hx hb hts (fun w h => List.mem_cons_of_mem _ (in_X5 w h)) hown hK hP 3 rfl rfl 4 (by decide) (hts _ (List.mem_cons_of_mem _ k_245)) (fun _ h9 => h9) rfl d_EF_end_12 ?_
    refine va_getN (D := (dC, dI)) (ci := 4) (v := .int wat) (C := RX4) (T := TX4) (N := 4) hx hb hts (fun w h => List.mem_cons_of_mem _ (in_X4 w h)) hown hK hP 5 rfl rfl 0 (by decide) (va_Nw.use rfl (hN _ nl_13)) (fun _ h9 => h9) rfl d_EF_end_15 ?_
    obtain ⟨h_2, hf⟩ := hf
    refine va_zald hx hb hK hP 0 1 rfl rfl h_2 d_EF_end_18 ?_
    refine lv_if_ne (tgt := 30) hx hb d_EF_end_19 (by decide) (fun c_3 => ?_) (fun c_3 => ?_)
    · replace hf := hf.1 c_3
      refine lv_aload_n hx hb d_EF_end_30 rfl (lv_at hl 0 rfl) ?_
      refine va_get (D := (dC, dI)) (ci := 5) (v := .ref mA) (C := RX5) (T := TX5) (N := 7) hx hb hts (fun w h => List.mem_cons_of_mem _ (in_X5 w h)) hown hK hP 3 rfl rfl 5 (by decide) (hts _ (List.mem_cons_of_mem _ k_246)) (fun _ h9 => h9) rfl d_EF_end_31 ?_
      refine va_getN (D := (dC, dI)) (ci := 0) (v := .ref m5) (C := RX0) (T := TX0) (N := 10) hx hb hts (fun w h => List.mem_cons_of_mem _ (in_X0 w h)) hown hK hP 4 rfl rfl 7 (by decide) (va_Nw.use rfl (hN _ nl_22)) (fun _ h9 => h9) rfl d_EF_end_34 ?_
      refine lv_aload_n hx hb d_EF_end_37 rfl (lv_at hl 0 rfl) ?_
      refine va_get (D := (dC, dI)) (ci := 5) (v := .ref wk) (C := RX5) (T := TX5) (N := 7) hx hb hts (fun w h => List.mem_cons_of_mem _ (in_X5 w h)) hown hK hP 3 rfl rfl 4 (by decide) (hts _ (List.mem_cons_of_mem _ k_245)) (fun _ h9 => h9) rfl d_EF_end_38 ?_
      refine va_getN (D := (dC, dI)) (ci := 4) (v := .int wat) (C := RX4) (T := TX4) (N := 4) hx hb hts (fun w h => List.mem_cons_of_mem _ (in_X4 w h)) hown hK hP 5 rfl rfl 0 (by decide) (va_Nw.use rfl (hN _ nl_13)) (fun _ h9 => h9) rfl d_EF_end_41 ?_
      obtain ⟨h_4, hf⟩ := hf
      refine va_iald hx hb hK hP 1 0 rfl rfl h_4 d_EF_end_44 ?_
      refine lv_istore_n (lv' := [(1, .int (ea wat.toNatClampNeg)), (0, .ref h0)]) hx hb d_EF_end_45 rfl hl (by decide) rfl (fun ls hl => ?_)
      refine lv_aload_n hx hb d_EF_end_46 rfl (lv_at hl 1 rfl) ?_
      refine va_get (D := (dC, dI)) (ci := 5) (v := .ref wk) (C := RX5) (T := TX5) (N := 7) hx hb hts (fun w h => List.mem_cons_of_mem _ (in_X5 w h)) hown hK hP 3 rfl rfl 4 (by decide) (hts _ (List.mem_cons_of_mem _ k_245)) (fun _ h9 => h9) rfl d_EF_end_47 ?_
      refine lv_iload_n hx hb d_EF_end_50 rfl (lv_at hl 0 rfl) ?_
      obtain ⟨v_5, hv_5, hf⟩ := hf
      have hPc := hP.sub (ws' := [(wk, .inr (4, [.int wat, .int wen, .int wfe, .ref d1])), (d1, .inl ((cA 0), 10, .inl dn))]) [5, 2] rfl
      have hDc := hD.sub (ws' := [(wk, .inr (4, [.int wat, .int wen, .int wfe, .ref d1])), (d1, .inl ((cA 0), 10, .inl dn))]) [5, 2] (by decide) rfl
      have hFc := va_free (wc := [(wk, .inr (4, [.int wat, .int wen, .int wfe, .ref d1])), (d1, .inl ((cA 0), 10, .inl dn))]) hD hS hA [5, 2] rfl
      refine va_callv (va_runV (As := [.int (ea wat.toNatClampNeg)]) (rest := []) ⟨hx, hb, hml, hown, hts⟩ (c_Walk_finish l dC dI cA wk d1 H.size (ea wat.toNatClampNeg) wat wfe wen dn v_5 hv_5) (cwV 1 hts (gV9 k_914 k_915 k_916 k_53 k_917) rfl rfl rfl hv_Walk_finish ⟨Nat.le_of_ble_eq_true rfl, Nat.le_of_ble_eq_true rfl⟩) ⟨fun a U g mk q => by obtain ⟨q0, q1, qP, qK, qN, qD⟩ := q; exact ⟨q0, q1, qP, va_K.moved (u := U) (U := U.calling g mk a) (Vm.Alike.refl U.vm) qK, nW_same (u := U) (U := U.calling g mk a) rfl qN, qD⟩, va_recv hK hPc (ci := 4) (q0 := 0) rfl rfl, fun U hU hW => ⟨rfl, congrArg _ hU, P_cg hU.symm hPc, va_K.moved hW.alike hK, nW_warm hW hN, hDc.weaken (fun _ _ _ _ => trivial)⟩⟩ rfl rfl hl.1 rfl (lv_room (Nat.le_of_ble_eq_true rfl)) d_EF_end_51 ⟨by decide, by decide⟩) hS (fun q _ h => hFc q h) hFc (fun u t H locs ht hvm hw hB hz1 hk1 hS => ?_)
      subst hw
      obtain ⟨hP1, hK1, hD1⟩ := hB
      replace hP1 := P_cg ht hP1
      obtain ⟨hP, hD⟩ := va_join (wc := [(wk, .inr (4, [.int wat, .int wen, .int wfe, .ref d1])), (d1, .inl ((cA 0), 10, .inl dn))]) (wr := [(m4, .inl ((cA 1), 50, .inl fi)), (m5, .inl ((cA 0), 50, .inl ea)), (h0, .inr (5, [.ref tw, .int ln, .int fl, .ref ps, .ref wk, .ref mA, .ref sA])), (mA, .inr (0, [.int ns, .int npos, .int ncc, .ref m1, .ref m2, .ref m3, .ref m4, .ref m5, .ref m6, .ref m7]))]) (w1 := [(wk, .inr (4, [.int wat, .int v_5.1, .int wfe, .ref d1])), (d1, .inl ((cA 0), 10, .inl v_5.2))]) hP hD [5, 2] [0, 1, 3, 4] rfl rfl (by decide) (by decide) hk1 hFc hP1 hD1
      have hP : va_P (dC, dI) clA [(m4, .inl ((cA 1), 50, .inl fi)), (m5, .inl ((cA 0), 50, .inl ea)), (h0, .inr (5, [.ref tw, .int ln, .int fl, .ref ps, .ref wk, .ref mA, .ref sA])), (mA, .inr (0, [.int ns, .int npos, .int ncc, .ref m1, .ref m2, .ref m3, .ref m4, .ref m5, .ref m6, .ref m7])), (wk, .inr (4, [.int wat, .int v_5.1, .int wfe, .ref d1])), (d1, .inl ((cA 0), 10, .inl v_5.2))] H := hP
      have hD : va_D A [(m4, .inl ((cA 1), 50, .inl fi)), (m5, .inl ((cA 0), 50, .inl ea)), (h0, .inr (5, [.ref tw, .int ln, .int fl, .ref ps, .ref wk, .ref mA, .ref sA])), (mA, .inr (0, [.int ns, .int npos, .int ncc, .ref m1, .ref m2, .ref m3, .ref m4, .ref m5, .ref m6, .ref m7])), (wk, .inr (4, [.int wat, .int v_5.1, .int wfe, .ref d1])), (d1, .inl ((cA 0), 10, .inl v_5.2))] := hD
      refine lv_iload_n hx hb d_EF_end_54 rfl (lv_at hl 0 rfl) ?_
      have hP9 := hP.sub (ws' := [(h0, .inr (5, [.ref tw, .int ln, .int fl, .ref ps, .ref wk, .ref mA, .ref sA])), (mA, .inr (0, [.int ns, .int npos, .int ncc, .ref m1, .ref m2, .ref m3, .ref m4, .ref m5, .ref m6, .ref m7])), (m4, .inl ((cA 1), 50, .inl fi)), (m5, .inl ((cA 0), 50, .inl ea)), (wk, .inr (4, [.int wat, .int v_5.1, .int wfe, .ref d1])), (d1, .inl ((cA 0), 10, .inl v_5.2))]) [2, 3, 0, 1, 4, 5] rfl
      have hD9 := hD.sub (ws' := [(h0, .inr (5, [.ref tw, .int ln, .int fl, .ref ps, .ref wk, .ref mA, .ref sA])), (mA, .inr (0, [.int ns, .int npos, .int ncc, .ref m1, .ref m2, .ref m3, .ref m4, .ref m5, .ref m6, .ref m7])), (m4, .inl ((cA 1), 50, .inl fi)), (m5, .inl ((cA 0), 50, .inl ea)), (wk, .inr (4, [.int wat, .int v_5.1, .int wfe, .ref d1])), (d1, .inl ((cA 0), 10, .inl v_5.2))]) [2, 3, 0, 1, 4, 5] (by decide) rfl
      refine W_end hQz ?_
      refine W.widen (k := 3) (n := 18) (by decide) (by decide) ?_
      refine vx_ret ?_
      exact W.iret (v := (ea wat.toNatClampNeg)) hx hb hr (fun t ht hW => ⟨⟨(ea wat.toNatClampNeg), (v_5.1, v_5.2), rfl, hf, P_cg ht.symm hP9, va_K.moved hW.alike hK, hD9⟩, hS.F ht⟩) hS.2.2 d_EF_end_55 hlocks
    · replace hf := hf.2 c_3
      have hP9 := hP.sub (ws' := [(h0, .inr (5, [.ref tw, .int ln, .int fl, .ref ps, .ref wk, .ref mA, .ref sA])), (mA, .inr (0, [.int ns, .int npos, .int ncc, .ref m1, .ref m2, .ref m3, .ref m4, .ref m5, .ref m6, .ref m7])), (m4, .inl ((cA 1), 50, .inl fi)), (m5, .inl ((cA 0), 50, .inl ea)), (wk, .inr (4, [.int wat, .int wen, .int wfe, .ref d1])), (d1, .inl ((cA 0), 10, .inl dn))]) [3, 4, 0, 1, 5, 2] rfl
      have hD9 := hD.sub (ws' := [(h0, .inr (5, [.ref tw, .int ln, .int fl, .ref ps, .ref wk, .ref mA, .ref sA])), (mA, .inr (0, [.int ns, .int npos, .int ncc, .ref m1, .ref m2, .ref m3, .ref m4, .ref m5, .ref m6, .ref m7])), (m4, .inl ((cA 1), 50, .inl fi)), (m5, .inl ((cA 0), 50, .inl ea)), (wk, .inr (4, [.int wat, .int wen, .int wfe, .ref d1])), (d1, .inl ((cA 0), 10, .inl dn))]) [3, 4, 0, 1, 5, 2] (by decide) rfl
      refine W_end hQz ?_
      exact vx_throw0 (own := RX5) (cls := "java/lang/UnsupportedOperationException") (names := ["java/lang/RuntimeException", "java/lang/Exception"]) hx hb hl9 hown (by decide +kernel) (by decide +kernel) (hts _ (List.mem_cons_of_mem _ k_812)) (hts _ (List.mem_cons_of_mem _ k_72)) (hat_UnsupportedOperation hts hX9) (by decide +kernel) hX9.2.2.1 hX9.2.2.2 hS (hl.1.trans hml.symm) d_EF_end_22 d_EF_end_25 d_EF_end_26 d_EF_end_29 (fun x h9 => (ht9 x h9).elim) (Nat.le_of_ble_eq_true rfl) (Nat.le_of_ble_eq_true rfl) (by decide) (by decide) hlocks (fun t ha hsz hk => ⟨(wen, dn), trivial, ⟨hf, hP9.kept (fun k q hq => hk q.1 (hP9 k q hq).lt), va_K.moved ha hK, hD9⟩, Nat.le_trans hS.1 hsz, fun q h1 h2 => (hk q (Nat.lt_of_lt_of_le h1 hS.1)).trans (hS.2.1 q h1 h2)⟩) hS.2.2 (by decide) (by decide)
def R_EF_jump (p1 : Int32) (ln : Int32) (fl : Int32) (ns : Int32) (npos : Int32) (ncc : Int32) (wat : Int32) (wen : Int32) (wfe : Int32) (dn : Nat → Int32) (out : (Int32 × Int32 × Int32 × Int32 × (Nat → Int32)) ⊕ (String × Int32 × Int32 × Int32 × (Nat → Int32))) : Prop := ∃ v_1, R_EF_checkCompiled ln fl ns npos ncc v_1 ∧ ((∀ u, v_1 = .inl u → (∃ v_2, R_EF_checkState p1 ln fl ns npos ncc v_2 ∧ ((∀ u, v_2 = .inl u → (∃ v_3, R_Walk_restart p1 wat wen wfe dn v_3 ∧ (out = .inl (wat, (v_3.1, v_3.2.1, v_3.2.2.1, v_3.2.2.2))))) ∧ (∀ E u, v_2 = .inr (E, u) → out = .inr (E, (wat, wen, wfe, dn)))))) ∧ (∀ E u, v_1 = .inr (E, u) → out = .inr (E, (wat, wen, wfe, dn))))
set_option maxHeartbeats 4000000 in
set_option maxRecDepth 100000 in
theorem c_EF_jump (l : Launch) (hl9 : l.stackTraces = false) (dC : Nat → ClassId) (dI : Nat → Nat → Nat) (cA : Nat → ClassId) (h0 mA wk d1 tw ps sA m1 m2 m3 m4 m5 m6 m7 : Nat) (sz : Nat) (p1 : Int32) (ln : Int32) (fl : Int32) (ns : Int32) (npos : Int32) (ncc : Int32) (wat : Int32) (wen : Int32) (wfe : Int32) (dn : Nat → Int32) (out : (Int32 × Int32 × Int32 × Int32 × (Nat → Int32)) ⊕ (String × Int32 × Int32 × Int32 × (Nat → Int32))) (hR : R_EF_jump p1 ln fl ns npos ncc wat wen wfe dn out) : vx_Met l y_EF_jump ws_EF_jump ({ frames := 7, cells := 2, slots := 12, locals := 121 }) (va_Pc [.ref h0, .int p1] (fun U => U.heap.size = sz ∧ va_P (dC, dI) clA [(h0, .inr (5, [.ref tw, .int ln, .int fl, .ref ps, .ref wk, .ref mA, .ref sA])), (mA, .inr (0, [.int ns, .int npos, .int ncc, .ref m1, .ref m2, .ref m3, .ref m4, .ref m5, .ref m6, .ref m7])), (wk, .inr (4, [.int wat, .int wen, .int wfe, .ref d1])), (d1, .inl ((cA 0), 10, .inl dn))] U.heap ∧ va_K (dC, dI) clA (tysA cA) U ∧ nW U ∧ xW (va_A [(h0, .inr (5, [.ref tw, .int ln, .int fl, .ref ps, .ref wk, .ref mA, .ref sA])), (mA, .inr (0, [.int ns, .int npos, .int ncc, .ref m1, .ref m2, .ref m3, .ref m4, .ref m5, .ref m6, .ref m7])), (wk, .inr (4, [.int wat, .int wen, .int wfe, .ref d1])), (d1, .inl ((cA 0), 10, .inl dn))] sz) U ∧ va_D (fun _ => True) [(h0, .inr (5, [.ref tw, .int ln, .int fl, .ref ps, .ref wk, .ref mA, .ref sA])), (mA, .inr (0, [.int ns, .int npos, .int ncc, .ref m1, .ref m2, .ref m3, .ref m4, .ref m5, .ref m6, .ref m7])), (wk, .inr (4, [.int wat, .int wen, .int wfe, .ref d1])), (d1, .inl ((cA 0), 10, .inl dn))])) (va_Qi (fun (r : Int32) (u : Int32 × Int32 × Int32 × (Nat → Int32)) => out = .inl (r, u)) (fun (u : Int32 × Int32 × Int32 × (Nat → Int32)) (t : State) => va_P (dC, dI) clA [(h0, .inr (5, [.ref tw, .int ln, .int fl, .ref ps, .ref wk, .ref mA, .ref sA])), (mA, .inr (0, [.int ns, .int npos, .int ncc, .ref m1, .ref m2, .ref m3, .ref m4, .ref m5, .ref m6, .ref m7])), (wk, .inr (4, [.int u.1, .int u.2.1, .int u.2.2.1, .ref d1])), (d1, .inl ((cA 0), 10, .inl u.2.2.2))] t.heap ∧ va_K (dC, dI) clA (tysA cA) t ∧ va_D (va_A [(h0, .inr (5, [.ref tw, .int ln, .int fl, .ref ps, .ref wk, .ref mA, .ref sA])), (mA, .inr (0, [.int ns, .int npos, .int ncc, .ref m1, .ref m2, .ref m3, .ref m4, .ref m5, .ref m6, .ref m7])), (wk, .inr (4, [.int wat, .int wen, .int wfe, .ref d1])), (d1, .inl ((cA 0), 10, .inl dn))] sz) [(h0, .inr (5, [.ref tw, .int ln, .int fl, .ref ps, .ref wk, .ref mA, .ref sA])), (mA, .inr (0, [.int ns, .int npos, .int ncc, .ref m1, .ref m2, .ref m3, .ref m4, .ref m5, .ref m6, .ref m7])), (wk, .inr (4, [.int u.1, .int u.2.1, .int u.2.2.1, .ref d1])), (d1, .inl ((cA 0), 10, .inl u.2.2.2))]) (va_A [(h0, .inr (5, [.ref tw, .int ln, .int fl, .ref ps, .ref wk, .ref mA, .ref sA])), (mA, .inr (0, [.int ns, .int npos, .int ncc, .ref m1, .ref m2, .ref m3, .ref m4, .ref m5, .ref m6, .ref m7])), (wk, .inr (4, [.int wat, .int wen, .int wfe, .ref d1])), (d1, .inl ((cA 0), 10, .inl dn))] sz)) (vx_X (fun _ : Int32 × Int32 × Int32 × (Nat → Int32) => True) (fun (E : String) (u : Int32 × Int32 × Int32 × (Nat → Int32)) (t : State) => out = .inr (E, u) ∧ va_P (dC, dI) clA [(h0, .inr (5, [.ref tw, .int ln, .int fl, .ref ps, .ref wk, .ref mA, .ref sA])), (mA, .inr (0, [.int ns, .int npos, .int ncc, .ref m1, .ref m2, .ref m3, .ref m4, .ref m5, .ref m6, .ref m7])), (wk, .inr (4, [.int u.1, .int u.2.1, .int u.2.2.1, .ref d1])), (d1, .inl ((cA 0), 10, .inl u.2.2.2))] t.heap ∧ va_K (dC, dI) clA (tysA cA) t ∧ va_D (va_A [(h0, .inr (5, [.ref tw, .int ln, .int fl, .ref ps, .ref wk, .ref mA, .ref sA])), (mA, .inr (0, [.int ns, .int npos, .int ncc, .ref m1, .ref m2, .ref m3, .ref m4, .ref m5, .ref m6, .ref m7])), (wk, .inr (4, [.int wat, .int wen, .int wfe, .ref d1])), (d1, .inl ((cA 0), 10, .inl dn))] sz) [(h0, .inr (5, [.ref tw, .int ln, .int fl, .ref ps, .ref wk, .ref mA, .ref sA])), (mA, .inr (0, [.int ns, .int npos, .int ncc, .ref m1, .ref m2, .ref m3, .ref m4, .ref m5, .ref m6, .ref m7])), (wk, .inr (4, [.int u.1, .int u.2.1, .int u.2.2.1, .ref d1])), (d1, .inl ((cA 0), 10, .inl u.2.2.2))]) (va_A [(h0, .inr (5, [.ref tw, .int ln, .int fl, .ref ps, .ref wk, .ref mA, .ref sA])), (mA, .inr (0, [.int ns, .int npos, .int ncc, .ref m1, .ref m2, .ref m3, .ref m4, .ref m5, .ref m6, .ref m7])), (wk, .inr (4, [.int wat, .int wen, .int wfe, .ref d1])), (d1, .inl ((cA 0), 10, .inl dn))] sz)) 2 12 (va_A [(h0, .inr (5, [.ref tw, .int ln, .int fl, .ref ps, .ref wk, .ref mA, .ref sA])), (mA, .inr (0, [.int ns, .int npos, .int ncc, .ref m1, .ref m2, .ref m3, .ref m4, .ref m5, .ref m6, .ref m7])), (wk, .inr (4, [.int wat, .int wen, .int wfe, .ref d1])), (d1, .inl ((cA 0), 10, .inl dn))] sz) := by
  refine vx_ofW (cc := b_EF_jump) (maxL := 3) (ret := (some .int)) (by decide) rfl ?_
  intro p e s m args below meth c s₁ B hml ht9 hv
  obtain ⟨rfl, hsz, hP, hK, hN, hX9, hD0⟩ := hv
  have hx := B.exec
  have hb := B.bytes
  have hr := B.returns
  have hts := atoms_spec (ws := ws_EF_jump) B.pre
  have hown : s.vm.findClass RX5 = some m.cls := findClass_of_methodNamed B.named
  have hlocks := B.notSynchronized
  subst hsz
  have hD := hD0.self (sz := s.heap.size)
  generalize hAe : va_A [(h0, .inr (5, [.ref tw, .int ln, .int fl, .ref ps, .ref wk, .ref mA, .ref sA])), (mA, .inr (0, [.int ns, .int npos, .int ncc, .ref m1, .ref m2, .ref m3, .ref m4, .ref m5, .ref m6, .ref m7])), (wk, .inr (4, [.int wat, .int wen, .int wfe, .ref d1])), (d1, .inl ((cA 0), 10, .inl dn))] s.heap.size = A at hD hX9 ⊢
  have hA : ∀ q : Nat, s.heap.size ≤ q → A q := fun q h => by rw [← hAe]; exact Or.inr h
  have hS : va_S A s.heap s.heap [] := va_S.rf
  have hP : va_P (dC, dI) clA [(h0, .inr (5, [.ref tw, .int ln, .int fl, .ref ps, .ref wk, .ref mA, .ref sA])), (mA, .inr (0, [.int ns, .int npos, .int ncc, .ref m1, .ref m2, .ref m3, .ref m4, .ref m5, .ref m6, .ref m7])), (wk, .inr (4, [.int wat, .int wen, .int wfe, .ref d1])), (d1, .inl ((cA 0), 10, .inl dn))] s.heap := hP
  have hl := lv_entry ([.ref h0, .int p1]) (n := 3) (Nat.le_of_ble_eq_true rfl)
  rw [lg_entry_eq]
  generalize (lg_sl ([.ref h0, .int p1]) ++ List.replicate (3 - (lg_sl ([.ref h0, .int p1])).length) Slot.unset).toArray = ls at hl ⊢
  have hl : lv_has ls 3 [(0, .ref h0), (1, .int p1)] := hl
  refine W_gen (fun Qz hQz => ?_)
  have hf := hR
  unfold R_EF_jump at hf
  refine lv_aload_n hx hb d_EF_jump_0 rfl (lv_at hl 0 rfl) ?_
  obtain ⟨v_1, hv_1, hf⟩ := hf
  have hPc := hP.sub (ws' := [(h0, .inr (5, [.ref tw, .int ln, .int fl, .ref ps, .ref wk, .ref mA, .ref sA])), (mA, .inr (0, [.int ns, .int npos, .int ncc, .ref m1, .ref m2, .ref m3, .ref m4, .ref m5, .ref m6, .ref m7]))]) [0, 1] rfl
  have hDc := hD.sub (ws' := [(h0, .inr (5, [.ref tw, .int ln, .int fl, .ref ps, .ref wk, .ref mA, .ref sA])), (mA, .inr (0, [.int ns, .int npos, .int ncc, .ref m1, .ref m2, .ref m3, .ref m4, .ref m5, .ref m6, .ref m7]))]) [0, 1] (by decide) rfl
  have hFc := va_free (wc := [(h0, .inr (5, [.ref tw, .int ln, .int fl, .ref ps, .ref wk, .ref mA, .ref sA])), (mA, .inr (0, [.int ns, .int npos, .int ncc, .ref m1, .ref m2, .ref m3, .ref m4, .ref m5, .ref m6, .ref m7]))]) hD hS hA [0, 1] rfl
  refine vx_callv (vx_runV (As := []) (rest := []) ⟨hx, hb, hml, hown, hts⟩ (c_EF_checkCompiled l hl9 dC dI cA h0 mA tw ps wk sA m1 m2 m3 m4 m5 m6 m7 s.heap.size ln fl ns npos ncc v_1 hv_1) (cwV 0 hts (gV9 k_895 k_897 k_25 k_49 k_898) rfl rfl rfl hv_EF_checkCompiled ⟨Nat.le_of_ble_eq_true rfl, Nat.le_of_ble_eq_true rfl⟩) ⟨fun a U g mk q => by obtain ⟨q0, q1, qP, qK, qN, qX, qD⟩ := q; exact ⟨q0, q1, qP, va_K.moved (u := U) (U := U.calling g mk a) (Vm.Alike.refl U.vm) qK, nW_same (u := U) (U := U.calling g mk a) rfl qN, xW_same (u := U) (U := U.calling g mk a) (Vm.Alike.refl U.vm) rfl rfl qX, qD⟩, va_recv hK hPc (ci := 5) (q0 := 0) rfl rfl, fun U hU hW => ⟨rfl, congrArg _ hU, P_cg hU.symm hPc, va_K.moved hW.alike hK, nW_warm hW hN, xW_at hX9 hS hFc hU hW, hDc.weaken (fun _ _ _ _ => trivial)⟩⟩ rfl rfl hl.1 rfl (lv_room (Nat.le_of_ble_eq_true rfl)) d_EF_jump_1 ⟨by decide, by decide⟩) hS (fun q _ h => hFc q h) hFc (fun q _ h => hFc q h) (fun E ce q9 u t H locs ht hvm hpx hB hz1 hk1 hS hce hcv hcl => ?_) (fun u t H locs ht hvm hw hB hz1 hk1 hS => ?_)
  · obtain ⟨hw, hP1, hK1, hD1⟩ := hB
    replace hf := hf.2 E u hw
    replace hP1 := P_cg ht hP1
    obtain ⟨hP, hD⟩ := va_join (wc := [(h0, .inr (5, [.ref tw, .int ln, .int fl, .ref ps, .ref wk, .ref mA, .ref sA])), (mA, .inr (0, [.int ns, .int npos, .int ncc, .ref m1, .ref m2, .ref m3, .ref m4, .ref m5, .ref m6, .ref m7]))]) (wr := [(wk, .inr (4, [.int wat, .int wen, .int wfe, .ref d1])), (d1, .inl ((cA 0), 10, .inl dn))]) (w1 := [(h0, .inr (5, [.ref tw, .int ln, .int fl, .ref ps, .ref wk, .ref mA, .ref sA])), (mA, .inr (0, [.int ns, .int npos, .int ncc, .ref m1, .ref m2, .ref m3, .ref m4, .ref m5, .ref m6, .ref m7]))]) hP hD [0, 1] [2, 3] rfl rfl (by decide) (by decide) hk1 hFc hP1 hD1
    have hP9 := hP.sub (ws' := [(h0, .inr (5, [.ref tw, .int ln, .int fl, .ref ps, .ref wk, .ref mA, .ref sA])), (mA, .inr (0, [.int ns, .int npos, .int ncc, .ref m1, .ref m2, .ref m3, .ref m4, .ref m5, .ref m6, .ref m7])), (wk, .inr (4, [.int wat, .int wen, .int wfe, .ref d1])), (d1, .inl ((cA 0), 10, .inl dn))]) [2, 3, 0, 1] rfl
    have hD9 := hD.sub (ws' := [(h0, .inr (5, [.ref tw, .int ln, .int fl, .ref ps, .ref wk, .ref mA, .ref sA])), (mA, .inr (0, [.int ns, .int npos, .int ncc, .ref m1, .ref m2, .ref m3, .ref m4, .ref m5, .ref m6, .ref m7])), (wk, .inr (4, [.int wat, .int wen, .int wfe, .ref d1])), (d1, .inl ((cA 0), 10, .inl dn))]) [2, 3, 0, 1] (by decide) rfl
    refine X_end hQz ?_
    exact vx_out (fun x h9 => (ht9 x h9).elim) hlocks hce hcv hcl (fun t ht ha => ⟨(wat, wen, wfe, dn), trivial, ⟨hf, P_cg ht.symm hP9, va_K.moved ha hK, hD9⟩, hS.F ht⟩) hS.2.2 (by decide) (by decide)
  · obtain ⟨hP1, hK1, hD1⟩ := hB
    replace hf := hf.1 u hw
    replace hP1 := P_cg ht hP1
    obtain ⟨hP, hD⟩ := va_join (wc := [(h0, .inr (5, [.ref tw, .int ln, .int fl, .ref ps, .ref wk, .ref mA, .ref sA])), (mA, .inr (0, [.int ns, .int npos, .int ncc, .ref m1, .ref m2, .ref m3, .ref m4, .ref m5, .ref m6, .ref m7]))]) (wr := [(wk, .inr (4, [.int wat, .int wen, .int wfe, .ref d1])), (d1, .inl ((cA 0), 10, .inl dn))]) (w1 := [(h0, .inr (5, [.ref tw, .int ln, .int fl, .ref ps, .ref wk, .ref mA, .ref sA])), (mA, .inr (0, [.int ns, .int npos, .int ncc, .ref m1, .ref m2, .ref m3, .ref m4, .ref m5, .ref m6, .ref m7]))]) hP hD [0, 1] [2, 3] rfl rfl (by decide) (by decide) hk1 hFc hP1 hD1
    have hP : va_P (dC, dI) clA [(wk, .inr (4, [.int wat, .int wen, .int wfe, .ref d1])), (d1, .inl ((cA 0), 10, .inl dn)), (h0, .inr (5, [.ref tw, .int ln, .int fl, .ref ps, .ref wk, .ref mA, .ref sA])), (mA, .inr (0, [.int ns, .int npos, .int ncc, .ref m1, .ref m2, .ref m3, .ref m4, .ref m5, .ref m6, .ref m7]))] H := hP
    have hD : va_D A [(wk, .inr (4, [.int wat, .int wen, .int wfe, .ref d1])), (d1, .inl ((cA 0), 10, .inl dn)), (h0, .inr (5, [.ref tw, .int ln, .int fl, .ref ps, .ref wk, .ref mA, .ref sA])), (mA, .inr (0, [.int ns, .int npos, .int ncc, .ref m1, .ref m2, .ref m3, .ref m4, .ref m5, .ref m6, .ref m7]))] := hD
    refine lv_aload_n hx hb d_EF_jump_4 rfl (lv_at hl 0 rfl) ?_
    refine lv_iload_n hx hb d_EF_jump_5 rfl (lv_at hl 1 rfl) ?_
    obtain ⟨v_2, hv_2, hf⟩ := hf
    have hPc := hP.sub (ws' := [(h0, .inr (5, [.ref tw, .int ln, .int fl, .ref ps, .ref wk, .ref mA, .ref sA])), (mA, .inr (0, [.int ns, .int npos, .int ncc, .ref m1, .ref m2, .ref m3, .ref m4, .ref m5, .ref m6, .ref m7]))]) [2, 3] rfl
    have hDc := hD.sub (ws' := [(h0, .inr (5, [.ref tw, .int ln, .int fl, .ref ps, .ref wk, .ref mA, .ref sA])), (mA, .inr (0, [.int ns, .int npos, .int ncc, .ref m1, .ref m2, .ref m3, .ref m4, .ref m5, .ref m6, .ref m7]))]) [2, 3] (by decide) rfl
    have hFc := va_free (wc := [(h0, .inr (5, [.ref tw, .int ln, .int fl, .ref ps, .ref wk, .ref mA, .ref sA])), (mA, .inr (0, [.int ns, .int npos, .int ncc, .ref m1, .ref m2, .ref m3, .ref m4, .ref m5, .ref m6, .ref m7]))]) hD hS hA [2, 3] rfl
    refine vx_callv (vx_runV (As := [.int p1]) (rest := []) ⟨hx, hb, hml, hown, hts⟩ (c_EF_checkState l hl9 dC dI cA h0 mA tw ps wk sA m1 m2 m3 m4 m5 m6 m7 H.size p1 ln fl ns npos ncc v_2 hv_2) (cwV 1 hts (gV9 k_843 k_845 k_23 k_49 k_846) rfl rfl rfl hv_EF_checkState ⟨Nat.le_of_ble_eq_true rfl, Nat.le_of_ble_eq_true rfl⟩) ⟨fun a U g mk q => by obtain ⟨q0, q1, qP, qK, qN, qX, qD⟩ := q; exact ⟨q0, q1, qP, va_K.moved (u := U) (U := U.calling g mk a) (Vm.Alike.refl U.vm) qK, nW_same (u := U) (U := U.calling g mk a) rfl qN, xW_same (u := U) (U := U.calling g mk a) (Vm.Alike.refl U.vm) rfl rfl qX, qD⟩, va_recv hK hPc (ci := 5) (q0 := 0) rfl rfl, fun U hU hW => ⟨rfl, congrArg _ hU, P_cg hU.symm hPc, va_K.moved hW.alike hK, nW_warm hW hN, xW_at hX9 hS hFc hU hW, hDc.weaken (fun _ _ _ _ => trivial)⟩⟩ rfl rfl hl.1 rfl (lv_room (Nat.le_of_ble_eq_true rfl)) d_EF_jump_6 ⟨by decide, by decide⟩) hS (fun q _ h => hFc q h) hFc (fun q _ h => hFc q h) (fun E ce q9 u t H locs ht hvm hpx hB hz1 hk1 hS hce hcv hcl => ?_) (fun u t H locs ht hvm hw hB hz1 hk1 hS => ?_)
    · obtain ⟨hw, hP1, hK1, hD1⟩ := hB
      replace hf := hf.2 E u hw
      replace hP1 := P_cg ht hP1
      obtain ⟨hP, hD⟩ := va_join (wc := [(h0, .inr (5, [.ref tw, .int ln, .int fl, .ref ps, .ref wk, .ref mA, .ref sA])), (mA, .inr (0, [.int ns, .int npos, .int ncc, .ref m1, .ref m2, .ref m3, .ref m4, .ref m5, .ref m6, .ref m7]))]) (wr := [(wk, .inr (4, [.int wat, .int wen, .int wfe, .ref d1])), (d1, .inl ((cA 0), 10, .inl dn))]) (w1 := [(h0, .inr (5, [.ref tw, .int ln, .int fl, .ref ps, .ref wk, .ref mA, .ref sA])), (mA, .inr (0, [.int ns, .int npos, .int ncc, .ref m1, .ref m2, .ref m3, .ref m4, .ref m5, .ref m6, .ref m7]))]) hP hD [2, 3] [0, 1] rfl rfl (by decide) (by decide) hk1 hFc hP1 hD1
      have hP9 := hP.sub (ws' := [(h0, .inr (5, [.ref tw, .int ln, .int fl, .ref ps, .ref wk, .ref mA, .ref sA])), (mA, .inr (0, [.int ns, .int npos, .int ncc, .ref m1, .ref m2, .ref m3, .ref m4, .ref m5, .ref m6, .ref m7])), (wk, .inr (4, [.int wat, .int wen, .int wfe, .ref d1])), (d1, .inl ((cA 0), 10, .inl dn))]) [2, 3, 0, 1] rfl
      have hD9 := hD.sub (ws' := [(h0, .inr (5, [.ref tw, .int ln, .int fl, .ref ps, .ref wk, .ref mA, .ref sA])), (mA, .inr (0, [.int ns, .int npos, .int ncc, .ref m1, .ref m2, .ref m3, .ref m4, .ref m5, .ref m6, .ref m7])), (wk, .inr (4, [.int wat, .int wen, .int wfe, .ref d1])), (d1, .inl ((cA 0), 10, .inl dn))]) [2, 3, 0, 1] (by decide) rfl
      refine X_end hQz ?_
      exact vx_out (fun x h9 => (ht9 x h9).elim) hlocks hce hcv hcl (fun t ht ha => ⟨(wat, wen, wfe, dn), trivial, ⟨hf, P_cg ht.symm hP9, va_K.moved ha hK, hD9⟩, hS.F ht⟩) hS.2.2 (by decide) (by decide)
    · obtain ⟨hP1, hK1, hD1⟩ := hB
      replace hf := hf.1 u hw
      replace hP1 := P_cg ht hP1
      obtain ⟨hP, hD⟩ := va_join (wc := [(h0, .inr (5, [.ref tw, .int ln, .int fl, .ref ps, .ref wk, .ref mA, .ref sA])), (mA, .inr (0, [.int ns, .int npos, .int ncc, .ref m1, .ref m2, .ref m3, .ref m4, .ref m5, .ref m6, .ref m7]))]) (wr := [(wk, .inr (4, [.int wat, .int wen, .int wfe, .ref d1])), (d1, .inl ((cA 0), 10, .inl dn))]) (w1 := [(h0, .inr (5, [.ref tw, .int ln, .int fl, .ref ps, .ref wk, .ref mA, .ref sA])), (mA, .inr (0, [.int ns, .int npos, .int ncc, .ref m1, .ref m2, .ref m3, .ref m4, .ref m5, .ref m6, .ref m7]))]) hP hD [2, 3] [0, 1] rfl rfl (by decide) (by decide) hk1 hFc hP1 hD1
      have hP : va_P (dC, dI) clA [(wk, .inr (4, [.int wat, .int wen, .int wfe, .ref d1])), (d1, .inl ((cA 0), 10, .inl dn)), (h0, .inr (5, [.ref tw, .int ln, .int fl, .ref ps, .ref wk, .ref mA, .ref sA])), (mA, .inr (0, [.int ns, .int npos, .int ncc, .ref m1, .ref m2, .ref m3, .ref m4, .ref m5, .ref m6, .ref m7]))] H := hP
      have hD : va_D A [(wk, .inr (4, [.int wat, .int wen, .int wfe, .ref d1])), (d1, .inl ((cA 0), 10, .inl dn)), (h0, .inr (5, [.ref tw, .int ln, .int fl, .ref ps, .ref wk, .ref mA, .ref sA])), (mA, .inr (0, [.int ns, .int npos, .int ncc, .ref m1, .ref m2, .ref m3, .ref m4, .ref m5, .ref m6, .ref m7]))] := hD
      refine lv_aload_n hx hb d_EF_jump_9 rfl (lv_at hl 0 rfl) ?_
      refine va_get (D := (dC, dI)) (ci := 5) (v := .ref wk) (C := RX5) (T := TX5) (N := 7) hx hb hts (fun w h => List.mem_cons_of_mem _ (in_X5 w h)) hown hK hP 2 rfl rfl 4 (by decide) (hts _ (List.mem_cons_of_mem _ k_245)) (fun _ h9 => h9) rfl d_EF_jump_10 ?_
      refine va_getN (D := (dC, dI)) (ci := 4) (v := .int wat) (C := RX4) (T := TX4) (N := 4) hx hb hts (fun w h => List.mem_cons_of_mem _ (in_X4 w h)) hown hK hP 0 rfl rfl 0 (by decide) (va_Nw.use rfl (hN _ nl_13)) (fun _ h9 => h9) rfl d_EF_jump_13 ?_
      refine lv_istore_n (lv' := [(2, .int wat), (0, .ref h0), (1, .int p1)]) hx hb d_EF_jump_16 rfl hl (by decide) rfl (fun ls hl => ?_)
      refine lv_aload_n hx hb d_EF_jump_17 rfl (lv_at hl 1 rfl) ?_
      refine va_get (D := (dC, dI)) (ci := 5) (v := .ref wk) (C := RX5) (T := TX5) (N := 7) hx hb hts (fun w h => List.mem_cons_of_mem _ (in_X5 w h)) hown hK hP 2 rfl rfl 4 (by decide) (hts _ (List.mem_cons_of_mem _ k_245)) (fun _ h9 => h9) rfl d_EF_jump_18 ?_
      refine lv_iload_n hx hb d_EF_jump_21 rfl (lv_at hl 2 rfl) ?_
      obtain ⟨v_3, hv_3, hf⟩ := hf
      have hPc := hP.sub (ws' := [(wk, .inr (4, [.int wat, .int wen, .int wfe, .ref d1])), (d1, .inl ((cA 0), 10, .inl dn))]) [0, 1] rfl
      have hDc := hD.sub (ws' := [(wk, .inr (4, [.int wat, .int wen, .int wfe, .ref d1])), (d1, .inl ((cA 0), 10, .inl dn))]) [0, 1] (by decide) rfl
      have hFc := va_free (wc := [(wk, .inr (4, [.int wat, .int wen, .int wfe, .ref d1])), (d1, .inl ((cA 0), 10, .inl dn))]) hD hS hA [0, 1] rfl
      refine va_callv (va_runV (As := [.int p1]) (rest := []) ⟨hx, hb, hml, hown, hts⟩ (c_Walk_restart l dC dI cA wk d1 H.size p1 wat wen wfe dn v_3 hv_3) (cwV 1 hts (gV9 k_827 k_828 k_829 k_53 k_830) rfl rfl rfl hv_Walk_restart ⟨Nat.le_of_ble_eq_true rfl, Nat.le_of_ble_eq_true rfl⟩) ⟨fun a U g mk q => by obtain ⟨q0, q1, qP, qK, qN, qD⟩ := q; exact ⟨q0, q1, qP, va_K.moved (u := U) (U := U.calling g mk a) (Vm.Alike.refl U.vm) qK, nW_same (u := U) (U := U.calling g mk a) rfl qN, qD⟩, va_recv hK hPc (ci := 4) (q0 := 0) rfl rfl, fun U hU hW => ⟨rfl, congrArg _ hU, P_cg hU.symm hPc, va_K.moved hW.alike hK, nW_warm hW hN, hDc.weaken (fun _ _ _ _ => trivial)⟩⟩ rfl rfl hl.1 rfl (lv_room (Nat.le_of_ble_eq_true rfl)) d_EF_jump_22 ⟨by decide, by decide⟩) hS (fun q _ h => hFc q h) hFc (fun u t H locs ht hvm hw hB hz1 hk1 hS => ?_)
      subst hw
      obtain ⟨hP1, hK1, hD1⟩ := hB
      replace hP1 := P_cg ht hP1
      obtain ⟨hP, hD⟩ := va_join (wc := [(wk, .inr (4, [.int wat, .int wen, .int wfe, .ref d1])), (d1, .inl ((cA 0), 10, .inl dn))]) (wr := [(h0, .inr (5, [.ref tw, .int ln, .int fl, .ref ps, .ref wk, .ref mA, .ref sA])), (mA, .inr (0, [.int ns, .int npos, .int ncc, .ref m1, .ref m2, .ref m3, .ref m4, .ref m5, .ref m6, .ref m7]))]) (w1 := [(wk, .inr (4, [.int v_3.1, .int v_3.2.1, .int v_3.2.2.1, .ref d1])), (d1, .inl ((cA 0), 10, .inl v_3.2.2.2))]) hP hD [0, 1] [2, 3] rfl rfl (by decide) (by decide) hk1 hFc hP1 hD1
      have hP : va_P (dC, dI) clA [(h0, .inr (5, [.ref tw, .int ln, .int fl, .ref ps, .ref wk, .ref mA, .ref sA])), (mA, .inr (0, [.int ns, .int npos, .int ncc, .ref m1, .ref m2, .ref m3, .ref m4, .ref m5, .ref m6, .ref m7])), (wk, .inr (4, [.int v_3.1, .int v_3.2.1, .int v_3.2.2.1, .ref d1])), (d1, .inl ((cA 0), 10, .inl v_3.2.2.2))] H := hP
      have hD : va_D A [(h0, .inr (5, [.ref tw, .int ln, .int fl, .ref ps, .ref wk, .ref mA, .ref sA])), (mA, .inr (0, [.int ns, .int npos, .int ncc, .ref m1, .ref m2, .ref m3, .ref m4, .ref m5, .ref m6, .ref m7])), (wk, .inr (4, [.int v_3.1, .int v_3.2.1, .int v_3.2.2.1, .ref d1])), (d1, .inl ((cA 0), 10, .inl v_3.2.2.2))] := hD
      refine lv_iload_n hx hb d_EF_jump_25 rfl (lv_at hl 0 rfl) ?_
      have hP9 := hP.sub (ws' := [(h0, .inr (5, [.ref tw, .int ln, .int fl, .ref ps, .ref wk, .ref mA, .ref sA])), (mA, .inr (0, [.int ns, .int npos, .int ncc, .ref m1, .ref m2, .ref m3, .ref m4, .ref m5, .ref m6, .ref m7])), (wk, .inr (4, [.int v_3.1, .int v_3.2.1, .int v_3.2.2.1, .ref d1])), (d1, .inl ((cA 0), 10, .inl v_3.2.2.2))]) [0, 1, 2, 3] rfl
      have hD9 := hD.sub (ws' := [(h0, .inr (5, [.ref tw, .int ln, .int fl, .ref ps, .ref wk, .ref mA, .ref sA])), (mA, .inr (0, [.int ns, .int npos, .int ncc, .ref m1, .ref m2, .ref m3, .ref m4, .ref m5, .ref m6, .ref m7])), (wk, .inr (4, [.int v_3.1, .int v_3.2.1, .int v_3.2.2.1, .ref d1])), (d1, .inl ((cA 0), 10, .inl v_3.2.2.2))]) [0, 1, 2, 3] (by decide) rfl
      refine W_end hQz ?_
      refine W.widen (k := 2) (n := 12) (by decide) (by decide) ?_
      refine vx_ret ?_
      exact W.iret (v := wat) hx hb hr (fun t ht hW => ⟨⟨wat, (v_3.1, v_3.2.1, v_3.2.2.1, v_3.2.2.2), rfl, hf, P_cg ht.symm hP9, va_K.moved hW.alike hK, hD9⟩, hS.F ht⟩) hS.2.2 d_EF_jump_26 hlocks
def R_EF_count (p1 : Int32) (ln : Int32) (fl : Int32) (ns : Int32) (npos : Int32) (ncc : Int32) (wat : Int32) (wen : Int32) (wfe : Int32) (dn : Nat → Int32)  (out : (Int32 × Unit) ⊕ (String × Unit)) : Prop := ((p1 < 10) → (((p1.toInt < 0 ∨ 6 < p1.toInt) → (out = .inr ("java/lang/IllegalArgumentException", ()))) ∧ ((p1 = 0) → (out = .inl (ln, ()))) ∧ ((p1 = 1) → (out = .inl (ns, ()))) ∧ ((p1 = 2) → (out = .inl (ncc, ()))) ∧ ((p1 = 3) → (out = .inl (npos, ()))) ∧ ((p1 = 4) → (out = .inl (wat, ()))) ∧ ((p1 = 5) → (((wen = 0) → (out = .inl (0, ()))) ∧ (¬ (wen = 0) → (out = .inl (1, ()))))) ∧ ((p1 = 6) → (out = .inl (wfe, ()))))) ∧ (¬ (p1 < 10) → (((20 ≤ p1) → (((p1.toInt < 0 ∨ 6 < p1.toInt) → (out = .inr ("java/lang/IllegalArgumentException", ()))) ∧ ((p1 = 0) → (out = .inl (ln, ()))) ∧ ((p1 = 1) → (out = .inl (ns, ()))) ∧ ((p1 = 2) → (out = .inl (ncc, ()))) ∧ ((p1 = 3) → (out = .inl (npos, ()))) ∧ ((p1 = 4) → (out = .inl (wat, ()))) ∧ ((p1 = 5) → (((wen = 0) → (out = .inl (0, ()))) ∧ (¬ (wen = 0) → (out = .inl (1, ()))))) ∧ ((p1 = 6) → (out = .inl (wfe, ()))))) ∧ (¬ (20 ≤ p1) → (vp_in (p1 - 10) 10 ∧ (out = .inl ((dn (p1 - 10).toNatClampNeg), ()))))))
set_option maxHeartbeats 4000000 in
set_option maxRecDepth 100000 in
theorem c_EF_count (l : Launch) (hl9 : l.stackTraces = false) (dC : Nat → ClassId) (dI : Nat → Nat → Nat) (cA : Nat → ClassId) (h0 mA wk d1 tw ps sA m1 m2 m3 m4 m5 m6 m7 : Nat) (sz : Nat) (p1 : Int32) (ln : Int32) (fl : Int32) (ns : Int32) (npos : Int32) (ncc : Int32) (wat : Int32) (wen : Int32) (wfe : Int32) (dn : Nat → Int32)  (out : (Int32 × Unit) ⊕ (String × Unit)) (hR : R_EF_count p1 ln fl ns npos ncc wat wen wfe dn  out) : vx_Met l y_EF_count ws_EF_count ({ frames := 6, cells := 1, slots := 6, locals := 100 }) (va_Pc [.ref h0, .int p1] (fun U => U.heap.size = sz ∧ va_P (dC, dI) clA [(h0, .inr (5, [.ref tw, .int ln, .int fl, .ref ps, .ref wk, .ref mA, .ref sA])), (mA, .inr (0, [.int ns, .int npos, .int ncc, .ref m1, .ref m2, .ref m3, .ref m4, .ref m5, .ref m6, .ref m7])), (wk, .inr (4, [.int wat, .int wen, .int wfe, .ref d1])), (d1, .inl ((cA 0), 10, .inl dn))] U.heap ∧ va_K (dC, dI) clA (tysA cA) U ∧ nW U ∧ xW (va_A [(h0, .inr (5, [.ref tw, .int ln, .int fl, .ref ps, .ref wk, .ref mA, .ref sA])), (mA, .inr (0, [.int ns, .int npos, .int ncc, .ref m1, .ref m2, .ref m3, .ref m4, .ref m5, .ref m6, .ref m7])), (wk, .inr (4, [.int wat, .int wen, .int wfe, .ref d1])), (d1, .inl ((cA 0), 10, .inl dn))] sz) U ∧ va_D (fun _ => True) [(h0, .inr (5, [.ref tw, .int ln, .int fl, .ref ps, .ref wk, .ref mA, .ref sA])), (mA, .inr (0, [.int ns, .int npos, .int ncc, .ref m1, .ref m2, .ref m3, .ref m4, .ref m5, .ref m6, .ref m7])), (wk, .inr (4, [.int wat, .int wen, .int wfe, .ref d1])), (d1, .inl ((cA 0), 10, .inl dn))])) (va_Qi (fun (r : Int32) (u : Unit) => out = .inl (r, u)) (fun (u : Unit) (t : State) => va_P (dC, dI) clA [(h0, .inr (5, [.ref tw, .int ln, .int fl, .ref ps, .ref wk, .ref mA, .ref sA])), (mA, .inr (0, [.int ns, .int npos, .int ncc, .ref m1, .ref m2, .ref m3, .ref m4, .ref m5, .ref m6, .ref m7])), (wk, .inr (4, [.int wat, .int wen, .int wfe, .ref d1])), (d1, .inl ((cA 0), 10, .inl dn))] t.heap ∧ va_K (dC, dI) clA (tysA cA) t ∧ va_D (va_A [(h0, .inr (5, [.ref tw, .int ln, .int fl, .ref ps, .ref wk, .ref mA, .ref sA])), (mA, .inr (0, [.int ns, .int npos, .int ncc, .ref m1, .ref m2, .ref m3, .ref m4, .ref m5, .ref m6, .ref m7])), (wk, .inr (4, [.int wat, .int wen, .int wfe, .ref d1])), (d1, .inl ((cA 0), 10, .inl dn))] sz) [(h0, .inr (5, [.ref tw, .int ln, .int fl, .ref ps, .ref wk, .ref mA, .ref sA])), (mA, .inr (0, [.int ns, .int npos, .int ncc, .ref m1, .ref m2, .ref m3, .ref m4, .ref m5, .ref m6, .ref m7])), (wk, .inr (4, [.int wat, .int wen, .int wfe, .ref d1])), (d1, .inl ((cA 0), 10, .inl dn))]) (va_A [(h0, .inr (5, [.ref tw, .int ln, .int fl, .ref ps, .ref wk, .ref mA, .ref sA])), (mA, .inr (0, [.int ns, .int npos, .int ncc, .ref m1, .ref m2, .ref m3, .ref m4, .ref m5, .ref m6, .ref m7])), (wk, .inr (4, [.int wat, .int wen, .int wfe, .ref d1])), (d1, .inl ((cA 0), 10, .inl dn))] sz)) (vx_X (fun _ : Unit => True) (fun (E : String) (u : Unit) (t : State) => out = .inr (E, u) ∧ va_P (dC, dI) clA [(h0, .inr (5, [.ref tw, .int ln, .int fl, .ref ps, .ref wk, .ref mA, .ref sA])), (mA, .inr (0, [.int ns, .int npos, .int ncc, .ref m1, .ref m2, .ref m3, .ref m4, .ref m5, .ref m6, .ref m7])), (wk, .inr (4, [.int wat, .int wen, .int wfe, .ref d1])), (d1, .inl ((cA 0), 10, .inl dn))] t.heap ∧ va_K (dC, dI) clA (tysA cA) t ∧ va_D (va_A [(h0, .inr (5, [.ref tw, .int ln, .int fl, .ref ps, .ref wk, .ref mA, .ref sA])), (mA, .inr (0, [.int ns, .int npos, .int ncc, .ref m1, .ref m2, .ref m3, .ref m4, .ref m5, .ref m6, .ref m7])), (wk, .inr (4, [.int wat, .int wen, .int wfe, .ref d1])), (d1, .inl ((cA 0), 10, .inl dn))] sz) [(h0, .inr (5, [.ref tw, .int ln, .int fl, .ref ps, .ref wk, .ref mA, .ref sA])), (mA, .inr (0, [.int ns, .int npos, .int ncc, .ref m1, .ref m2, .ref m3, .ref m4, .ref m5, .ref m6, .ref m7])), (wk, .inr (4, [.int wat, .int wen, .int wfe, .ref d1])), (d1, .inl ((cA 0), 10, .inl dn))]) (va_A [(h0, .inr (5, [.ref tw, .int ln, .int fl, .ref ps, .ref wk, .ref mA, .ref sA])), (mA, .inr (0, [.int ns, .int npos, .int ncc, .ref m1, .ref m2, .ref m3, .ref m4, .ref m5, .ref m6, .ref m7])), (wk, .inr (4, [.int wat, .int wen, .int wfe, .ref d1])), (d1, .inl ((cA 0), 10, .inl dn))] sz)) 1 6 (va_A [(h0, .inr (5, [.ref tw, .int ln, .int fl, .ref ps, .ref wk, .ref mA, .ref sA])), (mA, .inr (0, [.int ns, .int npos, .int ncc, .ref m1, .ref m2, .ref m3, .ref m4, .ref m5, .ref m6, .ref m7])), (wk, .inr (4, [.int wat, .int wen, .int wfe, .ref d1])), (d1, .inl ((cA 0), 10, .inl dn))] sz) := by
  refine vx_ofW (cc := b_EF_count) (maxL := 2) (ret := (some .int)) (by decide) rfl ?_
  intro p e s m args below meth c s₁ B hml ht9 hv
  obtain ⟨rfl, hsz, hP, hK, hN, hX9, hD0⟩ := hv
  have hx := B.exec
  have hb := B.bytes
  have hr := B.returns
  have hts := atoms_spec (ws := ws_EF_count) B.pre
  have hown : s.vm.findClass RX5 = some m.cls := findClass_of_methodNamed B.named
  have hlocks := B.notSynchronized
  subst hsz
  have hD := hD0.self (sz := s.heap.size)
  generalize hAe : va_A [(h0, .inr (5, [.ref tw, .int ln, .int fl, .ref ps, .ref wk, .ref mA, .ref sA])), (mA, .inr (0, [.int ns, .int npos, .int ncc, .ref m1, .ref m2, .ref m3, .ref m4, .ref m5, .ref m6, .ref m7])), (wk, .inr (4, [.int wat, .int wen, .int wfe, .ref d1])), (d1, .inl ((cA 0), 10, .inl dn))] s.heap.size = A at hD hX9 ⊢
  have hA : ∀ q : Nat, s.heap.size ≤ q → A q := fun q h => by rw [← hAe]; exact Or.inr h
  have hS : va_S A s.heap s.heap [] := va_S.rf
  have hP : va_P (dC, dI) clA [(h0, .inr (5, [.ref tw, .int ln, .int fl, .ref ps, .ref wk, .ref mA, .ref sA])), (mA, .inr (0, [.int ns, .int npos, .int ncc, .ref m1, .ref m2, .ref m3, .ref m4, .ref m5, .ref m6, .ref m7])), (wk, .inr (4, [.int wat, .int wen, .int wfe, .ref d1])), (d1, .inl ((cA 0), 10, .inl dn))] s.heap := hP
  have hl := lv_entry ([.ref h0, .int p1]) (n := 2) (Nat.le_of_ble_eq_true rfl)
  rw [lg_entry_eq]
  generalize (lg_sl ([.ref h0, .int p1]) ++ List.replicate (2 - (lg_sl ([.ref h0, .int p1])).length) Slot.unset).toArray = ls at hl ⊢
  have hl : lv_has ls 2 [(0, .ref h0), (1, .int p1)] := hl
  refine W_gen (fun Qz hQz => ?_)
  have hf := hR
  unfold R_EF_count at hf
  refine lv_iload_n hx hb d_EF_count_0 rfl (lv_at hl 1 rfl) ?_
  refine lv_bipush (v := 10) hx hb d_EF_count_1 (by decide) ?_
  refine lv_icmp_lt (tgt := 25) hx hb d_EF_count_3 (by decide) (fun c_1 => ?_) (fun c_1 => ?_)
  · replace hf := hf.1 c_1
    refine lv_iload_n hx hb d_EF_count_25 rfl (lv_at hl 1 rfl) ?_
    by_cases hd_2 : p1.toInt < 0 ∨ 6 < p1.toInt
    · replace hf := hf.1 hd_2
      refine lv_tableOut (tgt := 129) hx hb d_EF_count_26 hd_2 (by decide) ?_
      have hP9 := hP.sub (ws' := [(h0, .inr (5, [.ref tw, .int ln, .int fl, .ref ps, .ref wk, .ref mA, .ref sA])), (mA, .inr (0, [.int ns, .int npos, .int ncc, .ref m1, .ref m2, .ref m3, .ref m4, .ref m5, .ref m6, .ref m7])), (wk, .inr (4, [.int wat, .int wen, .int wfe, .ref d1])), (d1, .inl ((cA 0), 10, .inl dn))]) [0, 1, 2, 3] rfl
      have hD9 := hD.sub (ws' := [(h0, .inr (5, [.ref tw, .int ln, .int fl, .ref ps, .ref wk, .ref mA, .ref sA])), (mA, .inr (0, [.int ns, .int npos, .int ncc, .ref m1, .ref m2, .ref m3, .ref m4, .ref m5, .ref m6, .ref m7])), (wk, .inr (4, [.int wat, .int wen, .int wfe, .ref d1])), (d1, .inl ((cA 0), 10, .inl dn))]) [0, 1, 2, 3] (by decide) rfl
      refine W_end hQz ?_
      exact vx_throw0 (own := RX5) (cls := "java/lang/IllegalArgumentException") (names := ["java/lang/RuntimeException", "java/lang/Exception"]) hx hb hl9 hown (by decide +kernel) (by decide +kernel) (hts _ (List.mem_cons_of_mem _ k_283)) (hts _ (List.mem_cons_of_mem _ k_59)) (hat_IllegalArgument hts hX9) (by decide +kernel) hX9.2.2.1 hX9.2.2.2 hS (hl.1.trans hml.symm) d_EF_count_129 d_EF_count_132 d_EF_count_133 d_EF_count_136 (fun x h9 => (ht9 x h9).elim) (Nat.le_of_ble_eq_true rfl) (Nat.le_of_ble_eq_true rfl) (by decide) (by decide) hlocks (fun t ha hsz hk => ⟨(), trivial, ⟨hf, hP9.kept (fun k q hq => hk q.1 (hP9 k q hq).lt), va_K.moved ha hK, hD9⟩, Nat.le_trans hS.1 hsz, fun q h1 h2 => (hk q (Nat.lt_of_lt_of_le h1 hS.1)).trans (hS.2.1 q h1 h2)⟩) hS.2.2 (by decide) (by decide)
    · replace hf := hf.2
      have hc_2 : p1.toInt = 0 ∨ p1.toInt = 1 ∨ p1.toInt = 2 ∨ p1.toInt = 3 ∨ p1.toInt = 4 ∨ p1.toInt = 5 ∨ p1.toInt = 6 := by omega
      rcases hc_2 with hc_2 | hc_2 | hc_2 | hc_2 | hc_2 | hc_2 | hc_2
      · replace hc_2 : p1 = 0 := Int32.toInt_inj.mp (hc_2.trans (by decide))
        replace hf := hf.1 hc_2
        refine lv_tableIn (off := 42) (tgt := 68) hx hb d_EF_count_26 (by rw [hc_2]; decide) (by rw [hc_2]; decide) (by rw [hc_2]; decide) (by decide) ?_
        refine lv_aload_n hx hb d_EF_count_68 rfl (lv_at hl 0 rfl) ?_
        refine va_get (D := (dC, dI)) (ci := 5) (v := .int ln) (C := RX5) (T := TX5) (N := 7) hx hb hts (fun w h => List.mem_cons_of_mem _ (in_X5 w h)) hown hK hP 0 rfl rfl 1 (by decide) (hts _ (List.mem_cons_of_mem _ k_242)) (fun _ h9 => h9) rfl d_EF_count_69 ?_
        have hP9 := hP.sub (ws' := [(h0, .inr (5, [.ref tw, .int ln, .int fl, .ref ps, .ref wk, .ref mA, .ref sA])), (mA, .inr (0, [.int ns, .int npos, .int ncc, .ref m1, .ref m2, .ref m3, .ref m4, .ref m5, .ref m6, .ref m7])), (wk, .inr (4, [.int wat, .int wen, .int wfe, .ref d1])), (d1, .inl ((cA 0), 10, .inl dn))]) [0, 1, 2, 3] rfl
        have hD9 := hD.sub (ws' := [(h0, .inr (5, [.ref tw, .int ln, .int fl, .ref ps, .ref wk, .ref mA, .ref sA])), (mA, .inr (0, [.int ns, .int npos, .int ncc, .ref m1, .ref m2, .ref m3, .ref m4, .ref m5, .ref m6, .ref m7])), (wk, .inr (4, [.int wat, .int wen, .int wfe, .ref d1])), (d1, .inl ((cA 0), 10, .inl dn))]) [0, 1, 2, 3] (by decide) rfl
        refine W_end hQz ?_
        refine W.widen (k := 1) (n := 6) (by decide) (by decide) ?_
        refine vx_ret ?_
        exact W.iret (v := ln) hx hb hr (fun t ht hW => ⟨⟨ln, (), rfl, hf, P_cg ht.symm hP9, va_K.moved hW.alike hK, hD9⟩, hS.F ht⟩) hS.2.2 d_EF_count_72 hlocks
      · replace hc_2 : p1 = 1 := Int32.toInt_inj.mp (hc_2.trans (by decide))
        replace hf := hf.2.1 hc_2
        refine lv_tableIn (off := 47) (tgt := 73) hx hb d_EF_count_26 (by rw [hc_2]; decide) (by rw [hc_2]; decide) (by rw [hc_2]; decide) (by decide) ?_
        refine lv_aload_n hx hb d_EF_count_73 rfl (lv_at hl 0 rfl) ?_
        refine va_get (D := (dC, dI)) (ci := 5) (v := .ref mA) (C := RX5) (T := TX5) (N := 7) hx hb hts (fun w h => List.mem_cons_of_mem _ (in_X5 w h)) hown hK hP 0 rfl rfl 5 (by decide) (hts _ (List.mem_cons_of_mem _ k_246)) (fun _ h9 => h9) rfl d_EF_count_74 ?_
        refine va_getN (D := (dC, dI)) (ci := 0) (v := .int ns) (C := RX0) (T := TX0) (N := 10) hx hb hts (fun w h => List.mem_cons_of_mem _ (in_X0 w h)) hown hK hP 1 rfl rfl 0 (by decide) (va_Nw.use rfl (hN _ nl_17)) (fun _ h9 => h9) rfl d_EF_count_77 ?_
        have hP9 := hP.sub (ws' := [(h0, .inr (5, [.ref tw, .int ln, .int fl, .ref ps, .ref wk, .ref mA, .ref sA])), (mA, .inr (0, [.int ns, .int npos, .int ncc, .ref m1, .ref m2, .ref m3, .ref m4, .ref m5, .ref m6, .ref m7])), (wk, .inr (4, [.int wat, .int wen, .int wfe, .ref d1])), (d1, .inl ((cA 0), 10, .inl dn))]) [0, 1, 2, 3] rfl
        have hD9 := hD.sub (ws' := [(h0, .inr (5, [.ref tw, .int ln, .int fl, .ref ps, .ref wk, .ref mA, .ref sA])), (mA, .inr (0, [.int ns, .int npos, .int ncc, .ref m1, .ref m2, .ref m3, .ref m4, .ref m5, .ref m6, .ref m7])), (wk, .inr (4, [.int wat, .int wen, .int wfe, .ref d1])), (d1, .inl ((cA 0), 10, .inl dn))]) [0, 1, 2, 3] (by decide) rfl
        refine W_end hQz ?_
        refine W.widen (k := 1) (n := 6) (by decide) (by decide) ?_
        refine vx_ret ?_
        exact W.iret (v := ns) hx hb hr (fun t ht hW => ⟨⟨ns, (), rfl, hf, P_cg ht.symm hP9, va_K.moved hW.alike hK, hD9⟩, hS.F ht⟩) hS.2.2 d_EF_count_80 hlocks
      · replace hc_2 : p1 = 2 := Int32.toInt_inj.mp (hc_2.trans (by decide))
        replace hf := hf.2.2.1 hc_2
        refine lv_tableIn (off := 55) (tgt := 81) hx hb d_EF_count_26 (by rw [hc_2]; decide) (by rw [hc_2]; decide) (by rw [hc_2]; decide) (by decide) ?_
        refine lv_aload_n hx hb d_EF_count_81 rfl (lv_at hl 0 rfl) ?_
        refine va_get (D := (dC, dI)) (ci := 5) (v := .ref mA) (C := RX5) (T := TX5) (N := 7) hx hb hts (fun w h => List.mem_cons_of_mem _ (in_X5 w h)) hown hK hP 0 rfl rfl 5 (by decide) (hts _ (List.mem_cons_of_mem _ k_246)) (fun _ h9 => h9) rfl d_EF_count_82 ?_
        refine va_getN (D := (dC, dI)) (ci := 0) (v := .int ncc) (C := RX0) (T := TX0) (N := 10) hx hb hts (fun w h => List.mem_cons_of_mem _ (in_X0 w h)) hown hK hP 1 rfl rfl 2 (by decide) (va_Nw.use rfl (hN _ nl_19)) (fun _ h9 => h9) rfl d_EF_count_85 ?_
        have hP9 := hP.sub (ws' := [(h0, .inr (5, [.ref tw, .int ln, .int fl, .ref ps, .ref wk, .ref mA, .ref sA])), (mA, .inr (0, [.int ns, .int npos, .int ncc, .ref m1, .ref m2, .ref m3, .ref m4, .ref m5, .ref m6, .ref m7])), (wk, .inr (4, [.int wat, .int wen, .int wfe, .ref d1])), (d1, .inl ((cA 0), 10, .inl dn))]) [0, 1, 2, 3] rfl
        have hD9 := hD.sub (ws' := [(h0, .inr (5, [.ref tw, .int ln, .int fl, .ref ps, .ref wk, .ref mA, .ref sA])), (mA, .inr (0, [.int ns, .int npos, .int ncc, .ref m1, .ref m2, .ref m3, .ref m4, .ref m5, .ref m6, .ref m7])), (wk, .inr (4, [.int wat, .int wen, .int wfe, .ref d1])), (d1, .inl ((cA 0), 10, .inl dn))]) [0, 1, 2, 3] (by decide) rfl
        refine W_end hQz ?_
        refine W.widen (k := 1) (n := 6) (by decide) (by decide) ?_
        refine vx_ret ?_
        exact W.iret (v := ncc) hx hb hr (fun t ht hW => ⟨⟨ncc, (), rfl, hf, P_cg ht.symm hP9, va_K.moved hW.alike hK, hD9⟩, hS.F ht⟩) hS.2.2 d_EF_count_88 hlocks
      · replace hc_2 : p1 = 3 := Int32.toInt_inj.mp (hc_2.trans (by decide))
        replace hf := hf.2.2.2.1 hc_2
        refine lv_tableIn (off := 63) (tgt := 89) hx hb d_EF_count_26 (by rw [hc_2]; decide) (by rw [hc_2]; decide) (by rw [hc_2]; decide) (by decide) ?_
        refine lv_aload_n hx hb d_EF_count_89 rfl (lv_at hl 0 rfl) ?_
        refine va_get (D := (dC, dI)) (ci := 5) (v := .ref mA) (C := RX5) (T := TX5) (N := 7) hx hb hts (fun w h => List.mem_cons_of_mem _ (in_X5 w h)) hown hK hP 0 rfl rfl 5 (by decide) (hts _ (List.mem_cons_of_mem _ k_246)) (fun _ h9 => h9) rfl d_EF_count_90 ?_
        refine va_getN (D := (dC, dI)) (ci := 0) (v := .int npos) (C := RX0) (T := TX0) (N := 10) hx hb hts (fun w h => List.mem_cons_of_mem _ (in_X0 w h)) hown hK hP 1 rfl rfl 1 (by decide) (va_Nw.use rfl (hN _ nl_18)) (fun _ h9 => h9) rfl d_EF_count_93 ?_
        have hP9 := hP.sub (ws' := [(h0, .inr (5, [.ref tw, .int ln, .int fl, .ref ps, .ref wk, .ref mA, .ref sA])), (mA, .inr (0, [.int ns, .int npos, .int ncc, .ref m1, .ref m2, .ref m3, .ref m4, .ref m5, .ref m6, .ref m7])), (wk, .inr (4, [.int wat, .int wen, .int wfe, .ref d1])), (d1, .inl ((cA 0), 10, .inl dn))]) [0, 1, 2, 3] rfl
        have hD9 := hD.sub (ws' := [(h0, .inr (5, [.ref tw, .int ln, .int fl, .ref ps, .ref wk, .ref mA, .ref sA])), (mA, .inr (0, [.int ns, .int npos, .int ncc, .ref m1, .ref m2, .ref m3, .ref m4, .ref m5, .ref m6, .ref m7])), (wk, .inr (4, [.int wat, .int wen, .int wfe, .ref d1])), (d1, .inl ((cA 0), 10, .inl dn))]) [0, 1, 2, 3] (by decide) rfl
        refine W_end hQz ?_
        refine W.widen (k := 1) (n := 6) (by decide) (by decide) ?_
        refine vx_ret ?_
        exact W.iret (v := npos) hx hb hr (fun t ht hW => ⟨⟨npos, (), rfl, hf, P_cg ht.symm hP9, va_K.moved hW.alike hK, hD9⟩, hS.F ht⟩) hS.2.2 d_EF_count_96 hlocks
      · replace hc_2 : p1 = 4 := Int32.toInt_inj.mp (hc_2.trans (by decide))
        replace hf := hf.2.2.2.2.1 hc_2
        refine lv_tableIn (off := 71) (tgt := 97) hx hb d_EF_count_26 (by rw [hc_2]; decide) (by rw [hc_2]; decide) (by rw [hc_2]; decide) (by decide) ?_
        refine lv_aload_n hx hb d_EF_count_97 rfl (lv_at hl 0 rfl) ?_
        refine va_get (D := (dC, dI)) (ci := 5) (v := .ref wk) (C := RX5) (T := TX5) (N := 7) hx hb hts (fun w h => List.mem_cons_of_mem _ (in_X5 w h)) hown hK hP 0 rfl rfl 4 (by decide) (hts _ (List.mem_cons_of_mem _ k_245)) (fun _ h9 => h9) rfl d_EF_count_98 ?_
        refine va_getN (D := (dC, dI)) (ci := 4) (v := .int wat) (C := RX4) (T := TX4) (N := 4) hx hb hts (fun w h => List.mem_cons_of_mem _ (in_X4 w h)) hown hK hP 2 rfl rfl 0 (by decide) (va_Nw.use rfl (hN _ nl_13)) (fun _ h9 => h9) rfl d_EF_count_101 ?_
        have hP9 := hP.sub (ws' := [(h0, .inr (5, [.ref tw, .int ln, .int fl, .ref ps, .ref wk, .ref mA, .ref sA])), (mA, .inr (0, [.int ns, .int npos, .int ncc, .ref m1, .ref m2, .ref m3, .ref m4, .ref m5, .ref m6, .ref m7])), (wk, .inr (4, [.int wat, .int wen, .int wfe, .ref d1])), (d1, .inl ((cA 0), 10, .inl dn))]) [0, 1, 2, 3] rfl
        have hD9 := hD.sub (ws' := [(h0, .inr (5, [.ref tw, .int ln, .int fl, .ref ps, .ref wk, .ref mA, .ref sA])), (mA, .inr (0, [.int ns, .int npos, .int ncc, .ref m1, .ref m2, .ref m3, .ref m4, .ref m5, .ref m6, .ref m7])), (wk, .inr (4, [.int wat, .int wen, .int wfe, .ref d1])), (d1, .inl ((cA 0), 10, .inl dn))]) [0, 1, 2, 3] (by decide) rfl
        refine W_end hQz ?_
        refine W.widen (k := 1) (n := 6) (by decide) (by decide) ?_
        refine vx_ret ?_
        exact W.iret (v := wat) hx hb hr (fun t ht hW => ⟨⟨wat, (), rfl, hf, P_cg ht.symm hP9, va_K.moved hW.alike hK, hD9⟩, hS.F ht⟩) hS.2.2 d_EF_count_104 hlocks
      · replace hc_2 : p1 = 5 := Int32.toInt_inj.mp (hc_2.trans (by decide))
        replace hf := hf.2.2.2.2.2.1 hc_2
        refine lv_tableIn (off := 79) (tgt := 105) hx hb d_EF_count_26 (by rw [hc_2]; decide) (by rw [hc_2]; decide) (by rw [hc_2]; decide) (by decide) ?_
        refine lv_aload_n hx hb d_EF_count_105 rfl (lv_at hl 0 rfl) ?_
        refine va_get (D := (dC, dI)) (ci := 5) (v := .ref wk) (C := RX5) (T := TX5) (N := 7) hx hb hts (fun w h => List.mem_cons_of_mem _ (in_X5 w h)) hown hK hP 0 rfl rfl 4 (by decide) (hts _ (List.mem_cons_of_mem _ k_245)) (fun _ h9 => h9) rfl d_EF_count_106 ?_
        refine va_getN (D := (dC, dI)) (ci := 4) (v := .int wen) (C := RX4) (T := TX4) (N := 4) hx hb hts (fun w h => List.mem_cons_of_mem _ (in_X4 w h)) hown hK hP 2 rfl rfl 1 (by decide) (va_Nw.use rfl (hN _ nl_14)) (fun _ h9 => h9) rfl d_EF_count_109 ?_
        refine lv_if_eq (tgt := 119) hx hb d_EF_count_112 (by decide) (fun c_8 => ?_) (fun c_8 => ?_)
        · replace hf := hf.1 c_8
          refine lv_iconst (v := 0) hx hb d_EF_count_119 (by decide) ?_
          have hP9 := hP.sub (ws' := [(h0, .inr (5, [.ref tw, .int ln, .int fl, .ref ps, .ref wk, .ref mA, .ref sA])), (mA, .inr (0, [.int ns, .int npos, .int ncc, .ref m1, .ref m2, .ref m3, .ref m4, .ref m5, .ref m6, .ref m7])), (wk, .inr (4, [.int wat, .int wen, .int wfe, .ref d1])), (d1, .inl ((cA 0), 10, .inl dn))]) [0, 1, 2, 3] rfl
          have hD9 := hD.sub (ws' := [(h0, .inr (5, [.ref tw, .int ln, .int fl, .ref ps, .ref wk, .ref mA, .ref sA])), (mA, .inr (0, [.int ns, .int npos, .int ncc, .ref m1, .ref m2, .ref m3, .ref m4, .ref m5, .ref m6, .ref m7])), (wk, .inr (4, [.int wat, .int wen, .int wfe, .ref d1])), (d1, .inl ((cA 0), 10, .inl dn))]) [0, 1, 2, 3] (by decide) rfl
          refine W_end hQz ?_
          refine W.widen (k := 1) (n := 6) (by decide) (by decide) ?_
          refine vx_ret ?_
          exact W.iret (v := 0) hx hb hr (fun t ht hW => ⟨⟨0, (), rfl, hf, P_cg ht.symm hP9, va_K.moved hW.alike hK, hD9⟩, hS.F ht⟩) hS.2.2 d_EF_count_120 hlocks
        · replace hf := hf.2 c_8
          refine lv_iconst (v := 1) hx hb d_EF_count_115 (by decide) ?_
          refine lv_goto (tgt := 120) hx hb d_EF_count_116 (by decide) ?_
          have hP9 := hP.sub (ws' := [(h0, .inr (5, [.ref tw, .int ln, .int fl, .ref ps, .ref wk, .ref mA, .ref sA])), (mA, .inr (0, [.int ns, .int npos, .int ncc, .ref m1, .ref m2, .ref m3, .ref m4, .ref m5, .ref m6, .ref m7])), (wk, .inr (4, [.int wat, .int wen, .int wfe, .ref d1])), (d1, .inl ((cA 0), 10, .inl dn))]) [0, 1, 2, 3] rfl
          have hD9 := hD.sub (ws' := [(h0, .inr (5, [.ref tw, .int ln, .int fl, .ref ps, .ref wk, .ref mA, .ref sA])), (mA, .inr (0, [.int ns, .int npos, .int ncc, .ref m1, .ref m2, .ref m3, .ref m4, .ref m5, .ref m6, .ref m7])), (wk, .inr (4, [.int wat, .int wen, .int wfe, .ref d1])), (d1, .inl ((cA 0), 10, .inl dn))]) [0, 1, 2, 3] (by decide) rfl
          refine W_end hQz ?_
          refine W.widen (k := 1) (n := 6) (by decide) (by decide) ?_
          refine vx_ret ?_
          exact W.iret (v := 1) hx hb hr (fun t ht hW => ⟨⟨1, (), rfl, hf, P_cg ht.symm hP9, va_K.moved hW.alike hK, hD9⟩, hS.F ht⟩) hS.2.2 d_EF_count_120 hlocks
      · replace hc_2 : p1 = 6 := Int32.toInt_inj.mp (hc_2.trans (by decide))
        replace hf := hf.2.2.2.2.2.2 hc_2
        refine lv_tableIn (off := 95) (tgt := 121) hx hb d_EF_count_26 (by rw [hc_2]; decide) (by rw [hc_2]; decide) (by rw [hc_2]; decide) (by decide) ?_
        refine lv_aload_n hx hb d_EF_count_121 rfl (lv_at hl 0 rfl) ?_
        refine va_get (D := (dC, dI)) (ci := 5) (v := .ref wk) (C := RX5) (T := TX5) (N := 7) hx hb hts (fun w h => List.mem_cons_of_mem _ (in_X5 w h)) hown hK hP 0 rfl rfl 4 (by decide) (hts _ (List.mem_cons_of_mem _ k_245)) (fun _ h9 => h9) rfl d_EF_count_122 ?_
        refine va_getN (D := (dC, dI)) (ci := 4) (v := .int wfe) (C := RX4) (T := TX4) (N := 4) hx hb hts (fun w h => List.mem_cons_of_mem _ (in_X4 w h)) hown hK hP 2 rfl rfl 2 (by decide) (va_Nw.use rfl (hN _ nl_15)) (fun _ h9 => h9) rfl d_EF_count_125 ?_
        have hP9 := hP.sub (ws' := [(h0, .inr (5, [.ref tw, .int ln, .int fl, .ref ps, .ref wk, .ref mA, .ref sA])), (mA, .inr (0, [.int ns, .int npos, .int ncc, .ref m1, .ref m2, .ref m3, .ref m4, .ref m5, .ref m6, .ref m7])), (wk, .inr (4, [.int wat, .int wen, .int wfe, .ref d1])), (d1, .inl ((cA 0), 10, .inl dn))]) [0, 1, 2, 3] rfl
        have hD9 := hD.sub (ws' := [(h0, .inr (5, [.ref tw, .int ln, .int fl, .ref ps, .ref wk, .ref mA, .ref sA])), (mA, .inr (0, [.int ns, .int npos, .int ncc, .ref m1, .ref m2, .ref m3, .ref m4, .ref m5, .ref m6, .ref m7])), (wk, .inr (4, [.int wat, .int wen, .int wfe, .ref d1])), (d1, .inl ((cA 0), 10, .inl dn))]) [0, 1, 2, 3] (by decide) rfl
        refine W_end hQz ?_
        refine W.widen (k := 1) (n := 6) (by decide) (by decide) ?_
        refine vx_ret ?_
        exact W.iret (v := wfe) hx hb hr (fun t ht hW => ⟨⟨wfe, (), rfl, hf, P_cg ht.symm hP9, va_K.moved hW.alike hK, hD9⟩, hS.F ht⟩) hS.2.2 d_EF_count_128 hlocks
  · replace hf := hf.2 c_1
    refine lv_iload_n hx hb d_EF_count_6 rfl (lv_at hl 1 rfl) ?_
    refine lv_bipush (v := 20) hx hb d_EF_count_7 (by decide) ?_
    refine lv_icmp_ge (tgt := 25) hx hb d_EF_count_9 (by decide) (fun c_12 => ?_) (fun c_12 => ?_)
    · replace hf := hf.1 c_12
      refine lv_iload_n hx hb d_EF_count_25 rfl (lv_at hl 1 rfl) ?_
      by_cases hd_13 : p1.toInt < 0 ∨ 6 < p1.toInt
      · replace hf := hf.1 hd_13
        refine lv_tableOut (tgt := 129) hx hb d_EF_count_26 hd_13 (by decide) ?_
        have hP9 := hP.sub (ws' := [(h0, .inr (5, [.ref tw, .int ln, .int fl, .ref ps, .ref wk, .ref mA, .ref sA])), (mA, .inr (0, [.int ns, .int npos, .int ncc, .ref m1, .ref m2, .ref m3, .ref m4, .ref m5, .ref m6, .ref m7])), (wk, .inr (4, [.int wat, .int wen, .int wfe, .ref d1])), (d1, .inl ((cA 0), 10, .inl dn))]) [0, 1, 2, 3] rfl
        have hD9 := hD.sub (ws' := [(h0, .inr (5, [.ref tw, .int ln, .int fl, .ref ps, .ref wk, .ref mA, .ref sA])), (mA, .inr (0, [.int ns, .int npos, .int ncc, .ref m1, .ref m2, .ref m3, .ref m4, .ref m5, .ref m6, .ref m7])), (wk, .inr (4, [.int wat, .int wen, .int wfe, .ref d1])), (d1, .inl ((cA 0), 10, .inl dn))]) [0, 1, 2, 3] (by decide) rfl
        refine W_end hQz ?_
        exact vx_throw0 (own := RX5) (cls := "java/lang/IllegalArgumentException") (names := ["java/lang/RuntimeException", "java/lang/Exception"]) hx hb hl9 hown (by decide +kernel) (by decide +kernel) (hts _ (List.mem_cons_of_mem _ k_283)) (hts _ (List.mem_cons_of_mem _ k_59)) (hat_IllegalArgument hts hX9) (by decide +kernel) hX9.2.2.1 hX9.2.2.2 hS (hl.1.trans hml.symm) d_EF_count_129 d_EF_count_132 d_EF_count_133 d_EF_count_136 (fun x h9 => (ht9 x h9).elim) (Nat.le_of_ble_eq_true rfl) (Nat.le_of_ble_eq_true rfl) (by decide) (by decide) hlocks (fun t ha hsz hk => ⟨(), trivial, ⟨hf, hP9.kept (fun k q hq => hk q.1 (hP9 k q hq).lt), va_K.moved ha hK, hD9⟩, Nat.le_trans hS.1 hsz, fun q h1 h2 => (hk q (Nat.lt_of_lt_of_le h1 hS.1)).trans (hS.2.1 q h1 h2)⟩) hS.2.2 (by decide) (by decide)
      · replace hf := hf.2
        have hc_13 : p1.toInt = 0 ∨ p1.toInt = 1 ∨ p1.toInt = 2 ∨ p1.toInt = 3 ∨ p1.toInt = 4 ∨ p1.toInt = 5 ∨ p1.toInt = 6 := by omega
        rcases hc_13 with hc_13 | hc_13 | hc_13 | hc_13 | hc_13 | hc_13 | hc_13
        · replace hc_13 : p1 = 0 := Int32.toInt_inj.mp (hc_13.trans (by decide))
          replace hf := hf.1 hc_13
          refine lv_tableIn (off := 42) (tgt := 68) hx hb d_EF_count_26 (by rw [hc_13]; decide) (by rw [hc_13]; decide) (by rw [hc_13]; decide) (by decide) ?_
          refine lv_aload_n hx hb d_EF_count_68 rfl (lv_at hl 0 rfl) ?_
          refine va_get (D := (dC, dI)) (ci := 5) (v := .int ln) (C := RX5) (T := TX5) (N := 7) hx hb hts (fun w h => List.mem_cons_of_mem _ (in_X5 w h)) hown hK hP 0 rfl rfl 1 (by decide) (hts _ (List.mem_cons_of_mem _ k_242)) (fun _ h9 => h9) rfl d_EF_count_69 ?_
          have hP9 := hP.sub (ws' := [(h0, .inr (5, [.ref tw, .int ln, .int fl, .ref ps, .ref wk, .ref mA, .ref sA])), (mA, .inr (0, [.int ns, .int npos, .int ncc, .ref m1, .ref m2, .ref m3, .ref m4, .ref m5, .ref m6, .ref m7])), (wk, .inr (4, [.int wat, .int wen, .int wfe, .ref d1])), (d1, .inl ((cA 0), 10, .inl dn))]) [0, 1, 2, 3] rfl
          have hD9 := hD.sub (ws' := [(h0, .inr (5, [.ref tw, .int ln, .int fl, .ref ps, .ref wk, .ref mA, .ref sA])), (mA, .inr (0, [.int ns, .int npos, .int ncc, .ref m1, .ref m2, .ref m3, .ref m4, .ref m5, .ref m6, .ref m7])), (wk, .inr (4, [.int wat, .int wen, .int wfe, .ref d1])), (d1, .inl ((cA 0), 10, .inl dn))]) [0, 1, 2, 3] (by decide) rfl
          refine W_end hQz ?_
          refine W.widen (k := 1) (n := 6) (by decide) (by decide) ?_
          refine vx_ret ?_
          exact W.iret (v := ln) hx hb hr (fun t ht hW => ⟨⟨ln, (), rfl, hf, P_cg ht.symm hP9, va_K.moved hW.alike hK, hD9⟩, hS.F ht⟩) hS.2.2 d_EF_count_72 hlocks
        · replace hc_13 : p1 = 1 := Int32.toInt_inj.mp (hc_13.trans (by decide))
          replace hf := hf.2.1 hc_13
          refine lv_tableIn (off := 47) (tgt := 73) hx hb d_EF_count_26 (by rw [hc_13]; decide) (by rw [hc_13]; decide) (by rw [hc_13]; decide) (by decide) ?_
          refine lv_aload_n hx hb d_EF_count_73 rfl (lv_at hl 0 rfl) ?_
          refine va_get (D := (dC, dI)) (ci := 5) (v := .ref mA) (C := RX5) (T := TX5) (N := 7) hx hb hts (fun w h => List.mem_cons_of_mem _ (in_X5 w h)) hown hK hP 0 rfl rfl 5 (by decide) (hts _ (List.mem_cons_of_mem _ k_246)) (fun _ h9 => h9) rfl d_EF_count_74 ?_
          refine va_getN (D := (dC, dI)) (ci := 0) (v := .int ns) (C := RX0) (T := TX0) (N := 10) hx hb hts (fun w h => List.mem_cons_of_mem _ (in_X0 w h)) hown hK hP 1 rfl rfl 0 (by decide) (va_Nw.use rfl (hN _ nl_17)) (fun _ h9 => h9) rfl d_EF_count_77 ?_
          have hP9 := hP.sub (ws' := [(h0, .inr (5, [.ref tw, .int ln, .int fl, .ref ps, .ref wk, .ref mA, .ref sA])), (mA, .inr (0, [.int ns, .int npos, .int ncc, .ref m1, .ref m2, .ref m3, .ref m4, .ref m5, .ref m6, .ref m7])), (wk, .inr (4, [.int wat, .int wen, .int wfe, .ref d1])), (d1, .inl ((cA 0), 10, .inl dn))]) [0, 1, 2, 3] rfl
          have hD9 := hD.sub (ws' := [(h0, .inr (5, [.ref tw, .int ln, .int fl, .ref ps, .ref wk, .ref mA, .ref sA])), (mA, .inr (0, [.int ns, .int npos, .int ncc, .ref m1, .ref m2, .ref m3, .ref m4, .ref m5, .ref m6, .ref m7])), (wk, .inr (4, [.int wat, .int wen, .int wfe, .ref d1])), (d1, .inl ((cA 0), 10, .inl dn))]) [0, 1, 2, 3] (by decide) rfl
          refine W_end hQz ?_
          refine W.widen (k := 1) (n := 6) (by decide) (by decide) ?_
          refine vx_ret ?_
          exact W.iret (v := ns) hx hb hr (fun t ht hW => ⟨⟨ns, (), rfl, hf, P_cg ht.symm hP9, va_K.moved hW.alike hK, hD9⟩, hS.F ht⟩) hS.2.2 d_EF_count_80 hlocks
        · replace hc_13 : p1 = 2 := Int32.toInt_inj.mp (hc_13.trans (by decide))
          replace hf := hf.2.2.1 hc_13
          refine lv_tableIn (off := 55) (tgt := 81) hx hb d_EF_count_26 (by rw [hc_13]; decide) (by rw [hc_13]; decide) (by rw [hc_13]; decide) (by decide) ?_
          refine lv_aload_n hx hb d_EF_count_81 rfl (lv_at hl 0 rfl) ?_
          refine va_get (D := (dC, dI)) (ci := 5) (v := .ref mA) (C := RX5) (T := TX5) (N := 7) hx hb hts (fun w h => List.mem_cons_of_mem _ (in_X5 w h)) hown hK hP 0 rfl rfl 5 (by decide) (hts _ (List.mem_cons_of_mem _ k_246)) (fun _ h9 => h9) rfl d_EF_count_82 ?_
          refine va_getN (D := (dC, dI)) (ci := 0) (v := .int ncc) (C := RX0) (T := TX0) (N := 10) hx hb hts (fun w h => List.mem_cons_of_mem _ (in_X0 w h)) hown hK hP 1 rfl rfl 2 (by decide) (va_Nw.use rfl (hN _ nl_19)) (fun _ h9 => h9) rfl d_EF_count_85 ?_
          have hP9 := hP.sub (ws' := [(h0, .inr (5, [.ref tw, .int ln, .int fl, .ref ps, .ref wk, .ref mA, .ref sA])), (mA, .inr (0, [.int ns, .int npos, .int ncc, .ref m1, .ref m2, .ref m3, .ref m4, .ref m5, .ref m6, .ref m7])), (wk, .inr (4, [.int wat, .int wen, .int wfe, .ref d1])), (d1, .inl ((cA 0), 10, .inl dn))]) [0, 1, 2, 3] rfl
          have hD9 := hD.sub (ws' := [(h0, .inr (5, [.ref tw, .int ln, .int fl, .ref ps, .ref wk, .ref mA, .ref sA])), (mA, .inr (0, [.int ns, .int npos, .int ncc, .ref m1, .ref m2, .ref m3, .ref m4, .ref m5, .ref m6, .ref m7])), (wk, .inr (4, [.int wat, .int wen, .int wfe, .ref d1])), (d1, .inl ((cA 0), 10, .inl dn))]) [0, 1, 2, 3] (by decide) rfl
          refine W_end hQz ?_
          refine W.widen (k := 1) (n := 6) (by decide) (by decide) ?_
          refine vx_ret ?_
          exact W.iret (v := ncc) hx hb hr (fun t ht hW => ⟨⟨ncc, (), rfl, hf, P_cg ht.symm hP9, va_K.moved hW.alike hK, hD9⟩, hS.F ht⟩) hS.2.2 d_EF_count_88 hlocks
        · replace hc_13 : p1 = 3 := Int32.toInt_inj.mp (hc_13.trans (by decide))
          replace hf := hf.2.2.2.1 hc_13
          refine lv_tableIn (off := 63) (tgt := 89) hx hb d_EF_count_26 (by rw [hc_13]; decide) (by rw [hc_13]; decide) (by rw [hc_13]; decide) (by decide) ?_
          refine lv_aload_n hx hb d_EF_count_89 rfl (lv_at hl 0 rfl) ?_
          refine va_get (D := (dC, dI)) (ci := 5) (v := .ref mA) (C := RX5) (T := TX5) (N := 7) hx hb hts (fun w h => List.mem_cons_of_mem _ (in_X5 w h)) hown hK hP 0 rfl rfl 5 (by decide) (hts _ (List.mem_cons_of_mem _ k_246)) (fun _ h9 => h9) rfl d_EF_count_90 ?_
          refine va_getN (D := (dC, dI)) (ci := 0) (v := .int npos) (C := RX0) (T := TX0) (N := 10) hx hb hts (fun w h => List.mem_cons_of_mem _ (in_X0 w h)) hown hK hP 1 rfl rfl 1 (by decide) (va_Nw.use rfl (hN _ nl_18)) (fun _ h9 => h9) rfl d_EF_count_93 ?_
          have hP9 := hP.sub (ws' := [(h0, .inr (5, [.ref tw, .int ln, .int fl, .ref ps, .ref wk, .ref mA, .ref sA])), (mA, .inr (0, [.int ns, .int npos, .int ncc, .ref m1, .ref m2, .ref m3, .ref m4, .ref m5, .ref m6, .ref m7])), (wk, .inr (4, [.int wat, .int wen, .int wfe, .ref d1])), (d1, .inl ((cA 0), 10, .inl dn))]) [0, 1, 2, 3] rfl
          have hD9 := hD.sub (ws' := [(h0, .inr (5, [.ref tw, .int ln, .int fl, .ref ps, .ref wk, .ref mA, .ref sA])), (mA, .inr (0, [.int ns, .int npos, .int ncc, .ref m1, .ref m2, .ref m3, .ref m4, .ref m5, .ref m6, .ref m7])), (wk, .inr (4, [.int wat, .int wen, .int wfe, .ref d1])), (d1, .inl ((cA 0), 10, .inl dn))]) [0, 1, 2, 3] (by decide) rfl
          refine W_end hQz ?_
          refine W.widen (k := 1) (n := 6) (by decide) (by decide) ?_
          refine vx_ret ?_
          exact W.iret (v := npos) hx hb hr (fun t ht hW => ⟨⟨npos, (), rfl, hf, P_cg ht.symm hP9, va_K.moved hW.alike hK, hD9⟩, hS.F ht⟩) hS.2.2 d_EF_count_96 hlocks
        · replace hc_13 : p1 = 4 := Int32.toInt_inj.mp (hc_13.trans (by decide))
          replace hf := hf.2.2.2.2.1 hc_13
          refine lv_tableIn (off := 71) (tgt := 97) hx hb d_EF_count_26 (by rw [hc_13]; decide) (by rw [hc_13]; decide) (by rw [hc_13]; decide) (by decide) ?_
          refine lv_aload_n hx hb d_EF_count_97 rfl (lv_at hl 0 rfl) ?_
          refine va_get (D := (dC, dI)) (ci := 5) (v := .ref wk) (C := RX5) (T := TX5) (N := 7) hx hb hts (fun w h => List.mem_cons_of_mem _ (in_X5 w h)) hown hK hP 0 rfl rfl 4 (by decide) (hts _ (List.mem_cons_of_mem _ k_245)) (fun _ h9 => h9) rfl d_EF_count_98 ?_
          refine va_getN (D := (dC, dI)) (ci := 4) (v := .int wat) (C := RX4) (T := TX4) (N := 4) hx hb hts (fun w h => List.mem_cons_of_mem _ (in_X4 w h)) hown hK hP 2 rfl rfl 0 (by decide) (va_Nw.use rfl (hN _ nl_13)) (fun _ h9 => h9) rfl d_EF_count_101 ?_
          have hP9 := hP.sub (ws' := [(h0, .inr (5, [.ref tw, .int ln, .int fl, .ref ps, .ref wk, .ref mA, .ref sA])), (mA, .inr (0, [.int ns, .int npos, .int ncc, .ref m1, .ref m2, .ref m3, .ref m4, .ref m5, .ref m6, .ref m7])), (wk, .inr (4, [.int wat, .int wen, .int wfe, .ref d1])), (d1, .inl ((cA 0), 10, .inl dn))]) [0, 1, 2, 3] rfl
          have hD9 := hD.sub (ws' := [(h0, .inr (5, [.ref tw, .int ln, .int fl, .ref ps, .ref wk, .ref mA, .ref sA])), (mA, .inr (0, [.int ns, .int npos, .int ncc, .ref m1, .ref m2, .ref m3, .ref m4, .ref m5, .ref m6, .ref m7])), (wk, .inr (4, [.int wat, .int wen, .int wfe, .ref d1])), (d1, .inl ((cA 0), 10, .inl dn))]) [0, 1, 2, 3] (by decide) rfl
          refine W_end hQz ?_
          refine W.widen (k := 1) (n := 6) (by decide) (by decide) ?_
          refine vx_ret ?_
          exact W.iret (v := wat) hx hb hr (fun t ht hW => ⟨⟨wat, (), rfl, hf, P_cg ht.symm hP9, va_K.moved hW.alike hK, hD9⟩, hS.F ht⟩) hS.2.2 d_EF_count_104 hlocks
        · replace hc_13 : p1 = 5 := Int32.toInt_inj.mp (hc_13.trans (by decide))
          replace hf := hf.2.2.2.2.2.1 hc_13
          refine lv_tableIn (off := 79) (tgt := 105) hx hb d_EF_count_26 (by rw [hc_13]; decide) (by rw [hc_13]; decide) (by rw [hc_13]; decide) (by decide) ?_
          refine lv_aload_n hx hb d_EF_count_105 rfl (lv_at hl 0 rfl) ?_
          refine va_get (D := (dC, dI)) (ci := 5) (v := .ref wk) (C := RX5) (T := TX5) (N := 7) hx hb hts (fun w h => List.mem_cons_of_mem _ (in_X5 w h)) hown hK hP 0 rfl rfl 4 (by decide) (hts _ (List.mem_cons_of_mem _ k_245)) (fun _ h9 => h9) rfl d_EF_count_106 ?_
          refine va_getN (D := (dC, dI)) (ci := 4) (v := .int wen) (C := RX4) (T := TX4) (N := 4) hx hb hts (fun w h => List.mem_cons_of_mem _ (in_X4 w h)) hown hK hP 2 rfl rfl 1 (by decide) (va_Nw.use rfl (hN _ nl_14)) (fun _ h9 => h9) rfl d_EF_count_109 ?_
          refine lv_if_eq (tgt := 119) hx hb d_EF_count_112 (by decide) (fun c_19 => ?_) (fun c_19 => ?_)
          · replace hf := hf.1 c_19
            refine lv_iconst (v := 0) hx hb d_EF_count_119 (by decide) ?_
            have hP9 := hP.sub (ws' := [(h0, .inr (5, [.ref tw, .int ln, .int fl, .ref ps, .ref wk, .ref mA, .ref sA])), (mA, .inr (0, [.int ns, .int npos, .int ncc, .ref m1, .ref m2, .ref m3, .ref m4, .ref m5, .ref m6, .ref m7])), (wk, .inr (4, [.int wat, .int wen, .int wfe, .ref d1])), (d1, .inl ((cA 0), 10, .inl dn))]) [0, 1, 2, 3] rfl
            have hD9 := hD.sub (ws' := [(h0, .inr (5, [.ref tw, .int ln, .int fl, .ref ps, .ref wk, .ref mA, .ref sA])), (mA, .inr (0, [.int ns, .int npos, .int ncc, .ref m1, .ref m2, .ref m3, .ref m4, .ref m5, .ref m6, .ref m7])), (wk, .inr (4, [.int wat, .int wen, .int wfe, .ref d1])), (d1, .inl ((cA 0), 10, .inl dn))]) [0, 1, 2, 3] (by decide) rfl
            refine W_end hQz ?_
            refine W.widen (k := 1) (n := 6) (by decide) (by decide) ?_
            refine vx_ret ?_
            exact W.iret (v := 0) hx hb hr (fun t ht hW => ⟨⟨0, (), rfl, hf, P_cg ht.symm hP9, va_K.moved hW.alike hK, hD9⟩, hS.F ht⟩) hS.2.2 d_EF_count_120 hlocks
          · replace hf := hf.2 c_19
            refine lv_iconst (v := 1) hx hb d_EF_count_115 (by decide) ?_
            refine lv_goto (tgt := 120) hx hb d_EF_count_116 (by decide) ?_
            have hP9 := hP.sub (ws' := [(h0, .inr (5, [.ref tw, .int ln, .int fl, .ref ps, .ref wk, .ref mA, .ref sA])), (mA, .inr (0, [.int ns, .int npos, .int ncc, .ref m1, .ref m2, .ref m3, .ref m4, .ref m5, .ref m6, .ref m7])), (wk, .inr (4, [.int wat, .int wen, .int wfe, .ref d1])), (d1, .inl ((cA 0), 10, .inl dn))]) [0, 1, 2, 3] rfl
            have hD9 := hD.sub (ws' := [(h0, .inr (5, [.ref tw, .int ln, .int fl, .ref ps, .ref wk, .ref mA, .ref sA])), (mA, .inr (0, [.int ns, .int npos, .int ncc, .ref m1, .ref m2, .ref m3, .ref m4, .ref m5, .ref m6, .ref m7])), (wk, .inr (4, [.int wat, .int wen, .int wfe, .ref d1])), (d1, .inl ((cA 0), 10, .inl dn))]) [0, 1, 2, 3] (by decide) rfl
            refine W_end hQz ?_
            refine W.widen (k := 1) (n := 6) (by decide) (by decide) ?_
            refine vx_ret ?_
            exact W.iret (v := 1) hx hb hr (fun t ht hW => ⟨⟨1, (), rfl, hf, P_cg ht.symm hP9, va_K.moved hW.alike hK, hD9⟩, hS.F ht⟩) hS.2.2 d_EF_count_120 hlocks
        · replace hc_13 : p1 = 6 := Int32.toInt_inj.mp (hc_13.trans (by decide))
          replace hf := hf.2.2.2.2.2.2 hc_13
          refine lv_tableIn (off := 95) (tgt := 121) hx hb d_EF_count_26 (by rw [hc_13]; decide) (by rw [hc_13]; decide) (by rw [hc_13]; decide) (by decide) ?_
          refine lv_aload_n hx hb d_EF_count_121 rfl (lv_at hl 0 rfl) ?_
          refine va_get (D := (dC, dI)) (ci := 5) (v := .ref wk) (C := RX5) (T := TX5) (N := 7) hx hb hts (fun w h => List.mem_cons_of_mem _ (in_X5 w h)) hown hK hP 0 rfl rfl 4 (by decide) (hts _ (List.mem_cons_of_mem _ k_245)) (fun _ h9 => h9) rfl d_EF_count_122 ?_
          refine va_getN (D := (dC, dI)) (ci := 4) (v := .int wfe) (C := RX4) (T := TX4) (N := 4) hx hb hts (fun w h => List.mem_cons_of_mem _ (in_X4 w h)) hown hK hP 2 rfl rfl 2 (by decide) (va_Nw.use rfl (hN _ nl_15)) (fun _ h9 => h9) rfl d_EF_count_125 ?_
          have hP9 := hP.sub (ws' := [(h0, .inr (5, [.ref tw, .int ln, .int fl, .ref ps, .ref wk, .ref mA, .ref sA])), (mA, .inr (0, [.int ns, .int npos, .int ncc, .ref m1, .ref m2, .ref m3, .ref m4, .ref m5, .ref m6, .ref m7])), (wk, .inr (4, [.int wat, .int wen, .int wfe, .ref d1])), (d1, .inl ((cA 0), 10, .inl dn))]) [0, 1, 2, 3] rfl
          have hD9 := hD.sub (ws' := [(h0, .inr (5, [.ref tw, .int ln, .int fl, .ref ps, .ref wk, .ref mA, .ref sA])), (mA, .inr (0, [.int ns, .int npos, .int ncc, .ref m1, .ref m2, .ref m3, .ref m4, .ref m5, .ref m6, .ref m7])), (wk, .inr (4, [.int wat, .int wen, .int wfe, .ref d1])), (d1, .inl ((cA 0), 10, .inl dn))]) [0, 1, 2, 3] (by decide) rfl
          refine W_end hQz ?_
          refine W.widen (k := 1) (n := 6) (by decide) (by decide) ?_
          refine vx_ret ?_
          exact W.iret (v := wfe) hx hb hr (fun t ht hW => ⟨⟨wfe, (), rfl, hf, P_cg ht.symm hP9, va_K.moved hW.alike hK, hD9⟩, hS.F ht⟩) hS.2.2 d_EF_count_128 hlocks
    · replace hf := hf.2 c_12
      refine lv_aload_n hx hb d_EF_count_12 rfl (lv_at hl 0 rfl) ?_
      refine va_get (D := (dC, dI)) (ci := 5) (v := .ref wk) (C := RX5) (T := TX5) (N := 7) hx hb hts (fun w h => List.mem_cons_of_mem _ (in_X5 w h)) hown hK hP 0 rfl rfl 4 (by decide) (hts _ (List.mem_cons_of_mem _ k_245)) (fun _ h9 => h9) rfl d_EF_count_13 ?_
      refine va_getN (D := (dC, dI)) (ci := 4) (v := .ref d1) (C := RX4) (T := TX4) (N := 4) hx hb hts (fun w h => List.mem_cons_of_mem _ (in_X4 w h)) hown hK hP 2 rfl rfl 3 (by decide) (va_Nw.use rfl (hN _ nl_16)) (fun _ h9 => h9) rfl d_EF_count_16 ?_
      refine lv_iload_n hx hb d_EF_count_19 rfl (lv_at hl 1 rfl) ?_
      refine lv_bipush (v := 10) hx hb d_EF_count_20 (by decide) ?_
      refine lv_isub hx hb d_EF_count_22 ?_
      obtain ⟨h_23, hf⟩ := hf
      refine va_iald hx hb hK hP 3 0 rfl rfl h_23 d_EF_count_23 ?_
      have hP9 := hP.sub (ws' := [(h0, .inr (5, [.ref tw, .int ln, .int fl, .ref ps, .ref wk, .ref mA, .ref sA])), (mA, .inr (0, [.int ns, .int npos, .int ncc, .ref m1, .ref m2, .ref m3, .ref m4, .ref m5, .ref m6, .ref m7])), (wk, .inr (4, [.int wat, .int wen, .int wfe, .ref d1])), (d1, .inl ((cA 0), 10, .inl dn))]) [0, 1, 2, 3] rfl
      have hD9 := hD.sub (ws' := [(h0, .inr (5, [.ref tw, .int ln, .int fl, .ref ps, .ref wk, .ref mA, .ref sA])), (mA, .inr (0, [.int ns, .int npos, .int ncc, .ref m1, .ref m2, .ref m3, .ref m4, .ref m5, .ref m6, .ref m7])), (wk, .inr (4, [.int wat, .int wen, .int wfe, .ref d1])), (d1, .inl ((cA 0), 10, .inl dn))]) [0, 1, 2, 3] (by decide) rfl
      refine W_end hQz ?_
      refine W.widen (k := 1) (n := 6) (by decide) (by decide) ?_
      refine vx_ret ?_
      exact W.iret (v := (dn (p1 - 10).toNatClampNeg)) hx hb hr (fun t ht hW => ⟨⟨(dn (p1 - 10).toNatClampNeg), (), rfl, hf, P_cg ht.symm hP9, va_K.moved hW.alike hK, hD9⟩, hS.F ht⟩) hS.2.2 d_EF_count_24 hlocks
