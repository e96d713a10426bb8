def R_Mach_target (p1 : Int32) (p2 : Int32) (ns : Int32) (npos : Int32) (ncc : Int32) (wy : Nat → Int32)  (out : Int32 × Unit) : Prop := vp_in ((p1 * 4) + p2) 200 ∧ (out = ((wy ((p1 * 4) + p2).toNatClampNeg), ()))
set_option maxHeartbeats 4000000 in
set_option maxRecDepth 100000 in
theorem c_Mach_target (l : Launch) (dC : Nat → ClassId) (dI : Nat → Nat → Nat) (cA : Nat → ClassId) (h0 m2 m1 m3 m4 m5 m6 m7 : Nat) (sz : Nat) (p1 : Int32) (p2 : Int32) (ns : Int32) (npos : Int32) (ncc : Int32) (wy : Nat → Int32)  (out : Int32 × Unit) (hR : R_Mach_target p1 p2 ns npos ncc wy  out) : Met l y_Mach_target ws_Mach_target ({ frames := 0, cells := 0, slots := 0, locals := 0 }) (va_Pc [.ref h0, .int p1, .int p2] (fun U => U.heap.size = sz ∧ va_P (dC, dI) clA [(h0, .inr (0, [.int ns, .int npos, .int ncc, .ref m1, .ref m2, .ref m3, .ref m4, .ref m5, .ref m6, .ref m7])), (m2, .inl ((cA 0), 200, .inl wy))] U.heap ∧ va_K (dC, dI) clA (tysA cA) U ∧ nW U ∧ va_D (fun _ => True) [(h0, .inr (0, [.int ns, .int npos, .int ncc, .ref m1, .ref m2, .ref m3, .ref m4, .ref m5, .ref m6, .ref m7])), (m2, .inl ((cA 0), 200, .inl wy))])) (va_Qi (fun (r : Int32) (u : Unit) => out = (r, u)) (fun (u : Unit) (t : State) => va_P (dC, dI) clA [(h0, .inr (0, [.int ns, .int npos, .int ncc, .ref m1, .ref m2, .ref m3, .ref m4, .ref m5, .ref m6, .ref m7])), (m2, .inl ((cA 0), 200, .inl wy))] t.heap ∧ va_K (dC, dI) clA (tysA cA) t ∧ va_D (va_A [(h0, .inr (0, [.int ns, .int npos, .int ncc, .ref m1, .ref m2, .ref m3, .ref m4, .ref m5, .ref m6, .ref m7])), (m2, .inl ((cA 0), 200, .inl wy))] sz) [(h0, .inr (0, [.int ns, .int npos, .int ncc, .ref m1, .ref m2, .ref m3, .ref m4, .ref m5, .ref m6, .ref m7])), (m2, .inl ((cA 0), 200, .inl wy))]) (va_A [(h0, .inr (0, [.int ns, .int npos, .int ncc, .ref m1, .ref m2, .ref m3, .ref m4, .ref m5, .ref m6, .ref m7])), (m2, .inl ((cA 0), 200, .inl wy))] sz)) 0 0 (va_A [(h0, .inr (0, [.int ns, .int npos, .int ncc, .ref m1, .ref m2, .ref m3, .ref m4, .ref m5, .ref m6, .ref m7])), (m2, .inl ((cA 0), 200, .inl wy))] sz) := by
  refine Met.ofW (cc := b_Mach_target) (maxL := 3) (ret := (some .int)) (by decide) rfl ?_
  intro p e s m args below meth c s₁ B hml hv
  obtain ⟨rfl, hsz, hP, hK, hN, hD0⟩ := hv
  have hx := B.exec
  have hb := B.bytes
  have hr := B.returns
  have hts := atoms_spec (ws := ws_Mach_target) B.pre
  have hown : s.vm.findClass RX0 = some m.cls := findClass_of_methodNamed B.named
  have hlocks := B.notSynchronized
  subst hsz
  have hD := hD0.self (sz := s.heap.size)
  generalize hAe : va_A [(h0, .inr (0, [.int ns, .int npos, .int ncc, .ref m1, .ref m2, .ref m3, .ref m4, .ref m5, .ref m6, .ref m7])), (m2, .inl ((cA 0), 200, .inl wy))] s.heap.size = A at hD ⊢
  have hA : ∀ q : Nat, s.heap.size ≤ q → A q := fun q h => by rw [← hAe]; exact Or.inr h
  have hS : va_S A s.heap s.heap [] := va_S.rf
  have hP : va_P (dC, dI) clA [(h0, .inr (0, [.int ns, .int npos, .int ncc, .ref m1, .ref m2, .ref m3, .ref m4, .ref m5, .ref m6, .ref m7])), (m2, .inl ((cA 0), 200, .inl wy))] s.heap := hP
  have hl := lv_entry ([.ref h0, .int p1, .int p2]) (n := 3) (Nat.le_of_ble_eq_true rfl)
  rw [lg_entry_eq]
  generalize (lg_sl ([.ref h0, .int p1, .int p2]) ++ List.replicate (3 - (lg_sl ([.ref h0, .int p1, .int p2])).length) Slot.unset).toArray = ls at hl ⊢
  have hl : lv_has ls 3 [(0, .ref h0), (1, .int p1), (2, .int p2)] := hl
  refine W_gen (fun Qz hQz => ?_)
  have hf := hR
  unfold R_Mach_target at hf
  refine lv_aload_n hx hb d_Mach_target_0 rfl (lv_at hl 0 rfl) ?_
  refine va_get (D := (dC, dI)) (ci := 0) (v := .ref m2) (C := RX0) (T := TX0) (N := 10) hx hb hts (fun w h => List.mem_cons_of_mem _ (in_X0 w h)) hown hK hP 0 rfl rfl 4 (by decide) (hts _ (List.mem_cons_of_mem _ k_210)) (fun _ h9 => h9) rfl d_Mach_target_1 ?_
  refine lv_iload_n hx hb d_Mach_target_4 rfl (lv_at hl 1 rfl) ?_
  refine lv_iconst (v := 4) hx hb d_Mach_target_5 (by decide) ?_
  refine lv_imul hx hb d_Mach_target_6 ?_
  refine lv_iload_n hx hb d_Mach_target_7 rfl (lv_at hl 2 rfl) ?_
  refine lv_iadd hx hb d_Mach_target_8 ?_
  obtain ⟨h_1, hf⟩ := hf
  refine va_iald hx hb hK hP 1 0 rfl rfl h_1 d_Mach_target_9 ?_
  have hP9 := hP.sub (ws' := [(h0, .inr (0, [.int ns, .int npos, .int ncc, .ref m1, .ref m2, .ref m3, .ref m4, .ref m5, .ref m6, .ref m7])), (m2, .inl ((cA 0), 200, .inl wy))]) [0, 1] rfl
  have hD9 := hD.sub (ws' := [(h0, .inr (0, [.int ns, .int npos, .int ncc, .ref m1, .ref m2, .ref m3, .ref m4, .ref m5, .ref m6, .ref m7])), (m2, .inl ((cA 0), 200, .inl wy))]) [0, 1] (by decide) rfl
  refine W_end hQz ?_
  exact W.iret (v := (wy ((p1 * 4) + p2).toNatClampNeg)) hx hb hr (fun t ht hW => ⟨⟨(wy ((p1 * 4) + p2).toNatClampNeg), (), rfl, hf, P_cg ht.symm hP9, va_K.moved hW.alike hK, hD9⟩, hS.F ht⟩) hS.2.2 d_Mach_target_10 hlocks
def R_Mach_actionsOnWay (p1 : Int32) (p2 : Int32) (ns : Int32) (npos : Int32) (ncc : Int32) (wa : Nat → Int32)  (out : Int32 × Unit) : Prop := vp_in ((p1 * 4) + p2) 200 ∧ (out = ((wa ((p1 * 4) + p2).toNatClampNeg), ()))
set_option maxHeartbeats 4000000 in
set_option maxRecDepth 100000 in
theorem c_Mach_actionsOnWay (l : Launch) (dC : Nat → ClassId) (dI : Nat → Nat → Nat) (cA : Nat → ClassId) (h0 m3 m1 m2 m4 m5 m6 m7 : Nat) (sz : Nat) (p1 : Int32) (p2 : Int32) (ns : Int32) (npos : Int32) (ncc : Int32) (wa : Nat → Int32)  (out : Int32 × Unit) (hR : R_Mach_actionsOnWay p1 p2 ns npos ncc wa  out) : Met l y_Mach_actionsOnWay ws_Mach_actionsOnWay ({ frames := 0, cells := 0, slots := 0, locals := 0 }) (va_Pc [.ref h0, .int p1, .int p2] (fun U => U.heap.size = sz ∧ va_P (dC, dI) clA [(h0, .inr (0, [.int ns, .int npos, .int ncc, .ref m1, .ref m2, .ref m3, .ref m4, .ref m5, .ref m6, .ref m7])), (m3, .inl ((cA 0), 200, .inl wa))] U.heap ∧ va_K (dC, dI) clA (tysA cA) U ∧ nW U ∧ va_D (fun _ => True) [(h0, .inr (0, [.int ns, .int npos, .int ncc, .ref m1, .ref m2, .ref m3, .ref m4, .ref m5, .ref m6, .ref m7])), (m3, .inl ((cA 0), 200, .inl wa))])) (va_Qi (fun (r : Int32) (u : Unit) => out = (r, u)) (fun (u : Unit) (t : State) => va_P (dC, dI) clA [(h0, .inr (0, [.int ns, .int npos, .int ncc, .ref m1, .ref m2, .ref m3, .ref m4, .ref m5, .ref m6, .ref m7])), (m3, .inl ((cA 0), 200, .inl wa))] t.heap ∧ va_K (dC, dI) clA (tysA cA) t ∧ va_D (va_A [(h0, .inr (0, [.int ns, .int npos, .int ncc, .ref m1, .ref m2, .ref m3, .ref m4, .ref m5, .ref m6, .ref m7])), (m3, .inl ((cA 0), 200, .inl wa))] sz) [(h0, .inr (0, [.int ns, .int npos, .int ncc, .ref m1, .ref m2, .ref m3, .ref m4, .ref m5, .ref m6, .ref m7])), (m3, .inl ((cA 0), 200, .inl wa))]) (va_A [(h0, .inr (0, [.int ns, .int npos, .int ncc, .ref m1, .ref m2, .ref m3, .ref m4, .ref m5, .ref m6, .ref m7])), (m3, .inl ((cA 0), 200, .inl wa))] sz)) 0 0 (va_A [(h0, .inr (0, [.int ns, .int npos, .int ncc, .ref m1, .ref m2, .ref m3, .ref m4, .ref m5, .ref m6, .ref m7])), (m3, .inl ((cA 0), 200, .inl wa))] sz) := by
  refine Met.ofW (cc := b_Mach_actionsOnWay) (maxL := 3) (ret := (some .int)) (by decide) rfl ?_
  intro p e s m args below meth c s₁ B hml hv
  obtain ⟨rfl, hsz, hP, hK, hN, hD0⟩ := hv
  have hx := B.exec
  have hb := B.bytes
  have hr := B.returns
  have hts := atoms_spec (ws := ws_Mach_actionsOnWay) B.pre
  have hown : s.vm.findClass RX0 = some m.cls := findClass_of_methodNamed B.named
  have hlocks := B.notSynchronized
  subst hsz
  have hD := hD0.self (sz := s.heap.size)
  generalize hAe : va_A [(h0, .inr (0, [.int ns, .int npos, .int ncc, .ref m1, .ref m2, .ref m3, .ref m4, .ref m5, .ref m6, .ref m7])), (m3, .inl ((cA 0), 200, .inl wa))] s.heap.size = A at hD ⊢
  have hA : ∀ q : Nat, s.heap.size ≤ q → A q := fun q h => by rw [← hAe]; exact Or.inr h
  have hS : va_S A s.heap s.heap [] := va_S.rf
  have hP : va_P (dC, dI) clA [(h0, .inr (0, [.int ns, .int npos, .int ncc, .ref m1, .ref m2, .ref m3, .ref m4, .ref m5, .ref m6, .ref m7])), (m3, .inl ((cA 0), 200, .inl wa))] s.heap := hP
  have hl := lv_entry ([.ref h0, .int p1, .int p2]) (n := 3) (Nat.le_of_ble_eq_true rfl)
  rw [lg_entry_eq]
  generalize (lg_sl ([.ref h0, .int p1, .int p2]) ++ List.replicate (3 - (lg_sl ([.ref h0, .int p1, .int p2])).length) Slot.unset).toArray = ls at hl ⊢
  have hl : lv_has ls 3 [(0, .ref h0), (1, .int p1), (2, .int p2)] := hl
  refine W_gen (fun Qz hQz => ?_)
  have hf := hR
  unfold R_Mach_actionsOnWay at hf
  refine lv_aload_n hx hb d_Mach_actionsOnWay_0 rfl (lv_at hl 0 rfl) ?_
  refine va_get (D := (dC, dI)) (ci := 0) (v := .ref m3) (C := RX0) (T := TX0) (N := 10) hx hb hts (fun w h => List.mem_cons_of_mem _ (in_X0 w h)) hown hK hP 0 rfl rfl 5 (by decide) (hts _ (List.mem_cons_of_mem _ k_211)) (fun _ h9 => h9) rfl d_Mach_actionsOnWay_1 ?_
  refine lv_iload_n hx hb d_Mach_actionsOnWay_4 rfl (lv_at hl 1 rfl) ?_
  refine lv_iconst (v := 4) hx hb d_Mach_actionsOnWay_5 (by decide) ?_
  refine lv_imul hx hb d_Mach_actionsOnWay_6 ?_
  refine lv_iload_n hx hb d_Mach_actionsOnWay_7 rfl (lv_at hl 2 rfl) ?_
  refine lv_iadd hx hb d_Mach_actionsOnWay_8 ?_
  obtain ⟨h_1, hf⟩ := hf
  refine va_iald hx hb hK hP 1 0 rfl rfl h_1 d_Mach_actionsOnWay_9 ?_
  have hP9 := hP.sub (ws' := [(h0, .inr (0, [.int ns, .int npos, .int ncc, .ref m1, .ref m2, .ref m3, .ref m4, .ref m5, .ref m6, .ref m7])), (m3, .inl ((cA 0), 200, .inl wa))]) [0, 1] rfl
  have hD9 := hD.sub (ws' := [(h0, .inr (0, [.int ns, .int npos, .int ncc, .ref m1, .ref m2, .ref m3, .ref m4, .ref m5, .ref m6, .ref m7])), (m3, .inl ((cA 0), 200, .inl wa))]) [0, 1] (by decide) rfl
  refine W_end hQz ?_
  exact W.iret (v := (wa ((p1 * 4) + p2).toNatClampNeg)) hx hb hr (fun t ht hW => ⟨⟨(wa ((p1 * 4) + p2).toNatClampNeg), (), rfl, hf, P_cg ht.symm hP9, va_K.moved hW.alike hK, hD9⟩, hS.F ht⟩) hS.2.2 d_Mach_actionsOnWay_10 hlocks
def g_Mach_indexOf (p1 : Int32) (npos : Int32) (ncc : Int32) : Nat → Nat → Int32 → Int32 → (Nat → Int32) → (Int32 × Int32 × (Nat → Int32)) → Prop
  | 0, _, _, _, _, _ => False
  | n + 1, k, x2, ns, se, out => match k with
    | 1 => ((ns ≤ x2) → (((ns < 50) → (vp_in ns 50 ∧ (out = (((ns + 1) - 1), ((ns + 1), (upd se ns.toNatClampNeg p1)))))) ∧ (¬ (ns < 50) → (out = (50, (ns, se)))))) ∧ (¬ (ns ≤ x2) → (vp_in x2 50 ∧ (((¬ (se x2.toNatClampNeg) = p1) → (g_Mach_indexOf p1 npos ncc n 1 (x2 + 1) ns se out)) ∧ (((se x2.toNatClampNeg) = p1) → (out = (x2, (ns, se)))))))
    | _ => False
theorem g_Mach_indexOf_1 (p1 : Int32) (npos : Int32) (ncc : Int32) (n : Nat) (x2 : Int32) (ns : Int32) (se : Nat → Int32) (out : Int32 × Int32 × (Nat → Int32)) : g_Mach_indexOf p1 npos ncc (n + 1) 1 x2 ns se out = (((ns ≤ x2) → (((ns < 50) → (vp_in ns 50 ∧ (out = (((ns + 1) - 1), ((ns + 1), (upd se ns.toNatClampNeg p1)))))) ∧ (¬ (ns < 50) → (out = (50, (ns, se)))))) ∧ (¬ (ns ≤ x2) → (vp_in x2 50 ∧ (((¬ (se x2.toNatClampNeg) = p1) → (g_Mach_indexOf p1 npos ncc n 1 (x2 + 1) ns se out)) ∧ (((se x2.toNatClampNeg) = p1) → (out = (x2, (ns, se)))))))) := rfl
def R_Mach_indexOf (p1 : Int32) (npos : Int32) (ncc : Int32) (ns : Int32) (se : Nat → Int32) (out : Int32 × Int32 × (Nat → Int32)) : Prop := (∃ n, g_Mach_indexOf p1 npos ncc n 1 1 ns se out)
set_option maxHeartbeats 4000000 in
set_option maxRecDepth 100000 in
theorem c_Mach_indexOf (l : Launch) (dC : Nat → ClassId) (dI : Nat → Nat → Nat) (cA : Nat → ClassId) (h0 m1 m2 m3 m4 m5 m6 m7 : Nat) (sz : Nat) (p1 : Int32) (npos : Int32) (ncc : Int32) (ns : Int32) (se : Nat → Int32) (out : Int32 × Int32 × (Nat → Int32)) (hR : R_Mach_indexOf p1 npos ncc ns se out) : Met l y_Mach_indexOf ws_Mach_indexOf ({ frames := 0, cells := 0, slots := 0, locals := 0 }) (va_Pc [.ref h0, .int p1] (fun U => U.heap.size = sz ∧ va_P (dC, dI) clA [(h0, .inr (0, [.int ns, .int npos, .int ncc, .ref m1, .ref m2, .ref m3, .ref m4, .ref m5, .ref m6, .ref m7])), (m1, .inl ((cA 0), 50, .inl se))] U.heap ∧ va_K (dC, dI) clA (tysA cA) U ∧ nW U ∧ va_D (fun _ => True) [(h0, .inr (0, [.int ns, .int npos, .int ncc, .ref m1, .ref m2, .ref m3, .ref m4, .ref m5, .ref m6, .ref m7])), (m1, .inl ((cA 0), 50, .inl se))])) (va_Qi (fun (r : Int32) (u : Int32 × (Nat → Int32)) => out = (r, u)) (fun (u : Int32 × (Nat → Int32)) (t : State) => va_P (dC, dI) clA [(h0, .inr (0, [.int u.1, .int npos, .int ncc, .ref m1, .ref m2, .ref m3, .ref m4, .ref m5, .ref m6, .ref m7])), (m1, .inl ((cA 0), 50, .inl u.2))] t.heap ∧ va_K (dC, dI) clA (tysA cA) t ∧ va_D (va_A [(h0, .inr (0, [.int ns, .int npos, .int ncc, .ref m1, .ref m2, .ref m3, .ref m4, .ref m5, .ref m6, .ref m7])), (m1, .inl ((cA 0), 50, .inl se))] sz) [(h0, .inr (0, [.int u.1, .int npos, .int ncc, .ref m1, .ref m2, .ref m3, .ref m4, .ref m5, .ref m6, .ref m7])), (m1, .inl ((cA 0), 50, .inl u.2))]) (va_A [(h0, .inr (0, [.int ns, .int npos, .int ncc, .ref m1, .ref m2, .ref m3, .ref m4, .ref m5, .ref m6, .ref m7])), (m1, .inl ((cA 0), 50, .inl se))] sz)) 0 0 (va_A [(h0, .inr (0, [.int ns, .int npos, .int ncc, .ref m1, .ref m2, .ref m3, .ref m4, .ref m5, .ref m6, .ref m7])), (m1, .inl ((cA 0), 50, .inl se))] sz) := by
  refine Met.ofW (cc := b_Mach_indexOf) (maxL := 3) (ret := (some .int)) (by decide) rfl ?_
  intro p e s m args below meth c s₁ B hml hv
  obtain ⟨rfl, hsz, hP, hK, hN, hD0⟩ := hv
  have hx := B.exec
  have hb := B.bytes
  have hr := B.returns
  have hts := atoms_spec (ws := ws_Mach_indexOf) B.pre
  have hown : s.vm.findClass RX0 = some m.cls := findClass_of_methodNamed B.named
  have hlocks := B.notSynchronized
  subst hsz
  have hD := hD0.self (sz := s.heap.size)
  generalize hAe : va_A [(h0, .inr (0, [.int ns, .int npos, .int ncc, .ref m1, .ref m2, .ref m3, .ref m4, .ref m5, .ref m6, .ref m7])), (m1, .inl ((cA 0), 50, .inl se))] s.heap.size = A at hD ⊢
  have hA : ∀ q : Nat, s.heap.size ≤ q → A q := fun q h => by rw [← hAe]; exact Or.inr h
  have hS : va_S A s.heap s.heap [] := va_S.rf
  have hP : va_P (dC, dI) clA [(h0, .inr (0, [.int ns, .int npos, .int ncc, .ref m1, .ref m2, .ref m3, .ref m4, .ref m5, .ref m6, .ref m7])), (m1, .inl ((cA 0), 50, .inl se))] s.heap := hP
  have hl := lv_entry ([.ref h0, .int p1]) (n := 3) (Nat.le_of_ble_eq_true rfl)
  rw [lg_entry_eq]
  generalize (lg_sl ([.ref h0, .int p1]) ++ List.replicate (3 - (lg_sl ([.ref h0, .int p1])).length) Slot.unset).toArray = ls at hl ⊢
  have hl : lv_has ls 3 [(0, .ref h0), (1, .int p1)] := hl
  refine W_gen (fun Qz hQz => ?_)
  have hC : ∀ n : Nat, (∀ (x2 : Int32) (ns : Int32) (se : Nat → Int32) (H : Heap) (locs : List Loc) (ls : Array Slot), g_Mach_indexOf p1 npos ncc n 1 x2 ns se out → va_P (dC, dI) clA [(h0, .inr (0, [.int ns, .int npos, .int ncc, .ref m1, .ref m2, .ref m3, .ref m4, .ref m5, .ref m6, .ref m7])), (m1, .inl ((cA 0), 50, .inl se))] H → va_D A [(h0, .inr (0, [.int ns, .int npos, .int ncc, .ref m1, .ref m2, .ref m3, .ref m4, .ref m5, .ref m6, .ref m7])), (m1, .inl ((cA 0), 50, .inl se))] → va_S A s.heap H locs → lv_has ls 3 [(0, .ref h0), (1, .int p1), (2, .int x2)] → W p l e ({ frames := 0, cells := 0, slots := 0, locals := 0 }) s m ([.ref h0, .int p1]).toArray below meth c H locs 0 0 Qz (F0 m 2 ls [])) := by
    intro n
    induction n with
    | zero => exact fun _ _ _ _ _ _ hf => hf.elim
    | succ n ih =>
      have ih1 := ih
      · intro x2 ns se H locs ls hf hP hD hS hl
        rw [g_Mach_indexOf_1] at hf
        refine lv_iload_n hx hb d_Mach_indexOf_2 rfl (lv_at hl 2 rfl) ?_
        refine lv_aload_n hx hb d_Mach_indexOf_3 rfl (lv_at hl 0 rfl) ?_
        refine va_get (D := (dC, dI)) (ci := 0) (v := .int ns) (C := RX0) (T := TX0) (N := 10) hx hb hts (fun w h => List.mem_cons_of_mem _ (in_X0 w h)) hown hK hP 0 rfl rfl 0 (by decide) (hts _ (List.mem_cons_of_mem _ k_202)) (fun _ h9 => h9) rfl d_Mach_indexOf_4 ?_
        refine lv_icmp_ge (tgt := 28) hx hb d_Mach_indexOf_7 (by decide) (fun c_1 => ?_) (fun c_1 => ?_)
        · replace hf := hf.1 c_1
          refine lv_aload_n hx hb d_Mach_indexOf_28 rfl (lv_at hl 0 rfl) ?_
          refine va_get (D := (dC, dI)) (ci := 0) (v := .int ns) (C := RX0) (T := TX0) (N := 10) hx hb hts (fun w h => List.mem_cons_of_mem _ (in_X0 w h)) hown hK hP 0 rfl rfl 0 (by decide) (hts _ (List.mem_cons_of_mem _ k_202)) (fun _ h9 => h9) rfl d_Mach_indexOf_29 ?_
          refine lv_bipush (v := 50) hx hb d_Mach_indexOf_32 (by decide) ?_
          refine lv_icmp_lt (tgt := 40) hx hb d_Mach_indexOf_34 (by decide) (fun c_2 => ?_) (fun c_2 => ?_)
          · replace hf := hf.1 c_2
            refine lv_aload_n hx hb d_Mach_indexOf_40 rfl (lv_at hl 0 rfl) ?_
            refine va_get (D := (dC, dI)) (ci := 0) (v := .ref m1) (C := RX0) (T := TX0) (N := 10) hx hb hts (fun w h => List.mem_cons_of_mem _ (in_X0 w h)) hown hK hP 0 rfl rfl 3 (by decide) (hts _ (List.mem_cons_of_mem _ k_208)) (fun _ h9 => h9) rfl d_Mach_indexOf_41 ?_
            refine lv_aload_n hx hb d_Mach_indexOf_44 rfl (lv_at hl 0 rfl) ?_
            refine va_get (D := (dC, dI)) (ci := 0) (v := .int ns) (C := RX0) (T := TX0) (N := 10) hx hb hts (fun w h => List.mem_cons_of_mem _ (in_X0 w h)) hown hK hP 0 rfl rfl 0 (by decide) (hts _ (List.mem_cons_of_mem _ k_202)) (fun _ h9 => h9) rfl d_Mach_indexOf_45 ?_
            refine lv_iload_n hx hb d_Mach_indexOf_48 rfl (lv_at hl 1 rfl) ?_
            obtain ⟨h_3, hf⟩ := hf
            refine va_iast hx hb hK hP hD hS 1 0 rfl rfl h_3 d_Mach_indexOf_49 (fun H locs hP hD hS => ?_)
            have hP : va_P (dC, dI) clA [(h0, .inr (0, [.int ns, .int npos, .int ncc, .ref m1, .ref m2, .ref m3, .ref m4, .ref m5, .ref m6, .ref m7])), (m1, .inl ((cA 0), 50, .inl (upd se ns.toNatClampNeg p1)))] H := hP
            have hD : va_D A [(h0, .inr (0, [.int ns, .int npos, .int ncc, .ref m1, .ref m2, .ref m3, .ref m4, .ref m5, .ref m6, .ref m7])), (m1, .inl ((cA 0), 50, .inl (upd se ns.toNatClampNeg p1)))] := hD
            refine lv_aload_n hx hb d_Mach_indexOf_50 rfl (lv_at hl 0 rfl) ?_
            refine lv_dup hx hb d_Mach_indexOf_51 rfl ?_
            refine va_get (D := (dC, dI)) (ci := 0) (v := .int ns) (C := RX0) (T := TX0) (N := 10) hx hb hts (fun w h => List.mem_cons_of_mem _ (in_X0 w h)) hown hK hP 0 rfl rfl 0 (by decide) (hts _ (List.mem_cons_of_mem _ k_202)) (fun _ h9 => h9) rfl d_Mach_indexOf_52 ?_
            refine lv_iconst (v := 1) hx hb d_Mach_indexOf_55 (by decide) ?_
            refine lv_iadd hx hb d_Mach_indexOf_56 ?_
            refine va_put (D := (dC, dI)) (ci := 0) (v := .int (ns + 1)) (ty := .int) (C := RX0) (T := TX0) (N := 10) hx hb hts (fun w h => List.mem_cons_of_mem _ (in_X0 w h)) tyX0 tyX0_ok nmX0 hown hK hP hD hS 0 rfl rfl 0 (by decide) (hts _ (List.mem_cons_of_mem _ k_202)) (fun _ h9 => h9) rfl (tyX0_ok 0 (by decide)) rfl rfl (Nat.le_of_ble_eq_true rfl) d_Mach_indexOf_57 (fun H locs hP hD hS => ?_)
            have hP : va_P (dC, dI) clA [(h0, .inr (0, [.int (ns + 1), .int npos, .int ncc, .ref m1, .ref m2, .ref m3, .ref m4, .ref m5, .ref m6, .ref m7])), (m1, .inl ((cA 0), 50, .inl (upd se ns.toNatClampNeg p1)))] H := hP
            have hD : va_D A [(h0, .inr (0, [.int (ns + 1), .int npos, .int ncc, .ref m1, .ref m2, .ref m3, .ref m4, .ref m5, .ref m6, .ref m7])), (m1, .inl ((cA 0), 50, .inl (upd se ns.toNatClampNeg p1)))] := hD
            refine lv_aload_n hx hb d_Mach_indexOf_60 rfl (lv_at hl 0 rfl) ?_
            refine va_get (D := (dC, dI)) (ci := 0) (v := .int (ns + 1)) (C := RX0) (T := TX0) (N := 10) hx hb hts (fun w h => List.mem_cons_of_mem _ (in_X0 w h)) hown hK hP 0 rfl rfl 0 (by decide) (hts _ (List.mem_cons_of_mem _ k_202)) (fun _ h9 => h9) rfl d_Mach_indexOf_61 ?_
            refine lv_iconst (v := 1) hx hb d_Mach_indexOf_64 (by decide) ?_
            refine lv_isub hx hb d_Mach_indexOf_65 ?_
            have hP9 := hP.sub (ws' := [(h0, .inr (0, [.int (ns + 1), .int npos, .int ncc, .ref m1, .ref m2, .ref m3, .ref m4, .ref m5, .ref m6, .ref m7])), (m1, .inl ((cA 0), 50, .inl (upd se ns.toNatClampNeg p1)))]) [0, 1] rfl
            have hD9 := hD.sub (ws' := [(h0, .inr (0, [.int (ns + 1), .int npos, .int ncc, .ref m1, .ref m2, .ref m3, .ref m4, .ref m5, .ref m6, .ref m7])), (m1, .inl ((cA 0), 50, .inl (upd se ns.toNatClampNeg p1)))]) [0, 1] (by decide) rfl
            refine W_end hQz ?_
            exact W.iret (v := ((ns + 1) - 1)) hx hb hr (fun t ht hW => ⟨⟨((ns + 1) - 1), ((ns + 1), (upd se ns.toNatClampNeg p1)), rfl, hf, P_cg ht.symm hP9, va_K.moved hW.alike hK, hD9⟩, hS.F ht⟩) hS.2.2 d_Mach_indexOf_66 hlocks
          · replace hf := hf.2 c_2
            refine lv_bipush (v := 50) hx hb d_Mach_indexOf_37 (by decide) ?_
            have hP9 := hP.sub (ws' := [(h0, .inr (0, [.int ns, .int npos, .int ncc, .ref m1, .ref m2, .ref m3, .ref m4, .ref m5, .ref m6, .ref m7])), (m1, .inl ((cA 0), 50, .inl se))]) [0, 1] rfl
            have hD9 := hD.sub (ws' := [(h0, .inr (0, [.int ns, .int npos, .int ncc, .ref m1, .ref m2, .ref m3, .ref m4, .ref m5, .ref m6, .ref m7])), (m1, .inl ((cA 0), 50, .inl se))]) [0, 1] (by decide) rfl
            refine W_end hQz ?_
            exact W.iret (v := 50) hx hb hr (fun t ht hW => ⟨⟨50, (ns, se), rfl, hf, P_cg ht.symm hP9, va_K.moved hW.alike hK, hD9⟩, hS.F ht⟩) hS.2.2 d_Mach_indexOf_39 hlocks
        · replace hf := hf.2 c_1
          refine lv_aload_n hx hb d_Mach_indexOf_10 rfl (lv_at hl 0 rfl) ?_
          refine va_get (D := (dC, dI)) (ci := 0) (v := .ref m1) (C := RX0) (T := TX0) (N := 10) hx hb hts (fun w h => List.mem_cons_of_mem _ (in_X0 w h)) hown hK hP 0 rfl rfl 3 (by decide) (hts _ (List.mem_cons_of_mem _ k_208)) (fun _ h9 => h9) rfl d_Mach_indexOf_11 ?_
          refine lv_iload_n hx hb d_Mach_indexOf_14 rfl (lv_at hl 2 rfl) ?_
          obtain ⟨h_6, hf⟩ := hf
          refine va_iald hx hb hK hP 1 0 rfl rfl h_6 d_Mach_indexOf_15 ?_
          refine lv_iload_n hx hb d_Mach_indexOf_16 rfl (lv_at hl 1 rfl) ?_
          refine lv_icmp_ne (tgt := 22) hx hb d_Mach_indexOf_17 (by decide) (fun c_7 => ?_) (fun c_7 => ?_)
          · replace hf := hf.1 c_7
            refine lv_iinc (v := x2 + 1) (lv' := [(2, .int (x2 + 1)), (0, .ref h0), (1, .int p1)]) hx hb d_Mach_indexOf_22 hl (k := 2) rfl rfl (by decide) rfl (fun ls hl => ?_)
            refine lv_goto (tgt := 2) hx hb d_Mach_indexOf_25 (by decide) ?_
            exact ih1 _ _ _ _ _ _ hf (hP.sub [0, 1] rfl) (hD.sub [0, 1] (by decide) rfl) hS (lv_sub hl [1, 2, 0] rfl)
          · replace hf := hf.2 c_7
            refine lv_iload_n hx hb d_Mach_indexOf_20 rfl (lv_at hl 2 rfl) ?_
            have hP9 := hP.sub (ws' := [(h0, .inr (0, [.int ns, .int npos, .int ncc, .ref m1, .ref m2, .ref m3, .ref m4, .ref m5, .ref m6, .ref m7])), (m1, .inl ((cA 0), 50, .inl se))]) [0, 1] rfl
            have hD9 := hD.sub (ws' := [(h0, .inr (0, [.int ns, .int npos, .int ncc, .ref m1, .ref m2, .ref m3, .ref m4, .ref m5, .ref m6, .ref m7])), (m1, .inl ((cA 0), 50, .inl se))]) [0, 1] (by decide) rfl
            refine W_end hQz ?_
            exact W.iret (v := x2) hx hb hr (fun t ht hW => ⟨⟨x2, (ns, se), rfl, hf, P_cg ht.symm hP9, va_K.moved hW.alike hK, hD9⟩, hS.F ht⟩) hS.2.2 d_Mach_indexOf_21 hlocks
  have hf := hR
  unfold R_Mach_indexOf at hf
  refine lv_iconst (v := 1) hx hb d_Mach_indexOf_0 (by decide) ?_
  refine lv_istore_n (lv' := [(2, .int 1), (0, .ref h0), (1, .int p1)]) hx hb d_Mach_indexOf_1 rfl hl (by decide) rfl (fun ls hl => ?_)
  obtain ⟨n, hf⟩ := hf
  exact (hC n) _ _ _ _ _ _ hf (hP.sub [0, 1] rfl) (hD.sub [0, 1] (by decide) rfl) hS (lv_sub hl [1, 2, 0] rfl)
def R_Mach_classBehind (p1 : Int32) (p2 : Int32) (ns : Int32) (npos : Int32) (ncc : Int32) (wy : Nat → Int32) (cl : Nat → Int32)  (out : Int32 × Unit) : Prop := ∃ v_1, R_Mach_target p1 p2 ns npos ncc wy v_1 ∧ (((¬ v_1.1 = (-1)) → (vp_in v_1.1 50 ∧ (out = ((cl v_1.1.toNatClampNeg), ())))) ∧ ((v_1.1 = (-1)) → (out = ((-1), ()))))
set_option maxHeartbeats 4000000 in
set_option maxRecDepth 100000 in
theorem c_Mach_classBehind (l : Launch) (dC : Nat → ClassId) (dI : Nat → Nat → Nat) (cA : Nat → ClassId) (h0 m2 m6 m1 m3 m4 m5 m7 : Nat) (sz : Nat) (p1 : Int32) (p2 : Int32) (ns : Int32) (npos : Int32) (ncc : Int32) (wy : Nat → Int32) (cl : Nat → Int32)  (out : Int32 × Unit) (hR : R_Mach_classBehind p1 p2 ns npos ncc wy cl  out) : Met l y_Mach_classBehind ws_Mach_classBehind ({ frames := 1, cells := 0, slots := 0, locals := 22 }) (va_Pc [.ref h0, .int p1, .int p2] (fun U => U.heap.size = sz ∧ va_P (dC, dI) clA [(h0, .inr (0, [.int ns, .int npos, .int ncc, .ref m1, .ref m2, .ref m3, .ref m4, .ref m5, .ref m6, .ref m7])), (m2, .inl ((cA 0), 200, .inl wy)), (m6, .inl ((cA 0), 50, .inl cl))] U.heap ∧ va_K (dC, dI) clA (tysA cA) U ∧ nW U ∧ va_D (fun _ => True) [(h0, .inr (0, [.int ns, .int npos, .int ncc, .ref m1, .ref m2, .ref m3, .ref m4, .ref m5, .ref m6, .ref m7])), (m2, .inl ((cA 0), 200, .inl wy)), (m6, .inl ((cA 0), 50, .inl cl))])) (va_Qi (fun (r : Int32) (u : Unit) => out = (r, u)) (fun (u : Unit) (t : State) => va_P (dC, dI) clA [(h0, .inr (0, [.int ns, .int npos, .int ncc, .ref m1, .ref m2, .ref m3, .ref m4, .ref m5, .ref m6, .ref m7])), (m2, .inl ((cA 0), 200, .inl wy)), (m6, .inl ((cA 0), 50, .inl cl))] t.heap ∧ va_K (dC, dI) clA (tysA cA) t ∧ va_D (va_A [(h0, .inr (0, [.int ns, .int npos, .int ncc, .ref m1, .ref m2, .ref m3, .ref m4, .ref m5, .ref m6, .ref m7])), (m2, .inl ((cA 0), 200, .inl wy)), (m6, .inl ((cA 0), 50, .inl cl))] sz) [(h0, .inr (0, [.int ns, .int npos, .int ncc, .ref m1, .ref m2, .ref m3, .ref m4, .ref m5, .ref m6, .ref m7])), (m2, .inl ((cA 0), 200, .inl wy)), (m6, .inl ((cA 0), 50, .inl cl))]) (va_A [(h0, .inr (0, [.int ns, .int npos, .int ncc, .ref m1, .ref m2, .ref m3, .ref m4, .ref m5, .ref m6, .ref m7])), (m2, .inl ((cA 0), 200, .inl wy)), (m6, .inl ((cA 0), 50, .inl cl))] sz)) 0 0 (va_A [(h0, .inr (0, [.int ns, .int npos, .int ncc, .ref m1, .ref m2, .ref m3, .ref m4, .ref m5, .ref m6, .ref m7])), (m2, .inl ((cA 0), 200, .inl wy)), (m6, .inl ((cA 0), 50, .inl cl))] sz) := by
  refine Met.ofW (cc := b_Mach_classBehind) (maxL := 4) (ret := (some .int)) (by decide) rfl ?_
  intro p e s m args below meth c s₁ B hml hv
  obtain ⟨rfl, hsz, hP, hK, hN, hD0⟩ := hv
  have hx := B.exec
  have hb := B.bytes
  have hr := B.returns
  have hts := atoms_spec (ws := ws_Mach_classBehind) B.pre
  have hown : s.vm.findClass RX0 = some m.cls := findClass_of_methodNamed B.named
  have hlocks := B.notSynchronized
  subst hsz
  have hD := hD0.self (sz := s.heap.size)
  generalize hAe : va_A [(h0, .inr (0, [.int ns, .int npos, .int ncc, .ref m1, .ref m2, .ref m3, .ref m4, .ref m5, .ref m6, .ref m7])), (m2, .inl ((cA 0), 200, .inl wy)), (m6, .inl ((cA 0), 50, .inl cl))] s.heap.size = A at hD ⊢
  have hA : ∀ q : Nat, s.heap.size ≤ q → A q := fun q h => by rw [← hAe]; exact Or.inr h
  have hS : va_S A s.heap s.heap [] := va_S.rf
  have hP : va_P (dC, dI) clA [(h0, .inr (0, [.int ns, .int npos, .int ncc, .ref m1, .ref m2, .ref m3, .ref m4, .ref m5, .ref m6, .ref m7])), (m2, .inl ((cA 0), 200, .inl wy)), (m6, .inl ((cA 0), 50, .inl cl))] s.heap := hP
  have hl := lv_entry ([.ref h0, .int p1, .int p2]) (n := 4) (Nat.le_of_ble_eq_true rfl)
  rw [lg_entry_eq]
  generalize (lg_sl ([.ref h0, .int p1, .int p2]) ++ List.replicate (4 - (lg_sl ([.ref h0, .int p1, .int p2])).length) Slot.unset).toArray = ls at hl ⊢
  have hl : lv_has ls 4 [(0, .ref h0), (1, .int p1), (2, .int p2)] := hl
  refine W_gen (fun Qz hQz => ?_)
  have hf := hR
  unfold R_Mach_classBehind at hf
  refine lv_aload_n hx hb d_Mach_classBehind_0 rfl (lv_at hl 0 rfl) ?_
  refine lv_iload_n hx hb d_Mach_classBehind_1 rfl (lv_at hl 1 rfl) ?_
  refine lv_iload_n hx hb d_Mach_classBehind_2 rfl (lv_at hl 2 rfl) ?_
  obtain ⟨v_1, hv_1, hf⟩ := hf
  have hPc := hP.sub (ws' := [(h0, .inr (0, [.int ns, .int npos, .int ncc, .ref m1, .ref m2, .ref m3, .ref m4, .ref m5, .ref m6, .ref m7])), (m2, .inl ((cA 0), 200, .inl wy))]) [0, 1] rfl
  have hDc := hD.sub (ws' := [(h0, .inr (0, [.int ns, .int npos, .int ncc, .ref m1, .ref m2, .ref m3, .ref m4, .ref m5, .ref m6, .ref m7])), (m2, .inl ((cA 0), 200, .inl wy))]) [0, 1] (by decide) rfl
  have hFc := va_free (wc := [(h0, .inr (0, [.int ns, .int npos, .int ncc, .ref m1, .ref m2, .ref m3, .ref m4, .ref m5, .ref m6, .ref m7])), (m2, .inl ((cA 0), 200, .inl wy))]) hD hS hA [0, 1] rfl
  refine va_calli (va_runV (As := [.int p1, .int p2]) (rest := []) ⟨hx, hb, hml, hown, hts⟩ (c_Mach_target l dC dI cA h0 m2 m1 m3 m4 m5 m6 m7 s.heap.size p1 p2 ns npos ncc wy v_1 hv_1) (cwV 2 hts (gV9 k_807 k_808 k_809 k_54 k_810) rfl rfl rfl hv_Mach_target ⟨Nat.le_of_ble_eq_true rfl, Nat.le_of_ble_eq_true rfl⟩) ⟨fun a U g mk q => by obtain ⟨q0, q1, qP, qK, qN, qD⟩ := q; exact ⟨q0, q1, qP, va_K.moved (u := U) (U := U.calling g mk a) (Vm.Alike.refl U.vm) qK, nW_same (u := U) (U := U.calling g mk a) rfl qN, qD⟩, va_recv hK hPc (ci := 0) (q0 := 0) rfl rfl, fun U hU hW => ⟨rfl, congrArg _ hU, P_cg hU.symm hPc, va_K.moved hW.alike hK, nW_warm hW hN, hDc.weaken (fun _ _ _ _ => trivial)⟩⟩ rfl rfl hl.1 rfl (lv_room (Nat.le_of_ble_eq_true rfl)) d_Mach_classBehind_3 ⟨Nat.zero_le _, Nat.zero_le _⟩) hS (fun q _ h => hFc q h) hFc (fun r u t H locs ht hvm hw hB hz1 hk1 hS => ?_)
  obtain ⟨rfl, rfl⟩ : r = v_1.1 ∧ u = v_1.2 := ⟨(congrArg Prod.fst hw).symm, (congrArg Prod.snd hw).symm⟩
  obtain ⟨hP1, hK1, hD1⟩ := hB
  replace hP1 := P_cg ht hP1
  obtain ⟨hP, hD⟩ := va_join (wc := [(h0, .inr (0, [.int ns, .int npos, .int ncc, .ref m1, .ref m2, .ref m3, .ref m4, .ref m5, .ref m6, .ref m7])), (m2, .inl ((cA 0), 200, .inl wy))]) (wr := [(m6, .inl ((cA 0), 50, .inl cl))]) (w1 := [(h0, .inr (0, [.int ns, .int npos, .int ncc, .ref m1, .ref m2, .ref m3, .ref m4, .ref m5, .ref m6, .ref m7])), (m2, .inl ((cA 0), 200, .inl wy))]) hP hD [0, 1] [2] rfl rfl (by decide) (by decide) hk1 hFc hP1 hD1
  have hP : va_P (dC, dI) clA [(m6, .inl ((cA 0), 50, .inl cl)), (h0, .inr (0, [.int ns, .int npos, .int ncc, .ref m1, .ref m2, .ref m3, .ref m4, .ref m5, .ref m6, .ref m7])), (m2, .inl ((cA 0), 200, .inl wy))] H := hP
  have hD : va_D A [(m6, .inl ((cA 0), 50, .inl cl)), (h0, .inr (0, [.int ns, .int npos, .int ncc, .ref m1, .ref m2, .ref m3, .ref m4, .ref m5, .ref m6, .ref m7])), (m2, .inl ((cA 0), 200, .inl wy))] := hD
  refine lv_istore_n (lv' := [(3, .int v_1.1), (0, .ref h0), (1, .int p1), (2, .int p2)]) hx hb d_Mach_classBehind_6 rfl hl (by decide) rfl (fun ls hl => ?_)
  refine lv_iload_n hx hb d_Mach_classBehind_7 rfl (lv_at hl 0 rfl) ?_
  refine lv_iconst (v := -1) hx hb d_Mach_classBehind_8 (by decide) ?_
  refine lv_icmp_ne (tgt := 16) hx hb d_Mach_classBehind_9 (by decide) (fun c_2 => ?_) (fun c_2 => ?_)
  · replace hf := hf.1 c_2
    refine lv_aload_n hx hb d_Mach_classBehind_16 rfl (lv_at hl 1 rfl) ?_
    refine va_get (D := (dC, dI)) (ci := 0) (v := .ref m6) (C := RX0) (T := TX0) (N := 10) hx hb hts (fun w h => List.mem_cons_of_mem _ (in_X0 w h)) hown hK hP 1 rfl rfl 8 (by decide) (hts _ (List.mem_cons_of_mem _ k_216)) (fun _ h9 => h9) rfl d_Mach_classBehind_17 ?_
    refine lv_iload_n hx hb d_Mach_classBehind_20 rfl (lv_at hl 0 rfl) ?_
    obtain ⟨h_3, hf⟩ := hf
    refine va_iald hx hb hK hP 0 0 rfl rfl h_3 d_Mach_classBehind_21 ?_
    have hP9 := hP.sub (ws' := [(h0, .inr (0, [.int ns, .int npos, .int ncc, .ref m1, .ref m2, .ref m3, .ref m4, .ref m5, .ref m6, .ref m7])), (m2, .inl ((cA 0), 200, .inl wy)), (m6, .inl ((cA 0), 50, .inl cl))]) [1, 2, 0] rfl
    have hD9 := hD.sub (ws' := [(h0, .inr (0, [.int ns, .int npos, .int ncc, .ref m1, .ref m2, .ref m3, .ref m4, .ref m5, .ref m6, .ref m7])), (m2, .inl ((cA 0), 200, .inl wy)), (m6, .inl ((cA 0), 50, .inl cl))]) [1, 2, 0] (by decide) rfl
    refine W_end hQz ?_
    exact W.iret (v := (cl v_1.1.toNatClampNeg)) hx hb hr (fun t ht hW => ⟨⟨(cl v_1.1.toNatClampNeg), (), rfl, hf, P_cg ht.symm hP9, va_K.moved hW.alike hK, hD9⟩, hS.F ht⟩) hS.2.2 d_Mach_classBehind_22 hlocks
  · replace hf := hf.2 c_2
    refine lv_iconst (v := -1) hx hb d_Mach_classBehind_12 (by decide) ?_
    refine lv_goto (tgt := 22) hx hb d_Mach_classBehind_13 (by decide) ?_
    have hP9 := hP.sub (ws' := [(h0, .inr (0, [.int ns, .int npos, .int ncc, .ref m1, .ref m2, .ref m3, .ref m4, .ref m5, .ref m6, .ref m7])), (m2, .inl ((cA 0), 200, .inl wy)), (m6, .inl ((cA 0), 50, .inl cl))]) [1, 2, 0] rfl
    have hD9 := hD.sub (ws' := [(h0, .inr (0, [.int ns, .int npos, .int ncc, .ref m1, .ref m2, .ref m3, .ref m4, .ref m5, .ref m6, .ref m7])), (m2, .inl ((cA 0), 200, .inl wy)), (m6, .inl ((cA 0), 50, .inl cl))]) [1, 2, 0] (by decide) rfl
    refine W_end hQz ?_
    exact W.iret (v := (-1)) hx hb hr (fun t ht hW => ⟨⟨(-1), (), rfl, hf, P_cg ht.symm hP9, va_K.moved hW.alike hK, hD9⟩, hS.F ht⟩) hS.2.2 d_Mach_classBehind_22 hlocks
def g_Mach_looksLike (p1 : Int32) (p2 : Int32) (ns : Int32) (npos : Int32) (ncc : Int32) (wy : Nat → Int32) (wa : Nat → Int32) (fi : Nat → Int32) (ea : Nat → Int32) (cl : Nat → Int32) : Nat → Nat → Int32 → Int32 → (Int32 × Unit) → Prop
  | 0, _, _, _, _ => False
  | n + 1, k, x3, x4, out => match k with
    | 1 => ((4 ≤ x4) → (zb x3 ∧ out = (x3, ()))) ∧ (¬ (4 ≤ x4) → (((x3 = 0) → (zb x3 ∧ out = (x3, ()))) ∧ (¬ (x3 = 0) → (∃ v_5, R_Mach_actionsOnWay p1 x4 ns npos ncc wa v_5 ∧ (∃ v_6, R_Mach_actionsOnWay p2 x4 ns npos ncc wa v_6 ∧ (((¬ v_5.1 = v_6.1) → (g_Mach_looksLike p1 p2 ns npos ncc wy wa fi ea cl n 1 0 (x4 + 1) out)) ∧ ((v_5.1 = v_6.1) → (∃ v_8, R_Mach_classBehind p1 x4 ns npos ncc wy cl v_8 ∧ (∃ v_9, R_Mach_classBehind p2 x4 ns npos ncc wy cl v_9 ∧ (((¬ v_8.1 = v_9.1) → (g_Mach_looksLike p1 p2 ns npos ncc wy wa fi ea cl n 1 0 (x4 + 1) out)) ∧ ((v_8.1 = v_9.1) → (g_Mach_looksLike p1 p2 ns npos ncc wy wa fi ea cl n 1 1 (x4 + 1) out))))))))))))
    | _ => False
theorem g_Mach_looksLike_1 (p1 : Int32) (p2 : Int32) (ns : Int32) (npos : Int32) (ncc : Int32) (wy : Nat → Int32) (wa : Nat → Int32) (fi : Nat → Int32) (ea : Nat → Int32) (cl : Nat → Int32) (n : Nat) (x3 : Int32) (x4 : Int32) (out : Int32 × Unit) : g_Mach_looksLike p1 p2 ns npos ncc wy wa fi ea cl (n + 1) 1 x3 x4 out = (((4 ≤ x4) → (zb x3 ∧ out = (x3, ()))) ∧ (¬ (4 ≤ x4) → (((x3 = 0) → (zb x3 ∧ out = (x3, ()))) ∧ (¬ (x3 = 0) → (∃ v_5, R_Mach_actionsOnWay p1 x4 ns npos ncc wa v_5 ∧ (∃ v_6, R_Mach_actionsOnWay p2 x4 ns npos ncc wa v_6 ∧ (((¬ v_5.1 = v_6.1) → (g_Mach_looksLike p1 p2 ns npos ncc wy wa fi ea cl n 1 0 (x4 + 1) out)) ∧ ((v_5.1 = v_6.1) → (∃ v_8, R_Mach_classBehind p1 x4 ns npos ncc wy cl v_8 ∧ (∃ v_9, R_Mach_classBehind p2 x4 ns npos ncc wy cl v_9 ∧ (((¬ v_8.1 = v_9.1) → (g_Mach_looksLike p1 p2 ns npos ncc wy wa fi ea cl n 1 0 (x4 + 1) out)) ∧ ((v_8.1 = v_9.1) → (g_Mach_looksLike p1 p2 ns npos ncc wy wa fi ea cl n 1 1 (x4 + 1) out))))))))))))) := rfl
def R_Mach_looksLike (p1 : Int32) (p2 : Int32) (ns : Int32) (npos : Int32) (ncc : Int32) (wy : Nat → Int32) (wa : Nat → Int32) (fi : Nat → Int32) (ea : Nat → Int32) (cl : Nat → Int32)  (out : Int32 × Unit) : Prop := vp_in p1 50 ∧ (vp_in p2 50 ∧ (((¬ (cl p1.toNatClampNeg) = (cl p2.toNatClampNeg)) → (∃ n, g_Mach_looksLike p1 p2 ns npos ncc wy wa fi ea cl n 1 0 0 out)) ∧ (((cl p1.toNatClampNeg) = (cl p2.toNatClampNeg)) → (vp_in p1 50 ∧ (vp_in p2 50 ∧ (((¬ (fi p1.toNatClampNeg) = (fi p2.toNatClampNeg)) → (∃ n, g_Mach_looksLike p1 p2 ns npos ncc wy wa fi ea cl n 1 0 0 out)) ∧ (((fi p1.toNatClampNeg) = (fi p2.toNatClampNeg)) → (vp_in p1 50 ∧ (vp_in p2 50 ∧ (((¬ (ea p1.toNatClampNeg) = (ea p2.toNatClampNeg)) → (∃ n, g_Mach_looksLike p1 p2 ns npos ncc wy wa fi ea cl n 1 0 0 out)) ∧ (((ea p1.toNatClampNeg) = (ea p2.toNatClampNeg)) → (∃ n, g_Mach_looksLike p1 p2 ns npos ncc wy wa fi ea cl n 1 1 0 out))))))))))))
set_option maxHeartbeats 4000000 in
set_option maxRecDepth 100000 in
theorem c_Mach_looksLike (l : Launch) (dC : Nat → ClassId) (dI : Nat → Nat → Nat) (cA : Nat → ClassId) (h0 m2 m3 m4 m5 m6 m1 m7 : Nat) (sz : Nat) (p1 : Int32) (p2 : Int32) (ns : Int32) (npos : Int32) (ncc : Int32) (wy : Nat → Int32) (wa : Nat → Int32) (fi : Nat → Int32) (ea : Nat → Int32) (cl : Nat → Int32)  (out : Int32 × Unit) (hR : R_Mach_looksLike p1 p2 ns npos ncc wy wa fi ea cl  out) : Met l y_Mach_looksLike ws_Mach_looksLike ({ frames := 2, cells := 0, slots := 0, locals := 45 }) (va_Pc [.ref h0, .int p1, .int p2] (fun U => U.heap.size = sz ∧ va_P (dC, dI) clA [(h0, .inr (0, [.int ns, .int npos, .int ncc, .ref m1, .ref m2, .ref m3, .ref m4, .ref m5, .ref m6, .ref m7])), (m2, .inl ((cA 0), 200, .inl wy)), (m3, .inl ((cA 0), 200, .inl wa)), (m4, .inl ((cA 1), 50, .inl fi)), (m5, .inl ((cA 0), 50, .inl ea)), (m6, .inl ((cA 0), 50, .inl cl))] U.heap ∧ va_K (dC, dI) clA (tysA cA) U ∧ nW U ∧ va_D (fun _ => True) [(h0, .inr (0, [.int ns, .int npos, .int ncc, .ref m1, .ref m2, .ref m3, .ref m4, .ref m5, .ref m6, .ref m7])), (m2, .inl ((cA 0), 200, .inl wy)), (m3, .inl ((cA 0), 200, .inl wa)), (m4, .inl ((cA 1), 50, .inl fi)), (m5, .inl ((cA 0), 50, .inl ea)), (m6, .inl ((cA 0), 50, .inl cl))])) (va_Qi (fun (r : Int32) (u : Unit) => out = (r, u)) (fun (u : Unit) (t : State) => va_P (dC, dI) clA [(h0, .inr (0, [.int ns, .int npos, .int ncc, .ref m1, .ref m2, .ref m3, .ref m4, .ref m5, .ref m6, .ref m7])), (m2, .inl ((cA 0), 200, .inl wy)), (m3, .inl ((cA 0), 200, .inl wa)), (m4, .inl ((cA 1), 50, .inl fi)), (m5, .inl ((cA 0), 50, .inl ea)), (m6, .inl ((cA 0), 50, .inl cl))] t.heap ∧ va_K (dC, dI) clA (tysA cA) t ∧ va_D (va_A [(h0, .inr (0, [.int ns, .int npos, .int ncc, .ref m1, .ref m2, .ref m3, .ref m4, .ref m5, .ref m6, .ref m7])), (m2, .inl ((cA 0), 200, .inl wy)), (m3, .inl ((cA 0), 200, .inl wa)), (m4, .inl ((cA 1), 50, .inl fi)), (m5, .inl ((cA 0), 50, .inl ea)), (m6, .inl ((cA 0), 50, .inl cl))] sz) [(h0, .inr (0, [.int ns, .int npos, .int ncc, .ref m1, .ref m2, .ref m3, .ref m4, .ref m5, .ref m6, .ref m7])), (m2, .inl ((cA 0), 200, .inl wy)), (m3, .inl ((cA 0), 200, .inl wa)), (m4, .inl ((cA 1), 50, .inl fi)), (m5, .inl ((cA 0), 50, .inl ea)), (m6, .inl ((cA 0), 50, .inl cl))]) (va_A [(h0, .inr (0, [.int ns, .int npos, .int ncc, .ref m1, .ref m2, .ref m3, .ref m4, .ref m5, .ref m6, .ref m7])), (m2, .inl ((cA 0), 200, .inl wy)), (m3, .inl ((cA 0), 200, .inl wa)), (m4, .inl ((cA 1), 50, .inl fi)), (m5, .inl ((cA 0), 50, .inl ea)), (m6, .inl ((cA 0), 50, .inl cl))] sz)) 0 0 (va_A [(h0, .inr (0, [.int ns, .int npos, .int ncc, .ref m1, .ref m2, .ref m3, .ref m4, .ref m5, .ref m6, .ref m7])), (m2, .inl ((cA 0), 200, .inl wy)), (m3, .inl ((cA 0), 200, .inl wa)), (m4, .inl ((cA 1), 50, .inl fi)), (m5, .inl ((cA 0), 50, .inl ea)), (m6, .inl ((cA 0), 50, .inl cl))] sz) := by
  refine Met.ofW (cc := b_Mach_looksLike) (maxL := 5) (ret := (some .boolean)) (by decide) rfl ?_
  intro p e s m args below meth c s₁ B hml hv
  obtain ⟨rfl, hsz, hP, hK, hN, hD0⟩ := hv
  have hx := B.exec
  have hb := B.bytes
  have hr := B.returns
  have hts := atoms_spec (ws := ws_Mach_looksLike) B.pre
  have hown : s.vm.findClass RX0 = some m.cls := findClass_of_methodNamed B.named
  have hlocks := B.notSynchronized
  subst hsz
  have hD := hD0.self (sz := s.heap.size)
  generalize hAe : va_A [(h0, .inr (0, [.int ns, .int npos, .int ncc, .ref m1, .ref m2, .ref m3, .ref m4, .ref m5, .ref m6, .ref m7])), (m2, .inl ((cA 0), 200, .inl wy)), (m3, .inl ((cA 0), 200, .inl wa)), (m4, .inl ((cA 1), 50, .inl fi)), (m5, .inl ((cA 0), 50, .inl ea)), (m6, .inl ((cA 0), 50, .inl cl))] s.heap.size = A at hD ⊢
  have hA : ∀ q : Nat, s.heap.size ≤ q → A q := fun q h => by rw [← hAe]; exact Or.inr h
  have hS : va_S A s.heap s.heap [] := va_S.rf
  have hP : va_P (dC, dI) clA [(h0, .inr (0, [.int ns, .int npos, .int ncc, .ref m1, .ref m2, .ref m3, .ref m4, .ref m5, .ref m6, .ref m7])), (m2, .inl ((cA 0), 200, .inl wy)), (m3, .inl ((cA 0), 200, .inl wa)), (m4, .inl ((cA 1), 50, .inl fi)), (m5, .inl ((cA 0), 50, .inl ea)), (m6, .inl ((cA 0), 50, .inl cl))] s.heap := hP
  have hl := lv_entry ([.ref h0, .int p1, .int p2]) (n := 5) (Nat.le_of_ble_eq_true rfl)
  rw [lg_entry_eq]
  generalize (lg_sl ([.ref h0, .int p1, .int p2]) ++ List.replicate (5 - (lg_sl ([.ref h0, .int p1, .int p2])).length) Slot.unset).toArray = ls at hl ⊢
  have hl : lv_has ls 5 [(0, .ref h0), (1, .int p1), (2, .int p2)] := hl
  refine W_gen (fun Qz hQz => ?_)
  have hC : ∀ n : Nat, (∀ (x3 : Int32) (x4 : Int32) (H : Heap) (locs : List Loc) (ls : Array Slot), g_Mach_looksLike p1 p2 ns npos ncc wy wa fi ea cl n 1 x3 x4 out → va_P (dC, dI) clA [(h0, .inr (0, [.int ns, .int npos, .int ncc, .ref m1, .ref m2, .ref m3, .ref m4, .ref m5, .ref m6, .ref m7])), (m2, .inl ((cA 0), 200, .inl wy)), (m3, .inl ((cA 0), 200, .inl wa)), (m4, .inl ((cA 1), 50, .inl fi)), (m5, .inl ((cA 0), 50, .inl ea)), (m6, .inl ((cA 0), 50, .inl cl))] H → va_D A [(h0, .inr (0, [.int ns, .int npos, .int ncc, .ref m1, .ref m2, .ref m3, .ref m4, .ref m5, .ref m6, .ref m7])), (m2, .inl ((cA 0), 200, .inl wy)), (m3, .inl ((cA 0), 200, .inl wa)), (m4, .inl ((cA 1), 50, .inl fi)), (m5, .inl ((cA 0), 50, .inl ea)), (m6, .inl ((cA 0), 50, .inl cl))] → va_S A s.heap H locs → lv_has ls 5 [(0, .ref h0), (1, .int p1), (2, .int p2), (3, .int x3), (4, .int x4)] → W p l e ({ frames := 2, cells := 0, slots := 0, locals := 45 }) s m ([.ref h0, .int p1, .int p2]).toArray below meth c H locs 0 0 Qz (F0 m 54 ls [])) := by
    intro n
    induction n with
    | zero => exact fun _ _ _ _ _ hf => hf.elim
    | succ n ih =>
      have ih1 := ih
      · intro x3 x4 H locs ls hf hP hD hS hl
        rw [g_Mach_looksLike_1] at hf
        refine lv_iload hx hb d_Mach_looksLike_54 (lv_at hl 4 rfl) ?_
        refine lv_iconst (v := 4) hx hb d_Mach_looksLike_56 (by decide) ?_
        refine lv_icmp_ge (tgt := 110) hx hb d_Mach_looksLike_57 (by decide) (fun c_1 => ?_) (fun c_1 => ?_)
        · replace hf := hf.1 c_1
          refine lv_iload_n hx hb d_Mach_looksLike_110 rfl (lv_at hl 3 rfl) ?_
          obtain ⟨hz, hf⟩ := hf
          have hP9 := hP.sub (ws' := [(h0, .inr (0, [.int ns, .int npos, .int ncc, .ref m1, .ref m2, .ref m3, .ref m4, .ref m5, .ref m6, .ref m7])), (m2, .inl ((cA 0), 200, .inl wy)), (m3, .inl ((cA 0), 200, .inl wa)), (m4, .inl ((cA 1), 50, .inl fi)), (m5, .inl ((cA 0), 50, .inl ea)), (m6, .inl ((cA 0), 50, .inl cl))]) [0, 1, 2, 3, 4, 5] rfl
          have hD9 := hD.sub (ws' := [(h0, .inr (0, [.int ns, .int npos, .int ncc, .ref m1, .ref m2, .ref m3, .ref m4, .ref m5, .ref m6, .ref m7])), (m2, .inl ((cA 0), 200, .inl wy)), (m3, .inl ((cA 0), 200, .inl wa)), (m4, .inl ((cA 1), 50, .inl fi)), (m5, .inl ((cA 0), 50, .inl ea)), (m6, .inl ((cA 0), 50, .inl cl))]) [0, 1, 2, 3, 4, 5] (by decide) rfl
          refine W_end hQz ?_
          exact W.zret (v := x3) hx hb hr hz.1 (fun t ht hW => ⟨⟨x3, (), rfl, hf, P_cg ht.symm hP9, va_K.moved hW.alike hK, hD9⟩, hS.F ht⟩) hS.2.2 d_Mach_looksLike_111 hlocks
        · replace hf := hf.2 c_1
          refine lv_iload_n hx hb d_Mach_looksLike_60 rfl (lv_at hl 3 rfl) ?_
          refine lv_if_eq (tgt := 110) hx hb d_Mach_looksLike_61 (by decide) (fun c_3 => ?_) (fun c_3 => ?_)
          · replace hf := hf.1 c_3
            refine lv_iload_n hx hb d_Mach_looksLike_110 rfl (lv_at hl 3 rfl) ?_
            obtain ⟨hz, hf⟩ := hf
            have hP9 := hP.sub (ws' := [(h0, .inr (0, [.int ns, .int npos, .int ncc, .ref m1, .ref m2, .ref m3, .ref m4, .ref m5, .ref m6, .ref m7])), (m2, .inl ((cA 0), 200, .inl wy)), (m3, .inl ((cA 0), 200, .inl wa)), (m4, .inl ((cA 1), 50, .inl fi)), (m5, .inl ((cA 0), 50, .inl ea)), (m6, .inl ((cA 0), 50, .inl cl))]) [0, 1, 2, 3, 4, 5] rfl
            have hD9 := hD.sub (ws' := [(h0, .inr (0, [.int ns, .int npos, .int ncc, .ref m1, .ref m2, .ref m3, .ref m4, .ref m5, .ref m6, .ref m7])), (m2, .inl ((cA 0), 200, .inl wy)), (m3, .inl ((cA 0), 200, .inl wa)), (m4, .inl ((cA 1), 50, .inl fi)), (m5, .inl ((cA 0), 50, .inl ea)), (m6, .inl ((cA 0), 50, .inl cl))]) [0, 1, 2, 3, 4, 5] (by decide) rfl
            refine W_end hQz ?_
            exact W.zret (v := x3) hx hb hr hz.1 (fun t ht hW => ⟨⟨x3, (), rfl, hf, P_cg ht.symm hP9, va_K.moved hW.alike hK, hD9⟩, hS.F ht⟩) hS.2.2 d_Mach_looksLike_111 hlocks
          · replace hf := hf.2 c_3
            refine lv_aload_n hx hb d_Mach_looksLike_64 rfl (lv_at hl 0 rfl) ?_
            refine lv_iload_n hx hb d_Mach_looksLike_65 rfl (lv_at hl 1 rfl) ?_
            refine lv_iload hx hb d_Mach_looksLike_66 (lv_at hl 4 rfl) ?_
            obtain ⟨v_5, hv_5, hf⟩ := hf
            have hPc := hP.sub (ws' := [(h0, .inr (0, [.int ns, .int npos, .int ncc, .ref m1, .ref m2, .ref m3, .ref m4, .ref m5, .ref m6, .ref m7])), (m3, .inl ((cA 0), 200, .inl wa))]) [0, 2] rfl
            have hDc := hD.sub (ws' := [(h0, .inr (0, [.int ns, .int npos, .int ncc, .ref m1, .ref m2, .ref m3, .ref m4, .ref m5, .ref m6, .ref m7])), (m3, .inl ((cA 0), 200, .inl wa))]) [0, 2] (by decide) rfl
            have hFc := va_free (wc := [(h0, .inr (0, [.int ns, .int npos, .int ncc, .ref m1, .ref m2, .ref m3, .ref m4, .ref m5, .ref m6, .ref m7])), (m3, .inl ((cA 0), 200, .inl wa))]) hD hS hA [0, 2] rfl
            refine va_calli (va_runV (As := [.int p1, .int x4]) (rest := []) ⟨hx, hb, hml, hown, hts⟩ (c_Mach_actionsOnWay l dC dI cA h0 m3 m1 m2 m4 m5 m6 m7 H.size p1 x4 ns npos ncc wa v_5 hv_5) (cwV 2 hts (gV9 k_799 k_800 k_801 k_54 k_802) rfl rfl rfl hv_Mach_actionsOnWay ⟨Nat.le_of_ble_eq_true rfl, Nat.le_of_ble_eq_true rfl⟩) ⟨fun a U g mk q => by obtain ⟨q0, q1, qP, qK, qN, qD⟩ := q; exact ⟨q0, q1, qP, va_K.moved (u := U) (U := U.calling g mk a) (Vm.Alike.refl U.vm) qK, nW_same (u := U) (U := U.calling g mk a) rfl qN, qD⟩, va_recv hK hPc (ci := 0) (q0 := 0) rfl rfl, fun U hU hW => ⟨rfl, congrArg _ hU, P_cg hU.symm hPc, va_K.moved hW.alike hK, nW_warm hW hN, hDc.weaken (fun _ _ _ _ => trivial)⟩⟩ rfl rfl hl.1 rfl (lv_room (Nat.le_of_ble_eq_true rfl)) d_Mach_looksLike_68 ⟨Nat.zero_le _, Nat.zero_le _⟩) hS (fun q _ h => hFc q h) hFc (fun r u t H locs ht hvm hw hB hz1 hk1 hS => ?_)
            obtain ⟨rfl, rfl⟩ : r = v_5.1 ∧ u = v_5.2 := ⟨(congrArg Prod.fst hw).symm, (congrArg Prod.snd hw).symm⟩
            obtain ⟨hP1, hK1, hD1⟩ := hB
            replace hP1 := P_cg ht hP1
            obtain ⟨hP, hD⟩ := va_join (wc := [(h0, .inr (0, [.int ns, .int npos, .int ncc, .ref m1, .ref m2, .ref m3, .ref m4, .ref m5, .ref m6, .ref m7])), (m3, .inl ((cA 0), 200, .inl wa))]) (wr := [(m2, .inl ((cA 0), 200, .inl wy)), (m4, .inl ((cA 1), 50, .inl fi)), (m5, .inl ((cA 0), 50, .inl ea)), (m6, .inl ((cA 0), 50, .inl cl))]) (w1 := [(h0, .inr (0, [.int ns, .int npos, .int ncc, .ref m1, .ref m2, .ref m3, .ref m4, .ref m5, .ref m6, .ref m7])), (m3, .inl ((cA 0), 200, .inl wa))]) hP hD [0, 2] [1, 3, 4, 5] rfl rfl (by decide) (by decide) hk1 hFc hP1 hD1
            have hP : va_P (dC, dI) clA [(m2, .inl ((cA 0), 200, .inl wy)), (m4, .inl ((cA 1), 50, .inl fi)), (m5, .inl ((cA 0), 50, .inl ea)), (m6, .inl ((cA 0), 50, .inl cl)), (h0, .inr (0, [.int ns, .int npos, .int ncc, .ref m1, .ref m2, .ref m3, .ref m4, .ref m5, .ref m6, .ref m7])), (m3, .inl ((cA 0), 200, .inl wa))] H := hP
            have hD : va_D A [(m2, .inl ((cA 0), 200, .inl wy)), (m4, .inl ((cA 1), 50, .inl fi)), (m5, .inl ((cA 0), 50, .inl ea)), (m6, .inl ((cA 0), 50, .inl cl)), (h0, .inr (0, [.int ns, .int npos, .int ncc, .ref m1, .ref m2, .ref m3, .ref m4, .ref m5, .ref m6, .ref m7])), (m3, .inl ((cA 0), 200, .inl wa))] := hD
            refine lv_aload_n hx hb d_Mach_looksLike_71 rfl (lv_at hl 0 rfl) ?_
            refine lv_iload_n hx hb d_Mach_looksLike_72 rfl (lv_at hl 2 rfl) ?_
            refine lv_iload hx hb d_Mach_looksLike_73 (lv_at hl 4 rfl) ?_
            obtain ⟨v_6, hv_6, hf⟩ := hf
            have hPc := hP.sub (ws' := [(h0, .inr (0, [.int ns, .int npos, .int ncc, .ref m1, .ref m2, .ref m3, .ref m4, .ref m5, .ref m6, .ref m7])), (m3, .inl ((cA 0), 200, .inl wa))]) [4, 5] rfl
            have hDc := hD.sub (ws' := [(h0, .inr (0, [.int ns, .int npos, .int ncc, .ref m1, .ref m2, .ref m3, .ref m4, .ref m5, .ref m6, .ref m7])), (m3, .inl ((cA 0), 200, .inl wa))]) [4, 5] (by decide) rfl
            have hFc := va_free (wc := [(h0, .inr (0, [.int ns, .int npos, .int ncc, .ref m1, .ref m2, .ref m3, .ref m4, .ref m5, .ref m6, .ref m7])), (m3, .inl ((cA 0), 200, .inl wa))]) hD hS hA [4, 5] rfl
            refine va_calli (va_runV (As := [.int p2, .int x4]) (rest := [.int v_5.1]) ⟨hx, hb, hml, hown, hts⟩ (c_Mach_actionsOnWay l dC dI cA h0 m3 m1 m2 m4 m5 m6 m7 H.size p2 x4 ns npos ncc wa v_6 hv_6) (cwV 2 hts (gV9 k_799 k_800 k_801 k_54 k_802) rfl rfl rfl hv_Mach_actionsOnWay ⟨Nat.le_of_ble_eq_true rfl, Nat.le_of_ble_eq_true rfl⟩) ⟨fun a U g mk q => by obtain ⟨q0, q1, qP, qK, qN, qD⟩ := q; exact ⟨q0, q1, qP, va_K.moved (u := U) (U := U.calling g mk a) (Vm.Alike.refl U.vm) qK, nW_same (u := U) (U := U.calling g mk a) rfl qN, qD⟩, va_recv hK hPc (ci := 0) (q0 := 0) rfl rfl, fun U hU hW => ⟨rfl, congrArg _ hU, P_cg hU.symm hPc, va_K.moved hW.alike hK, nW_warm hW hN, hDc.weaken (fun _ _ _ _ => trivial)⟩⟩ rfl rfl hl.1 rfl (lv_room (Nat.le_of_ble_eq_true rfl)) d_Mach_looksLike_75 ⟨Nat.zero_le _, Nat.zero_le _⟩) hS (fun q _ h => hFc q h) hFc (fun r u t H locs ht hvm hw hB hz1 hk1 hS => ?_)
            obtain ⟨rfl, rfl⟩ : r = v_6.1 ∧ u = v_6.2 := ⟨(congrArg Prod.fst hw).symm, (congrArg Prod.snd hw).symm⟩
            obtain ⟨hP1, hK1, hD1⟩ := hB
            replace hP1 := P_cg ht hP1
            obtain ⟨hP, hD⟩ := va_join (wc := [(h0, .inr (0, [.int ns, .int npos, .int ncc, .ref m1, .ref m2, .ref m3, .ref m4, .ref m5, .ref m6, .ref m7])), (m3, .inl ((cA 0), 200, .inl wa))]) (wr := [(m2, .inl ((cA 0), 200, .inl wy)), (m4, .inl ((cA 1), 50, .inl fi)), (m5, .inl ((cA 0), 50, .inl ea)), (m6, .inl ((cA 0), 50, .inl cl))]) (w1 := [(h0, .inr (0, [.int ns, .int npos, .int ncc, .ref m1, .ref m2, .ref m3, .ref m4, .ref m5, .ref m6, .ref m7])), (m3, .inl ((cA 0), 200, .inl wa))]) hP hD [4, 5] [0, 1, 2, 3] rfl rfl (by decide) (by decide) hk1 hFc hP1 hD1
            have hP : va_P (dC, dI) clA [(m2, .inl ((cA 0), 200, .inl wy)), (m4, .inl ((cA 1), 50, .inl fi)), (m5, .inl ((cA 0), 50, .inl ea)), (m6, .inl ((cA 0), 50, .inl cl)), (h0, .inr (0, [.int ns, .int npos, .int ncc, .ref m1, .ref m2, .ref m3, .ref m4, .ref m5, .ref m6, .ref m7])), (m3, .inl ((cA 0), 200, .inl wa))] H := hP
            have hD : va_D A [(m2, .inl ((cA 0), 200, .inl wy)), (m4, .inl ((cA 1), 50, .inl fi)), (m5, .inl ((cA 0), 50, .inl ea)), (m6, .inl ((cA 0), 50, .inl cl)), (h0, .inr (0, [.int ns, .int npos, .int ncc, .ref m1, .ref m2, .ref m3, .ref m4, .ref m5, .ref m6, .ref m7])), (m3, .inl ((cA 0), 200, .inl wa))] := hD
            refine lv_icmp_ne (tgt := 102) hx hb d_Mach_looksLike_78 (by decide) (fun c_7 => ?_) (fun c_7 => ?_)
            · replace hf := hf.1 c_7
              refine lv_iconst (v := 0) hx hb d_Mach_looksLike_102 (by decide) ?_
              refine lv_istore_n (lv' := [(3, .int 0), (0, .ref h0), (1, .int p1), (2, .int p2), (4, .int x4)]) hx hb d_Mach_looksLike_103 rfl hl (by decide) rfl (fun ls hl => ?_)
              refine lv_iinc (v := x4 + 1) (lv' := [(4, .int (x4 + 1)), (3, .int 0), (0, .ref h0), (1, .int p1), (2, .int p2)]) hx hb d_Mach_looksLike_104 hl (k := 4) rfl rfl (by decide) rfl (fun ls hl => ?_)
              refine lv_goto (tgt := 54) hx hb d_Mach_looksLike_107 (by decide) ?_
              exact ih1 _ _ _ _ _ hf (hP.sub [4, 0, 5, 1, 2, 3] rfl) (hD.sub [4, 0, 5, 1, 2, 3] (by decide) rfl) hS (lv_sub hl [2, 3, 4, 1, 0] rfl)
            · replace hf := hf.2 c_7
              refine lv_aload_n hx hb d_Mach_looksLike_81 rfl (lv_at hl 0 rfl) ?_
              refine lv_iload_n hx hb d_Mach_looksLike_82 rfl (lv_at hl 1 rfl) ?_
              refine lv_iload hx hb d_Mach_looksLike_83 (lv_at hl 4 rfl) ?_
              obtain ⟨v_8, hv_8, hf⟩ := hf
              have hPc := hP.sub (ws' := [(h0, .inr (0, [.int ns, .int npos, .int ncc, .ref m1, .ref m2, .ref m3, .ref m4, .ref m5, .ref m6, .ref m7])), (m2, .inl ((cA 0), 200, .inl wy)), (m6, .inl ((cA 0), 50, .inl cl))]) [4, 0, 3] rfl
              have hDc := hD.sub (ws' := [(h0, .inr (0, [.int ns, .int npos, .int ncc, .ref m1, .ref m2, .ref m3, .ref m4, .ref m5, .ref m6, .ref m7])), (m2, .inl ((cA 0), 200, .inl wy)), (m6, .inl ((cA 0), 50, .inl cl))]) [4, 0, 3] (by decide) rfl
              have hFc := va_free (wc := [(h0, .inr (0, [.int ns, .int npos, .int ncc, .ref m1, .ref m2, .ref m3, .ref m4, .ref m5, .ref m6, .ref m7])), (m2, .inl ((cA 0), 200, .inl wy)), (m6, .inl ((cA 0), 50, .inl cl))]) hD hS hA [4, 0, 3] rfl
              refine va_calli (va_runV (As := [.int p1, .int x4]) (rest := []) ⟨hx, hb, hml, hown, hts⟩ (c_Mach_classBehind l dC dI cA h0 m2 m6 m1 m3 m4 m5 m7 H.size p1 x4 ns npos ncc wy cl v_8 hv_8) (cwV 2 hts (gV9 k_803 k_805 k_22 k_54 k_806) rfl rfl rfl hv_Mach_classBehind ⟨Nat.le_of_ble_eq_true rfl, Nat.le_of_ble_eq_true rfl⟩) ⟨fun a U g mk q => by obtain ⟨q0, q1, qP, qK, qN, qD⟩ := q; exact ⟨q0, q1, qP, va_K.moved (u := U) (U := U.calling g mk a) (Vm.Alike.refl U.vm) qK, nW_same (u := U) (U := U.calling g mk a) rfl qN, qD⟩, va_recv hK hPc (ci := 0) (q0 := 0) rfl rfl, fun U hU hW => ⟨rfl, congrArg _ hU, P_cg hU.symm hPc, va_K.moved hW.alike hK, nW_warm hW hN, hDc.weaken (fun _ _ _ _ => trivial)⟩⟩ rfl rfl hl.1 rfl (lv_room (Nat.le_of_ble_eq_true rfl)) d_Mach_looksLike_85 ⟨Nat.zero_le _, Nat.zero_le _⟩) hS (fun q _ h => hFc q h) hFc (fun r u t H locs ht hvm hw hB hz1 hk1 hS => ?_)
              obtain ⟨rfl, rfl⟩ : r = v_8.1 ∧ u = v_8.2 := ⟨(congrArg Prod.fst hw).symm, (congrArg Prod.snd hw).symm⟩
              obtain ⟨hP1, hK1, hD1⟩ := hB
              replace hP1 := P_cg ht hP1
              obtain ⟨hP, hD⟩ := va_join (wc := [(h0, .inr (0, [.int ns, .int npos, .int ncc, .ref m1, .ref m2, .ref m3, .ref m4, .ref m5, .ref m6, .ref m7])), (m2, .inl ((cA 0), 200, .inl wy)), (m6, .inl ((cA 0), 50, .inl cl))]) (wr := [(m4, .inl ((cA 1), 50, .inl fi)), (m5, .inl ((cA 0), 50, .inl ea)), (m3, .inl ((cA 0), 200, .inl wa))]) (w1 := [(h0, .inr (0, [.int ns, .int npos, .int ncc, .ref m1, .ref m2, .ref m3, .ref m4, .ref m5, .ref m6, .ref m7])), (m2, .inl ((cA 0), 200, .inl wy)), (m6, .inl ((cA 0), 50, .inl cl))]) hP hD [4, 0, 3] [1, 2, 5] rfl rfl (by decide) (by decide) hk1 hFc hP1 hD1
              have hP : va_P (dC, dI) clA [(m4, .inl ((cA 1), 50, .inl fi)), (m5, .inl ((cA 0), 50, .inl ea)), (m3, .inl ((cA 0), 200, .inl wa)), (h0, .inr (0, [.int ns, .int npos, .int ncc, .ref m1, .ref m2, .ref m3, .ref m4, .ref m5, .ref m6, .ref m7])), (m2, .inl ((cA 0), 200, .inl wy)), (m6, .inl ((cA 0), 50, .inl cl))] H := hP
              have hD : va_D A [(m4, .inl ((cA 1), 50, .inl fi)), (m5, .inl ((cA 0), 50, .inl ea)), (m3, .inl ((cA 0), 200, .inl wa)), (h0, .inr (0, [.int ns, .int npos, .int ncc, .ref m1, .ref m2, .ref m3, .ref m4, .ref m5, .ref m6, .ref m7])), (m2, .inl ((cA 0), 200, .inl wy)), (m6, .inl ((cA 0), 50, .inl cl))] := hD
              refine lv_aload_n hx hb d_Mach_looksLike_88 rfl (lv_at hl 0 rfl) ?_
              refine lv_iload_n hx hb d_Mach_looksLike_89 rfl (lv_at hl 2 rfl) ?_
              refine lv_iload hx hb d_Mach_looksLike_90 (lv_at hl 4 rfl) ?_
              obtain ⟨v_9, hv_9, hf⟩ := hf
              have hPc := hP.sub (ws' := [(h0, .inr (0, [.int ns, .int npos, .int ncc, .ref m1, .ref m2, .ref m3, .ref m4, .ref m5, .ref m6, .ref m7])), (m2, .inl ((cA 0), 200, .inl wy)), (m6, .inl ((cA 0), 50, .inl cl))]) [3, 4, 5] rfl
              have hDc := hD.sub (ws' := [(h0, .inr (0, [.int ns, .int npos, .int ncc, .ref m1, .ref m2, .ref m3, .ref m4, .ref m5, .ref m6, .ref m7])), (m2, .inl ((cA 0), 200, .inl wy)), (m6, .inl ((cA 0), 50, .inl cl))]) [3, 4, 5] (by decide) rfl
              have hFc := va_free (wc := [(h0, .inr (0, [.int ns, .int npos, .int ncc, .ref m1, .ref m2, .ref m3, .ref m4, .ref m5, .ref m6, .ref m7])), (m2, .inl ((cA 0), 200, .inl wy)), (m6, .inl ((cA 0), 50, .inl cl))]) hD hS hA [3, 4, 5] rfl
              refine va_calli (va_runV (As := [.int p2, .int x4]) (rest := [.int v_8.1]) ⟨hx, hb, hml, hown, hts⟩ (c_Mach_classBehind l dC dI cA h0 m2 m6 m1 m3 m4 m5 m7 H.size p2 x4 ns npos ncc wy cl v_9 hv_9) (cwV 2 hts (gV9 k_803 k_805 k_22 k_54 k_806) rfl rfl rfl hv_Mach_classBehind ⟨Nat.le_of_ble_eq_true rfl, Nat.le_of_ble_eq_true rfl⟩) ⟨fun a U g mk q => by obtain ⟨q0, q1, qP, qK, qN, qD⟩ := q; exact ⟨q0, q1, qP, va_K.moved (u := U) (U := U.calling g mk a) (Vm.Alike.refl U.vm) qK, nW_same (u := U) (U := U.calling g mk a) rfl qN, qD⟩, va_recv hK hPc (ci := 0) (q0 := 0) rfl rfl, fun U hU hW => ⟨rfl, congrArg _ hU, P_cg hU.symm hPc, va_K.moved hW.alike hK, nW_warm hW hN, hDc.weaken (fun _ _ _ _ => trivial)⟩⟩ rfl rfl hl.1 rfl (lv_room (Nat.le_of_ble_eq_true rfl)) d_Mach_looksLike_92 ⟨Nat.zero_le _, Nat.zero_le _⟩) hS (fun q _ h => hFc q h) hFc (fun r u t H locs ht hvm hw hB hz1 hk1 hS => ?_)
              obtain ⟨rfl, rfl⟩ : r = v_9.1 ∧ u = v_9.2 := ⟨(congrArg Prod.fst hw).symm, (congrArg Prod.snd hw).symm⟩
              obtain ⟨hP1, hK1, hD1⟩ := hB
              replace hP1 := P_cg ht hP1
              obtain ⟨hP, hD⟩ := va_join (wc := [(h0, .inr (0, [.int ns, .int npos, .int ncc, .ref m1, .ref m2, .ref m3, .ref m4, .ref m5, .ref m6, .ref m7])), (m2, .inl ((cA 0), 200, .inl wy)), (m6, .inl ((cA 0), 50, .inl cl))]) (wr := [(m4, .inl ((cA 1), 50, .inl fi)), (m5, .inl ((cA 0), 50, .inl ea)), (m3, .inl ((cA 0), 200, .inl wa))]) (w1 := [(h0, .inr (0, [.int ns, .int npos, .int ncc, .ref m1, .ref m2, .ref m3, .ref m4, .ref m5, .ref m6, .ref m7])), (m2, .inl ((cA 0), 200, .inl wy)), (m6, .inl ((cA 0), 50, .inl cl))]) hP hD [3, 4, 5] [0, 1, 2] rfl rfl (by decide) (by decide) hk1 hFc hP1 hD1
              have hP : va_P (dC, dI) clA [(m4, .inl ((cA 1), 50, .inl fi)), (m5, .inl ((cA 0), 50, .inl ea)), (m3, .inl ((cA 0), 200, .inl wa)), (h0, .inr (0, [.int ns, .int npos, .int ncc, .ref m1, .ref m2, .ref m3, .ref m4, .ref m5, .ref m6, .ref m7])), (m2, .inl ((cA 0), 200, .inl wy)), (m6, .inl ((cA 0), 50, .inl cl))] H := hP
              have hD : va_D A [(m4, .inl ((cA 1), 50, .inl fi)), (m5, .inl ((cA 0), 50, .inl ea)), (m3, .inl ((cA 0), 200, .inl wa)), (h0, .inr (0, [.int ns, .int npos, .int ncc, .ref m1, .ref m2, .ref m3, .ref m4, .ref m5, .ref m6, .ref m7])), (m2, .inl ((cA 0), 200, .inl wy)), (m6, .inl ((cA 0), 50, .inl cl))] := hD
              refine lv_icmp_ne (tgt := 102) hx hb d_Mach_looksLike_95 (by decide) (fun c_10 => ?_) (fun c_10 => ?_)
              · replace hf := hf.1 c_10
                refine lv_iconst (v := 0) hx hb d_Mach_looksLike_102 (by decide) ?_
                refine lv_istore_n (lv' := [(3, .int 0), (0, .ref h0), (1, .int p1), (2, .int p2), (4, .int x4)]) hx hb d_Mach_looksLike_103 rfl hl (by decide) rfl (fun ls hl => ?_)
                refine lv_iinc (v := x4 + 1) (lv' := [(4, .int (x4 + 1)), (3, .int 0), (0, .ref h0), (1, .int p1), (2, .int p2)]) hx hb d_Mach_looksLike_104 hl (k := 4) rfl rfl (by decide) rfl (fun ls hl => ?_)
                refine lv_goto (tgt := 54) hx hb d_Mach_looksLike_107 (by decide) ?_
                exact ih1 _ _ _ _ _ hf (hP.sub [3, 4, 2, 0, 1, 5] rfl) (hD.sub [3, 4, 2, 0, 1, 5] (by decide) rfl) hS (lv_sub hl [2, 3, 4, 1, 0] rfl)
              · replace hf := hf.2 c_10
                refine lv_iconst (v := 1) hx hb d_Mach_looksLike_98 (by decide) ?_
                refine lv_goto (tgt := 103) hx hb d_Mach_looksLike_99 (by decide) ?_
                refine lv_istore_n (lv' := [(3, .int 1), (0, .ref h0), (1, .int p1), (2, .int p2), (4, .int x4)]) hx hb d_Mach_looksLike_103 rfl hl (by decide) rfl (fun ls hl => ?_)
                refine lv_iinc (v := x4 + 1) (lv' := [(4, .int (x4 + 1)), (3, .int 1), (0, .ref h0), (1, .int p1), (2, .int p2)]) hx hb d_Mach_looksLike_104 hl (k := 4) rfl rfl (by decide) rfl (fun ls hl => ?_)
                refine lv_goto (tgt := 54) hx hb d_Mach_looksLike_107 (by decide) ?_
                exact ih1 _ _ _ _ _ hf (hP.sub [3, 4, 2, 0, 1, 5] rfl) (hD.sub [3, 4, 2, 0, 1, 5] (by decide) rfl) hS (lv_sub hl [2, 3, 4, 1, 0] rfl)
  have hf := hR
  unfold R_Mach_looksLike at hf
  refine lv_aload_n hx hb d_Mach_looksLike_0 rfl (lv_at hl 0 rfl) ?_
  refine va_get (D := (dC, dI)) (ci := 0) (v := .ref m6) (C := RX0) (T := TX0) (N := 10) hx hb hts (fun w h => List.mem_cons_of_mem _ (in_X0 w h)) hown hK hP 0 rfl rfl 8 (by decide) (hts _ (List.mem_cons_of_mem _ k_216)) (fun _ h9 => h9) rfl d_Mach_looksLike_1 ?_
  refine lv_iload_n hx hb d_Mach_looksLike_4 rfl (lv_at hl 1 rfl) ?_
  obtain ⟨h_1, hf⟩ := hf
  refine va_iald hx hb hK hP 5 0 rfl rfl h_1 d_Mach_looksLike_5 ?_
  refine lv_aload_n hx hb d_Mach_looksLike_6 rfl (lv_at hl 0 rfl) ?_
  refine va_get (D := (dC, dI)) (ci := 0) (v := .ref m6) (C := RX0) (T := TX0) (N := 10) hx hb hts (fun w h => List.mem_cons_of_mem _ (in_X0 w h)) hown hK hP 0 rfl rfl 8 (by decide) (hts _ (List.mem_cons_of_mem _ k_216)) (fun _ h9 => h9) rfl d_Mach_looksLike_7 ?_
  refine lv_iload_n hx hb d_Mach_looksLike_10 rfl (lv_at hl 2 rfl) ?_
  obtain ⟨h_2, hf⟩ := hf
  refine va_iald hx hb hK hP 5 0 rfl rfl h_2 d_Mach_looksLike_11 ?_
  refine lv_icmp_ne (tgt := 49) hx hb d_Mach_looksLike_12 (by decide) (fun c_3 => ?_) (fun c_3 => ?_)
  · replace hf := hf.1 c_3
    refine lv_iconst (v := 0) hx hb d_Mach_looksLike_49 (by decide) ?_
    refine lv_istore_n (lv' := [(3, .int 0), (0, .ref h0), (1, .int p1), (2, .int p2)]) hx hb d_Mach_looksLike_50 rfl hl (by decide) rfl (fun ls hl => ?_)
    refine lv_iconst (v := 0) hx hb d_Mach_looksLike_51 (by decide) ?_
    refine lv_istore (lv' := [(4, .int 0), (3, .int 0), (0, .ref h0), (1, .int p1), (2, .int p2)]) hx hb d_Mach_looksLike_52 hl (by decide) rfl (fun ls hl => ?_)
    obtain ⟨n, hf⟩ := hf
    exact (hC n) _ _ _ _ _ hf (hP.sub [0, 1, 2, 3, 4, 5] rfl) (hD.sub [0, 1, 2, 3, 4, 5] (by decide) rfl) hS (lv_sub hl [2, 3, 4, 1, 0] rfl)
  · replace hf := hf.2 c_3
    refine lv_aload_n hx hb d_Mach_looksLike_15 rfl (lv_at hl 0 rfl) ?_
    refine va_get (D := (dC, dI)) (ci := 0) (v := .ref m4) (C := RX0) (T := TX0) (N := 10) hx hb hts (fun w h => List.mem_cons_of_mem _ (in_X0 w h)) hown hK hP 0 rfl rfl 6 (by decide) (hts _ (List.mem_cons_of_mem _ k_212)) (fun _ h9 => h9) rfl d_Mach_looksLike_16 ?_
    refine lv_iload_n hx hb d_Mach_looksLike_19 rfl (lv_at hl 1 rfl) ?_
    obtain ⟨h_4, hf⟩ := hf
    refine va_zald hx hb hK hP 3 1 rfl rfl h_4 d_Mach_looksLike_20 ?_
    refine lv_aload_n hx hb d_Mach_looksLike_21 rfl (lv_at hl 0 rfl) ?_
    refine va_get (D := (dC, dI)) (ci := 0) (v := .ref m4) (C := RX0) (T := TX0) (N := 10) hx hb hts (fun w h => List.mem_cons_of_mem _ (in_X0 w h)) hown hK hP 0 rfl rfl 6 (by decide) (hts _ (List.mem_cons_of_mem _ k_212)) (fun _ h9 => h9) rfl d_Mach_looksLike_22 ?_
    refine lv_iload_n hx hb d_Mach_looksLike_25 rfl (lv_at hl 2 rfl) ?_
    obtain ⟨h_5, hf⟩ := hf
    refine va_zald hx hb hK hP 3 1 rfl rfl h_5 d_Mach_looksLike_26 ?_
    refine lv_icmp_ne (tgt := 49) hx hb d_Mach_looksLike_27 (by decide) (fun c_6 => ?_) (fun c_6 => ?_)
    · replace hf := hf.1 c_6
      refine lv_iconst (v := 0) hx hb d_Mach_looksLike_49 (by decide) ?_
      refine lv_istore_n (lv' := [(3, .int 0), (0, .ref h0), (1, .int p1), (2, .int p2)]) hx hb d_Mach_looksLike_50 rfl hl (by decide) rfl (fun ls hl => ?_)
      refine lv_iconst (v := 0) hx hb d_Mach_looksLike_51 (by decide) ?_
      refine lv_istore (lv' := [(4, .int 0), (3, .int 0), (0, .ref h0), (1, .int p1), (2, .int p2)]) hx hb d_Mach_looksLike_52 hl (by decide) rfl (fun ls hl => ?_)
      obtain ⟨n, hf⟩ := hf
      exact (hC n) _ _ _ _ _ hf (hP.sub [0, 1, 2, 3, 4, 5] rfl) (hD.sub [0, 1, 2, 3, 4, 5] (by decide) rfl) hS (lv_sub hl [2, 3, 4, 1, 0] rfl)
    · replace hf := hf.2 c_6
      refine lv_aload_n hx hb d_Mach_looksLike_30 rfl (lv_at hl 0 rfl) ?_
      refine va_get (D := (dC, dI)) (ci := 0) (v := .ref m5) (C := RX0) (T := TX0) (N := 10) hx hb hts (fun w h => List.mem_cons_of_mem _ (in_X0 w h)) hown hK hP 0 rfl rfl 7 (by decide) (hts _ (List.mem_cons_of_mem _ k_214)) (fun _ h9 => h9) rfl d_Mach_looksLike_31 ?_
      refine lv_iload_n hx hb d_Mach_looksLike_34 rfl (lv_at hl 1 rfl) ?_
      obtain ⟨h_7, hf⟩ := hf
      refine va_iald hx hb hK hP 4 0 rfl rfl h_7 d_Mach_looksLike_35 ?_
      refine lv_aload_n hx hb d_Mach_looksLike_36 rfl (lv_at hl 0 rfl) ?_
      refine va_get (D := (dC, dI)) (ci := 0) (v := .ref m5) (C := RX0) (T := TX0) (N := 10) hx hb hts (fun w h => List.mem_cons_of_mem _ (in_X0 w h)) hown hK hP 0 rfl rfl 7 (by decide) (hts _ (List.mem_cons_of_mem _ k_214)) (fun _ h9 => h9) rfl d_Mach_looksLike_37 ?_
      refine lv_iload_n hx hb d_Mach_looksLike_40 rfl (lv_at hl 2 rfl) ?_
      obtain ⟨h_8, hf⟩ := hf
      refine va_iald hx hb hK hP 4 0 rfl rfl h_8 d_Mach_looksLike_41 ?_
      refine lv_icmp_ne (tgt := 49) hx hb d_Mach_looksLike_42 (by decide) (fun c_9 => ?_) (fun c_9 => ?_)
      · replace hf := hf.1 c_9
        refine lv_iconst (v := 0) hx hb d_Mach_looksLike_49 (by decide) ?_
        refine lv_istore_n (lv' := [(3, .int 0), (0, .ref h0), (1, .int p1), (2, .int p2)]) hx hb d_Mach_looksLike_50 rfl hl (by decide) rfl (fun ls hl => ?_)
        refine lv_iconst (v := 0) hx hb d_Mach_looksLike_51 (by decide) ?_
        refine lv_istore (lv' := [(4, .int 0), (3, .int 0), (0, .ref h0), (1, .int p1), (2, .int p2)]) hx hb d_Mach_looksLike_52 hl (by decide) rfl (fun ls hl => ?_)
        obtain ⟨n, hf⟩ := hf
        exact (hC n) _ _ _ _ _ hf (hP.sub [0, 1, 2, 3, 4, 5] rfl) (hD.sub [0, 1, 2, 3, 4, 5] (by decide) rfl) hS (lv_sub hl [2, 3, 4, 1, 0] rfl)
      · replace hf := hf.2 c_9
        refine lv_iconst (v := 1) hx hb d_Mach_looksLike_45 (by decide) ?_
        refine lv_goto (tgt := 50) hx hb d_Mach_looksLike_46 (by decide) ?_
        refine lv_istore_n (lv' := [(3, .int 1), (0, .ref h0), (1, .int p1), (2, .int p2)]) hx hb d_Mach_looksLike_50 rfl hl (by decide) rfl (fun ls hl => ?_)
        refine lv_iconst (v := 0) hx hb d_Mach_looksLike_51 (by decide) ?_
        refine lv_istore (lv' := [(4, .int 0), (3, .int 1), (0, .ref h0), (1, .int p1), (2, .int p2)]) hx hb d_Mach_looksLike_52 hl (by decide) rfl (fun ls hl => ?_)
        obtain ⟨n, hf⟩ := hf
        exact (hC n) _ _ _ _ _ hf (hP.sub [0, 1, 2, 3, 4, 5] rfl) (hD.sub [0, 1, 2, 3, 4, 5] (by decide) rfl) hS (lv_sub hl [2, 3, 4, 1, 0] rfl)
def g_Mach_leastAlike (p1 : Int32) (ns : Int32) (npos : Int32) (ncc : Int32) (wy : Nat → Int32) (wa : Nat → Int32) (fi : Nat → Int32) (ea : Nat → Int32) (cl : Nat → Int32) (fn : Nat → Int32) : Nat → Nat → Int32 → (Int32 × Unit) → Prop
  | 0, _, _, _ => False
  | n + 1, k, x2, out => match k with
    | 1 => ((p1 ≤ x2) → (out = (p1, ()))) ∧ (¬ (p1 ≤ x2) → (vp_in x2 50 ∧ (((¬ (fn x2.toNatClampNeg) = x2) → (g_Mach_leastAlike p1 ns npos ncc wy wa fi ea cl fn n 1 (x2 + 1) out)) ∧ (((fn x2.toNatClampNeg) = x2) → (∃ v_5, R_Mach_looksLike p1 x2 ns npos ncc wy wa fi ea cl v_5 ∧ (((v_5.1 = 0) → (g_Mach_leastAlike p1 ns npos ncc wy wa fi ea cl fn n 1 (x2 + 1) out)) ∧ (¬ (v_5.1 = 0) → (out = (x2, ())))))))))
    | _ => False
theorem g_Mach_leastAlike_1 (p1 : Int32) (ns : Int32) (npos : Int32) (ncc : Int32) (wy : Nat → Int32) (wa : Nat → Int32) (fi : Nat → Int32) (ea : Nat → Int32) (cl : Nat → Int32) (fn : Nat → Int32) (n : Nat) (x2 : Int32) (out : Int32 × Unit) : g_Mach_leastAlike p1 ns npos ncc wy wa fi ea cl fn (n + 1) 1 x2 out = (((p1 ≤ x2) → (out = (p1, ()))) ∧ (¬ (p1 ≤ x2) → (vp_in x2 50 ∧ (((¬ (fn x2.toNatClampNeg) = x2) → (g_Mach_leastAlike p1 ns npos ncc wy wa fi ea cl fn n 1 (x2 + 1) out)) ∧ (((fn x2.toNatClampNeg) = x2) → (∃ v_5, R_Mach_looksLike p1 x2 ns npos ncc wy wa fi ea cl v_5 ∧ (((v_5.1 = 0) → (g_Mach_leastAlike p1 ns npos ncc wy wa fi ea cl fn n 1 (x2 + 1) out)) ∧ (¬ (v_5.1 = 0) → (out = (x2, ())))))))))) := rfl
def R_Mach_leastAlike (p1 : Int32) (ns : Int32) (npos : Int32) (ncc : Int32) (wy : Nat → Int32) (wa : Nat → Int32) (fi : Nat → Int32) (ea : Nat → Int32) (cl : Nat → Int32) (fn : Nat → Int32)  (out : Int32 × Unit) : Prop := (∃ n, g_Mach_leastAlike p1 ns npos ncc wy wa fi ea cl fn n 1 0 out)
set_option maxHeartbeats 4000000 in
set_option maxRecDepth 100000 in
theorem c_Mach_leastAlike (l : Launch) (dC : Nat → ClassId) (dI : Nat → Nat → Nat) (cA : Nat → ClassId) (h0 m2 m3 m4 m5 m6 m7 m1 : Nat) (sz : Nat) (p1 : Int32) (ns : Int32) (npos : Int32) (ncc : Int32) (wy : Nat → Int32) (wa : Nat → Int32) (fi : Nat → Int32) (ea : Nat → Int32) (cl : Nat → Int32) (fn : Nat → Int32)  (out : Int32 × Unit) (hR : R_Mach_leastAlike p1 ns npos ncc wy wa fi ea cl fn  out) : Met l y_Mach_leastAlike ws_Mach_leastAlike ({ frames := 3, cells := 0, slots := 0, locals := 69 }) (va_Pc [.ref h0, .int p1] (fun U => U.heap.size = sz ∧ va_P (dC, dI) clA [(h0, .inr (0, [.int ns, .int npos, .int ncc, .ref m1, .ref m2, .ref m3, .ref m4, .ref m5, .ref m6, .ref m7])), (m2, .inl ((cA 0), 200, .inl wy)), (m3, .inl ((cA 0), 200, .inl wa)), (m4, .inl ((cA 1), 50, .inl fi)), (m5, .inl ((cA 0), 50, .inl ea)), (m6, .inl ((cA 0), 50, .inl cl)), (m7, .inl ((cA 0), 50, .inl fn))] U.heap ∧ va_K (dC, dI) clA (tysA cA) U ∧ nW U ∧ va_D (fun _ => True) [(h0, .inr (0, [.int ns, .int npos, .int ncc, .ref m1, .ref m2, .ref m3, .ref m4, .ref m5, .ref m6, .ref m7])), (m2, .inl ((cA 0), 200, .inl wy)), (m3, .inl ((cA 0), 200, .inl wa)), (m4, .inl ((cA 1), 50, .inl fi)), (m5, .inl ((cA 0), 50, .inl ea)), (m6, .inl ((cA 0), 50, .inl cl)), (m7, .inl ((cA 0), 50, .inl fn))])) (va_Qi (fun (r : Int32) (u : Unit) => out = (r, u)) (fun (u : Unit) (t : State) => va_P (dC, dI) clA [(h0, .inr (0, [.int ns, .int npos, .int ncc, .ref m1, .ref m2, .ref m3, .ref m4, .ref m5, .ref m6, .ref m7])), (m2, .inl ((cA 0), 200, .inl wy)), (m3, .inl ((cA 0), 200, .inl wa)), (m4, .inl ((cA 1), 50, .inl fi)), (m5, .inl ((cA 0), 50, .inl ea)), (m6, .inl ((cA 0), 50, .inl cl)), (m7, .inl ((cA 0), 50, .inl fn))] t.heap ∧ va_K (dC, dI) clA (tysA cA) t ∧ va_D (va_A [(h0, .inr (0, [.int ns, .int npos, .int ncc, .ref m1, .ref m2, .ref m3, .ref m4, .ref m5, .ref m6, .ref m7])), (m2, .inl ((cA 0), 200, .inl wy)), (m3, .inl ((cA 0), 200, .inl wa)), (m4, .inl ((cA 1), 50, .inl fi)), (m5, .inl ((cA 0), 50, .inl ea)), (m6, .inl ((cA 0), 50, .inl cl)), (m7, .inl ((cA 0), 50, .inl fn))] sz) [(h0, .inr (0, [.int ns, .int npos, .int ncc, .ref m1, .ref m2, .ref m3, .ref m4, .ref m5, .ref m6, .ref m7])), (m2, .inl ((cA 0), 200, .inl wy)), (m3, .inl ((cA 0), 200, .inl wa)), (m4, .inl ((cA 1), 50, .inl fi)), (m5, .inl ((cA 0), 50, .inl ea)), (m6, .inl ((cA 0), 50, .inl cl)), (m7, .inl ((cA 0), 50, .inl fn))]) (va_A [(h0, .inr (0, [.int ns, .int npos, .int ncc, .ref m1, .ref m2, .ref m3, .ref m4, .ref m5, .ref m6, .ref m7])), (m2, .inl ((cA 0), 200, .inl wy)), (m3, .inl ((cA 0), 200, .inl wa)), (m4, .inl ((cA 1), 50, .inl fi)), (m5, .inl ((cA 0), 50, .inl ea)), (m6, .inl ((cA 0), 50, .inl cl)), (m7, .inl ((cA 0), 50, .inl fn))] sz)) 0 0 (va_A [(h0, .inr (0, [.int ns, .int npos, .int ncc, .ref m1, .ref m2, .ref m3, .ref m4, .ref m5, .ref m6, .ref m7])), (m2, .inl ((cA 0), 200, .inl wy)), (m3, .inl ((cA 0), 200, .inl wa)), (m4, .inl ((cA 1), 50, .inl fi)), (m5, .inl ((cA 0), 50, .inl ea)), (m6, .inl ((cA 0), 50, .inl cl)), (m7, .inl ((cA 0), 50, .inl fn))] sz) := by
  refine Met.ofW (cc := b_Mach_leastAlike) (maxL := 3) (ret := (some .int)) (by decide) rfl ?_
  intro p e s m args below meth c s₁ B hml hv
  obtain ⟨rfl, hsz, hP, hK, hN, hD0⟩ := hv
  have hx := B.exec
  have hb := B.bytes
  have hr := B.returns
  have hts := atoms_spec (ws := ws_Mach_leastAlike) B.pre
  have hown : s.vm.findClass RX0 = some m.cls := findClass_of_methodNamed B.named
  have hlocks := B.notSynchronized
  subst hsz
  have hD := hD0.self (sz := s.heap.size)
  generalize hAe : va_A [(h0, .inr (0, [.int ns, .int npos, .int ncc, .ref m1, .ref m2, .ref m3, .ref m4, .ref m5, .ref m6, .ref m7])), (m2, .inl ((cA 0), 200, .inl wy)), (m3, .inl ((cA 0), 200, .inl wa)), (m4, .inl ((cA 1), 50, .inl fi)), (m5, .inl ((cA 0), 50, .inl ea)), (m6, .inl ((cA 0), 50, .inl cl)), (m7, .inl ((cA 0), 50, .inl fn))] s.heap.size = A at hD ⊢
  have hA : ∀ q : Nat, s.heap.size ≤ q → A q := fun q h => by rw [← hAe]; exact Or.inr h
  have hS : va_S A s.heap s.heap [] := va_S.rf
  have hP : va_P (dC, dI) clA [(h0, .inr (0, [.int ns, .int npos, .int ncc, .ref m1, .ref m2, .ref m3, .ref m4, .ref m5, .ref m6, .ref m7])), (m2, .inl ((cA 0), 200, .inl wy)), (m3, .inl ((cA 0), 200, .inl wa)), (m4, .inl ((cA 1), 50, .inl fi)), (m5, .inl ((cA 0), 50, .inl ea)), (m6, .inl ((cA 0), 50, .inl cl)), (m7, .inl ((cA 0), 50, .inl fn))] s.heap := hP
  have hl := lv_entry ([.ref h0, .int p1]) (n := 3) (Nat.le_of_ble_eq_true rfl)
  rw [lg_entry_eq]
  generalize (lg_sl ([.ref h0, .int p1]) ++ List.replicate (3 - (lg_sl ([.ref h0, .int p1])).length) Slot.unset).toArray = ls at hl ⊢
  have hl : lv_has ls 3 [(0, .ref h0), (1, .int p1)] := hl
  refine W_gen (fun Qz hQz => ?_)
  have hC : ∀ n : Nat, (∀ (x2 : Int32) (H : Heap) (locs : List Loc) (ls : Array Slot), g_Mach_leastAlike p1 ns npos ncc wy wa fi ea cl fn n 1 x2 out → va_P (dC, dI) clA [(h0, .inr (0, [.int ns, .int npos, .int ncc, .ref m1, .ref m2, .ref m3, .ref m4, .ref m5, .ref m6, .ref m7])), (m2, .inl ((cA 0), 200, .inl wy)), (m3, .inl ((cA 0), 200, .inl wa)), (m4, .inl ((cA 1), 50, .inl fi)), (m5, .inl ((cA 0), 50, .inl ea)), (m6, .inl ((cA 0), 50, .inl cl)), (m7, .inl ((cA 0), 50, .inl fn))] H → va_D A [(h0, .inr (0, [.int ns, .int npos, .int ncc, .ref m1, .ref m2, .ref m3, .ref m4, .ref m5, .ref m6, .ref m7])), (m2, .inl ((cA 0), 200, .inl wy)), (m3, .inl ((cA 0), 200, .inl wa)), (m4, .inl ((cA 1), 50, .inl fi)), (m5, .inl ((cA 0), 50, .inl ea)), (m6, .inl ((cA 0), 50, .inl cl)), (m7, .inl ((cA 0), 50, .inl fn))] → va_S A s.heap H locs → lv_has ls 3 [(0, .ref h0), (1, .int p1), (2, .int x2)] → W p l e ({ frames := 3, cells := 0, slots := 0, locals := 69 }) s m ([.ref h0, .int p1]).toArray below meth c H locs 0 0 Qz (F0 m 2 ls [])) := by
    intro n
    induction n with
    | zero => exact fun _ _ _ _ hf => hf.elim
    | succ n ih =>
      have ih1 := ih
      · intro x2 H locs ls hf hP hD hS hl
        rw [g_Mach_leastAlike_1] at hf
        refine lv_iload_n hx hb d_Mach_leastAlike_2 rfl (lv_at hl 2 rfl) ?_
        refine lv_iload_n hx hb d_Mach_leastAlike_3 rfl (lv_at hl 1 rfl) ?_
        refine lv_icmp_ge (tgt := 34) hx hb d_Mach_leastAlike_4 (by decide) (fun c_1 => ?_) (fun c_1 => ?_)
        · replace hf := hf.1 c_1
          refine lv_iload_n hx hb d_Mach_leastAlike_34 rfl (lv_at hl 1 rfl) ?_
          have hP9 := hP.sub (ws' := [(h0, .inr (0, [.int ns, .int npos, .int ncc, .ref m1, .ref m2, .ref m3, .ref m4, .ref m5, .ref m6, .ref m7])), (m2, .inl ((cA 0), 200, .inl wy)), (m3, .inl ((cA 0), 200, .inl wa)), (m4, .inl ((cA 1), 50, .inl fi)), (m5, .inl ((cA 0), 50, .inl ea)), (m6, .inl ((cA 0), 50, .inl cl)), (m7, .inl ((cA 0), 50, .inl fn))]) [0, 1, 2, 3, 4, 5, 6] rfl
          have hD9 := hD.sub (ws' := [(h0, .inr (0, [.int ns, .int npos, .int ncc, .ref m1, .ref m2, .ref m3, .ref m4, .ref m5, .ref m6, .ref m7])), (m2, .inl ((cA 0), 200, .inl wy)), (m3, .inl ((cA 0), 200, .inl wa)), (m4, .inl ((cA 1), 50, .inl fi)), (m5, .inl ((cA 0), 50, .inl ea)), (m6, .inl ((cA 0), 50, .inl cl)), (m7, .inl ((cA 0), 50, .inl fn))]) [0, 1, 2, 3, 4, 5, 6] (by decide) rfl
          refine W_end hQz ?_
          exact W.iret (v := p1) hx hb hr (fun t ht hW => ⟨⟨p1, (), rfl, hf, P_cg ht.symm hP9, va_K.moved hW.alike hK, hD9⟩, hS.F ht⟩) hS.2.2 d_Mach_leastAlike_35 hlocks
        · replace hf := hf.2 c_1
          refine lv_aload_n hx hb d_Mach_leastAlike_7 rfl (lv_at hl 0 rfl) ?_
          refine va_get (D := (dC, dI)) (ci := 0) (v := .ref m7) (C := RX0) (T := TX0) (N := 10) hx hb hts (fun w h => List.mem_cons_of_mem _ (in_X0 w h)) hown hK hP 0 rfl rfl 9 (by decide) (hts _ (List.mem_cons_of_mem _ k_218)) (fun _ h9 => h9) rfl d_Mach_leastAlike_8 ?_
          refine lv_iload_n hx hb d_Mach_leastAlike_11 rfl (lv_at hl 2 rfl) ?_
          obtain ⟨h_3, hf⟩ := hf
          refine va_iald hx hb hK hP 6 0 rfl rfl h_3 d_Mach_leastAlike_12 ?_
          refine lv_iload_n hx hb d_Mach_leastAlike_13 rfl (lv_at hl 2 rfl) ?_
          refine lv_icmp_ne (tgt := 28) hx hb d_Mach_leastAlike_14 (by decide) (fun c_4 => ?_) (fun c_4 => ?_)
          · replace hf := hf.1 c_4
            refine lv_iinc (v := x2 + 1) (lv' := [(2, .int (x2 + 1)), (0, .ref h0), (1, .int p1)]) hx hb d_Mach_leastAlike_28 hl (k := 2) rfl rfl (by decide) rfl (fun ls hl => ?_)
            refine lv_goto (tgt := 2) hx hb d_Mach_leastAlike_31 (by decide) ?_
            exact ih1 _ _ _ _ hf (hP.sub [0, 1, 2, 3, 4, 5, 6] rfl) (hD.sub [0, 1, 2, 3, 4, 5, 6] (by decide) rfl) hS (lv_sub hl [1, 2, 0] rfl)
          · replace hf := hf.2 c_4
            refine lv_aload_n hx hb d_Mach_leastAlike_17 rfl (lv_at hl 0 rfl) ?_
            refine lv_iload_n hx hb d_Mach_leastAlike_18 rfl (lv_at hl 1 rfl) ?_
            refine lv_iload_n hx hb d_Mach_leastAlike_19 rfl (lv_at hl 2 rfl) ?_
            obtain ⟨v_5, hv_5, hf⟩ := hf
            have hPc := hP.sub (ws' := [(h0, .inr (0, [.int ns, .int npos, .int ncc, .ref m1, .ref m2, .ref m3, .ref m4, .ref m5, .ref m6, .ref m7])), (m2, .inl ((cA 0), 200, .inl wy)), (m3, .inl ((cA 0), 200, .inl wa)), (m4, .inl ((cA 1), 50, .inl fi)), (m5, .inl ((cA 0), 50, .inl ea)), (m6, .inl ((cA 0), 50, .inl cl))]) [0, 1, 2, 3, 4, 5] rfl
            have hDc := hD.sub (ws' := [(h0, .inr (0, [.int ns, .int npos, .int ncc, .ref m1, .ref m2, .ref m3, .ref m4, .ref m5, .ref m6, .ref m7])), (m2, .inl ((cA 0), 200, .inl wy)), (m3, .inl ((cA 0), 200, .inl wa)), (m4, .inl ((cA 1), 50, .inl fi)), (m5, .inl ((cA 0), 50, .inl ea)), (m6, .inl ((cA 0), 50, .inl cl))]) [0, 1, 2, 3, 4, 5] (by decide) rfl
            have hFc := va_free (wc := [(h0, .inr (0, [.int ns, .int npos, .int ncc, .ref m1, .ref m2, .ref m3, .ref m4, .ref m5, .ref m6, .ref m7])), (m2, .inl ((cA 0), 200, .inl wy)), (m3, .inl ((cA 0), 200, .inl wa)), (m4, .inl ((cA 1), 50, .inl fi)), (m5, .inl ((cA 0), 50, .inl ea)), (m6, .inl ((cA 0), 50, .inl cl))]) hD hS hA [0, 1, 2, 3, 4, 5] rfl
            refine va_calli (va_runV (As := [.int p1, .int x2]) (rest := []) ⟨hx, hb, hml, hown, hts⟩ (c_Mach_looksLike l dC dI cA h0 m2 m3 m4 m5 m6 m1 m7 H.size p1 x2 ns npos ncc wy wa fi ea cl v_5 hv_5) (cwV 2 hts (gV9 k_795 k_797 k_21 k_54 k_798) rfl rfl rfl hv_Mach_looksLike ⟨Nat.le_of_ble_eq_true rfl, Nat.le_of_ble_eq_true rfl⟩) ⟨fun a U g mk q => by obtain ⟨q0, q1, qP, qK, qN, qD⟩ := q; exact ⟨q0, q1, qP, va_K.moved (u := U) (U := U.calling g mk a) (Vm.Alike.refl U.vm) qK, nW_same (u := U) (U := U.calling g mk a) rfl qN, qD⟩, va_recv hK hPc (ci := 0) (q0 := 0) rfl rfl, fun U hU hW => ⟨rfl, congrArg _ hU, P_cg hU.symm hPc, va_K.moved hW.alike hK, nW_warm hW hN, hDc.weaken (fun _ _ _ _ => trivial)⟩⟩ rfl rfl hl.1 rfl (lv_room (Nat.le_of_ble_eq_true rfl)) d_Mach_leastAlike_20 ⟨Nat.zero_le _, Nat.zero_le _⟩) hS (fun q _ h => hFc q h) hFc (fun r u t H locs ht hvm hw hB hz1 hk1 hS => ?_)
            obtain ⟨rfl, rfl⟩ : r = v_5.1 ∧ u = v_5.2 := ⟨(congrArg Prod.fst hw).symm, (congrArg Prod.snd hw).symm⟩
            obtain ⟨hP1, hK1, hD1⟩ := hB
            replace hP1 := P_cg ht hP1
            obtain ⟨hP, hD⟩ := va_join (wc := [(h0, .inr (0, [.int ns, .int npos, .int ncc, .ref m1, .ref m2, .ref m3, .ref m4, .ref m5, .ref m6, .ref m7])), (m2, .inl ((cA 0), 200, .inl wy)), (m3, .inl ((cA 0), 200, .inl wa)), (m4, .inl ((cA 1), 50, .inl fi)), (m5, .inl ((cA 0), 50, .inl ea)), (m6, .inl ((cA 0), 50, .inl cl))]) (wr := [(m7, .inl ((cA 0), 50, .inl fn))]) (w1 := [(h0, .inr (0, [.int ns, .int npos, .int ncc, .ref m1, .ref m2, .ref m3, .ref m4, .ref m5, .ref m6, .ref m7])), (m2, .inl ((cA 0), 200, .inl wy)), (m3, .inl ((cA 0), 200, .inl wa)), (m4, .inl ((cA 1), 50, .inl fi)), (m5, .inl ((cA 0), 50, .inl ea)), (m6, .inl ((cA 0), 50, .inl cl))]) hP hD [0, 1, 2, 3, 4, 5] [6] rfl rfl (by decide) (by decide) hk1 hFc hP1 hD1
            have hP : va_P (dC, dI) clA [(m7, .inl ((cA 0), 50, .inl fn)), (h0, .inr (0, [.int ns, .int npos, .int ncc, .ref m1, .ref m2, .ref m3, .ref m4, .ref m5, .ref m6, .ref m7])), (m2, .inl ((cA 0), 200, .inl wy)), (m3, .inl ((cA 0), 200, .inl wa)), (m4, .inl ((cA 1), 50, .inl fi)), (m5, .inl ((cA 0), 50, .inl ea)), (m6, .inl ((cA 0), 50, .inl cl))] H := hP
            have hD : va_D A [(m7, .inl ((cA 0), 50, .inl fn)), (h0, .inr (0, [.int ns, .int npos, .int ncc, .ref m1, .ref m2, .ref m3, .ref m4, .ref m5, .ref m6, .ref m7])), (m2, .inl ((cA 0), 200, .inl wy)), (m3, .inl ((cA 0), 200, .inl wa)), (m4, .inl ((cA 1), 50, .inl fi)), (m5, .inl ((cA 0), 50, .inl ea)), (m6, .inl ((cA 0), 50, .inl cl))] := hD
            refine lv_if_eq (tgt := 28) hx hb d_Mach_leastAlike_23 (by decide) (fun c_6 => ?_) (fun c_6 => ?_)
            · replace hf := hf.1 c_6
              refine lv_iinc (v := x2 + 1) (lv' := [(2, .int (x2 + 1)), (0, .ref h0), (1, .int p1)]) hx hb d_Mach_leastAlike_28 hl (k := 2) rfl rfl (by decide) rfl (fun ls hl => ?_)
              refine lv_goto (tgt := 2) hx hb d_Mach_leastAlike_31 (by decide) ?_
              exact ih1 _ _ _ _ hf (hP.sub [1, 2, 3, 4, 5, 6, 0] rfl) (hD.sub [1, 2, 3, 4, 5, 6, 0] (by decide) rfl) hS (lv_sub hl [1, 2, 0] rfl)
            · replace hf := hf.2 c_6
              refine lv_iload_n hx hb d_Mach_leastAlike_26 rfl (lv_at hl 2 rfl) ?_
              have hP9 := hP.sub (ws' := [(h0, .inr (0, [.int ns, .int npos, .int ncc, .ref m1, .ref m2, .ref m3, .ref m4, .ref m5, .ref m6, .ref m7])), (m2, .inl ((cA 0), 200, .inl wy)), (m3, .inl ((cA 0), 200, .inl wa)), (m4, .inl ((cA 1), 50, .inl fi)), (m5, .inl ((cA 0), 50, .inl ea)), (m6, .inl ((cA 0), 50, .inl cl)), (m7, .inl ((cA 0), 50, .inl fn))]) [1, 2, 3, 4, 5, 6, 0] rfl
              have hD9 := hD.sub (ws' := [(h0, .inr (0, [.int ns, .int npos, .int ncc, .ref m1, .ref m2, .ref m3, .ref m4, .ref m5, .ref m6, .ref m7])), (m2, .inl ((cA 0), 200, .inl wy)), (m3, .inl ((cA 0), 200, .inl wa)), (m4, .inl ((cA 1), 50, .inl fi)), (m5, .inl ((cA 0), 50, .inl ea)), (m6, .inl ((cA 0), 50, .inl cl)), (m7, .inl ((cA 0), 50, .inl fn))]) [1, 2, 3, 4, 5, 6, 0] (by decide) rfl
              refine W_end hQz ?_
              exact W.iret (v := x2) hx hb hr (fun t ht hW => ⟨⟨x2, (), rfl, hf, P_cg ht.symm hP9, va_K.moved hW.alike hK, hD9⟩, hS.F ht⟩) hS.2.2 d_Mach_leastAlike_27 hlocks
  have hf := hR
  unfold R_Mach_leastAlike at hf
  refine lv_iconst (v := 0) hx hb d_Mach_leastAlike_0 (by decide) ?_
  refine lv_istore_n (lv' := [(2, .int 0), (0, .ref h0), (1, .int p1)]) hx hb d_Mach_leastAlike_1 rfl hl (by decide) rfl (fun ls hl => ?_)
  obtain ⟨n, hf⟩ := hf
  exact (hC n) _ _ _ _ hf (hP.sub [0, 1, 2, 3, 4, 5, 6] rfl) (hD.sub [0, 1, 2, 3, 4, 5, 6] (by decide) rfl) hS (lv_sub hl [1, 2, 0] rfl)
def g_Mach_refine (ns : Int32) (npos : Int32) (ncc : Int32) (wy : Nat → Int32) (wa : Nat → Int32) (fi : Nat → Int32) (ea : Nat → Int32) : Nat → Nat → Int32 → Int32 → (Nat → Int32) → (Nat → Int32) → (Int32 × (Nat → Int32) × (Nat → Int32)) → Prop
  | 0, _, _, _, _, _, _ => False
  | n + 1, k, x1, x2, cl, fn, out => match k with
    | 1 => ((ns ≤ x2) → ((¬ (0 : Int32) < 0 ∧ ¬ (0 : Int32) < 0 ∧ ¬ ns < 0 ∧ (0 : Int32).toNatClampNeg + ns.toNatClampNeg ≤ 50 ∧ (0 : Int32).toNatClampNeg + ns.toNatClampNeg ≤ 50) ∧ (zb x1 ∧ out = (x1, ((va_cpy fn cl (0 : Int32).toNatClampNeg (0 : Int32).toNatClampNeg ns.toNatClampNeg), fn))))) ∧ (¬ (ns ≤ x2) → (∃ v_4, R_Mach_leastAlike x2 ns npos ncc wy wa fi ea cl fn v_4 ∧ (vp_in x2 50 ∧ (((¬ x1 = 0) → (g_Mach_refine ns npos ncc wy wa fi ea n 1 1 (x2 + 1) cl (upd fn x2.toNatClampNeg v_4.1) out)) ∧ ((x1 = 0) → (vp_in x2 50 ∧ (vp_in x2 50 ∧ (((((upd fn x2.toNatClampNeg v_4.1) x2.toNatClampNeg) = (cl x2.toNatClampNeg)) → (g_Mach_refine ns npos ncc wy wa fi ea n 1 0 (x2 + 1) cl (upd fn x2.toNatClampNeg v_4.1) out)) ∧ (¬ (((upd fn x2.toNatClampNeg v_4.1) x2.toNatClampNeg) = (cl x2.toNatClampNeg)) → (g_Mach_refine ns npos ncc wy wa fi ea n 1 1 (x2 + 1) cl (upd fn x2.toNatClampNeg v_4.1) out))))))))))
    | _ => False
theorem g_Mach_refine_1 (ns : Int32) (npos : Int32) (ncc : Int32) (wy : Nat → Int32) (wa : Nat → Int32) (fi : Nat → Int32) (ea : Nat → Int32) (n : Nat) (x1 : Int32) (x2 : Int32) (cl : Nat → Int32) (fn : Nat → Int32) (out : Int32 × (Nat → Int32) × (Nat → Int32)) : g_Mach_refine ns npos ncc wy wa fi ea (n + 1) 1 x1 x2 cl fn out = (((ns ≤ x2) → ((¬ (0 : Int32) < 0 ∧ ¬ (0 : Int32) < 0 ∧ ¬ ns < 0 ∧ (0 : Int32).toNatClampNeg + ns.toNatClampNeg ≤ 50 ∧ (0 : Int32).toNatClampNeg + ns.toNatClampNeg ≤ 50) ∧ (zb x1 ∧ out = (x1, ((va_cpy fn cl (0 : Int32).toNatClampNeg (0 : Int32).toNatClampNeg ns.toNatClampNeg), fn))))) ∧ (¬ (ns ≤ x2) → (∃ v_4, R_Mach_leastAlike x2 ns npos ncc wy wa fi ea cl fn v_4 ∧ (vp_in x2 50 ∧ (((¬ x1 = 0) → (g_Mach_refine ns npos ncc wy wa fi ea n 1 1 (x2 + 1) cl (upd fn x2.toNatClampNeg v_4.1) out)) ∧ ((x1 = 0) → (vp_in x2 50 ∧ (vp_in x2 50 ∧ (((((upd fn x2.toNatClampNeg v_4.1) x2.toNatClampNeg) = (cl x2.toNatClampNeg)) → (g_Mach_refine ns npos ncc wy wa fi ea n 1 0 (x2 + 1) cl (upd fn x2.toNatClampNeg v_4.1) out)) ∧ (¬ (((upd fn x2.toNatClampNeg v_4.1) x2.toNatClampNeg) = (cl x2.toNatClampNeg)) → (g_Mach_refine ns npos ncc wy wa fi ea n 1 1 (x2 + 1) cl (upd fn x2.toNatClampNeg v_4.1) out))))))))))) := rfl
def R_Mach_refine (ns : Int32) (npos : Int32) (ncc : Int32) (wy : Nat → Int32) (wa : Nat → Int32) (fi : Nat → Int32) (ea : Nat → Int32) (cl : Nat → Int32) (fn : Nat → Int32) (out : Int32 × (Nat → Int32) × (Nat → Int32)) : Prop := (∃ n, g_Mach_refine ns npos ncc wy wa fi ea n 1 0 0 cl fn out)
set_option maxHeartbeats 4000000 in
set_option maxRecDepth 100000 in
theorem c_Mach_refine (l : Launch) (dC : Nat → ClassId) (dI : Nat → Nat → Nat) (cA : Nat → ClassId) (h0 m2 m3 m4 m5 m6 m7 m1 : Nat) (sz : Nat) (ns : Int32) (npos : Int32) (ncc : Int32) (wy : Nat → Int32) (wa : Nat → Int32) (fi : Nat → Int32) (ea : Nat → Int32) (cl : Nat → Int32) (fn : Nat → Int32) (out : Int32 × (Nat → Int32) × (Nat → Int32)) (hR : R_Mach_refine ns npos ncc wy wa fi ea cl fn out) : Met l y_Mach_refine ws_Mach_refine ({ frames := 4, cells := 0, slots := 0, locals := 91 }) (va_Pc [.ref h0] (fun U => U.heap.size = sz ∧ va_P (dC, dI) clA [(h0, .inr (0, [.int ns, .int npos, .int ncc, .ref m1, .ref m2, .ref m3, .ref m4, .ref m5, .ref m6, .ref m7])), (m2, .inl ((cA 0), 200, .inl wy)), (m3, .inl ((cA 0), 200, .inl wa)), (m4, .inl ((cA 1), 50, .inl fi)), (m5, .inl ((cA 0), 50, .inl ea)), (m6, .inl ((cA 0), 50, .inl cl)), (m7, .inl ((cA 0), 50, .inl fn))] U.heap ∧ va_K (dC, dI) clA (tysA cA) U ∧ nW U ∧ va_D (fun _ => True) [(h0, .inr (0, [.int ns, .int npos, .int ncc, .ref m1, .ref m2, .ref m3, .ref m4, .ref m5, .ref m6, .ref m7])), (m2, .inl ((cA 0), 200, .inl wy)), (m3, .inl ((cA 0), 200, .inl wa)), (m4, .inl ((cA 1), 50, .inl fi)), (m5, .inl ((cA 0), 50, .inl ea)), (m6, .inl ((cA 0), 50, .inl cl)), (m7, .inl ((cA 0), 50, .inl fn))])) (va_Qi (fun (r : Int32) (u : (Nat → Int32) × (Nat → Int32)) => out = (r, u)) (fun (u : (Nat → Int32) × (Nat → Int32)) (t : State) => va_P (dC, dI) clA [(h0, .inr (0, [.int ns, .int npos, .int ncc, .ref m1, .ref m2, .ref m3, .ref m4, .ref m5, .ref m6, .ref m7])), (m2, .inl ((cA 0), 200, .inl wy)), (m3, .inl ((cA 0), 200, .inl wa)), (m4, .inl ((cA 1), 50, .inl fi)), (m5, .inl ((cA 0), 50, .inl ea)), (m6, .inl ((cA 0), 50, .inl u.1)), (m7, .inl ((cA 0), 50, .inl u.2))] t.heap ∧ va_K (dC, dI) clA (tysA cA) t ∧ va_D (va_A [(h0, .inr (0, [.int ns, .int npos, .int ncc, .ref m1, .ref m2, .ref m3, .ref m4, .ref m5, .ref m6, .ref m7])), (m2, .inl ((cA 0), 200, .inl wy)), (m3, .inl ((cA 0), 200, .inl wa)), (m4, .inl ((cA 1), 50, .inl fi)), (m5, .inl ((cA 0), 50, .inl ea)), (m6, .inl ((cA 0), 50, .inl cl)), (m7, .inl ((cA 0), 50, .inl fn))] sz) [(h0, .inr (0, [.int ns, .int npos, .int ncc, .ref m1, .ref m2, .ref m3, .ref m4, .ref m5, .ref m6, .ref m7])), (m2, .inl ((cA 0), 200, .inl wy)), (m3, .inl ((cA 0), 200, .inl wa)), (m4, .inl ((cA 1), 50, .inl fi)), (m5, .inl ((cA 0), 50, .inl ea)), (m6, .inl ((cA 0), 50, .inl u.1)), (m7, .inl ((cA 0), 50, .inl u.2))]) (va_A [(h0, .inr (0, [.int ns, .int npos, .int ncc, .ref m1, .ref m2, .ref m3, .ref m4, .ref m5, .ref m6, .ref m7])), (m2, .inl ((cA 0), 200, .inl wy)), (m3, .inl ((cA 0), 200, .inl wa)), (m4, .inl ((cA 1), 50, .inl fi)), (m5, .inl ((cA 0), 50, .inl ea)), (m6, .inl ((cA 0), 50, .inl cl)), (m7, .inl ((cA 0), 50, .inl fn))] sz)) 0 0 (va_A [(h0, .inr (0, [.int ns, .int npos, .int ncc, .ref m1, .ref m2, .ref m3, .ref m4, .ref m5, .ref m6, .ref m7])), (m2, .inl ((cA 0), 200, .inl wy)), (m3, .inl ((cA 0), 200, .inl wa)), (m4, .inl ((cA 1), 50, .inl fi)), (m5, .inl ((cA 0), 50, .inl ea)), (m6, .inl ((cA 0), 50, .inl cl)), (m7, .inl ((cA 0), 50, .inl fn))] sz) := by
  refine Met.ofW (cc := b_Mach_refine) (maxL := 3) (ret := (some .boolean)) (by decide) rfl ?_
  intro p e s m args below meth c s₁ B hml hv
  obtain ⟨rfl, hsz, hP, hK, hN, hD0⟩ := hv
  have hx := B.exec
  have hb := B.bytes
  have hr := B.returns
  have hts := atoms_spec (ws := ws_Mach_refine) B.pre
  have hown : s.vm.findClass RX0 = some m.cls := findClass_of_methodNamed B.named
  have hlocks := B.notSynchronized
  subst hsz
  have hD := hD0.self (sz := s.heap.size)
  generalize hAe : va_A [(h0, .inr (0, [.int ns, .int npos, .int ncc, .ref m1, .ref m2, .ref m3, .ref m4, .ref m5, .ref m6, .ref m7])), (m2, .inl ((cA 0), 200, .inl wy)), (m3, .inl ((cA 0), 200, .inl wa)), (m4, .inl ((cA 1), 50, .inl fi)), (m5, .inl ((cA 0), 50, .inl ea)), (m6, .inl ((cA 0), 50, .inl cl)), (m7, .inl ((cA 0), 50, .inl fn))] s.heap.size = A at hD ⊢
  have hA : ∀ q : Nat, s.heap.size ≤ q → A q := fun q h => by rw [← hAe]; exact Or.inr h
  have hS : va_S A s.heap s.heap [] := va_S.rf
  have hP : va_P (dC, dI) clA [(h0, .inr (0, [.int ns, .int npos, .int ncc, .ref m1, .ref m2, .ref m3, .ref m4, .ref m5, .ref m6, .ref m7])), (m2, .inl ((cA 0), 200, .inl wy)), (m3, .inl ((cA 0), 200, .inl wa)), (m4, .inl ((cA 1), 50, .inl fi)), (m5, .inl ((cA 0), 50, .inl ea)), (m6, .inl ((cA 0), 50, .inl cl)), (m7, .inl ((cA 0), 50, .inl fn))] s.heap := hP
  have hl := lv_entry ([.ref h0]) (n := 3) (Nat.le_of_ble_eq_true rfl)
  rw [lg_entry_eq]
  generalize (lg_sl ([.ref h0]) ++ List.replicate (3 - (lg_sl ([.ref h0])).length) Slot.unset).toArray = ls at hl ⊢
  have hl : lv_has ls 3 [(0, .ref h0)] := hl
  refine W_gen (fun Qz hQz => ?_)
  have hC : ∀ n : Nat, (∀ (x1 : Int32) (x2 : Int32) (cl : Nat → Int32) (fn : Nat → Int32) (H : Heap) (locs : List Loc) (ls : Array Slot), g_Mach_refine ns npos ncc wy wa fi ea n 1 x1 x2 cl fn out → va_P (dC, dI) clA [(h0, .inr (0, [.int ns, .int npos, .int ncc, .ref m1, .ref m2, .ref m3, .ref m4, .ref m5, .ref m6, .ref m7])), (m2, .inl ((cA 0), 200, .inl wy)), (m3, .inl ((cA 0), 200, .inl wa)), (m4, .inl ((cA 1), 50, .inl fi)), (m5, .inl ((cA 0), 50, .inl ea)), (m6, .inl ((cA 0), 50, .inl cl)), (m7, .inl ((cA 0), 50, .inl fn))] H → va_D A [(h0, .inr (0, [.int ns, .int npos, .int ncc, .ref m1, .ref m2, .ref m3, .ref m4, .ref m5, .ref m6, .ref m7])), (m2, .inl ((cA 0), 200, .inl wy)), (m3, .inl ((cA 0), 200, .inl wa)), (m4, .inl ((cA 1), 50, .inl fi)), (m5, .inl ((cA 0), 50, .inl ea)), (m6, .inl ((cA 0), 50, .inl cl)), (m7, .inl ((cA 0), 50, .inl fn))] → va_S A s.heap H locs → lv_has ls 3 [(0, .ref h0), (1, .int x1), (2, .int x2)] → W p l e ({ frames := 4, cells := 0, slots := 0, locals := 91 }) s m ([.ref h0]).toArray below meth c H locs 0 0 Qz (F0 m 4 ls [])) := by
    intro n
    induction n with
    | zero => exact fun _ _ _ _ _ _ _ hf => hf.elim
    | succ n ih =>
      have ih1 := ih
      · intro x1 x2 cl fn H locs ls hf hP hD hS hl
        rw [g_Mach_refine_1] at hf
        refine lv_iload_n hx hb d_Mach_refine_4 rfl (lv_at hl 2 rfl) ?_
        refine lv_aload_n hx hb d_Mach_refine_5 rfl (lv_at hl 0 rfl) ?_
        refine va_get (D := (dC, dI)) (ci := 0) (v := .int ns) (C := RX0) (T := TX0) (N := 10) hx hb hts (fun w h => List.mem_cons_of_mem _ (in_X0 w h)) hown hK hP 0 rfl rfl 0 (by decide) (hts _ (List.mem_cons_of_mem _ k_202)) (fun _ h9 => h9) rfl d_Mach_refine_6 ?_
        refine lv_icmp_ge (tgt := 54) hx hb d_Mach_refine_9 (by decide) (fun c_1 => ?_) (fun c_1 => ?_)
        · replace hf := hf.1 c_1
          refine lv_aload_n hx hb d_Mach_refine_54 rfl (lv_at hl 0 rfl) ?_
          refine va_get (D := (dC, dI)) (ci := 0) (v := .ref m7) (C := RX0) (T := TX0) (N := 10) hx hb hts (fun w h => List.mem_cons_of_mem _ (in_X0 w h)) hown hK hP 0 rfl rfl 9 (by decide) (hts _ (List.mem_cons_of_mem _ k_218)) (fun _ h9 => h9) rfl d_Mach_refine_55 ?_
          refine lv_iconst (v := 0) hx hb d_Mach_refine_58 (by decide) ?_
          refine lv_aload_n hx hb d_Mach_refine_59 rfl (lv_at hl 0 rfl) ?_
          refine va_get (D := (dC, dI)) (ci := 0) (v := .ref m6) (C := RX0) (T := TX0) (N := 10) hx hb hts (fun w h => List.mem_cons_of_mem _ (in_X0 w h)) hown hK hP 0 rfl rfl 8 (by decide) (hts _ (List.mem_cons_of_mem _ k_216)) (fun _ h9 => h9) rfl d_Mach_refine_60 ?_
          refine lv_iconst (v := 0) hx hb d_Mach_refine_63 (by decide) ?_
          refine lv_aload_n hx hb d_Mach_refine_64 rfl (lv_at hl 0 rfl) ?_
          refine va_get (D := (dC, dI)) (ci := 0) (v := .int ns) (C := RX0) (T := TX0) (N := 10) hx hb hts (fun w h => List.mem_cons_of_mem _ (in_X0 w h)) hown hK hP 0 rfl rfl 0 (by decide) (hts _ (List.mem_cons_of_mem _ k_202)) (fun _ h9 => h9) rfl d_Mach_refine_65 ?_
          obtain ⟨⟨h1_2, h2_2, h3_2, h4_2, h5_2⟩, hf⟩ := hf
          refine va_copyi hx hb (hml.trans hl.1.symm) (own := RX0) hown (hts _ (List.mem_cons_of_mem _ k_811)) (hts _ (List.mem_cons_of_mem _ k_525)) (hts _ (List.mem_cons_of_mem _ k_524)) (hts _ (List.mem_cons_of_mem _ k_68)) hK hP hD hS 6 5 0 0 rfl rfl rfl rfl rfl h1_2 h2_2 h3_2 h4_2 h5_2 (fun _ _ => rfl) (Nat.le_of_ble_eq_true rfl) (by decide +kernel) d_Mach_refine_68 (fun H locs hP hD hS => ?_)
          have hP : va_P (dC, dI) clA [(h0, .inr (0, [.int ns, .int npos, .int ncc, .ref m1, .ref m2, .ref m3, .ref m4, .ref m5, .ref m6, .ref m7])), (m2, .inl ((cA 0), 200, .inl wy)), (m3, .inl ((cA 0), 200, .inl wa)), (m4, .inl ((cA 1), 50, .inl fi)), (m5, .inl ((cA 0), 50, .inl ea)), (m6, .inl ((cA 0), 50, .inl (va_cpy fn cl (0 : Int32).toNatClampNeg (0 : Int32).toNatClampNeg ns.toNatClampNeg))), (m7, .inl ((cA 0), 50, .inl fn))] H := hP
          have hD : va_D A [(h0, .inr (0, [.int ns, .int npos, .int ncc, .ref m1, .ref m2, .ref m3, .ref m4, .ref m5, .ref m6, .ref m7])), (m2, .inl ((cA 0), 200, .inl wy)), (m3, .inl ((cA 0), 200, .inl wa)), (m4, .inl ((cA 1), 50, .inl fi)), (m5, .inl ((cA 0), 50, .inl ea)), (m6, .inl ((cA 0), 50, .inl (va_cpy fn cl (0 : Int32).toNatClampNeg (0 : Int32).toNatClampNeg ns.toNatClampNeg))), (m7, .inl ((cA 0), 50, .inl fn))] := hD
          refine lv_iload_n hx hb d_Mach_refine_71 rfl (lv_at hl 1 rfl) ?_
          obtain ⟨hz, hf⟩ := hf
          have hP9 := hP.sub (ws' := [(h0, .inr (0, [.int ns, .int npos, .int ncc, .ref m1, .ref m2, .ref m3, .ref m4, .ref m5, .ref m6, .ref m7])), (m2, .inl ((cA 0), 200, .inl wy)), (m3, .inl ((cA 0), 200, .inl wa)), (m4, .inl ((cA 1), 50, .inl fi)), (m5, .inl ((cA 0), 50, .inl ea)), (m6, .inl ((cA 0), 50, .inl (va_cpy fn cl (0 : Int32).toNatClampNeg (0 : Int32).toNatClampNeg ns.toNatClampNeg))), (m7, .inl ((cA 0), 50, .inl fn))]) [0, 1, 2, 3, 4, 5, 6] rfl
          have hD9 := hD.sub (ws' := [(h0, .inr (0, [.int ns, .int npos, .int ncc, .ref m1, .ref m2, .ref m3, .ref m4, .ref m5, .ref m6, .ref m7])), (m2, .inl ((cA 0), 200, .inl wy)), (m3, .inl ((cA 0), 200, .inl wa)), (m4, .inl ((cA 1), 50, .inl fi)), (m5, .inl ((cA 0), 50, .inl ea)), (m6, .inl ((cA 0), 50, .inl (va_cpy fn cl (0 : Int32).toNatClampNeg (0 : Int32).toNatClampNeg ns.toNatClampNeg))), (m7, .inl ((cA 0), 50, .inl fn))]) [0, 1, 2, 3, 4, 5, 6] (by decide) rfl
          refine W_end hQz ?_
          exact W.zret (v := x1) hx hb hr hz.1 (fun t ht hW => ⟨⟨x1, ((va_cpy fn cl (0 : Int32).toNatClampNeg (0 : Int32).toNatClampNeg ns.toNatClampNeg), fn), rfl, hf, P_cg ht.symm hP9, va_K.moved hW.alike hK, hD9⟩, hS.F ht⟩) hS.2.2 d_Mach_refine_72 hlocks
        · replace hf := hf.2 c_1
          refine lv_aload_n hx hb d_Mach_refine_12 rfl (lv_at hl 0 rfl) ?_
          refine va_get (D := (dC, dI)) (ci := 0) (v := .ref m7) (C := RX0) (T := TX0) (N := 10) hx hb hts (fun w h => List.mem_cons_of_mem _ (in_X0 w h)) hown hK hP 0 rfl rfl 9 (by decide) (hts _ (List.mem_cons_of_mem _ k_218)) (fun _ h9 => h9) rfl d_Mach_refine_13 ?_
          refine lv_iload_n hx hb d_Mach_refine_16 rfl (lv_at hl 2 rfl) ?_
          refine lv_aload_n hx hb d_Mach_refine_17 rfl (lv_at hl 0 rfl) ?_
          refine lv_iload_n hx hb d_Mach_refine_18 rfl (lv_at hl 2 rfl) ?_
          obtain ⟨v_4, hv_4, hf⟩ := hf
          have hPc := hP.sub (ws' := [(h0, .inr (0, [.int ns, .int npos, .int ncc, .ref m1, .ref m2, .ref m3, .ref m4, .ref m5, .ref m6, .ref m7])), (m2, .inl ((cA 0), 200, .inl wy)), (m3, .inl ((cA 0), 200, .inl wa)), (m4, .inl ((cA 1), 50, .inl fi)), (m5, .inl ((cA 0), 50, .inl ea)), (m6, .inl ((cA 0), 50, .inl cl)), (m7, .inl ((cA 0), 50, .inl fn))]) [0, 1, 2, 3, 4, 5, 6] rfl
          have hDc := hD.sub (ws' := [(h0, .inr (0, [.int ns, .int npos, .int ncc, .ref m1, .ref m2, .ref m3, .ref m4, .ref m5, .ref m6, .ref m7])), (m2, .inl ((cA 0), 200, .inl wy)), (m3, .inl ((cA 0), 200, .inl wa)), (m4, .inl ((cA 1), 50, .inl fi)), (m5, .inl ((cA 0), 50, .inl ea)), (m6, .inl ((cA 0), 50, .inl cl)), (m7, .inl ((cA 0), 50, .inl fn))]) [0, 1, 2, 3, 4, 5, 6] (by decide) rfl
          have hFc := va_free (wc := [(h0, .inr (0, [.int ns, .int npos, .int ncc, .ref m1, .ref m2, .ref m3, .ref m4, .ref m5, .ref m6, .ref m7])), (m2, .inl ((cA 0), 200, .inl wy)), (m3, .inl ((cA 0), 200, .inl wa)), (m4, .inl ((cA 1), 50, .inl fi)), (m5, .inl ((cA 0), 50, .inl ea)), (m6, .inl ((cA 0), 50, .inl cl)), (m7, .inl ((cA 0), 50, .inl fn))]) hD hS hA [0, 1, 2, 3, 4, 5, 6] rfl
          refine va_calli (va_runV (As := [.int x2]) (rest := [.int x2, .ref m7]) ⟨hx, hb, hml, hown, hts⟩ (c_Mach_leastAlike l dC dI cA h0 m2 m3 m4 m5 m6 m7 m1 H.size x2 ns npos ncc wy wa fi ea cl fn v_4 hv_4) (cwV 1 hts (gV9 k_791 k_793 k_20 k_54 k_794) rfl rfl rfl hv_Mach_leastAlike ⟨Nat.le_of_ble_eq_true rfl, Nat.le_of_ble_eq_true rfl⟩) ⟨fun a U g mk q => by obtain ⟨q0, q1, qP, qK, qN, qD⟩ := q; exact ⟨q0, q1, qP, va_K.moved (u := U) (U := U.calling g mk a) (Vm.Alike.refl U.vm) qK, nW_same (u := U) (U := U.calling g mk a) rfl qN, qD⟩, va_recv hK hPc (ci := 0) (q0 := 0) rfl rfl, fun U hU hW => ⟨rfl, congrArg _ hU, P_cg hU.symm hPc, va_K.moved hW.alike hK, nW_warm hW hN, hDc.weaken (fun _ _ _ _ => trivial)⟩⟩ rfl rfl hl.1 rfl (lv_room (Nat.le_of_ble_eq_true rfl)) d_Mach_refine_19 ⟨Nat.zero_le _, Nat.zero_le _⟩) hS (fun q _ h => hFc q h) hFc (fun r u t H locs ht hvm hw hB hz1 hk1 hS => ?_)
          obtain ⟨rfl, rfl⟩ : r = v_4.1 ∧ u = v_4.2 := ⟨(congrArg Prod.fst hw).symm, (congrArg Prod.snd hw).symm⟩
          obtain ⟨hP1, hK1, hD1⟩ := hB
          replace hP1 := P_cg ht hP1
          obtain ⟨hP, hD⟩ := va_join (wc := [(h0, .inr (0, [.int ns, .int npos, .int ncc, .ref m1, .ref m2, .ref m3, .ref m4, .ref m5, .ref m6, .ref m7])), (m2, .inl ((cA 0), 200, .inl wy)), (m3, .inl ((cA 0), 200, .inl wa)), (m4, .inl ((cA 1), 50, .inl fi)), (m5, .inl ((cA 0), 50, .inl ea)), (m6, .inl ((cA 0), 50, .inl cl)), (m7, .inl ((cA 0), 50, .inl fn))]) (wr := []) (w1 := [(h0, .inr (0, [.int ns, .int npos, .int ncc, .ref m1, .ref m2, .ref m3, .ref m4, .ref m5, .ref m6, .ref m7])), (m2, .inl ((cA 0), 200, .inl wy)), (m3, .inl ((cA 0), 200, .inl wa)), (m4, .inl ((cA 1), 50, .inl fi)), (m5, .inl ((cA 0), 50, .inl ea)), (m6, .inl ((cA 0), 50, .inl cl)), (m7, .inl ((cA 0), 50, .inl fn))]) hP hD [0, 1, 2, 3, 4, 5, 6] [] rfl rfl (by decide) (by decide) hk1 hFc hP1 hD1
          have hP : va_P (dC, dI) clA [(h0, .inr (0, [.int ns, .int npos, .int ncc, .ref m1, .ref m2, .ref m3, .ref m4, .ref m5, .ref m6, .ref m7])), (m2, .inl ((cA 0), 200, .inl wy)), (m3, .inl ((cA 0), 200, .inl wa)), (m4, .inl ((cA 1), 50, .inl fi)), (m5, .inl ((cA 0), 50, .inl ea)), (m6, .inl ((cA 0), 50, .inl cl)), (m7, .inl ((cA 0), 50, .inl fn))] H := hP
          have hD : va_D A [(h0, .inr (0, [.int ns, .int npos, .int ncc, .ref m1, .ref m2, .ref m3, .ref m4, .ref m5, .ref m6, .ref m7])), (m2, .inl ((cA 0), 200, .inl wy)), (m3, .inl ((cA 0), 200, .inl wa)), (m4, .inl ((cA 1), 50, .inl fi)), (m5, .inl ((cA 0), 50, .inl ea)), (m6, .inl ((cA 0), 50, .inl cl)), (m7, .inl ((cA 0), 50, .inl fn))] := hD
          obtain ⟨h_5, hf⟩ := hf
          refine va_iast hx hb hK hP hD hS 6 0 rfl rfl h_5 d_Mach_refine_22 (fun H locs hP hD hS => ?_)
          have hP : va_P (dC, dI) clA [(h0, .inr (0, [.int ns, .int npos, .int ncc, .ref m1, .ref m2, .ref m3, .ref m4, .ref m5, .ref m6, .ref m7])), (m2, .inl ((cA 0), 200, .inl wy)), (m3, .inl ((cA 0), 200, .inl wa)), (m4, .inl ((cA 1), 50, .inl fi)), (m5, .inl ((cA 0), 50, .inl ea)), (m6, .inl ((cA 0), 50, .inl cl)), (m7, .inl ((cA 0), 50, .inl (upd fn x2.toNatClampNeg v_4.1)))] H := hP
          have hD : va_D A [(h0, .inr (0, [.int ns, .int npos, .int ncc, .ref m1, .ref m2, .ref m3, .ref m4, .ref m5, .ref m6, .ref m7])), (m2, .inl ((cA 0), 200, .inl wy)), (m3, .inl ((cA 0), 200, .inl wa)), (m4, .inl ((cA 1), 50, .inl fi)), (m5, .inl ((cA 0), 50, .inl ea)), (m6, .inl ((cA 0), 50, .inl cl)), (m7, .inl ((cA 0), 50, .inl (upd fn x2.toNatClampNeg v_4.1)))] := hD
          refine lv_iload_n hx hb d_Mach_refine_23 rfl (lv_at hl 1 rfl) ?_
          refine lv_if_ne (tgt := 42) hx hb d_Mach_refine_24 (by decide) (fun c_6 => ?_) (fun c_6 => ?_)
          · replace hf := hf.1 c_6
            refine lv_iconst (v := 1) hx hb d_Mach_refine_42 (by decide) ?_
            refine lv_goto (tgt := 47) hx hb d_Mach_refine_43 (by decide) ?_
            refine lv_istore_n (lv' := [(1, .int 1), (0, .ref h0), (2, .int x2)]) hx hb d_Mach_refine_47 rfl hl (by decide) rfl (fun ls hl => ?_)
            refine lv_iinc (v := x2 + 1) (lv' := [(2, .int (x2 + 1)), (1, .int 1), (0, .ref h0)]) hx hb d_Mach_refine_48 hl (k := 2) rfl rfl (by decide) rfl (fun ls hl => ?_)
            refine lv_goto (tgt := 4) hx hb d_Mach_refine_51 (by decide) ?_
            exact ih1 _ _ _ _ _ _ _ hf (hP.sub [0, 1, 2, 3, 4, 5, 6] rfl) (hD.sub [0, 1, 2, 3, 4, 5, 6] (by decide) rfl) hS (lv_sub hl [2, 1, 0] rfl)
          · replace hf := hf.2 c_6
            refine lv_aload_n hx hb d_Mach_refine_27 rfl (lv_at hl 0 rfl) ?_
            refine va_get (D := (dC, dI)) (ci := 0) (v := .ref m7) (C := RX0) (T := TX0) (N := 10) hx hb hts (fun w h => List.mem_cons_of_mem _ (in_X0 w h)) hown hK hP 0 rfl rfl 9 (by decide) (hts _ (List.mem_cons_of_mem _ k_218)) (fun _ h9 => h9) rfl d_Mach_refine_28 ?_
            refine lv_iload_n hx hb d_Mach_refine_31 rfl (lv_at hl 2 rfl) ?_
            obtain ⟨h_7, hf⟩ := hf
            refine va_iald hx hb hK hP 6 0 rfl rfl h_7 d_Mach_refine_32 ?_
            refine lv_aload_n hx hb d_Mach_refine_33 rfl (lv_at hl 0 rfl) ?_
            refine va_get (D := (dC, dI)) (ci := 0) (v := .ref m6) (C := RX0) (T := TX0) (N := 10) hx hb hts (fun w h => List.mem_cons_of_mem _ (in_X0 w h)) hown hK hP 0 rfl rfl 8 (by decide) (hts _ (List.mem_cons_of_mem _ k_216)) (fun _ h9 => h9) rfl d_Mach_refine_34 ?_
            refine lv_iload_n hx hb d_Mach_refine_37 rfl (lv_at hl 2 rfl) ?_
            obtain ⟨h_8, hf⟩ := hf
            refine va_iald hx hb hK hP 5 0 rfl rfl h_8 d_Mach_refine_38 ?_
            refine lv_icmp_eq (tgt := 46) hx hb d_Mach_refine_39 (by decide) (fun c_9 => ?_) (fun c_9 => ?_)
            · replace hf := hf.1 c_9
              refine lv_iconst (v := 0) hx hb d_Mach_refine_46 (by decide) ?_
              refine lv_istore_n (lv' := [(1, .int 0), (0, .ref h0), (2, .int x2)]) hx hb d_Mach_refine_47 rfl hl (by decide) rfl (fun ls hl => ?_)
              refine lv_iinc (v := x2 + 1) (lv' := [(2, .int (x2 + 1)), (1, .int 0), (0, .ref h0)]) hx hb d_Mach_refine_48 hl (k := 2) rfl rfl (by decide) rfl (fun ls hl => ?_)
              refine lv_goto (tgt := 4) hx hb d_Mach_refine_51 (by decide) ?_
              exact ih1 _ _ _ _ _ _ _ hf (hP.sub [0, 1, 2, 3, 4, 5, 6] rfl) (hD.sub [0, 1, 2, 3, 4, 5, 6] (by decide) rfl) hS (lv_sub hl [2, 1, 0] rfl)
            · replace hf := hf.2 c_9
              refine lv_iconst (v := 1) hx hb d_Mach_refine_42 (by decide) ?_
              refine lv_goto (tgt := 47) hx hb d_Mach_refine_43 (by decide) ?_
              refine lv_istore_n (lv' := [(1, .int 1), (0, .ref h0), (2, .int x2)]) hx hb d_Mach_refine_47 rfl hl (by decide) rfl (fun ls hl => ?_)
              refine lv_iinc (v := x2 + 1) (lv' := [(2, .int (x2 + 1)), (1, .int 1), (0, .ref h0)]) hx hb d_Mach_refine_48 hl (k := 2) rfl rfl (by decide) rfl (fun ls hl => ?_)
              refine lv_goto (tgt := 4) hx hb d_Mach_refine_51 (by decide) ?_
              exact ih1 _ _ _ _ _ _ _ hf (hP.sub [0, 1, 2, 3, 4, 5, 6] rfl) (hD.sub [0, 1, 2, 3, 4, 5, 6] (by decide) rfl) hS (lv_sub hl [2, 1, 0] rfl)
  have hf := hR
  unfold R_Mach_refine at hf
  refine lv_iconst (v := 0) hx hb d_Mach_refine_0 (by decide) ?_
  refine lv_istore_n (lv' := [(1, .int 0), (0, .ref h0)]) hx hb d_Mach_refine_1 rfl hl (by decide) rfl (fun ls hl => ?_)
  refine lv_iconst (v := 0) hx hb d_Mach_refine_2 (by decide) ?_
  refine lv_istore_n (lv' := [(2, .int 0), (1, .int 0), (0, .ref h0)]) hx hb d_Mach_refine_3 rfl hl (by decide) rfl (fun ls hl => ?_)
  obtain ⟨n, hf⟩ := hf
  exact (hC n) _ _ _ _ _ _ _ hf (hP.sub [0, 1, 2, 3, 4, 5, 6] rfl) (hD.sub [0, 1, 2, 3, 4, 5, 6] (by decide) rfl) hS (lv_sub hl [2, 1, 0] rfl)
def g_Mach_findClasses (ns : Int32) (npos : Int32) (wy : Nat → Int32) (wa : Nat → Int32) (fi : Nat → Int32) (ea : Nat → Int32) : Nat → Nat → Int32 → Int32 → Int32 → (Nat → Int32) → (Nat → Int32) → (Int32 × (Nat → Int32) × (Nat → Int32)) → Prop
  | 0, _, _, _, _, _, _, _ => False
  | n + 1, k, x1, x2, ncc, cl, fn, out => match k with
    | 1 => ((50 ≤ x2) → (g_Mach_findClasses ns npos wy wa fi ea n 2 0 0 0 cl fn out)) ∧ (¬ (50 ≤ x2) → (((x1 = 0) → (g_Mach_findClasses ns npos wy wa fi ea n 2 0 0 0 cl fn out)) ∧ (¬ (x1 = 0) → (∃ v_3, R_Mach_refine ns npos ncc wy wa fi ea cl fn v_3 ∧ (g_Mach_findClasses ns npos wy wa fi ea n 1 v_3.1 (x2 + 1) ncc v_3.2.1 v_3.2.2 out)))))
    | 2 => ((ns ≤ x2) → (out = (ncc, cl, fn))) ∧ (¬ (ns ≤ x2) → (vp_in x2 50 ∧ (((¬ (cl x2.toNatClampNeg) = x2) → (g_Mach_findClasses ns npos wy wa fi ea n 2 0 (x2 + 1) ncc cl fn out)) ∧ (((cl x2.toNatClampNeg) = x2) → (g_Mach_findClasses ns npos wy wa fi ea n 2 0 (x2 + 1) (ncc + 1) cl fn out)))))
    | _ => False
theorem g_Mach_findClasses_1 (ns : Int32) (npos : Int32) (wy : Nat → Int32) (wa : Nat → Int32) (fi : Nat → Int32) (ea : Nat → Int32) (n : Nat) (x1 : Int32) (x2 : Int32) (ncc : Int32) (cl : Nat → Int32) (fn : Nat → Int32) (out : Int32 × (Nat → Int32) × (Nat → Int32)) : g_Mach_findClasses ns npos wy wa fi ea (n + 1) 1 x1 x2 ncc cl fn out = (((50 ≤ x2) → (g_Mach_findClasses ns npos wy wa fi ea n 2 0 0 0 cl fn out)) ∧ (¬ (50 ≤ x2) → (((x1 = 0) → (g_Mach_findClasses ns npos wy wa fi ea n 2 0 0 0 cl fn out)) ∧ (¬ (x1 = 0) → (∃ v_3, R_Mach_refine ns npos ncc wy wa fi ea cl fn v_3 ∧ (g_Mach_findClasses ns npos wy wa fi ea n 1 v_3.1 (x2 + 1) ncc v_3.2.1 v_3.2.2 out)))))) := rfl
theorem g_Mach_findClasses_2 (ns : Int32) (npos : Int32) (wy : Nat → Int32) (wa : Nat → Int32) (fi : Nat → Int32) (ea : Nat → Int32) (n : Nat) (x1 : Int32) (x2 : Int32) (ncc : Int32) (cl : Nat → Int32) (fn : Nat → Int32) (out : Int32 × (Nat → Int32) × (Nat → Int32)) : g_Mach_findClasses ns npos wy wa fi ea (n + 1) 2 x1 x2 ncc cl fn out = (((ns ≤ x2) → (out = (ncc, cl, fn))) ∧ (¬ (ns ≤ x2) → (vp_in x2 50 ∧ (((¬ (cl x2.toNatClampNeg) = x2) → (g_Mach_findClasses ns npos wy wa fi ea n 2 0 (x2 + 1) ncc cl fn out)) ∧ (((cl x2.toNatClampNeg) = x2) → (g_Mach_findClasses ns npos wy wa fi ea n 2 0 (x2 + 1) (ncc + 1) cl fn out)))))) := rfl
def R_Mach_findClasses (ns : Int32) (npos : Int32) (wy : Nat → Int32) (wa : Nat → Int32) (fi : Nat → Int32) (ea : Nat → Int32) (ncc : Int32) (cl : Nat → Int32) (fn : Nat → Int32) (out : Int32 × (Nat → Int32) × (Nat → Int32)) : Prop := ∃ v_1, R_Arrays_fill 0 50 cl v_1 ∧ (∃ n, g_Mach_findClasses ns npos wy wa fi ea n 1 1 0 ncc v_1 fn out)
set_option maxHeartbeats 4000000 in
set_option maxRecDepth 100000 in
theorem c_Mach_findClasses (l : Launch) (dC : Nat → ClassId) (dI : Nat → Nat → Nat) (cA : Nat → ClassId) (h0 m2 m3 m4 m5 m6 m7 m1 : Nat) (sz : Nat) (ns : Int32) (npos : Int32) (wy : Nat → Int32) (wa : Nat → Int32) (fi : Nat → Int32) (ea : Nat → Int32) (ncc : Int32) (cl : Nat → Int32) (fn : Nat → Int32) (out : Int32 × (Nat → Int32) × (Nat → Int32)) (hR : R_Mach_findClasses ns npos wy wa fi ea ncc cl fn out) : Met l y_Mach_findClasses ws_Mach_findClasses ({ frames := 5, cells := 0, slots := 0, locals := 113 }) (va_Pc [.ref h0] (fun U => U.heap.size = sz ∧ va_P (dC, dI) clA [(h0, .inr (0, [.int ns, .int npos, .int ncc, .ref m1, .ref m2, .ref m3, .ref m4, .ref m5, .ref m6, .ref m7])), (m2, .inl ((cA 0), 200, .inl wy)), (m3, .inl ((cA 0), 200, .inl wa)), (m4, .inl ((cA 1), 50, .inl fi)), (m5, .inl ((cA 0), 50, .inl ea)), (m6, .inl ((cA 0), 50, .inl cl)), (m7, .inl ((cA 0), 50, .inl fn))] U.heap ∧ va_K (dC, dI) clA (tysA cA) U ∧ nW U ∧ va_D (fun _ => True) [(h0, .inr (0, [.int ns, .int npos, .int ncc, .ref m1, .ref m2, .ref m3, .ref m4, .ref m5, .ref m6, .ref m7])), (m2, .inl ((cA 0), 200, .inl wy)), (m3, .inl ((cA 0), 200, .inl wa)), (m4, .inl ((cA 1), 50, .inl fi)), (m5, .inl ((cA 0), 50, .inl ea)), (m6, .inl ((cA 0), 50, .inl cl)), (m7, .inl ((cA 0), 50, .inl fn))])) (va_Qv (fun u : Int32 × (Nat → Int32) × (Nat → Int32) => out = u) (fun (u : Int32 × (Nat → Int32) × (Nat → Int32)) (t : State) => va_P (dC, dI) clA [(h0, .inr (0, [.int ns, .int npos, .int u.1, .ref m1, .ref m2, .ref m3, .ref m4, .ref m5, .ref m6, .ref m7])), (m2, .inl ((cA 0), 200, .inl wy)), (m3, .inl ((cA 0), 200, .inl wa)), (m4, .inl ((cA 1), 50, .inl fi)), (m5, .inl ((cA 0), 50, .inl ea)), (m6, .inl ((cA 0), 50, .inl u.2.1)), (m7, .inl ((cA 0), 50, .inl u.2.2))] t.heap ∧ va_K (dC, dI) clA (tysA cA) t ∧ va_D (va_A [(h0, .inr (0, [.int ns, .int npos, .int ncc, .ref m1, .ref m2, .ref m3, .ref m4, .ref m5, .ref m6, .ref m7])), (m2, .inl ((cA 0), 200, .inl wy)), (m3, .inl ((cA 0), 200, .inl wa)), (m4, .inl ((cA 1), 50, .inl fi)), (m5, .inl ((cA 0), 50, .inl ea)), (m6, .inl ((cA 0), 50, .inl cl)), (m7, .inl ((cA 0), 50, .inl fn))] sz) [(h0, .inr (0, [.int ns, .int npos, .int u.1, .ref m1, .ref m2, .ref m3, .ref m4, .ref m5, .ref m6, .ref m7])), (m2, .inl ((cA 0), 200, .inl wy)), (m3, .inl ((cA 0), 200, .inl wa)), (m4, .inl ((cA 1), 50, .inl fi)), (m5, .inl ((cA 0), 50, .inl ea)), (m6, .inl ((cA 0), 50, .inl u.2.1)), (m7, .inl ((cA 0), 50, .inl u.2.2))]) (va_A [(h0, .inr (0, [.int ns, .int npos, .int ncc, .ref m1, .ref m2, .ref m3, .ref m4, .ref m5, .ref m6, .ref m7])), (m2, .inl ((cA 0), 200, .inl wy)), (m3, .inl ((cA 0), 200, .inl wa)), (m4, .inl ((cA 1), 50, .inl fi)), (m5, .inl ((cA 0), 50, .inl ea)), (m6, .inl ((cA 0), 50, .inl cl)), (m7, .inl ((cA 0), 50, .inl fn))] sz)) 0 0 (va_A [(h0, .inr (0, [.int ns, .int npos, .int ncc, .ref m1, .ref m2, .ref m3, .ref m4, .ref m5, .ref m6, .ref m7])), (m2, .inl ((cA 0), 200, .inl wy)), (m3, .inl ((cA 0), 200, .inl wa)), (m4, .inl ((cA 1), 50, .inl fi)), (m5, .inl ((cA 0), 50, .inl ea)), (m6, .inl ((cA 0), 50, .inl cl)), (m7, .inl ((cA 0), 50, .inl fn))] sz) := by
  refine Met.ofW (cc := b_Mach_findClasses) (maxL := 3) (ret := none) (by decide) rfl ?_
  intro p e s m args below meth c s₁ B hml hv
  obtain ⟨rfl, hsz, hP, hK, hN, hD0⟩ := hv
  have hx := B.exec
  have hb := B.bytes
  have hr := B.returns
  have hts := atoms_spec (ws := ws_Mach_findClasses) B.pre
  have hown : s.vm.findClass RX0 = some m.cls := findClass_of_methodNamed B.named
  have hlocks := B.notSynchronized
  subst hsz
  have hD := hD0.self (sz := s.heap.size)
  generalize hAe : va_A [(h0, .inr (0, [.int ns, .int npos, .int ncc, .ref m1, .ref m2, .ref m3, .ref m4, .ref m5, .ref m6, .ref m7])), (m2, .inl ((cA 0), 200, .inl wy)), (m3, .inl ((cA 0), 200, .inl wa)), (m4, .inl ((cA 1), 50, .inl fi)), (m5, .inl ((cA 0), 50, .inl ea)), (m6, .inl ((cA 0), 50, .inl cl)), (m7, .inl ((cA 0), 50, .inl fn))] s.heap.size = A at hD ⊢
  have hA : ∀ q : Nat, s.heap.size ≤ q → A q := fun q h => by rw [← hAe]; exact Or.inr h
  have hS : va_S A s.heap s.heap [] := va_S.rf
  have hP : va_P (dC, dI) clA [(h0, .inr (0, [.int ns, .int npos, .int ncc, .ref m1, .ref m2, .ref m3, .ref m4, .ref m5, .ref m6, .ref m7])), (m2, .inl ((cA 0), 200, .inl wy)), (m3, .inl ((cA 0), 200, .inl wa)), (m4, .inl ((cA 1), 50, .inl fi)), (m5, .inl ((cA 0), 50, .inl ea)), (m6, .inl ((cA 0), 50, .inl cl)), (m7, .inl ((cA 0), 50, .inl fn))] s.heap := hP
  have hl := lv_entry ([.ref h0]) (n := 3) (Nat.le_of_ble_eq_true rfl)
  rw [lg_entry_eq]
  generalize (lg_sl ([.ref h0]) ++ List.replicate (3 - (lg_sl ([.ref h0])).length) Slot.unset).toArray = ls at hl ⊢
  have hl : lv_has ls 3 [(0, .ref h0)] := hl
  refine W_gen (fun Qz hQz => ?_)
  have hC : ∀ n : Nat, (∀ (x1 : Int32) (x2 : Int32) (ncc : Int32) (cl : Nat → Int32) (fn : Nat → Int32) (H : Heap) (locs : List Loc) (ls : Array Slot), g_Mach_findClasses ns npos wy wa fi ea n 1 x1 x2 ncc cl fn out → va_P (dC, dI) clA [(h0, .inr (0, [.int ns, .int npos, .int ncc, .ref m1, .ref m2, .ref m3, .ref m4, .ref m5, .ref m6, .ref m7])), (m2, .inl ((cA 0), 200, .inl wy)), (m3, .inl ((cA 0), 200, .inl wa)), (m4, .inl ((cA 1), 50, .inl fi)), (m5, .inl ((cA 0), 50, .inl ea)), (m6, .inl ((cA 0), 50, .inl cl)), (m7, .inl ((cA 0), 50, .inl fn))] H → va_D A [(h0, .inr (0, [.int ns, .int npos, .int ncc, .ref m1, .ref m2, .ref m3, .ref m4, .ref m5, .ref m6, .ref m7])), (m2, .inl ((cA 0), 200, .inl wy)), (m3, .inl ((cA 0), 200, .inl wa)), (m4, .inl ((cA 1), 50, .inl fi)), (m5, .inl ((cA 0), 50, .inl ea)), (m6, .inl ((cA 0), 50, .inl cl)), (m7, .inl ((cA 0), 50, .inl fn))] → va_S A s.heap H locs → lv_has ls 3 [(0, .ref h0), (1, .int x1), (2, .int x2)] → W p l e ({ frames := 5, cells := 0, slots := 0, locals := 113 }) s m ([.ref h0]).toArray below meth c H locs 0 0 Qz (F0 m 12 ls [])) ∧ (∀ (x1 : Int32) (x2 : Int32) (ncc : Int32) (cl : Nat → Int32) (fn : Nat → Int32) (H : Heap) (locs : List Loc) (ls : Array Slot), g_Mach_findClasses ns npos wy wa fi ea n 2 x1 x2 ncc cl fn out → va_P (dC, dI) clA [(h0, .inr (0, [.int ns, .int npos, .int ncc, .ref m1, .ref m2, .ref m3, .ref m4, .ref m5, .ref m6, .ref m7])), (m2, .inl ((cA 0), 200, .inl wy)), (m3, .inl ((cA 0), 200, .inl wa)), (m4, .inl ((cA 1), 50, .inl fi)), (m5, .inl ((cA 0), 50, .inl ea)), (m6, .inl ((cA 0), 50, .inl cl)), (m7, .inl ((cA 0), 50, .inl fn))] H → va_D A [(h0, .inr (0, [.int ns, .int npos, .int ncc, .ref m1, .ref m2, .ref m3, .ref m4, .ref m5, .ref m6, .ref m7])), (m2, .inl ((cA 0), 200, .inl wy)), (m3, .inl ((cA 0), 200, .inl wa)), (m4, .inl ((cA 1), 50, .inl fi)), (m5, .inl ((cA 0), 50, .inl ea)), (m6, .inl ((cA 0), 50, .inl cl)), (m7, .inl ((cA 0), 50, .inl fn))] → va_S A s.heap H locs → lv_has ls 3 [(0, .ref h0), (2, .int x2)] → W p l e ({ frames := 5, cells := 0, slots := 0, locals := 113 }) s m ([.ref h0]).toArray below meth c H locs 0 0 Qz (F0 m 40 ls [])) := by
    intro n
    induction n with
    | zero => exact ⟨fun _ _ _ _ _ _ _ _ hf => hf.elim, fun _ _ _ _ _ _ _ _ hf => hf.elim⟩
    | succ n ih =>
      obtain ⟨ih1, ih2⟩ := ih
      refine ⟨?_, ?_⟩
      · intro x1 x2 ncc cl fn H locs ls hf hP hD hS hl
        rw [g_Mach_findClasses_1] at hf
        refine lv_iload_n hx hb d_Mach_findClasses_12 rfl (lv_at hl 2 rfl) ?_
        refine lv_bipush (v := 50) hx hb d_Mach_findClasses_13 (by decide) ?_
        refine lv_icmp_ge (tgt := 33) hx hb d_Mach_findClasses_15 (by decide) (fun c_1 => ?_) (fun c_1 => ?_)
        · replace hf := hf.1 c_1
          refine lv_aload_n hx hb d_Mach_findClasses_33 rfl (lv_at hl 0 rfl) ?_
          refine lv_iconst (v := 0) hx hb d_Mach_findClasses_34 (by decide) ?_
          refine va_put (D := (dC, dI)) (ci := 0) (v := .int 0) (ty := .int) (C := RX0) (T := TX0) (N := 10) hx hb hts (fun w h => List.mem_cons_of_mem _ (in_X0 w h)) tyX0 tyX0_ok nmX0 hown hK hP hD hS 0 rfl rfl 2 (by decide) (hts _ (List.mem_cons_of_mem _ k_206)) (fun _ h9 => h9) rfl (tyX0_ok 2 (by decide)) rfl rfl (Nat.le_of_ble_eq_true rfl) d_Mach_findClasses_35 (fun H locs hP hD hS => ?_)
          have hP : va_P (dC, dI) clA [(h0, .inr (0, [.int ns, .int npos, .int 0, .ref m1, .ref m2, .ref m3, .ref m4, .ref m5, .ref m6, .ref m7])), (m2, .inl ((cA 0), 200, .inl wy)), (m3, .inl ((cA 0), 200, .inl wa)), (m4, .inl ((cA 1), 50, .inl fi)), (m5, .inl ((cA 0), 50, .inl ea)), (m6, .inl ((cA 0), 50, .inl cl)), (m7, .inl ((cA 0), 50, .inl fn))] H := hP
          have hD : va_D A [(h0, .inr (0, [.int ns, .int npos, .int 0, .ref m1, .ref m2, .ref m3, .ref m4, .ref m5, .ref m6, .ref m7])), (m2, .inl ((cA 0), 200, .inl wy)), (m3, .inl ((cA 0), 200, .inl wa)), (m4, .inl ((cA 1), 50, .inl fi)), (m5, .inl ((cA 0), 50, .inl ea)), (m6, .inl ((cA 0), 50, .inl cl)), (m7, .inl ((cA 0), 50, .inl fn))] := hD
          refine lv_iconst (v := 0) hx hb d_Mach_findClasses_38 (by decide) ?_
          refine lv_istore_n (lv' := [(2, .int 0), (0, .ref h0), (1, .int x1)]) hx hb d_Mach_findClasses_39 rfl hl (by decide) rfl (fun ls hl => ?_)
          exact ih2 _ _ _ _ _ _ _ _ hf (hP.sub [0, 1, 2, 3, 4, 5, 6] rfl) (hD.sub [0, 1, 2, 3, 4, 5, 6] (by decide) rfl) hS (lv_sub hl [1, 0] rfl)
        · replace hf := hf.2 c_1
          refine lv_iload_n hx hb d_Mach_findClasses_18 rfl (lv_at hl 1 rfl) ?_
          refine lv_if_eq (tgt := 33) hx hb d_Mach_findClasses_19 (by decide) (fun c_2 => ?_) (fun c_2 => ?_)
          · replace hf := hf.1 c_2
            refine lv_aload_n hx hb d_Mach_findClasses_33 rfl (lv_at hl 0 rfl) ?_
            refine lv_iconst (v := 0) hx hb d_Mach_findClasses_34 (by decide) ?_
            refine va_put (D := (dC, dI)) (ci := 0) (v := .int 0) (ty := .int) (C := RX0) (T := TX0) (N := 10) hx hb hts (fun w h => List.mem_cons_of_mem _ (in_X0 w h)) tyX0 tyX0_ok nmX0 hown hK hP hD hS 0 rfl rfl 2 (by decide) (hts _ (List.mem_cons_of_mem _ k_206)) (fun _ h9 => h9) rfl (tyX0_ok 2 (by decide)) rfl rfl (Nat.le_of_ble_eq_true rfl) d_Mach_findClasses_35 (fun H locs hP hD hS => ?_)
            have hP : va_P (dC, dI) clA [(h0, .inr (0, [.int ns, .int npos, .int 0, .ref m1, .ref m2, .ref m3, .ref m4, .ref m5, .ref m6, .ref m7])), (m2, .inl ((cA 0), 200, .inl wy)), (m3, .inl ((cA 0), 200, .inl wa)), (m4, .inl ((cA 1), 50, .inl fi)), (m5, .inl ((cA 0), 50, .inl ea)), (m6, .inl ((cA 0), 50, .inl cl)), (m7, .inl ((cA 0), 50, .inl fn))] H := hP
            have hD : va_D A [(h0, .inr (0, [.int ns, .int npos, .int 0, .ref m1, .ref m2, .ref m3, .ref m4, .ref m5, .ref m6, .ref m7])), (m2, .inl ((cA 0), 200, .inl wy)), (m3, .inl ((cA 0), 200, .inl wa)), (m4, .inl ((cA 1), 50, .inl fi)), (m5, .inl ((cA 0), 50, .inl ea)), (m6, .inl ((cA 0), 50, .inl cl)), (m7, .inl ((cA 0), 50, .inl fn))] := hD
            refine lv_iconst (v := 0) hx hb d_Mach_findClasses_38 (by decide) ?_
            refine lv_istore_n (lv' := [(2, .int 0), (0, .ref h0), (1, .int x1)]) hx hb d_Mach_findClasses_39 rfl hl (by decide) rfl (fun ls hl => ?_)
            exact ih2 _ _ _ _ _ _ _ _ hf (hP.sub [0, 1, 2, 3, 4, 5, 6] rfl) (hD.sub [0, 1, 2, 3, 4, 5, 6] (by decide) rfl) hS (lv_sub hl [1, 0] rfl)
          · replace hf := hf.2 c_2
            refine lv_aload_n hx hb d_Mach_findClasses_22 rfl (lv_at hl 0 rfl) ?_
            obtain ⟨v_3, hv_3, hf⟩ := hf
            have hPc := hP.sub (ws' := [(h0, .inr (0, [.int ns, .int npos, .int ncc, .ref m1, .ref m2, .ref m3, .ref m4, .ref m5, .ref m6, .ref m7])), (m2, .inl ((cA 0), 200, .inl wy)), (m3, .inl ((cA 0), 200, .inl wa)), (m4, .inl ((cA 1), 50, .inl fi)), (m5, .inl ((cA 0), 50, .inl ea)), (m6, .inl ((cA 0), 50, .inl cl)), (m7, .inl ((cA 0), 50, .inl fn))]) [0, 1, 2, 3, 4, 5, 6] rfl
            have hDc := hD.sub (ws' := [(h0, .inr (0, [.int ns, .int npos, .int ncc, .ref m1, .ref m2, .ref m3, .ref m4, .ref m5, .ref m6, .ref m7])), (m2, .inl ((cA 0), 200, .inl wy)), (m3, .inl ((cA 0), 200, .inl wa)), (m4, .inl ((cA 1), 50, .inl fi)), (m5, .inl ((cA 0), 50, .inl ea)), (m6, .inl ((cA 0), 50, .inl cl)), (m7, .inl ((cA 0), 50, .inl fn))]) [0, 1, 2, 3, 4, 5, 6] (by decide) rfl
            have hFc := va_free (wc := [(h0, .inr (0, [.int ns, .int npos, .int ncc, .ref m1, .ref m2, .ref m3, .ref m4, .ref m5, .ref m6, .ref m7])), (m2, .inl ((cA 0), 200, .inl wy)), (m3, .inl ((cA 0), 200, .inl wa)), (m4, .inl ((cA 1), 50, .inl fi)), (m5, .inl ((cA 0), 50, .inl ea)), (m6, .inl ((cA 0), 50, .inl cl)), (m7, .inl ((cA 0), 50, .inl fn))]) hD hS hA [0, 1, 2, 3, 4, 5, 6] rfl
            refine va_calli (va_runV (As := []) (rest := []) ⟨hx, hb, hml, hown, hts⟩ (c_Mach_refine l dC dI cA h0 m2 m3 m4 m5 m6 m7 m1 H.size ns npos ncc wy wa fi ea cl fn v_3 hv_3) (cwV 0 hts (gV9 k_787 k_789 k_19 k_54 k_790) rfl rfl rfl hv_Mach_refine ⟨Nat.le_of_ble_eq_true rfl, Nat.le_of_ble_eq_true rfl⟩) ⟨fun a U g mk q => by obtain ⟨q0, q1, qP, qK, qN, qD⟩ := q; exact ⟨q0, q1, qP, va_K.moved (u := U) (U := U.calling g mk a) (Vm.Alike.refl U.vm) qK, nW_same (u := U) (U := U.calling g mk a) rfl qN, qD⟩, va_recv hK hPc (ci := 0) (q0 := 0) rfl rfl, fun U hU hW => ⟨rfl, congrArg _ hU, P_cg hU.symm hPc, va_K.moved hW.alike hK, nW_warm hW hN, hDc.weaken (fun _ _ _ _ => trivial)⟩⟩ rfl rfl hl.1 rfl (lv_room (Nat.le_of_ble_eq_true rfl)) d_Mach_findClasses_23 ⟨Nat.zero_le _, Nat.zero_le _⟩) hS (fun q _ h => hFc q h) hFc (fun r u t H locs ht hvm hw hB hz1 hk1 hS => ?_)
            obtain ⟨rfl, rfl⟩ : r = v_3.1 ∧ u = v_3.2 := ⟨(congrArg Prod.fst hw).symm, (congrArg Prod.snd hw).symm⟩
            obtain ⟨hP1, hK1, hD1⟩ := hB
            replace hP1 := P_cg ht hP1
            obtain ⟨hP, hD⟩ := va_join (wc := [(h0, .inr (0, [.int ns, .int npos, .int ncc, .ref m1, .ref m2, .ref m3, .ref m4, .ref m5, .ref m6, .ref m7])), (m2, .inl ((cA 0), 200, .inl wy)), (m3, .inl ((cA 0), 200, .inl wa)), (m4, .inl ((cA 1), 50, .inl fi)), (m5, .inl ((cA 0), 50, .inl ea)), (m6, .inl ((cA 0), 50, .inl cl)), (m7, .inl ((cA 0), 50, .inl fn))]) (wr := []) (w1 := [(h0, .inr (0, [.int ns, .int npos, .int ncc, .ref m1, .ref m2, .ref m3, .ref m4, .ref m5, .ref m6, .ref m7])), (m2, .inl ((cA 0), 200, .inl wy)), (m3, .inl ((cA 0), 200, .inl wa)), (m4, .inl ((cA 1), 50, .inl fi)), (m5, .inl ((cA 0), 50, .inl ea)), (m6, .inl ((cA 0), 50, .inl v_3.2.1)), (m7, .inl ((cA 0), 50, .inl v_3.2.2))]) hP hD [0, 1, 2, 3, 4, 5, 6] [] rfl rfl (by decide) (by decide) hk1 hFc hP1 hD1
            have hP : va_P (dC, dI) clA [(h0, .inr (0, [.int ns, .int npos, .int ncc, .ref m1, .ref m2, .ref m3, .ref m4, .ref m5, .ref m6, .ref m7])), (m2, .inl ((cA 0), 200, .inl wy)), (m3, .inl ((cA 0), 200, .inl wa)), (m4, .inl ((cA 1), 50, .inl fi)), (m5, .inl ((cA 0), 50, .inl ea)), (m6, .inl ((cA 0), 50, .inl v_3.2.1)), (m7, .inl ((cA 0), 50, .inl v_3.2.2))] H := hP
            have hD : va_D A [(h0, .inr (0, [.int ns, .int npos, .int ncc, .ref m1, .ref m2, .ref m3, .ref m4, .ref m5, .ref m6, .ref m7])), (m2, .inl ((cA 0), 200, .inl wy)), (m3, .inl ((cA 0), 200, .inl wa)), (m4, .inl ((cA 1), 50, .inl fi)), (m5, .inl ((cA 0), 50, .inl ea)), (m6, .inl ((cA 0), 50, .inl v_3.2.1)), (m7, .inl ((cA 0), 50, .inl v_3.2.2))] := hD
            refine lv_istore_n (lv' := [(1, .int v_3.1), (0, .ref h0), (2, .int x2)]) hx hb d_Mach_findClasses_26 rfl hl (by decide) rfl (fun ls hl => ?_)
            refine lv_iinc (v := x2 + 1) (lv' := [(2, .int (x2 + 1)), (1, .int v_3.1), (0, .ref h0)]) hx hb d_Mach_findClasses_27 hl (k := 2) rfl rfl (by decide) rfl (fun ls hl => ?_)
            refine lv_goto (tgt := 12) hx hb d_Mach_findClasses_30 (by decide) ?_
            exact ih1 _ _ _ _ _ _ _ _ hf (hP.sub [0, 1, 2, 3, 4, 5, 6] rfl) (hD.sub [0, 1, 2, 3, 4, 5, 6] (by decide) rfl) hS (lv_sub hl [2, 1, 0] rfl)
      · intro x1 x2 ncc cl fn H locs ls hf hP hD hS hl
        rw [g_Mach_findClasses_2] at hf
        refine lv_iload_n hx hb d_Mach_findClasses_40 rfl (lv_at hl 1 rfl) ?_
        refine lv_aload_n hx hb d_Mach_findClasses_41 rfl (lv_at hl 0 rfl) ?_
        refine va_get (D := (dC, dI)) (ci := 0) (v := .int ns) (C := RX0) (T := TX0) (N := 10) hx hb hts (fun w h => List.mem_cons_of_mem _ (in_X0 w h)) hown hK hP 0 rfl rfl 0 (by decide) (hts _ (List.mem_cons_of_mem _ k_202)) (fun _ h9 => h9) rfl d_Mach_findClasses_42 ?_
        refine lv_icmp_ge (tgt := 74) hx hb d_Mach_findClasses_45 (by decide) (fun c_1 => ?_) (fun c_1 => ?_)
        · replace hf := hf.1 c_1
          have hP9 := hP.sub (ws' := [(h0, .inr (0, [.int ns, .int npos, .int ncc, .ref m1, .ref m2, .ref m3, .ref m4, .ref m5, .ref m6, .ref m7])), (m2, .inl ((cA 0), 200, .inl wy)), (m3, .inl ((cA 0), 200, .inl wa)), (m4, .inl ((cA 1), 50, .inl fi)), (m5, .inl ((cA 0), 50, .inl ea)), (m6, .inl ((cA 0), 50, .inl cl)), (m7, .inl ((cA 0), 50, .inl fn))]) [0, 1, 2, 3, 4, 5, 6] rfl
          have hD9 := hD.sub (ws' := [(h0, .inr (0, [.int ns, .int npos, .int ncc, .ref m1, .ref m2, .ref m3, .ref m4, .ref m5, .ref m6, .ref m7])), (m2, .inl ((cA 0), 200, .inl wy)), (m3, .inl ((cA 0), 200, .inl wa)), (m4, .inl ((cA 1), 50, .inl fi)), (m5, .inl ((cA 0), 50, .inl ea)), (m6, .inl ((cA 0), 50, .inl cl)), (m7, .inl ((cA 0), 50, .inl fn))]) [0, 1, 2, 3, 4, 5, 6] (by decide) rfl
          refine W_end hQz ?_
          exact W.vret hx hb hr (fun t ht hW => ⟨⟨(ncc, cl, fn), rfl, hf, P_cg ht.symm hP9, va_K.moved hW.alike hK, hD9⟩, hS.F ht⟩) hS.2.2 d_Mach_findClasses_74 hlocks
        · replace hf := hf.2 c_1
          refine lv_aload_n hx hb d_Mach_findClasses_48 rfl (lv_at hl 0 rfl) ?_
          refine va_get (D := (dC, dI)) (ci := 0) (v := .ref m6) (C := RX0) (T := TX0) (N := 10) hx hb hts (fun w h => List.mem_cons_of_mem _ (in_X0 w h)) hown hK hP 0 rfl rfl 8 (by decide) (hts _ (List.mem_cons_of_mem _ k_216)) (fun _ h9 => h9) rfl d_Mach_findClasses_49 ?_
          refine lv_iload_n hx hb d_Mach_findClasses_52 rfl (lv_at hl 1 rfl) ?_
          obtain ⟨h_3, hf⟩ := hf
          refine va_iald hx hb hK hP 5 0 rfl rfl h_3 d_Mach_findClasses_53 ?_
          refine lv_iload_n hx hb d_Mach_findClasses_54 rfl (lv_at hl 1 rfl) ?_
          refine lv_icmp_ne (tgt := 68) hx hb d_Mach_findClasses_55 (by decide) (fun c_4 => ?_) (fun c_4 => ?_)
          · replace hf := hf.1 c_4
            refine lv_iinc (v := x2 + 1) (lv' := [(2, .int (x2 + 1)), (0, .ref h0)]) hx hb d_Mach_findClasses_68 hl (k := 1) rfl rfl (by decide) rfl (fun ls hl => ?_)
            refine lv_goto (tgt := 40) hx hb d_Mach_findClasses_71 (by decide) ?_
            exact ih2 _ _ _ _ _ _ _ _ hf (hP.sub [0, 1, 2, 3, 4, 5, 6] rfl) (hD.sub [0, 1, 2, 3, 4, 5, 6] (by decide) rfl) hS (lv_sub hl [1, 0] rfl)
          · replace hf := hf.2 c_4
            refine lv_aload_n hx hb d_Mach_findClasses_58 rfl (lv_at hl 0 rfl) ?_
            refine lv_dup hx hb d_Mach_findClasses_59 rfl ?_
            refine va_get (D := (dC, dI)) (ci := 0) (v := .int ncc) (C := RX0) (T := TX0) (N := 10) hx hb hts (fun w h => List.mem_cons_of_mem _ (in_X0 w h)) hown hK hP 0 rfl rfl 2 (by decide) (hts _ (List.mem_cons_of_mem _ k_206)) (fun _ h9 => h9) rfl d_Mach_findClasses_60 ?_
            refine lv_iconst (v := 1) hx hb d_Mach_findClasses_63 (by decide) ?_
            refine lv_iadd hx hb d_Mach_findClasses_64 ?_
            refine va_put (D := (dC, dI)) (ci := 0) (v := .int (ncc + 1)) (ty := .int) (C := RX0) (T := TX0) (N := 10) hx hb hts (fun w h => List.mem_cons_of_mem _ (in_X0 w h)) tyX0 tyX0_ok nmX0 hown hK hP hD hS 0 rfl rfl 2 (by decide) (hts _ (List.mem_cons_of_mem _ k_206)) (fun _ h9 => h9) rfl (tyX0_ok 2 (by decide)) rfl rfl (Nat.le_of_ble_eq_true rfl) d_Mach_findClasses_65 (fun H locs hP hD hS => ?_)
            have hP : va_P (dC, dI) clA [(h0, .inr (0, [.int ns, .int npos, .int (ncc + 1), .ref m1, .ref m2, .ref m3, .ref m4, .ref m5, .ref m6, .ref m7])), (m2, .inl ((cA 0), 200, .inl wy)), (m3, .inl ((cA 0), 200, .inl wa)), (m4, .inl ((cA 1), 50, .inl fi)), (m5, .inl ((cA 0), 50, .inl ea)), (m6, .inl ((cA 0), 50, .inl cl)), (m7, .inl ((cA 0), 50, .inl fn))] H := hP
            have hD : va_D A [(h0, .inr (0, [.int ns, .int npos, .int (ncc + 1), .ref m1, .ref m2, .ref m3, .ref m4, .ref m5, .ref m6, .ref m7])), (m2, .inl ((cA 0), 200, .inl wy)), (m3, .inl ((cA 0), 200, .inl wa)), (m4, .inl ((cA 1), 50, .inl fi)), (m5, .inl ((cA 0), 50, .inl ea)), (m6, .inl ((cA 0), 50, .inl cl)), (m7, .inl ((cA 0), 50, .inl fn))] := hD
            refine lv_iinc (v := x2 + 1) (lv' := [(2, .int (x2 + 1)), (0, .ref h0)]) hx hb d_Mach_findClasses_68 hl (k := 1) rfl rfl (by decide) rfl (fun ls hl => ?_)
            refine lv_goto (tgt := 40) hx hb d_Mach_findClasses_71 (by decide) ?_
            exact ih2 _ _ _ _ _ _ _ _ hf (hP.sub [0, 1, 2, 3, 4, 5, 6] rfl) (hD.sub [0, 1, 2, 3, 4, 5, 6] (by decide) rfl) hS (lv_sub hl [1, 0] rfl)
  have hf := hR
  unfold R_Mach_findClasses at hf
  refine lv_aload_n hx hb d_Mach_findClasses_0 rfl (lv_at hl 0 rfl) ?_
  refine va_get (D := (dC, dI)) (ci := 0) (v := .ref m6) (C := RX0) (T := TX0) (N := 10) hx hb hts (fun w h => List.mem_cons_of_mem _ (in_X0 w h)) hown hK hP 0 rfl rfl 8 (by decide) (hts _ (List.mem_cons_of_mem _ k_216)) (fun _ h9 => h9) rfl d_Mach_findClasses_1 ?_
  refine lv_iconst (v := 0) hx hb d_Mach_findClasses_4 (by decide) ?_
  obtain ⟨v_1, hv_1, hf⟩ := hf
  have hPc := hP.sub (ws' := [(m6, .inl ((cA 0), 50, .inl cl))]) [5] rfl
  have hDc := hD.sub (ws' := [(m6, .inl ((cA 0), 50, .inl cl))]) [5] (by decide) rfl
  have hFc := va_free (wc := [(m6, .inl ((cA 0), 50, .inl cl))]) hD hS hA [5] rfl
  refine va_callv (va_runS (As := [.ref m6, .int 0]) (rest := []) ⟨hx, hb, hml, hown, hts⟩ (c_Arrays_fill l dC dI cA m6 s.heap.size 0 50 cl v_1 hv_1) (va_cwS 2 hts (gS9 k_786 k_387 k_62 k_388) rfl rfl rfl hs_Arrays_fill ⟨Nat.le_of_ble_eq_true rfl, Nat.le_of_ble_eq_true rfl⟩) ⟨fun a U g mk q => by obtain ⟨q0, q1, qP, qK, qN, qD⟩ := q; exact ⟨q0, q1, qP, va_K.moved (u := U) (U := U.calling g mk a) (Vm.Alike.refl U.vm) qK, nW_same (u := U) (U := U.calling g mk a) rfl qN, qD⟩, fun U hU hW => ⟨rfl, congrArg _ hU, P_cg hU.symm hPc, va_K.moved hW.alike hK, nW_warm hW hN, hDc.weaken (fun _ _ _ _ => trivial)⟩⟩ rfl rfl hl.1 rfl (lv_room (Nat.le_of_ble_eq_true rfl)) d_Mach_findClasses_5 ⟨Nat.zero_le _, Nat.zero_le _⟩) hS (fun q _ h => hFc q h) hFc (fun u t H locs ht hvm hw hB hz1 hk1 hS => ?_)
  subst hw
  obtain ⟨hP1, hK1, hD1⟩ := hB
  replace hP1 := P_cg ht hP1
  obtain ⟨hP, hD⟩ := va_join (wc := [(m6, .inl ((cA 0), 50, .inl cl))]) (wr := [(h0, .inr (0, [.int ns, .int npos, .int ncc, .ref m1, .ref m2, .ref m3, .ref m4, .ref m5, .ref m6, .ref m7])), (m2, .inl ((cA 0), 200, .inl wy)), (m3, .inl ((cA 0), 200, .inl wa)), (m4, .inl ((cA 1), 50, .inl fi)), (m5, .inl ((cA 0), 50, .inl ea)), (m7, .inl ((cA 0), 50, .inl fn))]) (w1 := [(m6, .inl ((cA 0), 50, .inl v_1))]) hP hD [5] [0, 1, 2, 3, 4, 6] rfl rfl (by decide) (by decide) hk1 hFc hP1 hD1
  have hP : va_P (dC, dI) clA [(h0, .inr (0, [.int ns, .int npos, .int ncc, .ref m1, .ref m2, .ref m3, .ref m4, .ref m5, .ref m6, .ref m7])), (m2, .inl ((cA 0), 200, .inl wy)), (m3, .inl ((cA 0), 200, .inl wa)), (m4, .inl ((cA 1), 50, .inl fi)), (m5, .inl ((cA 0), 50, .inl ea)), (m7, .inl ((cA 0), 50, .inl fn)), (m6, .inl ((cA 0), 50, .inl v_1))] H := hP
  have hD : va_D A [(h0, .inr (0, [.int ns, .int npos, .int ncc, .ref m1, .ref m2, .ref m3, .ref m4, .ref m5, .ref m6, .ref m7])), (m2, .inl ((cA 0), 200, .inl wy)), (m3, .inl ((cA 0), 200, .inl wa)), (m4, .inl ((cA 1), 50, .inl fi)), (m5, .inl ((cA 0), 50, .inl ea)), (m7, .inl ((cA 0), 50, .inl fn)), (m6, .inl ((cA 0), 50, .inl v_1))] := hD
  refine lv_iconst (v := 1) hx hb d_Mach_findClasses_8 (by decide) ?_
  refine lv_istore_n (lv' := [(1, .int 1), (0, .ref h0)]) hx hb d_Mach_findClasses_9 rfl hl (by decide) rfl (fun ls hl => ?_)
  refine lv_iconst (v := 0) hx hb d_Mach_findClasses_10 (by decide) ?_
  refine lv_istore_n (lv' := [(2, .int 0), (1, .int 1), (0, .ref h0)]) hx hb d_Mach_findClasses_11 rfl hl (by decide) rfl (fun ls hl => ?_)
  obtain ⟨n, hf⟩ := hf
  exact (hC n).1 _ _ _ _ _ _ _ _ hf (hP.sub [0, 1, 2, 3, 4, 6, 5] rfl) (hD.sub [0, 1, 2, 3, 4, 6, 5] (by decide) rfl) hS (lv_sub hl [2, 1, 0] rfl)
