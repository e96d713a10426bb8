def g_Walk_perform (p1 : Int32) (wat : Int32) (wen : Int32) (wfe : Int32) : Nat → Nat → Int32 → (Nat → Int32) → ((Nat → Int32)) → Prop
  | 0, _, _, _, _ => False
  | n + 1, k, x2, dn, out => match k with
    | 1 => ((10 ≤ x2) → (out = (dn))) ∧ (¬ (10 ≤ x2) → (((((p1 >>> (x2 &&& 31)) &&& 1) = 0) → (g_Walk_perform p1 wat wen wfe n 1 (x2 + 1) dn out)) ∧ (¬ (((p1 >>> (x2 &&& 31)) &&& 1) = 0) → (vp_in x2 10 ∧ (vp_in x2 10 ∧ (g_Walk_perform p1 wat wen wfe n 1 (x2 + 1) (upd dn x2.toNatClampNeg ((dn x2.toNatClampNeg) + 1)) out))))))
    | _ => False
theorem g_Walk_perform_1 (p1 : Int32) (wat : Int32) (wen : Int32) (wfe : Int32) (n : Nat) (x2 : Int32) (dn : Nat → Int32) (out : (Nat → Int32)) : g_Walk_perform p1 wat wen wfe (n + 1) 1 x2 dn out = (((10 ≤ x2) → (out = (dn))) ∧ (¬ (10 ≤ x2) → (((((p1 >>> (x2 &&& 31)) &&& 1) = 0) → (g_Walk_perform p1 wat wen wfe n 1 (x2 + 1) dn out)) ∧ (¬ (((p1 >>> (x2 &&& 31)) &&& 1) = 0) → (vp_in x2 10 ∧ (vp_in x2 10 ∧ (g_Walk_perform p1 wat wen wfe n 1 (x2 + 1) (upd dn x2.toNatClampNeg ((dn x2.toNatClampNeg) + 1)) out))))))) := rfl
def R_Walk_perform (p1 : Int32) (wat : Int32) (wen : Int32) (wfe : Int32) (dn : Nat → Int32) (out : (Nat → Int32)) : Prop := (∃ n, g_Walk_perform p1 wat wen wfe n 1 0 dn out)
set_option maxHeartbeats 4000000 in
set_option maxRecDepth 100000 in
theorem c_Walk_perform (l : Launch) (dC : Nat → ClassId) (dI : Nat → Nat → Nat) (cA : Nat → ClassId) (h0 d1 : Nat) (sz : Nat) (p1 : Int32) (wat : Int32) (wen : Int32) (wfe : Int32) (dn : Nat → Int32) (out : (Nat → Int32)) (hR : R_Walk_perform p1 wat wen wfe dn out) : Met l y_Walk_perform ws_Walk_perform ({ frames := 0, cells := 0, slots := 0, locals := 0 }) (va_Pc [.ref h0, .int p1] (fun U => U.heap.size = sz ∧ va_P (dC, dI) clA [(h0, .inr (4, [.int wat, .int wen, .int wfe, .ref d1])), (d1, .inl ((cA 0), 10, .inl dn))] U.heap ∧ va_K (dC, dI) clA (tysA cA) U ∧ nW U ∧ va_D (fun _ => True) [(h0, .inr (4, [.int wat, .int wen, .int wfe, .ref d1])), (d1, .inl ((cA 0), 10, .inl dn))])) (va_Qv (fun u : (Nat → Int32) => out = u) (fun (u : (Nat → Int32)) (t : State) => va_P (dC, dI) clA [(h0, .inr (4, [.int wat, .int wen, .int wfe, .ref d1])), (d1, .inl ((cA 0), 10, .inl u))] t.heap ∧ va_K (dC, dI) clA (tysA cA) t ∧ va_D (va_A [(h0, .inr (4, [.int wat, .int wen, .int wfe, .ref d1])), (d1, .inl ((cA 0), 10, .inl dn))] sz) [(h0, .inr (4, [.int wat, .int wen, .int wfe, .ref d1])), (d1, .inl ((cA 0), 10, .inl u))]) (va_A [(h0, .inr (4, [.int wat, .int wen, .int wfe, .ref d1])), (d1, .inl ((cA 0), 10, .inl dn))] sz)) 0 0 (va_A [(h0, .inr (4, [.int wat, .int wen, .int wfe, .ref d1])), (d1, .inl ((cA 0), 10, .inl dn))] sz) := by
  refine Met.ofW (cc := b_Walk_perform) (maxL := 3) (ret := none) (by decide) rfl ?_
  intro p e s m args below meth c s₁ B hml hv
  obtain ⟨rfl, hsz, hP, hK, hN, hD0⟩ := hv
  have hx := B.exec
  have hb := B.bytes
  have hr := B.returns
  have hts := atoms_spec (ws := ws_Walk_perform) B.pre
  have hown : s.vm.findClass RX4 = some m.cls := findClass_of_methodNamed B.named
  have hlocks := B.notSynchronized
  subst hsz
  have hD := hD0.self (sz := s.heap.size)
  generalize hAe : va_A [(h0, .inr (4, [.int wat, .int wen, .int wfe, .ref d1])), (d1, .inl ((cA 0), 10, .inl dn))] s.heap.size = A at hD ⊢
  have hA : ∀ q : Nat, s.heap.size ≤ q → A q := fun q h => by rw [← hAe]; exact Or.inr h
  have hS : va_S A s.heap s.heap [] := va_S.rf
  have hP : va_P (dC, dI) clA [(h0, .inr (4, [.int wat, .int wen, .int wfe, .ref d1])), (d1, .inl ((cA 0), 10, .inl dn))] s.heap := hP
  have hl := lv_entry ([.ref h0, .int p1]) (n := 3) (Nat.le_of_ble_eq_true rfl)
  rw [lg_entry_eq]
  generalize (lg_sl ([.ref h0, .int p1]) ++ List.replicate (3 - (lg_sl ([.ref h0, .int p1])).length) Slot.unset).toArray = ls at hl ⊢
  have hl : lv_has ls 3 [(0, .ref h0), (1, .int p1)] := hl
  refine W_gen (fun Qz hQz => ?_)
  have hC : ∀ n : Nat, (∀ (x2 : Int32) (dn : Nat → Int32) (H : Heap) (locs : List Loc) (ls : Array Slot), g_Walk_perform p1 wat wen wfe n 1 x2 dn out → va_P (dC, dI) clA [(h0, .inr (4, [.int wat, .int wen, .int wfe, .ref d1])), (d1, .inl ((cA 0), 10, .inl dn))] H → va_D A [(h0, .inr (4, [.int wat, .int wen, .int wfe, .ref d1])), (d1, .inl ((cA 0), 10, .inl dn))] → va_S A s.heap H locs → lv_has ls 3 [(0, .ref h0), (1, .int p1), (2, .int x2)] → W p l e ({ frames := 0, cells := 0, slots := 0, locals := 0 }) s m ([.ref h0, .int p1]).toArray below meth c H locs 0 0 Qz (F0 m 2 ls [])) := by
    intro n
    induction n with
    | zero => exact fun _ _ _ _ _ hf => hf.elim
    | succ n ih =>
      have ih1 := ih
      · intro x2 dn H locs ls hf hP hD hS hl
        rw [g_Walk_perform_1] at hf
        refine lv_iload_n hx hb d_Walk_perform_2 rfl (lv_at hl 2 rfl) ?_
        refine lv_bipush (v := 10) hx hb d_Walk_perform_3 (by decide) ?_
        refine lv_icmp_ge (tgt := 32) hx hb d_Walk_perform_5 (by decide) (fun c_1 => ?_) (fun c_1 => ?_)
        · replace hf := hf.1 c_1
          have hP9 := hP.sub (ws' := [(h0, .inr (4, [.int wat, .int wen, .int wfe, .ref d1])), (d1, .inl ((cA 0), 10, .inl dn))]) [0, 1] rfl
          have hD9 := hD.sub (ws' := [(h0, .inr (4, [.int wat, .int wen, .int wfe, .ref d1])), (d1, .inl ((cA 0), 10, .inl dn))]) [0, 1] (by decide) rfl
          refine W_end hQz ?_
          exact W.vret hx hb hr (fun t ht hW => ⟨⟨(dn), rfl, hf, P_cg ht.symm hP9, va_K.moved hW.alike hK, hD9⟩, hS.F ht⟩) hS.2.2 d_Walk_perform_32 hlocks
        · replace hf := hf.2 c_1
          refine lv_iload_n hx hb d_Walk_perform_8 rfl (lv_at hl 1 rfl) ?_
          refine lv_iload_n hx hb d_Walk_perform_9 rfl (lv_at hl 2 rfl) ?_
          refine lv_ishr hx hb d_Walk_perform_10 ?_
          refine lv_iconst (v := 1) hx hb d_Walk_perform_11 (by decide) ?_
          refine lv_iand hx hb d_Walk_perform_12 ?_
          refine lv_if_eq (tgt := 26) hx hb d_Walk_perform_13 (by decide) (fun c_3 => ?_) (fun c_3 => ?_)
          · replace hf := hf.1 c_3
            refine lv_iinc (v := x2 + 1) (lv' := [(2, .int (x2 + 1)), (0, .ref h0), (1, .int p1)]) hx hb d_Walk_perform_26 hl (k := 2) rfl rfl (by decide) rfl (fun ls hl => ?_)
            refine lv_goto (tgt := 2) hx hb d_Walk_perform_29 (by decide) ?_
            exact ih1 _ _ _ _ _ hf (hP.sub [0, 1] rfl) (hD.sub [0, 1] (by decide) rfl) hS (lv_sub hl [1, 2, 0] rfl)
          · replace hf := hf.2 c_3
            refine lv_aload_n hx hb d_Walk_perform_16 rfl (lv_at hl 0 rfl) ?_
            refine va_get (D := (dC, dI)) (ci := 4) (v := .ref d1) (C := RX4) (T := TX4) (N := 4) hx hb hts (fun w h => List.mem_cons_of_mem _ (in_X4 w h)) hown hK hP 0 rfl rfl 3 (by decide) (hts _ (List.mem_cons_of_mem _ k_185)) (fun _ h9 => h9) rfl d_Walk_perform_17 ?_
            refine lv_iload_n hx hb d_Walk_perform_20 rfl (lv_at hl 2 rfl) ?_
            refine lv_dup2_11 hx hb d_Walk_perform_21 rfl rfl ?_
            obtain ⟨h_4, hf⟩ := hf
            refine va_iald hx hb hK hP 1 0 rfl rfl h_4 d_Walk_perform_22 ?_
            refine lv_iconst (v := 1) hx hb d_Walk_perform_23 (by decide) ?_
            refine lv_iadd hx hb d_Walk_perform_24 ?_
            obtain ⟨h_5, hf⟩ := hf
            refine va_iast hx hb hK hP hD hS 1 0 rfl rfl h_5 d_Walk_perform_25 (fun H locs hP hD hS => ?_)
            have hP : va_P (dC, dI) clA [(h0, .inr (4, [.int wat, .int wen, .int wfe, .ref d1])), (d1, .inl ((cA 0), 10, .inl (upd dn x2.toNatClampNeg ((dn x2.toNatClampNeg) + 1))))] H := hP
            have hD : va_D A [(h0, .inr (4, [.int wat, .int wen, .int wfe, .ref d1])), (d1, .inl ((cA 0), 10, .inl (upd dn x2.toNatClampNeg ((dn x2.toNatClampNeg) + 1))))] := hD
            refine lv_iinc (v := x2 + 1) (lv' := [(2, .int (x2 + 1)), (0, .ref h0), (1, .int p1)]) hx hb d_Walk_perform_26 hl (k := 2) rfl rfl (by decide) rfl (fun ls hl => ?_)
            refine lv_goto (tgt := 2) hx hb d_Walk_perform_29 (by decide) ?_
            exact ih1 _ _ _ _ _ hf (hP.sub [0, 1] rfl) (hD.sub [0, 1] (by decide) rfl) hS (lv_sub hl [1, 2, 0] rfl)
  have hf := hR
  unfold R_Walk_perform at hf
  refine lv_iconst (v := 0) hx hb d_Walk_perform_0 (by decide) ?_
  refine lv_istore_n (lv' := [(2, .int 0), (0, .ref h0), (1, .int p1)]) hx hb d_Walk_perform_1 rfl hl (by decide) rfl (fun ls hl => ?_)
  obtain ⟨n, hf⟩ := hf
  exact (hC n) _ _ _ _ _ hf (hP.sub [0, 1] rfl) (hD.sub [0, 1] (by decide) rfl) hS (lv_sub hl [1, 2, 0] rfl)
def R_Walk_goOn (p1 : Int32) (p2 : Int32) (wen : Int32) (wat : Int32) (wfe : Int32) (dn : Nat → Int32) (out : Int32 × Int32 × (Nat → Int32)) : Prop := ∃ v_1, R_Walk_perform p2 p1 wen (wfe + 1) dn v_1 ∧ (out = (p1, (wfe + 1), v_1))
set_option maxHeartbeats 4000000 in
set_option maxRecDepth 100000 in
theorem c_Walk_goOn (l : Launch) (dC : Nat → ClassId) (dI : Nat → Nat → Nat) (cA : Nat → ClassId) (h0 d1 : Nat) (sz : Nat) (p1 : Int32) (p2 : Int32) (wen : Int32) (wat : Int32) (wfe : Int32) (dn : Nat → Int32) (out : Int32 × Int32 × (Nat → Int32)) (hR : R_Walk_goOn p1 p2 wen wat wfe dn out) : Met l y_Walk_goOn ws_Walk_goOn ({ frames := 1, cells := 0, slots := 0, locals := 22 }) (va_Pc [.ref h0, .int p1, .int p2] (fun U => U.heap.size = sz ∧ va_P (dC, dI) clA [(h0, .inr (4, [.int wat, .int wen, .int wfe, .ref d1])), (d1, .inl ((cA 0), 10, .inl dn))] U.heap ∧ va_K (dC, dI) clA (tysA cA) U ∧ nW U ∧ va_D (fun _ => True) [(h0, .inr (4, [.int wat, .int wen, .int wfe, .ref d1])), (d1, .inl ((cA 0), 10, .inl dn))])) (va_Qv (fun u : Int32 × Int32 × (Nat → Int32) => out = u) (fun (u : Int32 × Int32 × (Nat → Int32)) (t : State) => va_P (dC, dI) clA [(h0, .inr (4, [.int u.1, .int wen, .int u.2.1, .ref d1])), (d1, .inl ((cA 0), 10, .inl u.2.2))] t.heap ∧ va_K (dC, dI) clA (tysA cA) t ∧ va_D (va_A [(h0, .inr (4, [.int wat, .int wen, .int wfe, .ref d1])), (d1, .inl ((cA 0), 10, .inl dn))] sz) [(h0, .inr (4, [.int u.1, .int wen, .int u.2.1, .ref d1])), (d1, .inl ((cA 0), 10, .inl u.2.2))]) (va_A [(h0, .inr (4, [.int wat, .int wen, .int wfe, .ref d1])), (d1, .inl ((cA 0), 10, .inl dn))] sz)) 0 0 (va_A [(h0, .inr (4, [.int wat, .int wen, .int wfe, .ref d1])), (d1, .inl ((cA 0), 10, .inl dn))] sz) := by
  refine Met.ofW (cc := b_Walk_goOn) (maxL := 3) (ret := none) (by decide) rfl ?_
  intro p e s m args below meth c s₁ B hml hv
  obtain ⟨rfl, hsz, hP, hK, hN, hD0⟩ := hv
  have hx := B.exec
  have hb := B.bytes
  have hr := B.returns
  have hts := atoms_spec (ws := ws_Walk_goOn) B.pre
  have hown : s.vm.findClass RX4 = some m.cls := findClass_of_methodNamed B.named
  have hlocks := B.notSynchronized
  subst hsz
  have hD := hD0.self (sz := s.heap.size)
  generalize hAe : va_A [(h0, .inr (4, [.int wat, .int wen, .int wfe, .ref d1])), (d1, .inl ((cA 0), 10, .inl dn))] s.heap.size = A at hD ⊢
  have hA : ∀ q : Nat, s.heap.size ≤ q → A q := fun q h => by rw [← hAe]; exact Or.inr h
  have hS : va_S A s.heap s.heap [] := va_S.rf
  have hP : va_P (dC, dI) clA [(h0, .inr (4, [.int wat, .int wen, .int wfe, .ref d1])), (d1, .inl ((cA 0), 10, .inl dn))] s.heap := hP
  have hl := lv_entry ([.ref h0, .int p1, .int p2]) (n := 3) (Nat.le_of_ble_eq_true rfl)
  rw [lg_entry_eq]
  generalize (lg_sl ([.ref h0, .int p1, .int p2]) ++ List.replicate (3 - (lg_sl ([.ref h0, .int p1, .int p2])).length) Slot.unset).toArray = ls at hl ⊢
  have hl : lv_has ls 3 [(0, .ref h0), (1, .int p1), (2, .int p2)] := hl
  refine W_gen (fun Qz hQz => ?_)
  have hf := hR
  unfold R_Walk_goOn at hf
  refine lv_aload_n hx hb d_Walk_goOn_0 rfl (lv_at hl 0 rfl) ?_
  refine lv_iload_n hx hb d_Walk_goOn_1 rfl (lv_at hl 1 rfl) ?_
  refine va_put (D := (dC, dI)) (ci := 4) (v := .int p1) (ty := .int) (C := RX4) (T := TX4) (N := 4) hx hb hts (fun w h => List.mem_cons_of_mem _ (in_X4 w h)) tyX4 tyX4_ok nmX4 hown hK hP hD hS 0 rfl rfl 0 (by decide) (hts _ (List.mem_cons_of_mem _ k_179)) (fun _ h9 => h9) rfl (tyX4_ok 0 (by decide)) rfl rfl (Nat.le_of_ble_eq_true rfl) d_Walk_goOn_2 (fun H locs hP hD hS => ?_)
  have hP : va_P (dC, dI) clA [(h0, .inr (4, [.int p1, .int wen, .int wfe, .ref d1])), (d1, .inl ((cA 0), 10, .inl dn))] H := hP
  have hD : va_D A [(h0, .inr (4, [.int p1, .int wen, .int wfe, .ref d1])), (d1, .inl ((cA 0), 10, .inl dn))] := hD
  refine lv_aload_n hx hb d_Walk_goOn_5 rfl (lv_at hl 0 rfl) ?_
  refine lv_dup hx hb d_Walk_goOn_6 rfl ?_
  refine va_get (D := (dC, dI)) (ci := 4) (v := .int wfe) (C := RX4) (T := TX4) (N := 4) hx hb hts (fun w h => List.mem_cons_of_mem _ (in_X4 w h)) hown hK hP 0 rfl rfl 2 (by decide) (hts _ (List.mem_cons_of_mem _ k_183)) (fun _ h9 => h9) rfl d_Walk_goOn_7 ?_
  refine lv_iconst (v := 1) hx hb d_Walk_goOn_10 (by decide) ?_
  refine lv_iadd hx hb d_Walk_goOn_11 ?_
  refine va_put (D := (dC, dI)) (ci := 4) (v := .int (wfe + 1)) (ty := .int) (C := RX4) (T := TX4) (N := 4) hx hb hts (fun w h => List.mem_cons_of_mem _ (in_X4 w h)) tyX4 tyX4_ok nmX4 hown hK hP hD hS 0 rfl rfl 2 (by decide) (hts _ (List.mem_cons_of_mem _ k_183)) (fun _ h9 => h9) rfl (tyX4_ok 2 (by decide)) rfl rfl (Nat.le_of_ble_eq_true rfl) d_Walk_goOn_12 (fun H locs hP hD hS => ?_)
  have hP : va_P (dC, dI) clA [(h0, .inr (4, [.int p1, .int wen, .int (wfe + 1), .ref d1])), (d1, .inl ((cA 0), 10, .inl dn))] H := hP
  have hD : va_D A [(h0, .inr (4, [.int p1, .int wen, .int (wfe + 1), .ref d1])), (d1, .inl ((cA 0), 10, .inl dn))] := hD
  refine lv_aload_n hx hb d_Walk_goOn_15 rfl (lv_at hl 0 rfl) ?_
  refine lv_iload_n hx hb d_Walk_goOn_16 rfl (lv_at hl 2 rfl) ?_
  obtain ⟨v_1, hv_1, hf⟩ := hf
  have hPc := hP.sub (ws' := [(h0, .inr (4, [.int p1, .int wen, .int (wfe + 1), .ref d1])), (d1, .inl ((cA 0), 10, .inl dn))]) [0, 1] rfl
  have hDc := hD.sub (ws' := [(h0, .inr (4, [.int p1, .int wen, .int (wfe + 1), .ref d1])), (d1, .inl ((cA 0), 10, .inl dn))]) [0, 1] (by decide) rfl
  have hFc := va_free (wc := [(h0, .inr (4, [.int p1, .int wen, .int (wfe + 1), .ref d1])), (d1, .inl ((cA 0), 10, .inl dn))]) hD hS hA [0, 1] rfl
  refine va_callv (va_runV (As := [.int p2]) (rest := []) ⟨hx, hb, hml, hown, hts⟩ (c_Walk_perform l dC dI cA h0 d1 H.size p2 p1 wen (wfe + 1) dn v_1 hv_1) (cwV 1 hts (gV9 k_903 k_905 k_26 k_53 k_906) rfl rfl rfl hv_Walk_perform ⟨Nat.le_of_ble_eq_true rfl, Nat.le_of_ble_eq_true rfl⟩) ⟨fun a U g mk q => by obtain ⟨q0, q1, qP, qK, qN, qD⟩ := q; exact ⟨q0, q1, qP, va_K.moved (u := U) (U := U.calling g mk a) (Vm.Alike.refl U.vm) qK, nW_same (u := U) (U := U.calling g mk a) rfl qN, qD⟩, va_recv hK hPc (ci := 4) (q0 := 0) rfl rfl, fun U hU hW => ⟨rfl, congrArg _ hU, P_cg hU.symm hPc, va_K.moved hW.alike hK, nW_warm hW hN, hDc.weaken (fun _ _ _ _ => trivial)⟩⟩ rfl rfl hl.1 rfl (lv_room (Nat.le_of_ble_eq_true rfl)) d_Walk_goOn_17 ⟨Nat.zero_le _, Nat.zero_le _⟩) hS (fun q _ h => hFc q h) hFc (fun u t H locs ht hvm hw hB hz1 hk1 hS => ?_)
  subst hw
  obtain ⟨hP1, hK1, hD1⟩ := hB
  replace hP1 := P_cg ht hP1
  obtain ⟨hP, hD⟩ := va_join (wc := [(h0, .inr (4, [.int p1, .int wen, .int (wfe + 1), .ref d1])), (d1, .inl ((cA 0), 10, .inl dn))]) (wr := []) (w1 := [(h0, .inr (4, [.int p1, .int wen, .int (wfe + 1), .ref d1])), (d1, .inl ((cA 0), 10, .inl v_1))]) hP hD [0, 1] [] rfl rfl (by decide) (by decide) hk1 hFc hP1 hD1
  have hP : va_P (dC, dI) clA [(h0, .inr (4, [.int p1, .int wen, .int (wfe + 1), .ref d1])), (d1, .inl ((cA 0), 10, .inl v_1))] H := hP
  have hD : va_D A [(h0, .inr (4, [.int p1, .int wen, .int (wfe + 1), .ref d1])), (d1, .inl ((cA 0), 10, .inl v_1))] := hD
  have hP9 := hP.sub (ws' := [(h0, .inr (4, [.int p1, .int wen, .int (wfe + 1), .ref d1])), (d1, .inl ((cA 0), 10, .inl v_1))]) [0, 1] rfl
  have hD9 := hD.sub (ws' := [(h0, .inr (4, [.int p1, .int wen, .int (wfe + 1), .ref d1])), (d1, .inl ((cA 0), 10, .inl v_1))]) [0, 1] (by decide) rfl
  refine W_end hQz ?_
  exact W.vret hx hb hr (fun t ht hW => ⟨⟨(p1, (wfe + 1), v_1), rfl, hf, P_cg ht.symm hP9, va_K.moved hW.alike hK, hD9⟩, hS.F ht⟩) hS.2.2 d_Walk_goOn_20 hlocks
def R_Walk_finish (p1 : Int32) (wat : Int32) (wfe : Int32) (wen : Int32) (dn : Nat → Int32) (out : Int32 × (Nat → Int32)) : Prop := ∃ v_1, R_Walk_perform p1 wat 1 wfe dn v_1 ∧ (out = (1, v_1))
set_option maxHeartbeats 4000000 in
set_option maxRecDepth 100000 in
theorem c_Walk_finish (l : Launch) (dC : Nat → ClassId) (dI : Nat → Nat → Nat) (cA : Nat → ClassId) (h0 d1 : Nat) (sz : Nat) (p1 : Int32) (wat : Int32) (wfe : Int32) (wen : Int32) (dn : Nat → Int32) (out : Int32 × (Nat → Int32)) (hR : R_Walk_finish p1 wat wfe wen dn out) : Met l y_Walk_finish ws_Walk_finish ({ frames := 1, cells := 0, slots := 0, locals := 22 }) (va_Pc [.ref h0, .int p1] (fun U => U.heap.size = sz ∧ va_P (dC, dI) clA [(h0, .inr (4, [.int wat, .int wen, .int wfe, .ref d1])), (d1, .inl ((cA 0), 10, .inl dn))] U.heap ∧ va_K (dC, dI) clA (tysA cA) U ∧ nW U ∧ va_D (fun _ => True) [(h0, .inr (4, [.int wat, .int wen, .int wfe, .ref d1])), (d1, .inl ((cA 0), 10, .inl dn))])) (va_Qv (fun u : Int32 × (Nat → Int32) => out = u) (fun (u : Int32 × (Nat → Int32)) (t : State) => va_P (dC, dI) clA [(h0, .inr (4, [.int wat, .int u.1, .int wfe, .ref d1])), (d1, .inl ((cA 0), 10, .inl u.2))] t.heap ∧ va_K (dC, dI) clA (tysA cA) t ∧ va_D (va_A [(h0, .inr (4, [.int wat, .int wen, .int wfe, .ref d1])), (d1, .inl ((cA 0), 10, .inl dn))] sz) [(h0, .inr (4, [.int wat, .int u.1, .int wfe, .ref d1])), (d1, .inl ((cA 0), 10, .inl u.2))]) (va_A [(h0, .inr (4, [.int wat, .int wen, .int wfe, .ref d1])), (d1, .inl ((cA 0), 10, .inl dn))] sz)) 0 0 (va_A [(h0, .inr (4, [.int wat, .int wen, .int wfe, .ref d1])), (d1, .inl ((cA 0), 10, .inl dn))] sz) := by
  refine Met.ofW (cc := b_Walk_finish) (maxL := 2) (ret := none) (by decide) rfl ?_
  intro p e s m args below meth c s₁ B hml hv
  obtain ⟨rfl, hsz, hP, hK, hN, hD0⟩ := hv
  have hx := B.exec
  have hb := B.bytes
  have hr := B.returns
  have hts := atoms_spec (ws := ws_Walk_finish) B.pre
  have hown : s.vm.findClass RX4 = some m.cls := findClass_of_methodNamed B.named
  have hlocks := B.notSynchronized
  subst hsz
  have hD := hD0.self (sz := s.heap.size)
  generalize hAe : va_A [(h0, .inr (4, [.int wat, .int wen, .int wfe, .ref d1])), (d1, .inl ((cA 0), 10, .inl dn))] s.heap.size = A at hD ⊢
  have hA : ∀ q : Nat, s.heap.size ≤ q → A q := fun q h => by rw [← hAe]; exact Or.inr h
  have hS : va_S A s.heap s.heap [] := va_S.rf
  have hP : va_P (dC, dI) clA [(h0, .inr (4, [.int wat, .int wen, .int wfe, .ref d1])), (d1, .inl ((cA 0), 10, .inl dn))] s.heap := hP
  have hl := lv_entry ([.ref h0, .int p1]) (n := 2) (Nat.le_of_ble_eq_true rfl)
  rw [lg_entry_eq]
  generalize (lg_sl ([.ref h0, .int p1]) ++ List.replicate (2 - (lg_sl ([.ref h0, .int p1])).length) Slot.unset).toArray = ls at hl ⊢
  have hl : lv_has ls 2 [(0, .ref h0), (1, .int p1)] := hl
  refine W_gen (fun Qz hQz => ?_)
  have hf := hR
  unfold R_Walk_finish at hf
  refine lv_aload_n hx hb d_Walk_finish_0 rfl (lv_at hl 0 rfl) ?_
  refine lv_iconst (v := 1) hx hb d_Walk_finish_1 (by decide) ?_
  refine va_put (D := (dC, dI)) (ci := 4) (v := .int 1) (ty := .boolean) (C := RX4) (T := TX4) (N := 4) hx hb hts (fun w h => List.mem_cons_of_mem _ (in_X4 w h)) tyX4 tyX4_ok nmX4 hown hK hP hD hS 0 rfl rfl 1 (by decide) (hts _ (List.mem_cons_of_mem _ k_181)) (fun _ h9 => h9) rfl (tyX4_ok 1 (by decide)) (by decide) (by decide) (Nat.le_of_ble_eq_true rfl) d_Walk_finish_2 (fun H locs hP hD hS => ?_)
  have hP : va_P (dC, dI) clA [(h0, .inr (4, [.int wat, .int 1, .int wfe, .ref d1])), (d1, .inl ((cA 0), 10, .inl dn))] H := hP
  have hD : va_D A [(h0, .inr (4, [.int wat, .int 1, .int wfe, .ref d1])), (d1, .inl ((cA 0), 10, .inl dn))] := hD
  refine lv_aload_n hx hb d_Walk_finish_5 rfl (lv_at hl 0 rfl) ?_
  refine lv_iload_n hx hb d_Walk_finish_6 rfl (lv_at hl 1 rfl) ?_
  obtain ⟨v_1, hv_1, hf⟩ := hf
  have hPc := hP.sub (ws' := [(h0, .inr (4, [.int wat, .int 1, .int wfe, .ref d1])), (d1, .inl ((cA 0), 10, .inl dn))]) [0, 1] rfl
  have hDc := hD.sub (ws' := [(h0, .inr (4, [.int wat, .int 1, .int wfe, .ref d1])), (d1, .inl ((cA 0), 10, .inl dn))]) [0, 1] (by decide) rfl
  have hFc := va_free (wc := [(h0, .inr (4, [.int wat, .int 1, .int wfe, .ref d1])), (d1, .inl ((cA 0), 10, .inl dn))]) hD hS hA [0, 1] rfl
  refine va_callv (va_runV (As := [.int p1]) (rest := []) ⟨hx, hb, hml, hown, hts⟩ (c_Walk_perform l dC dI cA h0 d1 H.size p1 wat 1 wfe dn v_1 hv_1) (cwV 1 hts (gV9 k_903 k_905 k_26 k_53 k_906) rfl rfl rfl hv_Walk_perform ⟨Nat.le_of_ble_eq_true rfl, Nat.le_of_ble_eq_true rfl⟩) ⟨fun a U g mk q => by obtain ⟨q0, q1, qP, qK, qN, qD⟩ := q; exact ⟨q0, q1, qP, va_K.moved (u := U) (U := U.calling g mk a) (Vm.Alike.refl U.vm) qK, nW_same (u := U) (U := U.calling g mk a) rfl qN, qD⟩, va_recv hK hPc (ci := 4) (q0 := 0) rfl rfl, fun U hU hW => ⟨rfl, congrArg _ hU, P_cg hU.symm hPc, va_K.moved hW.alike hK, nW_warm hW hN, hDc.weaken (fun _ _ _ _ => trivial)⟩⟩ rfl rfl hl.1 rfl (lv_room (Nat.le_of_ble_eq_true rfl)) d_Walk_finish_7 ⟨Nat.zero_le _, Nat.zero_le _⟩) hS (fun q _ h => hFc q h) hFc (fun u t H locs ht hvm hw hB hz1 hk1 hS => ?_)
  subst hw
  obtain ⟨hP1, hK1, hD1⟩ := hB
  replace hP1 := P_cg ht hP1
  obtain ⟨hP, hD⟩ := va_join (wc := [(h0, .inr (4, [.int wat, .int 1, .int wfe, .ref d1])), (d1, .inl ((cA 0), 10, .inl dn))]) (wr := []) (w1 := [(h0, .inr (4, [.int wat, .int 1, .int wfe, .ref d1])), (d1, .inl ((cA 0), 10, .inl v_1))]) hP hD [0, 1] [] rfl rfl (by decide) (by decide) hk1 hFc hP1 hD1
  have hP : va_P (dC, dI) clA [(h0, .inr (4, [.int wat, .int 1, .int wfe, .ref d1])), (d1, .inl ((cA 0), 10, .inl v_1))] H := hP
  have hD : va_D A [(h0, .inr (4, [.int wat, .int 1, .int wfe, .ref d1])), (d1, .inl ((cA 0), 10, .inl v_1))] := hD
  have hP9 := hP.sub (ws' := [(h0, .inr (4, [.int wat, .int 1, .int wfe, .ref d1])), (d1, .inl ((cA 0), 10, .inl v_1))]) [0, 1] rfl
  have hD9 := hD.sub (ws' := [(h0, .inr (4, [.int wat, .int 1, .int wfe, .ref d1])), (d1, .inl ((cA 0), 10, .inl v_1))]) [0, 1] (by decide) rfl
  refine W_end hQz ?_
  exact W.vret hx hb hr (fun t ht hW => ⟨⟨(1, v_1), rfl, hf, P_cg ht.symm hP9, va_K.moved hW.alike hK, hD9⟩, hS.F ht⟩) hS.2.2 d_Walk_finish_10 hlocks
def R_Walk_restart (p1 : Int32) (wat : Int32) (wen : Int32) (wfe : Int32) (dn : Nat → Int32) (out : Int32 × Int32 × Int32 × (Nat → Int32)) : Prop := ∃ v_1, R_Arrays_fill 0 10 dn v_1 ∧ (out = (p1, 0, 0, v_1))
set_option maxHeartbeats 4000000 in
set_option maxRecDepth 100000 in
theorem c_Walk_restart (l : Launch) (dC : Nat → ClassId) (dI : Nat → Nat → Nat) (cA : Nat → ClassId) (h0 d1 : Nat) (sz : Nat) (p1 : Int32) (wat : Int32) (wen : Int32) (wfe : Int32) (dn : Nat → Int32) (out : Int32 × Int32 × Int32 × (Nat → Int32)) (hR : R_Walk_restart p1 wat wen wfe dn out) : Met l y_Walk_restart ws_Walk_restart ({ frames := 1, cells := 0, slots := 0, locals := 23 }) (va_Pc [.ref h0, .int p1] (fun U => U.heap.size = sz ∧ va_P (dC, dI) clA [(h0, .inr (4, [.int wat, .int wen, .int wfe, .ref d1])), (d1, .inl ((cA 0), 10, .inl dn))] U.heap ∧ va_K (dC, dI) clA (tysA cA) U ∧ nW U ∧ va_D (fun _ => True) [(h0, .inr (4, [.int wat, .int wen, .int wfe, .ref d1])), (d1, .inl ((cA 0), 10, .inl dn))])) (va_Qv (fun u : Int32 × Int32 × Int32 × (Nat → Int32) => out = u) (fun (u : Int32 × Int32 × Int32 × (Nat → Int32)) (t : State) => va_P (dC, dI) clA [(h0, .inr (4, [.int u.1, .int u.2.1, .int u.2.2.1, .ref d1])), (d1, .inl ((cA 0), 10, .inl u.2.2.2))] t.heap ∧ va_K (dC, dI) clA (tysA cA) t ∧ va_D (va_A [(h0, .inr (4, [.int wat, .int wen, .int wfe, .ref d1])), (d1, .inl ((cA 0), 10, .inl dn))] sz) [(h0, .inr (4, [.int u.1, .int u.2.1, .int u.2.2.1, .ref d1])), (d1, .inl ((cA 0), 10, .inl u.2.2.2))]) (va_A [(h0, .inr (4, [.int wat, .int wen, .int wfe, .ref d1])), (d1, .inl ((cA 0), 10, .inl dn))] sz)) 0 0 (va_A [(h0, .inr (4, [.int wat, .int wen, .int wfe, .ref d1])), (d1, .inl ((cA 0), 10, .inl dn))] sz) := by
  refine Met.ofW (cc := b_Walk_restart) (maxL := 2) (ret := none) (by decide) rfl ?_
  intro p e s m args below meth c s₁ B hml hv
  obtain ⟨rfl, hsz, hP, hK, hN, hD0⟩ := hv
  have hx := B.exec
  have hb := B.bytes
  have hr := B.returns
  have hts := atoms_spec (ws := ws_Walk_restart) B.pre
  have hown : s.vm.findClass RX4 = some m.cls := findClass_of_methodNamed B.named
  have hlocks := B.notSynchronized
  subst hsz
  have hD := hD0.self (sz := s.heap.size)
  generalize hAe : va_A [(h0, .inr (4, [.int wat, .int wen, .int wfe, .ref d1])), (d1, .inl ((cA 0), 10, .inl dn))] s.heap.size = A at hD ⊢
  have hA : ∀ q : Nat, s.heap.size ≤ q → A q := fun q h => by rw [← hAe]; exact Or.inr h
  have hS : va_S A s.heap s.heap [] := va_S.rf
  have hP : va_P (dC, dI) clA [(h0, .inr (4, [.int wat, .int wen, .int wfe, .ref d1])), (d1, .inl ((cA 0), 10, .inl dn))] s.heap := hP
  have hl := lv_entry ([.ref h0, .int p1]) (n := 2) (Nat.le_of_ble_eq_true rfl)
  rw [lg_entry_eq]
  generalize (lg_sl ([.ref h0, .int p1]) ++ List.replicate (2 - (lg_sl ([.ref h0, .int p1])).length) Slot.unset).toArray = ls at hl ⊢
  have hl : lv_has ls 2 [(0, .ref h0), (1, .int p1)] := hl
  refine W_gen (fun Qz hQz => ?_)
  have hf := hR
  unfold R_Walk_restart at hf
  refine lv_aload_n hx hb d_Walk_restart_0 rfl (lv_at hl 0 rfl) ?_
  refine lv_iload_n hx hb d_Walk_restart_1 rfl (lv_at hl 1 rfl) ?_
  refine va_put (D := (dC, dI)) (ci := 4) (v := .int p1) (ty := .int) (C := RX4) (T := TX4) (N := 4) hx hb hts (fun w h => List.mem_cons_of_mem _ (in_X4 w h)) tyX4 tyX4_ok nmX4 hown hK hP hD hS 0 rfl rfl 0 (by decide) (hts _ (List.mem_cons_of_mem _ k_179)) (fun _ h9 => h9) rfl (tyX4_ok 0 (by decide)) rfl rfl (Nat.le_of_ble_eq_true rfl) d_Walk_restart_2 (fun H locs hP hD hS => ?_)
  have hP : va_P (dC, dI) clA [(h0, .inr (4, [.int p1, .int wen, .int wfe, .ref d1])), (d1, .inl ((cA 0), 10, .inl dn))] H := hP
  have hD : va_D A [(h0, .inr (4, [.int p1, .int wen, .int wfe, .ref d1])), (d1, .inl ((cA 0), 10, .inl dn))] := hD
  refine lv_aload_n hx hb d_Walk_restart_5 rfl (lv_at hl 0 rfl) ?_
  refine lv_iconst (v := 0) hx hb d_Walk_restart_6 (by decide) ?_
  refine va_put (D := (dC, dI)) (ci := 4) (v := .int 0) (ty := .boolean) (C := RX4) (T := TX4) (N := 4) hx hb hts (fun w h => List.mem_cons_of_mem _ (in_X4 w h)) tyX4 tyX4_ok nmX4 hown hK hP hD hS 0 rfl rfl 1 (by decide) (hts _ (List.mem_cons_of_mem _ k_181)) (fun _ h9 => h9) rfl (tyX4_ok 1 (by decide)) (by decide) (by decide) (Nat.le_of_ble_eq_true rfl) d_Walk_restart_7 (fun H locs hP hD hS => ?_)
  have hP : va_P (dC, dI) clA [(h0, .inr (4, [.int p1, .int 0, .int wfe, .ref d1])), (d1, .inl ((cA 0), 10, .inl dn))] H := hP
  have hD : va_D A [(h0, .inr (4, [.int p1, .int 0, .int wfe, .ref d1])), (d1, .inl ((cA 0), 10, .inl dn))] := hD
  refine lv_aload_n hx hb d_Walk_restart_10 rfl (lv_at hl 0 rfl) ?_
  refine lv_iconst (v := 0) hx hb d_Walk_restart_11 (by decide) ?_
  refine va_put (D := (dC, dI)) (ci := 4) (v := .int 0) (ty := .int) (C := RX4) (T := TX4) (N := 4) hx hb hts (fun w h => List.mem_cons_of_mem _ (in_X4 w h)) tyX4 tyX4_ok nmX4 hown hK hP hD hS 0 rfl rfl 2 (by decide) (hts _ (List.mem_cons_of_mem _ k_183)) (fun _ h9 => h9) rfl (tyX4_ok 2 (by decide)) rfl rfl (Nat.le_of_ble_eq_true rfl) d_Walk_restart_12 (fun H locs hP hD hS => ?_)
  have hP : va_P (dC, dI) clA [(h0, .inr (4, [.int p1, .int 0, .int 0, .ref d1])), (d1, .inl ((cA 0), 10, .inl dn))] H := hP
  have hD : va_D A [(h0, .inr (4, [.int p1, .int 0, .int 0, .ref d1])), (d1, .inl ((cA 0), 10, .inl dn))] := hD
  refine lv_aload_n hx hb d_Walk_restart_15 rfl (lv_at hl 0 rfl) ?_
  refine va_get (D := (dC, dI)) (ci := 4) (v := .ref d1) (C := RX4) (T := TX4) (N := 4) hx hb hts (fun w h => List.mem_cons_of_mem _ (in_X4 w h)) hown hK hP 0 rfl rfl 3 (by decide) (hts _ (List.mem_cons_of_mem _ k_185)) (fun _ h9 => h9) rfl d_Walk_restart_16 ?_
  refine lv_iconst (v := 0) hx hb d_Walk_restart_19 (by decide) ?_
  obtain ⟨v_1, hv_1, hf⟩ := hf
  have hPc := hP.sub (ws' := [(d1, .inl ((cA 0), 10, .inl dn))]) [1] rfl
  have hDc := hD.sub (ws' := [(d1, .inl ((cA 0), 10, .inl dn))]) [1] (by decide) rfl
  have hFc := va_free (wc := [(d1, .inl ((cA 0), 10, .inl dn))]) hD hS hA [1] rfl
  refine va_callv (va_runS (As := [.ref d1, .int 0]) (rest := []) ⟨hx, hb, hml, hown, hts⟩ (c_Arrays_fill l dC dI cA d1 H.size 0 10 dn v_1 hv_1) (va_cwS 2 hts (gS9 k_831 k_387 k_62 k_388) rfl rfl rfl hs_Arrays_fill ⟨Nat.le_of_ble_eq_true rfl, Nat.le_of_ble_eq_true rfl⟩) ⟨fun a U g mk q => by obtain ⟨q0, q1, qP, qK, qN, qD⟩ := q; exact ⟨q0, q1, qP, va_K.moved (u := U) (U := U.calling g mk a) (Vm.Alike.refl U.vm) qK, nW_same (u := U) (U := U.calling g mk a) rfl qN, qD⟩, fun U hU hW => ⟨rfl, congrArg _ hU, P_cg hU.symm hPc, va_K.moved hW.alike hK, nW_warm hW hN, hDc.weaken (fun _ _ _ _ => trivial)⟩⟩ rfl rfl hl.1 rfl (lv_room (Nat.le_of_ble_eq_true rfl)) d_Walk_restart_20 ⟨Nat.zero_le _, Nat.zero_le _⟩) hS (fun q _ h => hFc q h) hFc (fun u t H locs ht hvm hw hB hz1 hk1 hS => ?_)
  subst hw
  obtain ⟨hP1, hK1, hD1⟩ := hB
  replace hP1 := P_cg ht hP1
  obtain ⟨hP, hD⟩ := va_join (wc := [(d1, .inl ((cA 0), 10, .inl dn))]) (wr := [(h0, .inr (4, [.int p1, .int 0, .int 0, .ref d1]))]) (w1 := [(d1, .inl ((cA 0), 10, .inl v_1))]) hP hD [1] [0] rfl rfl (by decide) (by decide) hk1 hFc hP1 hD1
  have hP : va_P (dC, dI) clA [(h0, .inr (4, [.int p1, .int 0, .int 0, .ref d1])), (d1, .inl ((cA 0), 10, .inl v_1))] H := hP
  have hD : va_D A [(h0, .inr (4, [.int p1, .int 0, .int 0, .ref d1])), (d1, .inl ((cA 0), 10, .inl v_1))] := hD
  have hP9 := hP.sub (ws' := [(h0, .inr (4, [.int p1, .int 0, .int 0, .ref d1])), (d1, .inl ((cA 0), 10, .inl v_1))]) [0, 1] rfl
  have hD9 := hD.sub (ws' := [(h0, .inr (4, [.int p1, .int 0, .int 0, .ref d1])), (d1, .inl ((cA 0), 10, .inl v_1))]) [0, 1] (by decide) rfl
  refine W_end hQz ?_
  exact W.vret hx hb hr (fun t ht hW => ⟨⟨(p1, 0, 0, v_1), rfl, hf, P_cg ht.symm hP9, va_K.moved hW.alike hK, hD9⟩, hS.F ht⟩) hS.2.2 d_Walk_restart_23 hlocks
