def R_Net_isFull (pos : Int32)  (out : Int32 × Unit) : Prop := ((pos < 30) → (out = (0, ()))) ∧ (¬ (pos < 30) → (out = (1, ())))
set_option maxHeartbeats 4000000 in
set_option maxRecDepth 100000 in
theorem c_Net_isFull (l : Launch) (dC : Nat → ClassId) (dI : Nat → Nat → Nat) (cA : Nat → ClassId) (h0 a1 a2 a3 a4 a5 : Nat) (sz : Nat) (pos : Int32)  (out : Int32 × Unit) (hR : R_Net_isFull pos  out) : Met l y_Net_isFull ws_Net_isFull ({ frames := 0, cells := 0, slots := 0, locals := 0 }) (va_Pc [.ref h0] (fun U => U.heap.size = sz ∧ va_P (dC, dI) clA [(h0, .inr (1, [.int pos, .ref a1, .ref a2, .ref a3, .ref a4, .ref a5]))] U.heap ∧ va_K (dC, dI) clA (tysA cA) U ∧ nW U ∧ va_D (fun _ => True) [(h0, .inr (1, [.int pos, .ref a1, .ref a2, .ref a3, .ref a4, .ref a5]))])) (va_Qi (fun (r : Int32) (u : Unit) => out = (r, u)) (fun (u : Unit) (t : State) => va_P (dC, dI) clA [(h0, .inr (1, [.int pos, .ref a1, .ref a2, .ref a3, .ref a4, .ref a5]))] t.heap ∧ va_K (dC, dI) clA (tysA cA) t ∧ va_D (va_A [(h0, .inr (1, [.int pos, .ref a1, .ref a2, .ref a3, .ref a4, .ref a5]))] sz) [(h0, .inr (1, [.int pos, .ref a1, .ref a2, .ref a3, .ref a4, .ref a5]))]) (va_A [(h0, .inr (1, [.int pos, .ref a1, .ref a2, .ref a3, .ref a4, .ref a5]))] sz)) 0 0 (va_A [(h0, .inr (1, [.int pos, .ref a1, .ref a2, .ref a3, .ref a4, .ref a5]))] sz) := by
  refine Met.ofW (cc := b_Net_isFull) (maxL := 1) (ret := (some .boolean)) (by decide) rfl ?_
  intro p e s m args below meth c s₁ B hml hv
  obtain ⟨rfl, hsz, hP, hK, hN, hD0⟩ := hv
  have hx := B.exec
  have hb := B.bytes
  have hr := B.returns
  have hts := atoms_spec (ws := ws_Net_isFull) B.pre
  have hown : s.vm.findClass RX1 = some m.cls := findClass_of_methodNamed B.named
  have hlocks := B.notSynchronized
  subst hsz
  have hD := hD0.self (sz := s.heap.size)
  generalize hAe : va_A [(h0, .inr (1, [.int pos, .ref a1, .ref a2, .ref a3, .ref a4, .ref a5]))] s.heap.size = A at hD ⊢
  have hA : ∀ q : Nat, s.heap.size ≤ q → A q := fun q h => by rw [← hAe]; exact Or.inr h
  have hS : va_S A s.heap s.heap [] := va_S.rf
  have hP : va_P (dC, dI) clA [(h0, .inr (1, [.int pos, .ref a1, .ref a2, .ref a3, .ref a4, .ref a5]))] s.heap := hP
  have hl := lv_entry ([.ref h0]) (n := 1) (Nat.le_of_ble_eq_true rfl)
  rw [lg_entry_eq]
  generalize (lg_sl ([.ref h0]) ++ List.replicate (1 - (lg_sl ([.ref h0])).length) Slot.unset).toArray = ls at hl ⊢
  have hl : lv_has ls 1 [(0, .ref h0)] := hl
  refine W_gen (fun Qz hQz => ?_)
  have hf := hR
  unfold R_Net_isFull at hf
  refine lv_aload_n hx hb d_Net_isFull_0 rfl (lv_at hl 0 rfl) ?_
  refine va_get (D := (dC, dI)) (ci := 1) (v := .int pos) (C := RX1) (T := TX1) (N := 6) hx hb hts (fun w h => List.mem_cons_of_mem _ (in_X1 w h)) hown hK hP 0 rfl rfl 0 (by decide) (hts _ (List.mem_cons_of_mem _ k_94)) (fun _ h9 => h9) rfl d_Net_isFull_1 ?_
  refine lv_bipush (v := 30) hx hb d_Net_isFull_4 (by decide) ?_
  refine lv_icmp_lt (tgt := 13) hx hb d_Net_isFull_6 (by decide) (fun c_1 => ?_) (fun c_1 => ?_)
  · replace hf := hf.1 c_1
    refine lv_iconst (v := 0) hx hb d_Net_isFull_13 (by decide) ?_
    have hP9 := hP.sub (ws' := [(h0, .inr (1, [.int pos, .ref a1, .ref a2, .ref a3, .ref a4, .ref a5]))]) [0] rfl
    have hD9 := hD.sub (ws' := [(h0, .inr (1, [.int pos, .ref a1, .ref a2, .ref a3, .ref a4, .ref a5]))]) [0] (by decide) rfl
    refine W_end hQz ?_
    exact W.zret (v := 0) hx hb hr (by decide) (fun t ht hW => ⟨⟨0, (), rfl, hf, P_cg ht.symm hP9, va_K.moved hW.alike hK, hD9⟩, hS.F ht⟩) hS.2.2 d_Net_isFull_14 hlocks
  · replace hf := hf.2 c_1
    refine lv_iconst (v := 1) hx hb d_Net_isFull_9 (by decide) ?_
    refine lv_goto (tgt := 14) hx hb d_Net_isFull_10 (by decide) ?_
    have hP9 := hP.sub (ws' := [(h0, .inr (1, [.int pos, .ref a1, .ref a2, .ref a3, .ref a4, .ref a5]))]) [0] rfl
    have hD9 := hD.sub (ws' := [(h0, .inr (1, [.int pos, .ref a1, .ref a2, .ref a3, .ref a4, .ref a5]))]) [0] (by decide) rfl
    refine W_end hQz ?_
    exact W.zret (v := 1) hx hb hr (by decide) (fun t ht hW => ⟨⟨1, (), rfl, hf, P_cg ht.symm hP9, va_K.moved hW.alike hK, hD9⟩, hS.F ht⟩) hS.2.2 d_Net_isFull_14 hlocks
def g_Net_link (p1 : Int32) (p2 : Int32) (pos : Int32) (fa : Nat → Int32) (la : Nat → Int32) : Nat → Nat → Int32 → Int32 → Int32 → (Nat → Int32) → (Nat → Int32) → ((Nat → Int32) × (Nat → Int32)) → Prop
  | 0, _, _, _, _, _, _, _ => False
  | n + 1, k, x3, x4, x5, sp, sa, out => match k with
    | 1 => ((pos ≤ x3) → (out = (sp, sa))) ∧ (¬ (pos ≤ x3) → (((((p1 >>> (x3 &&& 31)) &&& 1) = 0) → (vp_in x3 30 ∧ (vp_in x3 30 ∧ (g_Net_link p1 p2 pos fa la n 2 x3 0 0 (upd sp x3.toNatClampNeg ((sp x3.toNatClampNeg) ||| 0)) sa out)))) ∧ (¬ (((p1 >>> (x3 &&& 31)) &&& 1) = 0) → (vp_in x3 30 ∧ (vp_in x3 30 ∧ (g_Net_link p1 p2 pos fa la n 2 x3 p2 0 (upd sp x3.toNatClampNeg ((sp x3.toNatClampNeg) ||| p2)) sa out))))))
    | 2 => ((pos ≤ x5) → (g_Net_link p1 p2 pos fa la n 1 (x3 + 1) 0 0 sp sa out)) ∧ (¬ (pos ≤ x5) → (((((x4 >>> (x5 &&& 31)) &&& 1) = 0) → (g_Net_link p1 p2 pos fa la n 2 x3 x4 (x5 + 1) sp sa out)) ∧ (¬ (((x4 >>> (x5 &&& 31)) &&& 1) = 0) → (vp_in ((x3 * 30) + x5) 900 ∧ (vp_in x3 30 ∧ (vp_in x5 30 ∧ (vp_in ((x3 * 30) + x5) 900 ∧ (g_Net_link p1 p2 pos fa la n 2 x3 x4 (x5 + 1) sp (upd sa ((x3 * 30) + x5).toNatClampNeg ((sa ((x3 * 30) + x5).toNatClampNeg) ||| ((la x3.toNatClampNeg) ||| (fa x5.toNatClampNeg)))) out))))))))
    | _ => False
theorem g_Net_link_1 (p1 : Int32) (p2 : Int32) (pos : Int32) (fa : Nat → Int32) (la : Nat → Int32) (n : Nat) (x3 : Int32) (x4 : Int32) (x5 : Int32) (sp : Nat → Int32) (sa : Nat → Int32) (out : (Nat → Int32) × (Nat → Int32)) : g_Net_link p1 p2 pos fa la (n + 1) 1 x3 x4 x5 sp sa out = (((pos ≤ x3) → (out = (sp, sa))) ∧ (¬ (pos ≤ x3) → (((((p1 >>> (x3 &&& 31)) &&& 1) = 0) → (vp_in x3 30 ∧ (vp_in x3 30 ∧ (g_Net_link p1 p2 pos fa la n 2 x3 0 0 (upd sp x3.toNatClampNeg ((sp x3.toNatClampNeg) ||| 0)) sa out)))) ∧ (¬ (((p1 >>> (x3 &&& 31)) &&& 1) = 0) → (vp_in x3 30 ∧ (vp_in x3 30 ∧ (g_Net_link p1 p2 pos fa la n 2 x3 p2 0 (upd sp x3.toNatClampNeg ((sp x3.toNatClampNeg) ||| p2)) sa out))))))) := rfl
theorem g_Net_link_2 (p1 : Int32) (p2 : Int32) (pos : Int32) (fa : Nat → Int32) (la : Nat → Int32) (n : Nat) (x3 : Int32) (x4 : Int32) (x5 : Int32) (sp : Nat → Int32) (sa : Nat → Int32) (out : (Nat → Int32) × (Nat → Int32)) : g_Net_link p1 p2 pos fa la (n + 1) 2 x3 x4 x5 sp sa out = (((pos ≤ x5) → (g_Net_link p1 p2 pos fa la n 1 (x3 + 1) 0 0 sp sa out)) ∧ (¬ (pos ≤ x5) → (((((x4 >>> (x5 &&& 31)) &&& 1) = 0) → (g_Net_link p1 p2 pos fa la n 2 x3 x4 (x5 + 1) sp sa out)) ∧ (¬ (((x4 >>> (x5 &&& 31)) &&& 1) = 0) → (vp_in ((x3 * 30) + x5) 900 ∧ (vp_in x3 30 ∧ (vp_in x5 30 ∧ (vp_in ((x3 * 30) + x5) 900 ∧ (g_Net_link p1 p2 pos fa la n 2 x3 x4 (x5 + 1) sp (upd sa ((x3 * 30) + x5).toNatClampNeg ((sa ((x3 * 30) + x5).toNatClampNeg) ||| ((la x3.toNatClampNeg) ||| (fa x5.toNatClampNeg)))) out))))))))) := rfl
def R_Net_link (p1 : Int32) (p2 : Int32) (pos : Int32) (fa : Nat → Int32) (la : Nat → Int32) (sp : Nat → Int32) (sa : Nat → Int32) (out : (Nat → Int32) × (Nat → Int32)) : Prop := (∃ n, g_Net_link p1 p2 pos fa la n 1 0 0 0 sp sa out)
set_option maxHeartbeats 4000000 in
set_option maxRecDepth 100000 in
theorem c_Net_link (l : Launch) (dC : Nat → ClassId) (dI : Nat → Nat → Nat) (cA : Nat → ClassId) (h0 a2 a3 a4 a5 a1 : Nat) (sz : Nat) (p1 : Int32) (p2 : Int32) (pos : Int32) (fa : Nat → Int32) (la : Nat → Int32) (sp : Nat → Int32) (sa : Nat → Int32) (out : (Nat → Int32) × (Nat → Int32)) (hR : R_Net_link p1 p2 pos fa la sp sa out) : Met l y_Net_link ws_Net_link ({ frames := 0, cells := 0, slots := 0, locals := 0 }) (va_Pc [.ref h0, .int p1, .int p2] (fun U => U.heap.size = sz ∧ va_P (dC, dI) clA [(h0, .inr (1, [.int pos, .ref a1, .ref a2, .ref a3, .ref a4, .ref a5])), (a2, .inl ((cA 0), 30, .inl fa)), (a3, .inl ((cA 0), 30, .inl la)), (a4, .inl ((cA 0), 30, .inl sp)), (a5, .inl ((cA 0), 900, .inl sa))] U.heap ∧ va_K (dC, dI) clA (tysA cA) U ∧ nW U ∧ va_D (fun _ => True) [(h0, .inr (1, [.int pos, .ref a1, .ref a2, .ref a3, .ref a4, .ref a5])), (a2, .inl ((cA 0), 30, .inl fa)), (a3, .inl ((cA 0), 30, .inl la)), (a4, .inl ((cA 0), 30, .inl sp)), (a5, .inl ((cA 0), 900, .inl sa))])) (va_Qv (fun u : (Nat → Int32) × (Nat → Int32) => out = u) (fun (u : (Nat → Int32) × (Nat → Int32)) (t : State) => va_P (dC, dI) clA [(h0, .inr (1, [.int pos, .ref a1, .ref a2, .ref a3, .ref a4, .ref a5])), (a2, .inl ((cA 0), 30, .inl fa)), (a3, .inl ((cA 0), 30, .inl la)), (a4, .inl ((cA 0), 30, .inl u.1)), (a5, .inl ((cA 0), 900, .inl u.2))] t.heap ∧ va_K (dC, dI) clA (tysA cA) t ∧ va_D (va_A [(h0, .inr (1, [.int pos, .ref a1, .ref a2, .ref a3, .ref a4, .ref a5])), (a2, .inl ((cA 0), 30, .inl fa)), (a3, .inl ((cA 0), 30, .inl la)), (a4, .inl ((cA 0), 30, .inl sp)), (a5, .inl ((cA 0), 900, .inl sa))] sz) [(h0, .inr (1, [.int pos, .ref a1, .ref a2, .ref a3, .ref a4, .ref a5])), (a2, .inl ((cA 0), 30, .inl fa)), (a3, .inl ((cA 0), 30, .inl la)), (a4, .inl ((cA 0), 30, .inl u.1)), (a5, .inl ((cA 0), 900, .inl u.2))]) (va_A [(h0, .inr (1, [.int pos, .ref a1, .ref a2, .ref a3, .ref a4, .ref a5])), (a2, .inl ((cA 0), 30, .inl fa)), (a3, .inl ((cA 0), 30, .inl la)), (a4, .inl ((cA 0), 30, .inl sp)), (a5, .inl ((cA 0), 900, .inl sa))] sz)) 0 0 (va_A [(h0, .inr (1, [.int pos, .ref a1, .ref a2, .ref a3, .ref a4, .ref a5])), (a2, .inl ((cA 0), 30, .inl fa)), (a3, .inl ((cA 0), 30, .inl la)), (a4, .inl ((cA 0), 30, .inl sp)), (a5, .inl ((cA 0), 900, .inl sa))] sz) := by
  refine Met.ofW (cc := b_Net_link) (maxL := 6) (ret := none) (by decide) rfl ?_
  intro p e s m args below meth c s₁ B hml hv
  obtain ⟨rfl, hsz, hP, hK, hN, hD0⟩ := hv
  have hx := B.exec
  have hb := B.bytes
  have hr := B.returns
  have hts := atoms_spec (ws := ws_Net_link) B.pre
  have hown : s.vm.findClass RX1 = some m.cls := findClass_of_methodNamed B.named
  have hlocks := B.notSynchronized
  subst hsz
  have hD := hD0.self (sz := s.heap.size)
  generalize hAe : va_A [(h0, .inr (1, [.int pos, .ref a1, .ref a2, .ref a3, .ref a4, .ref a5])), (a2, .inl ((cA 0), 30, .inl fa)), (a3, .inl ((cA 0), 30, .inl la)), (a4, .inl ((cA 0), 30, .inl sp)), (a5, .inl ((cA 0), 900, .inl sa))] s.heap.size = A at hD ⊢
  have hA : ∀ q : Nat, s.heap.size ≤ q → A q := fun q h => by rw [← hAe]; exact Or.inr h
  have hS : va_S A s.heap s.heap [] := va_S.rf
  have hP : va_P (dC, dI) clA [(h0, .inr (1, [.int pos, .ref a1, .ref a2, .ref a3, .ref a4, .ref a5])), (a2, .inl ((cA 0), 30, .inl fa)), (a3, .inl ((cA 0), 30, .inl la)), (a4, .inl ((cA 0), 30, .inl sp)), (a5, .inl ((cA 0), 900, .inl sa))] s.heap := hP
  have hl := lv_entry ([.ref h0, .int p1, .int p2]) (n := 6) (Nat.le_of_ble_eq_true rfl)
  rw [lg_entry_eq]
  generalize (lg_sl ([.ref h0, .int p1, .int p2]) ++ List.replicate (6 - (lg_sl ([.ref h0, .int p1, .int p2])).length) Slot.unset).toArray = ls at hl ⊢
  have hl : lv_has ls 6 [(0, .ref h0), (1, .int p1), (2, .int p2)] := hl
  refine W_gen (fun Qz hQz => ?_)
  have hC : ∀ n : Nat, (∀ (x3 : Int32) (x4 : Int32) (x5 : Int32) (sp : Nat → Int32) (sa : Nat → Int32) (H : Heap) (locs : List Loc) (ls : Array Slot), g_Net_link p1 p2 pos fa la n 1 x3 x4 x5 sp sa out → va_P (dC, dI) clA [(h0, .inr (1, [.int pos, .ref a1, .ref a2, .ref a3, .ref a4, .ref a5])), (a2, .inl ((cA 0), 30, .inl fa)), (a3, .inl ((cA 0), 30, .inl la)), (a4, .inl ((cA 0), 30, .inl sp)), (a5, .inl ((cA 0), 900, .inl sa))] H → va_D A [(h0, .inr (1, [.int pos, .ref a1, .ref a2, .ref a3, .ref a4, .ref a5])), (a2, .inl ((cA 0), 30, .inl fa)), (a3, .inl ((cA 0), 30, .inl la)), (a4, .inl ((cA 0), 30, .inl sp)), (a5, .inl ((cA 0), 900, .inl sa))] → va_S A s.heap H locs → lv_has ls 6 [(0, .ref h0), (1, .int p1), (2, .int p2), (3, .int x3)] → W p l e ({ frames := 0, cells := 0, slots := 0, locals := 0 }) s m ([.ref h0, .int p1, .int p2]).toArray below meth c H locs 0 0 Qz (F0 m 2 ls [])) ∧ (∀ (x3 : Int32) (x4 : Int32) (x5 : Int32) (sp : Nat → Int32) (sa : Nat → Int32) (H : Heap) (locs : List Loc) (ls : Array Slot), g_Net_link p1 p2 pos fa la n 2 x3 x4 x5 sp sa out → va_P (dC, dI) clA [(h0, .inr (1, [.int pos, .ref a1, .ref a2, .ref a3, .ref a4, .ref a5])), (a2, .inl ((cA 0), 30, .inl fa)), (a3, .inl ((cA 0), 30, .inl la)), (a4, .inl ((cA 0), 30, .inl sp)), (a5, .inl ((cA 0), 900, .inl sa))] H → va_D A [(h0, .inr (1, [.int pos, .ref a1, .ref a2, .ref a3, .ref a4, .ref a5])), (a2, .inl ((cA 0), 30, .inl fa)), (a3, .inl ((cA 0), 30, .inl la)), (a4, .inl ((cA 0), 30, .inl sp)), (a5, .inl ((cA 0), 900, .inl sa))] → va_S A s.heap H locs → lv_has ls 6 [(0, .ref h0), (1, .int p1), (2, .int p2), (3, .int x3), (4, .int x4), (5, .int x5)] → W p l e ({ frames := 0, cells := 0, slots := 0, locals := 0 }) s m ([.ref h0, .int p1, .int p2]).toArray below meth c H locs 0 0 Qz (F0 m 39 ls [])) := by
    intro n
    induction n with
    | zero => exact ⟨fun _ _ _ _ _ _ _ _ hf => hf.elim, fun _ _ _ _ _ _ _ _ hf => hf.elim⟩
    | succ n ih =>
      obtain ⟨ih1, ih2⟩ := ih
      refine ⟨?_, ?_⟩
      · intro x3 x4 x5 sp sa H locs ls hf hP hD hS hl
        rw [g_Net_link_1] at hf
        refine lv_iload_n hx hb d_Net_link_2 rfl (lv_at hl 3 rfl) ?_
        refine lv_aload_n hx hb d_Net_link_3 rfl (lv_at hl 0 rfl) ?_
        refine va_get (D := (dC, dI)) (ci := 1) (v := .int pos) (C := RX1) (T := TX1) (N := 6) hx hb hts (fun w h => List.mem_cons_of_mem _ (in_X1 w h)) hown hK hP 0 rfl rfl 0 (by decide) (hts _ (List.mem_cons_of_mem _ k_94)) (fun _ h9 => h9) rfl d_Net_link_4 ?_
        refine lv_icmp_ge (tgt := 99) hx hb d_Net_link_7 (by decide) (fun c_1 => ?_) (fun c_1 => ?_)
        · replace hf := hf.1 c_1
          have hP9 := hP.sub (ws' := [(h0, .inr (1, [.int pos, .ref a1, .ref a2, .ref a3, .ref a4, .ref a5])), (a2, .inl ((cA 0), 30, .inl fa)), (a3, .inl ((cA 0), 30, .inl la)), (a4, .inl ((cA 0), 30, .inl sp)), (a5, .inl ((cA 0), 900, .inl sa))]) [0, 1, 2, 3, 4] rfl
          have hD9 := hD.sub (ws' := [(h0, .inr (1, [.int pos, .ref a1, .ref a2, .ref a3, .ref a4, .ref a5])), (a2, .inl ((cA 0), 30, .inl fa)), (a3, .inl ((cA 0), 30, .inl la)), (a4, .inl ((cA 0), 30, .inl sp)), (a5, .inl ((cA 0), 900, .inl sa))]) [0, 1, 2, 3, 4] (by decide) rfl
          refine W_end hQz ?_
          exact W.vret hx hb hr (fun t ht hW => ⟨⟨(sp, sa), rfl, hf, P_cg ht.symm hP9, va_K.moved hW.alike hK, hD9⟩, hS.F ht⟩) hS.2.2 d_Net_link_99 hlocks
        · replace hf := hf.2 c_1
          refine lv_iload_n hx hb d_Net_link_10 rfl (lv_at hl 1 rfl) ?_
          refine lv_iload_n hx hb d_Net_link_11 rfl (lv_at hl 3 rfl) ?_
          refine lv_ishr hx hb d_Net_link_12 ?_
          refine lv_iconst (v := 1) hx hb d_Net_link_13 (by decide) ?_
          refine lv_iand hx hb d_Net_link_14 ?_
          refine lv_if_eq (tgt := 22) hx hb d_Net_link_15 (by decide) (fun c_3 => ?_) (fun c_3 => ?_)
          · replace hf := hf.1 c_3
            refine lv_iconst (v := 0) hx hb d_Net_link_22 (by decide) ?_
            refine lv_istore (lv' := [(4, .int 0), (0, .ref h0), (1, .int p1), (2, .int p2), (3, .int x3)]) hx hb d_Net_link_23 hl (by decide) rfl (fun ls hl => ?_)
            refine lv_aload_n hx hb d_Net_link_25 rfl (lv_at hl 1 rfl) ?_
            refine va_get (D := (dC, dI)) (ci := 1) (v := .ref a4) (C := RX1) (T := TX1) (N := 6) hx hb hts (fun w h => List.mem_cons_of_mem _ (in_X1 w h)) hown hK hP 0 rfl rfl 4 (by decide) (hts _ (List.mem_cons_of_mem _ k_100)) (fun _ h9 => h9) rfl d_Net_link_26 ?_
            refine lv_iload_n hx hb d_Net_link_29 rfl (lv_at hl 4 rfl) ?_
            refine lv_dup2_11 hx hb d_Net_link_30 rfl rfl ?_
            obtain ⟨h_4, hf⟩ := hf
            refine va_iald hx hb hK hP 3 0 rfl rfl h_4 d_Net_link_31 ?_
            refine lv_iload hx hb d_Net_link_32 (lv_at hl 0 rfl) ?_
            refine lv_ior hx hb d_Net_link_34 ?_
            obtain ⟨h_5, hf⟩ := hf
            refine va_iast hx hb hK hP hD hS 3 0 rfl rfl h_5 d_Net_link_35 (fun H locs hP hD hS => ?_)
            have hP : va_P (dC, dI) clA [(h0, .inr (1, [.int pos, .ref a1, .ref a2, .ref a3, .ref a4, .ref a5])), (a2, .inl ((cA 0), 30, .inl fa)), (a3, .inl ((cA 0), 30, .inl la)), (a4, .inl ((cA 0), 30, .inl (upd sp x3.toNatClampNeg ((sp x3.toNatClampNeg) ||| 0)))), (a5, .inl ((cA 0), 900, .inl sa))] H := hP
            have hD : va_D A [(h0, .inr (1, [.int pos, .ref a1, .ref a2, .ref a3, .ref a4, .ref a5])), (a2, .inl ((cA 0), 30, .inl fa)), (a3, .inl ((cA 0), 30, .inl la)), (a4, .inl ((cA 0), 30, .inl (upd sp x3.toNatClampNeg ((sp x3.toNatClampNeg) ||| 0)))), (a5, .inl ((cA 0), 900, .inl sa))] := hD
            refine lv_iconst (v := 0) hx hb d_Net_link_36 (by decide) ?_
            refine lv_istore (lv' := [(5, .int 0), (4, .int 0), (0, .ref h0), (1, .int p1), (2, .int p2), (3, .int x3)]) hx hb d_Net_link_37 hl (by decide) rfl (fun ls hl => ?_)
            exact ih2 _ _ _ _ _ _ _ _ hf (hP.sub [0, 1, 2, 3, 4] rfl) (hD.sub [0, 1, 2, 3, 4] (by decide) rfl) hS (lv_sub hl [2, 3, 4, 5, 1, 0] rfl)
          · replace hf := hf.2 c_3
            refine lv_iload_n hx hb d_Net_link_18 rfl (lv_at hl 2 rfl) ?_
            refine lv_goto (tgt := 23) hx hb d_Net_link_19 (by decide) ?_
            refine lv_istore (lv' := [(4, .int p2), (0, .ref h0), (1, .int p1), (2, .int p2), (3, .int x3)]) hx hb d_Net_link_23 hl (by decide) rfl (fun ls hl => ?_)
            refine lv_aload_n hx hb d_Net_link_25 rfl (lv_at hl 1 rfl) ?_
            refine va_get (D := (dC, dI)) (ci := 1) (v := .ref a4) (C := RX1) (T := TX1) (N := 6) hx hb hts (fun w h => List.mem_cons_of_mem _ (in_X1 w h)) hown hK hP 0 rfl rfl 4 (by decide) (hts _ (List.mem_cons_of_mem _ k_100)) (fun _ h9 => h9) rfl d_Net_link_26 ?_
            refine lv_iload_n hx hb d_Net_link_29 rfl (lv_at hl 4 rfl) ?_
            refine lv_dup2_11 hx hb d_Net_link_30 rfl rfl ?_
            obtain ⟨h_6, hf⟩ := hf
            refine va_iald hx hb hK hP 3 0 rfl rfl h_6 d_Net_link_31 ?_
            refine lv_iload hx hb d_Net_link_32 (lv_at hl 0 rfl) ?_
            refine lv_ior hx hb d_Net_link_34 ?_
            obtain ⟨h_7, hf⟩ := hf
            refine va_iast hx hb hK hP hD hS 3 0 rfl rfl h_7 d_Net_link_35 (fun H locs hP hD hS => ?_)
            have hP : va_P (dC, dI) clA [(h0, .inr (1, [.int pos, .ref a1, .ref a2, .ref a3, .ref a4, .ref a5])), (a2, .inl ((cA 0), 30, .inl fa)), (a3, .inl ((cA 0), 30, .inl la)), (a4, .inl ((cA 0), 30, .inl (upd sp x3.toNatClampNeg ((sp x3.toNatClampNeg) ||| p2)))), (a5, .inl ((cA 0), 900, .inl sa))] H := hP
            have hD : va_D A [(h0, .inr (1, [.int pos, .ref a1, .ref a2, .ref a3, .ref a4, .ref a5])), (a2, .inl ((cA 0), 30, .inl fa)), (a3, .inl ((cA 0), 30, .inl la)), (a4, .inl ((cA 0), 30, .inl (upd sp x3.toNatClampNeg ((sp x3.toNatClampNeg) ||| p2)))), (a5, .inl ((cA 0), 900, .inl sa))] := hD
            refine lv_iconst (v := 0) hx hb d_Net_link_36 (by decide) ?_
            refine lv_istore (lv' := [(5, .int 0), (4, .int p2), (0, .ref h0), (1, .int p1), (2, .int p2), (3, .int x3)]) hx hb d_Net_link_37 hl (by decide) rfl (fun ls hl => ?_)
            exact ih2 _ _ _ _ _ _ _ _ hf (hP.sub [0, 1, 2, 3, 4] rfl) (hD.sub [0, 1, 2, 3, 4] (by decide) rfl) hS (lv_sub hl [2, 3, 4, 5, 1, 0] rfl)
      · intro x3 x4 x5 sp sa H locs ls hf hP hD hS hl
        rw [g_Net_link_2] at hf
        refine lv_iload hx hb d_Net_link_39 (lv_at hl 5 rfl) ?_
        refine lv_aload_n hx hb d_Net_link_41 rfl (lv_at hl 0 rfl) ?_
        refine va_get (D := (dC, dI)) (ci := 1) (v := .int pos) (C := RX1) (T := TX1) (N := 6) hx hb hts (fun w h => List.mem_cons_of_mem _ (in_X1 w h)) hown hK hP 0 rfl rfl 0 (by decide) (hts _ (List.mem_cons_of_mem _ k_94)) (fun _ h9 => h9) rfl d_Net_link_42 ?_
        refine lv_icmp_ge (tgt := 93) hx hb d_Net_link_45 (by decide) (fun c_1 => ?_) (fun c_1 => ?_)
        · replace hf := hf.1 c_1
          refine lv_iinc (v := x3 + 1) (lv' := [(3, .int (x3 + 1)), (0, .ref h0), (1, .int p1), (2, .int p2), (4, .int x4), (5, .int x5)]) hx hb d_Net_link_93 hl (k := 3) rfl rfl (by decide) rfl (fun ls hl => ?_)
          refine lv_goto (tgt := 2) hx hb d_Net_link_96 (by decide) ?_
          exact ih1 _ _ _ _ _ _ _ _ hf (hP.sub [0, 1, 2, 3, 4] rfl) (hD.sub [0, 1, 2, 3, 4] (by decide) rfl) hS (lv_sub hl [1, 2, 3, 0] rfl)
        · replace hf := hf.2 c_1
          refine lv_iload hx hb d_Net_link_48 (lv_at hl 4 rfl) ?_
          refine lv_iload hx hb d_Net_link_50 (lv_at hl 5 rfl) ?_
          refine lv_ishr hx hb d_Net_link_52 ?_
          refine lv_iconst (v := 1) hx hb d_Net_link_53 (by decide) ?_
          refine lv_iand hx hb d_Net_link_54 ?_
          refine lv_if_eq (tgt := 87) hx hb d_Net_link_55 (by decide) (fun c_2 => ?_) (fun c_2 => ?_)
          · replace hf := hf.1 c_2
            refine lv_iinc (v := x5 + 1) (lv' := [(5, .int (x5 + 1)), (0, .ref h0), (1, .int p1), (2, .int p2), (3, .int x3), (4, .int x4)]) hx hb d_Net_link_87 hl (k := 5) rfl rfl (by decide) rfl (fun ls hl => ?_)
            refine lv_goto (tgt := 39) hx hb d_Net_link_90 (by decide) ?_
            exact ih2 _ _ _ _ _ _ _ _ hf (hP.sub [0, 1, 2, 3, 4] rfl) (hD.sub [0, 1, 2, 3, 4] (by decide) rfl) hS (lv_sub hl [1, 2, 3, 4, 5, 0] rfl)
          · replace hf := hf.2 c_2
            refine lv_aload_n hx hb d_Net_link_58 rfl (lv_at hl 0 rfl) ?_
            refine va_get (D := (dC, dI)) (ci := 1) (v := .ref a5) (C := RX1) (T := TX1) (N := 6) hx hb hts (fun w h => List.mem_cons_of_mem _ (in_X1 w h)) hown hK hP 0 rfl rfl 5 (by decide) (hts _ (List.mem_cons_of_mem _ k_102)) (fun _ h9 => h9) rfl d_Net_link_59 ?_
            refine lv_iload_n hx hb d_Net_link_62 rfl (lv_at hl 3 rfl) ?_
            refine lv_bipush (v := 30) hx hb d_Net_link_63 (by decide) ?_
            refine lv_imul hx hb d_Net_link_65 ?_
            refine lv_iload hx hb d_Net_link_66 (lv_at hl 5 rfl) ?_
            refine lv_iadd hx hb d_Net_link_68 ?_
            refine lv_dup2_11 hx hb d_Net_link_69 rfl rfl ?_
            obtain ⟨h_3, hf⟩ := hf
            refine va_iald hx hb hK hP 4 0 rfl rfl h_3 d_Net_link_70 ?_
            refine lv_aload_n hx hb d_Net_link_71 rfl (lv_at hl 0 rfl) ?_
            refine va_get (D := (dC, dI)) (ci := 1) (v := .ref a3) (C := RX1) (T := TX1) (N := 6) hx hb hts (fun w h => List.mem_cons_of_mem _ (in_X1 w h)) hown hK hP 0 rfl rfl 3 (by decide) (hts _ (List.mem_cons_of_mem _ k_99)) (fun _ h9 => h9) rfl d_Net_link_72 ?_
            refine lv_iload_n hx hb d_Net_link_75 rfl (lv_at hl 3 rfl) ?_
            obtain ⟨h_4, hf⟩ := hf
            refine va_iald hx hb hK hP 2 0 rfl rfl h_4 d_Net_link_76 ?_
            refine lv_aload_n hx hb d_Net_link_77 rfl (lv_at hl 0 rfl) ?_
            refine va_get (D := (dC, dI)) (ci := 1) (v := .ref a2) (C := RX1) (T := TX1) (N := 6) hx hb hts (fun w h => List.mem_cons_of_mem _ (in_X1 w h)) hown hK hP 0 rfl rfl 2 (by decide) (hts _ (List.mem_cons_of_mem _ k_98)) (fun _ h9 => h9) rfl d_Net_link_78 ?_
            refine lv_iload hx hb d_Net_link_81 (lv_at hl 5 rfl) ?_
            obtain ⟨h_5, hf⟩ := hf
            refine va_iald hx hb hK hP 1 0 rfl rfl h_5 d_Net_link_83 ?_
            refine lv_ior hx hb d_Net_link_84 ?_
            refine lv_ior hx hb d_Net_link_85 ?_
            obtain ⟨h_6, hf⟩ := hf
            refine va_iast hx hb hK hP hD hS 4 0 rfl rfl h_6 d_Net_link_86 (fun H locs hP hD hS => ?_)
            have hP : va_P (dC, dI) clA [(h0, .inr (1, [.int pos, .ref a1, .ref a2, .ref a3, .ref a4, .ref a5])), (a2, .inl ((cA 0), 30, .inl fa)), (a3, .inl ((cA 0), 30, .inl la)), (a4, .inl ((cA 0), 30, .inl sp)), (a5, .inl ((cA 0), 900, .inl (upd sa ((x3 * 30) + x5).toNatClampNeg ((sa ((x3 * 30) + x5).toNatClampNeg) ||| ((la x3.toNatClampNeg) ||| (fa x5.toNatClampNeg))))))] H := hP
            have hD : va_D A [(h0, .inr (1, [.int pos, .ref a1, .ref a2, .ref a3, .ref a4, .ref a5])), (a2, .inl ((cA 0), 30, .inl fa)), (a3, .inl ((cA 0), 30, .inl la)), (a4, .inl ((cA 0), 30, .inl sp)), (a5, .inl ((cA 0), 900, .inl (upd sa ((x3 * 30) + x5).toNatClampNeg ((sa ((x3 * 30) + x5).toNatClampNeg) ||| ((la x3.toNatClampNeg) ||| (fa x5.toNatClampNeg))))))] := hD
            refine lv_iinc (v := x5 + 1) (lv' := [(5, .int (x5 + 1)), (0, .ref h0), (1, .int p1), (2, .int p2), (3, .int x3), (4, .int x4)]) hx hb d_Net_link_87 hl (k := 5) rfl rfl (by decide) rfl (fun ls hl => ?_)
            refine lv_goto (tgt := 39) hx hb d_Net_link_90 (by decide) ?_
            exact ih2 _ _ _ _ _ _ _ _ hf (hP.sub [0, 1, 2, 3, 4] rfl) (hD.sub [0, 1, 2, 3, 4] (by decide) rfl) hS (lv_sub hl [1, 2, 3, 4, 5, 0] rfl)
  have hf := hR
  unfold R_Net_link at hf
  refine lv_iconst (v := 0) hx hb d_Net_link_0 (by decide) ?_
  refine lv_istore_n (lv' := [(3, .int 0), (0, .ref h0), (1, .int p1), (2, .int p2)]) hx hb d_Net_link_1 rfl hl (by decide) rfl (fun ls hl => ?_)
  obtain ⟨n, hf⟩ := hf
  exact (hC n).1 _ _ _ _ _ _ _ _ hf (hP.sub [0, 1, 2, 3, 4] rfl) (hD.sub [0, 1, 2, 3, 4] (by decide) rfl) hS (lv_sub hl [1, 2, 3, 0] rfl)
def g_Net_together (p2 : Int32) (p3 : Int32) (pos : Int32) (f : Nat → Int32) (N1 : Nat) : Nat → Nat → Int32 → Int32 → (Int32 × Unit) → Prop
  | 0, _, _, _, _ => False
  | n + 1, k, x4, x5, out => match k with
    | 1 => ((pos ≤ x5) → (out = (x4, ()))) ∧ (¬ (pos ≤ x5) → (((((p3 >>> (x5 &&& 31)) &&& 1) = 0) → (g_Net_together p2 p3 pos f N1 n 1 x4 (x5 + 1) out)) ∧ (¬ (((p3 >>> (x5 &&& 31)) &&& 1) = 0) → (vp_in (p2 + x5) N1 ∧ (g_Net_together p2 p3 pos f N1 n 1 (x4 ||| (f (p2 + x5).toNatClampNeg)) (x5 + 1) out)))))
    | _ => False
theorem g_Net_together_1 (p2 : Int32) (p3 : Int32) (pos : Int32) (f : Nat → Int32) (N1 : Nat) (n : Nat) (x4 : Int32) (x5 : Int32) (out : Int32 × Unit) : g_Net_together p2 p3 pos f N1 (n + 1) 1 x4 x5 out = (((pos ≤ x5) → (out = (x4, ()))) ∧ (¬ (pos ≤ x5) → (((((p3 >>> (x5 &&& 31)) &&& 1) = 0) → (g_Net_together p2 p3 pos f N1 n 1 x4 (x5 + 1) out)) ∧ (¬ (((p3 >>> (x5 &&& 31)) &&& 1) = 0) → (vp_in (p2 + x5) N1 ∧ (g_Net_together p2 p3 pos f N1 n 1 (x4 ||| (f (p2 + x5).toNatClampNeg)) (x5 + 1) out)))))) := rfl
def R_Net_together (p2 : Int32) (p3 : Int32) (pos : Int32) (f : Nat → Int32) (N1 : Nat)  (out : Int32 × Unit) : Prop := (∃ n, g_Net_together p2 p3 pos f N1 n 1 0 0 out)
set_option maxHeartbeats 4000000 in
set_option maxRecDepth 100000 in
theorem c_Net_together (l : Launch) (dC : Nat → ClassId) (dI : Nat → Nat → Nat) (cA : Nat → ClassId) (h0 b1 a1 a2 a3 a4 a5 : Nat) (sz : Nat) (p2 : Int32) (p3 : Int32) (pos : Int32) (f : Nat → Int32) (N1 : Nat)  (out : Int32 × Unit) (hR : R_Net_together p2 p3 pos f N1  out) : Met l y_Net_together ws_Net_together ({ frames := 0, cells := 0, slots := 0, locals := 0 }) (va_Pc [.ref h0, .ref b1, .int p2, .int p3] (fun U => U.heap.size = sz ∧ va_P (dC, dI) clA [(h0, .inr (1, [.int pos, .ref a1, .ref a2, .ref a3, .ref a4, .ref a5])), (b1, .inl ((cA 0), N1, .inl f))] U.heap ∧ va_K (dC, dI) clA (tysA cA) U ∧ nW U ∧ va_D (fun _ => True) [(h0, .inr (1, [.int pos, .ref a1, .ref a2, .ref a3, .ref a4, .ref a5])), (b1, .inl ((cA 0), N1, .inl f))])) (va_Qi (fun (r : Int32) (u : Unit) => out = (r, u)) (fun (u : Unit) (t : State) => va_P (dC, dI) clA [(h0, .inr (1, [.int pos, .ref a1, .ref a2, .ref a3, .ref a4, .ref a5])), (b1, .inl ((cA 0), N1, .inl f))] t.heap ∧ va_K (dC, dI) clA (tysA cA) t ∧ va_D (va_A [(h0, .inr (1, [.int pos, .ref a1, .ref a2, .ref a3, .ref a4, .ref a5])), (b1, .inl ((cA 0), N1, .inl f))] sz) [(h0, .inr (1, [.int pos, .ref a1, .ref a2, .ref a3, .ref a4, .ref a5])), (b1, .inl ((cA 0), N1, .inl f))]) (va_A [(h0, .inr (1, [.int pos, .ref a1, .ref a2, .ref a3, .ref a4, .ref a5])), (b1, .inl ((cA 0), N1, .inl f))] sz)) 0 0 (va_A [(h0, .inr (1, [.int pos, .ref a1, .ref a2, .ref a3, .ref a4, .ref a5])), (b1, .inl ((cA 0), N1, .inl f))] sz) := by
  refine Met.ofW (cc := b_Net_together) (maxL := 6) (ret := (some .int)) (by decide) rfl ?_
  intro p e s m args below meth c s₁ B hml hv
  obtain ⟨rfl, hsz, hP, hK, hN, hD0⟩ := hv
  have hx := B.exec
  have hb := B.bytes
  have hr := B.returns
  have hts := atoms_spec (ws := ws_Net_together) B.pre
  have hown : s.vm.findClass RX1 = some m.cls := findClass_of_methodNamed B.named
  have hlocks := B.notSynchronized
  subst hsz
  have hD := hD0.self (sz := s.heap.size)
  generalize hAe : va_A [(h0, .inr (1, [.int pos, .ref a1, .ref a2, .ref a3, .ref a4, .ref a5])), (b1, .inl ((cA 0), N1, .inl f))] s.heap.size = A at hD ⊢
  have hA : ∀ q : Nat, s.heap.size ≤ q → A q := fun q h => by rw [← hAe]; exact Or.inr h
  have hS : va_S A s.heap s.heap [] := va_S.rf
  have hP : va_P (dC, dI) clA [(h0, .inr (1, [.int pos, .ref a1, .ref a2, .ref a3, .ref a4, .ref a5])), (b1, .inl ((cA 0), N1, .inl f))] s.heap := hP
  have hl := lv_entry ([.ref h0, .ref b1, .int p2, .int p3]) (n := 6) (Nat.le_of_ble_eq_true rfl)
  rw [lg_entry_eq]
  generalize (lg_sl ([.ref h0, .ref b1, .int p2, .int p3]) ++ List.replicate (6 - (lg_sl ([.ref h0, .ref b1, .int p2, .int p3])).length) Slot.unset).toArray = ls at hl ⊢
  have hl : lv_has ls 6 [(0, .ref h0), (1, .ref b1), (2, .int p2), (3, .int p3)] := hl
  refine W_gen (fun Qz hQz => ?_)
  have hC : ∀ n : Nat, (∀ (x4 : Int32) (x5 : Int32) (H : Heap) (locs : List Loc) (ls : Array Slot), g_Net_together p2 p3 pos f N1 n 1 x4 x5 out → va_P (dC, dI) clA [(h0, .inr (1, [.int pos, .ref a1, .ref a2, .ref a3, .ref a4, .ref a5])), (b1, .inl ((cA 0), N1, .inl f))] H → va_D A [(h0, .inr (1, [.int pos, .ref a1, .ref a2, .ref a3, .ref a4, .ref a5])), (b1, .inl ((cA 0), N1, .inl f))] → va_S A s.heap H locs → lv_has ls 6 [(0, .ref h0), (1, .ref b1), (2, .int p2), (3, .int p3), (4, .int x4), (5, .int x5)] → W p l e ({ frames := 0, cells := 0, slots := 0, locals := 0 }) s m ([.ref h0, .ref b1, .int p2, .int p3]).toArray below meth c H locs 0 0 Qz (F0 m 6 ls [])) := by
    intro n
    induction n with
    | zero => exact fun _ _ _ _ _ hf => hf.elim
    | succ n ih =>
      have ih1 := ih
      · intro x4 x5 H locs ls hf hP hD hS hl
        rw [g_Net_together_1] at hf
        refine lv_iload hx hb d_Net_together_6 (lv_at hl 5 rfl) ?_
        refine lv_aload_n hx hb d_Net_together_8 rfl (lv_at hl 0 rfl) ?_
        refine va_get (D := (dC, dI)) (ci := 1) (v := .int pos) (C := RX1) (T := TX1) (N := 6) hx hb hts (fun w h => List.mem_cons_of_mem _ (in_X1 w h)) hown hK hP 0 rfl rfl 0 (by decide) (hts _ (List.mem_cons_of_mem _ k_94)) (fun _ h9 => h9) rfl d_Net_together_9 ?_
        refine lv_icmp_ge (tgt := 41) hx hb d_Net_together_12 (by decide) (fun c_1 => ?_) (fun c_1 => ?_)
        · replace hf := hf.1 c_1
          refine lv_iload hx hb d_Net_together_41 (lv_at hl 4 rfl) ?_
          have hP9 := hP.sub (ws' := [(h0, .inr (1, [.int pos, .ref a1, .ref a2, .ref a3, .ref a4, .ref a5])), (b1, .inl ((cA 0), N1, .inl f))]) [0, 1] rfl
          have hD9 := hD.sub (ws' := [(h0, .inr (1, [.int pos, .ref a1, .ref a2, .ref a3, .ref a4, .ref a5])), (b1, .inl ((cA 0), N1, .inl f))]) [0, 1] (by decide) rfl
          refine W_end hQz ?_
          exact W.iret (v := x4) hx hb hr (fun t ht hW => ⟨⟨x4, (), rfl, hf, P_cg ht.symm hP9, va_K.moved hW.alike hK, hD9⟩, hS.F ht⟩) hS.2.2 d_Net_together_43 hlocks
        · replace hf := hf.2 c_1
          refine lv_iload_n hx hb d_Net_together_15 rfl (lv_at hl 3 rfl) ?_
          refine lv_iload hx hb d_Net_together_16 (lv_at hl 5 rfl) ?_
          refine lv_ishr hx hb d_Net_together_18 ?_
          refine lv_iconst (v := 1) hx hb d_Net_together_19 (by decide) ?_
          refine lv_iand hx hb d_Net_together_20 ?_
          refine lv_if_eq (tgt := 35) hx hb d_Net_together_21 (by decide) (fun c_3 => ?_) (fun c_3 => ?_)
          · replace hf := hf.1 c_3
            refine lv_iinc (v := x5 + 1) (lv' := [(5, .int (x5 + 1)), (0, .ref h0), (1, .ref b1), (2, .int p2), (3, .int p3), (4, .int x4)]) hx hb d_Net_together_35 hl (k := 5) rfl rfl (by decide) rfl (fun ls hl => ?_)
            refine lv_goto (tgt := 6) hx hb d_Net_together_38 (by decide) ?_
            exact ih1 _ _ _ _ _ hf (hP.sub [0, 1] rfl) (hD.sub [0, 1] (by decide) rfl) hS (lv_sub hl [1, 2, 3, 4, 5, 0] rfl)
          · replace hf := hf.2 c_3
            refine lv_iload hx hb d_Net_together_24 (lv_at hl 4 rfl) ?_
            refine lv_aload_n hx hb d_Net_together_26 rfl (lv_at hl 1 rfl) ?_
            refine lv_iload_n hx hb d_Net_together_27 rfl (lv_at hl 2 rfl) ?_
            refine lv_iload hx hb d_Net_together_28 (lv_at hl 5 rfl) ?_
            refine lv_iadd hx hb d_Net_together_30 ?_
            obtain ⟨h_4, hf⟩ := hf
            refine va_iald hx hb hK hP 1 0 rfl rfl h_4 d_Net_together_31 ?_
            refine lv_ior hx hb d_Net_together_32 ?_
            refine lv_istore (lv' := [(4, .int (x4 ||| (f (p2 + x5).toNatClampNeg))), (0, .ref h0), (1, .ref b1), (2, .int p2), (3, .int p3), (5, .int x5)]) hx hb d_Net_together_33 hl (by decide) rfl (fun ls hl => ?_)
            refine lv_iinc (v := x5 + 1) (lv' := [(5, .int (x5 + 1)), (4, .int (x4 ||| (f (p2 + x5).toNatClampNeg))), (0, .ref h0), (1, .ref b1), (2, .int p2), (3, .int p3)]) hx hb d_Net_together_35 hl (k := 5) rfl rfl (by decide) rfl (fun ls hl => ?_)
            refine lv_goto (tgt := 6) hx hb d_Net_together_38 (by decide) ?_
            exact ih1 _ _ _ _ _ hf (hP.sub [0, 1] rfl) (hD.sub [0, 1] (by decide) rfl) hS (lv_sub hl [2, 3, 4, 5, 1, 0] rfl)
  have hf := hR
  unfold R_Net_together at hf
  refine lv_iconst (v := 0) hx hb d_Net_together_0 (by decide) ?_
  refine lv_istore (lv' := [(4, .int 0), (0, .ref h0), (1, .ref b1), (2, .int p2), (3, .int p3)]) hx hb d_Net_together_1 hl (by decide) rfl (fun ls hl => ?_)
  refine lv_iconst (v := 0) hx hb d_Net_together_3 (by decide) ?_
  refine lv_istore (lv' := [(5, .int 0), (4, .int 0), (0, .ref h0), (1, .ref b1), (2, .int p2), (3, .int p3)]) hx hb d_Net_together_4 hl (by decide) rfl (fun ls hl => ?_)
  obtain ⟨n, hf⟩ := hf
  exact (hC n) _ _ _ _ _ hf (hP.sub [0, 1] rfl) (hD.sub [0, 1] (by decide) rfl) hS (lv_sub hl [2, 3, 4, 5, 1, 0] rfl)
def g_Net_give (p2 : Int32) (p3 : Int32) (pos : Int32) : Nat → Nat → Int32 → (Nat → Int32) → ((Nat → Int32)) → Prop
  | 0, _, _, _, _ => False
  | n + 1, k, x4, f, out => match k with
    | 1 => ((pos ≤ x4) → (out = (f))) ∧ (¬ (pos ≤ x4) → (((((p2 >>> (x4 &&& 31)) &&& 1) = 0) → (g_Net_give p2 p3 pos n 1 (x4 + 1) f out)) ∧ (¬ (((p2 >>> (x4 &&& 31)) &&& 1) = 0) → (vp_in x4 30 ∧ (vp_in x4 30 ∧ (g_Net_give p2 p3 pos n 1 (x4 + 1) (upd f x4.toNatClampNeg ((f x4.toNatClampNeg) ||| p3)) out))))))
    | _ => False
theorem g_Net_give_1 (p2 : Int32) (p3 : Int32) (pos : Int32) (n : Nat) (x4 : Int32) (f : Nat → Int32) (out : (Nat → Int32)) : g_Net_give p2 p3 pos (n + 1) 1 x4 f out = (((pos ≤ x4) → (out = (f))) ∧ (¬ (pos ≤ x4) → (((((p2 >>> (x4 &&& 31)) &&& 1) = 0) → (g_Net_give p2 p3 pos n 1 (x4 + 1) f out)) ∧ (¬ (((p2 >>> (x4 &&& 31)) &&& 1) = 0) → (vp_in x4 30 ∧ (vp_in x4 30 ∧ (g_Net_give p2 p3 pos n 1 (x4 + 1) (upd f x4.toNatClampNeg ((f x4.toNatClampNeg) ||| p3)) out))))))) := rfl
def R_Net_give (p2 : Int32) (p3 : Int32) (pos : Int32) (f : Nat → Int32) (out : (Nat → Int32)) : Prop := (∃ n, g_Net_give p2 p3 pos n 1 0 f out)
set_option maxHeartbeats 4000000 in
set_option maxRecDepth 100000 in
theorem c_Net_give (l : Launch) (dC : Nat → ClassId) (dI : Nat → Nat → Nat) (cA : Nat → ClassId) (h0 b1 a1 a2 a3 a4 a5 : Nat) (sz : Nat) (p2 : Int32) (p3 : Int32) (pos : Int32) (f : Nat → Int32) (out : (Nat → Int32)) (hR : R_Net_give p2 p3 pos f out) : Met l y_Net_give ws_Net_give ({ frames := 0, cells := 0, slots := 0, locals := 0 }) (va_Pc [.ref h0, .ref b1, .int p2, .int p3] (fun U => U.heap.size = sz ∧ va_P (dC, dI) clA [(h0, .inr (1, [.int pos, .ref a1, .ref a2, .ref a3, .ref a4, .ref a5])), (b1, .inl ((cA 0), 30, .inl f))] U.heap ∧ va_K (dC, dI) clA (tysA cA) U ∧ nW U ∧ va_D (fun _ => True) [(h0, .inr (1, [.int pos, .ref a1, .ref a2, .ref a3, .ref a4, .ref a5])), (b1, .inl ((cA 0), 30, .inl f))])) (va_Qv (fun u : (Nat → Int32) => out = u) (fun (u : (Nat → Int32)) (t : State) => va_P (dC, dI) clA [(h0, .inr (1, [.int pos, .ref a1, .ref a2, .ref a3, .ref a4, .ref a5])), (b1, .inl ((cA 0), 30, .inl u))] t.heap ∧ va_K (dC, dI) clA (tysA cA) t ∧ va_D (va_A [(h0, .inr (1, [.int pos, .ref a1, .ref a2, .ref a3, .ref a4, .ref a5])), (b1, .inl ((cA 0), 30, .inl f))] sz) [(h0, .inr (1, [.int pos, .ref a1, .ref a2, .ref a3, .ref a4, .ref a5])), (b1, .inl ((cA 0), 30, .inl u))]) (va_A [(h0, .inr (1, [.int pos, .ref a1, .ref a2, .ref a3, .ref a4, .ref a5])), (b1, .inl ((cA 0), 30, .inl f))] sz)) 0 0 (va_A [(h0, .inr (1, [.int pos, .ref a1, .ref a2, .ref a3, .ref a4, .ref a5])), (b1, .inl ((cA 0), 30, .inl f))] sz) := by
  refine Met.ofW (cc := b_Net_give) (maxL := 5) (ret := none) (by decide) rfl ?_
  intro p e s m args below meth c s₁ B hml hv
  obtain ⟨rfl, hsz, hP, hK, hN, hD0⟩ := hv
  have hx := B.exec
  have hb := B.bytes
  have hr := B.returns
  have hts := atoms_spec (ws := ws_Net_give) B.pre
  have hown : s.vm.findClass RX1 = some m.cls := findClass_of_methodNamed B.named
  have hlocks := B.notSynchronized
  subst hsz
  have hD := hD0.self (sz := s.heap.size)
  generalize hAe : va_A [(h0, .inr (1, [.int pos, .ref a1, .ref a2, .ref a3, .ref a4, .ref a5])), (b1, .inl ((cA 0), 30, .inl f))] s.heap.size = A at hD ⊢
  have hA : ∀ q : Nat, s.heap.size ≤ q → A q := fun q h => by rw [← hAe]; exact Or.inr h
  have hS : va_S A s.heap s.heap [] := va_S.rf
  have hP : va_P (dC, dI) clA [(h0, .inr (1, [.int pos, .ref a1, .ref a2, .ref a3, .ref a4, .ref a5])), (b1, .inl ((cA 0), 30, .inl f))] s.heap := hP
  have hl := lv_entry ([.ref h0, .ref b1, .int p2, .int p3]) (n := 5) (Nat.le_of_ble_eq_true rfl)
  rw [lg_entry_eq]
  generalize (lg_sl ([.ref h0, .ref b1, .int p2, .int p3]) ++ List.replicate (5 - (lg_sl ([.ref h0, .ref b1, .int p2, .int p3])).length) Slot.unset).toArray = ls at hl ⊢
  have hl : lv_has ls 5 [(0, .ref h0), (1, .ref b1), (2, .int p2), (3, .int p3)] := hl
  refine W_gen (fun Qz hQz => ?_)
  have hC : ∀ n : Nat, (∀ (x4 : Int32) (f : Nat → Int32) (H : Heap) (locs : List Loc) (ls : Array Slot), g_Net_give p2 p3 pos n 1 x4 f out → va_P (dC, dI) clA [(h0, .inr (1, [.int pos, .ref a1, .ref a2, .ref a3, .ref a4, .ref a5])), (b1, .inl ((cA 0), 30, .inl f))] H → va_D A [(h0, .inr (1, [.int pos, .ref a1, .ref a2, .ref a3, .ref a4, .ref a5])), (b1, .inl ((cA 0), 30, .inl f))] → va_S A s.heap H locs → lv_has ls 5 [(0, .ref h0), (1, .ref b1), (2, .int p2), (3, .int p3), (4, .int x4)] → W p l e ({ frames := 0, cells := 0, slots := 0, locals := 0 }) s m ([.ref h0, .ref b1, .int p2, .int p3]).toArray below meth c H locs 0 0 Qz (F0 m 3 ls [])) := by
    intro n
    induction n with
    | zero => exact fun _ _ _ _ _ hf => hf.elim
    | succ n ih =>
      have ih1 := ih
      · intro x4 f H locs ls hf hP hD hS hl
        rw [g_Net_give_1] at hf
        refine lv_iload hx hb d_Net_give_3 (lv_at hl 4 rfl) ?_
        refine lv_aload_n hx hb d_Net_give_5 rfl (lv_at hl 0 rfl) ?_
        refine va_get (D := (dC, dI)) (ci := 1) (v := .int pos) (C := RX1) (T := TX1) (N := 6) hx hb hts (fun w h => List.mem_cons_of_mem _ (in_X1 w h)) hown hK hP 0 rfl rfl 0 (by decide) (hts _ (List.mem_cons_of_mem _ k_94)) (fun _ h9 => h9) rfl d_Net_give_6 ?_
        refine lv_icmp_ge (tgt := 35) hx hb d_Net_give_9 (by decide) (fun c_1 => ?_) (fun c_1 => ?_)
        · replace hf := hf.1 c_1
          have hP9 := hP.sub (ws' := [(h0, .inr (1, [.int pos, .ref a1, .ref a2, .ref a3, .ref a4, .ref a5])), (b1, .inl ((cA 0), 30, .inl f))]) [0, 1] rfl
          have hD9 := hD.sub (ws' := [(h0, .inr (1, [.int pos, .ref a1, .ref a2, .ref a3, .ref a4, .ref a5])), (b1, .inl ((cA 0), 30, .inl f))]) [0, 1] (by decide) rfl
          refine W_end hQz ?_
          exact W.vret hx hb hr (fun t ht hW => ⟨⟨(f), rfl, hf, P_cg ht.symm hP9, va_K.moved hW.alike hK, hD9⟩, hS.F ht⟩) hS.2.2 d_Net_give_35 hlocks
        · replace hf := hf.2 c_1
          refine lv_iload_n hx hb d_Net_give_12 rfl (lv_at hl 2 rfl) ?_
          refine lv_iload hx hb d_Net_give_13 (lv_at hl 4 rfl) ?_
          refine lv_ishr hx hb d_Net_give_15 ?_
          refine lv_iconst (v := 1) hx hb d_Net_give_16 (by decide) ?_
          refine lv_iand hx hb d_Net_give_17 ?_
          refine lv_if_eq (tgt := 29) hx hb d_Net_give_18 (by decide) (fun c_3 => ?_) (fun c_3 => ?_)
          · replace hf := hf.1 c_3
            refine lv_iinc (v := x4 + 1) (lv' := [(4, .int (x4 + 1)), (0, .ref h0), (1, .ref b1), (2, .int p2), (3, .int p3)]) hx hb d_Net_give_29 hl (k := 4) rfl rfl (by decide) rfl (fun ls hl => ?_)
            refine lv_goto (tgt := 3) hx hb d_Net_give_32 (by decide) ?_
            exact ih1 _ _ _ _ _ hf (hP.sub [0, 1] rfl) (hD.sub [0, 1] (by decide) rfl) hS (lv_sub hl [1, 2, 3, 4, 0] rfl)
          · replace hf := hf.2 c_3
            refine lv_aload_n hx hb d_Net_give_21 rfl (lv_at hl 1 rfl) ?_
            refine lv_iload hx hb d_Net_give_22 (lv_at hl 4 rfl) ?_
            refine lv_dup2_11 hx hb d_Net_give_24 rfl rfl ?_
            obtain ⟨h_4, hf⟩ := hf
            refine va_iald hx hb hK hP 1 0 rfl rfl h_4 d_Net_give_25 ?_
            refine lv_iload_n hx hb d_Net_give_26 rfl (lv_at hl 3 rfl) ?_
            refine lv_ior hx hb d_Net_give_27 ?_
            obtain ⟨h_5, hf⟩ := hf
            refine va_iast hx hb hK hP hD hS 1 0 rfl rfl h_5 d_Net_give_28 (fun H locs hP hD hS => ?_)
            have hP : va_P (dC, dI) clA [(h0, .inr (1, [.int pos, .ref a1, .ref a2, .ref a3, .ref a4, .ref a5])), (b1, .inl ((cA 0), 30, .inl (upd f x4.toNatClampNeg ((f x4.toNatClampNeg) ||| p3))))] H := hP
            have hD : va_D A [(h0, .inr (1, [.int pos, .ref a1, .ref a2, .ref a3, .ref a4, .ref a5])), (b1, .inl ((cA 0), 30, .inl (upd f x4.toNatClampNeg ((f x4.toNatClampNeg) ||| p3))))] := hD
            refine lv_iinc (v := x4 + 1) (lv' := [(4, .int (x4 + 1)), (0, .ref h0), (1, .ref b1), (2, .int p2), (3, .int p3)]) hx hb d_Net_give_29 hl (k := 4) rfl rfl (by decide) rfl (fun ls hl => ?_)
            refine lv_goto (tgt := 3) hx hb d_Net_give_32 (by decide) ?_
            exact ih1 _ _ _ _ _ hf (hP.sub [0, 1] rfl) (hD.sub [0, 1] (by decide) rfl) hS (lv_sub hl [1, 2, 3, 4, 0] rfl)
  have hf := hR
  unfold R_Net_give at hf
  refine lv_iconst (v := 0) hx hb d_Net_give_0 (by decide) ?_
  refine lv_istore (lv' := [(4, .int 0), (0, .ref h0), (1, .ref b1), (2, .int p2), (3, .int p3)]) hx hb d_Net_give_1 hl (by decide) rfl (fun ls hl => ?_)
  obtain ⟨n, hf⟩ := hf
  exact (hC n) _ _ _ _ _ hf (hP.sub [0, 1] rfl) (hD.sub [0, 1] (by decide) rfl) hS (lv_sub hl [1, 2, 3, 4, 0] rfl)
def g_Net_giveSteps (p1 : Int32) (p2 : Int32) (p3 : Int32) (pos : Int32) (sp : Nat → Int32) : Nat → Nat → Int32 → Int32 → Int32 → (Nat → Int32) → ((Nat → Int32)) → Prop
  | 0, _, _, _, _, _, _ => False
  | n + 1, k, x4, x5, x6, sa, out => match k with
    | 1 => ((pos ≤ x4) → (out = (sa))) ∧ (¬ (pos ≤ x4) → (vp_in x4 30 ∧ (g_Net_giveSteps p1 p2 p3 pos sp n 2 x4 ((sp x4.toNatClampNeg) &&& p2) p1 sa out)))
    | 2 => ((pos ≤ x6) → (g_Net_giveSteps p1 p2 p3 pos sp n 1 (x4 + 1) 0 0 sa out)) ∧ (¬ (pos ≤ x6) → (((((x5 >>> (x6 &&& 31)) &&& 1) = 0) → (g_Net_giveSteps p1 p2 p3 pos sp n 2 x4 x5 (x6 + 1) sa out)) ∧ (¬ (((x5 >>> (x6 &&& 31)) &&& 1) = 0) → (vp_in ((x4 * 30) + x6) 900 ∧ (vp_in ((x4 * 30) + x6) 900 ∧ (g_Net_giveSteps p1 p2 p3 pos sp n 2 x4 x5 (x6 + 1) (upd sa ((x4 * 30) + x6).toNatClampNeg ((sa ((x4 * 30) + x6).toNatClampNeg) ||| p3)) out))))))
    | _ => False
theorem g_Net_giveSteps_1 (p1 : Int32) (p2 : Int32) (p3 : Int32) (pos : Int32) (sp : Nat → Int32) (n : Nat) (x4 : Int32) (x5 : Int32) (x6 : Int32) (sa : Nat → Int32) (out : (Nat → Int32)) : g_Net_giveSteps p1 p2 p3 pos sp (n + 1) 1 x4 x5 x6 sa out = (((pos ≤ x4) → (out = (sa))) ∧ (¬ (pos ≤ x4) → (vp_in x4 30 ∧ (g_Net_giveSteps p1 p2 p3 pos sp n 2 x4 ((sp x4.toNatClampNeg) &&& p2) p1 sa out)))) := rfl
theorem g_Net_giveSteps_2 (p1 : Int32) (p2 : Int32) (p3 : Int32) (pos : Int32) (sp : Nat → Int32) (n : Nat) (x4 : Int32) (x5 : Int32) (x6 : Int32) (sa : Nat → Int32) (out : (Nat → Int32)) : g_Net_giveSteps p1 p2 p3 pos sp (n + 1) 2 x4 x5 x6 sa out = (((pos ≤ x6) → (g_Net_giveSteps p1 p2 p3 pos sp n 1 (x4 + 1) 0 0 sa out)) ∧ (¬ (pos ≤ x6) → (((((x5 >>> (x6 &&& 31)) &&& 1) = 0) → (g_Net_giveSteps p1 p2 p3 pos sp n 2 x4 x5 (x6 + 1) sa out)) ∧ (¬ (((x5 >>> (x6 &&& 31)) &&& 1) = 0) → (vp_in ((x4 * 30) + x6) 900 ∧ (vp_in ((x4 * 30) + x6) 900 ∧ (g_Net_giveSteps p1 p2 p3 pos sp n 2 x4 x5 (x6 + 1) (upd sa ((x4 * 30) + x6).toNatClampNeg ((sa ((x4 * 30) + x6).toNatClampNeg) ||| p3)) out))))))) := rfl
def R_Net_giveSteps (p1 : Int32) (p2 : Int32) (p3 : Int32) (pos : Int32) (sp : Nat → Int32) (sa : Nat → Int32) (out : (Nat → Int32)) : Prop := (∃ n, g_Net_giveSteps p1 p2 p3 pos sp n 1 p1 0 0 sa out)
set_option maxHeartbeats 4000000 in
set_option maxRecDepth 100000 in
theorem c_Net_giveSteps (l : Launch) (dC : Nat → ClassId) (dI : Nat → Nat → Nat) (cA : Nat → ClassId) (h0 a4 a5 a1 a2 a3 : Nat) (sz : Nat) (p1 : Int32) (p2 : Int32) (p3 : Int32) (pos : Int32) (sp : Nat → Int32) (sa : Nat → Int32) (out : (Nat → Int32)) (hR : R_Net_giveSteps p1 p2 p3 pos sp sa out) : Met l y_Net_giveSteps ws_Net_giveSteps ({ frames := 0, cells := 0, slots := 0, locals := 0 }) (va_Pc [.ref h0, .int p1, .int p2, .int p3] (fun U => U.heap.size = sz ∧ va_P (dC, dI) clA [(h0, .inr (1, [.int pos, .ref a1, .ref a2, .ref a3, .ref a4, .ref a5])), (a4, .inl ((cA 0), 30, .inl sp)), (a5, .inl ((cA 0), 900, .inl sa))] U.heap ∧ va_K (dC, dI) clA (tysA cA) U ∧ nW U ∧ va_D (fun _ => True) [(h0, .inr (1, [.int pos, .ref a1, .ref a2, .ref a3, .ref a4, .ref a5])), (a4, .inl ((cA 0), 30, .inl sp)), (a5, .inl ((cA 0), 900, .inl sa))])) (va_Qv (fun u : (Nat → Int32) => out = u) (fun (u : (Nat → Int32)) (t : State) => va_P (dC, dI) clA [(h0, .inr (1, [.int pos, .ref a1, .ref a2, .ref a3, .ref a4, .ref a5])), (a4, .inl ((cA 0), 30, .inl sp)), (a5, .inl ((cA 0), 900, .inl u))] t.heap ∧ va_K (dC, dI) clA (tysA cA) t ∧ va_D (va_A [(h0, .inr (1, [.int pos, .ref a1, .ref a2, .ref a3, .ref a4, .ref a5])), (a4, .inl ((cA 0), 30, .inl sp)), (a5, .inl ((cA 0), 900, .inl sa))] sz) [(h0, .inr (1, [.int pos, .ref a1, .ref a2, .ref a3, .ref a4, .ref a5])), (a4, .inl ((cA 0), 30, .inl sp)), (a5, .inl ((cA 0), 900, .inl u))]) (va_A [(h0, .inr (1, [.int pos, .ref a1, .ref a2, .ref a3, .ref a4, .ref a5])), (a4, .inl ((cA 0), 30, .inl sp)), (a5, .inl ((cA 0), 900, .inl sa))] sz)) 0 0 (va_A [(h0, .inr (1, [.int pos, .ref a1, .ref a2, .ref a3, .ref a4, .ref a5])), (a4, .inl ((cA 0), 30, .inl sp)), (a5, .inl ((cA 0), 900, .inl sa))] sz) := by
  refine Met.ofW (cc := b_Net_giveSteps) (maxL := 7) (ret := none) (by decide) rfl ?_
  intro p e s m args below meth c s₁ B hml hv
  obtain ⟨rfl, hsz, hP, hK, hN, hD0⟩ := hv
  have hx := B.exec
  have hb := B.bytes
  have hr := B.returns
  have hts := atoms_spec (ws := ws_Net_giveSteps) B.pre
  have hown : s.vm.findClass RX1 = some m.cls := findClass_of_methodNamed B.named
  have hlocks := B.notSynchronized
  subst hsz
  have hD := hD0.self (sz := s.heap.size)
  generalize hAe : va_A [(h0, .inr (1, [.int pos, .ref a1, .ref a2, .ref a3, .ref a4, .ref a5])), (a4, .inl ((cA 0), 30, .inl sp)), (a5, .inl ((cA 0), 900, .inl sa))] s.heap.size = A at hD ⊢
  have hA : ∀ q : Nat, s.heap.size ≤ q → A q := fun q h => by rw [← hAe]; exact Or.inr h
  have hS : va_S A s.heap s.heap [] := va_S.rf
  have hP : va_P (dC, dI) clA [(h0, .inr (1, [.int pos, .ref a1, .ref a2, .ref a3, .ref a4, .ref a5])), (a4, .inl ((cA 0), 30, .inl sp)), (a5, .inl ((cA 0), 900, .inl sa))] s.heap := hP
  have hl := lv_entry ([.ref h0, .int p1, .int p2, .int p3]) (n := 7) (Nat.le_of_ble_eq_true rfl)
  rw [lg_entry_eq]
  generalize (lg_sl ([.ref h0, .int p1, .int p2, .int p3]) ++ List.replicate (7 - (lg_sl ([.ref h0, .int p1, .int p2, .int p3])).length) Slot.unset).toArray = ls at hl ⊢
  have hl : lv_has ls 7 [(0, .ref h0), (1, .int p1), (2, .int p2), (3, .int p3)] := hl
  refine W_gen (fun Qz hQz => ?_)
  have hC : ∀ n : Nat, (∀ (x4 : Int32) (x5 : Int32) (x6 : Int32) (sa : Nat → Int32) (H : Heap) (locs : List Loc) (ls : Array Slot), g_Net_giveSteps p1 p2 p3 pos sp n 1 x4 x5 x6 sa out → va_P (dC, dI) clA [(h0, .inr (1, [.int pos, .ref a1, .ref a2, .ref a3, .ref a4, .ref a5])), (a4, .inl ((cA 0), 30, .inl sp)), (a5, .inl ((cA 0), 900, .inl sa))] H → va_D A [(h0, .inr (1, [.int pos, .ref a1, .ref a2, .ref a3, .ref a4, .ref a5])), (a4, .inl ((cA 0), 30, .inl sp)), (a5, .inl ((cA 0), 900, .inl sa))] → va_S A s.heap H locs → lv_has ls 7 [(0, .ref h0), (1, .int p1), (2, .int p2), (3, .int p3), (4, .int x4)] → W p l e ({ frames := 0, cells := 0, slots := 0, locals := 0 }) s m ([.ref h0, .int p1, .int p2, .int p3]).toArray below meth c H locs 0 0 Qz (F0 m 3 ls [])) ∧ (∀ (x4 : Int32) (x5 : Int32) (x6 : Int32) (sa : Nat → Int32) (H : Heap) (locs : List Loc) (ls : Array Slot), g_Net_giveSteps p1 p2 p3 pos sp n 2 x4 x5 x6 sa out → va_P (dC, dI) clA [(h0, .inr (1, [.int pos, .ref a1, .ref a2, .ref a3, .ref a4, .ref a5])), (a4, .inl ((cA 0), 30, .inl sp)), (a5, .inl ((cA 0), 900, .inl sa))] H → va_D A [(h0, .inr (1, [.int pos, .ref a1, .ref a2, .ref a3, .ref a4, .ref a5])), (a4, .inl ((cA 0), 30, .inl sp)), (a5, .inl ((cA 0), 900, .inl sa))] → va_S A s.heap H locs → lv_has ls 7 [(0, .ref h0), (1, .int p1), (2, .int p2), (3, .int p3), (4, .int x4), (5, .int x5), (6, .int x6)] → W p l e ({ frames := 0, cells := 0, slots := 0, locals := 0 }) s m ([.ref h0, .int p1, .int p2, .int p3]).toArray below meth c H locs 0 0 Qz (F0 m 26 ls [])) := by
    intro n
    induction n with
    | zero => exact ⟨fun _ _ _ _ _ _ _ hf => hf.elim, fun _ _ _ _ _ _ _ hf => hf.elim⟩
    | succ n ih =>
      obtain ⟨ih1, ih2⟩ := ih
      refine ⟨?_, ?_⟩
      · intro x4 x5 x6 sa H locs ls hf hP hD hS hl
        rw [g_Net_giveSteps_1] at hf
        refine lv_iload hx hb d_Net_giveSteps_3 (lv_at hl 4 rfl) ?_
        refine lv_aload_n hx hb d_Net_giveSteps_5 rfl (lv_at hl 0 rfl) ?_
        refine va_get (D := (dC, dI)) (ci := 1) (v := .int pos) (C := RX1) (T := TX1) (N := 6) hx hb hts (fun w h => List.mem_cons_of_mem _ (in_X1 w h)) hown hK hP 0 rfl rfl 0 (by decide) (hts _ (List.mem_cons_of_mem _ k_94)) (fun _ h9 => h9) rfl d_Net_giveSteps_6 ?_
        refine lv_icmp_ge (tgt := 74) hx hb d_Net_giveSteps_9 (by decide) (fun c_1 => ?_) (fun c_1 => ?_)
        · replace hf := hf.1 c_1
          have hP9 := hP.sub (ws' := [(h0, .inr (1, [.int pos, .ref a1, .ref a2, .ref a3, .ref a4, .ref a5])), (a4, .inl ((cA 0), 30, .inl sp)), (a5, .inl ((cA 0), 900, .inl sa))]) [0, 1, 2] rfl
          have hD9 := hD.sub (ws' := [(h0, .inr (1, [.int pos, .ref a1, .ref a2, .ref a3, .ref a4, .ref a5])), (a4, .inl ((cA 0), 30, .inl sp)), (a5, .inl ((cA 0), 900, .inl sa))]) [0, 1, 2] (by decide) rfl
          refine W_end hQz ?_
          exact W.vret hx hb hr (fun t ht hW => ⟨⟨(sa), rfl, hf, P_cg ht.symm hP9, va_K.moved hW.alike hK, hD9⟩, hS.F ht⟩) hS.2.2 d_Net_giveSteps_74 hlocks
        · replace hf := hf.2 c_1
          refine lv_aload_n hx hb d_Net_giveSteps_12 rfl (lv_at hl 0 rfl) ?_
          refine va_get (D := (dC, dI)) (ci := 1) (v := .ref a4) (C := RX1) (T := TX1) (N := 6) hx hb hts (fun w h => List.mem_cons_of_mem _ (in_X1 w h)) hown hK hP 0 rfl rfl 4 (by decide) (hts _ (List.mem_cons_of_mem _ k_100)) (fun _ h9 => h9) rfl d_Net_giveSteps_13 ?_
          refine lv_iload hx hb d_Net_giveSteps_16 (lv_at hl 4 rfl) ?_
          obtain ⟨h_3, hf⟩ := hf
          refine va_iald hx hb hK hP 1 0 rfl rfl h_3 d_Net_giveSteps_18 ?_
          refine lv_iload_n hx hb d_Net_giveSteps_19 rfl (lv_at hl 2 rfl) ?_
          refine lv_iand hx hb d_Net_giveSteps_20 ?_
          refine lv_istore (lv' := [(5, .int ((sp x4.toNatClampNeg) &&& p2)), (0, .ref h0), (1, .int p1), (2, .int p2), (3, .int p3), (4, .int x4)]) hx hb d_Net_giveSteps_21 hl (by decide) rfl (fun ls hl => ?_)
          refine lv_iload_n hx hb d_Net_giveSteps_23 rfl (lv_at hl 2 rfl) ?_
          refine lv_istore (lv' := [(6, .int p1), (5, .int ((sp x4.toNatClampNeg) &&& p2)), (0, .ref h0), (1, .int p1), (2, .int p2), (3, .int p3), (4, .int x4)]) hx hb d_Net_giveSteps_24 hl (by decide) rfl (fun ls hl => ?_)
          exact ih2 _ _ _ _ _ _ _ hf (hP.sub [0, 1, 2] rfl) (hD.sub [0, 1, 2] (by decide) rfl) hS (lv_sub hl [2, 3, 4, 5, 6, 1, 0] rfl)
      · intro x4 x5 x6 sa H locs ls hf hP hD hS hl
        rw [g_Net_giveSteps_2] at hf
        refine lv_iload hx hb d_Net_giveSteps_26 (lv_at hl 6 rfl) ?_
        refine lv_aload_n hx hb d_Net_giveSteps_28 rfl (lv_at hl 0 rfl) ?_
        refine va_get (D := (dC, dI)) (ci := 1) (v := .int pos) (C := RX1) (T := TX1) (N := 6) hx hb hts (fun w h => List.mem_cons_of_mem _ (in_X1 w h)) hown hK hP 0 rfl rfl 0 (by decide) (hts _ (List.mem_cons_of_mem _ k_94)) (fun _ h9 => h9) rfl d_Net_giveSteps_29 ?_
        refine lv_icmp_ge (tgt := 68) hx hb d_Net_giveSteps_32 (by decide) (fun c_1 => ?_) (fun c_1 => ?_)
        · replace hf := hf.1 c_1
          refine lv_iinc (v := x4 + 1) (lv' := [(4, .int (x4 + 1)), (0, .ref h0), (1, .int p1), (2, .int p2), (3, .int p3), (5, .int x5), (6, .int x6)]) hx hb d_Net_giveSteps_68 hl (k := 4) rfl rfl (by decide) rfl (fun ls hl => ?_)
          refine lv_goto (tgt := 3) hx hb d_Net_giveSteps_71 (by decide) ?_
          exact ih1 _ _ _ _ _ _ _ hf (hP.sub [0, 1, 2] rfl) (hD.sub [0, 1, 2] (by decide) rfl) hS (lv_sub hl [1, 2, 3, 4, 0] rfl)
        · replace hf := hf.2 c_1
          refine lv_iload hx hb d_Net_giveSteps_35 (lv_at hl 5 rfl) ?_
          refine lv_iload hx hb d_Net_giveSteps_37 (lv_at hl 6 rfl) ?_
          refine lv_ishr hx hb d_Net_giveSteps_39 ?_
          refine lv_iconst (v := 1) hx hb d_Net_giveSteps_40 (by decide) ?_
          refine lv_iand hx hb d_Net_giveSteps_41 ?_
          refine lv_if_eq (tgt := 62) hx hb d_Net_giveSteps_42 (by decide) (fun c_2 => ?_) (fun c_2 => ?_)
          · replace hf := hf.1 c_2
            refine lv_iinc (v := x6 + 1) (lv' := [(6, .int (x6 + 1)), (0, .ref h0), (1, .int p1), (2, .int p2), (3, .int p3), (4, .int x4), (5, .int x5)]) hx hb d_Net_giveSteps_62 hl (k := 6) rfl rfl (by decide) rfl (fun ls hl => ?_)
            refine lv_goto (tgt := 26) hx hb d_Net_giveSteps_65 (by decide) ?_
            exact ih2 _ _ _ _ _ _ _ hf (hP.sub [0, 1, 2] rfl) (hD.sub [0, 1, 2] (by decide) rfl) hS (lv_sub hl [1, 2, 3, 4, 5, 6, 0] rfl)
          · replace hf := hf.2 c_2
            refine lv_aload_n hx hb d_Net_giveSteps_45 rfl (lv_at hl 0 rfl) ?_
            refine va_get (D := (dC, dI)) (ci := 1) (v := .ref a5) (C := RX1) (T := TX1) (N := 6) hx hb hts (fun w h => List.mem_cons_of_mem _ (in_X1 w h)) hown hK hP 0 rfl rfl 5 (by decide) (hts _ (List.mem_cons_of_mem _ k_102)) (fun _ h9 => h9) rfl d_Net_giveSteps_46 ?_
            refine lv_iload hx hb d_Net_giveSteps_49 (lv_at hl 4 rfl) ?_
            refine lv_bipush (v := 30) hx hb d_Net_giveSteps_51 (by decide) ?_
            refine lv_imul hx hb d_Net_giveSteps_53 ?_
            refine lv_iload hx hb d_Net_giveSteps_54 (lv_at hl 6 rfl) ?_
            refine lv_iadd hx hb d_Net_giveSteps_56 ?_
            refine lv_dup2_11 hx hb d_Net_giveSteps_57 rfl rfl ?_
            obtain ⟨h_3, hf⟩ := hf
            refine va_iald hx hb hK hP 2 0 rfl rfl h_3 d_Net_giveSteps_58 ?_
            refine lv_iload_n hx hb d_Net_giveSteps_59 rfl (lv_at hl 3 rfl) ?_
            refine lv_ior hx hb d_Net_giveSteps_60 ?_
            obtain ⟨h_4, hf⟩ := hf
            refine va_iast hx hb hK hP hD hS 2 0 rfl rfl h_4 d_Net_giveSteps_61 (fun H locs hP hD hS => ?_)
            have hP : va_P (dC, dI) clA [(h0, .inr (1, [.int pos, .ref a1, .ref a2, .ref a3, .ref a4, .ref a5])), (a4, .inl ((cA 0), 30, .inl sp)), (a5, .inl ((cA 0), 900, .inl (upd sa ((x4 * 30) + x6).toNatClampNeg ((sa ((x4 * 30) + x6).toNatClampNeg) ||| p3))))] H := hP
            have hD : va_D A [(h0, .inr (1, [.int pos, .ref a1, .ref a2, .ref a3, .ref a4, .ref a5])), (a4, .inl ((cA 0), 30, .inl sp)), (a5, .inl ((cA 0), 900, .inl (upd sa ((x4 * 30) + x6).toNatClampNeg ((sa ((x4 * 30) + x6).toNatClampNeg) ||| p3))))] := hD
            refine lv_iinc (v := x6 + 1) (lv' := [(6, .int (x6 + 1)), (0, .ref h0), (1, .int p1), (2, .int p2), (3, .int p3), (4, .int x4), (5, .int x5)]) hx hb d_Net_giveSteps_62 hl (k := 6) rfl rfl (by decide) rfl (fun ls hl => ?_)
            refine lv_goto (tgt := 26) hx hb d_Net_giveSteps_65 (by decide) ?_
            exact ih2 _ _ _ _ _ _ _ hf (hP.sub [0, 1, 2] rfl) (hD.sub [0, 1, 2] (by decide) rfl) hS (lv_sub hl [1, 2, 3, 4, 5, 6, 0] rfl)
  have hf := hR
  unfold R_Net_giveSteps at hf
  refine lv_iload_n hx hb d_Net_giveSteps_0 rfl (lv_at hl 1 rfl) ?_
  refine lv_istore (lv' := [(4, .int p1), (0, .ref h0), (1, .int p1), (2, .int p2), (3, .int p3)]) hx hb d_Net_giveSteps_1 hl (by decide) rfl (fun ls hl => ?_)
  obtain ⟨n, hf⟩ := hf
  exact (hC n).1 _ _ _ _ _ _ _ hf (hP.sub [0, 1, 2] rfl) (hD.sub [0, 1, 2] (by decide) rfl) hS (lv_sub hl [1, 2, 3, 4, 0] rfl)
def R_Net_actionsOfFirst (p1 : Int32) (pos : Int32) (fa : Nat → Int32)  (out : Int32 × Unit) : Prop := ∃ v_1, R_Net_together 0 p1 pos fa 30 v_1 ∧ (out = (v_1.1, ()))
set_option maxHeartbeats 4000000 in
set_option maxRecDepth 100000 in
theorem c_Net_actionsOfFirst (l : Launch) (dC : Nat → ClassId) (dI : Nat → Nat → Nat) (cA : Nat → ClassId) (h0 a2 a1 a3 a4 a5 : Nat) (sz : Nat) (p1 : Int32) (pos : Int32) (fa : Nat → Int32)  (out : Int32 × Unit) (hR : R_Net_actionsOfFirst p1 pos fa  out) : Met l y_Net_actionsOfFirst ws_Net_actionsOfFirst ({ frames := 1, cells := 0, slots := 0, locals := 25 }) (va_Pc [.ref h0, .int p1] (fun U => U.heap.size = sz ∧ va_P (dC, dI) clA [(h0, .inr (1, [.int pos, .ref a1, .ref a2, .ref a3, .ref a4, .ref a5])), (a2, .inl ((cA 0), 30, .inl fa))] U.heap ∧ va_K (dC, dI) clA (tysA cA) U ∧ nW U ∧ va_D (fun _ => True) [(h0, .inr (1, [.int pos, .ref a1, .ref a2, .ref a3, .ref a4, .ref a5])), (a2, .inl ((cA 0), 30, .inl fa))])) (va_Qi (fun (r : Int32) (u : Unit) => out = (r, u)) (fun (u : Unit) (t : State) => va_P (dC, dI) clA [(h0, .inr (1, [.int pos, .ref a1, .ref a2, .ref a3, .ref a4, .ref a5])), (a2, .inl ((cA 0), 30, .inl fa))] t.heap ∧ va_K (dC, dI) clA (tysA cA) t ∧ va_D (va_A [(h0, .inr (1, [.int pos, .ref a1, .ref a2, .ref a3, .ref a4, .ref a5])), (a2, .inl ((cA 0), 30, .inl fa))] sz) [(h0, .inr (1, [.int pos, .ref a1, .ref a2, .ref a3, .ref a4, .ref a5])), (a2, .inl ((cA 0), 30, .inl fa))]) (va_A [(h0, .inr (1, [.int pos, .ref a1, .ref a2, .ref a3, .ref a4, .ref a5])), (a2, .inl ((cA 0), 30, .inl fa))] sz)) 0 0 (va_A [(h0, .inr (1, [.int pos, .ref a1, .ref a2, .ref a3, .ref a4, .ref a5])), (a2, .inl ((cA 0), 30, .inl fa))] sz) := by
  refine Met.ofW (cc := b_Net_actionsOfFirst) (maxL := 2) (ret := (some .int)) (by decide) rfl ?_
  intro p e s m args below meth c s₁ B hml hv
  obtain ⟨rfl, hsz, hP, hK, hN, hD0⟩ := hv
  have hx := B.exec
  have hb := B.bytes
  have hr := B.returns
  have hts := atoms_spec (ws := ws_Net_actionsOfFirst) B.pre
  have hown : s.vm.findClass RX1 = some m.cls := findClass_of_methodNamed B.named
  have hlocks := B.notSynchronized
  subst hsz
  have hD := hD0.self (sz := s.heap.size)
  generalize hAe : va_A [(h0, .inr (1, [.int pos, .ref a1, .ref a2, .ref a3, .ref a4, .ref a5])), (a2, .inl ((cA 0), 30, .inl fa))] s.heap.size = A at hD ⊢
  have hA : ∀ q : Nat, s.heap.size ≤ q → A q := fun q h => by rw [← hAe]; exact Or.inr h
  have hS : va_S A s.heap s.heap [] := va_S.rf
  have hP : va_P (dC, dI) clA [(h0, .inr (1, [.int pos, .ref a1, .ref a2, .ref a3, .ref a4, .ref a5])), (a2, .inl ((cA 0), 30, .inl fa))] s.heap := hP
  have hl := lv_entry ([.ref h0, .int p1]) (n := 2) (Nat.le_of_ble_eq_true rfl)
  rw [lg_entry_eq]
  generalize (lg_sl ([.ref h0, .int p1]) ++ List.replicate (2 - (lg_sl ([.ref h0, .int p1])).length) Slot.unset).toArray = ls at hl ⊢
  have hl : lv_has ls 2 [(0, .ref h0), (1, .int p1)] := hl
  refine W_gen (fun Qz hQz => ?_)
  have hf := hR
  unfold R_Net_actionsOfFirst at hf
  refine lv_aload_n hx hb d_Net_actionsOfFirst_0 rfl (lv_at hl 0 rfl) ?_
  refine lv_aload_n hx hb d_Net_actionsOfFirst_1 rfl (lv_at hl 0 rfl) ?_
  refine va_get (D := (dC, dI)) (ci := 1) (v := .ref a2) (C := RX1) (T := TX1) (N := 6) hx hb hts (fun w h => List.mem_cons_of_mem _ (in_X1 w h)) hown hK hP 0 rfl rfl 2 (by decide) (hts _ (List.mem_cons_of_mem _ k_98)) (fun _ h9 => h9) rfl d_Net_actionsOfFirst_2 ?_
  refine lv_iconst (v := 0) hx hb d_Net_actionsOfFirst_5 (by decide) ?_
  refine lv_iload_n hx hb d_Net_actionsOfFirst_6 rfl (lv_at hl 1 rfl) ?_
  obtain ⟨v_1, hv_1, hf⟩ := hf
  have hPc := hP.sub (ws' := [(h0, .inr (1, [.int pos, .ref a1, .ref a2, .ref a3, .ref a4, .ref a5])), (a2, .inl ((cA 0), 30, .inl fa))]) [0, 1] rfl
  have hDc := hD.sub (ws' := [(h0, .inr (1, [.int pos, .ref a1, .ref a2, .ref a3, .ref a4, .ref a5])), (a2, .inl ((cA 0), 30, .inl fa))]) [0, 1] (by decide) rfl
  have hFc := va_free (wc := [(h0, .inr (1, [.int pos, .ref a1, .ref a2, .ref a3, .ref a4, .ref a5])), (a2, .inl ((cA 0), 30, .inl fa))]) hD hS hA [0, 1] rfl
  refine va_calli (va_runV (As := [.ref a2, .int 0, .int p1]) (rest := []) ⟨hx, hb, hml, hown, hts⟩ (c_Net_together l dC dI cA h0 a2 a1 a2 a3 a4 a5 s.heap.size 0 p1 pos fa 30 v_1 hv_1) (cwV 3 hts (gV9 k_762 k_764 k_15 k_51 k_765) rfl rfl rfl hv_Net_together ⟨Nat.le_of_ble_eq_true rfl, Nat.le_of_ble_eq_true rfl⟩) ⟨fun a U g mk q => by obtain ⟨q0, q1, qP, qK, qN, qD⟩ := q; exact ⟨q0, q1, qP, va_K.moved (u := U) (U := U.calling g mk a) (Vm.Alike.refl U.vm) qK, nW_same (u := U) (U := U.calling g mk a) rfl qN, qD⟩, va_recv hK hPc (ci := 1) (q0 := 0) rfl rfl, fun U hU hW => ⟨rfl, congrArg _ hU, P_cg hU.symm hPc, va_K.moved hW.alike hK, nW_warm hW hN, hDc.weaken (fun _ _ _ _ => trivial)⟩⟩ rfl rfl hl.1 rfl (lv_room (Nat.le_of_ble_eq_true rfl)) d_Net_actionsOfFirst_7 ⟨Nat.zero_le _, Nat.zero_le _⟩) hS (fun q _ h => hFc q h) hFc (fun r u t H locs ht hvm hw hB hz1 hk1 hS => ?_)
  obtain ⟨rfl, rfl⟩ : r = v_1.1 ∧ u = v_1.2 := ⟨(congrArg Prod.fst hw).symm, (congrArg Prod.snd hw).symm⟩
  obtain ⟨hP1, hK1, hD1⟩ := hB
  replace hP1 := P_cg ht hP1
  obtain ⟨hP, hD⟩ := va_join (wc := [(h0, .inr (1, [.int pos, .ref a1, .ref a2, .ref a3, .ref a4, .ref a5])), (a2, .inl ((cA 0), 30, .inl fa))]) (wr := []) (w1 := [(h0, .inr (1, [.int pos, .ref a1, .ref a2, .ref a3, .ref a4, .ref a5])), (a2, .inl ((cA 0), 30, .inl fa))]) hP hD [0, 1] [] rfl rfl (by decide) (by decide) hk1 hFc hP1 hD1
  have hP : va_P (dC, dI) clA [(h0, .inr (1, [.int pos, .ref a1, .ref a2, .ref a3, .ref a4, .ref a5])), (a2, .inl ((cA 0), 30, .inl fa))] H := hP
  have hD : va_D A [(h0, .inr (1, [.int pos, .ref a1, .ref a2, .ref a3, .ref a4, .ref a5])), (a2, .inl ((cA 0), 30, .inl fa))] := hD
  have hP9 := hP.sub (ws' := [(h0, .inr (1, [.int pos, .ref a1, .ref a2, .ref a3, .ref a4, .ref a5])), (a2, .inl ((cA 0), 30, .inl fa))]) [0, 1] rfl
  have hD9 := hD.sub (ws' := [(h0, .inr (1, [.int pos, .ref a1, .ref a2, .ref a3, .ref a4, .ref a5])), (a2, .inl ((cA 0), 30, .inl fa))]) [0, 1] (by decide) rfl
  refine W_end hQz ?_
  exact W.iret (v := v_1.1) hx hb hr (fun t ht hW => ⟨⟨v_1.1, (), rfl, hf, P_cg ht.symm hP9, va_K.moved hW.alike hK, hD9⟩, hS.F ht⟩) hS.2.2 d_Net_actionsOfFirst_10 hlocks
def R_Net_actionsOfLast (p1 : Int32) (pos : Int32) (la : Nat → Int32)  (out : Int32 × Unit) : Prop := ∃ v_1, R_Net_together 0 p1 pos la 30 v_1 ∧ (out = (v_1.1, ()))
set_option maxHeartbeats 4000000 in
set_option maxRecDepth 100000 in
theorem c_Net_actionsOfLast (l : Launch) (dC : Nat → ClassId) (dI : Nat → Nat → Nat) (cA : Nat → ClassId) (h0 a3 a1 a2 a4 a5 : Nat) (sz : Nat) (p1 : Int32) (pos : Int32) (la : Nat → Int32)  (out : Int32 × Unit) (hR : R_Net_actionsOfLast p1 pos la  out) : Met l y_Net_actionsOfLast ws_Net_actionsOfLast ({ frames := 1, cells := 0, slots := 0, locals := 25 }) (va_Pc [.ref h0, .int p1] (fun U => U.heap.size = sz ∧ va_P (dC, dI) clA [(h0, .inr (1, [.int pos, .ref a1, .ref a2, .ref a3, .ref a4, .ref a5])), (a3, .inl ((cA 0), 30, .inl la))] U.heap ∧ va_K (dC, dI) clA (tysA cA) U ∧ nW U ∧ va_D (fun _ => True) [(h0, .inr (1, [.int pos, .ref a1, .ref a2, .ref a3, .ref a4, .ref a5])), (a3, .inl ((cA 0), 30, .inl la))])) (va_Qi (fun (r : Int32) (u : Unit) => out = (r, u)) (fun (u : Unit) (t : State) => va_P (dC, dI) clA [(h0, .inr (1, [.int pos, .ref a1, .ref a2, .ref a3, .ref a4, .ref a5])), (a3, .inl ((cA 0), 30, .inl la))] t.heap ∧ va_K (dC, dI) clA (tysA cA) t ∧ va_D (va_A [(h0, .inr (1, [.int pos, .ref a1, .ref a2, .ref a3, .ref a4, .ref a5])), (a3, .inl ((cA 0), 30, .inl la))] sz) [(h0, .inr (1, [.int pos, .ref a1, .ref a2, .ref a3, .ref a4, .ref a5])), (a3, .inl ((cA 0), 30, .inl la))]) (va_A [(h0, .inr (1, [.int pos, .ref a1, .ref a2, .ref a3, .ref a4, .ref a5])), (a3, .inl ((cA 0), 30, .inl la))] sz)) 0 0 (va_A [(h0, .inr (1, [.int pos, .ref a1, .ref a2, .ref a3, .ref a4, .ref a5])), (a3, .inl ((cA 0), 30, .inl la))] sz) := by
  refine Met.ofW (cc := b_Net_actionsOfLast) (maxL := 2) (ret := (some .int)) (by decide) rfl ?_
  intro p e s m args below meth c s₁ B hml hv
  obtain ⟨rfl, hsz, hP, hK, hN, hD0⟩ := hv
  have hx := B.exec
  have hb := B.bytes
  have hr := B.returns
  have hts := atoms_spec (ws := ws_Net_actionsOfLast) B.pre
  have hown : s.vm.findClass RX1 = some m.cls := findClass_of_methodNamed B.named
  have hlocks := B.notSynchronized
  subst hsz
  have hD := hD0.self (sz := s.heap.size)
  generalize hAe : va_A [(h0, .inr (1, [.int pos, .ref a1, .ref a2, .ref a3, .ref a4, .ref a5])), (a3, .inl ((cA 0), 30, .inl la))] s.heap.size = A at hD ⊢
  have hA : ∀ q : Nat, s.heap.size ≤ q → A q := fun q h => by rw [← hAe]; exact Or.inr h
  have hS : va_S A s.heap s.heap [] := va_S.rf
  have hP : va_P (dC, dI) clA [(h0, .inr (1, [.int pos, .ref a1, .ref a2, .ref a3, .ref a4, .ref a5])), (a3, .inl ((cA 0), 30, .inl la))] s.heap := hP
  have hl := lv_entry ([.ref h0, .int p1]) (n := 2) (Nat.le_of_ble_eq_true rfl)
  rw [lg_entry_eq]
  generalize (lg_sl ([.ref h0, .int p1]) ++ List.replicate (2 - (lg_sl ([.ref h0, .int p1])).length) Slot.unset).toArray = ls at hl ⊢
  have hl : lv_has ls 2 [(0, .ref h0), (1, .int p1)] := hl
  refine W_gen (fun Qz hQz => ?_)
  have hf := hR
  unfold R_Net_actionsOfLast at hf
  refine lv_aload_n hx hb d_Net_actionsOfLast_0 rfl (lv_at hl 0 rfl) ?_
  refine lv_aload_n hx hb d_Net_actionsOfLast_1 rfl (lv_at hl 0 rfl) ?_
  refine va_get (D := (dC, dI)) (ci := 1) (v := .ref a3) (C := RX1) (T := TX1) (N := 6) hx hb hts (fun w h => List.mem_cons_of_mem _ (in_X1 w h)) hown hK hP 0 rfl rfl 3 (by decide) (hts _ (List.mem_cons_of_mem _ k_99)) (fun _ h9 => h9) rfl d_Net_actionsOfLast_2 ?_
  refine lv_iconst (v := 0) hx hb d_Net_actionsOfLast_5 (by decide) ?_
  refine lv_iload_n hx hb d_Net_actionsOfLast_6 rfl (lv_at hl 1 rfl) ?_
  obtain ⟨v_1, hv_1, hf⟩ := hf
  have hPc := hP.sub (ws' := [(h0, .inr (1, [.int pos, .ref a1, .ref a2, .ref a3, .ref a4, .ref a5])), (a3, .inl ((cA 0), 30, .inl la))]) [0, 1] rfl
  have hDc := hD.sub (ws' := [(h0, .inr (1, [.int pos, .ref a1, .ref a2, .ref a3, .ref a4, .ref a5])), (a3, .inl ((cA 0), 30, .inl la))]) [0, 1] (by decide) rfl
  have hFc := va_free (wc := [(h0, .inr (1, [.int pos, .ref a1, .ref a2, .ref a3, .ref a4, .ref a5])), (a3, .inl ((cA 0), 30, .inl la))]) hD hS hA [0, 1] rfl
  refine va_calli (va_runV (As := [.ref a3, .int 0, .int p1]) (rest := []) ⟨hx, hb, hml, hown, hts⟩ (c_Net_together l dC dI cA h0 a3 a1 a2 a3 a4 a5 s.heap.size 0 p1 pos la 30 v_1 hv_1) (cwV 3 hts (gV9 k_762 k_764 k_15 k_51 k_765) rfl rfl rfl hv_Net_together ⟨Nat.le_of_ble_eq_true rfl, Nat.le_of_ble_eq_true rfl⟩) ⟨fun a U g mk q => by obtain ⟨q0, q1, qP, qK, qN, qD⟩ := q; exact ⟨q0, q1, qP, va_K.moved (u := U) (U := U.calling g mk a) (Vm.Alike.refl U.vm) qK, nW_same (u := U) (U := U.calling g mk a) rfl qN, qD⟩, va_recv hK hPc (ci := 1) (q0 := 0) rfl rfl, fun U hU hW => ⟨rfl, congrArg _ hU, P_cg hU.symm hPc, va_K.moved hW.alike hK, nW_warm hW hN, hDc.weaken (fun _ _ _ _ => trivial)⟩⟩ rfl rfl hl.1 rfl (lv_room (Nat.le_of_ble_eq_true rfl)) d_Net_actionsOfLast_7 ⟨Nat.zero_le _, Nat.zero_le _⟩) hS (fun q _ h => hFc q h) hFc (fun r u t H locs ht hvm hw hB hz1 hk1 hS => ?_)
  obtain ⟨rfl, rfl⟩ : r = v_1.1 ∧ u = v_1.2 := ⟨(congrArg Prod.fst hw).symm, (congrArg Prod.snd hw).symm⟩
  obtain ⟨hP1, hK1, hD1⟩ := hB
  replace hP1 := P_cg ht hP1
  obtain ⟨hP, hD⟩ := va_join (wc := [(h0, .inr (1, [.int pos, .ref a1, .ref a2, .ref a3, .ref a4, .ref a5])), (a3, .inl ((cA 0), 30, .inl la))]) (wr := []) (w1 := [(h0, .inr (1, [.int pos, .ref a1, .ref a2, .ref a3, .ref a4, .ref a5])), (a3, .inl ((cA 0), 30, .inl la))]) hP hD [0, 1] [] rfl rfl (by decide) (by decide) hk1 hFc hP1 hD1
  have hP : va_P (dC, dI) clA [(h0, .inr (1, [.int pos, .ref a1, .ref a2, .ref a3, .ref a4, .ref a5])), (a3, .inl ((cA 0), 30, .inl la))] H := hP
  have hD : va_D A [(h0, .inr (1, [.int pos, .ref a1, .ref a2, .ref a3, .ref a4, .ref a5])), (a3, .inl ((cA 0), 30, .inl la))] := hD
  have hP9 := hP.sub (ws' := [(h0, .inr (1, [.int pos, .ref a1, .ref a2, .ref a3, .ref a4, .ref a5])), (a3, .inl ((cA 0), 30, .inl la))]) [0, 1] rfl
  have hD9 := hD.sub (ws' := [(h0, .inr (1, [.int pos, .ref a1, .ref a2, .ref a3, .ref a4, .ref a5])), (a3, .inl ((cA 0), 30, .inl la))]) [0, 1] (by decide) rfl
  refine W_end hQz ?_
  exact W.iret (v := v_1.1) hx hb hr (fun t ht hW => ⟨⟨v_1.1, (), rfl, hf, P_cg ht.symm hP9, va_K.moved hW.alike hK, hD9⟩, hS.F ht⟩) hS.2.2 d_Net_actionsOfLast_10 hlocks
def R_Net_actionsOfSteps (p1 : Int32) (p2 : Int32) (pos : Int32) (sa : Nat → Int32)  (out : Int32 × Unit) : Prop := ∃ v_1, R_Net_together (p1 * 30) p2 pos sa 900 v_1 ∧ (out = (v_1.1, ()))
set_option maxHeartbeats 4000000 in
set_option maxRecDepth 100000 in
theorem c_Net_actionsOfSteps (l : Launch) (dC : Nat → ClassId) (dI : Nat → Nat → Nat) (cA : Nat → ClassId) (h0 a5 a1 a2 a3 a4 : Nat) (sz : Nat) (p1 : Int32) (p2 : Int32) (pos : Int32) (sa : Nat → Int32)  (out : Int32 × Unit) (hR : R_Net_actionsOfSteps p1 p2 pos sa  out) : Met l y_Net_actionsOfSteps ws_Net_actionsOfSteps ({ frames := 1, cells := 0, slots := 0, locals := 25 }) (va_Pc [.ref h0, .int p1, .int p2] (fun U => U.heap.size = sz ∧ va_P (dC, dI) clA [(h0, .inr (1, [.int pos, .ref a1, .ref a2, .ref a3, .ref a4, .ref a5])), (a5, .inl ((cA 0), 900, .inl sa))] U.heap ∧ va_K (dC, dI) clA (tysA cA) U ∧ nW U ∧ va_D (fun _ => True) [(h0, .inr (1, [.int pos, .ref a1, .ref a2, .ref a3, .ref a4, .ref a5])), (a5, .inl ((cA 0), 900, .inl sa))])) (va_Qi (fun (r : Int32) (u : Unit) => out = (r, u)) (fun (u : Unit) (t : State) => va_P (dC, dI) clA [(h0, .inr (1, [.int pos, .ref a1, .ref a2, .ref a3, .ref a4, .ref a5])), (a5, .inl ((cA 0), 900, .inl sa))] t.heap ∧ va_K (dC, dI) clA (tysA cA) t ∧ va_D (va_A [(h0, .inr (1, [.int pos, .ref a1, .ref a2, .ref a3, .ref a4, .ref a5])), (a5, .inl ((cA 0), 900, .inl sa))] sz) [(h0, .inr (1, [.int pos, .ref a1, .ref a2, .ref a3, .ref a4, .ref a5])), (a5, .inl ((cA 0), 900, .inl sa))]) (va_A [(h0, .inr (1, [.int pos, .ref a1, .ref a2, .ref a3, .ref a4, .ref a5])), (a5, .inl ((cA 0), 900, .inl sa))] sz)) 0 0 (va_A [(h0, .inr (1, [.int pos, .ref a1, .ref a2, .ref a3, .ref a4, .ref a5])), (a5, .inl ((cA 0), 900, .inl sa))] sz) := by
  refine Met.ofW (cc := b_Net_actionsOfSteps) (maxL := 3) (ret := (some .int)) (by decide) rfl ?_
  intro p e s m args below meth c s₁ B hml hv
  obtain ⟨rfl, hsz, hP, hK, hN, hD0⟩ := hv
  have hx := B.exec
  have hb := B.bytes
  have hr := B.returns
  have hts := atoms_spec (ws := ws_Net_actionsOfSteps) B.pre
  have hown : s.vm.findClass RX1 = some m.cls := findClass_of_methodNamed B.named
  have hlocks := B.notSynchronized
  subst hsz
  have hD := hD0.self (sz := s.heap.size)
  generalize hAe : va_A [(h0, .inr (1, [.int pos, .ref a1, .ref a2, .ref a3, .ref a4, .ref a5])), (a5, .inl ((cA 0), 900, .inl sa))] s.heap.size = A at hD ⊢
  have hA : ∀ q : Nat, s.heap.size ≤ q → A q := fun q h => by rw [← hAe]; exact Or.inr h
  have hS : va_S A s.heap s.heap [] := va_S.rf
  have hP : va_P (dC, dI) clA [(h0, .inr (1, [.int pos, .ref a1, .ref a2, .ref a3, .ref a4, .ref a5])), (a5, .inl ((cA 0), 900, .inl sa))] s.heap := hP
  have hl := lv_entry ([.ref h0, .int p1, .int p2]) (n := 3) (Nat.le_of_ble_eq_true rfl)
  rw [lg_entry_eq]
  generalize (lg_sl ([.ref h0, .int p1, .int p2]) ++ List.replicate (3 - (lg_sl ([.ref h0, .int p1, .int p2])).length) Slot.unset).toArray = ls at hl ⊢
  have hl : lv_has ls 3 [(0, .ref h0), (1, .int p1), (2, .int p2)] := hl
  refine W_gen (fun Qz hQz => ?_)
  have hf := hR
  unfold R_Net_actionsOfSteps at hf
  refine lv_aload_n hx hb d_Net_actionsOfSteps_0 rfl (lv_at hl 0 rfl) ?_
  refine lv_aload_n hx hb d_Net_actionsOfSteps_1 rfl (lv_at hl 0 rfl) ?_
  refine va_get (D := (dC, dI)) (ci := 1) (v := .ref a5) (C := RX1) (T := TX1) (N := 6) hx hb hts (fun w h => List.mem_cons_of_mem _ (in_X1 w h)) hown hK hP 0 rfl rfl 5 (by decide) (hts _ (List.mem_cons_of_mem _ k_102)) (fun _ h9 => h9) rfl d_Net_actionsOfSteps_2 ?_
  refine lv_iload_n hx hb d_Net_actionsOfSteps_5 rfl (lv_at hl 1 rfl) ?_
  refine lv_bipush (v := 30) hx hb d_Net_actionsOfSteps_6 (by decide) ?_
  refine lv_imul hx hb d_Net_actionsOfSteps_8 ?_
  refine lv_iload_n hx hb d_Net_actionsOfSteps_9 rfl (lv_at hl 2 rfl) ?_
  obtain ⟨v_1, hv_1, hf⟩ := hf
  have hPc := hP.sub (ws' := [(h0, .inr (1, [.int pos, .ref a1, .ref a2, .ref a3, .ref a4, .ref a5])), (a5, .inl ((cA 0), 900, .inl sa))]) [0, 1] rfl
  have hDc := hD.sub (ws' := [(h0, .inr (1, [.int pos, .ref a1, .ref a2, .ref a3, .ref a4, .ref a5])), (a5, .inl ((cA 0), 900, .inl sa))]) [0, 1] (by decide) rfl
  have hFc := va_free (wc := [(h0, .inr (1, [.int pos, .ref a1, .ref a2, .ref a3, .ref a4, .ref a5])), (a5, .inl ((cA 0), 900, .inl sa))]) hD hS hA [0, 1] rfl
  refine va_calli (va_runV (As := [.ref a5, .int (p1 * 30), .int p2]) (rest := []) ⟨hx, hb, hml, hown, hts⟩ (c_Net_together l dC dI cA h0 a5 a1 a2 a3 a4 a5 s.heap.size (p1 * 30) p2 pos sa 900 v_1 hv_1) (cwV 3 hts (gV9 k_762 k_764 k_15 k_51 k_765) rfl rfl rfl hv_Net_together ⟨Nat.le_of_ble_eq_true rfl, Nat.le_of_ble_eq_true rfl⟩) ⟨fun a U g mk q => by obtain ⟨q0, q1, qP, qK, qN, qD⟩ := q; exact ⟨q0, q1, qP, va_K.moved (u := U) (U := U.calling g mk a) (Vm.Alike.refl U.vm) qK, nW_same (u := U) (U := U.calling g mk a) rfl qN, qD⟩, va_recv hK hPc (ci := 1) (q0 := 0) rfl rfl, fun U hU hW => ⟨rfl, congrArg _ hU, P_cg hU.symm hPc, va_K.moved hW.alike hK, nW_warm hW hN, hDc.weaken (fun _ _ _ _ => trivial)⟩⟩ rfl rfl hl.1 rfl (lv_room (Nat.le_of_ble_eq_true rfl)) d_Net_actionsOfSteps_10 ⟨Nat.zero_le _, Nat.zero_le _⟩) hS (fun q _ h => hFc q h) hFc (fun r u t H locs ht hvm hw hB hz1 hk1 hS => ?_)
  obtain ⟨rfl, rfl⟩ : r = v_1.1 ∧ u = v_1.2 := ⟨(congrArg Prod.fst hw).symm, (congrArg Prod.snd hw).symm⟩
  obtain ⟨hP1, hK1, hD1⟩ := hB
  replace hP1 := P_cg ht hP1
  obtain ⟨hP, hD⟩ := va_join (wc := [(h0, .inr (1, [.int pos, .ref a1, .ref a2, .ref a3, .ref a4, .ref a5])), (a5, .inl ((cA 0), 900, .inl sa))]) (wr := []) (w1 := [(h0, .inr (1, [.int pos, .ref a1, .ref a2, .ref a3, .ref a4, .ref a5])), (a5, .inl ((cA 0), 900, .inl sa))]) hP hD [0, 1] [] rfl rfl (by decide) (by decide) hk1 hFc hP1 hD1
  have hP : va_P (dC, dI) clA [(h0, .inr (1, [.int pos, .ref a1, .ref a2, .ref a3, .ref a4, .ref a5])), (a5, .inl ((cA 0), 900, .inl sa))] H := hP
  have hD : va_D A [(h0, .inr (1, [.int pos, .ref a1, .ref a2, .ref a3, .ref a4, .ref a5])), (a5, .inl ((cA 0), 900, .inl sa))] := hD
  have hP9 := hP.sub (ws' := [(h0, .inr (1, [.int pos, .ref a1, .ref a2, .ref a3, .ref a4, .ref a5])), (a5, .inl ((cA 0), 900, .inl sa))]) [0, 1] rfl
  have hD9 := hD.sub (ws' := [(h0, .inr (1, [.int pos, .ref a1, .ref a2, .ref a3, .ref a4, .ref a5])), (a5, .inl ((cA 0), 900, .inl sa))]) [0, 1] (by decide) rfl
  refine W_end hQz ?_
  exact W.iret (v := v_1.1) hx hb hr (fun t ht hW => ⟨⟨v_1.1, (), rfl, hf, P_cg ht.symm hP9, va_K.moved hW.alike hK, hD9⟩, hS.F ht⟩) hS.2.2 d_Net_actionsOfSteps_13 hlocks
