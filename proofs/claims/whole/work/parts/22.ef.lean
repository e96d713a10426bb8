def R_EF_byteAt (w : Int64) (p2 : Int32)  (out : Int32 × Unit) : Prop := (out = (((((w.toUInt64 >>> (p2.toInt64.toUInt64 &&& Int64.toUInt64 63)).toInt64).toInt32) &&& 255), ()))
set_option maxHeartbeats 4000000 in
set_option maxRecDepth 100000 in
theorem c_EF_byteAt (l : Launch) (dC : Nat → ClassId) (dI : Nat → Nat → Nat) (cA : Nat → ClassId) (sz : Nat) (w : Int64) (p2 : Int32)  (out : Int32 × Unit) (hR : R_EF_byteAt w p2  out) : Met l y_EF_byteAt ws_EF_byteAt ({ frames := 0, cells := 0, slots := 0, locals := 0 }) (va_Pc [.long w, .int p2] (fun U => U.heap.size = sz ∧ va_P (dC, dI) clA [] U.heap ∧ va_K (dC, dI) clA (tysA cA) U ∧ nW U ∧ va_D (fun _ => True) [])) (va_Qi (fun (r : Int32) (u : Unit) => out = (r, u)) (fun (u : Unit) (t : State) => va_P (dC, dI) clA [] t.heap ∧ va_K (dC, dI) clA (tysA cA) t ∧ va_D (va_A [] sz) []) (va_A [] sz)) 0 0 (va_A [] sz) := by
  refine Met.ofW (cc := b_EF_byteAt) (maxL := 3) (ret := (some .int)) (by decide) rfl ?_
  intro p e s m args below meth c s₁ B hml hv
  obtain ⟨rfl, hsz, hP, hK, hN, hD0⟩ := hv
  have hx := B.exec
  have hb := B.bytes
  have hr := B.returns
  have hts := atoms_spec (ws := ws_EF_byteAt) B.pre
  have hown : s.vm.findClass RX5 = some m.cls := findClass_of_methodNamed B.named
  have hlocks := B.notSynchronized
  subst hsz
  have hD := hD0.self (sz := s.heap.size)
  generalize hAe : va_A [] s.heap.size = A at hD ⊢
  have hA : ∀ q : Nat, s.heap.size ≤ q → A q := fun q h => by rw [← hAe]; exact Or.inr h
  have hS : va_S A s.heap s.heap [] := va_S.rf
  have hP : va_P (dC, dI) clA [] s.heap := hP
  have hl := lv_entry ([.long w, .int p2]) (n := 3) (Nat.le_of_ble_eq_true rfl)
  rw [lg_entry_eq]
  generalize (lg_sl ([.long w, .int p2]) ++ List.replicate (3 - (lg_sl ([.long w, .int p2])).length) Slot.unset).toArray = ls at hl ⊢
  have hl : lv_has ls 3 [(0, .long w), (2, .int p2)] := hl
  refine W_gen (fun Qz hQz => ?_)
  have hf := hR
  unfold R_EF_byteAt at hf
  refine lv_lload_n hx hb d_EF_byteAt_0 rfl (lv_at hl 0 rfl) ?_
  refine lv_iload_n hx hb d_EF_byteAt_1 rfl (lv_at hl 1 rfl) ?_
  refine lv_lushr hx hb d_EF_byteAt_2 rfl ?_
  refine lv_l2i hx hb d_EF_byteAt_3 rfl ?_
  refine lv_sipush (v := 255) hx hb d_EF_byteAt_4 (by decide) ?_
  refine lv_iand hx hb d_EF_byteAt_7 ?_
  have hP9 := hP.sub (ws' := []) [] rfl
  have hD9 := hD.sub (ws' := []) [] (by decide) rfl
  refine W_end hQz ?_
  exact W.iret (v := ((((w.toUInt64 >>> (p2.toInt64.toUInt64 &&& Int64.toUInt64 63)).toInt64).toInt32) &&& 255)) hx hb hr (fun t ht hW => ⟨⟨((((w.toUInt64 >>> (p2.toInt64.toUInt64 &&& Int64.toUInt64 63)).toInt64).toInt32) &&& 255), (), rfl, hf, P_cg ht.symm hP9, va_K.moved hW.alike hK, hD9⟩, hS.F ht⟩) hS.2.2 d_EF_byteAt_8 hlocks
def g_EF_append (w : Int64) (fl : Int32) : Nat → Nat → Int32 → Int32 → (Nat → Int32) → (Int32 × (Nat → Int32)) → Prop
  | 0, _, _, _, _, _ => False
  | n + 1, k, x3, ln, tx, out => match k with
    | 1 => ((x3 < 0) → (out = (ln, tx))) ∧ (¬ (x3 < 0) → (∃ v_3, R_EF_byteAt w x3 v_3 ∧ (((v_3.1 = 0) → (g_EF_append w fl n 1 (x3 + (-8)) ln tx out)) ∧ (¬ (v_3.1 = 0) → (((80 ≤ ln) → (g_EF_append w fl n 1 (x3 + (-8)) ln tx out)) ∧ (¬ (80 ≤ ln) → (vp_in ln 80 ∧ (g_EF_append w fl n 1 (x3 + (-8)) (ln + 1) (upd tx ln.toNatClampNeg (vp_nar .char ((v_3.1.toUInt32 % 65536).toInt32))) out))))))))
    | _ => False
theorem g_EF_append_1 (w : Int64) (fl : Int32) (n : Nat) (x3 : Int32) (ln : Int32) (tx : Nat → Int32) (out : Int32 × (Nat → Int32)) : g_EF_append w fl (n + 1) 1 x3 ln tx out = (((x3 < 0) → (out = (ln, tx))) ∧ (¬ (x3 < 0) → (∃ v_3, R_EF_byteAt w x3 v_3 ∧ (((v_3.1 = 0) → (g_EF_append w fl n 1 (x3 + (-8)) ln tx out)) ∧ (¬ (v_3.1 = 0) → (((80 ≤ ln) → (g_EF_append w fl n 1 (x3 + (-8)) ln tx out)) ∧ (¬ (80 ≤ ln) → (vp_in ln 80 ∧ (g_EF_append w fl n 1 (x3 + (-8)) (ln + 1) (upd tx ln.toNatClampNeg (vp_nar .char ((v_3.1.toUInt32 % 65536).toInt32))) out))))))))) := rfl
def R_EF_append (w : Int64) (fl : Int32) (ln : Int32) (tx : Nat → Int32) (out : Int32 × (Nat → Int32)) : Prop := (∃ n, g_EF_append w fl n 1 56 ln tx out)
set_option maxHeartbeats 4000000 in
set_option maxRecDepth 100000 in
theorem c_EF_append (l : Launch) (dC : Nat → ClassId) (dI : Nat → Nat → Nat) (cA : Nat → ClassId) (h0 tw ps wk mA sA : Nat) (sz : Nat) (w : Int64) (fl : Int32) (ln : Int32) (tx : Nat → Int32) (out : Int32 × (Nat → Int32)) (hR : R_EF_append w fl ln tx out) : Met l y_EF_append ws_EF_append ({ frames := 1, cells := 0, slots := 0, locals := 22 }) (va_Pc [.ref h0, .long w] (fun U => U.heap.size = sz ∧ va_P (dC, dI) clA [(h0, .inr (5, [.ref tw, .int ln, .int fl, .ref ps, .ref wk, .ref mA, .ref sA])), (tw, .inl ((cA 2), 80, .inl tx))] U.heap ∧ va_K (dC, dI) clA (tysA cA) U ∧ nW U ∧ va_D (fun _ => True) [(h0, .inr (5, [.ref tw, .int ln, .int fl, .ref ps, .ref wk, .ref mA, .ref sA])), (tw, .inl ((cA 2), 80, .inl tx))])) (va_Qv (fun u : Int32 × (Nat → Int32) => out = u) (fun (u : Int32 × (Nat → Int32)) (t : State) => va_P (dC, dI) clA [(h0, .inr (5, [.ref tw, .int u.1, .int fl, .ref ps, .ref wk, .ref mA, .ref sA])), (tw, .inl ((cA 2), 80, .inl u.2))] t.heap ∧ va_K (dC, dI) clA (tysA cA) t ∧ va_D (va_A [(h0, .inr (5, [.ref tw, .int ln, .int fl, .ref ps, .ref wk, .ref mA, .ref sA])), (tw, .inl ((cA 2), 80, .inl tx))] sz) [(h0, .inr (5, [.ref tw, .int u.1, .int fl, .ref ps, .ref wk, .ref mA, .ref sA])), (tw, .inl ((cA 2), 80, .inl u.2))]) (va_A [(h0, .inr (5, [.ref tw, .int ln, .int fl, .ref ps, .ref wk, .ref mA, .ref sA])), (tw, .inl ((cA 2), 80, .inl tx))] sz)) 0 0 (va_A [(h0, .inr (5, [.ref tw, .int ln, .int fl, .ref ps, .ref wk, .ref mA, .ref sA])), (tw, .inl ((cA 2), 80, .inl tx))] sz) := by
  refine Met.ofW (cc := b_EF_append) (maxL := 5) (ret := none) (by decide) rfl ?_
  intro p e s m args below meth c s₁ B hml hv
  obtain ⟨rfl, hsz, hP, hK, hN, hD0⟩ := hv
  have hx := B.exec
  have hb := B.bytes
  have hr := B.returns
  have hts := atoms_spec (ws := ws_EF_append) B.pre
  have hown : s.vm.findClass RX5 = some m.cls := findClass_of_methodNamed B.named
  have hlocks := B.notSynchronized
  subst hsz
  have hD := hD0.self (sz := s.heap.size)
  generalize hAe : va_A [(h0, .inr (5, [.ref tw, .int ln, .int fl, .ref ps, .ref wk, .ref mA, .ref sA])), (tw, .inl ((cA 2), 80, .inl tx))] s.heap.size = A at hD ⊢
  have hA : ∀ q : Nat, s.heap.size ≤ q → A q := fun q h => by rw [← hAe]; exact Or.inr h
  have hS : va_S A s.heap s.heap [] := va_S.rf
  have hP : va_P (dC, dI) clA [(h0, .inr (5, [.ref tw, .int ln, .int fl, .ref ps, .ref wk, .ref mA, .ref sA])), (tw, .inl ((cA 2), 80, .inl tx))] s.heap := hP
  have hl := lv_entry ([.ref h0, .long w]) (n := 5) (Nat.le_of_ble_eq_true rfl)
  rw [lg_entry_eq]
  generalize (lg_sl ([.ref h0, .long w]) ++ List.replicate (5 - (lg_sl ([.ref h0, .long w])).length) Slot.unset).toArray = ls at hl ⊢
  have hl : lv_has ls 5 [(0, .ref h0), (1, .long w)] := hl
  refine W_gen (fun Qz hQz => ?_)
  have hC : ∀ n : Nat, (∀ (x3 : Int32) (ln : Int32) (tx : Nat → Int32) (H : Heap) (locs : List Loc) (ls : Array Slot), g_EF_append w fl n 1 x3 ln tx out → va_P (dC, dI) clA [(h0, .inr (5, [.ref tw, .int ln, .int fl, .ref ps, .ref wk, .ref mA, .ref sA])), (tw, .inl ((cA 2), 80, .inl tx))] H → va_D A [(h0, .inr (5, [.ref tw, .int ln, .int fl, .ref ps, .ref wk, .ref mA, .ref sA])), (tw, .inl ((cA 2), 80, .inl tx))] → va_S A s.heap H locs → lv_has ls 5 [(0, .ref h0), (1, .long w), (3, .int x3)] → W p l e ({ frames := 1, cells := 0, slots := 0, locals := 22 }) s m ([.ref h0, .long w]).toArray below meth c H locs 0 0 Qz (F0 m 3 ls [])) := by
    intro n
    induction n with
    | zero => exact fun _ _ _ _ _ _ hf => hf.elim
    | succ n ih =>
      have ih1 := ih
      · intro x3 ln tx H locs ls hf hP hD hS hl
        rw [g_EF_append_1] at hf
        refine lv_iload_n hx hb d_EF_append_3 rfl (lv_at hl 2 rfl) ?_
        refine lv_if_lt (tgt := 56) hx hb d_EF_append_4 (by decide) (fun c_1 => ?_) (fun c_1 => ?_)
        · replace hf := hf.1 c_1
          have hP9 := hP.sub (ws' := [(h0, .inr (5, [.ref tw, .int ln, .int fl, .ref ps, .ref wk, .ref mA, .ref sA])), (tw, .inl ((cA 2), 80, .inl tx))]) [0, 1] rfl
          have hD9 := hD.sub (ws' := [(h0, .inr (5, [.ref tw, .int ln, .int fl, .ref ps, .ref wk, .ref mA, .ref sA])), (tw, .inl ((cA 2), 80, .inl tx))]) [0, 1] (by decide) rfl
          refine W_end hQz ?_
          exact W.vret hx hb hr (fun t ht hW => ⟨⟨(ln, tx), rfl, hf, P_cg ht.symm hP9, va_K.moved hW.alike hK, hD9⟩, hS.F ht⟩) hS.2.2 d_EF_append_56 hlocks
        · replace hf := hf.2 c_1
          refine lv_lload_n hx hb d_EF_append_7 rfl (lv_at hl 1 rfl) ?_
          refine lv_iload_n hx hb d_EF_append_8 rfl (lv_at hl 2 rfl) ?_
          obtain ⟨v_3, hv_3, hf⟩ := hf
          have hPc := hP.sub (ws' := []) [] rfl
          have hDc := hD.sub (ws' := []) [] (by decide) rfl
          have hFc := va_free (wc := []) hD hS hA [] rfl
          refine va_calli (va_runS (As := [.long w, .int x3]) (rest := []) ⟨hx, hb, hml, hown, hts⟩ (c_EF_byteAt l dC dI cA H.size w x3 v_3 hv_3) (va_cwS 2 hts (gS9 k_280 k_281 k_49 k_282) rfl rfl rfl hs_EF_byteAt ⟨Nat.le_of_ble_eq_true rfl, Nat.le_of_ble_eq_true rfl⟩) ⟨fun a U g mk q => by obtain ⟨q0, q1, qP, qK, qN, qD⟩ := q; exact ⟨q0, q1, qP, va_K.moved (u := U) (U := U.calling g mk a) (Vm.Alike.refl U.vm) qK, nW_same (u := U) (U := U.calling g mk a) rfl qN, qD⟩, fun U hU hW => ⟨rfl, congrArg _ hU, P_cg hU.symm hPc, va_K.moved hW.alike hK, nW_warm hW hN, hDc.weaken (fun _ _ _ _ => trivial)⟩⟩ rfl rfl hl.1 rfl (lv_room (Nat.le_of_ble_eq_true rfl)) d_EF_append_9 ⟨Nat.zero_le _, Nat.zero_le _⟩) hS (fun q _ h => hFc q h) hFc (fun r u t H locs ht hvm hw hB hz1 hk1 hS => ?_)
          obtain ⟨rfl, rfl⟩ : r = v_3.1 ∧ u = v_3.2 := ⟨(congrArg Prod.fst hw).symm, (congrArg Prod.snd hw).symm⟩
          obtain ⟨hP1, hK1, hD1⟩ := hB
          replace hP1 := P_cg ht hP1
          obtain ⟨hP, hD⟩ := va_join (wc := []) (wr := [(h0, .inr (5, [.ref tw, .int ln, .int fl, .ref ps, .ref wk, .ref mA, .ref sA])), (tw, .inl ((cA 2), 80, .inl tx))]) (w1 := []) hP hD [] [0, 1] rfl rfl (by decide) (by decide) hk1 hFc hP1 hD1
          have hP : va_P (dC, dI) clA [(h0, .inr (5, [.ref tw, .int ln, .int fl, .ref ps, .ref wk, .ref mA, .ref sA])), (tw, .inl ((cA 2), 80, .inl tx))] H := hP
          have hD : va_D A [(h0, .inr (5, [.ref tw, .int ln, .int fl, .ref ps, .ref wk, .ref mA, .ref sA])), (tw, .inl ((cA 2), 80, .inl tx))] := hD
          refine lv_istore (lv' := [(4, .int v_3.1), (0, .ref h0), (1, .long w), (3, .int x3)]) hx hb d_EF_append_12 hl (by decide) rfl (fun ls hl => ?_)
          refine lv_iload hx hb d_EF_append_14 (lv_at hl 0 rfl) ?_
          refine lv_if_eq (tgt := 50) hx hb d_EF_append_16 (by decide) (fun c_4 => ?_) (fun c_4 => ?_)
          · replace hf := hf.1 c_4
            refine lv_iinc (v := x3 + (-8)) (lv' := [(3, .int (x3 + (-8))), (4, .int v_3.1), (0, .ref h0), (1, .long w)]) hx hb d_EF_append_50 hl (k := 3) rfl rfl (by decide) rfl (fun ls hl => ?_)
            refine lv_goto (tgt := 3) hx hb d_EF_append_53 (by decide) ?_
            exact ih1 _ _ _ _ _ _ hf (hP.sub [0, 1] rfl) (hD.sub [0, 1] (by decide) rfl) hS (lv_sub hl [2, 3, 0] rfl)
          · replace hf := hf.2 c_4
            refine lv_aload_n hx hb d_EF_append_19 rfl (lv_at hl 1 rfl) ?_
            refine va_get (D := (dC, dI)) (ci := 5) (v := .int ln) (C := RX5) (T := TX5) (N := 7) hx hb hts (fun w h => List.mem_cons_of_mem _ (in_X5 w h)) hown hK hP 0 rfl rfl 1 (by decide) (hts _ (List.mem_cons_of_mem _ k_242)) (fun _ h9 => h9) rfl d_EF_append_20 ?_
            refine lv_bipush (v := 80) hx hb d_EF_append_23 (by decide) ?_
            refine lv_icmp_ge (tgt := 50) hx hb d_EF_append_25 (by decide) (fun c_5 => ?_) (fun c_5 => ?_)
            · replace hf := hf.1 c_5
              refine lv_iinc (v := x3 + (-8)) (lv' := [(3, .int (x3 + (-8))), (4, .int v_3.1), (0, .ref h0), (1, .long w)]) hx hb d_EF_append_50 hl (k := 3) rfl rfl (by decide) rfl (fun ls hl => ?_)
              refine lv_goto (tgt := 3) hx hb d_EF_append_53 (by decide) ?_
              exact ih1 _ _ _ _ _ _ hf (hP.sub [0, 1] rfl) (hD.sub [0, 1] (by decide) rfl) hS (lv_sub hl [2, 3, 0] rfl)
            · replace hf := hf.2 c_5
              refine lv_aload_n hx hb d_EF_append_28 rfl (lv_at hl 1 rfl) ?_
              refine va_get (D := (dC, dI)) (ci := 5) (v := .ref tw) (C := RX5) (T := TX5) (N := 7) hx hb hts (fun w h => List.mem_cons_of_mem _ (in_X5 w h)) hown hK hP 0 rfl rfl 0 (by decide) (hts _ (List.mem_cons_of_mem _ k_241)) (fun _ h9 => h9) rfl d_EF_append_29 ?_
              refine lv_aload_n hx hb d_EF_append_32 rfl (lv_at hl 1 rfl) ?_
              refine va_get (D := (dC, dI)) (ci := 5) (v := .int ln) (C := RX5) (T := TX5) (N := 7) hx hb hts (fun w h => List.mem_cons_of_mem _ (in_X5 w h)) hown hK hP 0 rfl rfl 1 (by decide) (hts _ (List.mem_cons_of_mem _ k_242)) (fun _ h9 => h9) rfl d_EF_append_33 ?_
              refine lv_iload hx hb d_EF_append_36 (lv_at hl 0 rfl) ?_
              refine lv_i2c hx hb d_EF_append_38 rfl ?_
              obtain ⟨h_6, hf⟩ := hf
              refine va_cast hx hb hK hP hD hS 1 2 rfl rfl h_6 d_EF_append_39 (fun H locs hP hD hS => ?_)
              have hP : va_P (dC, dI) clA [(h0, .inr (5, [.ref tw, .int ln, .int fl, .ref ps, .ref wk, .ref mA, .ref sA])), (tw, .inl ((cA 2), 80, .inl (upd tx ln.toNatClampNeg (vp_nar .char ((v_3.1.toUInt32 % 65536).toInt32)))))] H := hP
              have hD : va_D A [(h0, .inr (5, [.ref tw, .int ln, .int fl, .ref ps, .ref wk, .ref mA, .ref sA])), (tw, .inl ((cA 2), 80, .inl (upd tx ln.toNatClampNeg (vp_nar .char ((v_3.1.toUInt32 % 65536).toInt32)))))] := hD
              refine lv_aload_n hx hb d_EF_append_40 rfl (lv_at hl 1 rfl) ?_
              refine lv_dup hx hb d_EF_append_41 rfl ?_
              refine va_get (D := (dC, dI)) (ci := 5) (v := .int ln) (C := RX5) (T := TX5) (N := 7) hx hb hts (fun w h => List.mem_cons_of_mem _ (in_X5 w h)) hown hK hP 0 rfl rfl 1 (by decide) (hts _ (List.mem_cons_of_mem _ k_242)) (fun _ h9 => h9) rfl d_EF_append_42 ?_
              refine lv_iconst (v := 1) hx hb d_EF_append_45 (by decide) ?_
              refine lv_iadd hx hb d_EF_append_46 ?_
              refine va_put (D := (dC, dI)) (ci := 5) (v := .int (ln + 1)) (ty := .int) (C := RX5) (T := TX5) (N := 7) hx hb hts (fun w h => List.mem_cons_of_mem _ (in_X5 w h)) tyX5 tyX5_ok nmX5 hown hK hP hD hS 0 rfl rfl 1 (by decide) (hts _ (List.mem_cons_of_mem _ k_242)) (fun _ h9 => h9) rfl (tyX5_ok 1 (by decide)) rfl rfl (Nat.le_of_ble_eq_true rfl) d_EF_append_47 (fun H locs hP hD hS => ?_)
              have hP : va_P (dC, dI) clA [(h0, .inr (5, [.ref tw, .int (ln + 1), .int fl, .ref ps, .ref wk, .ref mA, .ref sA])), (tw, .inl ((cA 2), 80, .inl (upd tx ln.toNatClampNeg (vp_nar .char ((v_3.1.toUInt32 % 65536).toInt32)))))] H := hP
              have hD : va_D A [(h0, .inr (5, [.ref tw, .int (ln + 1), .int fl, .ref ps, .ref wk, .ref mA, .ref sA])), (tw, .inl ((cA 2), 80, .inl (upd tx ln.toNatClampNeg (vp_nar .char ((v_3.1.toUInt32 % 65536).toInt32)))))] := hD
              refine lv_iinc (v := x3 + (-8)) (lv' := [(3, .int (x3 + (-8))), (4, .int v_3.1), (0, .ref h0), (1, .long w)]) hx hb d_EF_append_50 hl (k := 3) rfl rfl (by decide) rfl (fun ls hl => ?_)
              refine lv_goto (tgt := 3) hx hb d_EF_append_53 (by decide) ?_
              exact ih1 _ _ _ _ _ _ hf (hP.sub [0, 1] rfl) (hD.sub [0, 1] (by decide) rfl) hS (lv_sub hl [2, 3, 0] rfl)
  have hf := hR
  unfold R_EF_append at hf
  refine lv_bipush (v := 56) hx hb d_EF_append_0 (by decide) ?_
  refine lv_istore_n (lv' := [(3, .int 56), (0, .ref h0), (1, .long w)]) hx hb d_EF_append_2 rfl hl (by decide) rfl (fun ls hl => ?_)
  obtain ⟨n, hf⟩ := hf
  exact (hC n) _ _ _ _ _ _ hf (hP.sub [0, 1] rfl) (hD.sub [0, 1] (by decide) rfl) hS (lv_sub hl [1, 2, 0] rfl)
def R_EF_clear (fl : Int32) (ln : Int32) (out : Int32 × Int32) : Prop := (out = (ln, (0)))
set_option maxHeartbeats 4000000 in
set_option maxRecDepth 100000 in
theorem c_EF_clear (l : Launch) (dC : Nat → ClassId) (dI : Nat → Nat → Nat) (cA : Nat → ClassId) (h0 tw ps wk mA sA : Nat) (sz : Nat) (fl : Int32) (ln : Int32) (out : Int32 × Int32) (hR : R_EF_clear fl ln out) : Met l y_EF_clear ws_EF_clear ({ frames := 0, cells := 0, slots := 0, locals := 0 }) (va_Pc [.ref h0] (fun U => U.heap.size = sz ∧ va_P (dC, dI) clA [(h0, .inr (5, [.ref tw, .int ln, .int fl, .ref ps, .ref wk, .ref mA, .ref sA]))] U.heap ∧ va_K (dC, dI) clA (tysA cA) U ∧ nW U ∧ va_D (fun _ => True) [(h0, .inr (5, [.ref tw, .int ln, .int fl, .ref ps, .ref wk, .ref mA, .ref sA]))])) (va_Qi (fun (r : Int32) (u : Int32) => out = (r, u)) (fun (u : Int32) (t : State) => va_P (dC, dI) clA [(h0, .inr (5, [.ref tw, .int u, .int fl, .ref ps, .ref wk, .ref mA, .ref sA]))] t.heap ∧ va_K (dC, dI) clA (tysA cA) t ∧ va_D (va_A [(h0, .inr (5, [.ref tw, .int ln, .int fl, .ref ps, .ref wk, .ref mA, .ref sA]))] sz) [(h0, .inr (5, [.ref tw, .int u, .int fl, .ref ps, .ref wk, .ref mA, .ref sA]))]) (va_A [(h0, .inr (5, [.ref tw, .int ln, .int fl, .ref ps, .ref wk, .ref mA, .ref sA]))] sz)) 0 0 (va_A [(h0, .inr (5, [.ref tw, .int ln, .int fl, .ref ps, .ref wk, .ref mA, .ref sA]))] sz) := by
  refine Met.ofW (cc := b_EF_clear) (maxL := 2) (ret := (some .int)) (by decide) rfl ?_
  intro p e s m args below meth c s₁ B hml hv
  obtain ⟨rfl, hsz, hP, hK, hN, hD0⟩ := hv
  have hx := B.exec
  have hb := B.bytes
  have hr := B.returns
  have hts := atoms_spec (ws := ws_EF_clear) B.pre
  have hown : s.vm.findClass RX5 = some m.cls := findClass_of_methodNamed B.named
  have hlocks := B.notSynchronized
  subst hsz
  have hD := hD0.self (sz := s.heap.size)
  generalize hAe : va_A [(h0, .inr (5, [.ref tw, .int ln, .int fl, .ref ps, .ref wk, .ref mA, .ref sA]))] s.heap.size = A at hD ⊢
  have hA : ∀ q : Nat, s.heap.size ≤ q → A q := fun q h => by rw [← hAe]; exact Or.inr h
  have hS : va_S A s.heap s.heap [] := va_S.rf
  have hP : va_P (dC, dI) clA [(h0, .inr (5, [.ref tw, .int ln, .int fl, .ref ps, .ref wk, .ref mA, .ref sA]))] s.heap := hP
  have hl := lv_entry ([.ref h0]) (n := 2) (Nat.le_of_ble_eq_true rfl)
  rw [lg_entry_eq]
  generalize (lg_sl ([.ref h0]) ++ List.replicate (2 - (lg_sl ([.ref h0])).length) Slot.unset).toArray = ls at hl ⊢
  have hl : lv_has ls 2 [(0, .ref h0)] := hl
  refine W_gen (fun Qz hQz => ?_)
  have hf := hR
  unfold R_EF_clear at hf
  refine lv_aload_n hx hb d_EF_clear_0 rfl (lv_at hl 0 rfl) ?_
  refine va_get (D := (dC, dI)) (ci := 5) (v := .int ln) (C := RX5) (T := TX5) (N := 7) hx hb hts (fun w h => List.mem_cons_of_mem _ (in_X5 w h)) hown hK hP 0 rfl rfl 1 (by decide) (hts _ (List.mem_cons_of_mem _ k_242)) (fun _ h9 => h9) rfl d_EF_clear_1 ?_
  refine lv_istore_n (lv' := [(1, .int ln), (0, .ref h0)]) hx hb d_EF_clear_4 rfl hl (by decide) rfl (fun ls hl => ?_)
  refine lv_aload_n hx hb d_EF_clear_5 rfl (lv_at hl 1 rfl) ?_
  refine lv_iconst (v := 0) hx hb d_EF_clear_6 (by decide) ?_
  refine va_put (D := (dC, dI)) (ci := 5) (v := .int 0) (ty := .int) (C := RX5) (T := TX5) (N := 7) hx hb hts (fun w h => List.mem_cons_of_mem _ (in_X5 w h)) tyX5 tyX5_ok nmX5 hown hK hP hD hS 0 rfl rfl 1 (by decide) (hts _ (List.mem_cons_of_mem _ k_242)) (fun _ h9 => h9) rfl (tyX5_ok 1 (by decide)) rfl rfl (Nat.le_of_ble_eq_true rfl) d_EF_clear_7 (fun H locs hP hD hS => ?_)
  have hP : va_P (dC, dI) clA [(h0, .inr (5, [.ref tw, .int 0, .int fl, .ref ps, .ref wk, .ref mA, .ref sA]))] H := hP
  have hD : va_D A [(h0, .inr (5, [.ref tw, .int 0, .int fl, .ref ps, .ref wk, .ref mA, .ref sA]))] := hD
  refine lv_iload_n hx hb d_EF_clear_10 rfl (lv_at hl 0 rfl) ?_
  have hP9 := hP.sub (ws' := [(h0, .inr (5, [.ref tw, .int 0, .int fl, .ref ps, .ref wk, .ref mA, .ref sA]))]) [0] rfl
  have hD9 := hD.sub (ws' := [(h0, .inr (5, [.ref tw, .int 0, .int fl, .ref ps, .ref wk, .ref mA, .ref sA]))]) [0] (by decide) rfl
  refine W_end hQz ?_
  exact W.iret (v := ln) hx hb hr (fun t ht hW => ⟨⟨ln, (0), rfl, hf, P_cg ht.symm hP9, va_K.moved hW.alike hK, hD9⟩, hS.F ht⟩) hS.2.2 d_EF_clear_11 hlocks
def R_EF_where (ln : Int32) (fl : Int32)  (out : Int32 × Unit) : Prop := (out = (fl, ()))
set_option maxHeartbeats 4000000 in
set_option maxRecDepth 100000 in
theorem c_EF_where (l : Launch) (dC : Nat → ClassId) (dI : Nat → Nat → Nat) (cA : Nat → ClassId) (h0 tw ps wk mA sA : Nat) (sz : Nat) (ln : Int32) (fl : Int32)  (out : Int32 × Unit) (hR : R_EF_where ln fl  out) : Met l y_EF_where ws_EF_where ({ frames := 0, cells := 0, slots := 0, locals := 0 }) (va_Pc [.ref h0] (fun U => U.heap.size = sz ∧ va_P (dC, dI) clA [(h0, .inr (5, [.ref tw, .int ln, .int fl, .ref ps, .ref wk, .ref mA, .ref sA]))] U.heap ∧ va_K (dC, dI) clA (tysA cA) U ∧ nW U ∧ va_D (fun _ => True) [(h0, .inr (5, [.ref tw, .int ln, .int fl, .ref ps, .ref wk, .ref mA, .ref sA]))])) (va_Qi (fun (r : Int32) (u : Unit) => out = (r, u)) (fun (u : Unit) (t : State) => va_P (dC, dI) clA [(h0, .inr (5, [.ref tw, .int ln, .int fl, .ref ps, .ref wk, .ref mA, .ref sA]))] t.heap ∧ va_K (dC, dI) clA (tysA cA) t ∧ va_D (va_A [(h0, .inr (5, [.ref tw, .int ln, .int fl, .ref ps, .ref wk, .ref mA, .ref sA]))] sz) [(h0, .inr (5, [.ref tw, .int ln, .int fl, .ref ps, .ref wk, .ref mA, .ref sA]))]) (va_A [(h0, .inr (5, [.ref tw, .int ln, .int fl, .ref ps, .ref wk, .ref mA, .ref sA]))] sz)) 0 0 (va_A [(h0, .inr (5, [.ref tw, .int ln, .int fl, .ref ps, .ref wk, .ref mA, .ref sA]))] sz) := by
  refine Met.ofW (cc := b_EF_where) (maxL := 1) (ret := (some .int)) (by decide) rfl ?_
  intro p e s m args below meth c s₁ B hml hv
  obtain ⟨rfl, hsz, hP, hK, hN, hD0⟩ := hv
  have hx := B.exec
  have hb := B.bytes
  have hr := B.returns
  have hts := atoms_spec (ws := ws_EF_where) B.pre
  have hown : s.vm.findClass RX5 = some m.cls := findClass_of_methodNamed B.named
  have hlocks := B.notSynchronized
  subst hsz
  have hD := hD0.self (sz := s.heap.size)
  generalize hAe : va_A [(h0, .inr (5, [.ref tw, .int ln, .int fl, .ref ps, .ref wk, .ref mA, .ref sA]))] s.heap.size = A at hD ⊢
  have hA : ∀ q : Nat, s.heap.size ≤ q → A q := fun q h => by rw [← hAe]; exact Or.inr h
  have hS : va_S A s.heap s.heap [] := va_S.rf
  have hP : va_P (dC, dI) clA [(h0, .inr (5, [.ref tw, .int ln, .int fl, .ref ps, .ref wk, .ref mA, .ref sA]))] s.heap := hP
  have hl := lv_entry ([.ref h0]) (n := 1) (Nat.le_of_ble_eq_true rfl)
  rw [lg_entry_eq]
  generalize (lg_sl ([.ref h0]) ++ List.replicate (1 - (lg_sl ([.ref h0])).length) Slot.unset).toArray = ls at hl ⊢
  have hl : lv_has ls 1 [(0, .ref h0)] := hl
  refine W_gen (fun Qz hQz => ?_)
  have hf := hR
  unfold R_EF_where at hf
  refine lv_aload_n hx hb d_EF_where_0 rfl (lv_at hl 0 rfl) ?_
  refine va_get (D := (dC, dI)) (ci := 5) (v := .int fl) (C := RX5) (T := TX5) (N := 7) hx hb hts (fun w h => List.mem_cons_of_mem _ (in_X5 w h)) hown hK hP 0 rfl rfl 2 (by decide) (hts _ (List.mem_cons_of_mem _ k_243)) (fun _ h9 => h9) rfl d_EF_where_1 ?_
  have hP9 := hP.sub (ws' := [(h0, .inr (5, [.ref tw, .int ln, .int fl, .ref ps, .ref wk, .ref mA, .ref sA]))]) [0] rfl
  have hD9 := hD.sub (ws' := [(h0, .inr (5, [.ref tw, .int ln, .int fl, .ref ps, .ref wk, .ref mA, .ref sA]))]) [0] (by decide) rfl
  refine W_end hQz ?_
  exact W.iret (v := fl) hx hb hr (fun t ht hW => ⟨⟨fl, (), rfl, hf, P_cg ht.symm hP9, va_K.moved hW.alike hK, hD9⟩, hS.F ht⟩) hS.2.2 d_EF_where_4 hlocks
