def R_Part_become (q0 : Nat) (q1 : Nat) (pf : Nat → PT) (out : (Nat → PT)) : Prop := (∀ pf_2, pf_2 = va_up pf q0 ((pf q1).1, (pf q0).2.1, (pf q0).2.2.1, (pf q0).2.2.2.1, (pf q0).2.2.2.2) → (∀ pf_4, pf_4 = va_up pf_2 q0 ((pf_2 q0).1, (pf_2 q1).2.1, (pf_2 q0).2.2.1, (pf_2 q0).2.2.2.1, (pf_2 q0).2.2.2.2) → (∀ pf_6, pf_6 = va_up pf_4 q0 ((pf_4 q0).1, (pf_4 q0).2.1, (pf_4 q1).2.2.1, (pf_4 q0).2.2.2.1, (pf_4 q0).2.2.2.2) → (zb ((pf_6 q1).2.2.2.1) ∧ (∀ pf_9, pf_9 = va_up pf_6 q0 ((pf_6 q0).1, (pf_6 q0).2.1, (pf_6 q0).2.2.1, (pf_6 q1).2.2.2.1, (pf_6 q0).2.2.2.2) → (∀ pf_11, pf_11 = va_up pf_9 q0 ((pf_9 q0).1, (pf_9 q0).2.1, (pf_9 q0).2.2.1, (pf_9 q0).2.2.2.1, (pf_9 q1).2.2.2.2) → (out = (pf_11))))))))
set_option maxHeartbeats 4000000 in
set_option maxRecDepth 100000 in
theorem c_Part_become (l : Launch) (dC : Nat → ClassId) (dI : Nat → Nat → Nat) (cA : Nat → ClassId) (q0 q1 : Nat) (LP : List Nat) (hm0 : q0 ∈ LP) (hm1 : q1 ∈ LP) (sz : Nat)  (pf : Nat → PT) (out : (Nat → PT)) (hR : R_Part_become q0 q1 pf out) : Met l y_Part_become ws_Part_become ({ frames := 0, cells := 0, slots := 0, locals := 0 }) (va_Pc [.ref q0, .ref q1] (fun U => U.heap.size = sz ∧ va_P (dC, dI) clA (@HAppend.hAppend va_W va_W va_W _ [] (va_pl LP (ptF pf))) U.heap ∧ va_K (dC, dI) clA (tysA cA) U ∧ nW U ∧ va_D (fun _ => True) (@HAppend.hAppend va_W va_W va_W _ [] (va_pl LP (ptF pf))))) (va_Qv (fun u : (Nat → PT) => out = u) (fun (u : (Nat → PT)) (t : State) => va_P (dC, dI) clA (@HAppend.hAppend va_W va_W va_W _ [] (va_pl LP (ptF u))) t.heap ∧ va_K (dC, dI) clA (tysA cA) t ∧ va_D (va_A (@HAppend.hAppend va_W va_W va_W _ [] (va_pl LP (ptF pf))) sz) (@HAppend.hAppend va_W va_W va_W _ [] (va_pl LP (ptF u)))) (va_A (@HAppend.hAppend va_W va_W va_W _ [] (va_pl LP (ptF pf))) sz)) 0 0 (va_A (@HAppend.hAppend va_W va_W va_W _ [] (va_pl LP (ptF pf))) sz) := by
  refine Met.ofW (cc := b_Part_become) (maxL := 2) (ret := none) (by decide) rfl ?_
  intro p e s m args below meth c s₁ B hml hv
  obtain ⟨rfl, hsz, hP, hK, hN, hD0⟩ := hv
  have hx := B.exec
  have hb := B.bytes
  have hr := B.returns
  have hts := atoms_spec (ws := ws_Part_become) B.pre
  have hown : s.vm.findClass RX3 = some m.cls := findClass_of_methodNamed B.named
  have hlocks := B.notSynchronized
  subst hsz
  have hD := hD0.self (sz := s.heap.size)
  generalize hAe : va_A (@HAppend.hAppend va_W va_W va_W _ [] (va_pl LP (ptF pf))) s.heap.size = A at hD ⊢
  have hA : ∀ q : Nat, s.heap.size ≤ q → A q := fun q h => by rw [← hAe]; exact Or.inr h
  have hS : va_S A s.heap s.heap [] := va_S.rf
  have hP : va_P (dC, dI) clA (@HAppend.hAppend va_W va_W va_W _ [] (va_pl LP (ptF pf))) s.heap := hP
  have hl := lv_entry ([.ref q0, .ref q1]) (n := 2) (Nat.le_of_ble_eq_true rfl)
  rw [lg_entry_eq]
  generalize (lg_sl ([.ref q0, .ref q1]) ++ List.replicate (2 - (lg_sl ([.ref q0, .ref q1])).length) Slot.unset).toArray = ls at hl ⊢
  have hl : lv_has ls 2 [(0, .ref q0), (1, .ref q1)] := hl
  refine W_gen (fun Qz hQz => ?_)
  have hf := hR
  unfold R_Part_become at hf
  refine lv_aload_n hx hb d_Part_become_0 rfl (lv_at hl 0 rfl) ?_
  refine lv_aload_n hx hb d_Part_become_1 rfl (lv_at hl 1 rfl) ?_
  obtain ⟨kp_1, hk_1⟩ := va_pl_get (X := []) (f := ptF pf) hm1
  refine va_get (D := (dC, dI)) (ci := 3) (v := .int ((pf q1).1)) (C := RX3) (T := TX3) (N := 5) hx hb hts (fun w h => List.mem_cons_of_mem _ (in_X3 w h)) hown hK hP kp_1 hk_1 rfl 0 (by decide) (hts _ (List.mem_cons_of_mem _ k_125)) (fun _ h9 => h9) rfl d_Part_become_2 ?_
  obtain ⟨kp_2, hk_2⟩ := va_pl_get (X := []) (f := ptF pf) hm0
  refine va_put (D := (dC, dI)) (ci := 3) (v := .int ((pf q1).1)) (ty := .int) (C := RX3) (T := TX3) (N := 5) hx hb hts (fun w h => List.mem_cons_of_mem _ (in_X3 w h)) tyX3 tyX3_ok nmX3 hown hK hP hD hS kp_2 hk_2 rfl 0 (by decide) (hts _ (List.mem_cons_of_mem _ k_125)) (fun _ h9 => h9) rfl (tyX3_ok 0 (by decide)) rfl rfl (Nat.le_of_ble_eq_true rfl) d_Part_become_5 (fun H locs hP9 hD9 hS => ?_)
  obtain ⟨pf_2, e_2⟩ : ∃ y, y = va_up pf q0 ((pf q1).1, (pf q0).2.1, (pf q0).2.2.1, (pf q0).2.2.2.1, (pf q0).2.2.2.2) := ⟨_, rfl⟩
  replace hf := hf pf_2 e_2
  have hP9 := ptF_set (t9 := ((pf q1).1, (pf q0).2.1, (pf q0).2.2.1, (pf q0).2.2.2.1, (pf q0).2.2.2.2)) hD hm0 hk_2 hP9
  have hD9 := ptF_setD (t9 := ((pf q1).1, (pf q0).2.1, (pf q0).2.2.1, (pf q0).2.2.2.1, (pf q0).2.2.2.2)) hD hm0 hk_2 hD9
  rw [← e_2] at hP9 hD9
  have hP : va_P (dC, dI) clA (@HAppend.hAppend va_W va_W va_W _ [] (va_pl LP (ptF pf_2))) H := hP9
  have hD : va_D A (@HAppend.hAppend va_W va_W va_W _ [] (va_pl LP (ptF pf_2))) := hD9
  refine lv_aload_n hx hb d_Part_become_8 rfl (lv_at hl 0 rfl) ?_
  refine lv_aload_n hx hb d_Part_become_9 rfl (lv_at hl 1 rfl) ?_
  obtain ⟨kp_3, hk_3⟩ := va_pl_get (X := []) (f := ptF pf_2) hm1
  refine va_get (D := (dC, dI)) (ci := 3) (v := .int ((pf_2 q1).2.1)) (C := RX3) (T := TX3) (N := 5) hx hb hts (fun w h => List.mem_cons_of_mem _ (in_X3 w h)) hown hK hP kp_3 hk_3 rfl 1 (by decide) (hts _ (List.mem_cons_of_mem _ k_127)) (fun _ h9 => h9) rfl d_Part_become_10 ?_
  obtain ⟨kp_4, hk_4⟩ := va_pl_get (X := []) (f := ptF pf_2) hm0
  refine va_put (D := (dC, dI)) (ci := 3) (v := .int ((pf_2 q1).2.1)) (ty := .int) (C := RX3) (T := TX3) (N := 5) hx hb hts (fun w h => List.mem_cons_of_mem _ (in_X3 w h)) tyX3 tyX3_ok nmX3 hown hK hP hD hS kp_4 hk_4 rfl 1 (by decide) (hts _ (List.mem_cons_of_mem _ k_127)) (fun _ h9 => h9) rfl (tyX3_ok 1 (by decide)) rfl rfl (Nat.le_of_ble_eq_true rfl) d_Part_become_13 (fun H locs hP9 hD9 hS => ?_)
  obtain ⟨pf_4, e_4⟩ : ∃ y, y = va_up pf_2 q0 ((pf_2 q0).1, (pf_2 q1).2.1, (pf_2 q0).2.2.1, (pf_2 q0).2.2.2.1, (pf_2 q0).2.2.2.2) := ⟨_, rfl⟩
  replace hf := hf pf_4 e_4
  have hP9 := ptF_set (t9 := ((pf_2 q0).1, (pf_2 q1).2.1, (pf_2 q0).2.2.1, (pf_2 q0).2.2.2.1, (pf_2 q0).2.2.2.2)) hD hm0 hk_4 hP9
  have hD9 := ptF_setD (t9 := ((pf_2 q0).1, (pf_2 q1).2.1, (pf_2 q0).2.2.1, (pf_2 q0).2.2.2.1, (pf_2 q0).2.2.2.2)) hD hm0 hk_4 hD9
  rw [← e_4] at hP9 hD9
  have hP : va_P (dC, dI) clA (@HAppend.hAppend va_W va_W va_W _ [] (va_pl LP (ptF pf_4))) H := hP9
  have hD : va_D A (@HAppend.hAppend va_W va_W va_W _ [] (va_pl LP (ptF pf_4))) := hD9
  refine lv_aload_n hx hb d_Part_become_16 rfl (lv_at hl 0 rfl) ?_
  refine lv_aload_n hx hb d_Part_become_17 rfl (lv_at hl 1 rfl) ?_
  obtain ⟨kp_5, hk_5⟩ := va_pl_get (X := []) (f := ptF pf_4) hm1
  refine va_get (D := (dC, dI)) (ci := 3) (v := .int ((pf_4 q1).2.2.1)) (C := RX3) (T := TX3) (N := 5) hx hb hts (fun w h => List.mem_cons_of_mem _ (in_X3 w h)) hown hK hP kp_5 hk_5 rfl 2 (by decide) (hts _ (List.mem_cons_of_mem _ k_130)) (fun _ h9 => h9) rfl d_Part_become_18 ?_
  obtain ⟨kp_6, hk_6⟩ := va_pl_get (X := []) (f := ptF pf_4) hm0
  refine va_put (D := (dC, dI)) (ci := 3) (v := .int ((pf_4 q1).2.2.1)) (ty := .int) (C := RX3) (T := TX3) (N := 5) hx hb hts (fun w h => List.mem_cons_of_mem _ (in_X3 w h)) tyX3 tyX3_ok nmX3 hown hK hP hD hS kp_6 hk_6 rfl 2 (by decide) (hts _ (List.mem_cons_of_mem _ k_130)) (fun _ h9 => h9) rfl (tyX3_ok 2 (by decide)) rfl rfl (Nat.le_of_ble_eq_true rfl) d_Part_become_21 (fun H locs hP9 hD9 hS => ?_)
  obtain ⟨pf_6, e_6⟩ : ∃ y, y = va_up pf_4 q0 ((pf_4 q0).1, (pf_4 q0).2.1, (pf_4 q1).2.2.1, (pf_4 q0).2.2.2.1, (pf_4 q0).2.2.2.2) := ⟨_, rfl⟩
  replace hf := hf pf_6 e_6
  have hP9 := ptF_set (t9 := ((pf_4 q0).1, (pf_4 q0).2.1, (pf_4 q1).2.2.1, (pf_4 q0).2.2.2.1, (pf_4 q0).2.2.2.2)) hD hm0 hk_6 hP9
  have hD9 := ptF_setD (t9 := ((pf_4 q0).1, (pf_4 q0).2.1, (pf_4 q1).2.2.1, (pf_4 q0).2.2.2.1, (pf_4 q0).2.2.2.2)) hD hm0 hk_6 hD9
  rw [← e_6] at hP9 hD9
  have hP : va_P (dC, dI) clA (@HAppend.hAppend va_W va_W va_W _ [] (va_pl LP (ptF pf_6))) H := hP9
  have hD : va_D A (@HAppend.hAppend va_W va_W va_W _ [] (va_pl LP (ptF pf_6))) := hD9
  refine lv_aload_n hx hb d_Part_become_24 rfl (lv_at hl 0 rfl) ?_
  refine lv_aload_n hx hb d_Part_become_25 rfl (lv_at hl 1 rfl) ?_
  obtain ⟨kp_7, hk_7⟩ := va_pl_get (X := []) (f := ptF pf_6) hm1
  refine va_get (D := (dC, dI)) (ci := 3) (v := .int ((pf_6 q1).2.2.2.1)) (C := RX3) (T := TX3) (N := 5) hx hb hts (fun w h => List.mem_cons_of_mem _ (in_X3 w h)) hown hK hP kp_7 hk_7 rfl 3 (by decide) (hts _ (List.mem_cons_of_mem _ k_133)) (fun _ h9 => h9) rfl d_Part_become_26 ?_
  obtain ⟨h_8, hf⟩ := hf
  obtain ⟨kp_9, hk_9⟩ := va_pl_get (X := []) (f := ptF pf_6) hm0
  refine va_put (D := (dC, dI)) (ci := 3) (v := .int ((pf_6 q1).2.2.2.1)) (ty := .boolean) (C := RX3) (T := TX3) (N := 5) hx hb hts (fun w h => List.mem_cons_of_mem _ (in_X3 w h)) tyX3 tyX3_ok nmX3 hown hK hP hD hS kp_9 hk_9 rfl 3 (by decide) (hts _ (List.mem_cons_of_mem _ k_133)) (fun _ h9 => h9) rfl (tyX3_ok 3 (by decide)) h_8.1 h_8.2 (Nat.le_of_ble_eq_true rfl) d_Part_become_29 (fun H locs hP9 hD9 hS => ?_)
  obtain ⟨pf_9, e_9⟩ : ∃ y, y = va_up pf_6 q0 ((pf_6 q0).1, (pf_6 q0).2.1, (pf_6 q0).2.2.1, (pf_6 q1).2.2.2.1, (pf_6 q0).2.2.2.2) := ⟨_, rfl⟩
  replace hf := hf pf_9 e_9
  have hP9 := ptF_set (t9 := ((pf_6 q0).1, (pf_6 q0).2.1, (pf_6 q0).2.2.1, (pf_6 q1).2.2.2.1, (pf_6 q0).2.2.2.2)) hD hm0 hk_9 hP9
  have hD9 := ptF_setD (t9 := ((pf_6 q0).1, (pf_6 q0).2.1, (pf_6 q0).2.2.1, (pf_6 q1).2.2.2.1, (pf_6 q0).2.2.2.2)) hD hm0 hk_9 hD9
  rw [← e_9] at hP9 hD9
  have hP : va_P (dC, dI) clA (@HAppend.hAppend va_W va_W va_W _ [] (va_pl LP (ptF pf_9))) H := hP9
  have hD : va_D A (@HAppend.hAppend va_W va_W va_W _ [] (va_pl LP (ptF pf_9))) := hD9
  refine lv_aload_n hx hb d_Part_become_32 rfl (lv_at hl 0 rfl) ?_
  refine lv_aload_n hx hb d_Part_become_33 rfl (lv_at hl 1 rfl) ?_
  obtain ⟨kp_10, hk_10⟩ := va_pl_get (X := []) (f := ptF pf_9) hm1
  refine va_get (D := (dC, dI)) (ci := 3) (v := .int ((pf_9 q1).2.2.2.2)) (C := RX3) (T := TX3) (N := 5) hx hb hts (fun w h => List.mem_cons_of_mem _ (in_X3 w h)) hown hK hP kp_10 hk_10 rfl 4 (by decide) (hts _ (List.mem_cons_of_mem _ k_136)) (fun _ h9 => h9) rfl d_Part_become_34 ?_
  obtain ⟨kp_11, hk_11⟩ := va_pl_get (X := []) (f := ptF pf_9) hm0
  refine va_put (D := (dC, dI)) (ci := 3) (v := .int ((pf_9 q1).2.2.2.2)) (ty := .int) (C := RX3) (T := TX3) (N := 5) hx hb hts (fun w h => List.mem_cons_of_mem _ (in_X3 w h)) tyX3 tyX3_ok nmX3 hown hK hP hD hS kp_11 hk_11 rfl 4 (by decide) (hts _ (List.mem_cons_of_mem _ k_136)) (fun _ h9 => h9) rfl (tyX3_ok 4 (by decide)) rfl rfl (Nat.le_of_ble_eq_true rfl) d_Part_become_37 (fun H locs hP9 hD9 hS => ?_)
  obtain ⟨pf_11, e_11⟩ : ∃ y, y = va_up pf_9 q0 ((pf_9 q0).1, (pf_9 q0).2.1, (pf_9 q0).2.2.1, (pf_9 q0).2.2.2.1, (pf_9 q1).2.2.2.2) := ⟨_, rfl⟩
  replace hf := hf pf_11 e_11
  have hP9 := ptF_set (t9 := ((pf_9 q0).1, (pf_9 q0).2.1, (pf_9 q0).2.2.1, (pf_9 q0).2.2.2.1, (pf_9 q1).2.2.2.2)) hD hm0 hk_11 hP9
  have hD9 := ptF_setD (t9 := ((pf_9 q0).1, (pf_9 q0).2.1, (pf_9 q0).2.2.1, (pf_9 q0).2.2.2.1, (pf_9 q1).2.2.2.2)) hD hm0 hk_11 hD9
  rw [← e_11] at hP9 hD9
  have hP : va_P (dC, dI) clA (@HAppend.hAppend va_W va_W va_W _ [] (va_pl LP (ptF pf_11))) H := hP9
  have hD : va_D A (@HAppend.hAppend va_W va_W va_W _ [] (va_pl LP (ptF pf_11))) := hD9
  have hP9 := hP.part (cx := []) [] rfl
  have hD9 := hD.part (cx := []) [] (by decide) rfl
  refine W_end hQz ?_
  exact W.vret hx hb hr (fun t ht hW => ⟨⟨(pf_11), rfl, hf, P_cg ht.symm hP9, va_K.moved hW.alike hK, hD9⟩, hS.F ht⟩) hS.2.2 d_Part_become_40 hlocks
def R_Part_becomePosition (q0 : Nat) (p1 : Int32) (pf : Nat → PT) (out : (Nat → PT)) : Prop := (∀ pf_1, pf_1 = va_up pf q0 (p1, (pf q0).2.1, (pf q0).2.2.1, (pf q0).2.2.2.1, (pf q0).2.2.2.2) → (∀ pf_2, pf_2 = va_up pf_1 q0 ((pf_1 q0).1, (1 <<< (p1 &&& 31)), (pf_1 q0).2.2.1, (pf_1 q0).2.2.2.1, (pf_1 q0).2.2.2.2) → (∀ pf_3, pf_3 = va_up pf_2 q0 ((pf_2 q0).1, (pf_2 q0).2.1, (1 <<< (p1 &&& 31)), (pf_2 q0).2.2.2.1, (pf_2 q0).2.2.2.2) → (∀ pf_4, pf_4 = va_up pf_3 q0 ((pf_3 q0).1, (pf_3 q0).2.1, (pf_3 q0).2.2.1, 0, (pf_3 q0).2.2.2.2) → (∀ pf_5, pf_5 = va_up pf_4 q0 ((pf_4 q0).1, (pf_4 q0).2.1, (pf_4 q0).2.2.1, (pf_4 q0).2.2.2.1, 0) → (out = (pf_5)))))))
set_option maxHeartbeats 4000000 in
set_option maxRecDepth 100000 in
theorem c_Part_becomePosition (l : Launch) (dC : Nat → ClassId) (dI : Nat → Nat → Nat) (cA : Nat → ClassId) (q0 : Nat) (LP : List Nat) (hm0 : q0 ∈ LP) (sz : Nat) (p1 : Int32) (pf : Nat → PT) (out : (Nat → PT)) (hR : R_Part_becomePosition q0 p1 pf out) : Met l y_Part_becomePosition ws_Part_becomePosition ({ frames := 0, cells := 0, slots := 0, locals := 0 }) (va_Pc [.ref q0, .int p1] (fun U => U.heap.size = sz ∧ va_P (dC, dI) clA (@HAppend.hAppend va_W va_W va_W _ [] (va_pl LP (ptF pf))) U.heap ∧ va_K (dC, dI) clA (tysA cA) U ∧ nW U ∧ va_D (fun _ => True) (@HAppend.hAppend va_W va_W va_W _ [] (va_pl LP (ptF pf))))) (va_Qv (fun u : (Nat → PT) => out = u) (fun (u : (Nat → PT)) (t : State) => va_P (dC, dI) clA (@HAppend.hAppend va_W va_W va_W _ [] (va_pl LP (ptF u))) t.heap ∧ va_K (dC, dI) clA (tysA cA) t ∧ va_D (va_A (@HAppend.hAppend va_W va_W va_W _ [] (va_pl LP (ptF pf))) sz) (@HAppend.hAppend va_W va_W va_W _ [] (va_pl LP (ptF u)))) (va_A (@HAppend.hAppend va_W va_W va_W _ [] (va_pl LP (ptF pf))) sz)) 0 0 (va_A (@HAppend.hAppend va_W va_W va_W _ [] (va_pl LP (ptF pf))) sz) := by
  refine Met.ofW (cc := b_Part_becomePosition) (maxL := 2) (ret := none) (by decide) rfl ?_
  intro p e s m args below meth c s₁ B hml hv
  obtain ⟨rfl, hsz, hP, hK, hN, hD0⟩ := hv
  have hx := B.exec
  have hb := B.bytes
  have hr := B.returns
  have hts := atoms_spec (ws := ws_Part_becomePosition) B.pre
  have hown : s.vm.findClass RX3 = some m.cls := findClass_of_methodNamed B.named
  have hlocks := B.notSynchronized
  subst hsz
  have hD := hD0.self (sz := s.heap.size)
  generalize hAe : va_A (@HAppend.hAppend va_W va_W va_W _ [] (va_pl LP (ptF pf))) s.heap.size = A at hD ⊢
  have hA : ∀ q : Nat, s.heap.size ≤ q → A q := fun q h => by rw [← hAe]; exact Or.inr h
  have hS : va_S A s.heap s.heap [] := va_S.rf
  have hP : va_P (dC, dI) clA (@HAppend.hAppend va_W va_W va_W _ [] (va_pl LP (ptF pf))) s.heap := hP
  have hl := lv_entry ([.ref q0, .int p1]) (n := 2) (Nat.le_of_ble_eq_true rfl)
  rw [lg_entry_eq]
  generalize (lg_sl ([.ref q0, .int p1]) ++ List.replicate (2 - (lg_sl ([.ref q0, .int p1])).length) Slot.unset).toArray = ls at hl ⊢
  have hl : lv_has ls 2 [(0, .ref q0), (1, .int p1)] := hl
  refine W_gen (fun Qz hQz => ?_)
  have hf := hR
  unfold R_Part_becomePosition at hf
  refine lv_aload_n hx hb d_Part_becomePosition_0 rfl (lv_at hl 0 rfl) ?_
  refine lv_iload_n hx hb d_Part_becomePosition_1 rfl (lv_at hl 1 rfl) ?_
  obtain ⟨kp_1, hk_1⟩ := va_pl_get (X := []) (f := ptF pf) hm0
  refine va_put (D := (dC, dI)) (ci := 3) (v := .int p1) (ty := .int) (C := RX3) (T := TX3) (N := 5) hx hb hts (fun w h => List.mem_cons_of_mem _ (in_X3 w h)) tyX3 tyX3_ok nmX3 hown hK hP hD hS kp_1 hk_1 rfl 0 (by decide) (hts _ (List.mem_cons_of_mem _ k_125)) (fun _ h9 => h9) rfl (tyX3_ok 0 (by decide)) rfl rfl (Nat.le_of_ble_eq_true rfl) d_Part_becomePosition_2 (fun H locs hP9 hD9 hS => ?_)
  obtain ⟨pf_1, e_1⟩ : ∃ y, y = va_up pf q0 (p1, (pf q0).2.1, (pf q0).2.2.1, (pf q0).2.2.2.1, (pf q0).2.2.2.2) := ⟨_, rfl⟩
  replace hf := hf pf_1 e_1
  have hP9 := ptF_set (t9 := (p1, (pf q0).2.1, (pf q0).2.2.1, (pf q0).2.2.2.1, (pf q0).2.2.2.2)) hD hm0 hk_1 hP9
  have hD9 := ptF_setD (t9 := (p1, (pf q0).2.1, (pf q0).2.2.1, (pf q0).2.2.2.1, (pf q0).2.2.2.2)) hD hm0 hk_1 hD9
  rw [← e_1] at hP9 hD9
  have hP : va_P (dC, dI) clA (@HAppend.hAppend va_W va_W va_W _ [] (va_pl LP (ptF pf_1))) H := hP9
  have hD : va_D A (@HAppend.hAppend va_W va_W va_W _ [] (va_pl LP (ptF pf_1))) := hD9
  refine lv_aload_n hx hb d_Part_becomePosition_5 rfl (lv_at hl 0 rfl) ?_
  refine lv_iconst (v := 1) hx hb d_Part_becomePosition_6 (by decide) ?_
  refine lv_iload_n hx hb d_Part_becomePosition_7 rfl (lv_at hl 1 rfl) ?_
  refine lv_ishl hx hb d_Part_becomePosition_8 ?_
  obtain ⟨kp_2, hk_2⟩ := va_pl_get (X := []) (f := ptF pf_1) hm0
  refine va_put (D := (dC, dI)) (ci := 3) (v := .int (1 <<< (p1 &&& 31))) (ty := .int) (C := RX3) (T := TX3) (N := 5) hx hb hts (fun w h => List.mem_cons_of_mem _ (in_X3 w h)) tyX3 tyX3_ok nmX3 hown hK hP hD hS kp_2 hk_2 rfl 1 (by decide) (hts _ (List.mem_cons_of_mem _ k_127)) (fun _ h9 => h9) rfl (tyX3_ok 1 (by decide)) rfl rfl (Nat.le_of_ble_eq_true rfl) d_Part_becomePosition_9 (fun H locs hP9 hD9 hS => ?_)
  obtain ⟨pf_2, e_2⟩ : ∃ y, y = va_up pf_1 q0 ((pf_1 q0).1, (1 <<< (p1 &&& 31)), (pf_1 q0).2.2.1, (pf_1 q0).2.2.2.1, (pf_1 q0).2.2.2.2) := ⟨_, rfl⟩
  replace hf := hf pf_2 e_2
  have hP9 := ptF_set (t9 := ((pf_1 q0).1, (1 <<< (p1 &&& 31)), (pf_1 q0).2.2.1, (pf_1 q0).2.2.2.1, (pf_1 q0).2.2.2.2)) hD hm0 hk_2 hP9
  have hD9 := ptF_setD (t9 := ((pf_1 q0).1, (1 <<< (p1 &&& 31)), (pf_1 q0).2.2.1, (pf_1 q0).2.2.2.1, (pf_1 q0).2.2.2.2)) hD hm0 hk_2 hD9
  rw [← e_2] at hP9 hD9
  have hP : va_P (dC, dI) clA (@HAppend.hAppend va_W va_W va_W _ [] (va_pl LP (ptF pf_2))) H := hP9
  have hD : va_D A (@HAppend.hAppend va_W va_W va_W _ [] (va_pl LP (ptF pf_2))) := hD9
  refine lv_aload_n hx hb d_Part_becomePosition_12 rfl (lv_at hl 0 rfl) ?_
  refine lv_iconst (v := 1) hx hb d_Part_becomePosition_13 (by decide) ?_
  refine lv_iload_n hx hb d_Part_becomePosition_14 rfl (lv_at hl 1 rfl) ?_
  refine lv_ishl hx hb d_Part_becomePosition_15 ?_
  obtain ⟨kp_3, hk_3⟩ := va_pl_get (X := []) (f := ptF pf_2) hm0
  refine va_put (D := (dC, dI)) (ci := 3) (v := .int (1 <<< (p1 &&& 31))) (ty := .int) (C := RX3) (T := TX3) (N := 5) hx hb hts (fun w h => List.mem_cons_of_mem _ (in_X3 w h)) tyX3 tyX3_ok nmX3 hown hK hP hD hS kp_3 hk_3 rfl 2 (by decide) (hts _ (List.mem_cons_of_mem _ k_130)) (fun _ h9 => h9) rfl (tyX3_ok 2 (by decide)) rfl rfl (Nat.le_of_ble_eq_true rfl) d_Part_becomePosition_16 (fun H locs hP9 hD9 hS => ?_)
  obtain ⟨pf_3, e_3⟩ : ∃ y, y = va_up pf_2 q0 ((pf_2 q0).1, (pf_2 q0).2.1, (1 <<< (p1 &&& 31)), (pf_2 q0).2.2.2.1, (pf_2 q0).2.2.2.2) := ⟨_, rfl⟩
  replace hf := hf pf_3 e_3
  have hP9 := ptF_set (t9 := ((pf_2 q0).1, (pf_2 q0).2.1, (1 <<< (p1 &&& 31)), (pf_2 q0).2.2.2.1, (pf_2 q0).2.2.2.2)) hD hm0 hk_3 hP9
  have hD9 := ptF_setD (t9 := ((pf_2 q0).1, (pf_2 q0).2.1, (1 <<< (p1 &&& 31)), (pf_2 q0).2.2.2.1, (pf_2 q0).2.2.2.2)) hD hm0 hk_3 hD9
  rw [← e_3] at hP9 hD9
  have hP : va_P (dC, dI) clA (@HAppend.hAppend va_W va_W va_W _ [] (va_pl LP (ptF pf_3))) H := hP9
  have hD : va_D A (@HAppend.hAppend va_W va_W va_W _ [] (va_pl LP (ptF pf_3))) := hD9
  refine lv_aload_n hx hb d_Part_becomePosition_19 rfl (lv_at hl 0 rfl) ?_
  refine lv_iconst (v := 0) hx hb d_Part_becomePosition_20 (by decide) ?_
  obtain ⟨kp_4, hk_4⟩ := va_pl_get (X := []) (f := ptF pf_3) hm0
  refine va_put (D := (dC, dI)) (ci := 3) (v := .int 0) (ty := .boolean) (C := RX3) (T := TX3) (N := 5) hx hb hts (fun w h => List.mem_cons_of_mem _ (in_X3 w h)) tyX3 tyX3_ok nmX3 hown hK hP hD hS kp_4 hk_4 rfl 3 (by decide) (hts _ (List.mem_cons_of_mem _ k_133)) (fun _ h9 => h9) rfl (tyX3_ok 3 (by decide)) (by decide) (by decide) (Nat.le_of_ble_eq_true rfl) d_Part_becomePosition_21 (fun H locs hP9 hD9 hS => ?_)
  obtain ⟨pf_4, e_4⟩ : ∃ y, y = va_up pf_3 q0 ((pf_3 q0).1, (pf_3 q0).2.1, (pf_3 q0).2.2.1, 0, (pf_3 q0).2.2.2.2) := ⟨_, rfl⟩
  replace hf := hf pf_4 e_4
  have hP9 := ptF_set (t9 := ((pf_3 q0).1, (pf_3 q0).2.1, (pf_3 q0).2.2.1, 0, (pf_3 q0).2.2.2.2)) hD hm0 hk_4 hP9
  have hD9 := ptF_setD (t9 := ((pf_3 q0).1, (pf_3 q0).2.1, (pf_3 q0).2.2.1, 0, (pf_3 q0).2.2.2.2)) hD hm0 hk_4 hD9
  rw [← e_4] at hP9 hD9
  have hP : va_P (dC, dI) clA (@HAppend.hAppend va_W va_W va_W _ [] (va_pl LP (ptF pf_4))) H := hP9
  have hD : va_D A (@HAppend.hAppend va_W va_W va_W _ [] (va_pl LP (ptF pf_4))) := hD9
  refine lv_aload_n hx hb d_Part_becomePosition_24 rfl (lv_at hl 0 rfl) ?_
  refine lv_iconst (v := 0) hx hb d_Part_becomePosition_25 (by decide) ?_
  obtain ⟨kp_5, hk_5⟩ := va_pl_get (X := []) (f := ptF pf_4) hm0
  refine va_put (D := (dC, dI)) (ci := 3) (v := .int 0) (ty := .int) (C := RX3) (T := TX3) (N := 5) hx hb hts (fun w h => List.mem_cons_of_mem _ (in_X3 w h)) tyX3 tyX3_ok nmX3 hown hK hP hD hS kp_5 hk_5 rfl 4 (by decide) (hts _ (List.mem_cons_of_mem _ k_136)) (fun _ h9 => h9) rfl (tyX3_ok 4 (by decide)) rfl rfl (Nat.le_of_ble_eq_true rfl) d_Part_becomePosition_26 (fun H locs hP9 hD9 hS => ?_)
  obtain ⟨pf_5, e_5⟩ : ∃ y, y = va_up pf_4 q0 ((pf_4 q0).1, (pf_4 q0).2.1, (pf_4 q0).2.2.1, (pf_4 q0).2.2.2.1, 0) := ⟨_, rfl⟩
  replace hf := hf pf_5 e_5
  have hP9 := ptF_set (t9 := ((pf_4 q0).1, (pf_4 q0).2.1, (pf_4 q0).2.2.1, (pf_4 q0).2.2.2.1, 0)) hD hm0 hk_5 hP9
  have hD9 := ptF_setD (t9 := ((pf_4 q0).1, (pf_4 q0).2.1, (pf_4 q0).2.2.1, (pf_4 q0).2.2.2.1, 0)) hD hm0 hk_5 hD9
  rw [← e_5] at hP9 hD9
  have hP : va_P (dC, dI) clA (@HAppend.hAppend va_W va_W va_W _ [] (va_pl LP (ptF pf_5))) H := hP9
  have hD : va_D A (@HAppend.hAppend va_W va_W va_W _ [] (va_pl LP (ptF pf_5))) := hD9
  have hP9 := hP.part (cx := []) [] rfl
  have hD9 := hD.part (cx := []) [] (by decide) rfl
  refine W_end hQz ?_
  exact W.vret hx hb hr (fun t ht hW => ⟨⟨(pf_5), rfl, hf, P_cg ht.symm hP9, va_K.moved hW.alike hK, hD9⟩, hS.F ht⟩) hS.2.2 d_Part_becomePosition_29 hlocks
def R_Net_either (pos : Int32) (q1 : Nat) (q2 : Nat) (pf : Nat → PT) (out : (Nat → PT)) : Prop := (∀ pf_3, pf_3 = va_up pf q1 ((pf q1).1, (((pf q1).2.1) ||| ((pf q2).2.1)), (pf q1).2.2.1, (pf q1).2.2.2.1, (pf q1).2.2.2.2) → (∀ pf_6, pf_6 = va_up pf_3 q1 ((pf_3 q1).1, (pf_3 q1).2.1, (((pf_3 q1).2.2.1) ||| ((pf_3 q2).2.2.1)), (pf_3 q1).2.2.2.1, (pf_3 q1).2.2.2.2) → (((¬ ((pf_6 q1).2.2.2.1) = 0) → (∀ pf_9, pf_9 = va_up pf_6 q1 ((pf_6 q1).1, (pf_6 q1).2.1, (pf_6 q1).2.2.1, 1, (pf_6 q1).2.2.2.2) → (∀ pf_12, pf_12 = va_up pf_9 q1 ((pf_9 q1).1, (pf_9 q1).2.1, (pf_9 q1).2.2.1, (pf_9 q1).2.2.2.1, (((pf_9 q1).2.2.2.2) ||| ((pf_9 q2).2.2.2.2))) → (out = (pf_12))))) ∧ ((((pf_6 q1).2.2.2.1) = 0) → (((((pf_6 q2).2.2.2.1) = 0) → (∀ pf_16, pf_16 = va_up pf_6 q1 ((pf_6 q1).1, (pf_6 q1).2.1, (pf_6 q1).2.2.1, 0, (pf_6 q1).2.2.2.2) → (∀ pf_19, pf_19 = va_up pf_16 q1 ((pf_16 q1).1, (pf_16 q1).2.1, (pf_16 q1).2.2.1, (pf_16 q1).2.2.2.1, (((pf_16 q1).2.2.2.2) ||| ((pf_16 q2).2.2.2.2))) → (out = (pf_19))))) ∧ (¬ (((pf_6 q2).2.2.2.1) = 0) → (∀ pf_21, pf_21 = va_up pf_6 q1 ((pf_6 q1).1, (pf_6 q1).2.1, (pf_6 q1).2.2.1, 1, (pf_6 q1).2.2.2.2) → (∀ pf_24, pf_24 = va_up pf_21 q1 ((pf_21 q1).1, (pf_21 q1).2.1, (pf_21 q1).2.2.1, (pf_21 q1).2.2.2.1, (((pf_21 q1).2.2.2.2) ||| ((pf_21 q2).2.2.2.2))) → (out = (pf_24))))))))))
set_option maxHeartbeats 4000000 in
set_option maxRecDepth 100000 in
theorem c_Net_either (l : Launch) (dC : Nat → ClassId) (dI : Nat → Nat → Nat) (cA : Nat → ClassId) (h0 a1 a2 a3 a4 a5 q1 q2 : Nat) (LP : List Nat) (hm1 : q1 ∈ LP) (hm2 : q2 ∈ LP) (sz : Nat) (pos : Int32) (pf : Nat → PT) (out : (Nat → PT)) (hR : R_Net_either pos q1 q2 pf out) : Met l y_Net_either ws_Net_either ({ frames := 0, cells := 0, slots := 0, locals := 0 }) (va_Pc [.ref h0, .ref q1, .ref q2] (fun U => U.heap.size = sz ∧ va_P (dC, dI) clA (@HAppend.hAppend va_W va_W va_W _ [(h0, .inr (1, [.int pos, .ref a1, .ref a2, .ref a3, .ref a4, .ref a5]))] (va_pl LP (ptF pf))) U.heap ∧ va_K (dC, dI) clA (tysA cA) U ∧ nW U ∧ va_D (fun _ => True) (@HAppend.hAppend va_W va_W va_W _ [(h0, .inr (1, [.int pos, .ref a1, .ref a2, .ref a3, .ref a4, .ref a5]))] (va_pl LP (ptF pf))))) (va_Qv (fun u : (Nat → PT) => out = u) (fun (u : (Nat → PT)) (t : State) => va_P (dC, dI) clA (@HAppend.hAppend va_W va_W va_W _ [(h0, .inr (1, [.int pos, .ref a1, .ref a2, .ref a3, .ref a4, .ref a5]))] (va_pl LP (ptF u))) t.heap ∧ va_K (dC, dI) clA (tysA cA) t ∧ va_D (va_A (@HAppend.hAppend va_W va_W va_W _ [(h0, .inr (1, [.int pos, .ref a1, .ref a2, .ref a3, .ref a4, .ref a5]))] (va_pl LP (ptF pf))) sz) (@HAppend.hAppend va_W va_W va_W _ [(h0, .inr (1, [.int pos, .ref a1, .ref a2, .ref a3, .ref a4, .ref a5]))] (va_pl LP (ptF u)))) (va_A (@HAppend.hAppend va_W va_W va_W _ [(h0, .inr (1, [.int pos, .ref a1, .ref a2, .ref a3, .ref a4, .ref a5]))] (va_pl LP (ptF pf))) sz)) 0 0 (va_A (@HAppend.hAppend va_W va_W va_W _ [(h0, .inr (1, [.int pos, .ref a1, .ref a2, .ref a3, .ref a4, .ref a5]))] (va_pl LP (ptF pf))) sz) := by
  refine Met.ofW (cc := b_Net_either) (maxL := 3) (ret := none) (by decide) rfl ?_
  intro p e s m args below meth c s₁ B hml hv
  obtain ⟨rfl, hsz, hP, hK, hN, hD0⟩ := hv
  have hx := B.exec
  have hb := B.bytes
  have hr := B.returns
  have hts := atoms_spec (ws := ws_Net_either) B.pre
  have hown : s.vm.findClass RX1 = some m.cls := findClass_of_methodNamed B.named
  have hlocks := B.notSynchronized
  subst hsz
  have hD := hD0.self (sz := s.heap.size)
  generalize hAe : va_A (@HAppend.hAppend va_W va_W va_W _ [(h0, .inr (1, [.int pos, .ref a1, .ref a2, .ref a3, .ref a4, .ref a5]))] (va_pl LP (ptF pf))) s.heap.size = A at hD ⊢
  have hA : ∀ q : Nat, s.heap.size ≤ q → A q := fun q h => by rw [← hAe]; exact Or.inr h
  have hS : va_S A s.heap s.heap [] := va_S.rf
  have hP : va_P (dC, dI) clA (@HAppend.hAppend va_W va_W va_W _ [(h0, .inr (1, [.int pos, .ref a1, .ref a2, .ref a3, .ref a4, .ref a5]))] (va_pl LP (ptF pf))) s.heap := hP
  have hl := lv_entry ([.ref h0, .ref q1, .ref q2]) (n := 3) (Nat.le_of_ble_eq_true rfl)
  rw [lg_entry_eq]
  generalize (lg_sl ([.ref h0, .ref q1, .ref q2]) ++ List.replicate (3 - (lg_sl ([.ref h0, .ref q1, .ref q2])).length) Slot.unset).toArray = ls at hl ⊢
  have hl : lv_has ls 3 [(0, .ref h0), (1, .ref q1), (2, .ref q2)] := hl
  refine W_gen (fun Qz hQz => ?_)
  have hf := hR
  unfold R_Net_either at hf
  refine lv_aload_n hx hb d_Net_either_0 rfl (lv_at hl 1 rfl) ?_
  refine lv_dup hx hb d_Net_either_1 rfl ?_
  obtain ⟨kp_1, hk_1⟩ := va_pl_get (X := [(h0, .inr (1, [.int pos, .ref a1, .ref a2, .ref a3, .ref a4, .ref a5]))]) (f := ptF pf) hm1
  refine va_getN (D := (dC, dI)) (ci := 3) (v := .int ((pf q1).2.1)) (C := RX3) (T := TX3) (N := 5) hx hb hts (fun w h => List.mem_cons_of_mem _ (in_X3 w h)) hown hK hP kp_1 hk_1 rfl 1 (by decide) (va_Nw.use rfl (hN _ nl_4)) (fun _ h9 => h9) rfl d_Net_either_2 ?_
  refine lv_aload_n hx hb d_Net_either_5 rfl (lv_at hl 2 rfl) ?_
  obtain ⟨kp_2, hk_2⟩ := va_pl_get (X := [(h0, .inr (1, [.int pos, .ref a1, .ref a2, .ref a3, .ref a4, .ref a5]))]) (f := ptF pf) hm2
  refine va_getN (D := (dC, dI)) (ci := 3) (v := .int ((pf q2).2.1)) (C := RX3) (T := TX3) (N := 5) hx hb hts (fun w h => List.mem_cons_of_mem _ (in_X3 w h)) hown hK hP kp_2 hk_2 rfl 1 (by decide) (va_Nw.use rfl (hN _ nl_4)) (fun _ h9 => h9) rfl d_Net_either_6 ?_
  refine lv_ior hx hb d_Net_either_9 ?_
  obtain ⟨kp_3, hk_3⟩ := va_pl_get (X := [(h0, .inr (1, [.int pos, .ref a1, .ref a2, .ref a3, .ref a4, .ref a5]))]) (f := ptF pf) hm1
  refine va_putN (D := (dC, dI)) (ci := 3) (v := .int (((pf q1).2.1) ||| ((pf q2).2.1))) (ty := .int) (C := RX3) (T := TX3) (N := 5) hx hb hts (fun w h => List.mem_cons_of_mem _ (in_X3 w h)) tyX3 tyX3_ok nmX3 hown hK hP hD hS kp_3 hk_3 rfl 1 (by decide) (va_Nw.use rfl (hN _ nl_4)) (fun _ h9 => h9) rfl (tyX3_ok 1 (by decide)) rfl rfl (Nat.le_of_ble_eq_true rfl) d_Net_either_10 (fun H locs hP9 hD9 hS => ?_)
  obtain ⟨pf_3, e_3⟩ : ∃ y, y = va_up pf q1 ((pf q1).1, (((pf q1).2.1) ||| ((pf q2).2.1)), (pf q1).2.2.1, (pf q1).2.2.2.1, (pf q1).2.2.2.2) := ⟨_, rfl⟩
  replace hf := hf pf_3 e_3
  have hP9 := ptF_set (t9 := ((pf q1).1, (((pf q1).2.1) ||| ((pf q2).2.1)), (pf q1).2.2.1, (pf q1).2.2.2.1, (pf q1).2.2.2.2)) hD hm1 hk_3 hP9
  have hD9 := ptF_setD (t9 := ((pf q1).1, (((pf q1).2.1) ||| ((pf q2).2.1)), (pf q1).2.2.1, (pf q1).2.2.2.1, (pf q1).2.2.2.2)) hD hm1 hk_3 hD9
  rw [← e_3] at hP9 hD9
  have hP : va_P (dC, dI) clA (@HAppend.hAppend va_W va_W va_W _ [(h0, .inr (1, [.int pos, .ref a1, .ref a2, .ref a3, .ref a4, .ref a5]))] (va_pl LP (ptF pf_3))) H := hP9
  have hD : va_D A (@HAppend.hAppend va_W va_W va_W _ [(h0, .inr (1, [.int pos, .ref a1, .ref a2, .ref a3, .ref a4, .ref a5]))] (va_pl LP (ptF pf_3))) := hD9
  refine lv_aload_n hx hb d_Net_either_13 rfl (lv_at hl 1 rfl) ?_
  refine lv_dup hx hb d_Net_either_14 rfl ?_
  obtain ⟨kp_4, hk_4⟩ := va_pl_get (X := [(h0, .inr (1, [.int pos, .ref a1, .ref a2, .ref a3, .ref a4, .ref a5]))]) (f := ptF pf_3) hm1
  refine va_getN (D := (dC, dI)) (ci := 3) (v := .int ((pf_3 q1).2.2.1)) (C := RX3) (T := TX3) (N := 5) hx hb hts (fun w h => List.mem_cons_of_mem _ (in_X3 w h)) hown hK hP kp_4 hk_4 rfl 2 (by decide) (va_Nw.use rfl (hN _ nl_6)) (fun _ h9 => h9) rfl d_Net_either_15 ?_
  refine lv_aload_n hx hb d_Net_either_18 rfl (lv_at hl 2 rfl) ?_
  obtain ⟨kp_5, hk_5⟩ := va_pl_get (X := [(h0, .inr (1, [.int pos, .ref a1, .ref a2, .ref a3, .ref a4, .ref a5]))]) (f := ptF pf_3) hm2
  refine va_getN (D := (dC, dI)) (ci := 3) (v := .int ((pf_3 q2).2.2.1)) (C := RX3) (T := TX3) (N := 5) hx hb hts (fun w h => List.mem_cons_of_mem _ (in_X3 w h)) hown hK hP kp_5 hk_5 rfl 2 (by decide) (va_Nw.use rfl (hN _ nl_6)) (fun _ h9 => h9) rfl d_Net_either_19 ?_
  refine lv_ior hx hb d_Net_either_22 ?_
  obtain ⟨kp_6, hk_6⟩ := va_pl_get (X := [(h0, .inr (1, [.int pos, .ref a1, .ref a2, .ref a3, .ref a4, .ref a5]))]) (f := ptF pf_3) hm1
  refine va_putN (D := (dC, dI)) (ci := 3) (v := .int (((pf_3 q1).2.2.1) ||| ((pf_3 q2).2.2.1))) (ty := .int) (C := RX3) (T := TX3) (N := 5) hx hb hts (fun w h => List.mem_cons_of_mem _ (in_X3 w h)) tyX3 tyX3_ok nmX3 hown hK hP hD hS kp_6 hk_6 rfl 2 (by decide) (va_Nw.use rfl (hN _ nl_6)) (fun _ h9 => h9) rfl (tyX3_ok 2 (by decide)) rfl rfl (Nat.le_of_ble_eq_true rfl) d_Net_either_23 (fun H locs hP9 hD9 hS => ?_)
  obtain ⟨pf_6, e_6⟩ : ∃ y, y = va_up pf_3 q1 ((pf_3 q1).1, (pf_3 q1).2.1, (((pf_3 q1).2.2.1) ||| ((pf_3 q2).2.2.1)), (pf_3 q1).2.2.2.1, (pf_3 q1).2.2.2.2) := ⟨_, rfl⟩
  replace hf := hf pf_6 e_6
  have hP9 := ptF_set (t9 := ((pf_3 q1).1, (pf_3 q1).2.1, (((pf_3 q1).2.2.1) ||| ((pf_3 q2).2.2.1)), (pf_3 q1).2.2.2.1, (pf_3 q1).2.2.2.2)) hD hm1 hk_6 hP9
  have hD9 := ptF_setD (t9 := ((pf_3 q1).1, (pf_3 q1).2.1, (((pf_3 q1).2.2.1) ||| ((pf_3 q2).2.2.1)), (pf_3 q1).2.2.2.1, (pf_3 q1).2.2.2.2)) hD hm1 hk_6 hD9
  rw [← e_6] at hP9 hD9
  have hP : va_P (dC, dI) clA (@HAppend.hAppend va_W va_W va_W _ [(h0, .inr (1, [.int pos, .ref a1, .ref a2, .ref a3, .ref a4, .ref a5]))] (va_pl LP (ptF pf_6))) H := hP9
  have hD : va_D A (@HAppend.hAppend va_W va_W va_W _ [(h0, .inr (1, [.int pos, .ref a1, .ref a2, .ref a3, .ref a4, .ref a5]))] (va_pl LP (ptF pf_6))) := hD9
  refine lv_aload_n hx hb d_Net_either_26 rfl (lv_at hl 1 rfl) ?_
  refine lv_aload_n hx hb d_Net_either_27 rfl (lv_at hl 1 rfl) ?_
  obtain ⟨kp_7, hk_7⟩ := va_pl_get (X := [(h0, .inr (1, [.int pos, .ref a1, .ref a2, .ref a3, .ref a4, .ref a5]))]) (f := ptF pf_6) hm1
  refine va_getN (D := (dC, dI)) (ci := 3) (v := .int ((pf_6 q1).2.2.2.1)) (C := RX3) (T := TX3) (N := 5) hx hb hts (fun w h => List.mem_cons_of_mem _ (in_X3 w h)) hown hK hP kp_7 hk_7 rfl 3 (by decide) (va_Nw.use rfl (hN _ nl_8)) (fun _ h9 => h9) rfl d_Net_either_28 ?_
  refine lv_if_ne (tgt := 41) hx hb d_Net_either_31 (by decide) (fun c_8 => ?_) (fun c_8 => ?_)
  · replace hf := hf.1 c_8
    refine lv_iconst (v := 1) hx hb d_Net_either_41 (by decide) ?_
    refine lv_goto (tgt := 46) hx hb d_Net_either_42 (by decide) ?_
    obtain ⟨kp_9, hk_9⟩ := va_pl_get (X := [(h0, .inr (1, [.int pos, .ref a1, .ref a2, .ref a3, .ref a4, .ref a5]))]) (f := ptF pf_6) hm1
    refine va_putN (D := (dC, dI)) (ci := 3) (v := .int 1) (ty := .boolean) (C := RX3) (T := TX3) (N := 5) hx hb hts (fun w h => List.mem_cons_of_mem _ (in_X3 w h)) tyX3 tyX3_ok nmX3 hown hK hP hD hS kp_9 hk_9 rfl 3 (by decide) (va_Nw.use rfl (hN _ nl_8)) (fun _ h9 => h9) rfl (tyX3_ok 3 (by decide)) (by decide) (by decide) (Nat.le_of_ble_eq_true rfl) d_Net_either_46 (fun H locs hP9 hD9 hS => ?_)
    obtain ⟨pf_9, e_9⟩ : ∃ y, y = va_up pf_6 q1 ((pf_6 q1).1, (pf_6 q1).2.1, (pf_6 q1).2.2.1, 1, (pf_6 q1).2.2.2.2) := ⟨_, rfl⟩
    replace hf := hf pf_9 e_9
    have hP9 := ptF_set (t9 := ((pf_6 q1).1, (pf_6 q1).2.1, (pf_6 q1).2.2.1, 1, (pf_6 q1).2.2.2.2)) hD hm1 hk_9 hP9
    have hD9 := ptF_setD (t9 := ((pf_6 q1).1, (pf_6 q1).2.1, (pf_6 q1).2.2.1, 1, (pf_6 q1).2.2.2.2)) hD hm1 hk_9 hD9
    rw [← e_9] at hP9 hD9
    have hP : va_P (dC, dI) clA (@HAppend.hAppend va_W va_W va_W _ [(h0, .inr (1, [.int pos, .ref a1, .ref a2, .ref a3, .ref a4, .ref a5]))] (va_pl LP (ptF pf_9))) H := hP9
    have hD : va_D A (@HAppend.hAppend va_W va_W va_W _ [(h0, .inr (1, [.int pos, .ref a1, .ref a2, .ref a3, .ref a4, .ref a5]))] (va_pl LP (ptF pf_9))) := hD9
    refine lv_aload_n hx hb d_Net_either_49 rfl (lv_at hl 1 rfl) ?_
    refine lv_dup hx hb d_Net_either_50 rfl ?_
    obtain ⟨kp_10, hk_10⟩ := va_pl_get (X := [(h0, .inr (1, [.int pos, .ref a1, .ref a2, .ref a3, .ref a4, .ref a5]))]) (f := ptF pf_9) hm1
    refine va_getN (D := (dC, dI)) (ci := 3) (v := .int ((pf_9 q1).2.2.2.2)) (C := RX3) (T := TX3) (N := 5) hx hb hts (fun w h => List.mem_cons_of_mem _ (in_X3 w h)) hown hK hP kp_10 hk_10 rfl 4 (by decide) (va_Nw.use rfl (hN _ nl_10)) (fun _ h9 => h9) rfl d_Net_either_51 ?_
    refine lv_aload_n hx hb d_Net_either_54 rfl (lv_at hl 2 rfl) ?_
    obtain ⟨kp_11, hk_11⟩ := va_pl_get (X := [(h0, .inr (1, [.int pos, .ref a1, .ref a2, .ref a3, .ref a4, .ref a5]))]) (f := ptF pf_9) hm2
    refine va_getN (D := (dC, dI)) (ci := 3) (v := .int ((pf_9 q2).2.2.2.2)) (C := RX3) (T := TX3) (N := 5) hx hb hts (fun w h => List.mem_cons_of_mem _ (in_X3 w h)) hown hK hP kp_11 hk_11 rfl 4 (by decide) (va_Nw.use rfl (hN _ nl_10)) (fun _ h9 => h9) rfl d_Net_either_55 ?_
    refine lv_ior hx hb d_Net_either_58 ?_
    obtain ⟨kp_12, hk_12⟩ := va_pl_get (X := [(h0, .inr (1, [.int pos, .ref a1, .ref a2, .ref a3, .ref a4, .ref a5]))]) (f := ptF pf_9) hm1
    refine va_putN (D := (dC, dI)) (ci := 3) (v := .int (((pf_9 q1).2.2.2.2) ||| ((pf_9 q2).2.2.2.2))) (ty := .int) (C := RX3) (T := TX3) (N := 5) hx hb hts (fun w h => List.mem_cons_of_mem _ (in_X3 w h)) tyX3 tyX3_ok nmX3 hown hK hP hD hS kp_12 hk_12 rfl 4 (by decide) (va_Nw.use rfl (hN _ nl_10)) (fun _ h9 => h9) rfl (tyX3_ok 4 (by decide)) rfl rfl (Nat.le_of_ble_eq_true rfl) d_Net_either_59 (fun H locs hP9 hD9 hS => ?_)
    obtain ⟨pf_12, e_12⟩ : ∃ y, y = va_up pf_9 q1 ((pf_9 q1).1, (pf_9 q1).2.1, (pf_9 q1).2.2.1, (pf_9 q1).2.2.2.1, (((pf_9 q1).2.2.2.2) ||| ((pf_9 q2).2.2.2.2))) := ⟨_, rfl⟩
    replace hf := hf pf_12 e_12
    have hP9 := ptF_set (t9 := ((pf_9 q1).1, (pf_9 q1).2.1, (pf_9 q1).2.2.1, (pf_9 q1).2.2.2.1, (((pf_9 q1).2.2.2.2) ||| ((pf_9 q2).2.2.2.2)))) hD hm1 hk_12 hP9
    have hD9 := ptF_setD (t9 := ((pf_9 q1).1, (pf_9 q1).2.1, (pf_9 q1).2.2.1, (pf_9 q1).2.2.2.1, (((pf_9 q1).2.2.2.2) ||| ((pf_9 q2).2.2.2.2)))) hD hm1 hk_12 hD9
    rw [← e_12] at hP9 hD9
    have hP : va_P (dC, dI) clA (@HAppend.hAppend va_W va_W va_W _ [(h0, .inr (1, [.int pos, .ref a1, .ref a2, .ref a3, .ref a4, .ref a5]))] (va_pl LP (ptF pf_12))) H := hP9
    have hD : va_D A (@HAppend.hAppend va_W va_W va_W _ [(h0, .inr (1, [.int pos, .ref a1, .ref a2, .ref a3, .ref a4, .ref a5]))] (va_pl LP (ptF pf_12))) := hD9
    have hP9 := hP.part (cx := [(h0, .inr (1, [.int pos, .ref a1, .ref a2, .ref a3, .ref a4, .ref a5]))]) [0] rfl
    have hD9 := hD.part (cx := [(h0, .inr (1, [.int pos, .ref a1, .ref a2, .ref a3, .ref a4, .ref a5]))]) [0] (by decide) rfl
    refine W_end hQz ?_
    exact W.vret hx hb hr (fun t ht hW => ⟨⟨(pf_12), rfl, hf, P_cg ht.symm hP9, va_K.moved hW.alike hK, hD9⟩, hS.F ht⟩) hS.2.2 d_Net_either_62 hlocks
  · replace hf := hf.2 c_8
    refine lv_aload_n hx hb d_Net_either_34 rfl (lv_at hl 2 rfl) ?_
    obtain ⟨kp_14, hk_14⟩ := va_pl_get (X := [(h0, .inr (1, [.int pos, .ref a1, .ref a2, .ref a3, .ref a4, .ref a5]))]) (f := ptF pf_6) hm2
    refine va_getN (D := (dC, dI)) (ci := 3) (v := .int ((pf_6 q2).2.2.2.1)) (C := RX3) (T := TX3) (N := 5) hx hb hts (fun w h => List.mem_cons_of_mem _ (in_X3 w h)) hown hK hP kp_14 hk_14 rfl 3 (by decide) (va_Nw.use rfl (hN _ nl_8)) (fun _ h9 => h9) rfl d_Net_either_35 ?_
    refine lv_if_eq (tgt := 45) hx hb d_Net_either_38 (by decide) (fun c_15 => ?_) (fun c_15 => ?_)
    · replace hf := hf.1 c_15
      refine lv_iconst (v := 0) hx hb d_Net_either_45 (by decide) ?_
      obtain ⟨kp_16, hk_16⟩ := va_pl_get (X := [(h0, .inr (1, [.int pos, .ref a1, .ref a2, .ref a3, .ref a4, .ref a5]))]) (f := ptF pf_6) hm1
      refine va_putN (D := (dC, dI)) (ci := 3) (v := .int 0) (ty := .boolean) (C := RX3) (T := TX3) (N := 5) hx hb hts (fun w h => List.mem_cons_of_mem _ (in_X3 w h)) tyX3 tyX3_ok nmX3 hown hK hP hD hS kp_16 hk_16 rfl 3 (by decide) (va_Nw.use rfl (hN _ nl_8)) (fun _ h9 => h9) rfl (tyX3_ok 3 (by decide)) (by decide) (by decide) (Nat.le_of_ble_eq_true rfl) d_Net_either_46 (fun H locs hP9 hD9 hS => ?_)
      obtain ⟨pf_16, e_16⟩ : ∃ y, y = va_up pf_6 q1 ((pf_6 q1).1, (pf_6 q1).2.1, (pf_6 q1).2.2.1, 0, (pf_6 q1).2.2.2.2) := ⟨_, rfl⟩
      replace hf := hf pf_16 e_16
      have hP9 := ptF_set (t9 := ((pf_6 q1).1, (pf_6 q1).2.1, (pf_6 q1).2.2.1, 0, (pf_6 q1).2.2.2.2)) hD hm1 hk_16 hP9
      have hD9 := ptF_setD (t9 := ((pf_6 q1).1, (pf_6 q1).2.1, (pf_6 q1).2.2.1, 0, (pf_6 q1).2.2.2.2)) hD hm1 hk_16 hD9
      rw [← e_16] at hP9 hD9
      have hP : va_P (dC, dI) clA (@HAppend.hAppend va_W va_W va_W _ [(h0, .inr (1, [.int pos, .ref a1, .ref a2, .ref a3, .ref a4, .ref a5]))] (va_pl LP (ptF pf_16))) H := hP9
      have hD : va_D A (@HAppend.hAppend va_W va_W va_W _ [(h0, .inr (1, [.int pos, .ref a1, .ref a2, .ref a3, .ref a4, .ref a5]))] (va_pl LP (ptF pf_16))) := hD9
      refine lv_aload_n hx hb d_Net_either_49 rfl (lv_at hl 1 rfl) ?_
      refine lv_dup hx hb d_Net_either_50 rfl ?_
      obtain ⟨kp_17, hk_17⟩ := va_pl_get (X := [(h0, .inr (1, [.int pos, .ref a1, .ref a2, .ref a3, .ref a4, .ref a5]))]) (f := ptF pf_16) hm1
      refine va_getN (D := (dC, dI)) (ci := 3) (v := .int ((pf_16 q1).2.2.2.2)) (C := RX3) (T := TX3) (N := 5) hx hb hts (fun w h => List.mem_cons_of_mem _ (in_X3 w h)) hown hK hP kp_17 hk_17 rfl 4 (by decide) (va_Nw.use rfl (hN _ nl_10)) (fun _ h9 => h9) rfl d_Net_either_51 ?_
      refine lv_aload_n hx hb d_Net_either_54 rfl (lv_at hl 2 rfl) ?_
      obtain ⟨kp_18, hk_18⟩ := va_pl_get (X := [(h0, .inr (1, [.int pos, .ref a1, .ref a2, .ref a3, .ref a4, .ref a5]))]) (f := ptF pf_16) hm2
      refine va_getN (D := (dC, dI)) (ci := 3) (v := .int ((pf_16 q2).2.2.2.2)) (C := RX3) (T := TX3) (N := 5) hx hb hts (fun w h => List.mem_cons_of_mem _ (in_X3 w h)) hown hK hP kp_18 hk_18 rfl 4 (by decide) (va_Nw.use rfl (hN _ nl_10)) (fun _ h9 => h9) rfl d_Net_either_55 ?_
      refine lv_ior hx hb d_Net_either_58 ?_
      obtain ⟨kp_19, hk_19⟩ := va_pl_get (X := [(h0, .inr (1, [.int pos, .ref a1, .ref a2, .ref a3, .ref a4, .ref a5]))]) (f := ptF pf_16) hm1
      refine va_putN (D := (dC, dI)) (ci := 3) (v := .int (((pf_16 q1).2.2.2.2) ||| ((pf_16 q2).2.2.2.2))) (ty := .int) (C := RX3) (T := TX3) (N := 5) hx hb hts (fun w h => List.mem_cons_of_mem _ (in_X3 w h)) tyX3 tyX3_ok nmX3 hown hK hP hD hS kp_19 hk_19 rfl 4 (by decide) (va_Nw.use rfl (hN _ nl_10)) (fun _ h9 => h9) rfl (tyX3_ok 4 (by decide)) rfl rfl (Nat.le_of_ble_eq_true rfl) d_Net_either_59 (fun H locs hP9 hD9 hS => ?_)
      obtain ⟨pf_19, e_19⟩ : ∃ y, y = va_up pf_16 q1 ((pf_16 q1).1, (pf_16 q1).2.1, (pf_16 q1).2.2.1, (pf_16 q1).2.2.2.1, (((pf_16 q1).2.2.2.2) ||| ((pf_16 q2).2.2.2.2))) := ⟨_, rfl⟩
      replace hf := hf pf_19 e_19
      have hP9 := ptF_set (t9 := ((pf_16 q1).1, (pf_16 q1).2.1, (pf_16 q1).2.2.1, (pf_16 q1).2.2.2.1, (((pf_16 q1).2.2.2.2) ||| ((pf_16 q2).2.2.2.2)))) hD hm1 hk_19 hP9
      have hD9 := ptF_setD (t9 := ((pf_16 q1).1, (pf_16 q1).2.1, (pf_16 q1).2.2.1, (pf_16 q1).2.2.2.1, (((pf_16 q1).2.2.2.2) ||| ((pf_16 q2).2.2.2.2)))) hD hm1 hk_19 hD9
      rw [← e_19] at hP9 hD9
      have hP : va_P (dC, dI) clA (@HAppend.hAppend va_W va_W va_W _ [(h0, .inr (1, [.int pos, .ref a1, .ref a2, .ref a3, .ref a4, .ref a5]))] (va_pl LP (ptF pf_19))) H := hP9
      have hD : va_D A (@HAppend.hAppend va_W va_W va_W _ [(h0, .inr (1, [.int pos, .ref a1, .ref a2, .ref a3, .ref a4, .ref a5]))] (va_pl LP (ptF pf_19))) := hD9
      have hP9 := hP.part (cx := [(h0, .inr (1, [.int pos, .ref a1, .ref a2, .ref a3, .ref a4, .ref a5]))]) [0] rfl
      have hD9 := hD.part (cx := [(h0, .inr (1, [.int pos, .ref a1, .ref a2, .ref a3, .ref a4, .ref a5]))]) [0] (by decide) rfl
      refine W_end hQz ?_
      exact W.vret hx hb hr (fun t ht hW => ⟨⟨(pf_19), rfl, hf, P_cg ht.symm hP9, va_K.moved hW.alike hK, hD9⟩, hS.F ht⟩) hS.2.2 d_Net_either_62 hlocks
    · replace hf := hf.2 c_15
      refine lv_iconst (v := 1) hx hb d_Net_either_41 (by decide) ?_
      refine lv_goto (tgt := 46) hx hb d_Net_either_42 (by decide) ?_
      obtain ⟨kp_21, hk_21⟩ := va_pl_get (X := [(h0, .inr (1, [.int pos, .ref a1, .ref a2, .ref a3, .ref a4, .ref a5]))]) (f := ptF pf_6) hm1
      refine va_putN (D := (dC, dI)) (ci := 3) (v := .int 1) (ty := .boolean) (C := RX3) (T := TX3) (N := 5) hx hb hts (fun w h => List.mem_cons_of_mem _ (in_X3 w h)) tyX3 tyX3_ok nmX3 hown hK hP hD hS kp_21 hk_21 rfl 3 (by decide) (va_Nw.use rfl (hN _ nl_8)) (fun _ h9 => h9) rfl (tyX3_ok 3 (by decide)) (by decide) (by decide) (Nat.le_of_ble_eq_true rfl) d_Net_either_46 (fun H locs hP9 hD9 hS => ?_)
      obtain ⟨pf_21, e_21⟩ : ∃ y, y = va_up pf_6 q1 ((pf_6 q1).1, (pf_6 q1).2.1, (pf_6 q1).2.2.1, 1, (pf_6 q1).2.2.2.2) := ⟨_, rfl⟩
      replace hf := hf pf_21 e_21
      have hP9 := ptF_set (t9 := ((pf_6 q1).1, (pf_6 q1).2.1, (pf_6 q1).2.2.1, 1, (pf_6 q1).2.2.2.2)) hD hm1 hk_21 hP9
      have hD9 := ptF_setD (t9 := ((pf_6 q1).1, (pf_6 q1).2.1, (pf_6 q1).2.2.1, 1, (pf_6 q1).2.2.2.2)) hD hm1 hk_21 hD9
      rw [← e_21] at hP9 hD9
      have hP : va_P (dC, dI) clA (@HAppend.hAppend va_W va_W va_W _ [(h0, .inr (1, [.int pos, .ref a1, .ref a2, .ref a3, .ref a4, .ref a5]))] (va_pl LP (ptF pf_21))) H := hP9
      have hD : va_D A (@HAppend.hAppend va_W va_W va_W _ [(h0, .inr (1, [.int pos, .ref a1, .ref a2, .ref a3, .ref a4, .ref a5]))] (va_pl LP (ptF pf_21))) := hD9
      refine lv_aload_n hx hb d_Net_either_49 rfl (lv_at hl 1 rfl) ?_
      refine lv_dup hx hb d_Net_either_50 rfl ?_
      obtain ⟨kp_22, hk_22⟩ := va_pl_get (X := [(h0, .inr (1, [.int pos, .ref a1, .ref a2, .ref a3, .ref a4, .ref a5]))]) (f := ptF pf_21) hm1
      refine va_getN (D := (dC, dI)) (ci := 3) (v := .int ((pf_21 q1).2.2.2.2)) (C := RX3) (T := TX3) (N := 5) hx hb hts (fun w h => List.mem_cons_of_mem _ (in_X3 w h)) hown hK hP kp_22 hk_22 rfl 4 (by decide) (va_Nw.use rfl (hN _ nl_10)) (fun _ h9 => h9) rfl d_Net_either_51 ?_
      refine lv_aload_n hx hb d_Net_either_54 rfl (lv_at hl 2 rfl) ?_
      obtain ⟨kp_23, hk_23⟩ := va_pl_get (X := [(h0, .inr (1, [.int pos, .ref a1, .ref a2, .ref a3, .ref a4, .ref a5]))]) (f := ptF pf_21) hm2
      refine va_getN (D := (dC, dI)) (ci := 3) (v := .int ((pf_21 q2).2.2.2.2)) (C := RX3) (T := TX3) (N := 5) hx hb hts (fun w h => List.mem_cons_of_mem _ (in_X3 w h)) hown hK hP kp_23 hk_23 rfl 4 (by decide) (va_Nw.use rfl (hN _ nl_10)) (fun _ h9 => h9) rfl d_Net_either_55 ?_
      refine lv_ior hx hb d_Net_either_58 ?_
      obtain ⟨kp_24, hk_24⟩ := va_pl_get (X := [(h0, .inr (1, [.int pos, .ref a1, .ref a2, .ref a3, .ref a4, .ref a5]))]) (f := ptF pf_21) hm1
      refine va_putN (D := (dC, dI)) (ci := 3) (v := .int (((pf_21 q1).2.2.2.2) ||| ((pf_21 q2).2.2.2.2))) (ty := .int) (C := RX3) (T := TX3) (N := 5) hx hb hts (fun w h => List.mem_cons_of_mem _ (in_X3 w h)) tyX3 tyX3_ok nmX3 hown hK hP hD hS kp_24 hk_24 rfl 4 (by decide) (va_Nw.use rfl (hN _ nl_10)) (fun _ h9 => h9) rfl (tyX3_ok 4 (by decide)) rfl rfl (Nat.le_of_ble_eq_true rfl) d_Net_either_59 (fun H locs hP9 hD9 hS => ?_)
      obtain ⟨pf_24, e_24⟩ : ∃ y, y = va_up pf_21 q1 ((pf_21 q1).1, (pf_21 q1).2.1, (pf_21 q1).2.2.1, (pf_21 q1).2.2.2.1, (((pf_21 q1).2.2.2.2) ||| ((pf_21 q2).2.2.2.2))) := ⟨_, rfl⟩
      replace hf := hf pf_24 e_24
      have hP9 := ptF_set (t9 := ((pf_21 q1).1, (pf_21 q1).2.1, (pf_21 q1).2.2.1, (pf_21 q1).2.2.2.1, (((pf_21 q1).2.2.2.2) ||| ((pf_21 q2).2.2.2.2)))) hD hm1 hk_24 hP9
      have hD9 := ptF_setD (t9 := ((pf_21 q1).1, (pf_21 q1).2.1, (pf_21 q1).2.2.1, (pf_21 q1).2.2.2.1, (((pf_21 q1).2.2.2.2) ||| ((pf_21 q2).2.2.2.2)))) hD hm1 hk_24 hD9
      rw [← e_24] at hP9 hD9
      have hP : va_P (dC, dI) clA (@HAppend.hAppend va_W va_W va_W _ [(h0, .inr (1, [.int pos, .ref a1, .ref a2, .ref a3, .ref a4, .ref a5]))] (va_pl LP (ptF pf_24))) H := hP9
      have hD : va_D A (@HAppend.hAppend va_W va_W va_W _ [(h0, .inr (1, [.int pos, .ref a1, .ref a2, .ref a3, .ref a4, .ref a5]))] (va_pl LP (ptF pf_24))) := hD9
      have hP9 := hP.part (cx := [(h0, .inr (1, [.int pos, .ref a1, .ref a2, .ref a3, .ref a4, .ref a5]))]) [0] rfl
      have hD9 := hD.part (cx := [(h0, .inr (1, [.int pos, .ref a1, .ref a2, .ref a3, .ref a4, .ref a5]))]) [0] (by decide) rfl
      refine W_end hQz ?_
      exact W.vret hx hb hr (fun t ht hW => ⟨⟨(pf_24), rfl, hf, P_cg ht.symm hP9, va_K.moved hW.alike hK, hD9⟩, hS.F ht⟩) hS.2.2 d_Net_either_62 hlocks
def R_Net_restart  (pos : Int32) (wl : Nat → Int32) (out : Int32 × (Nat → Int32)) : Prop := ∃ v_1, R_Arrays_fill 0 4 wl v_1 ∧ (out = (0, v_1))
set_option maxHeartbeats 4000000 in
set_option maxRecDepth 100000 in
theorem c_Net_restart (l : Launch) (dC : Nat → ClassId) (dI : Nat → Nat → Nat) (cA : Nat → ClassId) (h0 a1 a2 a3 a4 a5 : Nat) (sz : Nat)  (pos : Int32) (wl : Nat → Int32) (out : Int32 × (Nat → Int32)) (hR : R_Net_restart  pos wl out) : Met l y_Net_restart ws_Net_restart ({ frames := 1, cells := 0, slots := 0, locals := 23 }) (va_Pc [.ref h0] (fun U => U.heap.size = sz ∧ va_P (dC, dI) clA [(h0, .inr (1, [.int pos, .ref a1, .ref a2, .ref a3, .ref a4, .ref a5])), (a1, .inl ((cA 0), 4, .inl wl))] U.heap ∧ va_K (dC, dI) clA (tysA cA) U ∧ nW U ∧ va_D (fun _ => True) [(h0, .inr (1, [.int pos, .ref a1, .ref a2, .ref a3, .ref a4, .ref a5])), (a1, .inl ((cA 0), 4, .inl wl))])) (va_Qv (fun u : Int32 × (Nat → Int32) => out = u) (fun (u : Int32 × (Nat → Int32)) (t : State) => va_P (dC, dI) clA [(h0, .inr (1, [.int u.1, .ref a1, .ref a2, .ref a3, .ref a4, .ref a5])), (a1, .inl ((cA 0), 4, .inl u.2))] t.heap ∧ va_K (dC, dI) clA (tysA cA) t ∧ va_D (va_A [(h0, .inr (1, [.int pos, .ref a1, .ref a2, .ref a3, .ref a4, .ref a5])), (a1, .inl ((cA 0), 4, .inl wl))] sz) [(h0, .inr (1, [.int u.1, .ref a1, .ref a2, .ref a3, .ref a4, .ref a5])), (a1, .inl ((cA 0), 4, .inl u.2))]) (va_A [(h0, .inr (1, [.int pos, .ref a1, .ref a2, .ref a3, .ref a4, .ref a5])), (a1, .inl ((cA 0), 4, .inl wl))] sz)) 0 0 (va_A [(h0, .inr (1, [.int pos, .ref a1, .ref a2, .ref a3, .ref a4, .ref a5])), (a1, .inl ((cA 0), 4, .inl wl))] sz) := by
  refine Met.ofW (cc := b_Net_restart) (maxL := 1) (ret := none) (by decide) rfl ?_
  intro p e s m args below meth c s₁ B hml hv
  obtain ⟨rfl, hsz, hP, hK, hN, hD0⟩ := hv
  have hx := B.exec
  have hb := B.bytes
  have hr := B.returns
  have hts := atoms_spec (ws := ws_Net_restart) B.pre
  have hown : s.vm.findClass RX1 = some m.cls := findClass_of_methodNamed B.named
  have hlocks := B.notSynchronized
  subst hsz
  have hD := hD0.self (sz := s.heap.size)
  generalize hAe : va_A [(h0, .inr (1, [.int pos, .ref a1, .ref a2, .ref a3, .ref a4, .ref a5])), (a1, .inl ((cA 0), 4, .inl wl))] s.heap.size = A at hD ⊢
  have hA : ∀ q : Nat, s.heap.size ≤ q → A q := fun q h => by rw [← hAe]; exact Or.inr h
  have hS : va_S A s.heap s.heap [] := va_S.rf
  have hP : va_P (dC, dI) clA [(h0, .inr (1, [.int pos, .ref a1, .ref a2, .ref a3, .ref a4, .ref a5])), (a1, .inl ((cA 0), 4, .inl wl))] s.heap := hP
  have hl := lv_entry ([.ref h0]) (n := 1) (Nat.le_of_ble_eq_true rfl)
  rw [lg_entry_eq]
  generalize (lg_sl ([.ref h0]) ++ List.replicate (1 - (lg_sl ([.ref h0])).length) Slot.unset).toArray = ls at hl ⊢
  have hl : lv_has ls 1 [(0, .ref h0)] := hl
  refine W_gen (fun Qz hQz => ?_)
  have hf := hR
  unfold R_Net_restart at hf
  refine lv_aload_n hx hb d_Net_restart_0 rfl (lv_at hl 0 rfl) ?_
  refine lv_iconst (v := 0) hx hb d_Net_restart_1 (by decide) ?_
  refine va_put (D := (dC, dI)) (ci := 1) (v := .int 0) (ty := .int) (C := RX1) (T := TX1) (N := 6) hx hb hts (fun w h => List.mem_cons_of_mem _ (in_X1 w h)) tyX1 tyX1_ok nmX1 hown hK hP hD hS 0 rfl rfl 0 (by decide) (hts _ (List.mem_cons_of_mem _ k_94)) (fun _ h9 => h9) rfl (tyX1_ok 0 (by decide)) rfl rfl (Nat.le_of_ble_eq_true rfl) d_Net_restart_2 (fun H locs hP hD hS => ?_)
  have hP : va_P (dC, dI) clA [(h0, .inr (1, [.int 0, .ref a1, .ref a2, .ref a3, .ref a4, .ref a5])), (a1, .inl ((cA 0), 4, .inl wl))] H := hP
  have hD : va_D A [(h0, .inr (1, [.int 0, .ref a1, .ref a2, .ref a3, .ref a4, .ref a5])), (a1, .inl ((cA 0), 4, .inl wl))] := hD
  refine lv_aload_n hx hb d_Net_restart_5 rfl (lv_at hl 0 rfl) ?_
  refine va_get (D := (dC, dI)) (ci := 1) (v := .ref a1) (C := RX1) (T := TX1) (N := 6) hx hb hts (fun w h => List.mem_cons_of_mem _ (in_X1 w h)) hown hK hP 0 rfl rfl 1 (by decide) (hts _ (List.mem_cons_of_mem _ k_96)) (fun _ h9 => h9) rfl d_Net_restart_6 ?_
  refine lv_iconst (v := 0) hx hb d_Net_restart_9 (by decide) ?_
  obtain ⟨v_1, hv_1, hf⟩ := hf
  have hPc := hP.sub (ws' := [(a1, .inl ((cA 0), 4, .inl wl))]) [1] rfl
  have hDc := hD.sub (ws' := [(a1, .inl ((cA 0), 4, .inl wl))]) [1] (by decide) rfl
  have hFc := va_free (wc := [(a1, .inl ((cA 0), 4, .inl wl))]) hD hS hA [1] rfl
  refine va_callv (va_runS (As := [.ref a1, .int 0]) (rest := []) ⟨hx, hb, hml, hown, hts⟩ (c_Arrays_fill l dC dI cA a1 H.size 0 4 wl v_1 hv_1) (va_cwS 2 hts (gS9 k_386 k_387 k_62 k_388) rfl rfl rfl hs_Arrays_fill ⟨Nat.le_of_ble_eq_true rfl, Nat.le_of_ble_eq_true rfl⟩) ⟨fun a U g mk q => by obtain ⟨q0, q1, qP, qK, qN, qD⟩ := q; exact ⟨q0, q1, qP, va_K.moved (u := U) (U := U.calling g mk a) (Vm.Alike.refl U.vm) qK, nW_same (u := U) (U := U.calling g mk a) rfl qN, qD⟩, fun U hU hW => ⟨rfl, congrArg _ hU, P_cg hU.symm hPc, va_K.moved hW.alike hK, nW_warm hW hN, hDc.weaken (fun _ _ _ _ => trivial)⟩⟩ rfl rfl hl.1 rfl (lv_room (Nat.le_of_ble_eq_true rfl)) d_Net_restart_10 ⟨Nat.zero_le _, Nat.zero_le _⟩) hS (fun q _ h => hFc q h) hFc (fun u t H locs ht hvm hw hB hz1 hk1 hS => ?_)
  subst hw
  obtain ⟨hP1, hK1, hD1⟩ := hB
  replace hP1 := P_cg ht hP1
  obtain ⟨hP, hD⟩ := va_join (wc := [(a1, .inl ((cA 0), 4, .inl wl))]) (wr := [(h0, .inr (1, [.int 0, .ref a1, .ref a2, .ref a3, .ref a4, .ref a5]))]) (w1 := [(a1, .inl ((cA 0), 4, .inl v_1))]) hP hD [1] [0] rfl rfl (by decide) (by decide) hk1 hFc hP1 hD1
  have hP : va_P (dC, dI) clA [(h0, .inr (1, [.int 0, .ref a1, .ref a2, .ref a3, .ref a4, .ref a5])), (a1, .inl ((cA 0), 4, .inl v_1))] H := hP
  have hD : va_D A [(h0, .inr (1, [.int 0, .ref a1, .ref a2, .ref a3, .ref a4, .ref a5])), (a1, .inl ((cA 0), 4, .inl v_1))] := hD
  have hP9 := hP.sub (ws' := [(h0, .inr (1, [.int 0, .ref a1, .ref a2, .ref a3, .ref a4, .ref a5])), (a1, .inl ((cA 0), 4, .inl v_1))]) [0, 1] rfl
  have hD9 := hD.sub (ws' := [(h0, .inr (1, [.int 0, .ref a1, .ref a2, .ref a3, .ref a4, .ref a5])), (a1, .inl ((cA 0), 4, .inl v_1))]) [0, 1] (by decide) rfl
  refine W_end hQz ?_
  exact W.vret hx hb hr (fun t ht hW => ⟨⟨(0, v_1), rfl, hf, P_cg ht.symm hP9, va_K.moved hW.alike hK, hD9⟩, hS.F ht⟩) hS.2.2 d_Net_restart_13 hlocks
def g_Net_addPosition (p1 : Int32) (q0 : Nat) : Nat → Nat → Int32 → Int32 → Int32 → (Nat → Int32) → (Nat → Int32) → (Nat → Int32) → (Nat → Int32) → (Nat → Int32) → (Nat → PT) → (Int32 × (Nat → Int32) × (Nat → Int32) × (Nat → Int32) × (Nat → Int32) × (Nat → Int32) × (Nat → PT)) → Prop
  | 0, _, _, _, _, _, _, _, _, _, _, _ => False
  | n + 1, k, x3, x4, pos, wl, fa, la, sp, sa, pf, out => match k with
    | 1 => ((4 ≤ x4) → (vp_in x3 30 ∧ (vp_in x3 30 ∧ (vp_in x3 30 ∧ (∃ v_5, R_Arrays_fillR (x3 * 30) ((x3 + 1) * 30) 0 900 sa v_5 ∧ (∃ v_6, R_Part_becomePosition q0 x3 pf v_6 ∧ (out = ((pos + 1), wl, (upd fa x3.toNatClampNeg 0), (upd la x3.toNatClampNeg 0), (upd sp x3.toNatClampNeg 0), v_5, v_6)))))))) ∧ (¬ (4 ≤ x4) → (((((p1 >>> (x4 &&& 31)) &&& 1) = 0) → (g_Net_addPosition p1 q0 n 1 x3 (x4 + 1) pos wl fa la sp sa pf out)) ∧ (¬ (((p1 >>> (x4 &&& 31)) &&& 1) = 0) → (vp_in x4 4 ∧ (vp_in x4 4 ∧ (g_Net_addPosition p1 q0 n 1 x3 (x4 + 1) pos (upd wl x4.toNatClampNeg ((wl x4.toNatClampNeg) ||| (1 <<< (x3 &&& 31)))) fa la sp sa pf out))))))
    | _ => False
theorem g_Net_addPosition_1 (p1 : Int32) (q0 : Nat) (n : Nat) (x3 : Int32) (x4 : Int32) (pos : Int32) (wl : Nat → Int32) (fa : Nat → Int32) (la : Nat → Int32) (sp : Nat → Int32) (sa : Nat → Int32) (pf : Nat → PT) (out : Int32 × (Nat → Int32) × (Nat → Int32) × (Nat → Int32) × (Nat → Int32) × (Nat → Int32) × (Nat → PT)) : g_Net_addPosition p1 q0 (n + 1) 1 x3 x4 pos wl fa la sp sa pf out = (((4 ≤ x4) → (vp_in x3 30 ∧ (vp_in x3 30 ∧ (vp_in x3 30 ∧ (∃ v_5, R_Arrays_fillR (x3 * 30) ((x3 + 1) * 30) 0 900 sa v_5 ∧ (∃ v_6, R_Part_becomePosition q0 x3 pf v_6 ∧ (out = ((pos + 1), wl, (upd fa x3.toNatClampNeg 0), (upd la x3.toNatClampNeg 0), (upd sp x3.toNatClampNeg 0), v_5, v_6)))))))) ∧ (¬ (4 ≤ x4) → (((((p1 >>> (x4 &&& 31)) &&& 1) = 0) → (g_Net_addPosition p1 q0 n 1 x3 (x4 + 1) pos wl fa la sp sa pf out)) ∧ (¬ (((p1 >>> (x4 &&& 31)) &&& 1) = 0) → (vp_in x4 4 ∧ (vp_in x4 4 ∧ (g_Net_addPosition p1 q0 n 1 x3 (x4 + 1) pos (upd wl x4.toNatClampNeg ((wl x4.toNatClampNeg) ||| (1 <<< (x3 &&& 31)))) fa la sp sa pf out))))))) := rfl
def R_Net_addPosition (p1 : Int32) (q0 : Nat) (pos : Int32) (wl : Nat → Int32) (fa : Nat → Int32) (la : Nat → Int32) (sp : Nat → Int32) (sa : Nat → Int32) (pf : Nat → PT) (out : Int32 × (Nat → Int32) × (Nat → Int32) × (Nat → Int32) × (Nat → Int32) × (Nat → Int32) × (Nat → PT)) : Prop := (∃ n, g_Net_addPosition p1 q0 n 1 pos 0 pos wl fa la sp sa pf out)
set_option maxHeartbeats 4000000 in
set_option maxRecDepth 100000 in
theorem c_Net_addPosition (l : Launch) (dC : Nat → ClassId) (dI : Nat → Nat → Nat) (cA : Nat → ClassId) (h0 a1 a2 a3 a4 a5 q0 : Nat) (LP : List Nat) (hm0 : q0 ∈ LP) (sz : Nat) (p1 : Int32) (pos : Int32) (wl : Nat → Int32) (fa : Nat → Int32) (la : Nat → Int32) (sp : Nat → Int32) (sa : Nat → Int32) (pf : Nat → PT) (out : Int32 × (Nat → Int32) × (Nat → Int32) × (Nat → Int32) × (Nat → Int32) × (Nat → Int32) × (Nat → PT)) (hR : R_Net_addPosition p1 q0 pos wl fa la sp sa pf out) : Met l y_Net_addPosition ws_Net_addPosition ({ frames := 2, cells := 0, slots := 0, locals := 46 }) (va_Pc [.ref h0, .int p1, .ref q0] (fun U => U.heap.size = sz ∧ va_P (dC, dI) clA (@HAppend.hAppend va_W va_W va_W _ [(h0, .inr (1, [.int pos, .ref a1, .ref a2, .ref a3, .ref a4, .ref a5])), (a1, .inl ((cA 0), 4, .inl wl)), (a2, .inl ((cA 0), 30, .inl fa)), (a3, .inl ((cA 0), 30, .inl la)), (a4, .inl ((cA 0), 30, .inl sp)), (a5, .inl ((cA 0), 900, .inl sa))] (va_pl LP (ptF pf))) U.heap ∧ va_K (dC, dI) clA (tysA cA) U ∧ nW U ∧ va_D (fun _ => True) (@HAppend.hAppend va_W va_W va_W _ [(h0, .inr (1, [.int pos, .ref a1, .ref a2, .ref a3, .ref a4, .ref a5])), (a1, .inl ((cA 0), 4, .inl wl)), (a2, .inl ((cA 0), 30, .inl fa)), (a3, .inl ((cA 0), 30, .inl la)), (a4, .inl ((cA 0), 30, .inl sp)), (a5, .inl ((cA 0), 900, .inl sa))] (va_pl LP (ptF pf))))) (va_Qv (fun u : Int32 × (Nat → Int32) × (Nat → Int32) × (Nat → Int32) × (Nat → Int32) × (Nat → Int32) × (Nat → PT) => out = u) (fun (u : Int32 × (Nat → Int32) × (Nat → Int32) × (Nat → Int32) × (Nat → Int32) × (Nat → Int32) × (Nat → PT)) (t : State) => va_P (dC, dI) clA (@HAppend.hAppend va_W va_W va_W _ [(h0, .inr (1, [.int u.1, .ref a1, .ref a2, .ref a3, .ref a4, .ref a5])), (a1, .inl ((cA 0), 4, .inl u.2.1)), (a2, .inl ((cA 0), 30, .inl u.2.2.1)), (a3, .inl ((cA 0), 30, .inl u.2.2.2.1)), (a4, .inl ((cA 0), 30, .inl u.2.2.2.2.1)), (a5, .inl ((cA 0), 900, .inl u.2.2.2.2.2.1))] (va_pl LP (ptF u.2.2.2.2.2.2))) t.heap ∧ va_K (dC, dI) clA (tysA cA) t ∧ va_D (va_A (@HAppend.hAppend va_W va_W va_W _ [(h0, .inr (1, [.int pos, .ref a1, .ref a2, .ref a3, .ref a4, .ref a5])), (a1, .inl ((cA 0), 4, .inl wl)), (a2, .inl ((cA 0), 30, .inl fa)), (a3, .inl ((cA 0), 30, .inl la)), (a4, .inl ((cA 0), 30, .inl sp)), (a5, .inl ((cA 0), 900, .inl sa))] (va_pl LP (ptF pf))) sz) (@HAppend.hAppend va_W va_W va_W _ [(h0, .inr (1, [.int u.1, .ref a1, .ref a2, .ref a3, .ref a4, .ref a5])), (a1, .inl ((cA 0), 4, .inl u.2.1)), (a2, .inl ((cA 0), 30, .inl u.2.2.1)), (a3, .inl ((cA 0), 30, .inl u.2.2.2.1)), (a4, .inl ((cA 0), 30, .inl u.2.2.2.2.1)), (a5, .inl ((cA 0), 900, .inl u.2.2.2.2.2.1))] (va_pl LP (ptF u.2.2.2.2.2.2)))) (va_A (@HAppend.hAppend va_W va_W va_W _ [(h0, .inr (1, [.int pos, .ref a1, .ref a2, .ref a3, .ref a4, .ref a5])), (a1, .inl ((cA 0), 4, .inl wl)), (a2, .inl ((cA 0), 30, .inl fa)), (a3, .inl ((cA 0), 30, .inl la)), (a4, .inl ((cA 0), 30, .inl sp)), (a5, .inl ((cA 0), 900, .inl sa))] (va_pl LP (ptF pf))) sz)) 0 0 (va_A (@HAppend.hAppend va_W va_W va_W _ [(h0, .inr (1, [.int pos, .ref a1, .ref a2, .ref a3, .ref a4, .ref a5])), (a1, .inl ((cA 0), 4, .inl wl)), (a2, .inl ((cA 0), 30, .inl fa)), (a3, .inl ((cA 0), 30, .inl la)), (a4, .inl ((cA 0), 30, .inl sp)), (a5, .inl ((cA 0), 900, .inl sa))] (va_pl LP (ptF pf))) sz) := by
  refine Met.ofW (cc := b_Net_addPosition) (maxL := 5) (ret := none) (by decide) rfl ?_
  intro p e s m args below meth c s₁ B hml hv
  obtain ⟨rfl, hsz, hP, hK, hN, hD0⟩ := hv
  have hx := B.exec
  have hb := B.bytes
  have hr := B.returns
  have hts := atoms_spec (ws := ws_Net_addPosition) B.pre
  have hown : s.vm.findClass RX1 = some m.cls := findClass_of_methodNamed B.named
  have hlocks := B.notSynchronized
  subst hsz
  have hD := hD0.self (sz := s.heap.size)
  generalize hAe : va_A (@HAppend.hAppend va_W va_W va_W _ [(h0, .inr (1, [.int pos, .ref a1, .ref a2, .ref a3, .ref a4, .ref a5])), (a1, .inl ((cA 0), 4, .inl wl)), (a2, .inl ((cA 0), 30, .inl fa)), (a3, .inl ((cA 0), 30, .inl la)), (a4, .inl ((cA 0), 30, .inl sp)), (a5, .inl ((cA 0), 900, .inl sa))] (va_pl LP (ptF pf))) s.heap.size = A at hD ⊢
  have hA : ∀ q : Nat, s.heap.size ≤ q → A q := fun q h => by rw [← hAe]; exact Or.inr h
  have hS : va_S A s.heap s.heap [] := va_S.rf
  have hP : va_P (dC, dI) clA (@HAppend.hAppend va_W va_W va_W _ [(h0, .inr (1, [.int pos, .ref a1, .ref a2, .ref a3, .ref a4, .ref a5])), (a1, .inl ((cA 0), 4, .inl wl)), (a2, .inl ((cA 0), 30, .inl fa)), (a3, .inl ((cA 0), 30, .inl la)), (a4, .inl ((cA 0), 30, .inl sp)), (a5, .inl ((cA 0), 900, .inl sa))] (va_pl LP (ptF pf))) s.heap := hP
  have hl := lv_entry ([.ref h0, .int p1, .ref q0]) (n := 5) (Nat.le_of_ble_eq_true rfl)
  rw [lg_entry_eq]
  generalize (lg_sl ([.ref h0, .int p1, .ref q0]) ++ List.replicate (5 - (lg_sl ([.ref h0, .int p1, .ref q0])).length) Slot.unset).toArray = ls at hl ⊢
  have hl : lv_has ls 5 [(0, .ref h0), (1, .int p1), (2, .ref q0)] := hl
  refine W_gen (fun Qz hQz => ?_)
  have hC : ∀ n : Nat, (∀ (x3 : Int32) (x4 : Int32) (pos : Int32) (wl : Nat → Int32) (fa : Nat → Int32) (la : Nat → Int32) (sp : Nat → Int32) (sa : Nat → Int32) (pf : Nat → PT) (H : Heap) (locs : List Loc) (ls : Array Slot), g_Net_addPosition p1 q0 n 1 x3 x4 pos wl fa la sp sa pf out → va_P (dC, dI) clA (@HAppend.hAppend va_W va_W va_W _ [(h0, .inr (1, [.int pos, .ref a1, .ref a2, .ref a3, .ref a4, .ref a5])), (a1, .inl ((cA 0), 4, .inl wl)), (a2, .inl ((cA 0), 30, .inl fa)), (a3, .inl ((cA 0), 30, .inl la)), (a4, .inl ((cA 0), 30, .inl sp)), (a5, .inl ((cA 0), 900, .inl sa))] (va_pl LP (ptF pf))) H → va_D A (@HAppend.hAppend va_W va_W va_W _ [(h0, .inr (1, [.int pos, .ref a1, .ref a2, .ref a3, .ref a4, .ref a5])), (a1, .inl ((cA 0), 4, .inl wl)), (a2, .inl ((cA 0), 30, .inl fa)), (a3, .inl ((cA 0), 30, .inl la)), (a4, .inl ((cA 0), 30, .inl sp)), (a5, .inl ((cA 0), 900, .inl sa))] (va_pl LP (ptF pf))) → va_S A s.heap H locs → lv_has ls 5 [(0, .ref h0), (1, .int p1), (2, .ref q0), (3, .int x3), (4, .int x4)] → W p l e ({ frames := 2, cells := 0, slots := 0, locals := 46 }) s m ([.ref h0, .int p1, .ref q0]).toArray below meth c H locs 0 0 Qz (F0 m 8 ls [])) := by
    intro n
    induction n with
    | zero => exact fun _ _ _ _ _ _ _ _ _ _ _ _ hf => hf.elim
    | succ n ih =>
      have ih1 := ih
      · intro x3 x4 pos wl fa la sp sa pf H locs ls hf hP hD hS hl
        rw [g_Net_addPosition_1] at hf
        refine lv_iload hx hb d_Net_addPosition_8 (lv_at hl 4 rfl) ?_
        refine lv_iconst (v := 4) hx hb d_Net_addPosition_10 (by decide) ?_
        refine lv_icmp_ge (tgt := 42) hx hb d_Net_addPosition_11 (by decide) (fun c_1 => ?_) (fun c_1 => ?_)
        · replace hf := hf.1 c_1
          refine lv_aload_n hx hb d_Net_addPosition_42 rfl (lv_at hl 0 rfl) ?_
          refine va_get (D := (dC, dI)) (ci := 1) (v := .ref a2) (C := RX1) (T := TX1) (N := 6) hx hb hts (fun w h => List.mem_cons_of_mem _ (in_X1 w h)) hown hK hP 0 rfl rfl 2 (by decide) (hts _ (List.mem_cons_of_mem _ k_98)) (fun _ h9 => h9) rfl d_Net_addPosition_43 ?_
          refine lv_iload_n hx hb d_Net_addPosition_46 rfl (lv_at hl 3 rfl) ?_
          refine lv_iconst (v := 0) hx hb d_Net_addPosition_47 (by decide) ?_
          obtain ⟨h_2, hf⟩ := hf
          refine va_iast hx hb hK hP hD hS 2 0 rfl rfl h_2 d_Net_addPosition_48 (fun H locs hP hD hS => ?_)
          have hP : va_P (dC, dI) clA (@HAppend.hAppend va_W va_W va_W _ [(h0, .inr (1, [.int pos, .ref a1, .ref a2, .ref a3, .ref a4, .ref a5])), (a1, .inl ((cA 0), 4, .inl wl)), (a2, .inl ((cA 0), 30, .inl (upd fa x3.toNatClampNeg 0))), (a3, .inl ((cA 0), 30, .inl la)), (a4, .inl ((cA 0), 30, .inl sp)), (a5, .inl ((cA 0), 900, .inl sa))] (va_pl LP (ptF pf))) H := hP
          have hD : va_D A (@HAppend.hAppend va_W va_W va_W _ [(h0, .inr (1, [.int pos, .ref a1, .ref a2, .ref a3, .ref a4, .ref a5])), (a1, .inl ((cA 0), 4, .inl wl)), (a2, .inl ((cA 0), 30, .inl (upd fa x3.toNatClampNeg 0))), (a3, .inl ((cA 0), 30, .inl la)), (a4, .inl ((cA 0), 30, .inl sp)), (a5, .inl ((cA 0), 900, .inl sa))] (va_pl LP (ptF pf))) := hD
          refine lv_aload_n hx hb d_Net_addPosition_49 rfl (lv_at hl 0 rfl) ?_
          refine va_get (D := (dC, dI)) (ci := 1) (v := .ref a3) (C := RX1) (T := TX1) (N := 6) hx hb hts (fun w h => List.mem_cons_of_mem _ (in_X1 w h)) hown hK hP 0 rfl rfl 3 (by decide) (hts _ (List.mem_cons_of_mem _ k_99)) (fun _ h9 => h9) rfl d_Net_addPosition_50 ?_
          refine lv_iload_n hx hb d_Net_addPosition_53 rfl (lv_at hl 3 rfl) ?_
          refine lv_iconst (v := 0) hx hb d_Net_addPosition_54 (by decide) ?_
          obtain ⟨h_3, hf⟩ := hf
          refine va_iast hx hb hK hP hD hS 3 0 rfl rfl h_3 d_Net_addPosition_55 (fun H locs hP hD hS => ?_)
          have hP : va_P (dC, dI) clA (@HAppend.hAppend va_W va_W va_W _ [(h0, .inr (1, [.int pos, .ref a1, .ref a2, .ref a3, .ref a4, .ref a5])), (a1, .inl ((cA 0), 4, .inl wl)), (a2, .inl ((cA 0), 30, .inl (upd fa x3.toNatClampNeg 0))), (a3, .inl ((cA 0), 30, .inl (upd la x3.toNatClampNeg 0))), (a4, .inl ((cA 0), 30, .inl sp)), (a5, .inl ((cA 0), 900, .inl sa))] (va_pl LP (ptF pf))) H := hP
          have hD : va_D A (@HAppend.hAppend va_W va_W va_W _ [(h0, .inr (1, [.int pos, .ref a1, .ref a2, .ref a3, .ref a4, .ref a5])), (a1, .inl ((cA 0), 4, .inl wl)), (a2, .inl ((cA 0), 30, .inl (upd fa x3.toNatClampNeg 0))), (a3, .inl ((cA 0), 30, .inl (upd la x3.toNatClampNeg 0))), (a4, .inl ((cA 0), 30, .inl sp)), (a5, .inl ((cA 0), 900, .inl sa))] (va_pl LP (ptF pf))) := hD
          refine lv_aload_n hx hb d_Net_addPosition_56 rfl (lv_at hl 0 rfl) ?_
          refine va_get (D := (dC, dI)) (ci := 1) (v := .ref a4) (C := RX1) (T := TX1) (N := 6) hx hb hts (fun w h => List.mem_cons_of_mem _ (in_X1 w h)) hown hK hP 0 rfl rfl 4 (by decide) (hts _ (List.mem_cons_of_mem _ k_100)) (fun _ h9 => h9) rfl d_Net_addPosition_57 ?_
          refine lv_iload_n hx hb d_Net_addPosition_60 rfl (lv_at hl 3 rfl) ?_
          refine lv_iconst (v := 0) hx hb d_Net_addPosition_61 (by decide) ?_
          obtain ⟨h_4, hf⟩ := hf
          refine va_iast hx hb hK hP hD hS 4 0 rfl rfl h_4 d_Net_addPosition_62 (fun H locs hP hD hS => ?_)
          have hP : va_P (dC, dI) clA (@HAppend.hAppend va_W va_W va_W _ [(h0, .inr (1, [.int pos, .ref a1, .ref a2, .ref a3, .ref a4, .ref a5])), (a1, .inl ((cA 0), 4, .inl wl)), (a2, .inl ((cA 0), 30, .inl (upd fa x3.toNatClampNeg 0))), (a3, .inl ((cA 0), 30, .inl (upd la x3.toNatClampNeg 0))), (a4, .inl ((cA 0), 30, .inl (upd sp x3.toNatClampNeg 0))), (a5, .inl ((cA 0), 900, .inl sa))] (va_pl LP (ptF pf))) H := hP
          have hD : va_D A (@HAppend.hAppend va_W va_W va_W _ [(h0, .inr (1, [.int pos, .ref a1, .ref a2, .ref a3, .ref a4, .ref a5])), (a1, .inl ((cA 0), 4, .inl wl)), (a2, .inl ((cA 0), 30, .inl (upd fa x3.toNatClampNeg 0))), (a3, .inl ((cA 0), 30, .inl (upd la x3.toNatClampNeg 0))), (a4, .inl ((cA 0), 30, .inl (upd sp x3.toNatClampNeg 0))), (a5, .inl ((cA 0), 900, .inl sa))] (va_pl LP (ptF pf))) := hD
          refine lv_aload_n hx hb d_Net_addPosition_63 rfl (lv_at hl 0 rfl) ?_
          refine va_get (D := (dC, dI)) (ci := 1) (v := .ref a5) (C := RX1) (T := TX1) (N := 6) hx hb hts (fun w h => List.mem_cons_of_mem _ (in_X1 w h)) hown hK hP 0 rfl rfl 5 (by decide) (hts _ (List.mem_cons_of_mem _ k_102)) (fun _ h9 => h9) rfl d_Net_addPosition_64 ?_
          refine lv_iload_n hx hb d_Net_addPosition_67 rfl (lv_at hl 3 rfl) ?_
          refine lv_bipush (v := 30) hx hb d_Net_addPosition_68 (by decide) ?_
          refine lv_imul hx hb d_Net_addPosition_70 ?_
          refine lv_iload_n hx hb d_Net_addPosition_71 rfl (lv_at hl 3 rfl) ?_
          refine lv_iconst (v := 1) hx hb d_Net_addPosition_72 (by decide) ?_
          refine lv_iadd hx hb d_Net_addPosition_73 ?_
          refine lv_bipush (v := 30) hx hb d_Net_addPosition_74 (by decide) ?_
          refine lv_imul hx hb d_Net_addPosition_76 ?_
          refine lv_iconst (v := 0) hx hb d_Net_addPosition_77 (by decide) ?_
          obtain ⟨v_5, hv_5, hf⟩ := hf
          have hPc := hP.sub (ws' := [(a5, .inl ((cA 0), 900, .inl sa))]) [5] rfl
          have hDc := hD.sub (ws' := [(a5, .inl ((cA 0), 900, .inl sa))]) [5] (by decide) rfl
          have hFc := va_free (wc := [(a5, .inl ((cA 0), 900, .inl sa))]) hD hS hA [5] rfl
          refine va_callv (va_runS (As := [.ref a5, .int (x3 * 30), .int ((x3 + 1) * 30), .int 0]) (rest := []) ⟨hx, hb, hml, hown, hts⟩ (c_Arrays_fillR l dC dI cA a5 H.size (x3 * 30) ((x3 + 1) * 30) 0 900 sa v_5 hv_5) (va_cwS 4 hts (gS9 k_442 k_443 k_62 k_444) rfl rfl rfl hs_Arrays_fillR ⟨Nat.le_of_ble_eq_true rfl, Nat.le_of_ble_eq_true rfl⟩) ⟨fun a U g mk q => by obtain ⟨q0, q1, qP, qK, qN, qD⟩ := q; exact ⟨q0, q1, qP, va_K.moved (u := U) (U := U.calling g mk a) (Vm.Alike.refl U.vm) qK, nW_same (u := U) (U := U.calling g mk a) rfl qN, qD⟩, fun U hU hW => ⟨rfl, congrArg _ hU, P_cg hU.symm hPc, va_K.moved hW.alike hK, nW_warm hW hN, hDc.weaken (fun _ _ _ _ => trivial)⟩⟩ rfl rfl hl.1 rfl (lv_room (Nat.le_of_ble_eq_true rfl)) d_Net_addPosition_78 ⟨Nat.zero_le _, Nat.zero_le _⟩) hS (fun q _ h => hFc q h) hFc (fun u t H locs ht hvm hw hB hz1 hk1 hS => ?_)
          subst hw
          obtain ⟨hP1, hK1, hD1⟩ := hB
          replace hP1 := P_cg ht hP1
          obtain ⟨hP, hD⟩ := va_joinQ (cx := [(a5, .inl ((cA 0), 900, .inl sa))]) (wr := [(h0, .inr (1, [.int pos, .ref a1, .ref a2, .ref a3, .ref a4, .ref a5])), (a1, .inl ((cA 0), 4, .inl wl)), (a2, .inl ((cA 0), 30, .inl (upd fa x3.toNatClampNeg 0))), (a3, .inl ((cA 0), 30, .inl (upd la x3.toNatClampNeg 0))), (a4, .inl ((cA 0), 30, .inl (upd sp x3.toNatClampNeg 0)))]) (w1 := [(a5, .inl ((cA 0), 900, .inl v_5))]) hP hD [5] [0, 1, 2, 3, 4] rfl rfl (by decide) (by decide) hk1 hFc hP1 hD1
          have hP : va_P (dC, dI) clA (@HAppend.hAppend va_W va_W va_W _ [(h0, .inr (1, [.int pos, .ref a1, .ref a2, .ref a3, .ref a4, .ref a5])), (a1, .inl ((cA 0), 4, .inl wl)), (a2, .inl ((cA 0), 30, .inl (upd fa x3.toNatClampNeg 0))), (a3, .inl ((cA 0), 30, .inl (upd la x3.toNatClampNeg 0))), (a4, .inl ((cA 0), 30, .inl (upd sp x3.toNatClampNeg 0))), (a5, .inl ((cA 0), 900, .inl v_5))] (va_pl LP (ptF pf))) H := hP
          have hD : va_D A (@HAppend.hAppend va_W va_W va_W _ [(h0, .inr (1, [.int pos, .ref a1, .ref a2, .ref a3, .ref a4, .ref a5])), (a1, .inl ((cA 0), 4, .inl wl)), (a2, .inl ((cA 0), 30, .inl (upd fa x3.toNatClampNeg 0))), (a3, .inl ((cA 0), 30, .inl (upd la x3.toNatClampNeg 0))), (a4, .inl ((cA 0), 30, .inl (upd sp x3.toNatClampNeg 0))), (a5, .inl ((cA 0), 900, .inl v_5))] (va_pl LP (ptF pf))) := hD
          refine lv_aload_n hx hb d_Net_addPosition_81 rfl (lv_at hl 2 rfl) ?_
          refine lv_iload_n hx hb d_Net_addPosition_82 rfl (lv_at hl 3 rfl) ?_
          obtain ⟨v_6, hv_6, hf⟩ := hf
          have hPc := hP.part (cx := []) [] rfl
          have hDc := hD.part (cx := []) [] (by decide) rfl
          have hFc := va_freeP (cx := []) hD hS hA [] rfl
          obtain ⟨kp_6, hk_6⟩ := va_pl_get (X := []) (f := ptF pf) hm0
          refine va_callv (va_runV (As := [.int x3]) (rest := []) ⟨hx, hb, hml, hown, hts⟩ (c_Part_becomePosition l dC dI cA q0 LP hm0 H.size x3 pf v_6 hv_6) (cwV 1 hts (gV9 k_700 k_701 k_702 k_52 k_703) rfl rfl rfl hv_Part_becomePosition ⟨Nat.le_of_ble_eq_true rfl, Nat.le_of_ble_eq_true rfl⟩) ⟨fun a U g mk q => by obtain ⟨q0, q1, qP, qK, qN, qD⟩ := q; exact ⟨q0, q1, qP, va_K.moved (u := U) (U := U.calling g mk a) (Vm.Alike.refl U.vm) qK, nW_same (u := U) (U := U.calling g mk a) rfl qN, qD⟩, va_recv hK hPc (ci := 3) (q0 := kp_6) rfl hk_6, fun U hU hW => ⟨rfl, congrArg _ hU, P_cg hU.symm hPc, va_K.moved hW.alike hK, nW_warm hW hN, hDc.weaken (fun _ _ _ _ => trivial)⟩⟩ rfl rfl hl.1 rfl (lv_room (Nat.le_of_ble_eq_true rfl)) d_Net_addPosition_83 ⟨Nat.zero_le _, Nat.zero_le _⟩) hS (fun q _ h => hFc q h) hFc (fun u t H locs ht hvm hw hB hz1 hk1 hS => ?_)
          subst hw
          obtain ⟨hP1, hK1, hD1⟩ := hB
          replace hP1 := P_cg ht hP1
          obtain ⟨hP, hD⟩ := va_joinP (cx := []) (wr := [(h0, .inr (1, [.int pos, .ref a1, .ref a2, .ref a3, .ref a4, .ref a5])), (a1, .inl ((cA 0), 4, .inl wl)), (a2, .inl ((cA 0), 30, .inl (upd fa x3.toNatClampNeg 0))), (a3, .inl ((cA 0), 30, .inl (upd la x3.toNatClampNeg 0))), (a4, .inl ((cA 0), 30, .inl (upd sp x3.toNatClampNeg 0))), (a5, .inl ((cA 0), 900, .inl v_5))]) (rx := []) hP hD [] [0, 1, 2, 3, 4, 5] rfl rfl (by decide) (by decide) hk1 hFc hP1 hD1
          have hP : va_P (dC, dI) clA (@HAppend.hAppend va_W va_W va_W _ [(h0, .inr (1, [.int pos, .ref a1, .ref a2, .ref a3, .ref a4, .ref a5])), (a1, .inl ((cA 0), 4, .inl wl)), (a2, .inl ((cA 0), 30, .inl (upd fa x3.toNatClampNeg 0))), (a3, .inl ((cA 0), 30, .inl (upd la x3.toNatClampNeg 0))), (a4, .inl ((cA 0), 30, .inl (upd sp x3.toNatClampNeg 0))), (a5, .inl ((cA 0), 900, .inl v_5))] (va_pl LP (ptF v_6))) H := hP
          have hD : va_D A (@HAppend.hAppend va_W va_W va_W _ [(h0, .inr (1, [.int pos, .ref a1, .ref a2, .ref a3, .ref a4, .ref a5])), (a1, .inl ((cA 0), 4, .inl wl)), (a2, .inl ((cA 0), 30, .inl (upd fa x3.toNatClampNeg 0))), (a3, .inl ((cA 0), 30, .inl (upd la x3.toNatClampNeg 0))), (a4, .inl ((cA 0), 30, .inl (upd sp x3.toNatClampNeg 0))), (a5, .inl ((cA 0), 900, .inl v_5))] (va_pl LP (ptF v_6))) := hD
          refine lv_aload_n hx hb d_Net_addPosition_86 rfl (lv_at hl 0 rfl) ?_
          refine lv_dup hx hb d_Net_addPosition_87 rfl ?_
          refine va_get (D := (dC, dI)) (ci := 1) (v := .int pos) (C := RX1) (T := TX1) (N := 6) hx hb hts (fun w h => List.mem_cons_of_mem _ (in_X1 w h)) hown hK hP 0 rfl rfl 0 (by decide) (hts _ (List.mem_cons_of_mem _ k_94)) (fun _ h9 => h9) rfl d_Net_addPosition_88 ?_
          refine lv_iconst (v := 1) hx hb d_Net_addPosition_91 (by decide) ?_
          refine lv_iadd hx hb d_Net_addPosition_92 ?_
          refine va_put (D := (dC, dI)) (ci := 1) (v := .int (pos + 1)) (ty := .int) (C := RX1) (T := TX1) (N := 6) hx hb hts (fun w h => List.mem_cons_of_mem _ (in_X1 w h)) tyX1 tyX1_ok nmX1 hown hK hP hD hS 0 rfl rfl 0 (by decide) (hts _ (List.mem_cons_of_mem _ k_94)) (fun _ h9 => h9) rfl (tyX1_ok 0 (by decide)) rfl rfl (Nat.le_of_ble_eq_true rfl) d_Net_addPosition_93 (fun H locs hP hD hS => ?_)
          have hP : va_P (dC, dI) clA (@HAppend.hAppend va_W va_W va_W _ [(h0, .inr (1, [.int (pos + 1), .ref a1, .ref a2, .ref a3, .ref a4, .ref a5])), (a1, .inl ((cA 0), 4, .inl wl)), (a2, .inl ((cA 0), 30, .inl (upd fa x3.toNatClampNeg 0))), (a3, .inl ((cA 0), 30, .inl (upd la x3.toNatClampNeg 0))), (a4, .inl ((cA 0), 30, .inl (upd sp x3.toNatClampNeg 0))), (a5, .inl ((cA 0), 900, .inl v_5))] (va_pl LP (ptF v_6))) H := hP
          have hD : va_D A (@HAppend.hAppend va_W va_W va_W _ [(h0, .inr (1, [.int (pos + 1), .ref a1, .ref a2, .ref a3, .ref a4, .ref a5])), (a1, .inl ((cA 0), 4, .inl wl)), (a2, .inl ((cA 0), 30, .inl (upd fa x3.toNatClampNeg 0))), (a3, .inl ((cA 0), 30, .inl (upd la x3.toNatClampNeg 0))), (a4, .inl ((cA 0), 30, .inl (upd sp x3.toNatClampNeg 0))), (a5, .inl ((cA 0), 900, .inl v_5))] (va_pl LP (ptF v_6))) := hD
          have hP9 := hP.part (cx := [(h0, .inr (1, [.int (pos + 1), .ref a1, .ref a2, .ref a3, .ref a4, .ref a5])), (a1, .inl ((cA 0), 4, .inl wl)), (a2, .inl ((cA 0), 30, .inl (upd fa x3.toNatClampNeg 0))), (a3, .inl ((cA 0), 30, .inl (upd la x3.toNatClampNeg 0))), (a4, .inl ((cA 0), 30, .inl (upd sp x3.toNatClampNeg 0))), (a5, .inl ((cA 0), 900, .inl v_5))]) [0, 1, 2, 3, 4, 5] rfl
          have hD9 := hD.part (cx := [(h0, .inr (1, [.int (pos + 1), .ref a1, .ref a2, .ref a3, .ref a4, .ref a5])), (a1, .inl ((cA 0), 4, .inl wl)), (a2, .inl ((cA 0), 30, .inl (upd fa x3.toNatClampNeg 0))), (a3, .inl ((cA 0), 30, .inl (upd la x3.toNatClampNeg 0))), (a4, .inl ((cA 0), 30, .inl (upd sp x3.toNatClampNeg 0))), (a5, .inl ((cA 0), 900, .inl v_5))]) [0, 1, 2, 3, 4, 5] (by decide) rfl
          refine W_end hQz ?_
          exact W.vret hx hb hr (fun t ht hW => ⟨⟨((pos + 1), wl, (upd fa x3.toNatClampNeg 0), (upd la x3.toNatClampNeg 0), (upd sp x3.toNatClampNeg 0), v_5, v_6), rfl, hf, P_cg ht.symm hP9, va_K.moved hW.alike hK, hD9⟩, hS.F ht⟩) hS.2.2 d_Net_addPosition_96 hlocks
        · replace hf := hf.2 c_1
          refine lv_iload_n hx hb d_Net_addPosition_14 rfl (lv_at hl 1 rfl) ?_
          refine lv_iload hx hb d_Net_addPosition_15 (lv_at hl 4 rfl) ?_
          refine lv_ishr hx hb d_Net_addPosition_17 ?_
          refine lv_iconst (v := 1) hx hb d_Net_addPosition_18 (by decide) ?_
          refine lv_iand hx hb d_Net_addPosition_19 ?_
          refine lv_if_eq (tgt := 36) hx hb d_Net_addPosition_20 (by decide) (fun c_8 => ?_) (fun c_8 => ?_)
          · replace hf := hf.1 c_8
            refine lv_iinc (v := x4 + 1) (lv' := [(4, .int (x4 + 1)), (0, .ref h0), (1, .int p1), (2, .ref q0), (3, .int x3)]) hx hb d_Net_addPosition_36 hl (k := 4) rfl rfl (by decide) rfl (fun ls hl => ?_)
            refine lv_goto (tgt := 8) hx hb d_Net_addPosition_39 (by decide) ?_
            exact ih1 _ _ _ _ _ _ _ _ _ _ _ _ hf (hP.part [0, 1, 2, 3, 4, 5] rfl) (hD.part [0, 1, 2, 3, 4, 5] (by decide) rfl) hS (lv_sub hl [1, 2, 3, 4, 0] rfl)
          · replace hf := hf.2 c_8
            refine lv_aload_n hx hb d_Net_addPosition_23 rfl (lv_at hl 0 rfl) ?_
            refine va_get (D := (dC, dI)) (ci := 1) (v := .ref a1) (C := RX1) (T := TX1) (N := 6) hx hb hts (fun w h => List.mem_cons_of_mem _ (in_X1 w h)) hown hK hP 0 rfl rfl 1 (by decide) (hts _ (List.mem_cons_of_mem _ k_96)) (fun _ h9 => h9) rfl d_Net_addPosition_24 ?_
            refine lv_iload hx hb d_Net_addPosition_27 (lv_at hl 4 rfl) ?_
            refine lv_dup2_11 hx hb d_Net_addPosition_29 rfl rfl ?_
            obtain ⟨h_9, hf⟩ := hf
            refine va_iald hx hb hK hP 1 0 rfl rfl h_9 d_Net_addPosition_30 ?_
            refine lv_iconst (v := 1) hx hb d_Net_addPosition_31 (by decide) ?_
            refine lv_iload_n hx hb d_Net_addPosition_32 rfl (lv_at hl 3 rfl) ?_
            refine lv_ishl hx hb d_Net_addPosition_33 ?_
            refine lv_ior hx hb d_Net_addPosition_34 ?_
            obtain ⟨h_10, hf⟩ := hf
            refine va_iast hx hb hK hP hD hS 1 0 rfl rfl h_10 d_Net_addPosition_35 (fun H locs hP hD hS => ?_)
            have hP : va_P (dC, dI) clA (@HAppend.hAppend va_W va_W va_W _ [(h0, .inr (1, [.int pos, .ref a1, .ref a2, .ref a3, .ref a4, .ref a5])), (a1, .inl ((cA 0), 4, .inl (upd wl x4.toNatClampNeg ((wl x4.toNatClampNeg) ||| (1 <<< (x3 &&& 31)))))), (a2, .inl ((cA 0), 30, .inl fa)), (a3, .inl ((cA 0), 30, .inl la)), (a4, .inl ((cA 0), 30, .inl sp)), (a5, .inl ((cA 0), 900, .inl sa))] (va_pl LP (ptF pf))) H := hP
            have hD : va_D A (@HAppend.hAppend va_W va_W va_W _ [(h0, .inr (1, [.int pos, .ref a1, .ref a2, .ref a3, .ref a4, .ref a5])), (a1, .inl ((cA 0), 4, .inl (upd wl x4.toNatClampNeg ((wl x4.toNatClampNeg) ||| (1 <<< (x3 &&& 31)))))), (a2, .inl ((cA 0), 30, .inl fa)), (a3, .inl ((cA 0), 30, .inl la)), (a4, .inl ((cA 0), 30, .inl sp)), (a5, .inl ((cA 0), 900, .inl sa))] (va_pl LP (ptF pf))) := hD
            refine lv_iinc (v := x4 + 1) (lv' := [(4, .int (x4 + 1)), (0, .ref h0), (1, .int p1), (2, .ref q0), (3, .int x3)]) hx hb d_Net_addPosition_36 hl (k := 4) rfl rfl (by decide) rfl (fun ls hl => ?_)
            refine lv_goto (tgt := 8) hx hb d_Net_addPosition_39 (by decide) ?_
            exact ih1 _ _ _ _ _ _ _ _ _ _ _ _ hf (hP.part [0, 1, 2, 3, 4, 5] rfl) (hD.part [0, 1, 2, 3, 4, 5] (by decide) rfl) hS (lv_sub hl [1, 2, 3, 4, 0] rfl)
  have hf := hR
  unfold R_Net_addPosition at hf
  refine lv_aload_n hx hb d_Net_addPosition_0 rfl (lv_at hl 0 rfl) ?_
  refine va_get (D := (dC, dI)) (ci := 1) (v := .int pos) (C := RX1) (T := TX1) (N := 6) hx hb hts (fun w h => List.mem_cons_of_mem _ (in_X1 w h)) hown hK hP 0 rfl rfl 0 (by decide) (hts _ (List.mem_cons_of_mem _ k_94)) (fun _ h9 => h9) rfl d_Net_addPosition_1 ?_
  refine lv_istore_n (lv' := [(3, .int pos), (0, .ref h0), (1, .int p1), (2, .ref q0)]) hx hb d_Net_addPosition_4 rfl hl (by decide) rfl (fun ls hl => ?_)
  refine lv_iconst (v := 0) hx hb d_Net_addPosition_5 (by decide) ?_
  refine lv_istore (lv' := [(4, .int 0), (3, .int pos), (0, .ref h0), (1, .int p1), (2, .ref q0)]) hx hb d_Net_addPosition_6 hl (by decide) rfl (fun ls hl => ?_)
  obtain ⟨n, hf⟩ := hf
  exact (hC n) _ _ _ _ _ _ _ _ _ _ _ _ hf (hP.part [0, 1, 2, 3, 4, 5] rfl) (hD.part [0, 1, 2, 3, 4, 5] (by decide) rfl) hS (lv_sub hl [2, 3, 4, 1, 0] rfl)
def R_Net_chain (pos : Int32) (q1 : Nat) (q2 : Nat) (fa : Nat → Int32) (la : Nat → Int32) (sp : Nat → Int32) (sa : Nat → Int32) (pf : Nat → PT) (out : (Nat → Int32) × (Nat → Int32) × (Nat → Int32) × (Nat → Int32) × (Nat → PT)) : Prop := ∃ v_3, R_Net_link ((pf q1).2.2.1) ((pf q2).2.1) pos fa la sp sa v_3 ∧ (((((pf q1).2.2.2.1) = 0) → (((((pf q2).2.2.2.1) = 0) → (∀ pf_9, pf_9 = va_up pf q1 ((pf q1).1, (pf q1).2.1, (pf q2).2.2.1, (pf q1).2.2.2.1, (pf q1).2.2.2.2) → (((((pf_9 q1).2.2.2.1) = 0) → (∀ pf_12, pf_12 = va_up pf_9 q1 ((pf_9 q1).1, (pf_9 q1).2.1, (pf_9 q1).2.2.1, 0, (pf_9 q1).2.2.2.2) → (((((pf_12 q1).2.2.2.1) = 0) → (∀ pf_15, pf_15 = va_up pf_12 q1 ((pf_12 q1).1, (pf_12 q1).2.1, (pf_12 q1).2.2.1, (pf_12 q1).2.2.2.1, 0) → (out = (fa, la, v_3.1, v_3.2, pf_15)))) ∧ (¬ (((pf_12 q1).2.2.2.1) = 0) → (∀ pf_19, pf_19 = va_up pf_12 q1 ((pf_12 q1).1, (pf_12 q1).2.1, (pf_12 q1).2.2.1, (pf_12 q1).2.2.2.1, (((pf_12 q1).2.2.2.2) ||| ((pf_12 q2).2.2.2.2))) → (out = (fa, la, v_3.1, v_3.2, pf_19))))))) ∧ (¬ (((pf_9 q1).2.2.2.1) = 0) → (((((pf_9 q2).2.2.2.1) = 0) → (∀ pf_23, pf_23 = va_up pf_9 q1 ((pf_9 q1).1, (pf_9 q1).2.1, (pf_9 q1).2.2.1, 0, (pf_9 q1).2.2.2.2) → (((((pf_23 q1).2.2.2.1) = 0) → (∀ pf_26, pf_26 = va_up pf_23 q1 ((pf_23 q1).1, (pf_23 q1).2.1, (pf_23 q1).2.2.1, (pf_23 q1).2.2.2.1, 0) → (out = (fa, la, v_3.1, v_3.2, pf_26)))) ∧ (¬ (((pf_23 q1).2.2.2.1) = 0) → (∀ pf_30, pf_30 = va_up pf_23 q1 ((pf_23 q1).1, (pf_23 q1).2.1, (pf_23 q1).2.2.1, (pf_23 q1).2.2.2.1, (((pf_23 q1).2.2.2.2) ||| ((pf_23 q2).2.2.2.2))) → (out = (fa, la, v_3.1, v_3.2, pf_30))))))) ∧ (¬ (((pf_9 q2).2.2.2.1) = 0) → (∀ pf_32, pf_32 = va_up pf_9 q1 ((pf_9 q1).1, (pf_9 q1).2.1, (pf_9 q1).2.2.1, 1, (pf_9 q1).2.2.2.2) → (((((pf_32 q1).2.2.2.1) = 0) → (∀ pf_35, pf_35 = va_up pf_32 q1 ((pf_32 q1).1, (pf_32 q1).2.1, (pf_32 q1).2.2.1, (pf_32 q1).2.2.2.1, 0) → (out = (fa, la, v_3.1, v_3.2, pf_35)))) ∧ (¬ (((pf_32 q1).2.2.2.1) = 0) → (∀ pf_39, pf_39 = va_up pf_32 q1 ((pf_32 q1).1, (pf_32 q1).2.1, (pf_32 q1).2.2.1, (pf_32 q1).2.2.2.1, (((pf_32 q1).2.2.2.2) ||| ((pf_32 q2).2.2.2.2))) → (out = (fa, la, v_3.1, v_3.2, pf_39)))))))))))) ∧ (¬ (((pf q2).2.2.2.1) = 0) → (∃ v_43, R_Net_give ((pf q1).2.2.1) ((pf q2).2.2.2.2) pos la v_43 ∧ (∀ pf_46, pf_46 = va_up pf q1 ((pf q1).1, (pf q1).2.1, (((pf q1).2.2.1) ||| ((pf q2).2.2.1)), (pf q1).2.2.2.1, (pf q1).2.2.2.2) → (((((pf_46 q1).2.2.2.1) = 0) → (∀ pf_49, pf_49 = va_up pf_46 q1 ((pf_46 q1).1, (pf_46 q1).2.1, (pf_46 q1).2.2.1, 0, (pf_46 q1).2.2.2.2) → (((((pf_49 q1).2.2.2.1) = 0) → (∀ pf_52, pf_52 = va_up pf_49 q1 ((pf_49 q1).1, (pf_49 q1).2.1, (pf_49 q1).2.2.1, (pf_49 q1).2.2.2.1, 0) → (out = (fa, v_43, v_3.1, v_3.2, pf_52)))) ∧ (¬ (((pf_49 q1).2.2.2.1) = 0) → (∀ pf_56, pf_56 = va_up pf_49 q1 ((pf_49 q1).1, (pf_49 q1).2.1, (pf_49 q1).2.2.1, (pf_49 q1).2.2.2.1, (((pf_49 q1).2.2.2.2) ||| ((pf_49 q2).2.2.2.2))) → (out = (fa, v_43, v_3.1, v_3.2, pf_56))))))) ∧ (¬ (((pf_46 q1).2.2.2.1) = 0) → (((((pf_46 q2).2.2.2.1) = 0) → (∀ pf_60, pf_60 = va_up pf_46 q1 ((pf_46 q1).1, (pf_46 q1).2.1, (pf_46 q1).2.2.1, 0, (pf_46 q1).2.2.2.2) → (((((pf_60 q1).2.2.2.1) = 0) → (∀ pf_63, pf_63 = va_up pf_60 q1 ((pf_60 q1).1, (pf_60 q1).2.1, (pf_60 q1).2.2.1, (pf_60 q1).2.2.2.1, 0) → (out = (fa, v_43, v_3.1, v_3.2, pf_63)))) ∧ (¬ (((pf_60 q1).2.2.2.1) = 0) → (∀ pf_67, pf_67 = va_up pf_60 q1 ((pf_60 q1).1, (pf_60 q1).2.1, (pf_60 q1).2.2.1, (pf_60 q1).2.2.2.1, (((pf_60 q1).2.2.2.2) ||| ((pf_60 q2).2.2.2.2))) → (out = (fa, v_43, v_3.1, v_3.2, pf_67))))))) ∧ (¬ (((pf_46 q2).2.2.2.1) = 0) → (∀ pf_69, pf_69 = va_up pf_46 q1 ((pf_46 q1).1, (pf_46 q1).2.1, (pf_46 q1).2.2.1, 1, (pf_46 q1).2.2.2.2) → (((((pf_69 q1).2.2.2.1) = 0) → (∀ pf_72, pf_72 = va_up pf_69 q1 ((pf_69 q1).1, (pf_69 q1).2.1, (pf_69 q1).2.2.1, (pf_69 q1).2.2.2.1, 0) → (out = (fa, v_43, v_3.1, v_3.2, pf_72)))) ∧ (¬ (((pf_69 q1).2.2.2.1) = 0) → (∀ pf_76, pf_76 = va_up pf_69 q1 ((pf_69 q1).1, (pf_69 q1).2.1, (pf_69 q1).2.2.1, (pf_69 q1).2.2.2.1, (((pf_69 q1).2.2.2.2) ||| ((pf_69 q2).2.2.2.2))) → (out = (fa, v_43, v_3.1, v_3.2, pf_76))))))))))))))) ∧ (¬ (((pf q1).2.2.2.1) = 0) → (∃ v_80, R_Net_give ((pf q2).2.1) ((pf q1).2.2.2.2) pos fa v_80 ∧ (∀ pf_83, pf_83 = va_up pf q1 ((pf q1).1, (((pf q1).2.1) ||| ((pf q2).2.1)), (pf q1).2.2.1, (pf q1).2.2.2.1, (pf q1).2.2.2.2) → (((((pf_83 q2).2.2.2.1) = 0) → (∀ pf_87, pf_87 = va_up pf_83 q1 ((pf_83 q1).1, (pf_83 q1).2.1, (pf_83 q2).2.2.1, (pf_83 q1).2.2.2.1, (pf_83 q1).2.2.2.2) → (((((pf_87 q1).2.2.2.1) = 0) → (∀ pf_90, pf_90 = va_up pf_87 q1 ((pf_87 q1).1, (pf_87 q1).2.1, (pf_87 q1).2.2.1, 0, (pf_87 q1).2.2.2.2) → (((((pf_90 q1).2.2.2.1) = 0) → (∀ pf_93, pf_93 = va_up pf_90 q1 ((pf_90 q1).1, (pf_90 q1).2.1, (pf_90 q1).2.2.1, (pf_90 q1).2.2.2.1, 0) → (out = (v_80, la, v_3.1, v_3.2, pf_93)))) ∧ (¬ (((pf_90 q1).2.2.2.1) = 0) → (∀ pf_97, pf_97 = va_up pf_90 q1 ((pf_90 q1).1, (pf_90 q1).2.1, (pf_90 q1).2.2.1, (pf_90 q1).2.2.2.1, (((pf_90 q1).2.2.2.2) ||| ((pf_90 q2).2.2.2.2))) → (out = (v_80, la, v_3.1, v_3.2, pf_97))))))) ∧ (¬ (((pf_87 q1).2.2.2.1) = 0) → (((((pf_87 q2).2.2.2.1) = 0) → (∀ pf_101, pf_101 = va_up pf_87 q1 ((pf_87 q1).1, (pf_87 q1).2.1, (pf_87 q1).2.2.1, 0, (pf_87 q1).2.2.2.2) → (((((pf_101 q1).2.2.2.1) = 0) → (∀ pf_104, pf_104 = va_up pf_101 q1 ((pf_101 q1).1, (pf_101 q1).2.1, (pf_101 q1).2.2.1, (pf_101 q1).2.2.2.1, 0) → (out = (v_80, la, v_3.1, v_3.2, pf_104)))) ∧ (¬ (((pf_101 q1).2.2.2.1) = 0) → (∀ pf_108, pf_108 = va_up pf_101 q1 ((pf_101 q1).1, (pf_101 q1).2.1, (pf_101 q1).2.2.1, (pf_101 q1).2.2.2.1, (((pf_101 q1).2.2.2.2) ||| ((pf_101 q2).2.2.2.2))) → (out = (v_80, la, v_3.1, v_3.2, pf_108))))))) ∧ (¬ (((pf_87 q2).2.2.2.1) = 0) → (∀ pf_110, pf_110 = va_up pf_87 q1 ((pf_87 q1).1, (pf_87 q1).2.1, (pf_87 q1).2.2.1, 1, (pf_87 q1).2.2.2.2) → (((((pf_110 q1).2.2.2.1) = 0) → (∀ pf_113, pf_113 = va_up pf_110 q1 ((pf_110 q1).1, (pf_110 q1).2.1, (pf_110 q1).2.2.1, (pf_110 q1).2.2.2.1, 0) → (out = (v_80, la, v_3.1, v_3.2, pf_113)))) ∧ (¬ (((pf_110 q1).2.2.2.1) = 0) → (∀ pf_117, pf_117 = va_up pf_110 q1 ((pf_110 q1).1, (pf_110 q1).2.1, (pf_110 q1).2.2.1, (pf_110 q1).2.2.2.1, (((pf_110 q1).2.2.2.2) ||| ((pf_110 q2).2.2.2.2))) → (out = (v_80, la, v_3.1, v_3.2, pf_117)))))))))))) ∧ (¬ (((pf_83 q2).2.2.2.1) = 0) → (∃ v_121, R_Net_give ((pf_83 q1).2.2.1) ((pf_83 q2).2.2.2.2) pos la v_121 ∧ (∀ pf_124, pf_124 = va_up pf_83 q1 ((pf_83 q1).1, (pf_83 q1).2.1, (((pf_83 q1).2.2.1) ||| ((pf_83 q2).2.2.1)), (pf_83 q1).2.2.2.1, (pf_83 q1).2.2.2.2) → (((((pf_124 q1).2.2.2.1) = 0) → (∀ pf_127, pf_127 = va_up pf_124 q1 ((pf_124 q1).1, (pf_124 q1).2.1, (pf_124 q1).2.2.1, 0, (pf_124 q1).2.2.2.2) → (((((pf_127 q1).2.2.2.1) = 0) → (∀ pf_130, pf_130 = va_up pf_127 q1 ((pf_127 q1).1, (pf_127 q1).2.1, (pf_127 q1).2.2.1, (pf_127 q1).2.2.2.1, 0) → (out = (v_80, v_121, v_3.1, v_3.2, pf_130)))) ∧ (¬ (((pf_127 q1).2.2.2.1) = 0) → (∀ pf_134, pf_134 = va_up pf_127 q1 ((pf_127 q1).1, (pf_127 q1).2.1, (pf_127 q1).2.2.1, (pf_127 q1).2.2.2.1, (((pf_127 q1).2.2.2.2) ||| ((pf_127 q2).2.2.2.2))) → (out = (v_80, v_121, v_3.1, v_3.2, pf_134))))))) ∧ (¬ (((pf_124 q1).2.2.2.1) = 0) → (((((pf_124 q2).2.2.2.1) = 0) → (∀ pf_138, pf_138 = va_up pf_124 q1 ((pf_124 q1).1, (pf_124 q1).2.1, (pf_124 q1).2.2.1, 0, (pf_124 q1).2.2.2.2) → (((((pf_138 q1).2.2.2.1) = 0) → (∀ pf_141, pf_141 = va_up pf_138 q1 ((pf_138 q1).1, (pf_138 q1).2.1, (pf_138 q1).2.2.1, (pf_138 q1).2.2.2.1, 0) → (out = (v_80, v_121, v_3.1, v_3.2, pf_141)))) ∧ (¬ (((pf_138 q1).2.2.2.1) = 0) → (∀ pf_145, pf_145 = va_up pf_138 q1 ((pf_138 q1).1, (pf_138 q1).2.1, (pf_138 q1).2.2.1, (pf_138 q1).2.2.2.1, (((pf_138 q1).2.2.2.2) ||| ((pf_138 q2).2.2.2.2))) → (out = (v_80, v_121, v_3.1, v_3.2, pf_145))))))) ∧ (¬ (((pf_124 q2).2.2.2.1) = 0) → (∀ pf_147, pf_147 = va_up pf_124 q1 ((pf_124 q1).1, (pf_124 q1).2.1, (pf_124 q1).2.2.1, 1, (pf_124 q1).2.2.2.2) → (((((pf_147 q1).2.2.2.1) = 0) → (∀ pf_150, pf_150 = va_up pf_147 q1 ((pf_147 q1).1, (pf_147 q1).2.1, (pf_147 q1).2.2.1, (pf_147 q1).2.2.2.1, 0) → (out = (v_80, v_121, v_3.1, v_3.2, pf_150)))) ∧ (¬ (((pf_147 q1).2.2.2.1) = 0) → (∀ pf_154, pf_154 = va_up pf_147 q1 ((pf_147 q1).1, (pf_147 q1).2.1, (pf_147 q1).2.2.1, (pf_147 q1).2.2.2.1, (((pf_147 q1).2.2.2.2) ||| ((pf_147 q2).2.2.2.2))) → (out = (v_80, v_121, v_3.1, v_3.2, pf_154))))))))))))))))))
set_option maxHeartbeats 4000000 in
set_option maxRecDepth 100000 in
theorem c_Net_chain (l : Launch) (dC : Nat → ClassId) (dI : Nat → Nat → Nat) (cA : Nat → ClassId) (h0 a2 a3 a4 a5 a1 q1 q2 : Nat) (LP : List Nat) (hm1 : q1 ∈ LP) (hm2 : q2 ∈ LP) (sz : Nat) (pos : Int32) (fa : Nat → Int32) (la : Nat → Int32) (sp : Nat → Int32) (sa : Nat → Int32) (pf : Nat → PT) (out : (Nat → Int32) × (Nat → Int32) × (Nat → Int32) × (Nat → Int32) × (Nat → PT)) (hR : R_Net_chain pos q1 q2 fa la sp sa pf out) : Met l y_Net_chain ws_Net_chain ({ frames := 1, cells := 0, slots := 0, locals := 25 }) (va_Pc [.ref h0, .ref q1, .ref q2] (fun U => U.heap.size = sz ∧ va_P (dC, dI) clA (@HAppend.hAppend va_W va_W va_W _ [(h0, .inr (1, [.int pos, .ref a1, .ref a2, .ref a3, .ref a4, .ref a5])), (a2, .inl ((cA 0), 30, .inl fa)), (a3, .inl ((cA 0), 30, .inl la)), (a4, .inl ((cA 0), 30, .inl sp)), (a5, .inl ((cA 0), 900, .inl sa))] (va_pl LP (ptF pf))) U.heap ∧ va_K (dC, dI) clA (tysA cA) U ∧ nW U ∧ va_D (fun _ => True) (@HAppend.hAppend va_W va_W va_W _ [(h0, .inr (1, [.int pos, .ref a1, .ref a2, .ref a3, .ref a4, .ref a5])), (a2, .inl ((cA 0), 30, .inl fa)), (a3, .inl ((cA 0), 30, .inl la)), (a4, .inl ((cA 0), 30, .inl sp)), (a5, .inl ((cA 0), 900, .inl sa))] (va_pl LP (ptF pf))))) (va_Qv (fun u : (Nat → Int32) × (Nat → Int32) × (Nat → Int32) × (Nat → Int32) × (Nat → PT) => out = u) (fun (u : (Nat → Int32) × (Nat → Int32) × (Nat → Int32) × (Nat → Int32) × (Nat → PT)) (t : State) => va_P (dC, dI) clA (@HAppend.hAppend va_W va_W va_W _ [(h0, .inr (1, [.int pos, .ref a1, .ref a2, .ref a3, .ref a4, .ref a5])), (a2, .inl ((cA 0), 30, .inl u.1)), (a3, .inl ((cA 0), 30, .inl u.2.1)), (a4, .inl ((cA 0), 30, .inl u.2.2.1)), (a5, .inl ((cA 0), 900, .inl u.2.2.2.1))] (va_pl LP (ptF u.2.2.2.2))) t.heap ∧ va_K (dC, dI) clA (tysA cA) t ∧ va_D (va_A (@HAppend.hAppend va_W va_W va_W _ [(h0, .inr (1, [.int pos, .ref a1, .ref a2, .ref a3, .ref a4, .ref a5])), (a2, .inl ((cA 0), 30, .inl fa)), (a3, .inl ((cA 0), 30, .inl la)), (a4, .inl ((cA 0), 30, .inl sp)), (a5, .inl ((cA 0), 900, .inl sa))] (va_pl LP (ptF pf))) sz) (@HAppend.hAppend va_W va_W va_W _ [(h0, .inr (1, [.int pos, .ref a1, .ref a2, .ref a3, .ref a4, .ref a5])), (a2, .inl ((cA 0), 30, .inl u.1)), (a3, .inl ((cA 0), 30, .inl u.2.1)), (a4, .inl ((cA 0), 30, .inl u.2.2.1)), (a5, .inl ((cA 0), 900, .inl u.2.2.2.1))] (va_pl LP (ptF u.2.2.2.2)))) (va_A (@HAppend.hAppend va_W va_W va_W _ [(h0, .inr (1, [.int pos, .ref a1, .ref a2, .ref a3, .ref a4, .ref a5])), (a2, .inl ((cA 0), 30, .inl fa)), (a3, .inl ((cA 0), 30, .inl la)), (a4, .inl ((cA 0), 30, .inl sp)), (a5, .inl ((cA 0), 900, .inl sa))] (va_pl LP (ptF pf))) sz)) 0 0 (va_A (@HAppend.hAppend va_W va_W va_W _ [(h0, .inr (1, [.int pos, .ref a1, .ref a2, .ref a3, .ref a4, .ref a5])), (a2, .inl ((cA 0), 30, .inl fa)), (a3, .inl ((cA 0), 30, .inl la)), (a4, .inl ((cA 0), 30, .inl sp)), (a5, .inl ((cA 0), 900, .inl sa))] (va_pl LP (ptF pf))) sz) := by
  refine Met.ofW (cc := b_Net_chain) (maxL := 3) (ret := none) (by decide) rfl ?_
  intro p e s m args below meth c s₁ B hml hv
  obtain ⟨rfl, hsz, hP, hK, hN, hD0⟩ := hv
  have hx := B.exec
  have hb := B.bytes
  have hr := B.returns
  have hts := atoms_spec (ws := ws_Net_chain) B.pre
  have hown : s.vm.findClass RX1 = some m.cls := findClass_of_methodNamed B.named
  have hlocks := B.notSynchronized
  subst hsz
  have hD := hD0.self (sz := s.heap.size)
  generalize hAe : va_A (@HAppend.hAppend va_W va_W va_W _ [(h0, .inr (1, [.int pos, .ref a1, .ref a2, .ref a3, .ref a4, .ref a5])), (a2, .inl ((cA 0), 30, .inl fa)), (a3, .inl ((cA 0), 30, .inl la)), (a4, .inl ((cA 0), 30, .inl sp)), (a5, .inl ((cA 0), 900, .inl sa))] (va_pl LP (ptF pf))) s.heap.size = A at hD ⊢
  have hA : ∀ q : Nat, s.heap.size ≤ q → A q := fun q h => by rw [← hAe]; exact Or.inr h
  have hS : va_S A s.heap s.heap [] := va_S.rf
  have hP : va_P (dC, dI) clA (@HAppend.hAppend va_W va_W va_W _ [(h0, .inr (1, [.int pos, .ref a1, .ref a2, .ref a3, .ref a4, .ref a5])), (a2, .inl ((cA 0), 30, .inl fa)), (a3, .inl ((cA 0), 30, .inl la)), (a4, .inl ((cA 0), 30, .inl sp)), (a5, .inl ((cA 0), 900, .inl sa))] (va_pl LP (ptF pf))) s.heap := hP
  have hl := lv_entry ([.ref h0, .ref q1, .ref q2]) (n := 3) (Nat.le_of_ble_eq_true rfl)
  rw [lg_entry_eq]
  generalize (lg_sl ([.ref h0, .ref q1, .ref q2]) ++ List.replicate (3 - (lg_sl ([.ref h0, .ref q1, .ref q2])).length) Slot.unset).toArray = ls at hl ⊢
  have hl : lv_has ls 3 [(0, .ref h0), (1, .ref q1), (2, .ref q2)] := hl
  refine W_gen (fun Qz hQz => ?_)
  have hf := hR
  unfold R_Net_chain at hf
  refine lv_aload_n hx hb d_Net_chain_0 rfl (lv_at hl 0 rfl) ?_
  refine lv_aload_n hx hb d_Net_chain_1 rfl (lv_at hl 1 rfl) ?_
  obtain ⟨kp_1, hk_1⟩ := va_pl_get (X := [(h0, .inr (1, [.int pos, .ref a1, .ref a2, .ref a3, .ref a4, .ref a5])), (a2, .inl ((cA 0), 30, .inl fa)), (a3, .inl ((cA 0), 30, .inl la)), (a4, .inl ((cA 0), 30, .inl sp)), (a5, .inl ((cA 0), 900, .inl sa))]) (f := ptF pf) hm1
  refine va_getN (D := (dC, dI)) (ci := 3) (v := .int ((pf q1).2.2.1)) (C := RX3) (T := TX3) (N := 5) hx hb hts (fun w h => List.mem_cons_of_mem _ (in_X3 w h)) hown hK hP kp_1 hk_1 rfl 2 (by decide) (va_Nw.use rfl (hN _ nl_6)) (fun _ h9 => h9) rfl d_Net_chain_2 ?_
  refine lv_aload_n hx hb d_Net_chain_5 rfl (lv_at hl 2 rfl) ?_
  obtain ⟨kp_2, hk_2⟩ := va_pl_get (X := [(h0, .inr (1, [.int pos, .ref a1, .ref a2, .ref a3, .ref a4, .ref a5])), (a2, .inl ((cA 0), 30, .inl fa)), (a3, .inl ((cA 0), 30, .inl la)), (a4, .inl ((cA 0), 30, .inl sp)), (a5, .inl ((cA 0), 900, .inl sa))]) (f := ptF pf) hm2
  refine va_getN (D := (dC, dI)) (ci := 3) (v := .int ((pf q2).2.1)) (C := RX3) (T := TX3) (N := 5) hx hb hts (fun w h => List.mem_cons_of_mem _ (in_X3 w h)) hown hK hP kp_2 hk_2 rfl 1 (by decide) (va_Nw.use rfl (hN _ nl_4)) (fun _ h9 => h9) rfl d_Net_chain_6 ?_
  obtain ⟨v_3, hv_3, hf⟩ := hf
  have hPc := hP.sub (ws' := [(h0, .inr (1, [.int pos, .ref a1, .ref a2, .ref a3, .ref a4, .ref a5])), (a2, .inl ((cA 0), 30, .inl fa)), (a3, .inl ((cA 0), 30, .inl la)), (a4, .inl ((cA 0), 30, .inl sp)), (a5, .inl ((cA 0), 900, .inl sa))]) [0, 1, 2, 3, 4] rfl
  have hDc := hD.sub (ws' := [(h0, .inr (1, [.int pos, .ref a1, .ref a2, .ref a3, .ref a4, .ref a5])), (a2, .inl ((cA 0), 30, .inl fa)), (a3, .inl ((cA 0), 30, .inl la)), (a4, .inl ((cA 0), 30, .inl sp)), (a5, .inl ((cA 0), 900, .inl sa))]) [0, 1, 2, 3, 4] (by decide) rfl
  have hFc := va_free (wc := [(h0, .inr (1, [.int pos, .ref a1, .ref a2, .ref a3, .ref a4, .ref a5])), (a2, .inl ((cA 0), 30, .inl fa)), (a3, .inl ((cA 0), 30, .inl la)), (a4, .inl ((cA 0), 30, .inl sp)), (a5, .inl ((cA 0), 900, .inl sa))]) hD hS hA [0, 1, 2, 3, 4] rfl
  refine va_callv (va_runV (As := [.int ((pf q1).2.2.1), .int ((pf q2).2.1)]) (rest := []) ⟨hx, hb, hml, hown, hts⟩ (c_Net_link l dC dI cA h0 a2 a3 a4 a5 a1 s.heap.size ((pf q1).2.2.1) ((pf q2).2.1) pos fa la sp sa v_3 hv_3) (cwV 2 hts (gV9 k_714 k_716 k_10 k_51 k_717) rfl rfl rfl hv_Net_link ⟨Nat.le_of_ble_eq_true rfl, Nat.le_of_ble_eq_true rfl⟩) ⟨fun a U g mk q => by obtain ⟨q0, q1, qP, qK, qN, qD⟩ := q; exact ⟨q0, q1, qP, va_K.moved (u := U) (U := U.calling g mk a) (Vm.Alike.refl U.vm) qK, nW_same (u := U) (U := U.calling g mk a) rfl qN, qD⟩, va_recv hK hPc (ci := 1) (q0 := 0) rfl rfl, fun U hU hW => ⟨rfl, congrArg _ hU, P_cg hU.symm hPc, va_K.moved hW.alike hK, nW_warm hW hN, hDc.weaken (fun _ _ _ _ => trivial)⟩⟩ rfl rfl hl.1 rfl (lv_room (Nat.le_of_ble_eq_true rfl)) d_Net_chain_9 ⟨Nat.zero_le _, Nat.zero_le _⟩) hS (fun q _ h => hFc q h) hFc (fun u t H locs ht hvm hw hB hz1 hk1 hS => ?_)
  subst hw
  obtain ⟨hP1, hK1, hD1⟩ := hB
  replace hP1 := P_cg ht hP1
  obtain ⟨hP, hD⟩ := va_joinQ (cx := [(h0, .inr (1, [.int pos, .ref a1, .ref a2, .ref a3, .ref a4, .ref a5])), (a2, .inl ((cA 0), 30, .inl fa)), (a3, .inl ((cA 0), 30, .inl la)), (a4, .inl ((cA 0), 30, .inl sp)), (a5, .inl ((cA 0), 900, .inl sa))]) (wr := []) (w1 := [(h0, .inr (1, [.int pos, .ref a1, .ref a2, .ref a3, .ref a4, .ref a5])), (a2, .inl ((cA 0), 30, .inl fa)), (a3, .inl ((cA 0), 30, .inl la)), (a4, .inl ((cA 0), 30, .inl v_3.1)), (a5, .inl ((cA 0), 900, .inl v_3.2))]) hP hD [0, 1, 2, 3, 4] [] rfl rfl (by decide) (by decide) hk1 hFc hP1 hD1
  have hP : va_P (dC, dI) clA (@HAppend.hAppend va_W va_W va_W _ [(h0, .inr (1, [.int pos, .ref a1, .ref a2, .ref a3, .ref a4, .ref a5])), (a2, .inl ((cA 0), 30, .inl fa)), (a3, .inl ((cA 0), 30, .inl la)), (a4, .inl ((cA 0), 30, .inl v_3.1)), (a5, .inl ((cA 0), 900, .inl v_3.2))] (va_pl LP (ptF pf))) H := hP
  have hD : va_D A (@HAppend.hAppend va_W va_W va_W _ [(h0, .inr (1, [.int pos, .ref a1, .ref a2, .ref a3, .ref a4, .ref a5])), (a2, .inl ((cA 0), 30, .inl fa)), (a3, .inl ((cA 0), 30, .inl la)), (a4, .inl ((cA 0), 30, .inl v_3.1)), (a5, .inl ((cA 0), 900, .inl v_3.2))] (va_pl LP (ptF pf))) := hD
  refine lv_aload_n hx hb d_Net_chain_12 rfl (lv_at hl 1 rfl) ?_
  obtain ⟨kp_4, hk_4⟩ := va_pl_get (X := [(h0, .inr (1, [.int pos, .ref a1, .ref a2, .ref a3, .ref a4, .ref a5])), (a2, .inl ((cA 0), 30, .inl fa)), (a3, .inl ((cA 0), 30, .inl la)), (a4, .inl ((cA 0), 30, .inl v_3.1)), (a5, .inl ((cA 0), 900, .inl v_3.2))]) (f := ptF pf) hm1
  refine va_getN (D := (dC, dI)) (ci := 3) (v := .int ((pf q1).2.2.2.1)) (C := RX3) (T := TX3) (N := 5) hx hb hts (fun w h => List.mem_cons_of_mem _ (in_X3 w h)) hown hK hP kp_4 hk_4 rfl 3 (by decide) (va_Nw.use rfl (hN _ nl_8)) (fun _ h9 => h9) rfl d_Net_chain_13 ?_
  refine lv_if_eq (tgt := 48) hx hb d_Net_chain_16 (by decide) (fun c_5 => ?_) (fun c_5 => ?_)
  · replace hf := hf.1 c_5
    refine lv_aload_n hx hb d_Net_chain_48 rfl (lv_at hl 2 rfl) ?_
    obtain ⟨kp_6, hk_6⟩ := va_pl_get (X := [(h0, .inr (1, [.int pos, .ref a1, .ref a2, .ref a3, .ref a4, .ref a5])), (a2, .inl ((cA 0), 30, .inl fa)), (a3, .inl ((cA 0), 30, .inl la)), (a4, .inl ((cA 0), 30, .inl v_3.1)), (a5, .inl ((cA 0), 900, .inl v_3.2))]) (f := ptF pf) hm2
    refine va_getN (D := (dC, dI)) (ci := 3) (v := .int ((pf q2).2.2.2.1)) (C := RX3) (T := TX3) (N := 5) hx hb hts (fun w h => List.mem_cons_of_mem _ (in_X3 w h)) hown hK hP kp_6 hk_6 rfl 3 (by decide) (va_Nw.use rfl (hN _ nl_8)) (fun _ h9 => h9) rfl d_Net_chain_49 ?_
    refine lv_if_eq (tgt := 87) hx hb d_Net_chain_52 (by decide) (fun c_7 => ?_) (fun c_7 => ?_)
    · replace hf := hf.1 c_7
      refine lv_aload_n hx hb d_Net_chain_87 rfl (lv_at hl 1 rfl) ?_
      refine lv_aload_n hx hb d_Net_chain_88 rfl (lv_at hl 2 rfl) ?_
      obtain ⟨kp_8, hk_8⟩ := va_pl_get (X := [(h0, .inr (1, [.int pos, .ref a1, .ref a2, .ref a3, .ref a4, .ref a5])), (a2, .inl ((cA 0), 30, .inl fa)), (a3, .inl ((cA 0), 30, .inl la)), (a4, .inl ((cA 0), 30, .inl v_3.1)), (a5, .inl ((cA 0), 900, .inl v_3.2))]) (f := ptF pf) hm2
      refine va_getN (D := (dC, dI)) (ci := 3) (v := .int ((pf q2).2.2.1)) (C := RX3) (T := TX3) (N := 5) hx hb hts (fun w h => List.mem_cons_of_mem _ (in_X3 w h)) hown hK hP kp_8 hk_8 rfl 2 (by decide) (va_Nw.use rfl (hN _ nl_6)) (fun _ h9 => h9) rfl d_Net_chain_89 ?_
      obtain ⟨kp_9, hk_9⟩ := va_pl_get (X := [(h0, .inr (1, [.int pos, .ref a1, .ref a2, .ref a3, .ref a4, .ref a5])), (a2, .inl ((cA 0), 30, .inl fa)), (a3, .inl ((cA 0), 30, .inl la)), (a4, .inl ((cA 0), 30, .inl v_3.1)), (a5, .inl ((cA 0), 900, .inl v_3.2))]) (f := ptF pf) hm1
      refine va_putN (D := (dC, dI)) (ci := 3) (v := .int ((pf q2).2.2.1)) (ty := .int) (C := RX3) (T := TX3) (N := 5) hx hb hts (fun w h => List.mem_cons_of_mem _ (in_X3 w h)) tyX3 tyX3_ok nmX3 hown hK hP hD hS kp_9 hk_9 rfl 2 (by decide) (va_Nw.use rfl (hN _ nl_6)) (fun _ h9 => h9) rfl (tyX3_ok 2 (by decide)) rfl rfl (Nat.le_of_ble_eq_true rfl) d_Net_chain_92 (fun H locs hP9 hD9 hS => ?_)
      obtain ⟨pf_9, e_9⟩ : ∃ y, y = va_up pf q1 ((pf q1).1, (pf q1).2.1, (pf q2).2.2.1, (pf q1).2.2.2.1, (pf q1).2.2.2.2) := ⟨_, rfl⟩
      replace hf := hf pf_9 e_9
      have hP9 := ptF_set (t9 := ((pf q1).1, (pf q1).2.1, (pf q2).2.2.1, (pf q1).2.2.2.1, (pf q1).2.2.2.2)) hD hm1 hk_9 hP9
      have hD9 := ptF_setD (t9 := ((pf q1).1, (pf q1).2.1, (pf q2).2.2.1, (pf q1).2.2.2.1, (pf q1).2.2.2.2)) hD hm1 hk_9 hD9
      rw [← e_9] at hP9 hD9
      have hP : va_P (dC, dI) clA (@HAppend.hAppend va_W va_W va_W _ [(h0, .inr (1, [.int pos, .ref a1, .ref a2, .ref a3, .ref a4, .ref a5])), (a2, .inl ((cA 0), 30, .inl fa)), (a3, .inl ((cA 0), 30, .inl la)), (a4, .inl ((cA 0), 30, .inl v_3.1)), (a5, .inl ((cA 0), 900, .inl v_3.2))] (va_pl LP (ptF pf_9))) H := hP9
      have hD : va_D A (@HAppend.hAppend va_W va_W va_W _ [(h0, .inr (1, [.int pos, .ref a1, .ref a2, .ref a3, .ref a4, .ref a5])), (a2, .inl ((cA 0), 30, .inl fa)), (a3, .inl ((cA 0), 30, .inl la)), (a4, .inl ((cA 0), 30, .inl v_3.1)), (a5, .inl ((cA 0), 900, .inl v_3.2))] (va_pl LP (ptF pf_9))) := hD9
      refine lv_aload_n hx hb d_Net_chain_95 rfl (lv_at hl 1 rfl) ?_
      refine lv_aload_n hx hb d_Net_chain_96 rfl (lv_at hl 1 rfl) ?_
      obtain ⟨kp_10, hk_10⟩ := va_pl_get (X := [(h0, .inr (1, [.int pos, .ref a1, .ref a2, .ref a3, .ref a4, .ref a5])), (a2, .inl ((cA 0), 30, .inl fa)), (a3, .inl ((cA 0), 30, .inl la)), (a4, .inl ((cA 0), 30, .inl v_3.1)), (a5, .inl ((cA 0), 900, .inl v_3.2))]) (f := ptF pf_9) hm1
      refine va_getN (D := (dC, dI)) (ci := 3) (v := .int ((pf_9 q1).2.2.2.1)) (C := RX3) (T := TX3) (N := 5) hx hb hts (fun w h => List.mem_cons_of_mem _ (in_X3 w h)) hown hK hP kp_10 hk_10 rfl 3 (by decide) (va_Nw.use rfl (hN _ nl_8)) (fun _ h9 => h9) rfl d_Net_chain_97 ?_
      refine lv_if_eq (tgt := 114) hx hb d_Net_chain_100 (by decide) (fun c_11 => ?_) (fun c_11 => ?_)
      · replace hf := hf.1 c_11
        refine lv_iconst (v := 0) hx hb d_Net_chain_114 (by decide) ?_
        obtain ⟨kp_12, hk_12⟩ := va_pl_get (X := [(h0, .inr (1, [.int pos, .ref a1, .ref a2, .ref a3, .ref a4, .ref a5])), (a2, .inl ((cA 0), 30, .inl fa)), (a3, .inl ((cA 0), 30, .inl la)), (a4, .inl ((cA 0), 30, .inl v_3.1)), (a5, .inl ((cA 0), 900, .inl v_3.2))]) (f := ptF pf_9) hm1
        refine va_putN (D := (dC, dI)) (ci := 3) (v := .int 0) (ty := .boolean) (C := RX3) (T := TX3) (N := 5) hx hb hts (fun w h => List.mem_cons_of_mem _ (in_X3 w h)) tyX3 tyX3_ok nmX3 hown hK hP hD hS kp_12 hk_12 rfl 3 (by decide) (va_Nw.use rfl (hN _ nl_8)) (fun _ h9 => h9) rfl (tyX3_ok 3 (by decide)) (by decide) (by decide) (Nat.le_of_ble_eq_true rfl) d_Net_chain_115 (fun H locs hP9 hD9 hS => ?_)
        obtain ⟨pf_12, e_12⟩ : ∃ y, y = va_up pf_9 q1 ((pf_9 q1).1, (pf_9 q1).2.1, (pf_9 q1).2.2.1, 0, (pf_9 q1).2.2.2.2) := ⟨_, rfl⟩
        replace hf := hf pf_12 e_12
        have hP9 := ptF_set (t9 := ((pf_9 q1).1, (pf_9 q1).2.1, (pf_9 q1).2.2.1, 0, (pf_9 q1).2.2.2.2)) hD hm1 hk_12 hP9
        have hD9 := ptF_setD (t9 := ((pf_9 q1).1, (pf_9 q1).2.1, (pf_9 q1).2.2.1, 0, (pf_9 q1).2.2.2.2)) hD hm1 hk_12 hD9
        rw [← e_12] at hP9 hD9
        have hP : va_P (dC, dI) clA (@HAppend.hAppend va_W va_W va_W _ [(h0, .inr (1, [.int pos, .ref a1, .ref a2, .ref a3, .ref a4, .ref a5])), (a2, .inl ((cA 0), 30, .inl fa)), (a3, .inl ((cA 0), 30, .inl la)), (a4, .inl ((cA 0), 30, .inl v_3.1)), (a5, .inl ((cA 0), 900, .inl v_3.2))] (va_pl LP (ptF pf_12))) H := hP9
        have hD : va_D A (@HAppend.hAppend va_W va_W va_W _ [(h0, .inr (1, [.int pos, .ref a1, .ref a2, .ref a3, .ref a4, .ref a5])), (a2, .inl ((cA 0), 30, .inl fa)), (a3, .inl ((cA 0), 30, .inl la)), (a4, .inl ((cA 0), 30, .inl v_3.1)), (a5, .inl ((cA 0), 900, .inl v_3.2))] (va_pl LP (ptF pf_12))) := hD9
        refine lv_aload_n hx hb d_Net_chain_118 rfl (lv_at hl 1 rfl) ?_
        refine lv_aload_n hx hb d_Net_chain_119 rfl (lv_at hl 1 rfl) ?_
        obtain ⟨kp_13, hk_13⟩ := va_pl_get (X := [(h0, .inr (1, [.int pos, .ref a1, .ref a2, .ref a3, .ref a4, .ref a5])), (a2, .inl ((cA 0), 30, .inl fa)), (a3, .inl ((cA 0), 30, .inl la)), (a4, .inl ((cA 0), 30, .inl v_3.1)), (a5, .inl ((cA 0), 900, .inl v_3.2))]) (f := ptF pf_12) hm1
        refine va_getN (D := (dC, dI)) (ci := 3) (v := .int ((pf_12 q1).2.2.2.1)) (C := RX3) (T := TX3) (N := 5) hx hb hts (fun w h => List.mem_cons_of_mem _ (in_X3 w h)) hown hK hP kp_13 hk_13 rfl 3 (by decide) (va_Nw.use rfl (hN _ nl_8)) (fun _ h9 => h9) rfl d_Net_chain_120 ?_
        refine lv_if_eq (tgt := 138) hx hb d_Net_chain_123 (by decide) (fun c_14 => ?_) (fun c_14 => ?_)
        · replace hf := hf.1 c_14
          refine lv_iconst (v := 0) hx hb d_Net_chain_138 (by decide) ?_
          obtain ⟨kp_15, hk_15⟩ := va_pl_get (X := [(h0, .inr (1, [.int pos, .ref a1, .ref a2, .ref a3, .ref a4, .ref a5])), (a2, .inl ((cA 0), 30, .inl fa)), (a3, .inl ((cA 0), 30, .inl la)), (a4, .inl ((cA 0), 30, .inl v_3.1)), (a5, .inl ((cA 0), 900, .inl v_3.2))]) (f := ptF pf_12) hm1
          refine va_putN (D := (dC, dI)) (ci := 3) (v := .int 0) (ty := .int) (C := RX3) (T := TX3) (N := 5) hx hb hts (fun w h => List.mem_cons_of_mem _ (in_X3 w h)) tyX3 tyX3_ok nmX3 hown hK hP hD hS kp_15 hk_15 rfl 4 (by decide) (va_Nw.use rfl (hN _ nl_10)) (fun _ h9 => h9) rfl (tyX3_ok 4 (by decide)) rfl rfl (Nat.le_of_ble_eq_true rfl) d_Net_chain_139 (fun H locs hP9 hD9 hS => ?_)
          obtain ⟨pf_15, e_15⟩ : ∃ y, y = va_up pf_12 q1 ((pf_12 q1).1, (pf_12 q1).2.1, (pf_12 q1).2.2.1, (pf_12 q1).2.2.2.1, 0) := ⟨_, rfl⟩
          replace hf := hf pf_15 e_15
          have hP9 := ptF_set (t9 := ((pf_12 q1).1, (pf_12 q1).2.1, (pf_12 q1).2.2.1, (pf_12 q1).2.2.2.1, 0)) hD hm1 hk_15 hP9
          have hD9 := ptF_setD (t9 := ((pf_12 q1).1, (pf_12 q1).2.1, (pf_12 q1).2.2.1, (pf_12 q1).2.2.2.1, 0)) hD hm1 hk_15 hD9
          rw [← e_15] at hP9 hD9
          have hP : va_P (dC, dI) clA (@HAppend.hAppend va_W va_W va_W _ [(h0, .inr (1, [.int pos, .ref a1, .ref a2, .ref a3, .ref a4, .ref a5])), (a2, .inl ((cA 0), 30, .inl fa)), (a3, .inl ((cA 0), 30, .inl la)), (a4, .inl ((cA 0), 30, .inl v_3.1)), (a5, .inl ((cA 0), 900, .inl v_3.2))] (va_pl LP (ptF pf_15))) H := hP9
          have hD : va_D A (@HAppend.hAppend va_W va_W va_W _ [(h0, .inr (1, [.int pos, .ref a1, .ref a2, .ref a3, .ref a4, .ref a5])), (a2, .inl ((cA 0), 30, .inl fa)), (a3, .inl ((cA 0), 30, .inl la)), (a4, .inl ((cA 0), 30, .inl v_3.1)), (a5, .inl ((cA 0), 900, .inl v_3.2))] (va_pl LP (ptF pf_15))) := hD9
          have hP9 := hP.part (cx := [(h0, .inr (1, [.int pos, .ref a1, .ref a2, .ref a3, .ref a4, .ref a5])), (a2, .inl ((cA 0), 30, .inl fa)), (a3, .inl ((cA 0), 30, .inl la)), (a4, .inl ((cA 0), 30, .inl v_3.1)), (a5, .inl ((cA 0), 900, .inl v_3.2))]) [0, 1, 2, 3, 4] rfl
          have hD9 := hD.part (cx := [(h0, .inr (1, [.int pos, .ref a1, .ref a2, .ref a3, .ref a4, .ref a5])), (a2, .inl ((cA 0), 30, .inl fa)), (a3, .inl ((cA 0), 30, .inl la)), (a4, .inl ((cA 0), 30, .inl v_3.1)), (a5, .inl ((cA 0), 900, .inl v_3.2))]) [0, 1, 2, 3, 4] (by decide) rfl
          refine W_end hQz ?_
          exact W.vret hx hb hr (fun t ht hW => ⟨⟨(fa, la, v_3.1, v_3.2, pf_15), rfl, hf, P_cg ht.symm hP9, va_K.moved hW.alike hK, hD9⟩, hS.F ht⟩) hS.2.2 d_Net_chain_142 hlocks
        · replace hf := hf.2 c_14
          refine lv_aload_n hx hb d_Net_chain_126 rfl (lv_at hl 1 rfl) ?_
          obtain ⟨kp_17, hk_17⟩ := va_pl_get (X := [(h0, .inr (1, [.int pos, .ref a1, .ref a2, .ref a3, .ref a4, .ref a5])), (a2, .inl ((cA 0), 30, .inl fa)), (a3, .inl ((cA 0), 30, .inl la)), (a4, .inl ((cA 0), 30, .inl v_3.1)), (a5, .inl ((cA 0), 900, .inl v_3.2))]) (f := ptF pf_12) hm1
          refine va_getN (D := (dC, dI)) (ci := 3) (v := .int ((pf_12 q1).2.2.2.2)) (C := RX3) (T := TX3) (N := 5) hx hb hts (fun w h => List.mem_cons_of_mem _ (in_X3 w h)) hown hK hP kp_17 hk_17 rfl 4 (by decide) (va_Nw.use rfl (hN _ nl_10)) (fun _ h9 => h9) rfl d_Net_chain_127 ?_
          refine lv_aload_n hx hb d_Net_chain_130 rfl (lv_at hl 2 rfl) ?_
          obtain ⟨kp_18, hk_18⟩ := va_pl_get (X := [(h0, .inr (1, [.int pos, .ref a1, .ref a2, .ref a3, .ref a4, .ref a5])), (a2, .inl ((cA 0), 30, .inl fa)), (a3, .inl ((cA 0), 30, .inl la)), (a4, .inl ((cA 0), 30, .inl v_3.1)), (a5, .inl ((cA 0), 900, .inl v_3.2))]) (f := ptF pf_12) hm2
          refine va_getN (D := (dC, dI)) (ci := 3) (v := .int ((pf_12 q2).2.2.2.2)) (C := RX3) (T := TX3) (N := 5) hx hb hts (fun w h => List.mem_cons_of_mem _ (in_X3 w h)) hown hK hP kp_18 hk_18 rfl 4 (by decide) (va_Nw.use rfl (hN _ nl_10)) (fun _ h9 => h9) rfl d_Net_chain_131 ?_
          refine lv_ior hx hb d_Net_chain_134 ?_
          refine lv_goto (tgt := 139) hx hb d_Net_chain_135 (by decide) ?_
          obtain ⟨kp_19, hk_19⟩ := va_pl_get (X := [(h0, .inr (1, [.int pos, .ref a1, .ref a2, .ref a3, .ref a4, .ref a5])), (a2, .inl ((cA 0), 30, .inl fa)), (a3, .inl ((cA 0), 30, .inl la)), (a4, .inl ((cA 0), 30, .inl v_3.1)), (a5, .inl ((cA 0), 900, .inl v_3.2))]) (f := ptF pf_12) hm1
          refine va_putN (D := (dC, dI)) (ci := 3) (v := .int (((pf_12 q1).2.2.2.2) ||| ((pf_12 q2).2.2.2.2))) (ty := .int) (C := RX3) (T := TX3) (N := 5) hx hb hts (fun w h => List.mem_cons_of_mem _ (in_X3 w h)) tyX3 tyX3_ok nmX3 hown hK hP hD hS kp_19 hk_19 rfl 4 (by decide) (va_Nw.use rfl (hN _ nl_10)) (fun _ h9 => h9) rfl (tyX3_ok 4 (by decide)) rfl rfl (Nat.le_of_ble_eq_true rfl) d_Net_chain_139 (fun H locs hP9 hD9 hS => ?_)
          obtain ⟨pf_19, e_19⟩ : ∃ y, y = va_up pf_12 q1 ((pf_12 q1).1, (pf_12 q1).2.1, (pf_12 q1).2.2.1, (pf_12 q1).2.2.2.1, (((pf_12 q1).2.2.2.2) ||| ((pf_12 q2).2.2.2.2))) := ⟨_, rfl⟩
          replace hf := hf pf_19 e_19
          have hP9 := ptF_set (t9 := ((pf_12 q1).1, (pf_12 q1).2.1, (pf_12 q1).2.2.1, (pf_12 q1).2.2.2.1, (((pf_12 q1).2.2.2.2) ||| ((pf_12 q2).2.2.2.2)))) hD hm1 hk_19 hP9
          have hD9 := ptF_setD (t9 := ((pf_12 q1).1, (pf_12 q1).2.1, (pf_12 q1).2.2.1, (pf_12 q1).2.2.2.1, (((pf_12 q1).2.2.2.2) ||| ((pf_12 q2).2.2.2.2)))) hD hm1 hk_19 hD9
          rw [← e_19] at hP9 hD9
          have hP : va_P (dC, dI) clA (@HAppend.hAppend va_W va_W va_W _ [(h0, .inr (1, [.int pos, .ref a1, .ref a2, .ref a3, .ref a4, .ref a5])), (a2, .inl ((cA 0), 30, .inl fa)), (a3, .inl ((cA 0), 30, .inl la)), (a4, .inl ((cA 0), 30, .inl v_3.1)), (a5, .inl ((cA 0), 900, .inl v_3.2))] (va_pl LP (ptF pf_19))) H := hP9
          have hD : va_D A (@HAppend.hAppend va_W va_W va_W _ [(h0, .inr (1, [.int pos, .ref a1, .ref a2, .ref a3, .ref a4, .ref a5])), (a2, .inl ((cA 0), 30, .inl fa)), (a3, .inl ((cA 0), 30, .inl la)), (a4, .inl ((cA 0), 30, .inl v_3.1)), (a5, .inl ((cA 0), 900, .inl v_3.2))] (va_pl LP (ptF pf_19))) := hD9
          have hP9 := hP.part (cx := [(h0, .inr (1, [.int pos, .ref a1, .ref a2, .ref a3, .ref a4, .ref a5])), (a2, .inl ((cA 0), 30, .inl fa)), (a3, .inl ((cA 0), 30, .inl la)), (a4, .inl ((cA 0), 30, .inl v_3.1)), (a5, .inl ((cA 0), 900, .inl v_3.2))]) [0, 1, 2, 3, 4] rfl
          have hD9 := hD.part (cx := [(h0, .inr (1, [.int pos, .ref a1, .ref a2, .ref a3, .ref a4, .ref a5])), (a2, .inl ((cA 0), 30, .inl fa)), (a3, .inl ((cA 0), 30, .inl la)), (a4, .inl ((cA 0), 30, .inl v_3.1)), (a5, .inl ((cA 0), 900, .inl v_3.2))]) [0, 1, 2, 3, 4] (by decide) rfl
          refine W_end hQz ?_
          exact W.vret hx hb hr (fun t ht hW => ⟨⟨(fa, la, v_3.1, v_3.2, pf_19), rfl, hf, P_cg ht.symm hP9, va_K.moved hW.alike hK, hD9⟩, hS.F ht⟩) hS.2.2 d_Net_chain_142 hlocks
      · replace hf := hf.2 c_11
        refine lv_aload_n hx hb d_Net_chain_103 rfl (lv_at hl 2 rfl) ?_
        obtain ⟨kp_21, hk_21⟩ := va_pl_get (X := [(h0, .inr (1, [.int pos, .ref a1, .ref a2, .ref a3, .ref a4, .ref a5])), (a2, .inl ((cA 0), 30, .inl fa)), (a3, .inl ((cA 0), 30, .inl la)), (a4, .inl ((cA 0), 30, .inl v_3.1)), (a5, .inl ((cA 0), 900, .inl v_3.2))]) (f := ptF pf_9) hm2
        refine va_getN (D := (dC, dI)) (ci := 3) (v := .int ((pf_9 q2).2.2.2.1)) (C := RX3) (T := TX3) (N := 5) hx hb hts (fun w h => List.mem_cons_of_mem _ (in_X3 w h)) hown hK hP kp_21 hk_21 rfl 3 (by decide) (va_Nw.use rfl (hN _ nl_8)) (fun _ h9 => h9) rfl d_Net_chain_104 ?_
        refine lv_if_eq (tgt := 114) hx hb d_Net_chain_107 (by decide) (fun c_22 => ?_) (fun c_22 => ?_)
        · replace hf := hf.1 c_22
          refine lv_iconst (v := 0) hx hb d_Net_chain_114 (by decide) ?_
          obtain ⟨kp_23, hk_23⟩ := va_pl_get (X := [(h0, .inr (1, [.int pos, .ref a1, .ref a2, .ref a3, .ref a4, .ref a5])), (a2, .inl ((cA 0), 30, .inl fa)), (a3, .inl ((cA 0), 30, .inl la)), (a4, .inl ((cA 0), 30, .inl v_3.1)), (a5, .inl ((cA 0), 900, .inl v_3.2))]) (f := ptF pf_9) hm1
          refine va_putN (D := (dC, dI)) (ci := 3) (v := .int 0) (ty := .boolean) (C := RX3) (T := TX3) (N := 5) hx hb hts (fun w h => List.mem_cons_of_mem _ (in_X3 w h)) tyX3 tyX3_ok nmX3 hown hK hP hD hS kp_23 hk_23 rfl 3 (by decide) (va_Nw.use rfl (hN _ nl_8)) (fun _ h9 => h9) rfl (tyX3_ok 3 (by decide)) (by decide) (by decide) (Nat.le_of_ble_eq_true rfl) d_Net_chain_115 (fun H locs hP9 hD9 hS => ?_)
          obtain ⟨pf_23, e_23⟩ : ∃ y, y = va_up pf_9 q1 ((pf_9 q1).1, (pf_9 q1).2.1, (pf_9 q1).2.2.1, 0, (pf_9 q1).2.2.2.2) := ⟨_, rfl⟩
          replace hf := hf pf_23 e_23
          have hP9 := ptF_set (t9 := ((pf_9 q1).1, (pf_9 q1).2.1, (pf_9 q1).2.2.1, 0, (pf_9 q1).2.2.2.2)) hD hm1 hk_23 hP9
          have hD9 := ptF_setD (t9 := ((pf_9 q1).1, (pf_9 q1).2.1, (pf_9 q1).2.2.1, 0, (pf_9 q1).2.2.2.2)) hD hm1 hk_23 hD9
          rw [← e_23] at hP9 hD9
          have hP : va_P (dC, dI) clA (@HAppend.hAppend va_W va_W va_W _ [(h0, .inr (1, [.int pos, .ref a1, .ref a2, .ref a3, .ref a4, .ref a5])), (a2, .inl ((cA 0), 30, .inl fa)), (a3, .inl ((cA 0), 30, .inl la)), (a4, .inl ((cA 0), 30, .inl v_3.1)), (a5, .inl ((cA 0), 900, .inl v_3.2))] (va_pl LP (ptF pf_23))) H := hP9
          have hD : va_D A (@HAppend.hAppend va_W va_W va_W _ [(h0, .inr (1, [.int pos, .ref a1, .ref a2, .ref a3, .ref a4, .ref a5])), (a2, .inl ((cA 0), 30, .inl fa)), (a3, .inl ((cA 0), 30, .inl la)), (a4, .inl ((cA 0), 30, .inl v_3.1)), (a5, .inl ((cA 0), 900, .inl v_3.2))] (va_pl LP (ptF pf_23))) := hD9
          refine lv_aload_n hx hb d_Net_chain_118 rfl (lv_at hl 1 rfl) ?_
          refine lv_aload_n hx hb d_Net_chain_119 rfl (lv_at hl 1 rfl) ?_
          obtain ⟨kp_24, hk_24⟩ := va_pl_get (X := [(h0, .inr (1, [.int pos, .ref a1, .ref a2, .ref a3, .ref a4, .ref a5])), (a2, .inl ((cA 0), 30, .inl fa)), (a3, .inl ((cA 0), 30, .inl la)), (a4, .inl ((cA 0), 30, .inl v_3.1)), (a5, .inl ((cA 0), 900, .inl v_3.2))]) (f := ptF pf_23) hm1
          refine va_getN (D := (dC, dI)) (ci := 3) (v := .int ((pf_23 q1).2.2.2.1)) (C := RX3) (T := TX3) (N := 5) hx hb hts (fun w h => List.mem_cons_of_mem _ (in_X3 w h)) hown hK hP kp_24 hk_24 rfl 3 (by decide) (va_Nw.use rfl (hN _ nl_8)) (fun _ h9 => h9) rfl d_Net_chain_120 ?_
          refine lv_if_eq (tgt := 138) hx hb d_Net_chain_123 (by decide) (fun c_25 => ?_) (fun c_25 => ?_)
          · replace hf := hf.1 c_25
            refine lv_iconst (v := 0) hx hb d_Net_chain_138 (by decide) ?_
            obtain ⟨kp_26, hk_26⟩ := va_pl_get (X := [(h0, .inr (1, [.int pos, .ref a1, .ref a2, .ref a3, .ref a4, .ref a5])), (a2, .inl ((cA 0), 30, .inl fa)), (a3, .inl ((cA 0), 30, .inl la)), (a4, .inl ((cA 0), 30, .inl v_3.1)), (a5, .inl ((cA 0), 900, .inl v_3.2))]) (f := ptF pf_23) hm1
            refine va_putN (D := (dC, dI)) (ci := 3) (v := .int 0) (ty := .int) (C := RX3) (T := TX3) (N := 5) hx hb hts (fun w h => List.mem_cons_of_mem _ (in_X3 w h)) tyX3 tyX3_ok nmX3 hown hK hP hD hS kp_26 hk_26 rfl 4 (by decide) (va_Nw.use rfl (hN _ nl_10)) (fun _ h9 => h9) rfl (tyX3_ok 4 (by decide)) rfl rfl (Nat.le_of_ble_eq_true rfl) d_Net_chain_139 (fun H locs hP9 hD9 hS => ?_)
            obtain ⟨pf_26, e_26⟩ : ∃ y, y = va_up pf_23 q1 ((pf_23 q1).1, (pf_23 q1).2.1, (pf_23 q1).2.2.1, (pf_23 q1).2.2.2.1, 0) := ⟨_, rfl⟩
            replace hf := hf pf_26 e_26
            have hP9 := ptF_set (t9 := ((pf_23 q1).1, (pf_23 q1).2.1, (pf_23 q1).2.2.1, (pf_23 q1).2.2.2.1, 0)) hD hm1 hk_26 hP9
            have hD9 := ptF_setD (t9 := ((pf_23 q1).1, (pf_23 q1).2.1, (pf_23 q1).2.2.1, (pf_23 q1).2.2.2.1, 0)) hD hm1 hk_26 hD9
            rw [← e_26] at hP9 hD9
            have hP : va_P (dC, dI) clA (@HAppend.hAppend va_W va_W va_W _ [(h0, .inr (1, [.int pos, .ref a1, .ref a2, .ref a3, .ref a4, .ref a5])), (a2, .inl ((cA 0), 30, .inl fa)), (a3, .inl ((cA 0), 30, .inl la)), (a4, .inl ((cA 0), 30, .inl v_3.1)), (a5, .inl ((cA 0), 900, .inl v_3.2))] (va_pl LP (ptF pf_26))) H := hP9
            have hD : va_D A (@HAppend.hAppend va_W va_W va_W _ [(h0, .inr (1, [.int pos, .ref a1, .ref a2, .ref a3, .ref a4, .ref a5])), (a2, .inl ((cA 0), 30, .inl fa)), (a3, .inl ((cA 0), 30, .inl la)), (a4, .inl ((cA 0), 30, .inl v_3.1)), (a5, .inl ((cA 0), 900, .inl v_3.2))] (va_pl LP (ptF pf_26))) := hD9
            have hP9 := hP.part (cx := [(h0, .inr (1, [.int pos, .ref a1, .ref a2, .ref a3, .ref a4, .ref a5])), (a2, .inl ((cA 0), 30, .inl fa)), (a3, .inl ((cA 0), 30, .inl la)), (a4, .inl ((cA 0), 30, .inl v_3.1)), (a5, .inl ((cA 0), 900, .inl v_3.2))]) [0, 1, 2, 3, 4] rfl
            have hD9 := hD.part (cx := [(h0, .inr (1, [.int pos, .ref a1, .ref a2, .ref a3, .ref a4, .ref a5])), (a2, .inl ((cA 0), 30, .inl fa)), (a3, .inl ((cA 0), 30, .inl la)), (a4, .inl ((cA 0), 30, .inl v_3.1)), (a5, .inl ((cA 0), 900, .inl v_3.2))]) [0, 1, 2, 3, 4] (by decide) rfl
            refine W_end hQz ?_
            exact W.vret hx hb hr (fun t ht hW => ⟨⟨(fa, la, v_3.1, v_3.2, pf_26), rfl, hf, P_cg ht.symm hP9, va_K.moved hW.alike hK, hD9⟩, hS.F ht⟩) hS.2.2 d_Net_chain_142 hlocks
          · replace hf := hf.2 c_25
            refine lv_aload_n hx hb d_Net_chain_126 rfl (lv_at hl 1 rfl) ?_
            obtain ⟨kp_28, hk_28⟩ := va_pl_get (X := [(h0, .inr (1, [.int pos, .ref a1, .ref a2, .ref a3, .ref a4, .ref a5])), (a2, .inl ((cA 0), 30, .inl fa)), (a3, .inl ((cA 0), 30, .inl la)), (a4, .inl ((cA 0), 30, .inl v_3.1)), (a5, .inl ((cA 0), 900, .inl v_3.2))]) (f := ptF pf_23) hm1
            refine va_getN (D := (dC, dI)) (ci := 3) (v := .int ((pf_23 q1).2.2.2.2)) (C := RX3) (T := TX3) (N := 5) hx hb hts (fun w h => List.mem_cons_of_mem _ (in_X3 w h)) hown hK hP kp_28 hk_28 rfl 4 (by decide) (va_Nw.use rfl (hN _ nl_10)) (fun _ h9 => h9) rfl d_Net_chain_127 ?_
            refine lv_aload_n hx hb d_Net_chain_130 rfl (lv_at hl 2 rfl) ?_
            obtain ⟨kp_29, hk_29⟩ := va_pl_get (X := [(h0, .inr (1, [.int pos, .ref a1, .ref a2, .ref a3, .ref a4, .ref a5])), (a2, .inl ((cA 0), 30, .inl fa)), (a3, .inl ((cA 0), 30, .inl la)), (a4, .inl ((cA 0), 30, .inl v_3.1)), (a5, .inl ((cA 0), 900, .inl v_3.2))]) (f := ptF pf_23) hm2
            refine va_getN (D := (dC, dI)) (ci := 3) (v := .int ((pf_23 q2).2.2.2.2)) (C := RX3) (T := TX3) (N := 5) hx hb hts (fun w h => List.mem_cons_of_mem _ (in_X3 w h)) hown hK hP kp_29 hk_29 rfl 4 (by decide) (va_Nw.use rfl (hN _ nl_10)) (fun _ h9 => h9) rfl d_Net_chain_131 ?_
            refine lv_ior hx hb d_Net_chain_134 ?_
            refine lv_goto (tgt := 139) hx hb d_Net_chain_135 (by decide) ?_
            obtain ⟨kp_30, hk_30⟩ := va_pl_get (X := [(h0, .inr (1, [.int pos, .ref a1, .ref a2, .ref a3, .ref a4, .ref a5])), (a2, .inl ((cA 0), 30, .inl fa)), (a3, .inl ((cA 0), 30, .inl la)), (a4, .inl ((cA 0), 30, .inl v_3.1)), (a5, .inl ((cA 0), 900, .inl v_3.2))]) (f := ptF pf_23) hm1
            refine va_putN (D := (dC, dI)) (ci := 3) (v := .int (((pf_23 q1).2.2.2.2) ||| ((pf_23 q2).2.2.2.2))) (ty := .int) (C := RX3) (T := TX3) (N := 5) hx hb hts (fun w h => List.mem_cons_of_mem _ (in_X3 w h)) tyX3 tyX3_ok nmX3 hown hK hP hD hS kp_30 hk_30 rfl 4 (by decide) (va_Nw.use rfl (hN _ nl_10)) (fun _ h9 => h9) rfl (tyX3_ok 4 (by decide)) rfl rfl (Nat.le_of_ble_eq_true rfl) d_Net_chain_139 (fun H locs hP9 hD9 hS => ?_)
            obtain ⟨pf_30, e_30⟩ : ∃ y, y = va_up pf_23 q1 ((pf_23 q1).1, (pf_23 q1).2.1, (pf_23 q1).2.2.1, (pf_23 q1).2.2.2.1, (((pf_23 q1).2.2.2.2) ||| ((pf_23 q2).2.2.2.2))) := ⟨_, rfl⟩
            replace hf := hf pf_30 e_30
            have hP9 := ptF_set (t9 := ((pf_23 q1).1, (pf_23 q1).2.1, (pf_23 q1).2.2.1, (pf_23 q1).2.2.2.1, (((pf_23 q1).2.2.2.2) ||| ((pf_23 q2).2.2.2.2)))) hD hm1 hk_30 hP9
            have hD9 := ptF_setD (t9 := ((pf_23 q1).1, (pf_23 q1).2.1, (pf_23 q1).2.2.1, (pf_23 q1).2.2.2.1, (((pf_23 q1).2.2.2.2) ||| ((pf_23 q2).2.2.2.2)))) hD hm1 hk_30 hD9
            rw [← e_30] at hP9 hD9
            have hP : va_P (dC, dI) clA (@HAppend.hAppend va_W va_W va_W _ [(h0, .inr (1, [.int pos, .ref a1, .ref a2, .ref a3, .ref a4, .ref a5])), (a2, .inl ((cA 0), 30, .inl fa)), (a3, .inl ((cA 0), 30, .inl la)), (a4, .inl ((cA 0), 30, .inl v_3.1)), (a5, .inl ((cA 0), 900, .inl v_3.2))] (va_pl LP (ptF pf_30))) H := hP9
            have hD : va_D A (@HAppend.hAppend va_W va_W va_W _ [(h0, .inr (1, [.int pos, .ref a1, .ref a2, .ref a3, .ref a4, .ref a5])), (a2, .inl ((cA 0), 30, .inl fa)), (a3, .inl ((cA 0), 30, .inl la)), (a4, .inl ((cA 0), 30, .inl v_3.1)), (a5, .inl ((cA 0), 900, .inl v_3.2))] (va_pl LP (ptF pf_30))) := hD9
            have hP9 := hP.part (cx := [(h0, .inr (1, [.int pos, .ref a1, .ref a2, .ref a3, .ref a4, .ref a5])), (a2, .inl ((cA 0), 30, .inl fa)), (a3, .inl ((cA 0), 30, .inl la)), (a4, .inl ((cA 0), 30, .inl v_3.1)), (a5, .inl ((cA 0), 900, .inl v_3.2))]) [0, 1, 2, 3, 4] rfl
            have hD9 := hD.part (cx := [(h0, .inr (1, [.int pos, .ref a1, .ref a2, .ref a3, .ref a4, .ref a5])), (a2, .inl ((cA 0), 30, .inl fa)), (a3, .inl ((cA 0), 30, .inl la)), (a4, .inl ((cA 0), 30, .inl v_3.1)), (a5, .inl ((cA 0), 900, .inl v_3.2))]) [0, 1, 2, 3, 4] (by decide) rfl
            refine W_end hQz ?_
            exact W.vret hx hb hr (fun t ht hW => ⟨⟨(fa, la, v_3.1, v_3.2, pf_30), rfl, hf, P_cg ht.symm hP9, va_K.moved hW.alike hK, hD9⟩, hS.F ht⟩) hS.2.2 d_Net_chain_142 hlocks
        · replace hf := hf.2 c_22
          refine lv_iconst (v := 1) hx hb d_Net_chain_110 (by decide) ?_
          refine lv_goto (tgt := 115) hx hb d_Net_chain_111 (by decide) ?_
          obtain ⟨kp_32, hk_32⟩ := va_pl_get (X := [(h0, .inr (1, [.int pos, .ref a1, .ref a2, .ref a3, .ref a4, .ref a5])), (a2, .inl ((cA 0), 30, .inl fa)), (a3, .inl ((cA 0), 30, .inl la)), (a4, .inl ((cA 0), 30, .inl v_3.1)), (a5, .inl ((cA 0), 900, .inl v_3.2))]) (f := ptF pf_9) hm1
          refine va_putN (D := (dC, dI)) (ci := 3) (v := .int 1) (ty := .boolean) (C := RX3) (T := TX3) (N := 5) hx hb hts (fun w h => List.mem_cons_of_mem _ (in_X3 w h)) tyX3 tyX3_ok nmX3 hown hK hP hD hS kp_32 hk_32 rfl 3 (by decide) (va_Nw.use rfl (hN _ nl_8)) (fun _ h9 => h9) rfl (tyX3_ok 3 (by decide)) (by decide) (by decide) (Nat.le_of_ble_eq_true rfl) d_Net_chain_115 (fun H locs hP9 hD9 hS => ?_)
          obtain ⟨pf_32, e_32⟩ : ∃ y, y = va_up pf_9 q1 ((pf_9 q1).1, (pf_9 q1).2.1, (pf_9 q1).2.2.1, 1, (pf_9 q1).2.2.2.2) := ⟨_, rfl⟩
          replace hf := hf pf_32 e_32
          have hP9 := ptF_set (t9 := ((pf_9 q1).1, (pf_9 q1).2.1, (pf_9 q1).2.2.1, 1, (pf_9 q1).2.2.2.2)) hD hm1 hk_32 hP9
          have hD9 := ptF_setD (t9 := ((pf_9 q1).1, (pf_9 q1).2.1, (pf_9 q1).2.2.1, 1, (pf_9 q1).2.2.2.2)) hD hm1 hk_32 hD9
          rw [← e_32] at hP9 hD9
          have hP : va_P (dC, dI) clA (@HAppend.hAppend va_W va_W va_W _ [(h0, .inr (1, [.int pos, .ref a1, .ref a2, .ref a3, .ref a4, .ref a5])), (a2, .inl ((cA 0), 30, .inl fa)), (a3, .inl ((cA 0), 30, .inl la)), (a4, .inl ((cA 0), 30, .inl v_3.1)), (a5, .inl ((cA 0), 900, .inl v_3.2))] (va_pl LP (ptF pf_32))) H := hP9
          have hD : va_D A (@HAppend.hAppend va_W va_W va_W _ [(h0, .inr (1, [.int pos, .ref a1, .ref a2, .ref a3, .ref a4, .ref a5])), (a2, .inl ((cA 0), 30, .inl fa)), (a3, .inl ((cA 0), 30, .inl la)), (a4, .inl ((cA 0), 30, .inl v_3.1)), (a5, .inl ((cA 0), 900, .inl v_3.2))] (va_pl LP (ptF pf_32))) := hD9
          refine lv_aload_n hx hb d_Net_chain_118 rfl (lv_at hl 1 rfl) ?_
          refine lv_aload_n hx hb d_Net_chain_119 rfl (lv_at hl 1 rfl) ?_
          obtain ⟨kp_33, hk_33⟩ := va_pl_get (X := [(h0, .inr (1, [.int pos, .ref a1, .ref a2, .ref a3, .ref a4, .ref a5])), (a2, .inl ((cA 0), 30, .inl fa)), (a3, .inl ((cA 0), 30, .inl la)), (a4, .inl ((cA 0), 30, .inl v_3.1)), (a5, .inl ((cA 0), 900, .inl v_3.2))]) (f := ptF pf_32) hm1
          refine va_getN (D := (dC, dI)) (ci := 3) (v := .int ((pf_32 q1).2.2.2.1)) (C := RX3) (T := TX3) (N := 5) hx hb hts (fun w h => List.mem_cons_of_mem _ (in_X3 w h)) hown hK hP kp_33 hk_33 rfl 3 (by decide) (va_Nw.use rfl (hN _ nl_8)) (fun _ h9 => h9) rfl d_Net_chain_120 ?_
          refine lv_if_eq (tgt := 138) hx hb d_Net_chain_123 (by decide) (fun c_34 => ?_) (fun c_34 => ?_)
          · replace hf := hf.1 c_34
            refine lv_iconst (v := 0) hx hb d_Net_chain_138 (by decide) ?_
            obtain ⟨kp_35, hk_35⟩ := va_pl_get (X := [(h0, .inr (1, [.int pos, .ref a1, .ref a2, .ref a3, .ref a4, .ref a5])), (a2, .inl ((cA 0), 30, .inl fa)), (a3, .inl ((cA 0), 30, .inl la)), (a4, .inl ((cA 0), 30, .inl v_3.1)), (a5, .inl ((cA 0), 900, .inl v_3.2))]) (f := ptF pf_32) hm1
            refine va_putN (D := (dC, dI)) (ci := 3) (v := .int 0) (ty := .int) (C := RX3) (T := TX3) (N := 5) hx hb hts (fun w h => List.mem_cons_of_mem _ (in_X3 w h)) tyX3 tyX3_ok nmX3 hown hK hP hD hS kp_35 hk_35 rfl 4 (by decide) (va_Nw.use rfl (hN _ nl_10)) (fun _ h9 => h9) rfl (tyX3_ok 4 (by decide)) rfl rfl (Nat.le_of_ble_eq_true rfl) d_Net_chain_139 (fun H locs hP9 hD9 hS => ?_)
            obtain ⟨pf_35, e_35⟩ : ∃ y, y = va_up pf_32 q1 ((pf_32 q1).1, (pf_32 q1).2.1, (pf_32 q1).2.2.1, (pf_32 q1).2.2.2.1, 0) := ⟨_, rfl⟩
            replace hf := hf pf_35 e_35
            have hP9 := ptF_set (t9 := ((pf_32 q1).1, (pf_32 q1).2.1, (pf_32 q1).2.2.1, (pf_32 q1).2.2.2.1, 0)) hD hm1 hk_35 hP9
            have hD9 := ptF_setD (t9 := ((pf_32 q1).1, (pf_32 q1).2.1, (pf_32 q1).2.2.1, (pf_32 q1).2.2.2.1, 0)) hD hm1 hk_35 hD9
            rw [← e_35] at hP9 hD9
            have hP : va_P (dC, dI) clA (@HAppend.hAppend va_W va_W va_W _ [(h0, .inr (1, [.int pos, .ref a1, .ref a2, .ref a3, .ref a4, .ref a5])), (a2, .inl ((cA 0), 30, .inl fa)), (a3, .inl ((cA 0), 30, .inl la)), (a4, .inl ((cA 0), 30, .inl v_3.1)), (a5, .inl ((cA 0), 900, .inl v_3.2))] (va_pl LP (ptF pf_35))) H := hP9
            have hD : va_D A (@HAppend.hAppend va_W va_W va_W _ [(h0, .inr (1, [.int pos, .ref a1, .ref a2, .ref a3, .ref a4, .ref a5])), (a2, .inl ((cA 0), 30, .inl fa)), (a3, .inl ((cA 0), 30, .inl la)), (a4, .inl ((cA 0), 30, .inl v_3.1)), (a5, .inl ((cA 0), 900, .inl v_3.2))] (va_pl LP (ptF pf_35))) := hD9
            have hP9 := hP.part (cx := [(h0, .inr (1, [.int pos, .ref a1, .ref a2, .ref a3, .ref a4, .ref a5])), (a2, .inl ((cA 0), 30, .inl fa)), (a3, .inl ((cA 0), 30, .inl la)), (a4, .inl ((cA 0), 30, .inl v_3.1)), (a5, .inl ((cA 0), 900, .inl v_3.2))]) [0, 1, 2, 3, 4] rfl
            have hD9 := hD.part (cx := [(h0, .inr (1, [.int pos, .ref a1, .ref a2, .ref a3, .ref a4, .ref a5])), (a2, .inl ((cA 0), 30, .inl fa)), (a3, .inl ((cA 0), 30, .inl la)), (a4, .inl ((cA 0), 30, .inl v_3.1)), (a5, .inl ((cA 0), 900, .inl v_3.2))]) [0, 1, 2, 3, 4] (by decide) rfl
            refine W_end hQz ?_
            exact W.vret hx hb hr (fun t ht hW => ⟨⟨(fa, la, v_3.1, v_3.2, pf_35), rfl, hf, P_cg ht.symm hP9, va_K.moved hW.alike hK, hD9⟩, hS.F ht⟩) hS.2.2 d_Net_chain_142 hlocks
          · replace hf := hf.2 c_34
            refine lv_aload_n hx hb d_Net_chain_126 rfl (lv_at hl 1 rfl) ?_
            obtain ⟨kp_37, hk_37⟩ := va_pl_get (X := [(h0, .inr (1, [.int pos, .ref a1, .ref a2, .ref a3, .ref a4, .ref a5])), (a2, .inl ((cA 0), 30, .inl fa)), (a3, .inl ((cA 0), 30, .inl la)), (a4, .inl ((cA 0), 30, .inl v_3.1)), (a5, .inl ((cA 0), 900, .inl v_3.2))]) (f := ptF pf_32) hm1
            refine va_getN (D := (dC, dI)) (ci := 3) (v := .int ((pf_32 q1).2.2.2.2)) (C := RX3) (T := TX3) (N := 5) hx hb hts (fun w h => List.mem_cons_of_mem _ (in_X3 w h)) hown hK hP kp_37 hk_37 rfl 4 (by decide) (va_Nw.use rfl (hN _ nl_10)) (fun _ h9 => h9) rfl d_Net_chain_127 ?_
            refine lv_aload_n hx hb d_Net_chain_130 rfl (lv_at hl 2 rfl) ?_
            obtain ⟨kp_38, hk_38⟩ := va_pl_get (X := [(h0, .inr (1, [.int pos, .ref a1, .ref a2, .ref a3, .ref a4, .ref a5])), (a2, .inl ((cA 0), 30, .inl fa)), (a3, .inl ((cA 0), 30, .inl la)), (a4, .inl ((cA 0), 30, .inl v_3.1)), (a5, .inl ((cA 0), 900, .inl v_3.2))]) (f := ptF pf_32) hm2
            refine va_getN (D := (dC, dI)) (ci := 3) (v := .int ((pf_32 q2).2.2.2.2)) (C := RX3) (T := TX3) (N := 5) hx hb hts (fun w h => List.mem_cons_of_mem _ (in_X3 w h)) hown hK hP kp_38 hk_38 rfl 4 (by decide) (va_Nw.use rfl (hN _ nl_10)) (fun _ h9 => h9) rfl d_Net_chain_131 ?_
            refine lv_ior hx hb d_Net_chain_134 ?_
            refine lv_goto (tgt := 139) hx hb d_Net_chain_135 (by decide) ?_
            obtain ⟨kp_39, hk_39⟩ := va_pl_get (X := [(h0, .inr (1, [.int pos, .ref a1, .ref a2, .ref a3, .ref a4, .ref a5])), (a2, .inl ((cA 0), 30, .inl fa)), (a3, .inl ((cA 0), 30, .inl la)), (a4, .inl ((cA 0), 30, .inl v_3.1)), (a5, .inl ((cA 0), 900, .inl v_3.2))]) (f := ptF pf_32) hm1
            refine va_putN (D := (dC, dI)) (ci := 3) (v := .int (((pf_32 q1).2.2.2.2) ||| ((pf_32 q2).2.2.2.2))) (ty := .int) (C := RX3) (T := TX3) (N := 5) hx hb hts (fun w h => List.mem_cons_of_mem _ (in_X3 w h)) tyX3 tyX3_ok nmX3 hown hK hP hD hS kp_39 hk_39 rfl 4 (by decide) (va_Nw.use rfl (hN _ nl_10)) (fun _ h9 => h9) rfl (tyX3_ok 4 (by decide)) rfl rfl (Nat.le_of_ble_eq_true rfl) d_Net_chain_139 (fun H locs hP9 hD9 hS => ?_)
            obtain ⟨pf_39, e_39⟩ : ∃ y, y = va_up pf_32 q1 ((pf_32 q1).1, (pf_32 q1).2.1, (pf_32 q1).2.2.1, (pf_32 q1).2.2.2.1, (((pf_32 q1).2.2.2.2) ||| ((pf_32 q2).2.2.2.2))) := ⟨_, rfl⟩
            replace hf := hf pf_39 e_39
            have hP9 := ptF_set (t9 := ((pf_32 q1).1, (pf_32 q1).2.1, (pf_32 q1).2.2.1, (pf_32 q1).2.2.2.1, (((pf_32 q1).2.2.2.2) ||| ((pf_32 q2).2.2.2.2)))) hD hm1 hk_39 hP9
            have hD9 := ptF_setD (t9 := ((pf_32 q1).1, (pf_32 q1).2.1, (pf_32 q1).2.2.1, (pf_32 q1).2.2.2.1, (((pf_32 q1).2.2.2.2) ||| ((pf_32 q2).2.2.2.2)))) hD hm1 hk_39 hD9
            rw [← e_39] at hP9 hD9
            have hP : va_P (dC, dI) clA (@HAppend.hAppend va_W va_W va_W _ [(h0, .inr (1, [.int pos, .ref a1, .ref a2, .ref a3, .ref a4, .ref a5])), (a2, .inl ((cA 0), 30, .inl fa)), (a3, .inl ((cA 0), 30, .inl la)), (a4, .inl ((cA 0), 30, .inl v_3.1)), (a5, .inl ((cA 0), 900, .inl v_3.2))] (va_pl LP (ptF pf_39))) H := hP9
            have hD : va_D A (@HAppend.hAppend va_W va_W va_W _ [(h0, .inr (1, [.int pos, .ref a1, .ref a2, .ref a3, .ref a4, .ref a5])), (a2, .inl ((cA 0), 30, .inl fa)), (a3, .inl ((cA 0), 30, .inl la)), (a4, .inl ((cA 0), 30, .inl v_3.1)), (a5, .inl ((cA 0), 900, .inl v_3.2))] (va_pl LP (ptF pf_39))) := hD9
            have hP9 := hP.part (cx := [(h0, .inr (1, [.int pos, .ref a1, .ref a2, .ref a3, .ref a4, .ref a5])), (a2, .inl ((cA 0), 30, .inl fa)), (a3, .inl ((cA 0), 30, .inl la)), (a4, .inl ((cA 0), 30, .inl v_3.1)), (a5, .inl ((cA 0), 900, .inl v_3.2))]) [0, 1, 2, 3, 4] rfl
            have hD9 := hD.part (cx := [(h0, .inr (1, [.int pos, .ref a1, .ref a2, .ref a3, .ref a4, .ref a5])), (a2, .inl ((cA 0), 30, .inl fa)), (a3, .inl ((cA 0), 30, .inl la)), (a4, .inl ((cA 0), 30, .inl v_3.1)), (a5, .inl ((cA 0), 900, .inl v_3.2))]) [0, 1, 2, 3, 4] (by decide) rfl
            refine W_end hQz ?_
            exact W.vret hx hb hr (fun t ht hW => ⟨⟨(fa, la, v_3.1, v_3.2, pf_39), rfl, hf, P_cg ht.symm hP9, va_K.moved hW.alike hK, hD9⟩, hS.F ht⟩) hS.2.2 d_Net_chain_142 hlocks
    · replace hf := hf.2 c_7
      refine lv_aload_n hx hb d_Net_chain_55 rfl (lv_at hl 0 rfl) ?_
      refine lv_aload_n hx hb d_Net_chain_56 rfl (lv_at hl 0 rfl) ?_
      refine va_get (D := (dC, dI)) (ci := 1) (v := .ref a3) (C := RX1) (T := TX1) (N := 6) hx hb hts (fun w h => List.mem_cons_of_mem _ (in_X1 w h)) hown hK hP 0 rfl rfl 3 (by decide) (hts _ (List.mem_cons_of_mem _ k_99)) (fun _ h9 => h9) rfl d_Net_chain_57 ?_
      refine lv_aload_n hx hb d_Net_chain_60 rfl (lv_at hl 1 rfl) ?_
      obtain ⟨kp_41, hk_41⟩ := va_pl_get (X := [(h0, .inr (1, [.int pos, .ref a1, .ref a2, .ref a3, .ref a4, .ref a5])), (a2, .inl ((cA 0), 30, .inl fa)), (a3, .inl ((cA 0), 30, .inl la)), (a4, .inl ((cA 0), 30, .inl v_3.1)), (a5, .inl ((cA 0), 900, .inl v_3.2))]) (f := ptF pf) hm1
      refine va_getN (D := (dC, dI)) (ci := 3) (v := .int ((pf q1).2.2.1)) (C := RX3) (T := TX3) (N := 5) hx hb hts (fun w h => List.mem_cons_of_mem _ (in_X3 w h)) hown hK hP kp_41 hk_41 rfl 2 (by decide) (va_Nw.use rfl (hN _ nl_6)) (fun _ h9 => h9) rfl d_Net_chain_61 ?_
      refine lv_aload_n hx hb d_Net_chain_64 rfl (lv_at hl 2 rfl) ?_
      obtain ⟨kp_42, hk_42⟩ := va_pl_get (X := [(h0, .inr (1, [.int pos, .ref a1, .ref a2, .ref a3, .ref a4, .ref a5])), (a2, .inl ((cA 0), 30, .inl fa)), (a3, .inl ((cA 0), 30, .inl la)), (a4, .inl ((cA 0), 30, .inl v_3.1)), (a5, .inl ((cA 0), 900, .inl v_3.2))]) (f := ptF pf) hm2
      refine va_getN (D := (dC, dI)) (ci := 3) (v := .int ((pf q2).2.2.2.2)) (C := RX3) (T := TX3) (N := 5) hx hb hts (fun w h => List.mem_cons_of_mem _ (in_X3 w h)) hown hK hP kp_42 hk_42 rfl 4 (by decide) (va_Nw.use rfl (hN _ nl_10)) (fun _ h9 => h9) rfl d_Net_chain_65 ?_
      obtain ⟨v_43, hv_43, hf⟩ := hf
      have hPc := hP.sub (ws' := [(h0, .inr (1, [.int pos, .ref a1, .ref a2, .ref a3, .ref a4, .ref a5])), (a3, .inl ((cA 0), 30, .inl la))]) [0, 2] rfl
      have hDc := hD.sub (ws' := [(h0, .inr (1, [.int pos, .ref a1, .ref a2, .ref a3, .ref a4, .ref a5])), (a3, .inl ((cA 0), 30, .inl la))]) [0, 2] (by decide) rfl
      have hFc := va_free (wc := [(h0, .inr (1, [.int pos, .ref a1, .ref a2, .ref a3, .ref a4, .ref a5])), (a3, .inl ((cA 0), 30, .inl la))]) hD hS hA [0, 2] rfl
      refine va_callv (va_runV (As := [.ref a3, .int ((pf q1).2.2.1), .int ((pf q2).2.2.2.2)]) (rest := []) ⟨hx, hb, hml, hown, hts⟩ (c_Net_give l dC dI cA h0 a3 a1 a2 a3 a4 a5 H.size ((pf q1).2.2.1) ((pf q2).2.2.2.2) pos la v_43 hv_43) (cwV 3 hts (gV9 k_726 k_728 k_12 k_51 k_729) rfl rfl rfl hv_Net_give ⟨Nat.le_of_ble_eq_true rfl, Nat.le_of_ble_eq_true rfl⟩) ⟨fun a U g mk q => by obtain ⟨q0, q1, qP, qK, qN, qD⟩ := q; exact ⟨q0, q1, qP, va_K.moved (u := U) (U := U.calling g mk a) (Vm.Alike.refl U.vm) qK, nW_same (u := U) (U := U.calling g mk a) rfl qN, qD⟩, va_recv hK hPc (ci := 1) (q0 := 0) rfl rfl, fun U hU hW => ⟨rfl, congrArg _ hU, P_cg hU.symm hPc, va_K.moved hW.alike hK, nW_warm hW hN, hDc.weaken (fun _ _ _ _ => trivial)⟩⟩ rfl rfl hl.1 rfl (lv_room (Nat.le_of_ble_eq_true rfl)) d_Net_chain_68 ⟨Nat.zero_le _, Nat.zero_le _⟩) hS (fun q _ h => hFc q h) hFc (fun u t H locs ht hvm hw hB hz1 hk1 hS => ?_)
      subst hw
      obtain ⟨hP1, hK1, hD1⟩ := hB
      replace hP1 := P_cg ht hP1
      obtain ⟨hP, hD⟩ := va_joinQ (cx := [(h0, .inr (1, [.int pos, .ref a1, .ref a2, .ref a3, .ref a4, .ref a5])), (a3, .inl ((cA 0), 30, .inl la))]) (wr := [(a2, .inl ((cA 0), 30, .inl fa)), (a4, .inl ((cA 0), 30, .inl v_3.1)), (a5, .inl ((cA 0), 900, .inl v_3.2))]) (w1 := [(h0, .inr (1, [.int pos, .ref a1, .ref a2, .ref a3, .ref a4, .ref a5])), (a3, .inl ((cA 0), 30, .inl v_43))]) hP hD [0, 2] [1, 3, 4] rfl rfl (by decide) (by decide) hk1 hFc hP1 hD1
      have hP : va_P (dC, dI) clA (@HAppend.hAppend va_W va_W va_W _ [(a2, .inl ((cA 0), 30, .inl fa)), (a4, .inl ((cA 0), 30, .inl v_3.1)), (a5, .inl ((cA 0), 900, .inl v_3.2)), (h0, .inr (1, [.int pos, .ref a1, .ref a2, .ref a3, .ref a4, .ref a5])), (a3, .inl ((cA 0), 30, .inl v_43))] (va_pl LP (ptF pf))) H := hP
      have hD : va_D A (@HAppend.hAppend va_W va_W va_W _ [(a2, .inl ((cA 0), 30, .inl fa)), (a4, .inl ((cA 0), 30, .inl v_3.1)), (a5, .inl ((cA 0), 900, .inl v_3.2)), (h0, .inr (1, [.int pos, .ref a1, .ref a2, .ref a3, .ref a4, .ref a5])), (a3, .inl ((cA 0), 30, .inl v_43))] (va_pl LP (ptF pf))) := hD
      refine lv_aload_n hx hb d_Net_chain_71 rfl (lv_at hl 1 rfl) ?_
      refine lv_dup hx hb d_Net_chain_72 rfl ?_
      obtain ⟨kp_44, hk_44⟩ := va_pl_get (X := [(a2, .inl ((cA 0), 30, .inl fa)), (a4, .inl ((cA 0), 30, .inl v_3.1)), (a5, .inl ((cA 0), 900, .inl v_3.2)), (h0, .inr (1, [.int pos, .ref a1, .ref a2, .ref a3, .ref a4, .ref a5])), (a3, .inl ((cA 0), 30, .inl v_43))]) (f := ptF pf) hm1
      refine va_getN (D := (dC, dI)) (ci := 3) (v := .int ((pf q1).2.2.1)) (C := RX3) (T := TX3) (N := 5) hx hb hts (fun w h => List.mem_cons_of_mem _ (in_X3 w h)) hown hK hP kp_44 hk_44 rfl 2 (by decide) (va_Nw.use rfl (hN _ nl_6)) (fun _ h9 => h9) rfl d_Net_chain_73 ?_
      refine lv_aload_n hx hb d_Net_chain_76 rfl (lv_at hl 2 rfl) ?_
      obtain ⟨kp_45, hk_45⟩ := va_pl_get (X := [(a2, .inl ((cA 0), 30, .inl fa)), (a4, .inl ((cA 0), 30, .inl v_3.1)), (a5, .inl ((cA 0), 900, .inl v_3.2)), (h0, .inr (1, [.int pos, .ref a1, .ref a2, .ref a3, .ref a4, .ref a5])), (a3, .inl ((cA 0), 30, .inl v_43))]) (f := ptF pf) hm2
      refine va_getN (D := (dC, dI)) (ci := 3) (v := .int ((pf q2).2.2.1)) (C := RX3) (T := TX3) (N := 5) hx hb hts (fun w h => List.mem_cons_of_mem _ (in_X3 w h)) hown hK hP kp_45 hk_45 rfl 2 (by decide) (va_Nw.use rfl (hN _ nl_6)) (fun _ h9 => h9) rfl d_Net_chain_77 ?_
      refine lv_ior hx hb d_Net_chain_80 ?_
      obtain ⟨kp_46, hk_46⟩ := va_pl_get (X := [(a2, .inl ((cA 0), 30, .inl fa)), (a4, .inl ((cA 0), 30, .inl v_3.1)), (a5, .inl ((cA 0), 900, .inl v_3.2)), (h0, .inr (1, [.int pos, .ref a1, .ref a2, .ref a3, .ref a4, .ref a5])), (a3, .inl ((cA 0), 30, .inl v_43))]) (f := ptF pf) hm1
      refine va_putN (D := (dC, dI)) (ci := 3) (v := .int (((pf q1).2.2.1) ||| ((pf q2).2.2.1))) (ty := .int) (C := RX3) (T := TX3) (N := 5) hx hb hts (fun w h => List.mem_cons_of_mem _ (in_X3 w h)) tyX3 tyX3_ok nmX3 hown hK hP hD hS kp_46 hk_46 rfl 2 (by decide) (va_Nw.use rfl (hN _ nl_6)) (fun _ h9 => h9) rfl (tyX3_ok 2 (by decide)) rfl rfl (Nat.le_of_ble_eq_true rfl) d_Net_chain_81 (fun H locs hP9 hD9 hS => ?_)
      obtain ⟨pf_46, e_46⟩ : ∃ y, y = va_up pf q1 ((pf q1).1, (pf q1).2.1, (((pf q1).2.2.1) ||| ((pf q2).2.2.1)), (pf q1).2.2.2.1, (pf q1).2.2.2.2) := ⟨_, rfl⟩
      replace hf := hf pf_46 e_46
      have hP9 := ptF_set (t9 := ((pf q1).1, (pf q1).2.1, (((pf q1).2.2.1) ||| ((pf q2).2.2.1)), (pf q1).2.2.2.1, (pf q1).2.2.2.2)) hD hm1 hk_46 hP9
      have hD9 := ptF_setD (t9 := ((pf q1).1, (pf q1).2.1, (((pf q1).2.2.1) ||| ((pf q2).2.2.1)), (pf q1).2.2.2.1, (pf q1).2.2.2.2)) hD hm1 hk_46 hD9
      rw [← e_46] at hP9 hD9
      have hP : va_P (dC, dI) clA (@HAppend.hAppend va_W va_W va_W _ [(a2, .inl ((cA 0), 30, .inl fa)), (a4, .inl ((cA 0), 30, .inl v_3.1)), (a5, .inl ((cA 0), 900, .inl v_3.2)), (h0, .inr (1, [.int pos, .ref a1, .ref a2, .ref a3, .ref a4, .ref a5])), (a3, .inl ((cA 0), 30, .inl v_43))] (va_pl LP (ptF pf_46))) H := hP9
      have hD : va_D A (@HAppend.hAppend va_W va_W va_W _ [(a2, .inl ((cA 0), 30, .inl fa)), (a4, .inl ((cA 0), 30, .inl v_3.1)), (a5, .inl ((cA 0), 900, .inl v_3.2)), (h0, .inr (1, [.int pos, .ref a1, .ref a2, .ref a3, .ref a4, .ref a5])), (a3, .inl ((cA 0), 30, .inl v_43))] (va_pl LP (ptF pf_46))) := hD9
      refine lv_goto (tgt := 95) hx hb d_Net_chain_84 (by decide) ?_
      refine lv_aload_n hx hb d_Net_chain_95 rfl (lv_at hl 1 rfl) ?_
      refine lv_aload_n hx hb d_Net_chain_96 rfl (lv_at hl 1 rfl) ?_
      obtain ⟨kp_47, hk_47⟩ := va_pl_get (X := [(a2, .inl ((cA 0), 30, .inl fa)), (a4, .inl ((cA 0), 30, .inl v_3.1)), (a5, .inl ((cA 0), 900, .inl v_3.2)), (h0, .inr (1, [.int pos, .ref a1, .ref a2, .ref a3, .ref a4, .ref a5])), (a3, .inl ((cA 0), 30, .inl v_43))]) (f := ptF pf_46) hm1
      refine va_getN (D := (dC, dI)) (ci := 3) (v := .int ((pf_46 q1).2.2.2.1)) (C := RX3) (T := TX3) (N := 5) hx hb hts (fun w h => List.mem_cons_of_mem _ (in_X3 w h)) hown hK hP kp_47 hk_47 rfl 3 (by decide) (va_Nw.use rfl (hN _ nl_8)) (fun _ h9 => h9) rfl d_Net_chain_97 ?_
      refine lv_if_eq (tgt := 114) hx hb d_Net_chain_100 (by decide) (fun c_48 => ?_) (fun c_48 => ?_)
      · replace hf := hf.1 c_48
        refine lv_iconst (v := 0) hx hb d_Net_chain_114 (by decide) ?_
        obtain ⟨kp_49, hk_49⟩ := va_pl_get (X := [(a2, .inl ((cA 0), 30, .inl fa)), (a4, .inl ((cA 0), 30, .inl v_3.1)), (a5, .inl ((cA 0), 900, .inl v_3.2)), (h0, .inr (1, [.int pos, .ref a1, .ref a2, .ref a3, .ref a4, .ref a5])), (a3, .inl ((cA 0), 30, .inl v_43))]) (f := ptF pf_46) hm1
        refine va_putN (D := (dC, dI)) (ci := 3) (v := .int 0) (ty := .boolean) (C := RX3) (T := TX3) (N := 5) hx hb hts (fun w h => List.mem_cons_of_mem _ (in_X3 w h)) tyX3 tyX3_ok nmX3 hown hK hP hD hS kp_49 hk_49 rfl 3 (by decide) (va_Nw.use rfl (hN _ nl_8)) (fun _ h9 => h9) rfl (tyX3_ok 3 (by decide)) (by decide) (by decide) (Nat.le_of_ble_eq_true rfl) d_Net_chain_115 (fun H locs hP9 hD9 hS => ?_)
        obtain ⟨pf_49, e_49⟩ : ∃ y, y = va_up pf_46 q1 ((pf_46 q1).1, (pf_46 q1).2.1, (pf_46 q1).2.2.1, 0, (pf_46 q1).2.2.2.2) := ⟨_, rfl⟩
        replace hf := hf pf_49 e_49
        have hP9 := ptF_set (t9 := ((pf_46 q1).1, (pf_46 q1).2.1, (pf_46 q1).2.2.1, 0, (pf_46 q1).2.2.2.2)) hD hm1 hk_49 hP9
        have hD9 := ptF_setD (t9 := ((pf_46 q1).1, (pf_46 q1).2.1, (pf_46 q1).2.2.1, 0, (pf_46 q1).2.2.2.2)) hD hm1 hk_49 hD9
        rw [← e_49] at hP9 hD9
        have hP : va_P (dC, dI) clA (@HAppend.hAppend va_W va_W va_W _ [(a2, .inl ((cA 0), 30, .inl fa)), (a4, .inl ((cA 0), 30, .inl v_3.1)), (a5, .inl ((cA 0), 900, .inl v_3.2)), (h0, .inr (1, [.int pos, .ref a1, .ref a2, .ref a3, .ref a4, .ref a5])), (a3, .inl ((cA 0), 30, .inl v_43))] (va_pl LP (ptF pf_49))) H := hP9
        have hD : va_D A (@HAppend.hAppend va_W va_W va_W _ [(a2, .inl ((cA 0), 30, .inl fa)), (a4, .inl ((cA 0), 30, .inl v_3.1)), (a5, .inl ((cA 0), 900, .inl v_3.2)), (h0, .inr (1, [.int pos, .ref a1, .ref a2, .ref a3, .ref a4, .ref a5])), (a3, .inl ((cA 0), 30, .inl v_43))] (va_pl LP (ptF pf_49))) := hD9
        refine lv_aload_n hx hb d_Net_chain_118 rfl (lv_at hl 1 rfl) ?_
        refine lv_aload_n hx hb d_Net_chain_119 rfl (lv_at hl 1 rfl) ?_
        obtain ⟨kp_50, hk_50⟩ := va_pl_get (X := [(a2, .inl ((cA 0), 30, .inl fa)), (a4, .inl ((cA 0), 30, .inl v_3.1)), (a5, .inl ((cA 0), 900, .inl v_3.2)), (h0, .inr (1, [.int pos, .ref a1, .ref a2, .ref a3, .ref a4, .ref a5])), (a3, .inl ((cA 0), 30, .inl v_43))]) (f := ptF pf_49) hm1
        refine va_getN (D := (dC, dI)) (ci := 3) (v := .int ((pf_49 q1).2.2.2.1)) (C := RX3) (T := TX3) (N := 5) hx hb hts (fun w h => List.mem_cons_of_mem _ (in_X3 w h)) hown hK hP kp_50 hk_50 rfl 3 (by decide) (va_Nw.use rfl (hN _ nl_8)) (fun _ h9 => h9) rfl d_Net_chain_120 ?_
        refine lv_if_eq (tgt := 138) hx hb d_Net_chain_123 (by decide) (fun c_51 => ?_) (fun c_51 => ?_)
        · replace hf := hf.1 c_51
          refine lv_iconst (v := 0) hx hb d_Net_chain_138 (by decide) ?_
          obtain ⟨kp_52, hk_52⟩ := va_pl_get (X := [(a2, .inl ((cA 0), 30, .inl fa)), (a4, .inl ((cA 0), 30, .inl v_3.1)), (a5, .inl ((cA 0), 900, .inl v_3.2)), (h0, .inr (1, [.int pos, .ref a1, .ref a2, .ref a3, .ref a4, .ref a5])), (a3, .inl ((cA 0), 30, .inl v_43))]) (f := ptF pf_49) hm1
          refine va_putN (D := (dC, dI)) (ci := 3) (v := .int 0) (ty := .int) (C := RX3) (T := TX3) (N := 5) hx hb hts (fun w h => List.mem_cons_of_mem _ (in_X3 w h)) tyX3 tyX3_ok nmX3 hown hK hP hD hS kp_52 hk_52 rfl 4 (by decide) (va_Nw.use rfl (hN _ nl_10)) (fun _ h9 => h9) rfl (tyX3_ok 4 (by decide)) rfl rfl (Nat.le_of_ble_eq_true rfl) d_Net_chain_139 (fun H locs hP9 hD9 hS => ?_)
          obtain ⟨pf_52, e_52⟩ : ∃ y, y = va_up pf_49 q1 ((pf_49 q1).1, (pf_49 q1).2.1, (pf_49 q1).2.2.1, (pf_49 q1).2.2.2.1, 0) := ⟨_, rfl⟩
          replace hf := hf pf_52 e_52
          have hP9 := ptF_set (t9 := ((pf_49 q1).1, (pf_49 q1).2.1, (pf_49 q1).2.2.1, (pf_49 q1).2.2.2.1, 0)) hD hm1 hk_52 hP9
          have hD9 := ptF_setD (t9 := ((pf_49 q1).1, (pf_49 q1).2.1, (pf_49 q1).2.2.1, (pf_49 q1).2.2.2.1, 0)) hD hm1 hk_52 hD9
          rw [← e_52] at hP9 hD9
          have hP : va_P (dC, dI) clA (@HAppend.hAppend va_W va_W va_W _ [(a2, .inl ((cA 0), 30, .inl fa)), (a4, .inl ((cA 0), 30, .inl v_3.1)), (a5, .inl ((cA 0), 900, .inl v_3.2)), (h0, .inr (1, [.int pos, .ref a1, .ref a2, .ref a3, .ref a4, .ref a5])), (a3, .inl ((cA 0), 30, .inl v_43))] (va_pl LP (ptF pf_52))) H := hP9
          have hD : va_D A (@HAppend.hAppend va_W va_W va_W _ [(a2, .inl ((cA 0), 30, .inl fa)), (a4, .inl ((cA 0), 30, .inl v_3.1)), (a5, .inl ((cA 0), 900, .inl v_3.2)), (h0, .inr (1, [.int pos, .ref a1, .ref a2, .ref a3, .ref a4, .ref a5])), (a3, .inl ((cA 0), 30, .inl v_43))] (va_pl LP (ptF pf_52))) := hD9
          have hP9 := hP.part (cx := [(h0, .inr (1, [.int pos, .ref a1, .ref a2, .ref a3, .ref a4, .ref a5])), (a2, .inl ((cA 0), 30, .inl fa)), (a3, .inl ((cA 0), 30, .inl v_43)), (a4, .inl ((cA 0), 30, .inl v_3.1)), (a5, .inl ((cA 0), 900, .inl v_3.2))]) [3, 0, 4, 1, 2] rfl
          have hD9 := hD.part (cx := [(h0, .inr (1, [.int pos, .ref a1, .ref a2, .ref a3, .ref a4, .ref a5])), (a2, .inl ((cA 0), 30, .inl fa)), (a3, .inl ((cA 0), 30, .inl v_43)), (a4, .inl ((cA 0), 30, .inl v_3.1)), (a5, .inl ((cA 0), 900, .inl v_3.2))]) [3, 0, 4, 1, 2] (by decide) rfl
          refine W_end hQz ?_
          exact W.vret hx hb hr (fun t ht hW => ⟨⟨(fa, v_43, v_3.1, v_3.2, pf_52), rfl, hf, P_cg ht.symm hP9, va_K.moved hW.alike hK, hD9⟩, hS.F ht⟩) hS.2.2 d_Net_chain_142 hlocks
        · replace hf := hf.2 c_51
          refine lv_aload_n hx hb d_Net_chain_126 rfl (lv_at hl 1 rfl) ?_
          obtain ⟨kp_54, hk_54⟩ := va_pl_get (X := [(a2, .inl ((cA 0), 30, .inl fa)), (a4, .inl ((cA 0), 30, .inl v_3.1)), (a5, .inl ((cA 0), 900, .inl v_3.2)), (h0, .inr (1, [.int pos, .ref a1, .ref a2, .ref a3, .ref a4, .ref a5])), (a3, .inl ((cA 0), 30, .inl v_43))]) (f := ptF pf_49) hm1
          refine va_getN (D := (dC, dI)) (ci := 3) (v := .int ((pf_49 q1).2.2.2.2)) (C := RX3) (T := TX3) (N := 5) hx hb hts (fun w h => List.mem_cons_of_mem _ (in_X3 w h)) hown hK hP kp_54 hk_54 rfl 4 (by decide) (va_Nw.use rfl (hN _ nl_10)) (fun _ h9 => h9) rfl d_Net_chain_127 ?_
          refine lv_aload_n hx hb d_Net_chain_130 rfl (lv_at hl 2 rfl) ?_
          obtain ⟨kp_55, hk_55⟩ := va_pl_get (X := [(a2, .inl ((cA 0), 30, .inl fa)), (a4, .inl ((cA 0), 30, .inl v_3.1)), (a5, .inl ((cA 0), 900, .inl v_3.2)), (h0, .inr (1, [.int pos, .ref a1, .ref a2, .ref a3, .ref a4, .ref a5])), (a3, .inl ((cA 0), 30, .inl v_43))]) (f := ptF pf_49) hm2
          refine va_getN (D := (dC, dI)) (ci := 3) (v := .int ((pf_49 q2).2.2.2.2)) (C := RX3) (T := TX3) (N := 5) hx hb hts (fun w h => List.mem_cons_of_mem _ (in_X3 w h)) hown hK hP kp_55 hk_55 rfl 4 (by decide) (va_Nw.use rfl (hN _ nl_10)) (fun _ h9 => h9) rfl d_Net_chain_131 ?_
          refine lv_ior hx hb d_Net_chain_134 ?_
          refine lv_goto (tgt := 139) hx hb d_Net_chain_135 (by decide) ?_
          obtain ⟨kp_56, hk_56⟩ := va_pl_get (X := [(a2, .inl ((cA 0), 30, .inl fa)), (a4, .inl ((cA 0), 30, .inl v_3.1)), (a5, .inl ((cA 0), 900, .inl v_3.2)), (h0, .inr (1, [.int pos, .ref a1, .ref a2, .ref a3, .ref a4, .ref a5])), (a3, .inl ((cA 0), 30, .inl v_43))]) (f := ptF pf_49) hm1
          refine va_putN (D := (dC, dI)) (ci := 3) (v := .int (((pf_49 q1).2.2.2.2) ||| ((pf_49 q2).2.2.2.2))) (ty := .int) (C := RX3) (T := TX3) (N := 5) hx hb hts (fun w h => List.mem_cons_of_mem _ (in_X3 w h)) tyX3 tyX3_ok nmX3 hown hK hP hD hS kp_56 hk_56 rfl 4 (by decide) (va_Nw.use rfl (hN _ nl_10)) (fun _ h9 => h9) rfl (tyX3_ok 4 (by decide)) rfl rfl (Nat.le_of_ble_eq_true rfl) d_Net_chain_139 (fun H locs hP9 hD9 hS => ?_)
          obtain ⟨pf_56, e_56⟩ : ∃ y, y = va_up pf_49 q1 ((pf_49 q1).1, (pf_49 q1).2.1, (pf_49 q1).2.2.1, (pf_49 q1).2.2.2.1, (((pf_49 q1).2.2.2.2) ||| ((pf_49 q2).2.2.2.2))) := ⟨_, rfl⟩
          replace hf := hf pf_56 e_56
          have hP9 := ptF_set (t9 := ((pf_49 q1).1, (pf_49 q1).2.1, (pf_49 q1).2.2.1, (pf_49 q1).2.2.2.1, (((pf_49 q1).2.2.2.2) ||| ((pf_49 q2).2.2.2.2)))) hD hm1 hk_56 hP9
          have hD9 := ptF_setD (t9 := ((pf_49 q1).1, (pf_49 q1).2.1, (pf_49 q1).2.2.1, (pf_49 q1).2.2.2.1, (((pf_49 q1).2.2.2.2) ||| ((pf_49 q2).2.2.2.2)))) hD hm1 hk_56 hD9
          rw [← e_56] at hP9 hD9
          have hP : va_P (dC, dI) clA (@HAppend.hAppend va_W va_W va_W _ [(a2, .inl ((cA 0), 30, .inl fa)), (a4, .inl ((cA 0), 30, .inl v_3.1)), (a5, .inl ((cA 0), 900, .inl v_3.2)), (h0, .inr (1, [.int pos, .ref a1, .ref a2, .ref a3, .ref a4, .ref a5])), (a3, .inl ((cA 0), 30, .inl v_43))] (va_pl LP (ptF pf_56))) H := hP9
          have hD : va_D A (@HAppend.hAppend va_W va_W va_W _ [(a2, .inl ((cA 0), 30, .inl fa)), (a4, .inl ((cA 0), 30, .inl v_3.1)), (a5, .inl ((cA 0), 900, .inl v_3.2)), (h0, .inr (1, [.int pos, .ref a1, .ref a2, .ref a3, .ref a4, .ref a5])), (a3, .inl ((cA 0), 30, .inl v_43))] (va_pl LP (ptF pf_56))) := hD9
          have hP9 := hP.part (cx := [(h0, .inr (1, [.int pos, .ref a1, .ref a2, .ref a3, .ref a4, .ref a5])), (a2, .inl ((cA 0), 30, .inl fa)), (a3, .inl ((cA 0), 30, .inl v_43)), (a4, .inl ((cA 0), 30, .inl v_3.1)), (a5, .inl ((cA 0), 900, .inl v_3.2))]) [3, 0, 4, 1, 2] rfl
          have hD9 := hD.part (cx := [(h0, .inr (1, [.int pos, .ref a1, .ref a2, .ref a3, .ref a4, .ref a5])), (a2, .inl ((cA 0), 30, .inl fa)), (a3, .inl ((cA 0), 30, .inl v_43)), (a4, .inl ((cA 0), 30, .inl v_3.1)), (a5, .inl ((cA 0), 900, .inl v_3.2))]) [3, 0, 4, 1, 2] (by decide) rfl
          refine W_end hQz ?_
          exact W.vret hx hb hr (fun t ht hW => ⟨⟨(fa, v_43, v_3.1, v_3.2, pf_56), rfl, hf, P_cg ht.symm hP9, va_K.moved hW.alike hK, hD9⟩, hS.F ht⟩) hS.2.2 d_Net_chain_142 hlocks
      · replace hf := hf.2 c_48
        refine lv_aload_n hx hb d_Net_chain_103 rfl (lv_at hl 2 rfl) ?_
        obtain ⟨kp_58, hk_58⟩ := va_pl_get (X := [(a2, .inl ((cA 0), 30, .inl fa)), (a4, .inl ((cA 0), 30, .inl v_3.1)), (a5, .inl ((cA 0), 900, .inl v_3.2)), (h0, .inr (1, [.int pos, .ref a1, .ref a2, .ref a3, .ref a4, .ref a5])), (a3, .inl ((cA 0), 30, .inl v_43))]) (f := ptF pf_46) hm2
        refine va_getN (D := (dC, dI)) (ci := 3) (v := .int ((pf_46 q2).2.2.2.1)) (C := RX3) (T := TX3) (N := 5) hx hb hts (fun w h => List.mem_cons_of_mem _ (in_X3 w h)) hown hK hP kp_58 hk_58 rfl 3 (by decide) (va_Nw.use rfl (hN _ nl_8)) (fun _ h9 => h9) rfl d_Net_chain_104 ?_
        refine lv_if_eq (tgt := 114) hx hb d_Net_chain_107 (by decide) (fun c_59 => ?_) (fun c_59 => ?_)
        · replace hf := hf.1 c_59
          refine lv_iconst (v := 0) hx hb d_Net_chain_114 (by decide) ?_
          obtain ⟨kp_60, hk_60⟩ := va_pl_get (X := [(a2, .inl ((cA 0), 30, .inl fa)), (a4, .inl ((cA 0), 30, .inl v_3.1)), (a5, .inl ((cA 0), 900, .inl v_3.2)), (h0, .inr (1, [.int pos, .ref a1, .ref a2, .ref a3, .ref a4, .ref a5])), (a3, .inl ((cA 0), 30, .inl v_43))]) (f := ptF pf_46) hm1
          refine va_putN (D := (dC, dI)) (ci := 3) (v := .int 0) (ty := .boolean) (C := RX3) (T := TX3) (N := 5) hx hb hts (fun w h => List.mem_cons_of_mem _ (in_X3 w h)) tyX3 tyX3_ok nmX3 hown hK hP hD hS kp_60 hk_60 rfl 3 (by decide) (va_Nw.use rfl (hN _ nl_8)) (fun _ h9 => h9) rfl (tyX3_ok 3 (by decide)) (by decide) (by decide) (Nat.le_of_ble_eq_true rfl) d_Net_chain_115 (fun H locs hP9 hD9 hS => ?_)
          obtain ⟨pf_60, e_60⟩ : ∃ y, y = va_up pf_46 q1 ((pf_46 q1).1, (pf_46 q1).2.1, (pf_46 q1).2.2.1, 0, (pf_46 q1).2.2.2.2) := ⟨_, rfl⟩
          replace hf := hf pf_60 e_60
          have hP9 := ptF_set (t9 := ((pf_46 q1).1, (pf_46 q1).2.1, (pf_46 q1).2.2.1, 0, (pf_46 q1).2.2.2.2)) hD hm1 hk_60 hP9
          have hD9 := ptF_setD (t9 := ((pf_46 q1).1, (pf_46 q1).2.1, (pf_46 q1).2.2.1, 0, (pf_46 q1).2.2.2.2)) hD hm1 hk_60 hD9
          rw [← e_60] at hP9 hD9
          have hP : va_P (dC, dI) clA (@HAppend.hAppend va_W va_W va_W _ [(a2, .inl ((cA 0), 30, .inl fa)), (a4, .inl ((cA 0), 30, .inl v_3.1)), (a5, .inl ((cA 0), 900, .inl v_3.2)), (h0, .inr (1, [.int pos, .ref a1, .ref a2, .ref a3, .ref a4, .ref a5])), (a3, .inl ((cA 0), 30, .inl v_43))] (va_pl LP (ptF pf_60))) H := hP9
          have hD : va_D A (@HAppend.hAppend va_W va_W va_W _ [(a2, .inl ((cA 0), 30, .inl fa)), (a4, .inl ((cA 0), 30, .inl v_3.1)), (a5, .inl ((cA 0), 900, .inl v_3.2)), (h0, .inr (1, [.int pos, .ref a1, .ref a2, .ref a3, .ref a4, .ref a5])), (a3, .inl ((cA 0), 30, .inl v_43))] (va_pl LP (ptF pf_60))) := hD9
          refine lv_aload_n hx hb d_Net_chain_118 rfl (lv_at hl 1 rfl) ?_
          refine lv_aload_n hx hb d_Net_chain_119 rfl (lv_at hl 1 rfl) ?_
          obtain ⟨kp_61, hk_61⟩ := va_pl_get (X := [(a2, .inl ((cA 0), 30, .inl fa)), (a4, .inl ((cA 0), 30, .inl v_3.1)), (a5, .inl ((cA 0), 900, .inl v_3.2)), (h0, .inr (1, [.int pos, .ref a1, .ref a2, .ref a3, .ref a4, .ref a5])), (a3, .inl ((cA 0), 30, .inl v_43))]) (f := ptF pf_60) hm1
          refine va_getN (D := (dC, dI)) (ci := 3) (v := .int ((pf_60 q1).2.2.2.1)) (C := RX3) (T := TX3) (N := 5) hx hb hts (fun w h => List.mem_cons_of_mem _ (in_X3 w h)) hown hK hP kp_61 hk_61 rfl 3 (by decide) (va_Nw.use rfl (hN _ nl_8)) (fun _ h9 => h9) rfl d_Net_chain_120 ?_
          refine lv_if_eq (tgt := 138) hx hb d_Net_chain_123 (by decide) (fun c_62 => ?_) (fun c_62 => ?_)
          · replace hf := hf.1 c_62
            refine lv_iconst (v := 0) hx hb d_Net_chain_138 (by decide) ?_
            obtain ⟨kp_63, hk_63⟩ := va_pl_get (X := [(a2, .inl ((cA 0), 30, .inl fa)), (a4, .inl ((cA 0), 30, .inl v_3.1)), (a5, .inl ((cA 0), 900, .inl v_3.2)), (h0, .inr (1, [.int pos, .ref a1, .ref a2, .ref a3, .ref a4, .ref a5])), (a3, .inl ((cA 0), 30, .inl v_43))]) (f := ptF pf_60) hm1
            refine va_putN (D := (dC, dI)) (ci := 3) (v := .int 0) (ty := .int) (C := RX3) (T := TX3) (N := 5) hx hb hts (fun w h => List.mem_cons_of_mem _ (in_X3 w h)) tyX3 tyX3_ok nmX3 hown hK hP hD hS kp_63 hk_63 rfl 4 (by decide) (va_Nw.use rfl (hN _ nl_10)) (fun _ h9 => h9) rfl (tyX3_ok 4 (by decide)) rfl rfl (Nat.le_of_ble_eq_true rfl) d_Net_chain_139 (fun H locs hP9 hD9 hS => ?_)
            obtain ⟨pf_63, e_63⟩ : ∃ y, y = va_up pf_60 q1 ((pf_60 q1).1, (pf_60 q1).2.1, (pf_60 q1).2.2.1, (pf_60 q1).2.2.2.1, 0) := ⟨_, rfl⟩
            replace hf := hf pf_63 e_63
            have hP9 := ptF_set (t9 := ((pf_60 q1).1, (pf_60 q1).2.1, (pf_60 q1).2.2.1, (pf_60 q1).2.2.2.1, 0)) hD hm1 hk_63 hP9
            have hD9 := ptF_setD (t9 := ((pf_60 q1).1, (pf_60 q1).2.1, (pf_60 q1).2.2.1, (pf_60 q1).2.2.2.1, 0)) hD hm1 hk_63 hD9
            rw [← e_63] at hP9 hD9
            have hP : va_P (dC, dI) clA (@HAppend.hAppend va_W va_W va_W _ [(a2, .inl ((cA 0), 30, .inl fa)), (a4, .inl ((cA 0), 30, .inl v_3.1)), (a5, .inl ((cA 0), 900, .inl v_3.2)), (h0, .inr (1, [.int pos, .ref a1, .ref a2, .ref a3, .ref a4, .ref a5])), (a3, .inl ((cA 0), 30, .inl v_43))] (va_pl LP (ptF pf_63))) H := hP9
            have hD : va_D A (@HAppend.hAppend va_W va_W va_W _ [(a2, .inl ((cA 0), 30, .inl fa)), (a4, .inl ((cA 0), 30, .inl v_3.1)), (a5, .inl ((cA 0), 900, .inl v_3.2)), (h0, .inr (1, [.int pos, .ref a1, .ref a2, .ref a3, .ref a4, .ref a5])), (a3, .inl ((cA 0), 30, .inl v_43))] (va_pl LP (ptF pf_63))) := hD9
            have hP9 := hP.part (cx := [(h0, .inr (1, [.int pos, .ref a1, .ref a2, .ref a3, .ref a4, .ref a5])), (a2, .inl ((cA 0), 30, .inl fa)), (a3, .inl ((cA 0), 30, .inl v_43)), (a4, .inl ((cA 0), 30, .inl v_3.1)), (a5, .inl ((cA 0), 900, .inl v_3.2))]) [3, 0, 4, 1, 2] rfl
            have hD9 := hD.part (cx := [(h0, .inr (1, [.int pos, .ref a1, .ref a2, .ref a3, .ref a4, .ref a5])), (a2, .inl ((cA 0), 30, .inl fa)), (a3, .inl ((cA 0), 30, .inl v_43)), (a4, .inl ((cA 0), 30, .inl v_3.1)), (a5, .inl ((cA 0), 900, .inl v_3.2))]) [3, 0, 4, 1, 2] (by decide) rfl
            refine W_end hQz ?_
            exact W.vret hx hb hr (fun t ht hW => ⟨⟨(fa, v_43, v_3.1, v_3.2, pf_63), rfl, hf, P_cg ht.symm hP9, va_K.moved hW.alike hK, hD9⟩, hS.F ht⟩) hS.2.2 d_Net_chain_142 hlocks
          · replace hf := hf.2 c_62
            refine lv_aload_n hx hb d_Net_chain_126 rfl (lv_at hl 1 rfl) ?_
            obtain ⟨kp_65, hk_65⟩ := va_pl_get (X := [(a2, .inl ((cA 0), 30, .inl fa)), (a4, .inl ((cA 0), 30, .inl v_3.1)), (a5, .inl ((cA 0), 900, .inl v_3.2)), (h0, .inr (1, [.int pos, .ref a1, .ref a2, .ref a3, .ref a4, .ref a5])), (a3, .inl ((cA 0), 30, .inl v_43))]) (f := ptF pf_60) hm1
            refine va_getN (D := (dC, dI)) (ci := 3) (v := .int ((pf_60 q1).2.2.2.2)) (C := RX3) (T := TX3) (N := 5) hx hb hts (fun w h => List.mem_cons_of_mem _ (in_X3 w h)) hown hK hP kp_65 hk_65 rfl 4 (by decide) (va_Nw.use rfl (hN _ nl_10)) (fun _ h9 => h9) rfl d_Net_chain_127 ?_
            refine lv_aload_n hx hb d_Net_chain_130 rfl (lv_at hl 2 rfl) ?_
            obtain ⟨kp_66, hk_66⟩ := va_pl_get (X := [(a2, .inl ((cA 0), 30, .inl fa)), (a4, .inl ((cA 0), 30, .inl v_3.1)), (a5, .inl ((cA 0), 900, .inl v_3.2)), (h0, .inr (1, [.int pos, .ref a1, .ref a2, .ref a3, .ref a4, .ref a5])), (a3, .inl ((cA 0), 30, .inl v_43))]) (f := ptF pf_60) hm2
            refine va_getN (D := (dC, dI)) (ci := 3) (v := .int ((pf_60 q2).2.2.2.2)) (C := RX3) (T := TX3) (N := 5) hx hb hts (fun w h => List.mem_cons_of_mem _ (in_X3 w h)) hown hK hP kp_66 hk_66 rfl 4 (by decide) (va_Nw.use rfl (hN _ nl_10)) (fun _ h9 => h9) rfl d_Net_chain_131 ?_
            refine lv_ior hx hb d_Net_chain_134 ?_
            refine lv_goto (tgt := 139) hx hb d_Net_chain_135 (by decide) ?_
            obtain ⟨kp_67, hk_67⟩ := va_pl_get (X := [(a2, .inl ((cA 0), 30, .inl fa)), (a4, .inl ((cA 0), 30, .inl v_3.1)), (a5, .inl ((cA 0), 900, .inl v_3.2)), (h0, .inr (1, [.int pos, .ref a1, .ref a2, .ref a3, .ref a4, .ref a5])), (a3, .inl ((cA 0), 30, .inl v_43))]) (f := ptF pf_60) hm1
            refine va_putN (D := (dC, dI)) (ci := 3) (v := .int (((pf_60 q1).2.2.2.2) ||| ((pf_60 q2).2.2.2.2))) (ty := .int) (C := RX3) (T := TX3) (N := 5) hx hb hts (fun w h => List.mem_cons_of_mem _ (in_X3 w h)) tyX3 tyX3_ok nmX3 hown hK hP hD hS kp_67 hk_67 rfl 4 (by decide) (va_Nw.use rfl (hN _ nl_10)) (fun _ h9 => h9) rfl (tyX3_ok 4 (by decide)) rfl rfl (Nat.le_of_ble_eq_true rfl) d_Net_chain_139 (fun H locs hP9 hD9 hS => ?_)
            obtain ⟨pf_67, e_67⟩ : ∃ y, y = va_up pf_60 q1 ((pf_60 q1).1, (pf_60 q1).2.1, (pf_60 q1).2.2.1, (pf_60 q1).2.2.2.1, (((pf_60 q1).2.2.2.2) ||| ((pf_60 q2).2.2.2.2))) := ⟨_, rfl⟩
            replace hf := hf pf_67 e_67
            have hP9 := ptF_set (t9 := ((pf_60 q1).1, (pf_60 q1).2.1, (pf_60 q1).2.2.1, (pf_60 q1).2.2.2.1, (((pf_60 q1).2.2.2.2) ||| ((pf_60 q2).2.2.2.2)))) hD hm1 hk_67 hP9
            have hD9 := ptF_setD (t9 := ((pf_60 q1).1, (pf_60 q1).2.1, (pf_60 q1).2.2.1, (pf_60 q1).2.2.2.1, (((pf_60 q1).2.2.2.2) ||| ((pf_60 q2).2.2.2.2)))) hD hm1 hk_67 hD9
            rw [← e_67] at hP9 hD9
            have hP : va_P (dC, dI) clA (@HAppend.hAppend va_W va_W va_W _ [(a2, .inl ((cA 0), 30, .inl fa)), (a4, .inl ((cA 0), 30, .inl v_3.1)), (a5, .inl ((cA 0), 900, .inl v_3.2)), (h0, .inr (1, [.int pos, .ref a1, .ref a2, .ref a3, .ref a4, .ref a5])), (a3, .inl ((cA 0), 30, .inl v_43))] (va_pl LP (ptF pf_67))) H := hP9
            have hD : va_D A (@HAppend.hAppend va_W va_W va_W _ [(a2, .inl ((cA 0), 30, .inl fa)), (a4, .inl ((cA 0), 30, .inl v_3.1)), (a5, .inl ((cA 0), 900, .inl v_3.2)), (h0, .inr (1, [.int pos, .ref a1, .ref a2, .ref a3, .ref a4, .ref a5])), (a3, .inl ((cA 0), 30, .inl v_43))] (va_pl LP (ptF pf_67))) := hD9
            have hP9 := hP.part (cx := [(h0, .inr (1, [.int pos, .ref a1, .ref a2, .ref a3, .ref a4, .ref a5])), (a2, .inl ((cA 0), 30, .inl fa)), (a3, .inl ((cA 0), 30, .inl v_43)), (a4, .inl ((cA 0), 30, .inl v_3.1)), (a5, .inl ((cA 0), 900, .inl v_3.2))]) [3, 0, 4, 1, 2] rfl
            have hD9 := hD.part (cx := [(h0, .inr (1, [.int pos, .ref a1, .ref a2, .ref a3, .ref a4, .ref a5])), (a2, .inl ((cA 0), 30, .inl fa)), (a3, .inl ((cA 0), 30, .inl v_43)), (a4, .inl ((cA 0), 30, .inl v_3.1)), (a5, .inl ((cA 0), 900, .inl v_3.2))]) [3, 0, 4, 1, 2] (by decide) rfl
            refine W_end hQz ?_
            exact W.vret hx hb hr (fun t ht hW => ⟨⟨(fa, v_43, v_3.1, v_3.2, pf_67), rfl, hf, P_cg ht.symm hP9, va_K.moved hW.alike hK, hD9⟩, hS.F ht⟩) hS.2.2 d_Net_chain_142 hlocks
        · replace hf := hf.2 c_59
          refine lv_iconst (v := 1) hx hb d_Net_chain_110 (by decide) ?_
          refine lv_goto (tgt := 115) hx hb d_Net_chain_111 (by decide) ?_
          obtain ⟨kp_69, hk_69⟩ := va_pl_get (X := [(a2, .inl ((cA 0), 30, .inl fa)), (a4, .inl ((cA 0), 30, .inl v_3.1)), (a5, .inl ((cA 0), 900, .inl v_3.2)), (h0, .inr (1, [.int pos, .ref a1, .ref a2, .ref a3, .ref a4, .ref a5])), (a3, .inl ((cA 0), 30, .inl v_43))]) (f := ptF pf_46) hm1
          refine va_putN (D := (dC, dI)) (ci := 3) (v := .int 1) (ty := .boolean) (C := RX3) (T := TX3) (N := 5) hx hb hts (fun w h => List.mem_cons_of_mem _ (in_X3 w h)) tyX3 tyX3_ok nmX3 hown hK hP hD hS kp_69 hk_69 rfl 3 (by decide) (va_Nw.use rfl (hN _ nl_8)) (fun _ h9 => h9) rfl (tyX3_ok 3 (by decide)) (by decide) (by decide) (Nat.le_of_ble_eq_true rfl) d_Net_chain_115 (fun H locs hP9 hD9 hS => ?_)
          obtain ⟨pf_69, e_69⟩ : ∃ y, y = va_up pf_46 q1 ((pf_46 q1).1, (pf_46 q1).2.1, (pf_46 q1).2.2.1, 1, (pf_46 q1).2.2.2.2) := ⟨_, rfl⟩
          replace hf := hf pf_69 e_69
          have hP9 := ptF_set (t9 := ((pf_46 q1).1, (pf_46 q1).2.1, (pf_46 q1).2.2.1, 1, (pf_46 q1).2.2.2.2)) hD hm1 hk_69 hP9
          have hD9 := ptF_setD (t9 := ((pf_46 q1).1, (pf_46 q1).2.1, (pf_46 q1).2.2.1, 1, (pf_46 q1).2.2.2.2)) hD hm1 hk_69 hD9
          rw [← e_69] at hP9 hD9
          have hP : va_P (dC, dI) clA (@HAppend.hAppend va_W va_W va_W _ [(a2, .inl ((cA 0), 30, .inl fa)), (a4, .inl ((cA 0), 30, .inl v_3.1)), (a5, .inl ((cA 0), 900, .inl v_3.2)), (h0, .inr (1, [.int pos, .ref a1, .ref a2, .ref a3, .ref a4, .ref a5])), (a3, .inl ((cA 0), 30, .inl v_43))] (va_pl LP (ptF pf_69))) H := hP9
          have hD : va_D A (@HAppend.hAppend va_W va_W va_W _ [(a2, .inl ((cA 0), 30, .inl fa)), (a4, .inl ((cA 0), 30, .inl v_3.1)), (a5, .inl ((cA 0), 900, .inl v_3.2)), (h0, .inr (1, [.int pos, .ref a1, .ref a2, .ref a3, .ref a4, .ref a5])), (a3, .inl ((cA 0), 30, .inl v_43))] (va_pl LP (ptF pf_69))) := hD9
          refine lv_aload_n hx hb d_Net_chain_118 rfl (lv_at hl 1 rfl) ?_
          refine lv_aload_n hx hb d_Net_chain_119 rfl (lv_at hl 1 rfl) ?_
          obtain ⟨kp_70, hk_70⟩ := va_pl_get (X := [(a2, .inl ((cA 0), 30, .inl fa)), (a4, .inl ((cA 0), 30, .inl v_3.1)), (a5, .inl ((cA 0), 900, .inl v_3.2)), (h0, .inr (1, [.int pos, .ref a1, .ref a2, .ref a3, .ref a4, .ref a5])), (a3, .inl ((cA 0), 30, .inl v_43))]) (f := ptF pf_69) hm1
          refine va_getN (D := (dC, dI)) (ci := 3) (v := .int ((pf_69 q1).2.2.2.1)) (C := RX3) (T := TX3) (N := 5) hx hb hts (fun w h => List.mem_cons_of_mem _ (in_X3 w h)) hown hK hP kp_70 hk_70 rfl 3 (by decide) (va_Nw.use rfl (hN _ nl_8)) (fun _ h9 => h9) rfl d_Net_chain_120 ?_
          refine lv_if_eq (tgt := 138) hx hb d_Net_chain_123 (by decide) (fun c_71 => ?_) (fun c_71 => ?_)
          · replace hf := hf.1 c_71
            refine lv_iconst (v := 0) hx hb d_Net_chain_138 (by decide) ?_
            obtain ⟨kp_72, hk_72⟩ := va_pl_get (X := [(a2, .inl ((cA 0), 30, .inl fa)), (a4, .inl ((cA 0), 30, .inl v_3.1)), (a5, .inl ((cA 0), 900, .inl v_3.2)), (h0, .inr (1, [.int pos, .ref a1, .ref a2, .ref a3, .ref a4, .ref a5])), (a3, .inl ((cA 0), 30, .inl v_43))]) (f := ptF pf_69) hm1
            refine va_putN (D := (dC, dI)) (ci := 3) (v := .int 0) (ty := .int) (C := RX3) (T := TX3) (N := 5) hx hb hts (fun w h => List.mem_cons_of_mem _ (in_X3 w h)) tyX3 tyX3_ok nmX3 hown hK hP hD hS kp_72 hk_72 rfl 4 (by decide) (va_Nw.use rfl (hN _ nl_10)) (fun _ h9 => h9) rfl (tyX3_ok 4 (by decide)) rfl rfl (Nat.le_of_ble_eq_true rfl) d_Net_chain_139 (fun H locs hP9 hD9 hS => ?_)
            obtain ⟨pf_72, e_72⟩ : ∃ y, y = va_up pf_69 q1 ((pf_69 q1).1, (pf_69 q1).2.1, (pf_69 q1).2.2.1, (pf_69 q1).2.2.2.1, 0) := ⟨_, rfl⟩
            replace hf := hf pf_72 e_72
            have hP9 := ptF_set (t9 := ((pf_69 q1).1, (pf_69 q1).2.1, (pf_69 q1).2.2.1, (pf_69 q1).2.2.2.1, 0)) hD hm1 hk_72 hP9
            have hD9 := ptF_setD (t9 := ((pf_69 q1).1, (pf_69 q1).2.1, (pf_69 q1).2.2.1, (pf_69 q1).2.2.2.1, 0)) hD hm1 hk_72 hD9
            rw [← e_72] at hP9 hD9
            have hP : va_P (dC, dI) clA (@HAppend.hAppend va_W va_W va_W _ [(a2, .inl ((cA 0), 30, .inl fa)), (a4, .inl ((cA 0), 30, .inl v_3.1)), (a5, .inl ((cA 0), 900, .inl v_3.2)), (h0, .inr (1, [.int pos, .ref a1, .ref a2, .ref a3, .ref a4, .ref a5])), (a3, .inl ((cA 0), 30, .inl v_43))] (va_pl LP (ptF pf_72))) H := hP9
            have hD : va_D A (@HAppend.hAppend va_W va_W va_W _ [(a2, .inl ((cA 0), 30, .inl fa)), (a4, .inl ((cA 0), 30, .inl v_3.1)), (a5, .inl ((cA 0), 900, .inl v_3.2)), (h0, .inr (1, [.int pos, .ref a1, .ref a2, .ref a3, .ref a4, .ref a5])), (a3, .inl ((cA 0), 30, .inl v_43))] (va_pl LP (ptF pf_72))) := hD9
            have hP9 := hP.part (cx := [(h0, .inr (1, [.int pos, .ref a1, .ref a2, .ref a3, .ref a4, .ref a5])), (a2, .inl ((cA 0), 30, .inl fa)), (a3, .inl ((cA 0), 30, .inl v_43)), (a4, .inl ((cA 0), 30, .inl v_3.1)), (a5, .inl ((cA 0), 900, .inl v_3.2))]) [3, 0, 4, 1, 2] rfl
            have hD9 := hD.part (cx := [(h0, .inr (1, [.int pos, .ref a1, .ref a2, .ref a3, .ref a4, .ref a5])), (a2, .inl ((cA 0), 30, .inl fa)), (a3, .inl ((cA 0), 30, .inl v_43)), (a4, .inl ((cA 0), 30, .inl v_3.1)), (a5, .inl ((cA 0), 900, .inl v_3.2))]) [3, 0, 4, 1, 2] (by decide) rfl
            refine W_end hQz ?_
            exact W.vret hx hb hr (fun t ht hW => ⟨⟨(fa, v_43, v_3.1, v_3.2, pf_72), rfl, hf, P_cg ht.symm hP9, va_K.moved hW.alike hK, hD9⟩, hS.F ht⟩) hS.2.2 d_Net_chain_142 hlocks
          · replace hf := hf.2 c_71
            refine lv_aload_n hx hb d_Net_chain_126 rfl (lv_at hl 1 rfl) ?_
            obtain ⟨kp_74, hk_74⟩ := va_pl_get (X := [(a2, .inl ((cA 0), 30, .inl fa)), (a4, .inl ((cA 0), 30, .inl v_3.1)), (a5, .inl ((cA 0), 900, .inl v_3.2)), (h0, .inr (1, [.int pos, .ref a1, .ref a2, .ref a3, .ref a4, .ref a5])), (a3, .inl ((cA 0), 30, .inl v_43))]) (f := ptF pf_69) hm1
            refine va_getN (D := (dC, dI)) (ci := 3) (v := .int ((pf_69 q1).2.2.2.2)) (C := RX3) (T := TX3) (N := 5) hx hb hts (fun w h => List.mem_cons_of_mem _ (in_X3 w h)) hown hK hP kp_74 hk_74 rfl 4 (by decide) (va_Nw.use rfl (hN _ nl_10)) (fun _ h9 => h9) rfl d_Net_chain_127 ?_
            refine lv_aload_n hx hb d_Net_chain_130 rfl (lv_at hl 2 rfl) ?_
            obtain ⟨kp_75, hk_75⟩ := va_pl_get (X := [(a2, .inl ((cA 0), 30, .inl fa)), (a4, .inl ((cA 0), 30, .inl v_3.1)), (a5, .inl ((cA 0), 900, .inl v_3.2)), (h0, .inr (1, [.int pos, .ref a1, .ref a2, .ref a3, .ref a4, .ref a5])), (a3, .inl ((cA 0), 30, .inl v_43))]) (f := ptF pf_69) hm2
            refine va_getN (D := (dC, dI)) (ci := 3) (v := .int ((pf_69 q2).2.2.2.2)) (C := RX3) (T := TX3) (N := 5) hx hb hts (fun w h => List.mem_cons_of_mem _ (in_X3 w h)) hown hK hP kp_75 hk_75 rfl 4 (by decide) (va_Nw.use rfl (hN _ nl_10)) (fun _ h9 => h9) rfl d_Net_chain_131 ?_
            refine lv_ior hx hb d_Net_chain_134 ?_
            refine lv_goto (tgt := 139) hx hb d_Net_chain_135 (by decide) ?_
            obtain ⟨kp_76, hk_76⟩ := va_pl_get (X := [(a2, .inl ((cA 0), 30, .inl fa)), (a4, .inl ((cA 0), 30, .inl v_3.1)), (a5, .inl ((cA 0), 900, .inl v_3.2)), (h0, .inr (1, [.int pos, .ref a1, .ref a2, .ref a3, .ref a4, .ref a5])), (a3, .inl ((cA 0), 30, .inl v_43))]) (f := ptF pf_69) hm1
            refine va_putN (D := (dC, dI)) (ci := 3) (v := .int (((pf_69 q1).2.2.2.2) ||| ((pf_69 q2).2.2.2.2))) (ty := .int) (C := RX3) (T := TX3) (N := 5) hx hb hts (fun w h => List.mem_cons_of_mem _ (in_X3 w h)) tyX3 tyX3_ok nmX3 hown hK hP hD hS kp_76 hk_76 rfl 4 (by decide) (va_Nw.use rfl (hN _ nl_10)) (fun _ h9 => h9) rfl (tyX3_ok 4 (by decide)) rfl rfl (Nat.le_of_ble_eq_true rfl) d_Net_chain_139 (fun H locs hP9 hD9 hS => ?_)
            obtain ⟨pf_76, e_76⟩ : ∃ y, y = va_up pf_69 q1 ((pf_69 q1).1, (pf_69 q1).2.1, (pf_69 q1).2.2.1, (pf_69 q1).2.2.2.1, (((pf_69 q1).2.2.2.2) ||| ((pf_69 q2).2.2.2.2))) := ⟨_, rfl⟩
            replace hf := hf pf_76 e_76
            have hP9 := ptF_set (t9 := ((pf_69 q1).1, (pf_69 q1).2.1, (pf_69 q1).2.2.1, (pf_69 q1).2.2.2.1, (((pf_69 q1).2.2.2.2) ||| ((pf_69 q2).2.2.2.2)))) hD hm1 hk_76 hP9
            have hD9 := ptF_setD (t9 := ((pf_69 q1).1, (pf_69 q1).2.1, (pf_69 q1).2.2.1, (pf_69 q1).2.2.2.1, (((pf_69 q1).2.2.2.2) ||| ((pf_69 q2).2.2.2.2)))) hD hm1 hk_76 hD9
            rw [← e_76] at hP9 hD9
            have hP : va_P (dC, dI) clA (@HAppend.hAppend va_W va_W va_W _ [(a2, .inl ((cA 0), 30, .inl fa)), (a4, .inl ((cA 0), 30, .inl v_3.1)), (a5, .inl ((cA 0), 900, .inl v_3.2)), (h0, .inr (1, [.int pos, .ref a1, .ref a2, .ref a3, .ref a4, .ref a5])), (a3, .inl ((cA 0), 30, .inl v_43))] (va_pl LP (ptF pf_76))) H := hP9
            have hD : va_D A (@HAppend.hAppend va_W va_W va_W _ [(a2, .inl ((cA 0), 30, .inl fa)), (a4, .inl ((cA 0), 30, .inl v_3.1)), (a5, .inl ((cA 0), 900, .inl v_3.2)), (h0, .inr (1, [.int pos, .ref a1, .ref a2, .ref a3, .ref a4, .ref a5])), (a3, .inl ((cA 0), 30, .inl v_43))] (va_pl LP (ptF pf_76))) := hD9
            have hP9 := hP.part (cx := [(h0, .inr (1, [.int pos, .ref a1, .ref a2, .ref a3, .ref a4, .ref a5])), (a2, .inl ((cA 0), 30, .inl fa)), (a3, .inl ((cA 0), 30, .inl v_43)), (a4, .inl ((cA 0), 30, .inl v_3.1)), (a5, .inl ((cA 0), 900, .inl v_3.2))]) [3, 0, 4, 1, 2] rfl
            have hD9 := hD.part (cx := [(h0, .inr (1, [.int pos, .ref a1, .ref a2, .ref a3, .ref a4, .ref a5])), (a2, .inl ((cA 0), 30, .inl fa)), (a3, .inl ((cA 0), 30, .inl v_43)), (a4, .inl ((cA 0), 30, .inl v_3.1)), (a5, .inl ((cA 0), 900, .inl v_3.2))]) [3, 0, 4, 1, 2] (by decide) rfl
            refine W_end hQz ?_
            exact W.vret hx hb hr (fun t ht hW => ⟨⟨(fa, v_43, v_3.1, v_3.2, pf_76), rfl, hf, P_cg ht.symm hP9, va_K.moved hW.alike hK, hD9⟩, hS.F ht⟩) hS.2.2 d_Net_chain_142 hlocks
  · replace hf := hf.2 c_5
    refine lv_aload_n hx hb d_Net_chain_19 rfl (lv_at hl 0 rfl) ?_
    refine lv_aload_n hx hb d_Net_chain_20 rfl (lv_at hl 0 rfl) ?_
    refine va_get (D := (dC, dI)) (ci := 1) (v := .ref a2) (C := RX1) (T := TX1) (N := 6) hx hb hts (fun w h => List.mem_cons_of_mem _ (in_X1 w h)) hown hK hP 0 rfl rfl 2 (by decide) (hts _ (List.mem_cons_of_mem _ k_98)) (fun _ h9 => h9) rfl d_Net_chain_21 ?_
    refine lv_aload_n hx hb d_Net_chain_24 rfl (lv_at hl 2 rfl) ?_
    obtain ⟨kp_78, hk_78⟩ := va_pl_get (X := [(h0, .inr (1, [.int pos, .ref a1, .ref a2, .ref a3, .ref a4, .ref a5])), (a2, .inl ((cA 0), 30, .inl fa)), (a3, .inl ((cA 0), 30, .inl la)), (a4, .inl ((cA 0), 30, .inl v_3.1)), (a5, .inl ((cA 0), 900, .inl v_3.2))]) (f := ptF pf) hm2
    refine va_getN (D := (dC, dI)) (ci := 3) (v := .int ((pf q2).2.1)) (C := RX3) (T := TX3) (N := 5) hx hb hts (fun w h => List.mem_cons_of_mem _ (in_X3 w h)) hown hK hP kp_78 hk_78 rfl 1 (by decide) (va_Nw.use rfl (hN _ nl_4)) (fun _ h9 => h9) rfl d_Net_chain_25 ?_
    refine lv_aload_n hx hb d_Net_chain_28 rfl (lv_at hl 1 rfl) ?_
    obtain ⟨kp_79, hk_79⟩ := va_pl_get (X := [(h0, .inr (1, [.int pos, .ref a1, .ref a2, .ref a3, .ref a4, .ref a5])), (a2, .inl ((cA 0), 30, .inl fa)), (a3, .inl ((cA 0), 30, .inl la)), (a4, .inl ((cA 0), 30, .inl v_3.1)), (a5, .inl ((cA 0), 900, .inl v_3.2))]) (f := ptF pf) hm1
    refine va_getN (D := (dC, dI)) (ci := 3) (v := .int ((pf q1).2.2.2.2)) (C := RX3) (T := TX3) (N := 5) hx hb hts (fun w h => List.mem_cons_of_mem _ (in_X3 w h)) hown hK hP kp_79 hk_79 rfl 4 (by decide) (va_Nw.use rfl (hN _ nl_10)) (fun _ h9 => h9) rfl d_Net_chain_29 ?_
    obtain ⟨v_80, hv_80, hf⟩ := hf
    have hPc := hP.sub (ws' := [(h0, .inr (1, [.int pos, .ref a1, .ref a2, .ref a3, .ref a4, .ref a5])), (a2, .inl ((cA 0), 30, .inl fa))]) [0, 1] rfl
    have hDc := hD.sub (ws' := [(h0, .inr (1, [.int pos, .ref a1, .ref a2, .ref a3, .ref a4, .ref a5])), (a2, .inl ((cA 0), 30, .inl fa))]) [0, 1] (by decide) rfl
    have hFc := va_free (wc := [(h0, .inr (1, [.int pos, .ref a1, .ref a2, .ref a3, .ref a4, .ref a5])), (a2, .inl ((cA 0), 30, .inl fa))]) hD hS hA [0, 1] rfl
    refine va_callv (va_runV (As := [.ref a2, .int ((pf q2).2.1), .int ((pf q1).2.2.2.2)]) (rest := []) ⟨hx, hb, hml, hown, hts⟩ (c_Net_give l dC dI cA h0 a2 a1 a2 a3 a4 a5 H.size ((pf q2).2.1) ((pf q1).2.2.2.2) pos fa v_80 hv_80) (cwV 3 hts (gV9 k_726 k_728 k_12 k_51 k_729) rfl rfl rfl hv_Net_give ⟨Nat.le_of_ble_eq_true rfl, Nat.le_of_ble_eq_true rfl⟩) ⟨fun a U g mk q => by obtain ⟨q0, q1, qP, qK, qN, qD⟩ := q; exact ⟨q0, q1, qP, va_K.moved (u := U) (U := U.calling g mk a) (Vm.Alike.refl U.vm) qK, nW_same (u := U) (U := U.calling g mk a) rfl qN, qD⟩, va_recv hK hPc (ci := 1) (q0 := 0) rfl rfl, fun U hU hW => ⟨rfl, congrArg _ hU, P_cg hU.symm hPc, va_K.moved hW.alike hK, nW_warm hW hN, hDc.weaken (fun _ _ _ _ => trivial)⟩⟩ rfl rfl hl.1 rfl (lv_room (Nat.le_of_ble_eq_true rfl)) d_Net_chain_32 ⟨Nat.zero_le _, Nat.zero_le _⟩) hS (fun q _ h => hFc q h) hFc (fun u t H locs ht hvm hw hB hz1 hk1 hS => ?_)
    subst hw
    obtain ⟨hP1, hK1, hD1⟩ := hB
    replace hP1 := P_cg ht hP1
    obtain ⟨hP, hD⟩ := va_joinQ (cx := [(h0, .inr (1, [.int pos, .ref a1, .ref a2, .ref a3, .ref a4, .ref a5])), (a2, .inl ((cA 0), 30, .inl fa))]) (wr := [(a3, .inl ((cA 0), 30, .inl la)), (a4, .inl ((cA 0), 30, .inl v_3.1)), (a5, .inl ((cA 0), 900, .inl v_3.2))]) (w1 := [(h0, .inr (1, [.int pos, .ref a1, .ref a2, .ref a3, .ref a4, .ref a5])), (a2, .inl ((cA 0), 30, .inl v_80))]) hP hD [0, 1] [2, 3, 4] rfl rfl (by decide) (by decide) hk1 hFc hP1 hD1
    have hP : va_P (dC, dI) clA (@HAppend.hAppend va_W va_W va_W _ [(a3, .inl ((cA 0), 30, .inl la)), (a4, .inl ((cA 0), 30, .inl v_3.1)), (a5, .inl ((cA 0), 900, .inl v_3.2)), (h0, .inr (1, [.int pos, .ref a1, .ref a2, .ref a3, .ref a4, .ref a5])), (a2, .inl ((cA 0), 30, .inl v_80))] (va_pl LP (ptF pf))) H := hP
    have hD : va_D A (@HAppend.hAppend va_W va_W va_W _ [(a3, .inl ((cA 0), 30, .inl la)), (a4, .inl ((cA 0), 30, .inl v_3.1)), (a5, .inl ((cA 0), 900, .inl v_3.2)), (h0, .inr (1, [.int pos, .ref a1, .ref a2, .ref a3, .ref a4, .ref a5])), (a2, .inl ((cA 0), 30, .inl v_80))] (va_pl LP (ptF pf))) := hD
    refine lv_aload_n hx hb d_Net_chain_35 rfl (lv_at hl 1 rfl) ?_
    refine lv_dup hx hb d_Net_chain_36 rfl ?_
    obtain ⟨kp_81, hk_81⟩ := va_pl_get (X := [(a3, .inl ((cA 0), 30, .inl la)), (a4, .inl ((cA 0), 30, .inl v_3.1)), (a5, .inl ((cA 0), 900, .inl v_3.2)), (h0, .inr (1, [.int pos, .ref a1, .ref a2, .ref a3, .ref a4, .ref a5])), (a2, .inl ((cA 0), 30, .inl v_80))]) (f := ptF pf) hm1
    refine va_getN (D := (dC, dI)) (ci := 3) (v := .int ((pf q1).2.1)) (C := RX3) (T := TX3) (N := 5) hx hb hts (fun w h => List.mem_cons_of_mem _ (in_X3 w h)) hown hK hP kp_81 hk_81 rfl 1 (by decide) (va_Nw.use rfl (hN _ nl_4)) (fun _ h9 => h9) rfl d_Net_chain_37 ?_
    refine lv_aload_n hx hb d_Net_chain_40 rfl (lv_at hl 2 rfl) ?_
    obtain ⟨kp_82, hk_82⟩ := va_pl_get (X := [(a3, .inl ((cA 0), 30, .inl la)), (a4, .inl ((cA 0), 30, .inl v_3.1)), (a5, .inl ((cA 0), 900, .inl v_3.2)), (h0, .inr (1, [.int pos, .ref a1, .ref a2, .ref a3, .ref a4, .ref a5])), (a2, .inl ((cA 0), 30, .inl v_80))]) (f := ptF pf) hm2
    refine va_getN (D := (dC, dI)) (ci := 3) (v := .int ((pf q2).2.1)) (C := RX3) (T := TX3) (N := 5) hx hb hts (fun w h => List.mem_cons_of_mem _ (in_X3 w h)) hown hK hP kp_82 hk_82 rfl 1 (by decide) (va_Nw.use rfl (hN _ nl_4)) (fun _ h9 => h9) rfl d_Net_chain_41 ?_
    refine lv_ior hx hb d_Net_chain_44 ?_
    obtain ⟨kp_83, hk_83⟩ := va_pl_get (X := [(a3, .inl ((cA 0), 30, .inl la)), (a4, .inl ((cA 0), 30, .inl v_3.1)), (a5, .inl ((cA 0), 900, .inl v_3.2)), (h0, .inr (1, [.int pos, .ref a1, .ref a2, .ref a3, .ref a4, .ref a5])), (a2, .inl ((cA 0), 30, .inl v_80))]) (f := ptF pf) hm1
    refine va_putN (D := (dC, dI)) (ci := 3) (v := .int (((pf q1).2.1) ||| ((pf q2).2.1))) (ty := .int) (C := RX3) (T := TX3) (N := 5) hx hb hts (fun w h => List.mem_cons_of_mem _ (in_X3 w h)) tyX3 tyX3_ok nmX3 hown hK hP hD hS kp_83 hk_83 rfl 1 (by decide) (va_Nw.use rfl (hN _ nl_4)) (fun _ h9 => h9) rfl (tyX3_ok 1 (by decide)) rfl rfl (Nat.le_of_ble_eq_true rfl) d_Net_chain_45 (fun H locs hP9 hD9 hS => ?_)
    obtain ⟨pf_83, e_83⟩ : ∃ y, y = va_up pf q1 ((pf q1).1, (((pf q1).2.1) ||| ((pf q2).2.1)), (pf q1).2.2.1, (pf q1).2.2.2.1, (pf q1).2.2.2.2) := ⟨_, rfl⟩
    replace hf := hf pf_83 e_83
    have hP9 := ptF_set (t9 := ((pf q1).1, (((pf q1).2.1) ||| ((pf q2).2.1)), (pf q1).2.2.1, (pf q1).2.2.2.1, (pf q1).2.2.2.2)) hD hm1 hk_83 hP9
    have hD9 := ptF_setD (t9 := ((pf q1).1, (((pf q1).2.1) ||| ((pf q2).2.1)), (pf q1).2.2.1, (pf q1).2.2.2.1, (pf q1).2.2.2.2)) hD hm1 hk_83 hD9
    rw [← e_83] at hP9 hD9
    have hP : va_P (dC, dI) clA (@HAppend.hAppend va_W va_W va_W _ [(a3, .inl ((cA 0), 30, .inl la)), (a4, .inl ((cA 0), 30, .inl v_3.1)), (a5, .inl ((cA 0), 900, .inl v_3.2)), (h0, .inr (1, [.int pos, .ref a1, .ref a2, .ref a3, .ref a4, .ref a5])), (a2, .inl ((cA 0), 30, .inl v_80))] (va_pl LP (ptF pf_83))) H := hP9
    have hD : va_D A (@HAppend.hAppend va_W va_W va_W _ [(a3, .inl ((cA 0), 30, .inl la)), (a4, .inl ((cA 0), 30, .inl v_3.1)), (a5, .inl ((cA 0), 900, .inl v_3.2)), (h0, .inr (1, [.int pos, .ref a1, .ref a2, .ref a3, .ref a4, .ref a5])), (a2, .inl ((cA 0), 30, .inl v_80))] (va_pl LP (ptF pf_83))) := hD9
    refine lv_aload_n hx hb d_Net_chain_48 rfl (lv_at hl 2 rfl) ?_
    obtain ⟨kp_84, hk_84⟩ := va_pl_get (X := [(a3, .inl ((cA 0), 30, .inl la)), (a4, .inl ((cA 0), 30, .inl v_3.1)), (a5, .inl ((cA 0), 900, .inl v_3.2)), (h0, .inr (1, [.int pos, .ref a1, .ref a2, .ref a3, .ref a4, .ref a5])), (a2, .inl ((cA 0), 30, .inl v_80))]) (f := ptF pf_83) hm2
    refine va_getN (D := (dC, dI)) (ci := 3) (v := .int ((pf_83 q2).2.2.2.1)) (C := RX3) (T := TX3) (N := 5) hx hb hts (fun w h => List.mem_cons_of_mem _ (in_X3 w h)) hown hK hP kp_84 hk_84 rfl 3 (by decide) (va_Nw.use rfl (hN _ nl_8)) (fun _ h9 => h9) rfl d_Net_chain_49 ?_
    refine lv_if_eq (tgt := 87) hx hb d_Net_chain_52 (by decide) (fun c_85 => ?_) (fun c_85 => ?_)
    · replace hf := hf.1 c_85
      refine lv_aload_n hx hb d_Net_chain_87 rfl (lv_at hl 1 rfl) ?_
      refine lv_aload_n hx hb d_Net_chain_88 rfl (lv_at hl 2 rfl) ?_
      obtain ⟨kp_86, hk_86⟩ := va_pl_get (X := [(a3, .inl ((cA 0), 30, .inl la)), (a4, .inl ((cA 0), 30, .inl v_3.1)), (a5, .inl ((cA 0), 900, .inl v_3.2)), (h0, .inr (1, [.int pos, .ref a1, .ref a2, .ref a3, .ref a4, .ref a5])), (a2, .inl ((cA 0), 30, .inl v_80))]) (f := ptF pf_83) hm2
      refine va_getN (D := (dC, dI)) (ci := 3) (v := .int ((pf_83 q2).2.2.1)) (C := RX3) (T := TX3) (N := 5) hx hb hts (fun w h => List.mem_cons_of_mem _ (in_X3 w h)) hown hK hP kp_86 hk_86 rfl 2 (by decide) (va_Nw.use rfl (hN _ nl_6)) (fun _ h9 => h9) rfl d_Net_chain_89 ?_
      obtain ⟨kp_87, hk_87⟩ := va_pl_get (X := [(a3, .inl ((cA 0), 30, .inl la)), (a4, .inl ((cA 0), 30, .inl v_3.1)), (a5, .inl ((cA 0), 900, .inl v_3.2)), (h0, .inr (1, [.int pos, .ref a1, .ref a2, .ref a3, .ref a4, .ref a5])), (a2, .inl ((cA 0), 30, .inl v_80))]) (f := ptF pf_83) hm1
      refine va_putN (D := (dC, dI)) (ci := 3) (v := .int ((pf_83 q2).2.2.1)) (ty := .int) (C := RX3) (T := TX3) (N := 5) hx hb hts (fun w h => List.mem_cons_of_mem _ (in_X3 w h)) tyX3 tyX3_ok nmX3 hown hK hP hD hS kp_87 hk_87 rfl 2 (by decide) (va_Nw.use rfl (hN _ nl_6)) (fun _ h9 => h9) rfl (tyX3_ok 2 (by decide)) rfl rfl (Nat.le_of_ble_eq_true rfl) d_Net_chain_92 (fun H locs hP9 hD9 hS => ?_)
      obtain ⟨pf_87, e_87⟩ : ∃ y, y = va_up pf_83 q1 ((pf_83 q1).1, (pf_83 q1).2.1, (pf_83 q2).2.2.1, (pf_83 q1).2.2.2.1, (pf_83 q1).2.2.2.2) := ⟨_, rfl⟩
      replace hf := hf pf_87 e_87
      have hP9 := ptF_set (t9 := ((pf_83 q1).1, (pf_83 q1).2.1, (pf_83 q2).2.2.1, (pf_83 q1).2.2.2.1, (pf_83 q1).2.2.2.2)) hD hm1 hk_87 hP9
      have hD9 := ptF_setD (t9 := ((pf_83 q1).1, (pf_83 q1).2.1, (pf_83 q2).2.2.1, (pf_83 q1).2.2.2.1, (pf_83 q1).2.2.2.2)) hD hm1 hk_87 hD9
      rw [← e_87] at hP9 hD9
      have hP : va_P (dC, dI) clA (@HAppend.hAppend va_W va_W va_W _ [(a3, .inl ((cA 0), 30, .inl la)), (a4, .inl ((cA 0), 30, .inl v_3.1)), (a5, .inl ((cA 0), 900, .inl v_3.2)), (h0, .inr (1, [.int pos, .ref a1, .ref a2, .ref a3, .ref a4, .ref a5])), (a2, .inl ((cA 0), 30, .inl v_80))] (va_pl LP (ptF pf_87))) H := hP9
      have hD : va_D A (@HAppend.hAppend va_W va_W va_W _ [(a3, .inl ((cA 0), 30, .inl la)), (a4, .inl ((cA 0), 30, .inl v_3.1)), (a5, .inl ((cA 0), 900, .inl v_3.2)), (h0, .inr (1, [.int pos, .ref a1, .ref a2, .ref a3, .ref a4, .ref a5])), (a2, .inl ((cA 0), 30, .inl v_80))] (va_pl LP (ptF pf_87))) := hD9
      refine lv_aload_n hx hb d_Net_chain_95 rfl (lv_at hl 1 rfl) ?_
      refine lv_aload_n hx hb d_Net_chain_96 rfl (lv_at hl 1 rfl) ?_
      obtain ⟨kp_88, hk_88⟩ := va_pl_get (X := [(a3, .inl ((cA 0), 30, .inl la)), (a4, .inl ((cA 0), 30, .inl v_3.1)), (a5, .inl ((cA 0), 900, .inl v_3.2)), (h0, .inr (1, [.int pos, .ref a1, .ref a2, .ref a3, .ref a4, .ref a5])), (a2, .inl ((cA 0), 30, .inl v_80))]) (f := ptF pf_87) hm1
      refine va_getN (D := (dC, dI)) (ci := 3) (v := .int ((pf_87 q1).2.2.2.1)) (C := RX3) (T := TX3) (N := 5) hx hb hts (fun w h => List.mem_cons_of_mem _ (in_X3 w h)) hown hK hP kp_88 hk_88 rfl 3 (by decide) (va_Nw.use rfl (hN _ nl_8)) (fun _ h9 => h9) rfl d_Net_chain_97 ?_
      refine lv_if_eq (tgt := 114) hx hb d_Net_chain_100 (by decide) (fun c_89 => ?_) (fun c_89 => ?_)
      · replace hf := hf.1 c_89
        refine lv_iconst (v := 0) hx hb d_Net_chain_114 (by decide) ?_
        obtain ⟨kp_90, hk_90⟩ := va_pl_get (X := [(a3, .inl ((cA 0), 30, .inl la)), (a4, .inl ((cA 0), 30, .inl v_3.1)), (a5, .inl ((cA 0), 900, .inl v_3.2)), (h0, .inr (1, [.int pos, .ref a1, .ref a2, .ref a3, .ref a4, .ref a5])), (a2, .inl ((cA 0), 30, .inl v_80))]) (f := ptF pf_87) hm1
        refine va_putN (D := (dC, dI)) (ci := 3) (v := .int 0) (ty := .boolean) (C := RX3) (T := TX3) (N := 5) hx hb hts (fun w h => List.mem_cons_of_mem _ (in_X3 w h)) tyX3 tyX3_ok nmX3 hown hK hP hD hS kp_90 hk_90 rfl 3 (by decide) (va_Nw.use rfl (hN _ nl_8)) (fun _ h9 => h9) rfl (tyX3_ok 3 (by decide)) (by decide) (by decide) (Nat.le_of_ble_eq_true rfl) d_Net_chain_115 (fun H locs hP9 hD9 hS => ?_)
        obtain ⟨pf_90, e_90⟩ : ∃ y, y = va_up pf_87 q1 ((pf_87 q1).1, (pf_87 q1).2.1, (pf_87 q1).2.2.1, 0, (pf_87 q1).2.2.2.2) := ⟨_, rfl⟩
        replace hf := hf pf_90 e_90
        have hP9 := ptF_set (t9 := ((pf_87 q1).1, (pf_87 q1).2.1, (pf_87 q1).2.2.1, 0, (pf_87 q1).2.2.2.2)) hD hm1 hk_90 hP9
        have hD9 := ptF_setD (t9 := ((pf_87 q1).1, (pf_87 q1).2.1, (pf_87 q1).2.2.1, 0, (pf_87 q1).2.2.2.2)) hD hm1 hk_90 hD9
        rw [← e_90] at hP9 hD9
        have hP : va_P (dC, dI) clA (@HAppend.hAppend va_W va_W va_W _ [(a3, .inl ((cA 0), 30, .inl la)), (a4, .inl ((cA 0), 30, .inl v_3.1)), (a5, .inl ((cA 0), 900, .inl v_3.2)), (h0, .inr (1, [.int pos, .ref a1, .ref a2, .ref a3, .ref a4, .ref a5])), (a2, .inl ((cA 0), 30, .inl v_80))] (va_pl LP (ptF pf_90))) H := hP9
        have hD : va_D A (@HAppend.hAppend va_W va_W va_W _ [(a3, .inl ((cA 0), 30, .inl la)), (a4, .inl ((cA 0), 30, .inl v_3.1)), (a5, .inl ((cA 0), 900, .inl v_3.2)), (h0, .inr (1, [.int pos, .ref a1, .ref a2, .ref a3, .ref a4, .ref a5])), (a2, .inl ((cA 0), 30, .inl v_80))] (va_pl LP (ptF pf_90))) := hD9
        refine lv_aload_n hx hb d_Net_chain_118 rfl (lv_at hl 1 rfl) ?_
        refine lv_aload_n hx hb d_Net_chain_119 rfl (lv_at hl 1 rfl) ?_
        obtain ⟨kp_91, hk_91⟩ := va_pl_get (X := [(a3, .inl ((cA 0), 30, .inl la)), (a4, .inl ((cA 0), 30, .inl v_3.1)), (a5, .inl ((cA 0), 900, .inl v_3.2)), (h0, .inr (1, [.int pos, .ref a1, .ref a2, .ref a3, .ref a4, .ref a5])), (a2, .inl ((cA 0), 30, .inl v_80))]) (f := ptF pf_90) hm1
        refine va_getN (D := (dC, dI)) (ci := 3) (v := .int ((pf_90 q1).2.2.2.1)) (C := RX3) (T := TX3) (N := 5) hx hb hts (fun w h => List.mem_cons_of_mem _ (in_X3 w h)) hown hK hP kp_91 hk_91 rfl 3 (by decide) (va_Nw.use rfl (hN _ nl_8)) (fun _ h9 => h9) rfl d_Net_chain_120 ?_
        refine lv_if_eq (tgt := 138) hx hb d_Net_chain_123 (by decide) (fun c_92 => ?_) (fun c_92 => ?_)
        · replace hf := hf.1 c_92
          refine lv_iconst (v := 0) hx hb d_Net_chain_138 (by decide) ?_
          obtain ⟨kp_93, hk_93⟩ := va_pl_get (X := [(a3, .inl ((cA 0), 30, .inl la)), (a4, .inl ((cA 0), 30, .inl v_3.1)), (a5, .inl ((cA 0), 900, .inl v_3.2)), (h0, .inr (1, [.int pos, .ref a1, .ref a2, .ref a3, .ref a4, .ref a5])), (a2, .inl ((cA 0), 30, .inl v_80))]) (f := ptF pf_90) hm1
          refine va_putN (D := (dC, dI)) (ci := 3) (v := .int 0) (ty := .int) (C := RX3) (T := TX3) (N := 5) hx hb hts (fun w h => List.mem_cons_of_mem _ (in_X3 w h)) tyX3 tyX3_ok nmX3 hown hK hP hD hS kp_93 hk_93 rfl 4 (by decide) (va_Nw.use rfl (hN _ nl_10)) (fun _ h9 => h9) rfl (tyX3_ok 4 (by decide)) rfl rfl (Nat.le_of_ble_eq_true rfl) d_Net_chain_139 (fun H locs hP9 hD9 hS => ?_)
          obtain ⟨pf_93, e_93⟩ : ∃ y, y = va_up pf_90 q1 ((pf_90 q1).1, (pf_90 q1).2.1, (pf_90 q1).2.2.1, (pf_90 q1).2.2.2.1, 0) := ⟨_, rfl⟩
          replace hf := hf pf_93 e_93
          have hP9 := ptF_set (t9 := ((pf_90 q1).1, (pf_90 q1).2.1, (pf_90 q1).2.2.1, (pf_90 q1).2.2.2.1, 0)) hD hm1 hk_93 hP9
          have hD9 := ptF_setD (t9 := ((pf_90 q1).1, (pf_90 q1).2.1, (pf_90 q1).2.2.1, (pf_90 q1).2.2.2.1, 0)) hD hm1 hk_93 hD9
          rw [← e_93] at hP9 hD9
          have hP : va_P (dC, dI) clA (@HAppend.hAppend va_W va_W va_W _ [(a3, .inl ((cA 0), 30, .inl la)), (a4, .inl ((cA 0), 30, .inl v_3.1)), (a5, .inl ((cA 0), 900, .inl v_3.2)), (h0, .inr (1, [.int pos, .ref a1, .ref a2, .ref a3, .ref a4, .ref a5])), (a2, .inl ((cA 0), 30, .inl v_80))] (va_pl LP (ptF pf_93))) H := hP9
          have hD : va_D A (@HAppend.hAppend va_W va_W va_W _ [(a3, .inl ((cA 0), 30, .inl la)), (a4, .inl ((cA 0), 30, .inl v_3.1)), (a5, .inl ((cA 0), 900, .inl v_3.2)), (h0, .inr (1, [.int pos, .ref a1, .ref a2, .ref a3, .ref a4, .ref a5])), (a2, .inl ((cA 0), 30, .inl v_80))] (va_pl LP (ptF pf_93))) := hD9
          have hP9 := hP.part (cx := [(h0, .inr (1, [.int pos, .ref a1, .ref a2, .ref a3, .ref a4, .ref a5])), (a2, .inl ((cA 0), 30, .inl v_80)), (a3, .inl ((cA 0), 30, .inl la)), (a4, .inl ((cA 0), 30, .inl v_3.1)), (a5, .inl ((cA 0), 900, .inl v_3.2))]) [3, 4, 0, 1, 2] rfl
          have hD9 := hD.part (cx := [(h0, .inr (1, [.int pos, .ref a1, .ref a2, .ref a3, .ref a4, .ref a5])), (a2, .inl ((cA 0), 30, .inl v_80)), (a3, .inl ((cA 0), 30, .inl la)), (a4, .inl ((cA 0), 30, .inl v_3.1)), (a5, .inl ((cA 0), 900, .inl v_3.2))]) [3, 4, 0, 1, 2] (by decide) rfl
          refine W_end hQz ?_
          exact W.vret hx hb hr (fun t ht hW => ⟨⟨(v_80, la, v_3.1, v_3.2, pf_93), rfl, hf, P_cg ht.symm hP9, va_K.moved hW.alike hK, hD9⟩, hS.F ht⟩) hS.2.2 d_Net_chain_142 hlocks
        · replace hf := hf.2 c_92
          refine lv_aload_n hx hb d_Net_chain_126 rfl (lv_at hl 1 rfl) ?_
          obtain ⟨kp_95, hk_95⟩ := va_pl_get (X := [(a3, .inl ((cA 0), 30, .inl la)), (a4, .inl ((cA 0), 30, .inl v_3.1)), (a5, .inl ((cA 0), 900, .inl v_3.2)), (h0, .inr (1, [.int pos, .ref a1, .ref a2, .ref a3, .ref a4, .ref a5])), (a2, .inl ((cA 0), 30, .inl v_80))]) (f := ptF pf_90) hm1
          refine va_getN (D := (dC, dI)) (ci := 3) (v := .int ((pf_90 q1).2.2.2.2)) (C := RX3) (T := TX3) (N := 5) hx hb hts (fun w h => List.mem_cons_of_mem _ (in_X3 w h)) hown hK hP kp_95 hk_95 rfl 4 (by decide) (va_Nw.use rfl (hN _ nl_10)) (fun _ h9 => h9) rfl d_Net_chain_127 ?_
          refine lv_aload_n hx hb d_Net_chain_130 rfl (lv_at hl 2 rfl) ?_
          obtain ⟨kp_96, hk_96⟩ := va_pl_get (X := [(a3, .inl ((cA 0), 30, .inl la)), (a4, .inl ((cA 0), 30, .inl v_3.1)), (a5, .inl ((cA 0), 900, .inl v_3.2)), (h0, .inr (1, [.int pos, .ref a1, .ref a2, .ref a3, .ref a4, .ref a5])), (a2, .inl ((cA 0), 30, .inl v_80))]) (f := ptF pf_90) hm2
          refine va_getN (D := (dC, dI)) (ci := 3) (v := .int ((pf_90 q2).2.2.2.2)) (C := RX3) (T := TX3) (N := 5) hx hb hts (fun w h => List.mem_cons_of_mem _ (in_X3 w h)) hown hK hP kp_96 hk_96 rfl 4 (by decide) (va_Nw.use rfl (hN _ nl_10)) (fun _ h9 => h9) rfl d_Net_chain_131 ?_
          refine lv_ior hx hb d_Net_chain_134 ?_
          refine lv_goto (tgt := 139) hx hb d_Net_chain_135 (by decide) ?_
          obtain ⟨kp_97, hk_97⟩ := va_pl_get (X := [(a3, .inl ((cA 0), 30, .inl la)), (a4, .inl ((cA 0), 30, .inl v_3.1)), (a5, .inl ((cA 0), 900, .inl v_3.2)), (h0, .inr (1, [.int pos, .ref a1, .ref a2, .ref a3, .ref a4, .ref a5])), (a2, .inl ((cA 0), 30, .inl v_80))]) (f := ptF pf_90) hm1
          refine va_putN (D := (dC, dI)) (ci := 3) (v := .int (((pf_90 q1).2.2.2.2) ||| ((pf_90 q2).2.2.2.2))) (ty := .int) (C := RX3) (T := TX3) (N := 5) hx hb hts (fun w h => List.mem_cons_of_mem _ (in_X3 w h)) tyX3 tyX3_ok nmX3 hown hK hP hD hS kp_97 hk_97 rfl 4 (by decide) (va_Nw.use rfl (hN _ nl_10)) (fun _ h9 => h9) rfl (tyX3_ok 4 (by decide)) rfl rfl (Nat.le_of_ble_eq_true rfl) d_Net_chain_139 (fun H locs hP9 hD9 hS => ?_)
          obtain ⟨pf_97, e_97⟩ : ∃ y, y = va_up pf_90 q1 ((pf_90 q1).1, (pf_90 q1).2.1, (pf_90 q1).2.2.1, (pf_90 q1).2.2.2.1, (((pf_90 q1).2.2.2.2) ||| ((pf_90 q2).2.2.2.2))) := ⟨_, rfl⟩
          replace hf := hf pf_97 e_97
          have hP9 := ptF_set (t9 := ((pf_90 q1).1, (pf_90 q1).2.1, (pf_90 q1).2.2.1, (pf_90 q1).2.2.2.1, (((pf_90 q1).2.2.2.2) ||| ((pf_90 q2).2.2.2.2)))) hD hm1 hk_97 hP9
          have hD9 := ptF_setD (t9 := ((pf_90 q1).1, (pf_90 q1).2.1, (pf_90 q1).2.2.1, (pf_90 q1).2.2.2.1, (((pf_90 q1).2.2.2.2) ||| ((pf_90 q2).2.2.2.2)))) hD hm1 hk_97 hD9
          rw [← e_97] at hP9 hD9
          have hP : va_P (dC, dI) clA (@HAppend.hAppend va_W va_W va_W _ [(a3, .inl ((cA 0), 30, .inl la)), (a4, .inl ((cA 0), 30, .inl v_3.1)), (a5, .inl ((cA 0), 900, .inl v_3.2)), (h0, .inr (1, [.int pos, .ref a1, .ref a2, .ref a3, .ref a4, .ref a5])), (a2, .inl ((cA 0), 30, .inl v_80))] (va_pl LP (ptF pf_97))) H := hP9
          have hD : va_D A (@HAppend.hAppend va_W va_W va_W _ [(a3, .inl ((cA 0), 30, .inl la)), (a4, .inl ((cA 0), 30, .inl v_3.1)), (a5, .inl ((cA 0), 900, .inl v_3.2)), (h0, .inr (1, [.int pos, .ref a1, .ref a2, .ref a3, .ref a4, .ref a5])), (a2, .inl ((cA 0), 30, .inl v_80))] (va_pl LP (ptF pf_97))) := hD9
          have hP9 := hP.part (cx := [(h0, .inr (1, [.int pos, .ref a1, .ref a2, .ref a3, .ref a4, .ref a5])), (a2, .inl ((cA 0), 30, .inl v_80)), (a3, .inl ((cA 0), 30, .inl la)), (a4, .inl ((cA 0), 30, .inl v_3.1)), (a5, .inl ((cA 0), 900, .inl v_3.2))]) [3, 4, 0, 1, 2] rfl
          have hD9 := hD.part (cx := [(h0, .inr (1, [.int pos, .ref a1, .ref a2, .ref a3, .ref a4, .ref a5])), (a2, .inl ((cA 0), 30, .inl v_80)), (a3, .inl ((cA 0), 30, .inl la)), (a4, .inl ((cA 0), 30, .inl v_3.1)), (a5, .inl ((cA 0), 900, .inl v_3.2))]) [3, 4, 0, 1, 2] (by decide) rfl
          refine W_end hQz ?_
          exact W.vret hx hb hr (fun t ht hW => ⟨⟨(v_80, la, v_3.1, v_3.2, pf_97), rfl, hf, P_cg ht.symm hP9, va_K.moved hW.alike hK, hD9⟩, hS.F ht⟩) hS.2.2 d_Net_chain_142 hlocks
      · replace hf := hf.2 c_89
        refine lv_aload_n hx hb d_Net_chain_103 rfl (lv_at hl 2 rfl) ?_
        obtain ⟨kp_99, hk_99⟩ := va_pl_get (X := [(a3, .inl ((cA 0), 30, .inl la)), (a4, .inl ((cA 0), 30, .inl v_3.1)), (a5, .inl ((cA 0), 900, .inl v_3.2)), (h0, .inr (1, [.int pos, .ref a1, .ref a2, .ref a3, .ref a4, .ref a5])), (a2, .inl ((cA 0), 30, .inl v_80))]) (f := ptF pf_87) hm2
        refine va_getN (D := (dC, dI)) (ci := 3) (v := .int ((pf_87 q2).2.2.2.1)) (C := RX3) (T := TX3) (N := 5) hx hb hts (fun w h => List.mem_cons_of_mem _ (in_X3 w h)) hown hK hP kp_99 hk_99 rfl 3 (by decide) (va_Nw.use rfl (hN _ nl_8)) (fun _ h9 => h9) rfl d_Net_chain_104 ?_
        refine lv_if_eq (tgt := 114) hx hb d_Net_chain_107 (by decide) (fun c_100 => ?_) (fun c_100 => ?_)
        · replace hf := hf.1 c_100
          refine lv_iconst (v := 0) hx hb d_Net_chain_114 (by decide) ?_
          obtain ⟨kp_101, hk_101⟩ := va_pl_get (X := [(a3, .inl ((cA 0), 30, .inl la)), (a4, .inl ((cA 0), 30, .inl v_3.1)), (a5, .inl ((cA 0), 900, .inl v_3.2)), (h0, .inr (1, [.int pos, .ref a1, .ref a2, .ref a3, .ref a4, .ref a5])), (a2, .inl ((cA 0), 30, .inl v_80))]) (f := ptF pf_87) hm1
          refine va_putN (D := (dC, dI)) (ci := 3) (v := .int 0) (ty := .boolean) (C := RX3) (T := TX3) (N := 5) hx hb hts (fun w h => List.mem_cons_of_mem _ (in_X3 w h)) tyX3 tyX3_ok nmX3 hown hK hP hD hS kp_101 hk_101 rfl 3 (by decide) (va_Nw.use rfl (hN _ nl_8)) (fun _ h9 => h9) rfl (tyX3_ok 3 (by decide)) (by decide) (by decide) (Nat.le_of_ble_eq_true rfl) d_Net_chain_115 (fun H locs hP9 hD9 hS => ?_)
          obtain ⟨pf_101, e_101⟩ : ∃ y, y = va_up pf_87 q1 ((pf_87 q1).1, (pf_87 q1).2.1, (pf_87 q1).2.2.1, 0, (pf_87 q1).2.2.2.2) := ⟨_, rfl⟩
          replace hf := hf pf_101 e_101
          have hP9 := ptF_set (t9 := ((pf_87 q1).1, (pf_87 q1).2.1, (pf_87 q1).2.2.1, 0, (pf_87 q1).2.2.2.2)) hD hm1 hk_101 hP9
          have hD9 := ptF_setD (t9 := ((pf_87 q1).1, (pf_87 q1).2.1, (pf_87 q1).2.2.1, 0, (pf_87 q1).2.2.2.2)) hD hm1 hk_101 hD9
          rw [← e_101] at hP9 hD9
          have hP : va_P (dC, dI) clA (@HAppend.hAppend va_W va_W va_W _ [(a3, .inl ((cA 0), 30, .inl la)), (a4, .inl ((cA 0), 30, .inl v_3.1)), (a5, .inl ((cA 0), 900, .inl v_3.2)), (h0, .inr (1, [.int pos, .ref a1, .ref a2, .ref a3, .ref a4, .ref a5])), (a2, .inl ((cA 0), 30, .inl v_80))] (va_pl LP (ptF pf_101))) H := hP9
          have hD : va_D A (@HAppend.hAppend va_W va_W va_W _ [(a3, .inl ((cA 0), 30, .inl la)), (a4, .inl ((cA 0), 30, .inl v_3.1)), (a5, .inl ((cA 0), 900, .inl v_3.2)), (h0, .inr (1, [.int pos, .ref a1, .ref a2, .ref a3, .ref a4, .ref a5])), (a2, .inl ((cA 0), 30, .inl v_80))] (va_pl LP (ptF pf_101))) := hD9
          refine lv_aload_n hx hb d_Net_chain_118 rfl (lv_at hl 1 rfl) ?_
          refine lv_aload_n hx hb d_Net_chain_119 rfl (lv_at hl 1 rfl) ?_
          obtain ⟨kp_102, hk_102⟩ := va_pl_get (X := [(a3, .inl ((cA 0), 30, .inl la)), (a4, .inl ((cA 0), 30, .inl v_3.1)), (a5, .inl ((cA 0), 900, .inl v_3.2)), (h0, .inr (1, [.int pos, .ref a1, .ref a2, .ref a3, .ref a4, .ref a5])), (a2, .inl ((cA 0), 30, .inl v_80))]) (f := ptF pf_101) hm1
          refine va_getN (D := (dC, dI)) (ci := 3) (v := .int ((pf_101 q1).2.2.2.1)) (C := RX3) (T := TX3) (N := 5) hx hb hts (fun w h => List.mem_cons_of_mem _ (in_X3 w h)) hown hK hP kp_102 hk_102 rfl 3 (by decide) (va_Nw.use rfl (hN _ nl_8)) (fun _ h9 => h9) rfl d_Net_chain_120 ?_
          refine lv_if_eq (tgt := 138) hx hb d_Net_chain_123 (by decide) (fun c_103 => ?_) (fun c_103 => ?_)
          · replace hf := hf.1 c_103
            refine lv_iconst (v := 0) hx hb d_Net_chain_138 (by decide) ?_
            obtain ⟨kp_104, hk_104⟩ := va_pl_get (X := [(a3, .inl ((cA 0), 30, .inl la)), (a4, .inl ((cA 0), 30, .inl v_3.1)), (a5, .inl ((cA 0), 900, .inl v_3.2)), (h0, .inr (1, [.int pos, .ref a1, .ref a2, .ref a3, .ref a4, .ref a5])), (a2, .inl ((cA 0), 30, .inl v_80))]) (f := ptF pf_101) hm1
            refine va_putN (D := (dC, dI)) (ci := 3) (v := .int 0) (ty := .int) (C := RX3) (T := TX3) (N := 5) hx hb hts (fun w h => List.mem_cons_of_mem _ (in_X3 w h)) tyX3 tyX3_ok nmX3 hown hK hP hD hS kp_104 hk_104 rfl 4 (by decide) (va_Nw.use rfl (hN _ nl_10)) (fun _ h9 => h9) rfl (tyX3_ok 4 (by decide)) rfl rfl (Nat.le_of_ble_eq_true rfl) d_Net_chain_139 (fun H locs hP9 hD9 hS => ?_)
            obtain ⟨pf_104, e_104⟩ : ∃ y, y = va_up pf_101 q1 ((pf_101 q1).1, (pf_101 q1).2.1, (pf_101 q1).2.2.1, (pf_101 q1).2.2.2.1, 0) := ⟨_, rfl⟩
            replace hf := hf pf_104 e_104
            have hP9 := ptF_set (t9 := ((pf_101 q1).1, (pf_101 q1).2.1, (pf_101 q1).2.2.1, (pf_101 q1).2.2.2.1, 0)) hD hm1 hk_104 hP9
            have hD9 := ptF_setD (t9 := ((pf_101 q1).1, (pf_101 q1).2.1, (pf_101 q1).2.2.1, (pf_101 q1).2.2.2.1, 0)) hD hm1 hk_104 hD9
            rw [← e_104] at hP9 hD9
            have hP : va_P (dC, dI) clA (@HAppend.hAppend va_W va_W va_W _ [(a3, .inl ((cA 0), 30, .inl la)), (a4, .inl ((cA 0), 30, .inl v_3.1)), (a5, .inl ((cA 0), 900, .inl v_3.2)), (h0, .inr (1, [.int pos, .ref a1, .ref a2, .ref a3, .ref a4, .ref a5])), (a2, .inl ((cA 0), 30, .inl v_80))] (va_pl LP (ptF pf_104))) H := hP9
            have hD : va_D A (@HAppend.hAppend va_W va_W va_W _ [(a3, .inl ((cA 0), 30, .inl la)), (a4, .inl ((cA 0), 30, .inl v_3.1)), (a5, .inl ((cA 0), 900, .inl v_3.2)), (h0, .inr (1, [.int pos, .ref a1, .ref a2, .ref a3, .ref a4, .ref a5])), (a2, .inl ((cA 0), 30, .inl v_80))] (va_pl LP (ptF pf_104))) := hD9
            have hP9 := hP.part (cx := [(h0, .inr (1, [.int pos, .ref a1, .ref a2, .ref a3, .ref a4, .ref a5])), (a2, .inl ((cA 0), 30, .inl v_80)), (a3, .inl ((cA 0), 30, .inl la)), (a4, .inl ((cA 0), 30, .inl v_3.1)), (a5, .inl ((cA 0), 900, .inl v_3.2))]) [3, 4, 0, 1, 2] rfl
            have hD9 := hD.part (cx := [(h0, .inr (1, [.int pos, .ref a1, .ref a2, .ref a3, .ref a4, .ref a5])), (a2, .inl ((cA 0), 30, .inl v_80)), (a3, .inl ((cA 0), 30, .inl la)), (a4, .inl ((cA 0), 30, .inl v_3.1)), (a5, .inl ((cA 0), 900, .inl v_3.2))]) [3, 4, 0, 1, 2] (by decide) rfl
            refine W_end hQz ?_
            exact W.vret hx hb hr (fun t ht hW => ⟨⟨(v_80, la, v_3.1, v_3.2, pf_104), rfl, hf, P_cg ht.symm hP9, va_K.moved hW.alike hK, hD9⟩, hS.F ht⟩) hS.2.2 d_Net_chain_142 hlocks
          · replace hf := hf.2 c_103
            refine lv_aload_n hx hb d_Net_chain_126 rfl (lv_at hl 1 rfl) ?_
            obtain ⟨kp_106, hk_106⟩ := va_pl_get (X := [(a3, .inl ((cA 0), 30, .inl la)), (a4, .inl ((cA 0), 30, .inl v_3.1)), (a5, .inl ((cA 0), 900, .inl v_3.2)), (h0, .inr (1, [.int pos, .ref a1, .ref a2, .ref a3, .ref a4, .ref a5])), (a2, .inl ((cA 0), 30, .inl v_80))]) (f := ptF pf_101) hm1
            refine va_getN (D := (dC, dI)) (ci := 3) (v := .int ((pf_101 q1).2.2.2.2)) (C := RX3) (T := TX3) (N := 5) hx hb hts (fun w h => List.mem_cons_of_mem _ (in_X3 w h)) hown hK hP kp_106 hk_106 rfl 4 (by decide) (va_Nw.use rfl (hN _ nl_10)) (fun _ h9 => h9) rfl d_Net_chain_127 ?_
            refine lv_aload_n hx hb d_Net_chain_130 rfl (lv_at hl 2 rfl) ?_
            obtain ⟨kp_107, hk_107⟩ := va_pl_get (X := [(a3, .inl ((cA 0), 30, .inl la)), (a4, .inl ((cA 0), 30, .inl v_3.1)), (a5, .inl ((cA 0), 900, .inl v_3.2)), (h0, .inr (1, [.int pos, .ref a1, .ref a2, .ref a3, .ref a4, .ref a5])), (a2, .inl ((cA 0), 30, .inl v_80))]) (f := ptF pf_101) hm2
            refine va_getN (D := (dC, dI)) (ci := 3) (v := .int ((pf_101 q2).2.2.2.2)) (C := RX3) (T := TX3) (N := 5) hx hb hts (fun w h => List.mem_cons_of_mem _ (in_X3 w h)) hown hK hP kp_107 hk_107 rfl 4 (by decide) (va_Nw.use rfl (hN _ nl_10)) (fun _ h9 => h9) rfl d_Net_chain_131 ?_
            refine lv_ior hx hb d_Net_chain_134 ?_
            refine lv_goto (tgt := 139) hx hb d_Net_chain_135 (by decide) ?_
            obtain ⟨kp_108, hk_108⟩ := va_pl_get (X := [(a3, .inl ((cA 0), 30, .inl la)), (a4, .inl ((cA 0), 30, .inl v_3.1)), (a5, .inl ((cA 0), 900, .inl v_3.2)), (h0, .inr (1, [.int pos, .ref a1, .ref a2, .ref a3, .ref a4, .ref a5])), (a2, .inl ((cA 0), 30, .inl v_80))]) (f := ptF pf_101) hm1
            refine va_putN (D := (dC, dI)) (ci := 3) (v := .int (((pf_101 q1).2.2.2.2) ||| ((pf_101 q2).2.2.2.2))) (ty := .int) (C := RX3) (T := TX3) (N := 5) hx hb hts (fun w h => List.mem_cons_of_mem _ (in_X3 w h)) tyX3 tyX3_ok nmX3 hown hK hP hD hS kp_108 hk_108 rfl 4 (by decide) (va_Nw.use rfl (hN _ nl_10)) (fun _ h9 => h9) rfl (tyX3_ok 4 (by decide)) rfl rfl (Nat.le_of_ble_eq_true rfl) d_Net_chain_139 (fun H locs hP9 hD9 hS => ?_)
            obtain ⟨pf_108, e_108⟩ : ∃ y, y = va_up pf_101 q1 ((pf_101 q1).1, (pf_101 q1).2.1, (pf_101 q1).2.2.1, (pf_101 q1).2.2.2.1, (((pf_101 q1).2.2.2.2) ||| ((pf_101 q2).2.2.2.2))) := ⟨_, rfl⟩
            replace hf := hf pf_108 e_108
            have hP9 := ptF_set (t9 := ((pf_101 q1).1, (pf_101 q1).2.1, (pf_101 q1).2.2.1, (pf_101 q1).2.2.2.1, (((pf_101 q1).2.2.2.2) ||| ((pf_101 q2).2.2.2.2)))) hD hm1 hk_108 hP9
            have hD9 := ptF_setD (t9 := ((pf_101 q1).1, (pf_101 q1).2.1, (pf_101 q1).2.2.1, (pf_101 q1).2.2.2.1, (((pf_101 q1).2.2.2.2) ||| ((pf_101 q2).2.2.2.2)))) hD hm1 hk_108 hD9
            rw [← e_108] at hP9 hD9
            have hP : va_P (dC, dI) clA (@HAppend.hAppend va_W va_W va_W _ [(a3, .inl ((cA 0), 30, .inl la)), (a4, .inl ((cA 0), 30, .inl v_3.1)), (a5, .inl ((cA 0), 900, .inl v_3.2)), (h0, .inr (1, [.int pos, .ref a1, .ref a2, .ref a3, .ref a4, .ref a5])), (a2, .inl ((cA 0), 30, .inl v_80))] (va_pl LP (ptF pf_108))) H := hP9
            have hD : va_D A (@HAppend.hAppend va_W va_W va_W _ [(a3, .inl ((cA 0), 30, .inl la)), (a4, .inl ((cA 0), 30, .inl v_3.1)), (a5, .inl ((cA 0), 900, .inl v_3.2)), (h0, .inr (1, [.int pos, .ref a1, .ref a2, .ref a3, .ref a4, .ref a5])), (a2, .inl ((cA 0), 30, .inl v_80))] (va_pl LP (ptF pf_108))) := hD9
            have hP9 := hP.part (cx := [(h0, .inr (1, [.int pos, .ref a1, .ref a2, .ref a3, .ref a4, .ref a5])), (a2, .inl ((cA 0), 30, .inl v_80)), (a3, .inl ((cA 0), 30, .inl la)), (a4, .inl ((cA 0), 30, .inl v_3.1)), (a5, .inl ((cA 0), 900, .inl v_3.2))]) [3, 4, 0, 1, 2] rfl
            have hD9 := hD.part (cx := [(h0, .inr (1, [.int pos, .ref a1, .ref a2, .ref a3, .ref a4, .ref a5])), (a2, .inl ((cA 0), 30, .inl v_80)), (a3, .inl ((cA 0), 30, .inl la)), (a4, .inl ((cA 0), 30, .inl v_3.1)), (a5, .inl ((cA 0), 900, .inl v_3.2))]) [3, 4, 0, 1, 2] (by decide) rfl
            refine W_end hQz ?_
            exact W.vret hx hb hr (fun t ht hW => ⟨⟨(v_80, la, v_3.1, v_3.2, pf_108), rfl, hf, P_cg ht.symm hP9, va_K.moved hW.alike hK, hD9⟩, hS.F ht⟩) hS.2.2 d_Net_chain_142 hlocks
        · replace hf := hf.2 c_100
          refine lv_iconst (v := 1) hx hb d_Net_chain_110 (by decide) ?_
          refine lv_goto (tgt := 115) hx hb d_Net_chain_111 (by decide) ?_
          obtain ⟨kp_110, hk_110⟩ := va_pl_get (X := [(a3, .inl ((cA 0), 30, .inl la)), (a4, .inl ((cA 0), 30, .inl v_3.1)), (a5, .inl ((cA 0), 900, .inl v_3.2)), (h0, .inr (1, [.int pos, .ref a1, .ref a2, .ref a3, .ref a4, .ref a5])), (a2, .inl ((cA 0), 30, .inl v_80))]) (f := ptF pf_87) hm1
          refine va_putN (D := (dC, dI)) (ci := 3) (v := .int 1) (ty := .boolean) (C := RX3) (T := TX3) (N := 5) hx hb hts (fun w h => List.mem_cons_of_mem _ (in_X3 w h)) tyX3 tyX3_ok nmX3 hown hK hP hD hS kp_110 hk_110 rfl 3 (by decide) (va_Nw.use rfl (hN _ nl_8)) (fun _ h9 => h9) rfl (tyX3_ok 3 (by decide)) (by decide) (by decide) (Nat.le_of_ble_eq_true rfl) d_Net_chain_115 (fun H locs hP9 hD9 hS => ?_)
          obtain ⟨pf_110, e_110⟩ : ∃ y, y = va_up pf_87 q1 ((pf_87 q1).1, (pf_87 q1).2.1, (pf_87 q1).2.2.1, 1, (pf_87 q1).2.2.2.2) := ⟨_, rfl⟩
          replace hf := hf pf_110 e_110
          have hP9 := ptF_set (t9 := ((pf_87 q1).1, (pf_87 q1).2.1, (pf_87 q1).2.2.1, 1, (pf_87 q1).2.2.2.2)) hD hm1 hk_110 hP9
          have hD9 := ptF_setD (t9 := ((pf_87 q1).1, (pf_87 q1).2.1, (pf_87 q1).2.2.1, 1, (pf_87 q1).2.2.2.2)) hD hm1 hk_110 hD9
          rw [← e_110] at hP9 hD9
          have hP : va_P (dC, dI) clA (@HAppend.hAppend va_W va_W va_W _ [(a3, .inl ((cA 0), 30, .inl la)), (a4, .inl ((cA 0), 30, .inl v_3.1)), (a5, .inl ((cA 0), 900, .inl v_3.2)), (h0, .inr (1, [.int pos, .ref a1, .ref a2, .ref a3, .ref a4, .ref a5])), (a2, .inl ((cA 0), 30, .inl v_80))] (va_pl LP (ptF pf_110))) H := hP9
          have hD : va_D A (@HAppend.hAppend va_W va_W va_W _ [(a3, .inl ((cA 0), 30, .inl la)), (a4, .inl ((cA 0), 30, .inl v_3.1)), (a5, .inl ((cA 0), 900, .inl v_3.2)), (h0, .inr (1, [.int pos, .ref a1, .ref a2, .ref a3, .ref a4, .ref a5])), (a2, .inl ((cA 0), 30, .inl v_80))] (va_pl LP (ptF pf_110))) := hD9
          refine lv_aload_n hx hb d_Net_chain_118 rfl (lv_at hl 1 rfl) ?_
          refine lv_aload_n hx hb d_Net_chain_119 rfl (lv_at hl 1 rfl) ?_
          obtain ⟨kp_111, hk_111⟩ := va_pl_get (X := [(a3, .inl ((cA 0), 30, .inl la)), (a4, .inl ((cA 0), 30, .inl v_3.1)), (a5, .inl ((cA 0), 900, .inl v_3.2)), (h0, .inr (1, [.int pos, .ref a1, .ref a2, .ref a3, .ref a4, .ref a5])), (a2, .inl ((cA 0), 30, .inl v_80))]) (f := ptF pf_110) hm1
          refine va_getN (D := (dC, dI)) (ci := 3) (v := .int ((pf_110 q1).2.2.2.1)) (C := RX3) (T := TX3) (N := 5) hx hb hts (fun w h => List.mem_cons_of_mem _ (in_X3 w h)) hown hK hP kp_111 hk_111 rfl 3 (by decide) (va_Nw.use rfl (hN _ nl_8)) (fun _ h9 => h9) rfl d_Net_chain_120 ?_
          refine lv_if_eq (tgt := 138) hx hb d_Net_chain_123 (by decide) (fun c_112 => ?_) (fun c_112 => ?_)
          · replace hf := hf.1 c_112
            refine lv_iconst (v := 0) hx hb d_Net_chain_138 (by decide) ?_
            obtain ⟨kp_113, hk_113⟩ := va_pl_get (X := [(a3, .inl ((cA 0), 30, .inl la)), (a4, .inl ((cA 0), 30, .inl v_3.1)), (a5, .inl ((cA 0), 900, .inl v_3.2)), (h0, .inr (1, [.int pos, .ref a1, .ref a2, .ref a3, .ref a4, .ref a5])), (a2, .inl ((cA 0), 30, .inl v_80))]) (f := ptF pf_110) hm1
            refine va_putN (D := (dC, dI)) (ci := 3) (v := .int 0) (ty := .int) (C := RX3) (T := TX3) (N := 5) hx hb hts (fun w h => List.mem_cons_of_mem _ (in_X3 w h)) tyX3 tyX3_ok nmX3 hown hK hP hD hS kp_113 hk_113 rfl 4 (by decide) (va_Nw.use rfl (hN _ nl_10)) (fun _ h9 => h9) rfl (tyX3_ok 4 (by decide)) rfl rfl (Nat.le_of_ble_eq_true rfl) d_Net_chain_139 (fun H locs hP9 hD9 hS => ?_)
            obtain ⟨pf_113, e_113⟩ : ∃ y, y = va_up pf_110 q1 ((pf_110 q1).1, (pf_110 q1).2.1, (pf_110 q1).2.2.1, (pf_110 q1).2.2.2.1, 0) := ⟨_, rfl⟩
            replace hf := hf pf_113 e_113
            have hP9 := ptF_set (t9 := ((pf_110 q1).1, (pf_110 q1).2.1, (pf_110 q1).2.2.1, (pf_110 q1).2.2.2.1, 0)) hD hm1 hk_113 hP9
            have hD9 := ptF_setD (t9 := ((pf_110 q1).1, (pf_110 q1).2.1, (pf_110 q1).2.2.1, (pf_110 q1).2.2.2.1, 0)) hD hm1 hk_113 hD9
            rw [← e_113] at hP9 hD9
            have hP : va_P (dC, dI) clA (@HAppend.hAppend va_W va_W va_W _ [(a3, .inl ((cA 0), 30, .inl la)), (a4, .inl ((cA 0), 30, .inl v_3.1)), (a5, .inl ((cA 0), 900, .inl v_3.2)), (h0, .inr (1, [.int pos, .ref a1, .ref a2, .ref a3, .ref a4, .ref a5])), (a2, .inl ((cA 0), 30, .inl v_80))] (va_pl LP (ptF pf_113))) H := hP9
            have hD : va_D A (@HAppend.hAppend va_W va_W va_W _ [(a3, .inl ((cA 0), 30, .inl la)), (a4, .inl ((cA 0), 30, .inl v_3.1)), (a5, .inl ((cA 0), 900, .inl v_3.2)), (h0, .inr (1, [.int pos, .ref a1, .ref a2, .ref a3, .ref a4, .ref a5])), (a2, .inl ((cA 0), 30, .inl v_80))] (va_pl LP (ptF pf_113))) := hD9
            have hP9 := hP.part (cx := [(h0, .inr (1, [.int pos, .ref a1, .ref a2, .ref a3, .ref a4, .ref a5])), (a2, .inl ((cA 0), 30, .inl v_80)), (a3, .inl ((cA 0), 30, .inl la)), (a4, .inl ((cA 0), 30, .inl v_3.1)), (a5, .inl ((cA 0), 900, .inl v_3.2))]) [3, 4, 0, 1, 2] rfl
            have hD9 := hD.part (cx := [(h0, .inr (1, [.int pos, .ref a1, .ref a2, .ref a3, .ref a4, .ref a5])), (a2, .inl ((cA 0), 30, .inl v_80)), (a3, .inl ((cA 0), 30, .inl la)), (a4, .inl ((cA 0), 30, .inl v_3.1)), (a5, .inl ((cA 0), 900, .inl v_3.2))]) [3, 4, 0, 1, 2] (by decide) rfl
            refine W_end hQz ?_
            exact W.vret hx hb hr (fun t ht hW => ⟨⟨(v_80, la, v_3.1, v_3.2, pf_113), rfl, hf, P_cg ht.symm hP9, va_K.moved hW.alike hK, hD9⟩, hS.F ht⟩) hS.2.2 d_Net_chain_142 hlocks
          · replace hf := hf.2 c_112
            refine lv_aload_n hx hb d_Net_chain_126 rfl (lv_at hl 1 rfl) ?_
            obtain ⟨kp_115, hk_115⟩ := va_pl_get (X := [(a3, .inl ((cA 0), 30, .inl la)), (a4, .inl ((cA 0), 30, .inl v_3.1)), (a5, .inl ((cA 0), 900, .inl v_3.2)), (h0, .inr (1, [.int pos, .ref a1, .ref a2, .ref a3, .ref a4, .ref a5])), (a2, .inl ((cA 0), 30, .inl v_80))]) (f := ptF pf_110) hm1
            refine va_getN (D := (dC, dI)) (ci := 3) (v := .int ((pf_110 q1).2.2.2.2)) (C := RX3) (T := TX3) (N := 5) hx hb hts (fun w h => List.mem_cons_of_mem _ (in_X3 w h)) hown hK hP kp_115 hk_115 rfl 4 (by decide) (va_Nw.use rfl (hN _ nl_10)) (fun _ h9 => h9) rfl d_Net_chain_127 ?_
            refine lv_aload_n hx hb d_Net_chain_130 rfl (lv_at hl 2 rfl) ?_
            obtain ⟨kp_116, hk_116⟩ := va_pl_get (X := [(a3, .inl ((cA 0), 30, .inl la)), (a4, .inl ((cA 0), 30, .inl v_3.1)), (a5, .inl ((cA 0), 900, .inl v_3.2)), (h0, .inr (1, [.int pos, .ref a1, .ref a2, .ref a3, .ref a4, .ref a5])), (a2, .inl ((cA 0), 30, .inl v_80))]) (f := ptF pf_110) hm2
            refine va_getN (D := (dC, dI)) (ci := 3) (v := .int ((pf_110 q2).2.2.2.2)) (C := RX3) (T := TX3) (N := 5) hx hb hts (fun w h => List.mem_cons_of_mem _ (in_X3 w h)) hown hK hP kp_116 hk_116 rfl 4 (by decide) (va_Nw.use rfl (hN _ nl_10)) (fun _ h9 => h9) rfl d_Net_chain_131 ?_
            refine lv_ior hx hb d_Net_chain_134 ?_
            refine lv_goto (tgt := 139) hx hb d_Net_chain_135 (by decide) ?_
            obtain ⟨kp_117, hk_117⟩ := va_pl_get (X := [(a3, .inl ((cA 0), 30, .inl la)), (a4, .inl ((cA 0), 30, .inl v_3.1)), (a5, .inl ((cA 0), 900, .inl v_3.2)), (h0, .inr (1, [.int pos, .ref a1, .ref a2, .ref a3, .ref a4, .ref a5])), (a2, .inl ((cA 0), 30, .inl v_80))]) (f := ptF pf_110) hm1
            refine va_putN (D := (dC, dI)) (ci := 3) (v := .int (((pf_110 q1).2.2.2.2) ||| ((pf_110 q2).2.2.2.2))) (ty := .int) (C := RX3) (T := TX3) (N := 5) hx hb hts (fun w h => List.mem_cons_of_mem _ (in_X3 w h)) tyX3 tyX3_ok nmX3 hown hK hP hD hS kp_117 hk_117 rfl 4 (by decide) (va_Nw.use rfl (hN _ nl_10)) (fun _ h9 => h9) rfl (tyX3_ok 4 (by decide)) rfl rfl (Nat.le_of_ble_eq_true rfl) d_Net_chain_139 (fun H locs hP9 hD9 hS => ?_)
            obtain ⟨pf_117, e_117⟩ : ∃ y, y = va_up pf_110 q1 ((pf_110 q1).1, (pf_110 q1).2.1, (pf_110 q1).2.2.1, (pf_110 q1).2.2.2.1, (((pf_110 q1).2.2.2.2) ||| ((pf_110 q2).2.2.2.2))) := ⟨_, rfl⟩
            replace hf := hf pf_117 e_117
            have hP9 := ptF_set (t9 := ((pf_110 q1).1, (pf_110 q1).2.1, (pf_110 q1).2.2.1, (pf_110 q1).2.2.2.1, (((pf_110 q1).2.2.2.2) ||| ((pf_110 q2).2.2.2.2)))) hD hm1 hk_117 hP9
            have hD9 := ptF_setD (t9 := ((pf_110 q1).1, (pf_110 q1).2.1, (pf_110 q1).2.2.1, (pf_110 q1).2.2.2.1, (((pf_110 q1).2.2.2.2) ||| ((pf_110 q2).2.2.2.2)))) hD hm1 hk_117 hD9
            rw [← e_117] at hP9 hD9
            have hP : va_P (dC, dI) clA (@HAppend.hAppend va_W va_W va_W _ [(a3, .inl ((cA 0), 30, .inl la)), (a4, .inl ((cA 0), 30, .inl v_3.1)), (a5, .inl ((cA 0), 900, .inl v_3.2)), (h0, .inr (1, [.int pos, .ref a1, .ref a2, .ref a3, .ref a4, .ref a5])), (a2, .inl ((cA 0), 30, .inl v_80))] (va_pl LP (ptF pf_117))) H := hP9
            have hD : va_D A (@HAppend.hAppend va_W va_W va_W _ [(a3, .inl ((cA 0), 30, .inl la)), (a4, .inl ((cA 0), 30, .inl v_3.1)), (a5, .inl ((cA 0), 900, .inl v_3.2)), (h0, .inr (1, [.int pos, .ref a1, .ref a2, .ref a3, .ref a4, .ref a5])), (a2, .inl ((cA 0), 30, .inl v_80))] (va_pl LP (ptF pf_117))) := hD9
            have hP9 := hP.part (cx := [(h0, .inr (1, [.int pos, .ref a1, .ref a2, .ref a3, .ref a4, .ref a5])), (a2, .inl ((cA 0), 30, .inl v_80)), (a3, .inl ((cA 0), 30, .inl la)), (a4, .inl ((cA 0), 30, .inl v_3.1)), (a5, .inl ((cA 0), 900, .inl v_3.2))]) [3, 4, 0, 1, 2] rfl
            have hD9 := hD.part (cx := [(h0, .inr (1, [.int pos, .ref a1, .ref a2, .ref a3, .ref a4, .ref a5])), (a2, .inl ((cA 0), 30, .inl v_80)), (a3, .inl ((cA 0), 30, .inl la)), (a4, .inl ((cA 0), 30, .inl v_3.1)), (a5, .inl ((cA 0), 900, .inl v_3.2))]) [3, 4, 0, 1, 2] (by decide) rfl
            refine W_end hQz ?_
            exact W.vret hx hb hr (fun t ht hW => ⟨⟨(v_80, la, v_3.1, v_3.2, pf_117), rfl, hf, P_cg ht.symm hP9, va_K.moved hW.alike hK, hD9⟩, hS.F ht⟩) hS.2.2 d_Net_chain_142 hlocks
    · replace hf := hf.2 c_85
      refine lv_aload_n hx hb d_Net_chain_55 rfl (lv_at hl 0 rfl) ?_
      refine lv_aload_n hx hb d_Net_chain_56 rfl (lv_at hl 0 rfl) ?_
      refine va_get (D := (dC, dI)) (ci := 1) (v := .ref a3) (C := RX1) (T := TX1) (N := 6) hx hb hts (fun w h => List.mem_cons_of_mem _ (in_X1 w h)) hown hK hP 3 rfl rfl 3 (by decide) (hts _ (List.mem_cons_of_mem _ k_99)) (fun _ h9 => h9) rfl d_Net_chain_57 ?_
      refine lv_aload_n hx hb d_Net_chain_60 rfl (lv_at hl 1 rfl) ?_
      obtain ⟨kp_119, hk_119⟩ := va_pl_get (X := [(a3, .inl ((cA 0), 30, .inl la)), (a4, .inl ((cA 0), 30, .inl v_3.1)), (a5, .inl ((cA 0), 900, .inl v_3.2)), (h0, .inr (1, [.int pos, .ref a1, .ref a2, .ref a3, .ref a4, .ref a5])), (a2, .inl ((cA 0), 30, .inl v_80))]) (f := ptF pf_83) hm1
      refine va_getN (D := (dC, dI)) (ci := 3) (v := .int ((pf_83 q1).2.2.1)) (C := RX3) (T := TX3) (N := 5) hx hb hts (fun w h => List.mem_cons_of_mem _ (in_X3 w h)) hown hK hP kp_119 hk_119 rfl 2 (by decide) (va_Nw.use rfl (hN _ nl_6)) (fun _ h9 => h9) rfl d_Net_chain_61 ?_
      refine lv_aload_n hx hb d_Net_chain_64 rfl (lv_at hl 2 rfl) ?_
      obtain ⟨kp_120, hk_120⟩ := va_pl_get (X := [(a3, .inl ((cA 0), 30, .inl la)), (a4, .inl ((cA 0), 30, .inl v_3.1)), (a5, .inl ((cA 0), 900, .inl v_3.2)), (h0, .inr (1, [.int pos, .ref a1, .ref a2, .ref a3, .ref a4, .ref a5])), (a2, .inl ((cA 0), 30, .inl v_80))]) (f := ptF pf_83) hm2
      refine va_getN (D := (dC, dI)) (ci := 3) (v := .int ((pf_83 q2).2.2.2.2)) (C := RX3) (T := TX3) (N := 5) hx hb hts (fun w h => List.mem_cons_of_mem _ (in_X3 w h)) hown hK hP kp_120 hk_120 rfl 4 (by decide) (va_Nw.use rfl (hN _ nl_10)) (fun _ h9 => h9) rfl d_Net_chain_65 ?_
      obtain ⟨v_121, hv_121, hf⟩ := hf
      have hPc := hP.sub (ws' := [(h0, .inr (1, [.int pos, .ref a1, .ref a2, .ref a3, .ref a4, .ref a5])), (a3, .inl ((cA 0), 30, .inl la))]) [3, 0] rfl
      have hDc := hD.sub (ws' := [(h0, .inr (1, [.int pos, .ref a1, .ref a2, .ref a3, .ref a4, .ref a5])), (a3, .inl ((cA 0), 30, .inl la))]) [3, 0] (by decide) rfl
      have hFc := va_free (wc := [(h0, .inr (1, [.int pos, .ref a1, .ref a2, .ref a3, .ref a4, .ref a5])), (a3, .inl ((cA 0), 30, .inl la))]) hD hS hA [3, 0] rfl
      refine va_callv (va_runV (As := [.ref a3, .int ((pf_83 q1).2.2.1), .int ((pf_83 q2).2.2.2.2)]) (rest := []) ⟨hx, hb, hml, hown, hts⟩ (c_Net_give l dC dI cA h0 a3 a1 a2 a3 a4 a5 H.size ((pf_83 q1).2.2.1) ((pf_83 q2).2.2.2.2) pos la v_121 hv_121) (cwV 3 hts (gV9 k_726 k_728 k_12 k_51 k_729) rfl rfl rfl hv_Net_give ⟨Nat.le_of_ble_eq_true rfl, Nat.le_of_ble_eq_true rfl⟩) ⟨fun a U g mk q => by obtain ⟨q0, q1, qP, qK, qN, qD⟩ := q; exact ⟨q0, q1, qP, va_K.moved (u := U) (U := U.calling g mk a) (Vm.Alike.refl U.vm) qK, nW_same (u := U) (U := U.calling g mk a) rfl qN, qD⟩, va_recv hK hPc (ci := 1) (q0 := 0) rfl rfl, fun U hU hW => ⟨rfl, congrArg _ hU, P_cg hU.symm hPc, va_K.moved hW.alike hK, nW_warm hW hN, hDc.weaken (fun _ _ _ _ => trivial)⟩⟩ rfl rfl hl.1 rfl (lv_room (Nat.le_of_ble_eq_true rfl)) d_Net_chain_68 ⟨Nat.zero_le _, Nat.zero_le _⟩) hS (fun q _ h => hFc q h) hFc (fun u t H locs ht hvm hw hB hz1 hk1 hS => ?_)
      subst hw
      obtain ⟨hP1, hK1, hD1⟩ := hB
      replace hP1 := P_cg ht hP1
      obtain ⟨hP, hD⟩ := va_joinQ (cx := [(h0, .inr (1, [.int pos, .ref a1, .ref a2, .ref a3, .ref a4, .ref a5])), (a3, .inl ((cA 0), 30, .inl la))]) (wr := [(a4, .inl ((cA 0), 30, .inl v_3.1)), (a5, .inl ((cA 0), 900, .inl v_3.2)), (a2, .inl ((cA 0), 30, .inl v_80))]) (w1 := [(h0, .inr (1, [.int pos, .ref a1, .ref a2, .ref a3, .ref a4, .ref a5])), (a3, .inl ((cA 0), 30, .inl v_121))]) hP hD [3, 0] [1, 2, 4] rfl rfl (by decide) (by decide) hk1 hFc hP1 hD1
      have hP : va_P (dC, dI) clA (@HAppend.hAppend va_W va_W va_W _ [(a4, .inl ((cA 0), 30, .inl v_3.1)), (a5, .inl ((cA 0), 900, .inl v_3.2)), (a2, .inl ((cA 0), 30, .inl v_80)), (h0, .inr (1, [.int pos, .ref a1, .ref a2, .ref a3, .ref a4, .ref a5])), (a3, .inl ((cA 0), 30, .inl v_121))] (va_pl LP (ptF pf_83))) H := hP
      have hD : va_D A (@HAppend.hAppend va_W va_W va_W _ [(a4, .inl ((cA 0), 30, .inl v_3.1)), (a5, .inl ((cA 0), 900, .inl v_3.2)), (a2, .inl ((cA 0), 30, .inl v_80)), (h0, .inr (1, [.int pos, .ref a1, .ref a2, .ref a3, .ref a4, .ref a5])), (a3, .inl ((cA 0), 30, .inl v_121))] (va_pl LP (ptF pf_83))) := hD
      refine lv_aload_n hx hb d_Net_chain_71 rfl (lv_at hl 1 rfl) ?_
      refine lv_dup hx hb d_Net_chain_72 rfl ?_
      obtain ⟨kp_122, hk_122⟩ := va_pl_get (X := [(a4, .inl ((cA 0), 30, .inl v_3.1)), (a5, .inl ((cA 0), 900, .inl v_3.2)), (a2, .inl ((cA 0), 30, .inl v_80)), (h0, .inr (1, [.int pos, .ref a1, .ref a2, .ref a3, .ref a4, .ref a5])), (a3, .inl ((cA 0), 30, .inl v_121))]) (f := ptF pf_83) hm1
      refine va_getN (D := (dC, dI)) (ci := 3) (v := .int ((pf_83 q1).2.2.1)) (C := RX3) (T := TX3) (N := 5) hx hb hts (fun w h => List.mem_cons_of_mem _ (in_X3 w h)) hown hK hP kp_122 hk_122 rfl 2 (by decide) (va_Nw.use rfl (hN _ nl_6)) (fun _ h9 => h9) rfl d_Net_chain_73 ?_
      refine lv_aload_n hx hb d_Net_chain_76 rfl (lv_at hl 2 rfl) ?_
      obtain ⟨kp_123, hk_123⟩ := va_pl_get (X := [(a4, .inl ((cA 0), 30, .inl v_3.1)), (a5, .inl ((cA 0), 900, .inl v_3.2)), (a2, .inl ((cA 0), 30, .inl v_80)), (h0, .inr (1, [.int pos, .ref a1, .ref a2, .ref a3, .ref a4, .ref a5])), (a3, .inl ((cA 0), 30, .inl v_121))]) (f := ptF pf_83) hm2
      refine va_getN (D := (dC, dI)) (ci := 3) (v := .int ((pf_83 q2).2.2.1)) (C := RX3) (T := TX3) (N := 5) hx hb hts (fun w h => List.mem_cons_of_mem _ (in_X3 w h)) hown hK hP kp_123 hk_123 rfl 2 (by decide) (va_Nw.use rfl (hN _ nl_6)) (fun _ h9 => h9) rfl d_Net_chain_77 ?_
      refine lv_ior hx hb d_Net_chain_80 ?_
      obtain ⟨kp_124, hk_124⟩ := va_pl_get (X := [(a4, .inl ((cA 0), 30, .inl v_3.1)), (a5, .inl ((cA 0), 900, .inl v_3.2)), (a2, .inl ((cA 0), 30, .inl v_80)), (h0, .inr (1, [.int pos, .ref a1, .ref a2, .ref a3, .ref a4, .ref a5])), (a3, .inl ((cA 0), 30, .inl v_121))]) (f := ptF pf_83) hm1
      refine va_putN (D := (dC, dI)) (ci := 3) (v := .int (((pf_83 q1).2.2.1) ||| ((pf_83 q2).2.2.1))) (ty := .int) (C := RX3) (T := TX3) (N := 5) hx hb hts (fun w h => List.mem_cons_of_mem _ (in_X3 w h)) tyX3 tyX3_ok nmX3 hown hK hP hD hS kp_124 hk_124 rfl 2 (by decide) (va_Nw.use rfl (hN _ nl_6)) (fun _ h9 => h9) rfl (tyX3_ok 2 (by decide)) rfl rfl (Nat.le_of_ble_eq_true rfl) d_Net_chain_81 (fun H locs hP9 hD9 hS => ?_)
      obtain ⟨pf_124, e_124⟩ : ∃ y, y = va_up pf_83 q1 ((pf_83 q1).1, (pf_83 q1).2.1, (((pf_83 q1).2.2.1) ||| ((pf_83 q2).2.2.1)), (pf_83 q1).2.2.2.1, (pf_83 q1).2.2.2.2) := ⟨_, rfl⟩
      replace hf := hf pf_124 e_124
      have hP9 := ptF_set (t9 := ((pf_83 q1).1, (pf_83 q1).2.1, (((pf_83 q1).2.2.1) ||| ((pf_83 q2).2.2.1)), (pf_83 q1).2.2.2.1, (pf_83 q1).2.2.2.2)) hD hm1 hk_124 hP9
      have hD9 := ptF_setD (t9 := ((pf_83 q1).1, (pf_83 q1).2.1, (((pf_83 q1).2.2.1) ||| ((pf_83 q2).2.2.1)), (pf_83 q1).2.2.2.1, (pf_83 q1).2.2.2.2)) hD hm1 hk_124 hD9
      rw [← e_124] at hP9 hD9
      have hP : va_P (dC, dI) clA (@HAppend.hAppend va_W va_W va_W _ [(a4, .inl ((cA 0), 30, .inl v_3.1)), (a5, .inl ((cA 0), 900, .inl v_3.2)), (a2, .inl ((cA 0), 30, .inl v_80)), (h0, .inr (1, [.int pos, .ref a1, .ref a2, .ref a3, .ref a4, .ref a5])), (a3, .inl ((cA 0), 30, .inl v_121))] (va_pl LP (ptF pf_124))) H := hP9
      have hD : va_D A (@HAppend.hAppend va_W va_W va_W _ [(a4, .inl ((cA 0), 30, .inl v_3.1)), (a5, .inl ((cA 0), 900, .inl v_3.2)), (a2, .inl ((cA 0), 30, .inl v_80)), (h0, .inr (1, [.int pos, .ref a1, .ref a2, .ref a3, .ref a4, .ref a5])), (a3, .inl ((cA 0), 30, .inl v_121))] (va_pl LP (ptF pf_124))) := hD9
      refine lv_goto (tgt := 95) hx hb d_Net_chain_84 (by decide) ?_
      refine lv_aload_n hx hb d_Net_chain_95 rfl (lv_at hl 1 rfl) ?_
      refine lv_aload_n hx hb d_Net_chain_96 rfl (lv_at hl 1 rfl) ?_
      obtain ⟨kp_125, hk_125⟩ := va_pl_get (X := [(a4, .inl ((cA 0), 30, .inl v_3.1)), (a5, .inl ((cA 0), 900, .inl v_3.2)), (a2, .inl ((cA 0), 30, .inl v_80)), (h0, .inr (1, [.int pos, .ref a1, .ref a2, .ref a3, .ref a4, .ref a5])), (a3, .inl ((cA 0), 30, .inl v_121))]) (f := ptF pf_124) hm1
      refine va_getN (D := (dC, dI)) (ci := 3) (v := .int ((pf_124 q1).2.2.2.1)) (C := RX3) (T := TX3) (N := 5) hx hb hts (fun w h => List.mem_cons_of_mem _ (in_X3 w h)) hown hK hP kp_125 hk_125 rfl 3 (by decide) (va_Nw.use rfl (hN _ nl_8)) (fun _ h9 => h9) rfl d_Net_chain_97 ?_
      refine lv_if_eq (tgt := 114) hx hb d_Net_chain_100 (by decide) (fun c_126 => ?_) (fun c_126 => ?_)
      · replace hf := hf.1 c_126
        refine lv_iconst (v := 0) hx hb d_Net_chain_114 (by decide) ?_
        obtain ⟨kp_127, hk_127⟩ := va_pl_get (X := [(a4, .inl ((cA 0), 30, .inl v_3.1)), (a5, .inl ((cA 0), 900, .inl v_3.2)), (a2, .inl ((cA 0), 30, .inl v_80)), (h0, .inr (1, [.int pos, .ref a1, .ref a2, .ref a3, .ref a4, .ref a5])), (a3, .inl ((cA 0), 30, .inl v_121))]) (f := ptF pf_124) hm1
        refine va_putN (D := (dC, dI)) (ci := 3) (v := .int 0) (ty := .boolean) (C := RX3) (T := TX3) (N := 5) hx hb hts (fun w h => List.mem_cons_of_mem _ (in_X3 w h)) tyX3 tyX3_ok nmX3 hown hK hP hD hS kp_127 hk_127 rfl 3 (by decide) (va_Nw.use rfl (hN _ nl_8)) (fun _ h9 => h9) rfl (tyX3_ok 3 (by decide)) (by decide) (by decide) (Nat.le_of_ble_eq_true rfl) d_Net_chain_115 (fun H locs hP9 hD9 hS => ?_)
        obtain ⟨pf_127, e_127⟩ : ∃ y, y = va_up pf_124 q1 ((pf_124 q1).1, (pf_124 q1).2.1, (pf_124 q1).2.2.1, 0, (pf_124 q1).2.2.2.2) := ⟨_, rfl⟩
        replace hf := hf pf_127 e_127
        have hP9 := ptF_set (t9 := ((pf_124 q1).1, (pf_124 q1).2.1, (pf_124 q1).2.2.1, 0, (pf_124 q1).2.2.2.2)) hD hm1 hk_127 hP9
        have hD9 := ptF_setD (t9 := ((pf_124 q1).1, (pf_124 q1).2.1, (pf_124 q1).2.2.1, 0, (pf_124 q1).2.2.2.2)) hD hm1 hk_127 hD9
        rw [← e_127] at hP9 hD9
        have hP : va_P (dC, dI) clA (@HAppend.hAppend va_W va_W va_W _ [(a4, .inl ((cA 0), 30, .inl v_3.1)), (a5, .inl ((cA 0), 900, .inl v_3.2)), (a2, .inl ((cA 0), 30, .inl v_80)), (h0, .inr (1, [.int pos, .ref a1, .ref a2, .ref a3, .ref a4, .ref a5])), (a3, .inl ((cA 0), 30, .inl v_121))] (va_pl LP (ptF pf_127))) H := hP9
        have hD : va_D A (@HAppend.hAppend va_W va_W va_W _ [(a4, .inl ((cA 0), 30, .inl v_3.1)), (a5, .inl ((cA 0), 900, .inl v_3.2)), (a2, .inl ((cA 0), 30, .inl v_80)), (h0, .inr (1, [.int pos, .ref a1, .ref a2, .ref a3, .ref a4, .ref a5])), (a3, .inl ((cA 0), 30, .inl v_121))] (va_pl LP (ptF pf_127))) := hD9
        refine lv_aload_n hx hb d_Net_chain_118 rfl (lv_at hl 1 rfl) ?_
        refine lv_aload_n hx hb d_Net_chain_119 rfl (lv_at hl 1 rfl) ?_
        obtain ⟨kp_128, hk_128⟩ := va_pl_get (X := [(a4, .inl ((cA 0), 30, .inl v_3.1)), (a5, .inl ((cA 0), 900, .inl v_3.2)), (a2, .inl ((cA 0), 30, .inl v_80)), (h0, .inr (1, [.int pos, .ref a1, .ref a2, .ref a3, .ref a4, .ref a5])), (a3, .inl ((cA 0), 30, .inl v_121))]) (f := ptF pf_127) hm1
        refine va_getN (D := (dC, dI)) (ci := 3) (v := .int ((pf_127 q1).2.2.2.1)) (C := RX3) (T := TX3) (N := 5) hx hb hts (fun w h => List.mem_cons_of_mem _ (in_X3 w h)) hown hK hP kp_128 hk_128 rfl 3 (by decide) (va_Nw.use rfl (hN _ nl_8)) (fun _ h9 => h9) rfl d_Net_chain_120 ?_
        refine lv_if_eq (tgt := 138) hx hb d_Net_chain_123 (by decide) (fun c_129 => ?_) (fun c_129 => ?_)
        · replace hf := hf.1 c_129
          refine lv_iconst (v := 0) hx hb d_Net_chain_138 (by decide) ?_
          obtain ⟨kp_130, hk_130⟩ := va_pl_get (X := [(a4, .inl ((cA 0), 30, .inl v_3.1)), (a5, .inl ((cA 0), 900, .inl v_3.2)), (a2, .inl ((cA 0), 30, .inl v_80)), (h0, .inr (1, [.int pos, .ref a1, .ref a2, .ref a3, .ref a4, .ref a5])), (a3, .inl ((cA 0), 30, .inl v_121))]) (f := ptF pf_127) hm1
          refine va_putN (D := (dC, dI)) (ci := 3) (v := .int 0) (ty := .int) (C := RX3) (T := TX3) (N := 5) hx hb hts (fun w h => List.mem_cons_of_mem _ (in_X3 w h)) tyX3 tyX3_ok nmX3 hown hK hP hD hS kp_130 hk_130 rfl 4 (by decide) (va_Nw.use rfl (hN _ nl_10)) (fun _ h9 => h9) rfl (tyX3_ok 4 (by decide)) rfl rfl (Nat.le_of_ble_eq_true rfl) d_Net_chain_139 (fun H locs hP9 hD9 hS => ?_)
          obtain ⟨pf_130, e_130⟩ : ∃ y, y = va_up pf_127 q1 ((pf_127 q1).1, (pf_127 q1).2.1, (pf_127 q1).2.2.1, (pf_127 q1).2.2.2.1, 0) := ⟨_, rfl⟩
          replace hf := hf pf_130 e_130
          have hP9 := ptF_set (t9 := ((pf_127 q1).1, (pf_127 q1).2.1, (pf_127 q1).2.2.1, (pf_127 q1).2.2.2.1, 0)) hD hm1 hk_130 hP9
          have hD9 := ptF_setD (t9 := ((pf_127 q1).1, (pf_127 q1).2.1, (pf_127 q1).2.2.1, (pf_127 q1).2.2.2.1, 0)) hD hm1 hk_130 hD9
          rw [← e_130] at hP9 hD9
          have hP : va_P (dC, dI) clA (@HAppend.hAppend va_W va_W va_W _ [(a4, .inl ((cA 0), 30, .inl v_3.1)), (a5, .inl ((cA 0), 900, .inl v_3.2)), (a2, .inl ((cA 0), 30, .inl v_80)), (h0, .inr (1, [.int pos, .ref a1, .ref a2, .ref a3, .ref a4, .ref a5])), (a3, .inl ((cA 0), 30, .inl v_121))] (va_pl LP (ptF pf_130))) H := hP9
          have hD : va_D A (@HAppend.hAppend va_W va_W va_W _ [(a4, .inl ((cA 0), 30, .inl v_3.1)), (a5, .inl ((cA 0), 900, .inl v_3.2)), (a2, .inl ((cA 0), 30, .inl v_80)), (h0, .inr (1, [.int pos, .ref a1, .ref a2, .ref a3, .ref a4, .ref a5])), (a3, .inl ((cA 0), 30, .inl v_121))] (va_pl LP (ptF pf_130))) := hD9
          have hP9 := hP.part (cx := [(h0, .inr (1, [.int pos, .ref a1, .ref a2, .ref a3, .ref a4, .ref a5])), (a2, .inl ((cA 0), 30, .inl v_80)), (a3, .inl ((cA 0), 30, .inl v_121)), (a4, .inl ((cA 0), 30, .inl v_3.1)), (a5, .inl ((cA 0), 900, .inl v_3.2))]) [3, 2, 4, 0, 1] rfl
          have hD9 := hD.part (cx := [(h0, .inr (1, [.int pos, .ref a1, .ref a2, .ref a3, .ref a4, .ref a5])), (a2, .inl ((cA 0), 30, .inl v_80)), (a3, .inl ((cA 0), 30, .inl v_121)), (a4, .inl ((cA 0), 30, .inl v_3.1)), (a5, .inl ((cA 0), 900, .inl v_3.2))]) [3, 2, 4, 0, 1] (by decide) rfl
          refine W_end hQz ?_
          exact W.vret hx hb hr (fun t ht hW => ⟨⟨(v_80, v_121, v_3.1, v_3.2, pf_130), rfl, hf, P_cg ht.symm hP9, va_K.moved hW.alike hK, hD9⟩, hS.F ht⟩) hS.2.2 d_Net_chain_142 hlocks
        · replace hf := hf.2 c_129
          refine lv_aload_n hx hb d_Net_chain_126 rfl (lv_at hl 1 rfl) ?_
          obtain ⟨kp_132, hk_132⟩ := va_pl_get (X := [(a4, .inl ((cA 0), 30, .inl v_3.1)), (a5, .inl ((cA 0), 900, .inl v_3.2)), (a2, .inl ((cA 0), 30, .inl v_80)), (h0, .inr (1, [.int pos, .ref a1, .ref a2, .ref a3, .ref a4, .ref a5])), (a3, .inl ((cA 0), 30, .inl v_121))]) (f := ptF pf_127) hm1
          refine va_getN (D := (dC, dI)) (ci := 3) (v := .int ((pf_127 q1).2.2.2.2)) (C := RX3) (T := TX3) (N := 5) hx hb hts (fun w h => List.mem_cons_of_mem _ (in_X3 w h)) hown hK hP kp_132 hk_132 rfl 4 (by decide) (va_Nw.use rfl (hN _ nl_10)) (fun _ h9 => h9) rfl d_Net_chain_127 ?_
          refine lv_aload_n hx hb d_Net_chain_130 rfl (lv_at hl 2 rfl) ?_
          obtain ⟨kp_133, hk_133⟩ := va_pl_get (X := [(a4, .inl ((cA 0), 30, .inl v_3.1)), (a5, .inl ((cA 0), 900, .inl v_3.2)), (a2, .inl ((cA 0), 30, .inl v_80)), (h0, .inr (1, [.int pos, .ref a1, .ref a2, .ref a3, .ref a4, .ref a5])), (a3, .inl ((cA 0), 30, .inl v_121))]) (f := ptF pf_127) hm2
          refine va_getN (D := (dC, dI)) (ci := 3) (v := .int ((pf_127 q2).2.2.2.2)) (C := RX3) (T := TX3) (N := 5) hx hb hts (fun w h => List.mem_cons_of_mem _ (in_X3 w h)) hown hK hP kp_133 hk_133 rfl 4 (by decide) (va_Nw.use rfl (hN _ nl_10)) (fun _ h9 => h9) rfl d_Net_chain_131 ?_
          refine lv_ior hx hb d_Net_chain_134 ?_
          refine lv_goto (tgt := 139) hx hb d_Net_chain_135 (by decide) ?_
          obtain ⟨kp_134, hk_134⟩ := va_pl_get (X := [(a4, .inl ((cA 0), 30, .inl v_3.1)), (a5, .inl ((cA 0), 900, .inl v_3.2)), (a2, .inl ((cA 0), 30, .inl v_80)), (h0, .inr (1, [.int pos, .ref a1, .ref a2, .ref a3, .ref a4, .ref a5])), (a3, .inl ((cA 0), 30, .inl v_121))]) (f := ptF pf_127) hm1
          refine va_putN (D := (dC, dI)) (ci := 3) (v := .int (((pf_127 q1).2.2.2.2) ||| ((pf_127 q2).2.2.2.2))) (ty := .int) (C := RX3) (T := TX3) (N := 5) hx hb hts (fun w h => List.mem_cons_of_mem _ (in_X3 w h)) tyX3 tyX3_ok nmX3 hown hK hP hD hS kp_134 hk_134 rfl 4 (by decide) (va_Nw.use rfl (hN _ nl_10)) (fun _ h9 => h9) rfl (tyX3_ok 4 (by decide)) rfl rfl (Nat.le_of_ble_eq_true rfl) d_Net_chain_139 (fun H locs hP9 hD9 hS => ?_)
          obtain ⟨pf_134, e_134⟩ : ∃ y, y = va_up pf_127 q1 ((pf_127 q1).1, (pf_127 q1).2.1, (pf_127 q1).2.2.1, (pf_127 q1).2.2.2.1, (((pf_127 q1).2.2.2.2) ||| ((pf_127 q2).2.2.2.2))) := ⟨_, rfl⟩
          replace hf := hf pf_134 e_134
          have hP9 := ptF_set (t9 := ((pf_127 q1).1, (pf_127 q1).2.1, (pf_127 q1).2.2.1, (pf_127 q1).2.2.2.1, (((pf_127 q1).2.2.2.2) ||| ((pf_127 q2).2.2.2.2)))) hD hm1 hk_134 hP9
          have hD9 := ptF_setD (t9 := ((pf_127 q1).1, (pf_127 q1).2.1, (pf_127 q1).2.2.1, (pf_127 q1).2.2.2.1, (((pf_127 q1).2.2.2.2) ||| ((pf_127 q2).2.2.2.2)))) hD hm1 hk_134 hD9
          rw [← e_134] at hP9 hD9
          have hP : va_P (dC, dI) clA (@HAppend.hAppend va_W va_W va_W _ [(a4, .inl ((cA 0), 30, .inl v_3.1)), (a5, .inl ((cA 0), 900, .inl v_3.2)), (a2, .inl ((cA 0), 30, .inl v_80)), (h0, .inr (1, [.int pos, .ref a1, .ref a2, .ref a3, .ref a4, .ref a5])), (a3, .inl ((cA 0), 30, .inl v_121))] (va_pl LP (ptF pf_134))) H := hP9
          have hD : va_D A (@HAppend.hAppend va_W va_W va_W _ [(a4, .inl ((cA 0), 30, .inl v_3.1)), (a5, .inl ((cA 0), 900, .inl v_3.2)), (a2, .inl ((cA 0), 30, .inl v_80)), (h0, .inr (1, [.int pos, .ref a1, .ref a2, .ref a3, .ref a4, .ref a5])), (a3, .inl ((cA 0), 30, .inl v_121))] (va_pl LP (ptF pf_134))) := hD9
          have hP9 := hP.part (cx := [(h0, .inr (1, [.int pos, .ref a1, .ref a2, .ref a3, .ref a4, .ref a5])), (a2, .inl ((cA 0), 30, .inl v_80)), (a3, .inl ((cA 0), 30, .inl v_121)), (a4, .inl ((cA 0), 30, .inl v_3.1)), (a5, .inl ((cA 0), 900, .inl v_3.2))]) [3, 2, 4, 0, 1] rfl
          have hD9 := hD.part (cx := [(h0, .inr (1, [.int pos, .ref a1, .ref a2, .ref a3, .ref a4, .ref a5])), (a2, .inl ((cA 0), 30, .inl v_80)), (a3, .inl ((cA 0), 30, .inl v_121)), (a4, .inl ((cA 0), 30, .inl v_3.1)), (a5, .inl ((cA 0), 900, .inl v_3.2))]) [3, 2, 4, 0, 1] (by decide) rfl
          refine W_end hQz ?_
          exact W.vret hx hb hr (fun t ht hW => ⟨⟨(v_80, v_121, v_3.1, v_3.2, pf_134), rfl, hf, P_cg ht.symm hP9, va_K.moved hW.alike hK, hD9⟩, hS.F ht⟩) hS.2.2 d_Net_chain_142 hlocks
      · replace hf := hf.2 c_126
        refine lv_aload_n hx hb d_Net_chain_103 rfl (lv_at hl 2 rfl) ?_
        obtain ⟨kp_136, hk_136⟩ := va_pl_get (X := [(a4, .inl ((cA 0), 30, .inl v_3.1)), (a5, .inl ((cA 0), 900, .inl v_3.2)), (a2, .inl ((cA 0), 30, .inl v_80)), (h0, .inr (1, [.int pos, .ref a1, .ref a2, .ref a3, .ref a4, .ref a5])), (a3, .inl ((cA 0), 30, .inl v_121))]) (f := ptF pf_124) hm2
        refine va_getN (D := (dC, dI)) (ci := 3) (v := .int ((pf_124 q2).2.2.2.1)) (C := RX3) (T := TX3) (N := 5) hx hb hts (fun w h => List.mem_cons_of_mem _ (in_X3 w h)) hown hK hP kp_136 hk_136 rfl 3 (by decide) (va_Nw.use rfl (hN _ nl_8)) (fun _ h9 => h9) rfl d_Net_chain_104 ?_
        refine lv_if_eq (tgt := 114) hx hb d_Net_chain_107 (by decide) (fun c_137 => ?_) (fun c_137 => ?_)
        · replace hf := hf.1 c_137
          refine lv_iconst (v := 0) hx hb d_Net_chain_114 (by decide) ?_
          obtain ⟨kp_138, hk_138⟩ := va_pl_get (X := [(a4, .inl ((cA 0), 30, .inl v_3.1)), (a5, .inl ((cA 0), 900, .inl v_3.2)), (a2, .inl ((cA 0), 30, .inl v_80)), (h0, .inr (1, [.int pos, .ref a1, .ref a2, .ref a3, .ref a4, .ref a5])), (a3, .inl ((cA 0), 30, .inl v_121))]) (f := ptF pf_124) hm1
          refine va_putN (D := (dC, dI)) (ci := 3) (v := .int 0) (ty := .boolean) (C := RX3) (T := TX3) (N := 5) hx hb hts (fun w h => List.mem_cons_of_mem _ (in_X3 w h)) tyX3 tyX3_ok nmX3 hown hK hP hD hS kp_138 hk_138 rfl 3 (by decide) (va_Nw.use rfl (hN _ nl_8)) (fun _ h9 => h9) rfl (tyX3_ok 3 (by decide)) (by decide) (by decide) (Nat.le_of_ble_eq_true rfl) d_Net_chain_115 (fun H locs hP9 hD9 hS => ?_)
          obtain ⟨pf_138, e_138⟩ : ∃ y, y = va_up pf_124 q1 ((pf_124 q1).1, (pf_124 q1).2.1, (pf_124 q1).2.2.1, 0, (pf_124 q1).2.2.2.2) := ⟨_, rfl⟩
          replace hf := hf pf_138 e_138
          have hP9 := ptF_set (t9 := ((pf_124 q1).1, (pf_124 q1).2.1, (pf_124 q1).2.2.1, 0, (pf_124 q1).2.2.2.2)) hD hm1 hk_138 hP9
          have hD9 := ptF_setD (t9 := ((pf_124 q1).1, (pf_124 q1).2.1, (pf_124 q1).2.2.1, 0, (pf_124 q1).2.2.2.2)) hD hm1 hk_138 hD9
          rw [← e_138] at hP9 hD9
          have hP : va_P (dC, dI) clA (@HAppend.hAppend va_W va_W va_W _ [(a4, .inl ((cA 0), 30, .inl v_3.1)), (a5, .inl ((cA 0), 900, .inl v_3.2)), (a2, .inl ((cA 0), 30, .inl v_80)), (h0, .inr (1, [.int pos, .ref a1, .ref a2, .ref a3, .ref a4, .ref a5])), (a3, .inl ((cA 0), 30, .inl v_121))] (va_pl LP (ptF pf_138))) H := hP9
          have hD : va_D A (@HAppend.hAppend va_W va_W va_W _ [(a4, .inl ((cA 0), 30, .inl v_3.1)), (a5, .inl ((cA 0), 900, .inl v_3.2)), (a2, .inl ((cA 0), 30, .inl v_80)), (h0, .inr (1, [.int pos, .ref a1, .ref a2, .ref a3, .ref a4, .ref a5])), (a3, .inl ((cA 0), 30, .inl v_121))] (va_pl LP (ptF pf_138))) := hD9
          refine lv_aload_n hx hb d_Net_chain_118 rfl (lv_at hl 1 rfl) ?_
          refine lv_aload_n hx hb d_Net_chain_119 rfl (lv_at hl 1 rfl) ?_
          obtain ⟨kp_139, hk_139⟩ := va_pl_get (X := [(a4, .inl ((cA 0), 30, .inl v_3.1)), (a5, .inl ((cA 0), 900, .inl v_3.2)), (a2, .inl ((cA 0), 30, .inl v_80)), (h0, .inr (1, [.int pos, .ref a1, .ref a2, .ref a3, .ref a4, .ref a5])), (a3, .inl ((cA 0), 30, .inl v_121))]) (f := ptF pf_138) hm1
          refine va_getN (D := (dC, dI)) (ci := 3) (v := .int ((pf_138 q1).2.2.2.1)) (C := RX3) (T := TX3) (N := 5) hx hb hts (fun w h => List.mem_cons_of_mem _ (in_X3 w h)) hown hK hP kp_139 hk_139 rfl 3 (by decide) (va_Nw.use rfl (hN _ nl_8)) (fun _ h9 => h9) rfl d_Net_chain_120 ?_
          refine lv_if_eq (tgt := 138) hx hb d_Net_chain_123 (by decide) (fun c_140 => ?_) (fun c_140 => ?_)
          · replace hf := hf.1 c_140
            refine lv_iconst (v := 0) hx hb d_Net_chain_138 (by decide) ?_
            obtain ⟨kp_141, hk_141⟩ := va_pl_get (X := [(a4, .inl ((cA 0), 30, .inl v_3.1)), (a5, .inl ((cA 0), 900, .inl v_3.2)), (a2, .inl ((cA 0), 30, .inl v_80)), (h0, .inr (1, [.int pos, .ref a1, .ref a2, .ref a3, .ref a4, .ref a5])), (a3, .inl ((cA 0), 30, .inl v_121))]) (f := ptF pf_138) hm1
            refine va_putN (D := (dC, dI)) (ci := 3) (v := .int 0) (ty := .int) (C := RX3) (T := TX3) (N := 5) hx hb hts (fun w h => List.mem_cons_of_mem _ (in_X3 w h)) tyX3 tyX3_ok nmX3 hown hK hP hD hS kp_141 hk_141 rfl 4 (by decide) (va_Nw.use rfl (hN _ nl_10)) (fun _ h9 => h9) rfl (tyX3_ok 4 (by decide)) rfl rfl (Nat.le_of_ble_eq_true rfl) d_Net_chain_139 (fun H locs hP9 hD9 hS => ?_)
            obtain ⟨pf_141, e_141⟩ : ∃ y, y = va_up pf_138 q1 ((pf_138 q1).1, (pf_138 q1).2.1, (pf_138 q1).2.2.1, (pf_138 q1).2.2.2.1, 0) := ⟨_, rfl⟩
            replace hf := hf pf_141 e_141
            have hP9 := ptF_set (t9 := ((pf_138 q1).1, (pf_138 q1).2.1, (pf_138 q1).2.2.1, (pf_138 q1).2.2.2.1, 0)) hD hm1 hk_141 hP9
            have hD9 := ptF_setD (t9 := ((pf_138 q1).1, (pf_138 q1).2.1, (pf_138 q1).2.2.1, (pf_138 q1).2.2.2.1, 0)) hD hm1 hk_141 hD9
            rw [← e_141] at hP9 hD9
            have hP : va_P (dC, dI) clA (@HAppend.hAppend va_W va_W va_W _ [(a4, .inl ((cA 0), 30, .inl v_3.1)), (a5, .inl ((cA 0), 900, .inl v_3.2)), (a2, .inl ((cA 0), 30, .inl v_80)), (h0, .inr (1, [.int pos, .ref a1, .ref a2, .ref a3, .ref a4, .ref a5])), (a3, .inl ((cA 0), 30, .inl v_121))] (va_pl LP (ptF pf_141))) H := hP9
            have hD : va_D A (@HAppend.hAppend va_W va_W va_W _ [(a4, .inl ((cA 0), 30, .inl v_3.1)), (a5, .inl ((cA 0), 900, .inl v_3.2)), (a2, .inl ((cA 0), 30, .inl v_80)), (h0, .inr (1, [.int pos, .ref a1, .ref a2, .ref a3, .ref a4, .ref a5])), (a3, .inl ((cA 0), 30, .inl v_121))] (va_pl LP (ptF pf_141))) := hD9
            have hP9 := hP.part (cx := [(h0, .inr (1, [.int pos, .ref a1, .ref a2, .ref a3, .ref a4, .ref a5])), (a2, .inl ((cA 0), 30, .inl v_80)), (a3, .inl ((cA 0), 30, .inl v_121)), (a4, .inl ((cA 0), 30, .inl v_3.1)), (a5, .inl ((cA 0), 900, .inl v_3.2))]) [3, 2, 4, 0, 1] rfl
            have hD9 := hD.part (cx := [(h0, .inr (1, [.int pos, .ref a1, .ref a2, .ref a3, .ref a4, .ref a5])), (a2, .inl ((cA 0), 30, .inl v_80)), (a3, .inl ((cA 0), 30, .inl v_121)), (a4, .inl ((cA 0), 30, .inl v_3.1)), (a5, .inl ((cA 0), 900, .inl v_3.2))]) [3, 2, 4, 0, 1] (by decide) rfl
            refine W_end hQz ?_
            exact W.vret hx hb hr (fun t ht hW => ⟨⟨(v_80, v_121, v_3.1, v_3.2, pf_141), rfl, hf, P_cg ht.symm hP9, va_K.moved hW.alike hK, hD9⟩, hS.F ht⟩) hS.2.2 d_Net_chain_142 hlocks
          · replace hf := hf.2 c_140
            refine lv_aload_n hx hb d_Net_chain_126 rfl (lv_at hl 1 rfl) ?_
            obtain ⟨kp_143, hk_143⟩ := va_pl_get (X := [(a4, .inl ((cA 0), 30, .inl v_3.1)), (a5, .inl ((cA 0), 900, .inl v_3.2)), (a2, .inl ((cA 0), 30, .inl v_80)), (h0, .inr (1, [.int pos, .ref a1, .ref a2, .ref a3, .ref a4, .ref a5])), (a3, .inl ((cA 0), 30, .inl v_121))]) (f := ptF pf_138) hm1
            refine va_getN (D := (dC, dI)) (ci := 3) (v := .int ((pf_138 q1).2.2.2.2)) (C := RX3) (T := TX3) (N := 5) hx hb hts (fun w h => List.mem_cons_of_mem _ (in_X3 w h)) hown hK hP kp_143 hk_143 rfl 4 (by decide) (va_Nw.use rfl (hN _ nl_10)) (fun _ h9 => h9) rfl d_Net_chain_127 ?_
            refine lv_aload_n hx hb d_Net_chain_130 rfl (lv_at hl 2 rfl) ?_
            obtain ⟨kp_144, hk_144⟩ := va_pl_get (X := [(a4, .inl ((cA 0), 30, .inl v_3.1)), (a5, .inl ((cA 0), 900, .inl v_3.2)), (a2, .inl ((cA 0), 30, .inl v_80)), (h0, .inr (1, [.int pos, .ref a1, .ref a2, .ref a3, .ref a4, .ref a5])), (a3, .inl ((cA 0), 30, .inl v_121))]) (f := ptF pf_138) hm2
            refine va_getN (D := (dC, dI)) (ci := 3) (v := .int ((pf_138 q2).2.2.2.2)) (C := RX3) (T := TX3) (N := 5) hx hb hts (fun w h => List.mem_cons_of_mem _ (in_X3 w h)) hown hK hP kp_144 hk_144 rfl 4 (by decide) (va_Nw.use rfl (hN _ nl_10)) (fun _ h9 => h9) rfl d_Net_chain_131 ?_
            refine lv_ior hx hb d_Net_chain_134 ?_
            refine lv_goto (tgt := 139) hx hb d_Net_chain_135 (by decide) ?_
            obtain ⟨kp_145, hk_145⟩ := va_pl_get (X := [(a4, .inl ((cA 0), 30, .inl v_3.1)), (a5, .inl ((cA 0), 900, .inl v_3.2)), (a2, .inl ((cA 0), 30, .inl v_80)), (h0, .inr (1, [.int pos, .ref a1, .ref a2, .ref a3, .ref a4, .ref a5])), (a3, .inl ((cA 0), 30, .inl v_121))]) (f := ptF pf_138) hm1
            refine va_putN (D := (dC, dI)) (ci := 3) (v := .int (((pf_138 q1).2.2.2.2) ||| ((pf_138 q2).2.2.2.2))) (ty := .int) (C := RX3) (T := TX3) (N := 5) hx hb hts (fun w h => List.mem_cons_of_mem _ (in_X3 w h)) tyX3 tyX3_ok nmX3 hown hK hP hD hS kp_145 hk_145 rfl 4 (by decide) (va_Nw.use rfl (hN _ nl_10)) (fun _ h9 => h9) rfl (tyX3_ok 4 (by decide)) rfl rfl (Nat.le_of_ble_eq_true rfl) d_Net_chain_139 (fun H locs hP9 hD9 hS => ?_)
            obtain ⟨pf_145, e_145⟩ : ∃ y, y = va_up pf_138 q1 ((pf_138 q1).1, (pf_138 q1).2.1, (pf_138 q1).2.2.1, (pf_138 q1).2.2.2.1, (((pf_138 q1).2.2.2.2) ||| ((pf_138 q2).2.2.2.2))) := ⟨_, rfl⟩
            replace hf := hf pf_145 e_145
            have hP9 := ptF_set (t9 := ((pf_138 q1).1, (pf_138 q1).2.1, (pf_138 q1).2.2.1, (pf_138 q1).2.2.2.1, (((pf_138 q1).2.2.2.2) ||| ((pf_138 q2).2.2.2.2)))) hD hm1 hk_145 hP9
            have hD9 := ptF_setD (t9 := ((pf_138 q1).1, (pf_138 q1).2.1, (pf_138 q1).2.2.1, (pf_138 q1).2.2.2.1, (((pf_138 q1).2.2.2.2) ||| ((pf_138 q2).2.2.2.2)))) hD hm1 hk_145 hD9
            rw [← e_145] at hP9 hD9
            have hP : va_P (dC, dI) clA (@HAppend.hAppend va_W va_W va_W _ [(a4, .inl ((cA 0), 30, .inl v_3.1)), (a5, .inl ((cA 0), 900, .inl v_3.2)), (a2, .inl ((cA 0), 30, .inl v_80)), (h0, .inr (1, [.int pos, .ref a1, .ref a2, .ref a3, .ref a4, .ref a5])), (a3, .inl ((cA 0), 30, .inl v_121))] (va_pl LP (ptF pf_145))) H := hP9
            have hD : va_D A (@HAppend.hAppend va_W va_W va_W _ [(a4, .inl ((cA 0), 30, .inl v_3.1)), (a5, .inl ((cA 0), 900, .inl v_3.2)), (a2, .inl ((cA 0), 30, .inl v_80)), (h0, .inr (1, [.int pos, .ref a1, .ref a2, .ref a3, .ref a4, .ref a5])), (a3, .inl ((cA 0), 30, .inl v_121))] (va_pl LP (ptF pf_145))) := hD9
            have hP9 := hP.part (cx := [(h0, .inr (1, [.int pos, .ref a1, .ref a2, .ref a3, .ref a4, .ref a5])), (a2, .inl ((cA 0), 30, .inl v_80)), (a3, .inl ((cA 0), 30, .inl v_121)), (a4, .inl ((cA 0), 30, .inl v_3.1)), (a5, .inl ((cA 0), 900, .inl v_3.2))]) [3, 2, 4, 0, 1] rfl
            have hD9 := hD.part (cx := [(h0, .inr (1, [.int pos, .ref a1, .ref a2, .ref a3, .ref a4, .ref a5])), (a2, .inl ((cA 0), 30, .inl v_80)), (a3, .inl ((cA 0), 30, .inl v_121)), (a4, .inl ((cA 0), 30, .inl v_3.1)), (a5, .inl ((cA 0), 900, .inl v_3.2))]) [3, 2, 4, 0, 1] (by decide) rfl
            refine W_end hQz ?_
            exact W.vret hx hb hr (fun t ht hW => ⟨⟨(v_80, v_121, v_3.1, v_3.2, pf_145), rfl, hf, P_cg ht.symm hP9, va_K.moved hW.alike hK, hD9⟩, hS.F ht⟩) hS.2.2 d_Net_chain_142 hlocks
        · replace hf := hf.2 c_137
          refine lv_iconst (v := 1) hx hb d_Net_chain_110 (by decide) ?_
          refine lv_goto (tgt := 115) hx hb d_Net_chain_111 (by decide) ?_
          obtain ⟨kp_147, hk_147⟩ := va_pl_get (X := [(a4, .inl ((cA 0), 30, .inl v_3.1)), (a5, .inl ((cA 0), 900, .inl v_3.2)), (a2, .inl ((cA 0), 30, .inl v_80)), (h0, .inr (1, [.int pos, .ref a1, .ref a2, .ref a3, .ref a4, .ref a5])), (a3, .inl ((cA 0), 30, .inl v_121))]) (f := ptF pf_124) hm1
          refine va_putN (D := (dC, dI)) (ci := 3) (v := .int 1) (ty := .boolean) (C := RX3) (T := TX3) (N := 5) hx hb hts (fun w h => List.mem_cons_of_mem _ (in_X3 w h)) tyX3 tyX3_ok nmX3 hown hK hP hD hS kp_147 hk_147 rfl 3 (by decide) (va_Nw.use rfl (hN _ nl_8)) (fun _ h9 => h9) rfl (tyX3_ok 3 (by decide)) (by decide) (by decide) (Nat.le_of_ble_eq_true rfl) d_Net_chain_115 (fun H locs hP9 hD9 hS => ?_)
          obtain ⟨pf_147, e_147⟩ : ∃ y, y = va_up pf_124 q1 ((pf_124 q1).1, (pf_124 q1).2.1, (pf_124 q1).2.2.1, 1, (pf_124 q1).2.2.2.2) := ⟨_, rfl⟩
          replace hf := hf pf_147 e_147
          have hP9 := ptF_set (t9 := ((pf_124 q1).1, (pf_124 q1).2.1, (pf_124 q1).2.2.1, 1, (pf_124 q1).2.2.2.2)) hD hm1 hk_147 hP9
          have hD9 := ptF_setD (t9 := ((pf_124 q1).1, (pf_124 q1).2.1, (pf_124 q1).2.2.1, 1, (pf_124 q1).2.2.2.2)) hD hm1 hk_147 hD9
          rw [← e_147] at hP9 hD9
          have hP : va_P (dC, dI) clA (@HAppend.hAppend va_W va_W va_W _ [(a4, .inl ((cA 0), 30, .inl v_3.1)), (a5, .inl ((cA 0), 900, .inl v_3.2)), (a2, .inl ((cA 0), 30, .inl v_80)), (h0, .inr (1, [.int pos, .ref a1, .ref a2, .ref a3, .ref a4, .ref a5])), (a3, .inl ((cA 0), 30, .inl v_121))] (va_pl LP (ptF pf_147))) H := hP9
          have hD : va_D A (@HAppend.hAppend va_W va_W va_W _ [(a4, .inl ((cA 0), 30, .inl v_3.1)), (a5, .inl ((cA 0), 900, .inl v_3.2)), (a2, .inl ((cA 0), 30, .inl v_80)), (h0, .inr (1, [.int pos, .ref a1, .ref a2, .ref a3, .ref a4, .ref a5])), (a3, .inl ((cA 0), 30, .inl v_121))] (va_pl LP (ptF pf_147))) := hD9
          refine lv_aload_n hx hb d_Net_chain_118 rfl (lv_at hl 1 rfl) ?_
          refine lv_aload_n hx hb d_Net_chain_119 rfl (lv_at hl 1 rfl) ?_
          obtain ⟨kp_148, hk_148⟩ := va_pl_get (X := [(a4, .inl ((cA 0), 30, .inl v_3.1)), (a5, .inl ((cA 0), 900, .inl v_3.2)), (a2, .inl ((cA 0), 30, .inl v_80)), (h0, .inr (1, [.int pos, .ref a1, .ref a2, .ref a3, .ref a4, .ref a5])), (a3, .inl ((cA 0), 30, .inl v_121))]) (f := ptF pf_147) hm1
          refine va_getN (D := (dC, dI)) (ci := 3) (v := .int ((pf_147 q1).2.2.2.1)) (C := RX3) (T := TX3) (N := 5) hx hb hts (fun w h => List.mem_cons_of_mem _ (in_X3 w h)) hown hK hP kp_148 hk_148 rfl 3 (by decide) (va_Nw.use rfl (hN _ nl_8)) (fun _ h9 => h9) rfl d_Net_chain_120 ?_
          refine lv_if_eq (tgt := 138) hx hb d_Net_chain_123 (by decide) (fun c_149 => ?_) (fun c_149 => ?_)
          · replace hf := hf.1 c_149
            refine lv_iconst (v := 0) hx hb d_Net_chain_138 (by decide) ?_
            obtain ⟨kp_150, hk_150⟩ := va_pl_get (X := [(a4, .inl ((cA 0), 30, .inl v_3.1)), (a5, .inl ((cA 0), 900, .inl v_3.2)), (a2, .inl ((cA 0), 30, .inl v_80)), (h0, .inr (1, [.int pos, .ref a1, .ref a2, .ref a3, .ref a4, .ref a5])), (a3, .inl ((cA 0), 30, .inl v_121))]) (f := ptF pf_147) hm1
            refine va_putN (D := (dC, dI)) (ci := 3) (v := .int 0) (ty := .int) (C := RX3) (T := TX3) (N := 5) hx hb hts (fun w h => List.mem_cons_of_mem _ (in_X3 w h)) tyX3 tyX3_ok nmX3 hown hK hP hD hS kp_150 hk_150 rfl 4 (by decide) (va_Nw.use rfl (hN _ nl_10)) (fun _ h9 => h9) rfl (tyX3_ok 4 (by decide)) rfl rfl (Nat.le_of_ble_eq_true rfl) d_Net_chain_139 (fun H locs hP9 hD9 hS => ?_)
            obtain ⟨pf_150, e_150⟩ : ∃ y, y = va_up pf_147 q1 ((pf_147 q1).1, (pf_147 q1).2.1, (pf_147 q1).2.2.1, (pf_147 q1).2.2.2.1, 0) := ⟨_, rfl⟩
            replace hf := hf pf_150 e_150
            have hP9 := ptF_set (t9 := ((pf_147 q1).1, (pf_147 q1).2.1, (pf_147 q1).2.2.1, (pf_147 q1).2.2.2.1, 0)) hD hm1 hk_150 hP9
            have hD9 := ptF_setD (t9 := ((pf_147 q1).1, (pf_147 q1).2.1, (pf_147 q1).2.2.1, (pf_147 q1).2.2.2.1, 0)) hD hm1 hk_150 hD9
            rw [← e_150] at hP9 hD9
            have hP : va_P (dC, dI) clA (@HAppend.hAppend va_W va_W va_W _ [(a4, .inl ((cA 0), 30, .inl v_3.1)), (a5, .inl ((cA 0), 900, .inl v_3.2)), (a2, .inl ((cA 0), 30, .inl v_80)), (h0, .inr (1, [.int pos, .ref a1, .ref a2, .ref a3, .ref a4, .ref a5])), (a3, .inl ((cA 0), 30, .inl v_121))] (va_pl LP (ptF pf_150))) H := hP9
            have hD : va_D A (@HAppend.hAppend va_W va_W va_W _ [(a4, .inl ((cA 0), 30, .inl v_3.1)), (a5, .inl ((cA 0), 900, .inl v_3.2)), (a2, .inl ((cA 0), 30, .inl v_80)), (h0, .inr (1, [.int pos, .ref a1, .ref a2, .ref a3, .ref a4, .ref a5])), (a3, .inl ((cA 0), 30, .inl v_121))] (va_pl LP (ptF pf_150))) := hD9
            have hP9 := hP.part (cx := [(h0, .inr (1, [.int pos, .ref a1, .ref a2, .ref a3, .ref a4, .ref a5])), (a2, .inl ((cA 0), 30, .inl v_80)), (a3, .inl ((cA 0), 30, .inl v_121)), (a4, .inl ((cA 0), 30, .inl v_3.1)), (a5, .inl ((cA 0), 900, .inl v_3.2))]) [3, 2, 4, 0, 1] rfl
            have hD9 := hD.part (cx := [(h0, .inr (1, [.int pos, .ref a1, .ref a2, .ref a3, .ref a4, .ref a5])), (a2, .inl ((cA 0), 30, .inl v_80)), (a3, .inl ((cA 0), 30, .inl v_121)), (a4, .inl ((cA 0), 30, .inl v_3.1)), (a5, .inl ((cA 0), 900, .inl v_3.2))]) [3, 2, 4, 0, 1] (by decide) rfl
            refine W_end hQz ?_
            exact W.vret hx hb hr (fun t ht hW => ⟨⟨(v_80, v_121, v_3.1, v_3.2, pf_150), rfl, hf, P_cg ht.symm hP9, va_K.moved hW.alike hK, hD9⟩, hS.F ht⟩) hS.2.2 d_Net_chain_142 hlocks
          · replace hf := hf.2 c_149
            refine lv_aload_n hx hb d_Net_chain_126 rfl (lv_at hl 1 rfl) ?_
            obtain ⟨kp_152, hk_152⟩ := va_pl_get (X := [(a4, .inl ((cA 0), 30, .inl v_3.1)), (a5, .inl ((cA 0), 900, .inl v_3.2)), (a2, .inl ((cA 0), 30, .inl v_80)), (h0, .inr (1, [.int pos, .ref a1, .ref a2, .ref a3, .ref a4, .ref a5])), (a3, .inl ((cA 0), 30, .inl v_121))]) (f := ptF pf_147) hm1
            refine va_getN (D := (dC, dI)) (ci := 3) (v := .int ((pf_147 q1).2.2.2.2)) (C := RX3) (T := TX3) (N := 5) hx hb hts (fun w h => List.mem_cons_of_mem _ (in_X3 w h)) hown hK hP kp_152 hk_152 rfl 4 (by decide) (va_Nw.use rfl (hN _ nl_10)) (fun _ h9 => h9) rfl d_Net_chain_127 ?_
            refine lv_aload_n hx hb d_Net_chain_130 rfl (lv_at hl 2 rfl) ?_
            obtain ⟨kp_153, hk_153⟩ := va_pl_get (X := [(a4, .inl ((cA 0), 30, .inl v_3.1)), (a5, .inl ((cA 0), 900, .inl v_3.2)), (a2, .inl ((cA 0), 30, .inl v_80)), (h0, .inr (1, [.int pos, .ref a1, .ref a2, .ref a3, .ref a4, .ref a5])), (a3, .inl ((cA 0), 30, .inl v_121))]) (f := ptF pf_147) hm2
            refine va_getN (D := (dC, dI)) (ci := 3) (v := .int ((pf_147 q2).2.2.2.2)) (C := RX3) (T := TX3) (N := 5) hx hb hts (fun w h => List.mem_cons_of_mem _ (in_X3 w h)) hown hK hP kp_153 hk_153 rfl 4 (by decide) (va_Nw.use rfl (hN _ nl_10)) (fun _ h9 => h9) rfl d_Net_chain_131 ?_
            refine lv_ior hx hb d_Net_chain_134 ?_
            refine lv_goto (tgt := 139) hx hb d_Net_chain_135 (by decide) ?_
            obtain ⟨kp_154, hk_154⟩ := va_pl_get (X := [(a4, .inl ((cA 0), 30, .inl v_3.1)), (a5, .inl ((cA 0), 900, .inl v_3.2)), (a2, .inl ((cA 0), 30, .inl v_80)), (h0, .inr (1, [.int pos, .ref a1, .ref a2, .ref a3, .ref a4, .ref a5])), (a3, .inl ((cA 0), 30, .inl v_121))]) (f := ptF pf_147) hm1
            refine va_putN (D := (dC, dI)) (ci := 3) (v := .int (((pf_147 q1).2.2.2.2) ||| ((pf_147 q2).2.2.2.2))) (ty := .int) (C := RX3) (T := TX3) (N := 5) hx hb hts (fun w h => List.mem_cons_of_mem _ (in_X3 w h)) tyX3 tyX3_ok nmX3 hown hK hP hD hS kp_154 hk_154 rfl 4 (by decide) (va_Nw.use rfl (hN _ nl_10)) (fun _ h9 => h9) rfl (tyX3_ok 4 (by decide)) rfl rfl (Nat.le_of_ble_eq_true rfl) d_Net_chain_139 (fun H locs hP9 hD9 hS => ?_)
            obtain ⟨pf_154, e_154⟩ : ∃ y, y = va_up pf_147 q1 ((pf_147 q1).1, (pf_147 q1).2.1, (pf_147 q1).2.2.1, (pf_147 q1).2.2.2.1, (((pf_147 q1).2.2.2.2) ||| ((pf_147 q2).2.2.2.2))) := ⟨_, rfl⟩
            replace hf := hf pf_154 e_154
            have hP9 := ptF_set (t9 := ((pf_147 q1).1, (pf_147 q1).2.1, (pf_147 q1).2.2.1, (pf_147 q1).2.2.2.1, (((pf_147 q1).2.2.2.2) ||| ((pf_147 q2).2.2.2.2)))) hD hm1 hk_154 hP9
            have hD9 := ptF_setD (t9 := ((pf_147 q1).1, (pf_147 q1).2.1, (pf_147 q1).2.2.1, (pf_147 q1).2.2.2.1, (((pf_147 q1).2.2.2.2) ||| ((pf_147 q2).2.2.2.2)))) hD hm1 hk_154 hD9
            rw [← e_154] at hP9 hD9
            have hP : va_P (dC, dI) clA (@HAppend.hAppend va_W va_W va_W _ [(a4, .inl ((cA 0), 30, .inl v_3.1)), (a5, .inl ((cA 0), 900, .inl v_3.2)), (a2, .inl ((cA 0), 30, .inl v_80)), (h0, .inr (1, [.int pos, .ref a1, .ref a2, .ref a3, .ref a4, .ref a5])), (a3, .inl ((cA 0), 30, .inl v_121))] (va_pl LP (ptF pf_154))) H := hP9
            have hD : va_D A (@HAppend.hAppend va_W va_W va_W _ [(a4, .inl ((cA 0), 30, .inl v_3.1)), (a5, .inl ((cA 0), 900, .inl v_3.2)), (a2, .inl ((cA 0), 30, .inl v_80)), (h0, .inr (1, [.int pos, .ref a1, .ref a2, .ref a3, .ref a4, .ref a5])), (a3, .inl ((cA 0), 30, .inl v_121))] (va_pl LP (ptF pf_154))) := hD9
            have hP9 := hP.part (cx := [(h0, .inr (1, [.int pos, .ref a1, .ref a2, .ref a3, .ref a4, .ref a5])), (a2, .inl ((cA 0), 30, .inl v_80)), (a3, .inl ((cA 0), 30, .inl v_121)), (a4, .inl ((cA 0), 30, .inl v_3.1)), (a5, .inl ((cA 0), 900, .inl v_3.2))]) [3, 2, 4, 0, 1] rfl
            have hD9 := hD.part (cx := [(h0, .inr (1, [.int pos, .ref a1, .ref a2, .ref a3, .ref a4, .ref a5])), (a2, .inl ((cA 0), 30, .inl v_80)), (a3, .inl ((cA 0), 30, .inl v_121)), (a4, .inl ((cA 0), 30, .inl v_3.1)), (a5, .inl ((cA 0), 900, .inl v_3.2))]) [3, 2, 4, 0, 1] (by decide) rfl
            refine W_end hQz ?_
            exact W.vret hx hb hr (fun t ht hW => ⟨⟨(v_80, v_121, v_3.1, v_3.2, pf_154), rfl, hf, P_cg ht.symm hP9, va_K.moved hW.alike hK, hD9⟩, hS.F ht⟩) hS.2.2 d_Net_chain_142 hlocks
def R_Net_repeat (p2 : Int32) (pos : Int32) (fa : Nat → Int32) (la : Nat → Int32) (q1 : Nat) (sp : Nat → Int32) (sa : Nat → Int32) (pf : Nat → PT) (out : (Nat → Int32) × (Nat → Int32) × (Nat → PT)) : Prop := ((p2 = 63) → (((p2 = 43) → (out = (sp, sa, pf))) ∧ (¬ (p2 = 43) → (∀ pf_4, pf_4 = va_up pf q1 ((pf q1).1, (pf q1).2.1, (pf q1).2.2.1, 1, (pf q1).2.2.2.2) → (out = (sp, sa, pf_4)))))) ∧ (¬ (p2 = 63) → (∃ v_8, R_Net_link ((pf q1).2.2.1) ((pf q1).2.1) pos fa la sp sa v_8 ∧ (((p2 = 43) → (out = (v_8.1, v_8.2, pf))) ∧ (¬ (p2 = 43) → (∀ pf_11, pf_11 = va_up pf q1 ((pf q1).1, (pf q1).2.1, (pf q1).2.2.1, 1, (pf q1).2.2.2.2) → (out = (v_8.1, v_8.2, pf_11)))))))
set_option maxHeartbeats 4000000 in
set_option maxRecDepth 100000 in
theorem c_Net_repeat (l : Launch) (dC : Nat → ClassId) (dI : Nat → Nat → Nat) (cA : Nat → ClassId) (h0 a2 a3 a4 a5 a1 q1 : Nat) (LP : List Nat) (hm1 : q1 ∈ LP) (sz : Nat) (p2 : Int32) (pos : Int32) (fa : Nat → Int32) (la : Nat → Int32) (sp : Nat → Int32) (sa : Nat → Int32) (pf : Nat → PT) (out : (Nat → Int32) × (Nat → Int32) × (Nat → PT)) (hR : R_Net_repeat p2 pos fa la q1 sp sa pf out) : Met l y_Net_repeat ws_Net_repeat ({ frames := 1, cells := 0, slots := 0, locals := 25 }) (va_Pc [.ref h0, .ref q1, .int p2] (fun U => U.heap.size = sz ∧ va_P (dC, dI) clA (@HAppend.hAppend va_W va_W va_W _ [(h0, .inr (1, [.int pos, .ref a1, .ref a2, .ref a3, .ref a4, .ref a5])), (a2, .inl ((cA 0), 30, .inl fa)), (a3, .inl ((cA 0), 30, .inl la)), (a4, .inl ((cA 0), 30, .inl sp)), (a5, .inl ((cA 0), 900, .inl sa))] (va_pl LP (ptF pf))) U.heap ∧ va_K (dC, dI) clA (tysA cA) U ∧ nW U ∧ va_D (fun _ => True) (@HAppend.hAppend va_W va_W va_W _ [(h0, .inr (1, [.int pos, .ref a1, .ref a2, .ref a3, .ref a4, .ref a5])), (a2, .inl ((cA 0), 30, .inl fa)), (a3, .inl ((cA 0), 30, .inl la)), (a4, .inl ((cA 0), 30, .inl sp)), (a5, .inl ((cA 0), 900, .inl sa))] (va_pl LP (ptF pf))))) (va_Qv (fun u : (Nat → Int32) × (Nat → Int32) × (Nat → PT) => out = u) (fun (u : (Nat → Int32) × (Nat → Int32) × (Nat → PT)) (t : State) => va_P (dC, dI) clA (@HAppend.hAppend va_W va_W va_W _ [(h0, .inr (1, [.int pos, .ref a1, .ref a2, .ref a3, .ref a4, .ref a5])), (a2, .inl ((cA 0), 30, .inl fa)), (a3, .inl ((cA 0), 30, .inl la)), (a4, .inl ((cA 0), 30, .inl u.1)), (a5, .inl ((cA 0), 900, .inl u.2.1))] (va_pl LP (ptF u.2.2))) t.heap ∧ va_K (dC, dI) clA (tysA cA) t ∧ va_D (va_A (@HAppend.hAppend va_W va_W va_W _ [(h0, .inr (1, [.int pos, .ref a1, .ref a2, .ref a3, .ref a4, .ref a5])), (a2, .inl ((cA 0), 30, .inl fa)), (a3, .inl ((cA 0), 30, .inl la)), (a4, .inl ((cA 0), 30, .inl sp)), (a5, .inl ((cA 0), 900, .inl sa))] (va_pl LP (ptF pf))) sz) (@HAppend.hAppend va_W va_W va_W _ [(h0, .inr (1, [.int pos, .ref a1, .ref a2, .ref a3, .ref a4, .ref a5])), (a2, .inl ((cA 0), 30, .inl fa)), (a3, .inl ((cA 0), 30, .inl la)), (a4, .inl ((cA 0), 30, .inl u.1)), (a5, .inl ((cA 0), 900, .inl u.2.1))] (va_pl LP (ptF u.2.2)))) (va_A (@HAppend.hAppend va_W va_W va_W _ [(h0, .inr (1, [.int pos, .ref a1, .ref a2, .ref a3, .ref a4, .ref a5])), (a2, .inl ((cA 0), 30, .inl fa)), (a3, .inl ((cA 0), 30, .inl la)), (a4, .inl ((cA 0), 30, .inl sp)), (a5, .inl ((cA 0), 900, .inl sa))] (va_pl LP (ptF pf))) sz)) 0 0 (va_A (@HAppend.hAppend va_W va_W va_W _ [(h0, .inr (1, [.int pos, .ref a1, .ref a2, .ref a3, .ref a4, .ref a5])), (a2, .inl ((cA 0), 30, .inl fa)), (a3, .inl ((cA 0), 30, .inl la)), (a4, .inl ((cA 0), 30, .inl sp)), (a5, .inl ((cA 0), 900, .inl sa))] (va_pl LP (ptF pf))) sz) := by
  refine Met.ofW (cc := b_Net_repeat) (maxL := 3) (ret := none) (by decide) rfl ?_
  intro p e s m args below meth c s₁ B hml hv
  obtain ⟨rfl, hsz, hP, hK, hN, hD0⟩ := hv
  have hx := B.exec
  have hb := B.bytes
  have hr := B.returns
  have hts := atoms_spec (ws := ws_Net_repeat) B.pre
  have hown : s.vm.findClass RX1 = some m.cls := findClass_of_methodNamed B.named
  have hlocks := B.notSynchronized
  subst hsz
  have hD := hD0.self (sz := s.heap.size)
  generalize hAe : va_A (@HAppend.hAppend va_W va_W va_W _ [(h0, .inr (1, [.int pos, .ref a1, .ref a2, .ref a3, .ref a4, .ref a5])), (a2, .inl ((cA 0), 30, .inl fa)), (a3, .inl ((cA 0), 30, .inl la)), (a4, .inl ((cA 0), 30, .inl sp)), (a5, .inl ((cA 0), 900, .inl sa))] (va_pl LP (ptF pf))) s.heap.size = A at hD ⊢
  have hA : ∀ q : Nat, s.heap.size ≤ q → A q := fun q h => by rw [← hAe]; exact Or.inr h
  have hS : va_S A s.heap s.heap [] := va_S.rf
  have hP : va_P (dC, dI) clA (@HAppend.hAppend va_W va_W va_W _ [(h0, .inr (1, [.int pos, .ref a1, .ref a2, .ref a3, .ref a4, .ref a5])), (a2, .inl ((cA 0), 30, .inl fa)), (a3, .inl ((cA 0), 30, .inl la)), (a4, .inl ((cA 0), 30, .inl sp)), (a5, .inl ((cA 0), 900, .inl sa))] (va_pl LP (ptF pf))) s.heap := hP
  have hl := lv_entry ([.ref h0, .ref q1, .int p2]) (n := 3) (Nat.le_of_ble_eq_true rfl)
  rw [lg_entry_eq]
  generalize (lg_sl ([.ref h0, .ref q1, .int p2]) ++ List.replicate (3 - (lg_sl ([.ref h0, .ref q1, .int p2])).length) Slot.unset).toArray = ls at hl ⊢
  have hl : lv_has ls 3 [(0, .ref h0), (1, .ref q1), (2, .int p2)] := hl
  refine W_gen (fun Qz hQz => ?_)
  have hf := hR
  unfold R_Net_repeat at hf
  refine lv_iload_n hx hb d_Net_repeat_0 rfl (lv_at hl 2 rfl) ?_
  refine lv_bipush (v := 63) hx hb d_Net_repeat_1 (by decide) ?_
  refine lv_icmp_eq (tgt := 18) hx hb d_Net_repeat_3 (by decide) (fun c_1 => ?_) (fun c_1 => ?_)
  · replace hf := hf.1 c_1
    refine lv_iload_n hx hb d_Net_repeat_18 rfl (lv_at hl 2 rfl) ?_
    refine lv_bipush (v := 43) hx hb d_Net_repeat_19 (by decide) ?_
    refine lv_icmp_eq (tgt := 29) hx hb d_Net_repeat_21 (by decide) (fun c_2 => ?_) (fun c_2 => ?_)
    · replace hf := hf.1 c_2
      have hP9 := hP.part (cx := [(h0, .inr (1, [.int pos, .ref a1, .ref a2, .ref a3, .ref a4, .ref a5])), (a2, .inl ((cA 0), 30, .inl fa)), (a3, .inl ((cA 0), 30, .inl la)), (a4, .inl ((cA 0), 30, .inl sp)), (a5, .inl ((cA 0), 900, .inl sa))]) [0, 1, 2, 3, 4] rfl
      have hD9 := hD.part (cx := [(h0, .inr (1, [.int pos, .ref a1, .ref a2, .ref a3, .ref a4, .ref a5])), (a2, .inl ((cA 0), 30, .inl fa)), (a3, .inl ((cA 0), 30, .inl la)), (a4, .inl ((cA 0), 30, .inl sp)), (a5, .inl ((cA 0), 900, .inl sa))]) [0, 1, 2, 3, 4] (by decide) rfl
      refine W_end hQz ?_
      exact W.vret hx hb hr (fun t ht hW => ⟨⟨(sp, sa, pf), rfl, hf, P_cg ht.symm hP9, va_K.moved hW.alike hK, hD9⟩, hS.F ht⟩) hS.2.2 d_Net_repeat_29 hlocks
    · replace hf := hf.2 c_2
      refine lv_aload_n hx hb d_Net_repeat_24 rfl (lv_at hl 1 rfl) ?_
      refine lv_iconst (v := 1) hx hb d_Net_repeat_25 (by decide) ?_
      obtain ⟨kp_4, hk_4⟩ := va_pl_get (X := [(h0, .inr (1, [.int pos, .ref a1, .ref a2, .ref a3, .ref a4, .ref a5])), (a2, .inl ((cA 0), 30, .inl fa)), (a3, .inl ((cA 0), 30, .inl la)), (a4, .inl ((cA 0), 30, .inl sp)), (a5, .inl ((cA 0), 900, .inl sa))]) (f := ptF pf) hm1
      refine va_putN (D := (dC, dI)) (ci := 3) (v := .int 1) (ty := .boolean) (C := RX3) (T := TX3) (N := 5) hx hb hts (fun w h => List.mem_cons_of_mem _ (in_X3 w h)) tyX3 tyX3_ok nmX3 hown hK hP hD hS kp_4 hk_4 rfl 3 (by decide) (va_Nw.use rfl (hN _ nl_8)) (fun _ h9 => h9) rfl (tyX3_ok 3 (by decide)) (by decide) (by decide) (Nat.le_of_ble_eq_true rfl) d_Net_repeat_26 (fun H locs hP9 hD9 hS => ?_)
      obtain ⟨pf_4, e_4⟩ : ∃ y, y = va_up pf q1 ((pf q1).1, (pf q1).2.1, (pf q1).2.2.1, 1, (pf q1).2.2.2.2) := ⟨_, rfl⟩
      replace hf := hf pf_4 e_4
      have hP9 := ptF_set (t9 := ((pf q1).1, (pf q1).2.1, (pf q1).2.2.1, 1, (pf q1).2.2.2.2)) hD hm1 hk_4 hP9
      have hD9 := ptF_setD (t9 := ((pf q1).1, (pf q1).2.1, (pf q1).2.2.1, 1, (pf q1).2.2.2.2)) hD hm1 hk_4 hD9
      rw [← e_4] at hP9 hD9
      have hP : va_P (dC, dI) clA (@HAppend.hAppend va_W va_W va_W _ [(h0, .inr (1, [.int pos, .ref a1, .ref a2, .ref a3, .ref a4, .ref a5])), (a2, .inl ((cA 0), 30, .inl fa)), (a3, .inl ((cA 0), 30, .inl la)), (a4, .inl ((cA 0), 30, .inl sp)), (a5, .inl ((cA 0), 900, .inl sa))] (va_pl LP (ptF pf_4))) H := hP9
      have hD : va_D A (@HAppend.hAppend va_W va_W va_W _ [(h0, .inr (1, [.int pos, .ref a1, .ref a2, .ref a3, .ref a4, .ref a5])), (a2, .inl ((cA 0), 30, .inl fa)), (a3, .inl ((cA 0), 30, .inl la)), (a4, .inl ((cA 0), 30, .inl sp)), (a5, .inl ((cA 0), 900, .inl sa))] (va_pl LP (ptF pf_4))) := hD9
      have hP9 := hP.part (cx := [(h0, .inr (1, [.int pos, .ref a1, .ref a2, .ref a3, .ref a4, .ref a5])), (a2, .inl ((cA 0), 30, .inl fa)), (a3, .inl ((cA 0), 30, .inl la)), (a4, .inl ((cA 0), 30, .inl sp)), (a5, .inl ((cA 0), 900, .inl sa))]) [0, 1, 2, 3, 4] rfl
      have hD9 := hD.part (cx := [(h0, .inr (1, [.int pos, .ref a1, .ref a2, .ref a3, .ref a4, .ref a5])), (a2, .inl ((cA 0), 30, .inl fa)), (a3, .inl ((cA 0), 30, .inl la)), (a4, .inl ((cA 0), 30, .inl sp)), (a5, .inl ((cA 0), 900, .inl sa))]) [0, 1, 2, 3, 4] (by decide) rfl
      refine W_end hQz ?_
      exact W.vret hx hb hr (fun t ht hW => ⟨⟨(sp, sa, pf_4), rfl, hf, P_cg ht.symm hP9, va_K.moved hW.alike hK, hD9⟩, hS.F ht⟩) hS.2.2 d_Net_repeat_29 hlocks
  · replace hf := hf.2 c_1
    refine lv_aload_n hx hb d_Net_repeat_6 rfl (lv_at hl 0 rfl) ?_
    refine lv_aload_n hx hb d_Net_repeat_7 rfl (lv_at hl 1 rfl) ?_
    obtain ⟨kp_6, hk_6⟩ := va_pl_get (X := [(h0, .inr (1, [.int pos, .ref a1, .ref a2, .ref a3, .ref a4, .ref a5])), (a2, .inl ((cA 0), 30, .inl fa)), (a3, .inl ((cA 0), 30, .inl la)), (a4, .inl ((cA 0), 30, .inl sp)), (a5, .inl ((cA 0), 900, .inl sa))]) (f := ptF pf) hm1
    refine va_getN (D := (dC, dI)) (ci := 3) (v := .int ((pf q1).2.2.1)) (C := RX3) (T := TX3) (N := 5) hx hb hts (fun w h => List.mem_cons_of_mem _ (in_X3 w h)) hown hK hP kp_6 hk_6 rfl 2 (by decide) (va_Nw.use rfl (hN _ nl_6)) (fun _ h9 => h9) rfl d_Net_repeat_8 ?_
    refine lv_aload_n hx hb d_Net_repeat_11 rfl (lv_at hl 1 rfl) ?_
    obtain ⟨kp_7, hk_7⟩ := va_pl_get (X := [(h0, .inr (1, [.int pos, .ref a1, .ref a2, .ref a3, .ref a4, .ref a5])), (a2, .inl ((cA 0), 30, .inl fa)), (a3, .inl ((cA 0), 30, .inl la)), (a4, .inl ((cA 0), 30, .inl sp)), (a5, .inl ((cA 0), 900, .inl sa))]) (f := ptF pf) hm1
    refine va_getN (D := (dC, dI)) (ci := 3) (v := .int ((pf q1).2.1)) (C := RX3) (T := TX3) (N := 5) hx hb hts (fun w h => List.mem_cons_of_mem _ (in_X3 w h)) hown hK hP kp_7 hk_7 rfl 1 (by decide) (va_Nw.use rfl (hN _ nl_4)) (fun _ h9 => h9) rfl d_Net_repeat_12 ?_
    obtain ⟨v_8, hv_8, hf⟩ := hf
    have hPc := hP.sub (ws' := [(h0, .inr (1, [.int pos, .ref a1, .ref a2, .ref a3, .ref a4, .ref a5])), (a2, .inl ((cA 0), 30, .inl fa)), (a3, .inl ((cA 0), 30, .inl la)), (a4, .inl ((cA 0), 30, .inl sp)), (a5, .inl ((cA 0), 900, .inl sa))]) [0, 1, 2, 3, 4] rfl
    have hDc := hD.sub (ws' := [(h0, .inr (1, [.int pos, .ref a1, .ref a2, .ref a3, .ref a4, .ref a5])), (a2, .inl ((cA 0), 30, .inl fa)), (a3, .inl ((cA 0), 30, .inl la)), (a4, .inl ((cA 0), 30, .inl sp)), (a5, .inl ((cA 0), 900, .inl sa))]) [0, 1, 2, 3, 4] (by decide) rfl
    have hFc := va_free (wc := [(h0, .inr (1, [.int pos, .ref a1, .ref a2, .ref a3, .ref a4, .ref a5])), (a2, .inl ((cA 0), 30, .inl fa)), (a3, .inl ((cA 0), 30, .inl la)), (a4, .inl ((cA 0), 30, .inl sp)), (a5, .inl ((cA 0), 900, .inl sa))]) hD hS hA [0, 1, 2, 3, 4] rfl
    refine va_callv (va_runV (As := [.int ((pf q1).2.2.1), .int ((pf q1).2.1)]) (rest := []) ⟨hx, hb, hml, hown, hts⟩ (c_Net_link l dC dI cA h0 a2 a3 a4 a5 a1 s.heap.size ((pf q1).2.2.1) ((pf q1).2.1) pos fa la sp sa v_8 hv_8) (cwV 2 hts (gV9 k_714 k_716 k_10 k_51 k_717) rfl rfl rfl hv_Net_link ⟨Nat.le_of_ble_eq_true rfl, Nat.le_of_ble_eq_true rfl⟩) ⟨fun a U g mk q => by obtain ⟨q0, q1, qP, qK, qN, qD⟩ := q; exact ⟨q0, q1, qP, va_K.moved (u := U) (U := U.calling g mk a) (Vm.Alike.refl U.vm) qK, nW_same (u := U) (U := U.calling g mk a) rfl qN, qD⟩, va_recv hK hPc (ci := 1) (q0 := 0) rfl rfl, fun U hU hW => ⟨rfl, congrArg _ hU, P_cg hU.symm hPc, va_K.moved hW.alike hK, nW_warm hW hN, hDc.weaken (fun _ _ _ _ => trivial)⟩⟩ rfl rfl hl.1 rfl (lv_room (Nat.le_of_ble_eq_true rfl)) d_Net_repeat_15 ⟨Nat.zero_le _, Nat.zero_le _⟩) hS (fun q _ h => hFc q h) hFc (fun u t H locs ht hvm hw hB hz1 hk1 hS => ?_)
    subst hw
    obtain ⟨hP1, hK1, hD1⟩ := hB
    replace hP1 := P_cg ht hP1
    obtain ⟨hP, hD⟩ := va_joinQ (cx := [(h0, .inr (1, [.int pos, .ref a1, .ref a2, .ref a3, .ref a4, .ref a5])), (a2, .inl ((cA 0), 30, .inl fa)), (a3, .inl ((cA 0), 30, .inl la)), (a4, .inl ((cA 0), 30, .inl sp)), (a5, .inl ((cA 0), 900, .inl sa))]) (wr := []) (w1 := [(h0, .inr (1, [.int pos, .ref a1, .ref a2, .ref a3, .ref a4, .ref a5])), (a2, .inl ((cA 0), 30, .inl fa)), (a3, .inl ((cA 0), 30, .inl la)), (a4, .inl ((cA 0), 30, .inl v_8.1)), (a5, .inl ((cA 0), 900, .inl v_8.2))]) hP hD [0, 1, 2, 3, 4] [] rfl rfl (by decide) (by decide) hk1 hFc hP1 hD1
    have hP : va_P (dC, dI) clA (@HAppend.hAppend va_W va_W va_W _ [(h0, .inr (1, [.int pos, .ref a1, .ref a2, .ref a3, .ref a4, .ref a5])), (a2, .inl ((cA 0), 30, .inl fa)), (a3, .inl ((cA 0), 30, .inl la)), (a4, .inl ((cA 0), 30, .inl v_8.1)), (a5, .inl ((cA 0), 900, .inl v_8.2))] (va_pl LP (ptF pf))) H := hP
    have hD : va_D A (@HAppend.hAppend va_W va_W va_W _ [(h0, .inr (1, [.int pos, .ref a1, .ref a2, .ref a3, .ref a4, .ref a5])), (a2, .inl ((cA 0), 30, .inl fa)), (a3, .inl ((cA 0), 30, .inl la)), (a4, .inl ((cA 0), 30, .inl v_8.1)), (a5, .inl ((cA 0), 900, .inl v_8.2))] (va_pl LP (ptF pf))) := hD
    refine lv_iload_n hx hb d_Net_repeat_18 rfl (lv_at hl 2 rfl) ?_
    refine lv_bipush (v := 43) hx hb d_Net_repeat_19 (by decide) ?_
    refine lv_icmp_eq (tgt := 29) hx hb d_Net_repeat_21 (by decide) (fun c_9 => ?_) (fun c_9 => ?_)
    · replace hf := hf.1 c_9
      have hP9 := hP.part (cx := [(h0, .inr (1, [.int pos, .ref a1, .ref a2, .ref a3, .ref a4, .ref a5])), (a2, .inl ((cA 0), 30, .inl fa)), (a3, .inl ((cA 0), 30, .inl la)), (a4, .inl ((cA 0), 30, .inl v_8.1)), (a5, .inl ((cA 0), 900, .inl v_8.2))]) [0, 1, 2, 3, 4] rfl
      have hD9 := hD.part (cx := [(h0, .inr (1, [.int pos, .ref a1, .ref a2, .ref a3, .ref a4, .ref a5])), (a2, .inl ((cA 0), 30, .inl fa)), (a3, .inl ((cA 0), 30, .inl la)), (a4, .inl ((cA 0), 30, .inl v_8.1)), (a5, .inl ((cA 0), 900, .inl v_8.2))]) [0, 1, 2, 3, 4] (by decide) rfl
      refine W_end hQz ?_
      exact W.vret hx hb hr (fun t ht hW => ⟨⟨(v_8.1, v_8.2, pf), rfl, hf, P_cg ht.symm hP9, va_K.moved hW.alike hK, hD9⟩, hS.F ht⟩) hS.2.2 d_Net_repeat_29 hlocks
    · replace hf := hf.2 c_9
      refine lv_aload_n hx hb d_Net_repeat_24 rfl (lv_at hl 1 rfl) ?_
      refine lv_iconst (v := 1) hx hb d_Net_repeat_25 (by decide) ?_
      obtain ⟨kp_11, hk_11⟩ := va_pl_get (X := [(h0, .inr (1, [.int pos, .ref a1, .ref a2, .ref a3, .ref a4, .ref a5])), (a2, .inl ((cA 0), 30, .inl fa)), (a3, .inl ((cA 0), 30, .inl la)), (a4, .inl ((cA 0), 30, .inl v_8.1)), (a5, .inl ((cA 0), 900, .inl v_8.2))]) (f := ptF pf) hm1
      refine va_putN (D := (dC, dI)) (ci := 3) (v := .int 1) (ty := .boolean) (C := RX3) (T := TX3) (N := 5) hx hb hts (fun w h => List.mem_cons_of_mem _ (in_X3 w h)) tyX3 tyX3_ok nmX3 hown hK hP hD hS kp_11 hk_11 rfl 3 (by decide) (va_Nw.use rfl (hN _ nl_8)) (fun _ h9 => h9) rfl (tyX3_ok 3 (by decide)) (by decide) (by decide) (Nat.le_of_ble_eq_true rfl) d_Net_repeat_26 (fun H locs hP9 hD9 hS => ?_)
      obtain ⟨pf_11, e_11⟩ : ∃ y, y = va_up pf q1 ((pf q1).1, (pf q1).2.1, (pf q1).2.2.1, 1, (pf q1).2.2.2.2) := ⟨_, rfl⟩
      replace hf := hf pf_11 e_11
      have hP9 := ptF_set (t9 := ((pf q1).1, (pf q1).2.1, (pf q1).2.2.1, 1, (pf q1).2.2.2.2)) hD hm1 hk_11 hP9
      have hD9 := ptF_setD (t9 := ((pf q1).1, (pf q1).2.1, (pf q1).2.2.1, 1, (pf q1).2.2.2.2)) hD hm1 hk_11 hD9
      rw [← e_11] at hP9 hD9
      have hP : va_P (dC, dI) clA (@HAppend.hAppend va_W va_W va_W _ [(h0, .inr (1, [.int pos, .ref a1, .ref a2, .ref a3, .ref a4, .ref a5])), (a2, .inl ((cA 0), 30, .inl fa)), (a3, .inl ((cA 0), 30, .inl la)), (a4, .inl ((cA 0), 30, .inl v_8.1)), (a5, .inl ((cA 0), 900, .inl v_8.2))] (va_pl LP (ptF pf_11))) H := hP9
      have hD : va_D A (@HAppend.hAppend va_W va_W va_W _ [(h0, .inr (1, [.int pos, .ref a1, .ref a2, .ref a3, .ref a4, .ref a5])), (a2, .inl ((cA 0), 30, .inl fa)), (a3, .inl ((cA 0), 30, .inl la)), (a4, .inl ((cA 0), 30, .inl v_8.1)), (a5, .inl ((cA 0), 900, .inl v_8.2))] (va_pl LP (ptF pf_11))) := hD9
      have hP9 := hP.part (cx := [(h0, .inr (1, [.int pos, .ref a1, .ref a2, .ref a3, .ref a4, .ref a5])), (a2, .inl ((cA 0), 30, .inl fa)), (a3, .inl ((cA 0), 30, .inl la)), (a4, .inl ((cA 0), 30, .inl v_8.1)), (a5, .inl ((cA 0), 900, .inl v_8.2))]) [0, 1, 2, 3, 4] rfl
      have hD9 := hD.part (cx := [(h0, .inr (1, [.int pos, .ref a1, .ref a2, .ref a3, .ref a4, .ref a5])), (a2, .inl ((cA 0), 30, .inl fa)), (a3, .inl ((cA 0), 30, .inl la)), (a4, .inl ((cA 0), 30, .inl v_8.1)), (a5, .inl ((cA 0), 900, .inl v_8.2))]) [0, 1, 2, 3, 4] (by decide) rfl
      refine W_end hQz ?_
      exact W.vret hx hb hr (fun t ht hW => ⟨⟨(v_8.1, v_8.2, pf_11), rfl, hf, P_cg ht.symm hP9, va_K.moved hW.alike hK, hD9⟩, hS.F ht⟩) hS.2.2 d_Net_repeat_29 hlocks
def R_Net_act (p2 : Int32) (p3 : Int32) (pos : Int32) (sp : Nat → Int32) (q1 : Nat) (fa : Nat → Int32) (la : Nat → Int32) (sa : Nat → Int32) (pf : Nat → PT) (out : (Nat → Int32) × (Nat → Int32) × (Nat → Int32) × (Nat → PT)) : Prop := ((¬ p2 = 62) → (((¬ p2 = 64) → (((¬ p2 = 36) → (∃ v_5, R_Net_give ((pf q1).2.2.1) (1 <<< (p3 &&& 31)) pos la v_5 ∧ (((((pf q1).2.2.2.1) = 0) → (∀ pf_9, pf_9 = va_up pf q1 ((pf q1).1, (pf q1).2.1, (pf q1).2.2.1, (pf q1).2.2.2.1, (((pf q1).2.2.2.2) ||| 0)) → (out = (fa, v_5, sa, pf_9)))) ∧ (¬ (((pf q1).2.2.2.1) = 0) → (∀ pf_11, pf_11 = va_up pf q1 ((pf q1).1, (pf q1).2.1, (pf q1).2.2.1, (pf q1).2.2.2.1, (((pf q1).2.2.2.2) ||| (1 <<< (p3 &&& 31)))) → (out = (fa, v_5, sa, pf_11))))))) ∧ ((p2 = 36) → (∃ v_14, R_Net_give ((pf q1).2.1) (1 <<< (p3 &&& 31)) pos fa v_14 ∧ (∃ v_16, R_Net_giveSteps ((pf q1).1) (-1) (1 <<< (p3 &&& 31)) pos sp sa v_16 ∧ (out = (v_14, la, v_16, pf))))))) ∧ ((p2 = 64) → (∃ v_20, R_Net_give (((pf q1).2.1) &&& ((pf q1).2.2.1)) (1 <<< (p3 &&& 31)) pos fa v_20 ∧ (∃ v_23, R_Net_giveSteps ((pf q1).1) ((pf q1).2.2.1) (1 <<< (p3 &&& 31)) pos sp sa v_23 ∧ (out = (v_20, la, v_23, pf))))))) ∧ ((p2 = 62) → (∃ v_26, R_Net_give ((pf q1).2.1) (1 <<< (p3 &&& 31)) pos fa v_26 ∧ (out = (v_26, la, sa, pf))))
set_option maxHeartbeats 4000000 in
set_option maxRecDepth 100000 in
theorem c_Net_act (l : Launch) (dC : Nat → ClassId) (dI : Nat → Nat → Nat) (cA : Nat → ClassId) (h0 a2 a3 a4 a5 a1 q1 : Nat) (LP : List Nat) (hm1 : q1 ∈ LP) (sz : Nat) (p2 : Int32) (p3 : Int32) (pos : Int32) (sp : Nat → Int32) (fa : Nat → Int32) (la : Nat → Int32) (sa : Nat → Int32) (pf : Nat → PT) (out : (Nat → Int32) × (Nat → Int32) × (Nat → Int32) × (Nat → PT)) (hR : R_Net_act p2 p3 pos sp q1 fa la sa pf out) : Met l y_Net_act ws_Net_act ({ frames := 1, cells := 0, slots := 0, locals := 26 }) (va_Pc [.ref h0, .ref q1, .int p2, .int p3] (fun U => U.heap.size = sz ∧ va_P (dC, dI) clA (@HAppend.hAppend va_W va_W va_W _ [(h0, .inr (1, [.int pos, .ref a1, .ref a2, .ref a3, .ref a4, .ref a5])), (a2, .inl ((cA 0), 30, .inl fa)), (a3, .inl ((cA 0), 30, .inl la)), (a4, .inl ((cA 0), 30, .inl sp)), (a5, .inl ((cA 0), 900, .inl sa))] (va_pl LP (ptF pf))) U.heap ∧ va_K (dC, dI) clA (tysA cA) U ∧ nW U ∧ va_D (fun _ => True) (@HAppend.hAppend va_W va_W va_W _ [(h0, .inr (1, [.int pos, .ref a1, .ref a2, .ref a3, .ref a4, .ref a5])), (a2, .inl ((cA 0), 30, .inl fa)), (a3, .inl ((cA 0), 30, .inl la)), (a4, .inl ((cA 0), 30, .inl sp)), (a5, .inl ((cA 0), 900, .inl sa))] (va_pl LP (ptF pf))))) (va_Qv (fun u : (Nat → Int32) × (Nat → Int32) × (Nat → Int32) × (Nat → PT) => out = u) (fun (u : (Nat → Int32) × (Nat → Int32) × (Nat → Int32) × (Nat → PT)) (t : State) => va_P (dC, dI) clA (@HAppend.hAppend va_W va_W va_W _ [(h0, .inr (1, [.int pos, .ref a1, .ref a2, .ref a3, .ref a4, .ref a5])), (a2, .inl ((cA 0), 30, .inl u.1)), (a3, .inl ((cA 0), 30, .inl u.2.1)), (a4, .inl ((cA 0), 30, .inl sp)), (a5, .inl ((cA 0), 900, .inl u.2.2.1))] (va_pl LP (ptF u.2.2.2))) t.heap ∧ va_K (dC, dI) clA (tysA cA) t ∧ va_D (va_A (@HAppend.hAppend va_W va_W va_W _ [(h0, .inr (1, [.int pos, .ref a1, .ref a2, .ref a3, .ref a4, .ref a5])), (a2, .inl ((cA 0), 30, .inl fa)), (a3, .inl ((cA 0), 30, .inl la)), (a4, .inl ((cA 0), 30, .inl sp)), (a5, .inl ((cA 0), 900, .inl sa))] (va_pl LP (ptF pf))) sz) (@HAppend.hAppend va_W va_W va_W _ [(h0, .inr (1, [.int pos, .ref a1, .ref a2, .ref a3, .ref a4, .ref a5])), (a2, .inl ((cA 0), 30, .inl u.1)), (a3, .inl ((cA 0), 30, .inl u.2.1)), (a4, .inl ((cA 0), 30, .inl sp)), (a5, .inl ((cA 0), 900, .inl u.2.2.1))] (va_pl LP (ptF u.2.2.2)))) (va_A (@HAppend.hAppend va_W va_W va_W _ [(h0, .inr (1, [.int pos, .ref a1, .ref a2, .ref a3, .ref a4, .ref a5])), (a2, .inl ((cA 0), 30, .inl fa)), (a3, .inl ((cA 0), 30, .inl la)), (a4, .inl ((cA 0), 30, .inl sp)), (a5, .inl ((cA 0), 900, .inl sa))] (va_pl LP (ptF pf))) sz)) 0 0 (va_A (@HAppend.hAppend va_W va_W va_W _ [(h0, .inr (1, [.int pos, .ref a1, .ref a2, .ref a3, .ref a4, .ref a5])), (a2, .inl ((cA 0), 30, .inl fa)), (a3, .inl ((cA 0), 30, .inl la)), (a4, .inl ((cA 0), 30, .inl sp)), (a5, .inl ((cA 0), 900, .inl sa))] (va_pl LP (ptF pf))) sz) := by
  refine Met.ofW (cc := b_Net_act) (maxL := 5) (ret := none) (by decide) rfl ?_
  intro p e s m args below meth c s₁ B hml hv
  obtain ⟨rfl, hsz, hP, hK, hN, hD0⟩ := hv
  have hx := B.exec
  have hb := B.bytes
  have hr := B.returns
  have hts := atoms_spec (ws := ws_Net_act) B.pre
  have hown : s.vm.findClass RX1 = some m.cls := findClass_of_methodNamed B.named
  have hlocks := B.notSynchronized
  subst hsz
  have hD := hD0.self (sz := s.heap.size)
  generalize hAe : va_A (@HAppend.hAppend va_W va_W va_W _ [(h0, .inr (1, [.int pos, .ref a1, .ref a2, .ref a3, .ref a4, .ref a5])), (a2, .inl ((cA 0), 30, .inl fa)), (a3, .inl ((cA 0), 30, .inl la)), (a4, .inl ((cA 0), 30, .inl sp)), (a5, .inl ((cA 0), 900, .inl sa))] (va_pl LP (ptF pf))) s.heap.size = A at hD ⊢
  have hA : ∀ q : Nat, s.heap.size ≤ q → A q := fun q h => by rw [← hAe]; exact Or.inr h
  have hS : va_S A s.heap s.heap [] := va_S.rf
  have hP : va_P (dC, dI) clA (@HAppend.hAppend va_W va_W va_W _ [(h0, .inr (1, [.int pos, .ref a1, .ref a2, .ref a3, .ref a4, .ref a5])), (a2, .inl ((cA 0), 30, .inl fa)), (a3, .inl ((cA 0), 30, .inl la)), (a4, .inl ((cA 0), 30, .inl sp)), (a5, .inl ((cA 0), 900, .inl sa))] (va_pl LP (ptF pf))) s.heap := hP
  have hl := lv_entry ([.ref h0, .ref q1, .int p2, .int p3]) (n := 5) (Nat.le_of_ble_eq_true rfl)
  rw [lg_entry_eq]
  generalize (lg_sl ([.ref h0, .ref q1, .int p2, .int p3]) ++ List.replicate (5 - (lg_sl ([.ref h0, .ref q1, .int p2, .int p3])).length) Slot.unset).toArray = ls at hl ⊢
  have hl : lv_has ls 5 [(0, .ref h0), (1, .ref q1), (2, .int p2), (3, .int p3)] := hl
  refine W_gen (fun Qz hQz => ?_)
  have hf := hR
  unfold R_Net_act at hf
  refine lv_iconst (v := 1) hx hb d_Net_act_0 (by decide) ?_
  refine lv_iload_n hx hb d_Net_act_1 rfl (lv_at hl 3 rfl) ?_
  refine lv_ishl hx hb d_Net_act_2 ?_
  refine lv_istore (lv' := [(4, .int (1 <<< (p3 &&& 31))), (0, .ref h0), (1, .ref q1), (2, .int p2), (3, .int p3)]) hx hb d_Net_act_3 hl (by decide) rfl (fun ls hl => ?_)
  refine lv_iload_n hx hb d_Net_act_5 rfl (lv_at hl 3 rfl) ?_
  refine lv_bipush (v := 62) hx hb d_Net_act_6 (by decide) ?_
  refine lv_icmp_ne (tgt := 28) hx hb d_Net_act_8 (by decide) (fun c_1 => ?_) (fun c_1 => ?_)
  · replace hf := hf.1 c_1
    refine lv_iload_n hx hb d_Net_act_28 rfl (lv_at hl 3 rfl) ?_
    refine lv_bipush (v := 64) hx hb d_Net_act_29 (by decide) ?_
    refine lv_icmp_ne (tgt := 70) hx hb d_Net_act_31 (by decide) (fun c_2 => ?_) (fun c_2 => ?_)
    · replace hf := hf.1 c_2
      refine lv_iload_n hx hb d_Net_act_70 rfl (lv_at hl 3 rfl) ?_
      refine lv_bipush (v := 36) hx hb d_Net_act_71 (by decide) ?_
      refine lv_icmp_ne (tgt := 104) hx hb d_Net_act_73 (by decide) (fun c_3 => ?_) (fun c_3 => ?_)
      · replace hf := hf.1 c_3
        refine lv_aload_n hx hb d_Net_act_104 rfl (lv_at hl 1 rfl) ?_
        refine lv_aload_n hx hb d_Net_act_105 rfl (lv_at hl 1 rfl) ?_
        refine va_get (D := (dC, dI)) (ci := 1) (v := .ref a3) (C := RX1) (T := TX1) (N := 6) hx hb hts (fun w h => List.mem_cons_of_mem _ (in_X1 w h)) hown hK hP 0 rfl rfl 3 (by decide) (hts _ (List.mem_cons_of_mem _ k_99)) (fun _ h9 => h9) rfl d_Net_act_106 ?_
        refine lv_aload_n hx hb d_Net_act_109 rfl (lv_at hl 2 rfl) ?_
        obtain ⟨kp_4, hk_4⟩ := va_pl_get (X := [(h0, .inr (1, [.int pos, .ref a1, .ref a2, .ref a3, .ref a4, .ref a5])), (a2, .inl ((cA 0), 30, .inl fa)), (a3, .inl ((cA 0), 30, .inl la)), (a4, .inl ((cA 0), 30, .inl sp)), (a5, .inl ((cA 0), 900, .inl sa))]) (f := ptF pf) hm1
        refine va_getN (D := (dC, dI)) (ci := 3) (v := .int ((pf q1).2.2.1)) (C := RX3) (T := TX3) (N := 5) hx hb hts (fun w h => List.mem_cons_of_mem _ (in_X3 w h)) hown hK hP kp_4 hk_4 rfl 2 (by decide) (va_Nw.use rfl (hN _ nl_6)) (fun _ h9 => h9) rfl d_Net_act_110 ?_
        refine lv_iload hx hb d_Net_act_113 (lv_at hl 0 rfl) ?_
        obtain ⟨v_5, hv_5, hf⟩ := hf
        have hPc := hP.sub (ws' := [(h0, .inr (1, [.int pos, .ref a1, .ref a2, .ref a3, .ref a4, .ref a5])), (a3, .inl ((cA 0), 30, .inl la))]) [0, 2] rfl
        have hDc := hD.sub (ws' := [(h0, .inr (1, [.int pos, .ref a1, .ref a2, .ref a3, .ref a4, .ref a5])), (a3, .inl ((cA 0), 30, .inl la))]) [0, 2] (by decide) rfl
        have hFc := va_free (wc := [(h0, .inr (1, [.int pos, .ref a1, .ref a2, .ref a3, .ref a4, .ref a5])), (a3, .inl ((cA 0), 30, .inl la))]) hD hS hA [0, 2] rfl
        refine va_callv (va_runV (As := [.ref a3, .int ((pf q1).2.2.1), .int (1 <<< (p3 &&& 31))]) (rest := []) ⟨hx, hb, hml, hown, hts⟩ (c_Net_give l dC dI cA h0 a3 a1 a2 a3 a4 a5 s.heap.size ((pf q1).2.2.1) (1 <<< (p3 &&& 31)) pos la v_5 hv_5) (cwV 3 hts (gV9 k_726 k_728 k_12 k_51 k_729) rfl rfl rfl hv_Net_give ⟨Nat.le_of_ble_eq_true rfl, Nat.le_of_ble_eq_true rfl⟩) ⟨fun a U g mk q => by obtain ⟨q0, q1, qP, qK, qN, qD⟩ := q; exact ⟨q0, q1, qP, va_K.moved (u := U) (U := U.calling g mk a) (Vm.Alike.refl U.vm) qK, nW_same (u := U) (U := U.calling g mk a) rfl qN, qD⟩, va_recv hK hPc (ci := 1) (q0 := 0) rfl rfl, fun U hU hW => ⟨rfl, congrArg _ hU, P_cg hU.symm hPc, va_K.moved hW.alike hK, nW_warm hW hN, hDc.weaken (fun _ _ _ _ => trivial)⟩⟩ rfl rfl hl.1 rfl (lv_room (Nat.le_of_ble_eq_true rfl)) d_Net_act_115 ⟨Nat.zero_le _, Nat.zero_le _⟩) hS (fun q _ h => hFc q h) hFc (fun u t H locs ht hvm hw hB hz1 hk1 hS => ?_)
        subst hw
        obtain ⟨hP1, hK1, hD1⟩ := hB
        replace hP1 := P_cg ht hP1
        obtain ⟨hP, hD⟩ := va_joinQ (cx := [(h0, .inr (1, [.int pos, .ref a1, .ref a2, .ref a3, .ref a4, .ref a5])), (a3, .inl ((cA 0), 30, .inl la))]) (wr := [(a2, .inl ((cA 0), 30, .inl fa)), (a4, .inl ((cA 0), 30, .inl sp)), (a5, .inl ((cA 0), 900, .inl sa))]) (w1 := [(h0, .inr (1, [.int pos, .ref a1, .ref a2, .ref a3, .ref a4, .ref a5])), (a3, .inl ((cA 0), 30, .inl v_5))]) hP hD [0, 2] [1, 3, 4] rfl rfl (by decide) (by decide) hk1 hFc hP1 hD1
        have hP : va_P (dC, dI) clA (@HAppend.hAppend va_W va_W va_W _ [(a2, .inl ((cA 0), 30, .inl fa)), (a4, .inl ((cA 0), 30, .inl sp)), (a5, .inl ((cA 0), 900, .inl sa)), (h0, .inr (1, [.int pos, .ref a1, .ref a2, .ref a3, .ref a4, .ref a5])), (a3, .inl ((cA 0), 30, .inl v_5))] (va_pl LP (ptF pf))) H := hP
        have hD : va_D A (@HAppend.hAppend va_W va_W va_W _ [(a2, .inl ((cA 0), 30, .inl fa)), (a4, .inl ((cA 0), 30, .inl sp)), (a5, .inl ((cA 0), 900, .inl sa)), (h0, .inr (1, [.int pos, .ref a1, .ref a2, .ref a3, .ref a4, .ref a5])), (a3, .inl ((cA 0), 30, .inl v_5))] (va_pl LP (ptF pf))) := hD
        refine lv_aload_n hx hb d_Net_act_118 rfl (lv_at hl 2 rfl) ?_
        refine lv_dup hx hb d_Net_act_119 rfl ?_
        obtain ⟨kp_6, hk_6⟩ := va_pl_get (X := [(a2, .inl ((cA 0), 30, .inl fa)), (a4, .inl ((cA 0), 30, .inl sp)), (a5, .inl ((cA 0), 900, .inl sa)), (h0, .inr (1, [.int pos, .ref a1, .ref a2, .ref a3, .ref a4, .ref a5])), (a3, .inl ((cA 0), 30, .inl v_5))]) (f := ptF pf) hm1
        refine va_getN (D := (dC, dI)) (ci := 3) (v := .int ((pf q1).2.2.2.2)) (C := RX3) (T := TX3) (N := 5) hx hb hts (fun w h => List.mem_cons_of_mem _ (in_X3 w h)) hown hK hP kp_6 hk_6 rfl 4 (by decide) (va_Nw.use rfl (hN _ nl_10)) (fun _ h9 => h9) rfl d_Net_act_120 ?_
        refine lv_aload_n hx hb d_Net_act_123 rfl (lv_at hl 2 rfl) ?_
        obtain ⟨kp_7, hk_7⟩ := va_pl_get (X := [(a2, .inl ((cA 0), 30, .inl fa)), (a4, .inl ((cA 0), 30, .inl sp)), (a5, .inl ((cA 0), 900, .inl sa)), (h0, .inr (1, [.int pos, .ref a1, .ref a2, .ref a3, .ref a4, .ref a5])), (a3, .inl ((cA 0), 30, .inl v_5))]) (f := ptF pf) hm1
        refine va_getN (D := (dC, dI)) (ci := 3) (v := .int ((pf q1).2.2.2.1)) (C := RX3) (T := TX3) (N := 5) hx hb hts (fun w h => List.mem_cons_of_mem _ (in_X3 w h)) hown hK hP kp_7 hk_7 rfl 3 (by decide) (va_Nw.use rfl (hN _ nl_8)) (fun _ h9 => h9) rfl d_Net_act_124 ?_
        refine lv_if_eq (tgt := 135) hx hb d_Net_act_127 (by decide) (fun c_8 => ?_) (fun c_8 => ?_)
        · replace hf := hf.1 c_8
          refine lv_iconst (v := 0) hx hb d_Net_act_135 (by decide) ?_
          refine lv_ior hx hb d_Net_act_136 ?_
          obtain ⟨kp_9, hk_9⟩ := va_pl_get (X := [(a2, .inl ((cA 0), 30, .inl fa)), (a4, .inl ((cA 0), 30, .inl sp)), (a5, .inl ((cA 0), 900, .inl sa)), (h0, .inr (1, [.int pos, .ref a1, .ref a2, .ref a3, .ref a4, .ref a5])), (a3, .inl ((cA 0), 30, .inl v_5))]) (f := ptF pf) hm1
          refine va_putN (D := (dC, dI)) (ci := 3) (v := .int (((pf q1).2.2.2.2) ||| 0)) (ty := .int) (C := RX3) (T := TX3) (N := 5) hx hb hts (fun w h => List.mem_cons_of_mem _ (in_X3 w h)) tyX3 tyX3_ok nmX3 hown hK hP hD hS kp_9 hk_9 rfl 4 (by decide) (va_Nw.use rfl (hN _ nl_10)) (fun _ h9 => h9) rfl (tyX3_ok 4 (by decide)) rfl rfl (Nat.le_of_ble_eq_true rfl) d_Net_act_137 (fun H locs hP9 hD9 hS => ?_)
          obtain ⟨pf_9, e_9⟩ : ∃ y, y = va_up pf q1 ((pf q1).1, (pf q1).2.1, (pf q1).2.2.1, (pf q1).2.2.2.1, (((pf q1).2.2.2.2) ||| 0)) := ⟨_, rfl⟩
          replace hf := hf pf_9 e_9
          have hP9 := ptF_set (t9 := ((pf q1).1, (pf q1).2.1, (pf q1).2.2.1, (pf q1).2.2.2.1, (((pf q1).2.2.2.2) ||| 0))) hD hm1 hk_9 hP9
          have hD9 := ptF_setD (t9 := ((pf q1).1, (pf q1).2.1, (pf q1).2.2.1, (pf q1).2.2.2.1, (((pf q1).2.2.2.2) ||| 0))) hD hm1 hk_9 hD9
          rw [← e_9] at hP9 hD9
          have hP : va_P (dC, dI) clA (@HAppend.hAppend va_W va_W va_W _ [(a2, .inl ((cA 0), 30, .inl fa)), (a4, .inl ((cA 0), 30, .inl sp)), (a5, .inl ((cA 0), 900, .inl sa)), (h0, .inr (1, [.int pos, .ref a1, .ref a2, .ref a3, .ref a4, .ref a5])), (a3, .inl ((cA 0), 30, .inl v_5))] (va_pl LP (ptF pf_9))) H := hP9
          have hD : va_D A (@HAppend.hAppend va_W va_W va_W _ [(a2, .inl ((cA 0), 30, .inl fa)), (a4, .inl ((cA 0), 30, .inl sp)), (a5, .inl ((cA 0), 900, .inl sa)), (h0, .inr (1, [.int pos, .ref a1, .ref a2, .ref a3, .ref a4, .ref a5])), (a3, .inl ((cA 0), 30, .inl v_5))] (va_pl LP (ptF pf_9))) := hD9
          have hP9 := hP.part (cx := [(h0, .inr (1, [.int pos, .ref a1, .ref a2, .ref a3, .ref a4, .ref a5])), (a2, .inl ((cA 0), 30, .inl fa)), (a3, .inl ((cA 0), 30, .inl v_5)), (a4, .inl ((cA 0), 30, .inl sp)), (a5, .inl ((cA 0), 900, .inl sa))]) [3, 0, 4, 1, 2] rfl
          have hD9 := hD.part (cx := [(h0, .inr (1, [.int pos, .ref a1, .ref a2, .ref a3, .ref a4, .ref a5])), (a2, .inl ((cA 0), 30, .inl fa)), (a3, .inl ((cA 0), 30, .inl v_5)), (a4, .inl ((cA 0), 30, .inl sp)), (a5, .inl ((cA 0), 900, .inl sa))]) [3, 0, 4, 1, 2] (by decide) rfl
          refine W_end hQz ?_
          exact W.vret hx hb hr (fun t ht hW => ⟨⟨(fa, v_5, sa, pf_9), rfl, hf, P_cg ht.symm hP9, va_K.moved hW.alike hK, hD9⟩, hS.F ht⟩) hS.2.2 d_Net_act_140 hlocks
        · replace hf := hf.2 c_8
          refine lv_iload hx hb d_Net_act_130 (lv_at hl 0 rfl) ?_
          refine lv_goto (tgt := 136) hx hb d_Net_act_132 (by decide) ?_
          refine lv_ior hx hb d_Net_act_136 ?_
          obtain ⟨kp_11, hk_11⟩ := va_pl_get (X := [(a2, .inl ((cA 0), 30, .inl fa)), (a4, .inl ((cA 0), 30, .inl sp)), (a5, .inl ((cA 0), 900, .inl sa)), (h0, .inr (1, [.int pos, .ref a1, .ref a2, .ref a3, .ref a4, .ref a5])), (a3, .inl ((cA 0), 30, .inl v_5))]) (f := ptF pf) hm1
          refine va_putN (D := (dC, dI)) (ci := 3) (v := .int (((pf q1).2.2.2.2) ||| (1 <<< (p3 &&& 31)))) (ty := .int) (C := RX3) (T := TX3) (N := 5) hx hb hts (fun w h => List.mem_cons_of_mem _ (in_X3 w h)) tyX3 tyX3_ok nmX3 hown hK hP hD hS kp_11 hk_11 rfl 4 (by decide) (va_Nw.use rfl (hN _ nl_10)) (fun _ h9 => h9) rfl (tyX3_ok 4 (by decide)) rfl rfl (Nat.le_of_ble_eq_true rfl) d_Net_act_137 (fun H locs hP9 hD9 hS => ?_)
          obtain ⟨pf_11, e_11⟩ : ∃ y, y = va_up pf q1 ((pf q1).1, (pf q1).2.1, (pf q1).2.2.1, (pf q1).2.2.2.1, (((pf q1).2.2.2.2) ||| (1 <<< (p3 &&& 31)))) := ⟨_, rfl⟩
          replace hf := hf pf_11 e_11
          have hP9 := ptF_set (t9 := ((pf q1).1, (pf q1).2.1, (pf q1).2.2.1, (pf q1).2.2.2.1, (((pf q1).2.2.2.2) ||| (1 <<< (p3 &&& 31))))) hD hm1 hk_11 hP9
          have hD9 := ptF_setD (t9 := ((pf q1).1, (pf q1).2.1, (pf q1).2.2.1, (pf q1).2.2.2.1, (((pf q1).2.2.2.2) ||| (1 <<< (p3 &&& 31))))) hD hm1 hk_11 hD9
          rw [← e_11] at hP9 hD9
          have hP : va_P (dC, dI) clA (@HAppend.hAppend va_W va_W va_W _ [(a2, .inl ((cA 0), 30, .inl fa)), (a4, .inl ((cA 0), 30, .inl sp)), (a5, .inl ((cA 0), 900, .inl sa)), (h0, .inr (1, [.int pos, .ref a1, .ref a2, .ref a3, .ref a4, .ref a5])), (a3, .inl ((cA 0), 30, .inl v_5))] (va_pl LP (ptF pf_11))) H := hP9
          have hD : va_D A (@HAppend.hAppend va_W va_W va_W _ [(a2, .inl ((cA 0), 30, .inl fa)), (a4, .inl ((cA 0), 30, .inl sp)), (a5, .inl ((cA 0), 900, .inl sa)), (h0, .inr (1, [.int pos, .ref a1, .ref a2, .ref a3, .ref a4, .ref a5])), (a3, .inl ((cA 0), 30, .inl v_5))] (va_pl LP (ptF pf_11))) := hD9
          have hP9 := hP.part (cx := [(h0, .inr (1, [.int pos, .ref a1, .ref a2, .ref a3, .ref a4, .ref a5])), (a2, .inl ((cA 0), 30, .inl fa)), (a3, .inl ((cA 0), 30, .inl v_5)), (a4, .inl ((cA 0), 30, .inl sp)), (a5, .inl ((cA 0), 900, .inl sa))]) [3, 0, 4, 1, 2] rfl
          have hD9 := hD.part (cx := [(h0, .inr (1, [.int pos, .ref a1, .ref a2, .ref a3, .ref a4, .ref a5])), (a2, .inl ((cA 0), 30, .inl fa)), (a3, .inl ((cA 0), 30, .inl v_5)), (a4, .inl ((cA 0), 30, .inl sp)), (a5, .inl ((cA 0), 900, .inl sa))]) [3, 0, 4, 1, 2] (by decide) rfl
          refine W_end hQz ?_
          exact W.vret hx hb hr (fun t ht hW => ⟨⟨(fa, v_5, sa, pf_11), rfl, hf, P_cg ht.symm hP9, va_K.moved hW.alike hK, hD9⟩, hS.F ht⟩) hS.2.2 d_Net_act_140 hlocks
      · replace hf := hf.2 c_3
        refine lv_aload_n hx hb d_Net_act_76 rfl (lv_at hl 1 rfl) ?_
        refine lv_aload_n hx hb d_Net_act_77 rfl (lv_at hl 1 rfl) ?_
        refine va_get (D := (dC, dI)) (ci := 1) (v := .ref a2) (C := RX1) (T := TX1) (N := 6) hx hb hts (fun w h => List.mem_cons_of_mem _ (in_X1 w h)) hown hK hP 0 rfl rfl 2 (by decide) (hts _ (List.mem_cons_of_mem _ k_98)) (fun _ h9 => h9) rfl d_Net_act_78 ?_
        refine lv_aload_n hx hb d_Net_act_81 rfl (lv_at hl 2 rfl) ?_
        obtain ⟨kp_13, hk_13⟩ := va_pl_get (X := [(h0, .inr (1, [.int pos, .ref a1, .ref a2, .ref a3, .ref a4, .ref a5])), (a2, .inl ((cA 0), 30, .inl fa)), (a3, .inl ((cA 0), 30, .inl la)), (a4, .inl ((cA 0), 30, .inl sp)), (a5, .inl ((cA 0), 900, .inl sa))]) (f := ptF pf) hm1
        refine va_getN (D := (dC, dI)) (ci := 3) (v := .int ((pf q1).2.1)) (C := RX3) (T := TX3) (N := 5) hx hb hts (fun w h => List.mem_cons_of_mem _ (in_X3 w h)) hown hK hP kp_13 hk_13 rfl 1 (by decide) (va_Nw.use rfl (hN _ nl_4)) (fun _ h9 => h9) rfl d_Net_act_82 ?_
        refine lv_iload hx hb d_Net_act_85 (lv_at hl 0 rfl) ?_
        obtain ⟨v_14, hv_14, hf⟩ := hf
        have hPc := hP.sub (ws' := [(h0, .inr (1, [.int pos, .ref a1, .ref a2, .ref a3, .ref a4, .ref a5])), (a2, .inl ((cA 0), 30, .inl fa))]) [0, 1] rfl
        have hDc := hD.sub (ws' := [(h0, .inr (1, [.int pos, .ref a1, .ref a2, .ref a3, .ref a4, .ref a5])), (a2, .inl ((cA 0), 30, .inl fa))]) [0, 1] (by decide) rfl
        have hFc := va_free (wc := [(h0, .inr (1, [.int pos, .ref a1, .ref a2, .ref a3, .ref a4, .ref a5])), (a2, .inl ((cA 0), 30, .inl fa))]) hD hS hA [0, 1] rfl
        refine va_callv (va_runV (As := [.ref a2, .int ((pf q1).2.1), .int (1 <<< (p3 &&& 31))]) (rest := []) ⟨hx, hb, hml, hown, hts⟩ (c_Net_give l dC dI cA h0 a2 a1 a2 a3 a4 a5 s.heap.size ((pf q1).2.1) (1 <<< (p3 &&& 31)) pos fa v_14 hv_14) (cwV 3 hts (gV9 k_726 k_728 k_12 k_51 k_729) rfl rfl rfl hv_Net_give ⟨Nat.le_of_ble_eq_true rfl, Nat.le_of_ble_eq_true rfl⟩) ⟨fun a U g mk q => by obtain ⟨q0, q1, qP, qK, qN, qD⟩ := q; exact ⟨q0, q1, qP, va_K.moved (u := U) (U := U.calling g mk a) (Vm.Alike.refl U.vm) qK, nW_same (u := U) (U := U.calling g mk a) rfl qN, qD⟩, va_recv hK hPc (ci := 1) (q0 := 0) rfl rfl, fun U hU hW => ⟨rfl, congrArg _ hU, P_cg hU.symm hPc, va_K.moved hW.alike hK, nW_warm hW hN, hDc.weaken (fun _ _ _ _ => trivial)⟩⟩ rfl rfl hl.1 rfl (lv_room (Nat.le_of_ble_eq_true rfl)) d_Net_act_87 ⟨Nat.zero_le _, Nat.zero_le _⟩) hS (fun q _ h => hFc q h) hFc (fun u t H locs ht hvm hw hB hz1 hk1 hS => ?_)
        subst hw
        obtain ⟨hP1, hK1, hD1⟩ := hB
        replace hP1 := P_cg ht hP1
        obtain ⟨hP, hD⟩ := va_joinQ (cx := [(h0, .inr (1, [.int pos, .ref a1, .ref a2, .ref a3, .ref a4, .ref a5])), (a2, .inl ((cA 0), 30, .inl fa))]) (wr := [(a3, .inl ((cA 0), 30, .inl la)), (a4, .inl ((cA 0), 30, .inl sp)), (a5, .inl ((cA 0), 900, .inl sa))]) (w1 := [(h0, .inr (1, [.int pos, .ref a1, .ref a2, .ref a3, .ref a4, .ref a5])), (a2, .inl ((cA 0), 30, .inl v_14))]) hP hD [0, 1] [2, 3, 4] rfl rfl (by decide) (by decide) hk1 hFc hP1 hD1
        have hP : va_P (dC, dI) clA (@HAppend.hAppend va_W va_W va_W _ [(a3, .inl ((cA 0), 30, .inl la)), (a4, .inl ((cA 0), 30, .inl sp)), (a5, .inl ((cA 0), 900, .inl sa)), (h0, .inr (1, [.int pos, .ref a1, .ref a2, .ref a3, .ref a4, .ref a5])), (a2, .inl ((cA 0), 30, .inl v_14))] (va_pl LP (ptF pf))) H := hP
        have hD : va_D A (@HAppend.hAppend va_W va_W va_W _ [(a3, .inl ((cA 0), 30, .inl la)), (a4, .inl ((cA 0), 30, .inl sp)), (a5, .inl ((cA 0), 900, .inl sa)), (h0, .inr (1, [.int pos, .ref a1, .ref a2, .ref a3, .ref a4, .ref a5])), (a2, .inl ((cA 0), 30, .inl v_14))] (va_pl LP (ptF pf))) := hD
        refine lv_aload_n hx hb d_Net_act_90 rfl (lv_at hl 1 rfl) ?_
        refine lv_aload_n hx hb d_Net_act_91 rfl (lv_at hl 2 rfl) ?_
        obtain ⟨kp_15, hk_15⟩ := va_pl_get (X := [(a3, .inl ((cA 0), 30, .inl la)), (a4, .inl ((cA 0), 30, .inl sp)), (a5, .inl ((cA 0), 900, .inl sa)), (h0, .inr (1, [.int pos, .ref a1, .ref a2, .ref a3, .ref a4, .ref a5])), (a2, .inl ((cA 0), 30, .inl v_14))]) (f := ptF pf) hm1
        refine va_getN (D := (dC, dI)) (ci := 3) (v := .int ((pf q1).1)) (C := RX3) (T := TX3) (N := 5) hx hb hts (fun w h => List.mem_cons_of_mem _ (in_X3 w h)) hown hK hP kp_15 hk_15 rfl 0 (by decide) (va_Nw.use rfl (hN _ nl_3)) (fun _ h9 => h9) rfl d_Net_act_92 ?_
        refine lv_iconst (v := -1) hx hb d_Net_act_95 (by decide) ?_
        refine lv_iload hx hb d_Net_act_96 (lv_at hl 0 rfl) ?_
        obtain ⟨v_16, hv_16, hf⟩ := hf
        have hPc := hP.sub (ws' := [(h0, .inr (1, [.int pos, .ref a1, .ref a2, .ref a3, .ref a4, .ref a5])), (a4, .inl ((cA 0), 30, .inl sp)), (a5, .inl ((cA 0), 900, .inl sa))]) [3, 1, 2] rfl
        have hDc := hD.sub (ws' := [(h0, .inr (1, [.int pos, .ref a1, .ref a2, .ref a3, .ref a4, .ref a5])), (a4, .inl ((cA 0), 30, .inl sp)), (a5, .inl ((cA 0), 900, .inl sa))]) [3, 1, 2] (by decide) rfl
        have hFc := va_free (wc := [(h0, .inr (1, [.int pos, .ref a1, .ref a2, .ref a3, .ref a4, .ref a5])), (a4, .inl ((cA 0), 30, .inl sp)), (a5, .inl ((cA 0), 900, .inl sa))]) hD hS hA [3, 1, 2] rfl
        refine va_callv (va_runV (As := [.int ((pf q1).1), .int (-1), .int (1 <<< (p3 &&& 31))]) (rest := []) ⟨hx, hb, hml, hown, hts⟩ (c_Net_giveSteps l dC dI cA h0 a4 a5 a1 a2 a3 H.size ((pf q1).1) (-1) (1 <<< (p3 &&& 31)) pos sp sa v_16 hv_16) (cwV 3 hts (gV9 k_730 k_732 k_13 k_51 k_733) rfl rfl rfl hv_Net_giveSteps ⟨Nat.le_of_ble_eq_true rfl, Nat.le_of_ble_eq_true rfl⟩) ⟨fun a U g mk q => by obtain ⟨q0, q1, qP, qK, qN, qD⟩ := q; exact ⟨q0, q1, qP, va_K.moved (u := U) (U := U.calling g mk a) (Vm.Alike.refl U.vm) qK, nW_same (u := U) (U := U.calling g mk a) rfl qN, qD⟩, va_recv hK hPc (ci := 1) (q0 := 0) rfl rfl, fun U hU hW => ⟨rfl, congrArg _ hU, P_cg hU.symm hPc, va_K.moved hW.alike hK, nW_warm hW hN, hDc.weaken (fun _ _ _ _ => trivial)⟩⟩ rfl rfl hl.1 rfl (lv_room (Nat.le_of_ble_eq_true rfl)) d_Net_act_98 ⟨Nat.zero_le _, Nat.zero_le _⟩) hS (fun q _ h => hFc q h) hFc (fun u t H locs ht hvm hw hB hz1 hk1 hS => ?_)
        subst hw
        obtain ⟨hP1, hK1, hD1⟩ := hB
        replace hP1 := P_cg ht hP1
        obtain ⟨hP, hD⟩ := va_joinQ (cx := [(h0, .inr (1, [.int pos, .ref a1, .ref a2, .ref a3, .ref a4, .ref a5])), (a4, .inl ((cA 0), 30, .inl sp)), (a5, .inl ((cA 0), 900, .inl sa))]) (wr := [(a3, .inl ((cA 0), 30, .inl la)), (a2, .inl ((cA 0), 30, .inl v_14))]) (w1 := [(h0, .inr (1, [.int pos, .ref a1, .ref a2, .ref a3, .ref a4, .ref a5])), (a4, .inl ((cA 0), 30, .inl sp)), (a5, .inl ((cA 0), 900, .inl v_16))]) hP hD [3, 1, 2] [0, 4] rfl rfl (by decide) (by decide) hk1 hFc hP1 hD1
        have hP : va_P (dC, dI) clA (@HAppend.hAppend va_W va_W va_W _ [(a3, .inl ((cA 0), 30, .inl la)), (a2, .inl ((cA 0), 30, .inl v_14)), (h0, .inr (1, [.int pos, .ref a1, .ref a2, .ref a3, .ref a4, .ref a5])), (a4, .inl ((cA 0), 30, .inl sp)), (a5, .inl ((cA 0), 900, .inl v_16))] (va_pl LP (ptF pf))) H := hP
        have hD : va_D A (@HAppend.hAppend va_W va_W va_W _ [(a3, .inl ((cA 0), 30, .inl la)), (a2, .inl ((cA 0), 30, .inl v_14)), (h0, .inr (1, [.int pos, .ref a1, .ref a2, .ref a3, .ref a4, .ref a5])), (a4, .inl ((cA 0), 30, .inl sp)), (a5, .inl ((cA 0), 900, .inl v_16))] (va_pl LP (ptF pf))) := hD
        refine lv_goto (tgt := 140) hx hb d_Net_act_101 (by decide) ?_
        have hP9 := hP.part (cx := [(h0, .inr (1, [.int pos, .ref a1, .ref a2, .ref a3, .ref a4, .ref a5])), (a2, .inl ((cA 0), 30, .inl v_14)), (a3, .inl ((cA 0), 30, .inl la)), (a4, .inl ((cA 0), 30, .inl sp)), (a5, .inl ((cA 0), 900, .inl v_16))]) [2, 1, 0, 3, 4] rfl
        have hD9 := hD.part (cx := [(h0, .inr (1, [.int pos, .ref a1, .ref a2, .ref a3, .ref a4, .ref a5])), (a2, .inl ((cA 0), 30, .inl v_14)), (a3, .inl ((cA 0), 30, .inl la)), (a4, .inl ((cA 0), 30, .inl sp)), (a5, .inl ((cA 0), 900, .inl v_16))]) [2, 1, 0, 3, 4] (by decide) rfl
        refine W_end hQz ?_
        exact W.vret hx hb hr (fun t ht hW => ⟨⟨(v_14, la, v_16, pf), rfl, hf, P_cg ht.symm hP9, va_K.moved hW.alike hK, hD9⟩, hS.F ht⟩) hS.2.2 d_Net_act_140 hlocks
    · replace hf := hf.2 c_2
      refine lv_aload_n hx hb d_Net_act_34 rfl (lv_at hl 1 rfl) ?_
      refine lv_aload_n hx hb d_Net_act_35 rfl (lv_at hl 1 rfl) ?_
      refine va_get (D := (dC, dI)) (ci := 1) (v := .ref a2) (C := RX1) (T := TX1) (N := 6) hx hb hts (fun w h => List.mem_cons_of_mem _ (in_X1 w h)) hown hK hP 0 rfl rfl 2 (by decide) (hts _ (List.mem_cons_of_mem _ k_98)) (fun _ h9 => h9) rfl d_Net_act_36 ?_
      refine lv_aload_n hx hb d_Net_act_39 rfl (lv_at hl 2 rfl) ?_
      obtain ⟨kp_18, hk_18⟩ := va_pl_get (X := [(h0, .inr (1, [.int pos, .ref a1, .ref a2, .ref a3, .ref a4, .ref a5])), (a2, .inl ((cA 0), 30, .inl fa)), (a3, .inl ((cA 0), 30, .inl la)), (a4, .inl ((cA 0), 30, .inl sp)), (a5, .inl ((cA 0), 900, .inl sa))]) (f := ptF pf) hm1
      refine va_getN (D := (dC, dI)) (ci := 3) (v := .int ((pf q1).2.1)) (C := RX3) (T := TX3) (N := 5) hx hb hts (fun w h => List.mem_cons_of_mem _ (in_X3 w h)) hown hK hP kp_18 hk_18 rfl 1 (by decide) (va_Nw.use rfl (hN _ nl_4)) (fun _ h9 => h9) rfl d_Net_act_40 ?_
      refine lv_aload_n hx hb d_Net_act_43 rfl (lv_at hl 2 rfl) ?_
      obtain ⟨kp_19, hk_19⟩ := va_pl_get (X := [(h0, .inr (1, [.int pos, .ref a1, .ref a2, .ref a3, .ref a4, .ref a5])), (a2, .inl ((cA 0), 30, .inl fa)), (a3, .inl ((cA 0), 30, .inl la)), (a4, .inl ((cA 0), 30, .inl sp)), (a5, .inl ((cA 0), 900, .inl sa))]) (f := ptF pf) hm1
      refine va_getN (D := (dC, dI)) (ci := 3) (v := .int ((pf q1).2.2.1)) (C := RX3) (T := TX3) (N := 5) hx hb hts (fun w h => List.mem_cons_of_mem _ (in_X3 w h)) hown hK hP kp_19 hk_19 rfl 2 (by decide) (va_Nw.use rfl (hN _ nl_6)) (fun _ h9 => h9) rfl d_Net_act_44 ?_
      refine lv_iand hx hb d_Net_act_47 ?_
      refine lv_iload hx hb d_Net_act_48 (lv_at hl 0 rfl) ?_
      obtain ⟨v_20, hv_20, hf⟩ := hf
      have hPc := hP.sub (ws' := [(h0, .inr (1, [.int pos, .ref a1, .ref a2, .ref a3, .ref a4, .ref a5])), (a2, .inl ((cA 0), 30, .inl fa))]) [0, 1] rfl
      have hDc := hD.sub (ws' := [(h0, .inr (1, [.int pos, .ref a1, .ref a2, .ref a3, .ref a4, .ref a5])), (a2, .inl ((cA 0), 30, .inl fa))]) [0, 1] (by decide) rfl
      have hFc := va_free (wc := [(h0, .inr (1, [.int pos, .ref a1, .ref a2, .ref a3, .ref a4, .ref a5])), (a2, .inl ((cA 0), 30, .inl fa))]) hD hS hA [0, 1] rfl
      refine va_callv (va_runV (As := [.ref a2, .int (((pf q1).2.1) &&& ((pf q1).2.2.1)), .int (1 <<< (p3 &&& 31))]) (rest := []) ⟨hx, hb, hml, hown, hts⟩ (c_Net_give l dC dI cA h0 a2 a1 a2 a3 a4 a5 s.heap.size (((pf q1).2.1) &&& ((pf q1).2.2.1)) (1 <<< (p3 &&& 31)) pos fa v_20 hv_20) (cwV 3 hts (gV9 k_726 k_728 k_12 k_51 k_729) rfl rfl rfl hv_Net_give ⟨Nat.le_of_ble_eq_true rfl, Nat.le_of_ble_eq_true rfl⟩) ⟨fun a U g mk q => by obtain ⟨q0, q1, qP, qK, qN, qD⟩ := q; exact ⟨q0, q1, qP, va_K.moved (u := U) (U := U.calling g mk a) (Vm.Alike.refl U.vm) qK, nW_same (u := U) (U := U.calling g mk a) rfl qN, qD⟩, va_recv hK hPc (ci := 1) (q0 := 0) rfl rfl, fun U hU hW => ⟨rfl, congrArg _ hU, P_cg hU.symm hPc, va_K.moved hW.alike hK, nW_warm hW hN, hDc.weaken (fun _ _ _ _ => trivial)⟩⟩ rfl rfl hl.1 rfl (lv_room (Nat.le_of_ble_eq_true rfl)) d_Net_act_50 ⟨Nat.zero_le _, Nat.zero_le _⟩) hS (fun q _ h => hFc q h) hFc (fun u t H locs ht hvm hw hB hz1 hk1 hS => ?_)
      subst hw
      obtain ⟨hP1, hK1, hD1⟩ := hB
      replace hP1 := P_cg ht hP1
      obtain ⟨hP, hD⟩ := va_joinQ (cx := [(h0, .inr (1, [.int pos, .ref a1, .ref a2, .ref a3, .ref a4, .ref a5])), (a2, .inl ((cA 0), 30, .inl fa))]) (wr := [(a3, .inl ((cA 0), 30, .inl la)), (a4, .inl ((cA 0), 30, .inl sp)), (a5, .inl ((cA 0), 900, .inl sa))]) (w1 := [(h0, .inr (1, [.int pos, .ref a1, .ref a2, .ref a3, .ref a4, .ref a5])), (a2, .inl ((cA 0), 30, .inl v_20))]) hP hD [0, 1] [2, 3, 4] rfl rfl (by decide) (by decide) hk1 hFc hP1 hD1
      have hP : va_P (dC, dI) clA (@HAppend.hAppend va_W va_W va_W _ [(a3, .inl ((cA 0), 30, .inl la)), (a4, .inl ((cA 0), 30, .inl sp)), (a5, .inl ((cA 0), 900, .inl sa)), (h0, .inr (1, [.int pos, .ref a1, .ref a2, .ref a3, .ref a4, .ref a5])), (a2, .inl ((cA 0), 30, .inl v_20))] (va_pl LP (ptF pf))) H := hP
      have hD : va_D A (@HAppend.hAppend va_W va_W va_W _ [(a3, .inl ((cA 0), 30, .inl la)), (a4, .inl ((cA 0), 30, .inl sp)), (a5, .inl ((cA 0), 900, .inl sa)), (h0, .inr (1, [.int pos, .ref a1, .ref a2, .ref a3, .ref a4, .ref a5])), (a2, .inl ((cA 0), 30, .inl v_20))] (va_pl LP (ptF pf))) := hD
      refine lv_aload_n hx hb d_Net_act_53 rfl (lv_at hl 1 rfl) ?_
      refine lv_aload_n hx hb d_Net_act_54 rfl (lv_at hl 2 rfl) ?_
      obtain ⟨kp_21, hk_21⟩ := va_pl_get (X := [(a3, .inl ((cA 0), 30, .inl la)), (a4, .inl ((cA 0), 30, .inl sp)), (a5, .inl ((cA 0), 900, .inl sa)), (h0, .inr (1, [.int pos, .ref a1, .ref a2, .ref a3, .ref a4, .ref a5])), (a2, .inl ((cA 0), 30, .inl v_20))]) (f := ptF pf) hm1
      refine va_getN (D := (dC, dI)) (ci := 3) (v := .int ((pf q1).1)) (C := RX3) (T := TX3) (N := 5) hx hb hts (fun w h => List.mem_cons_of_mem _ (in_X3 w h)) hown hK hP kp_21 hk_21 rfl 0 (by decide) (va_Nw.use rfl (hN _ nl_3)) (fun _ h9 => h9) rfl d_Net_act_55 ?_
      refine lv_aload_n hx hb d_Net_act_58 rfl (lv_at hl 2 rfl) ?_
      obtain ⟨kp_22, hk_22⟩ := va_pl_get (X := [(a3, .inl ((cA 0), 30, .inl la)), (a4, .inl ((cA 0), 30, .inl sp)), (a5, .inl ((cA 0), 900, .inl sa)), (h0, .inr (1, [.int pos, .ref a1, .ref a2, .ref a3, .ref a4, .ref a5])), (a2, .inl ((cA 0), 30, .inl v_20))]) (f := ptF pf) hm1
      refine va_getN (D := (dC, dI)) (ci := 3) (v := .int ((pf q1).2.2.1)) (C := RX3) (T := TX3) (N := 5) hx hb hts (fun w h => List.mem_cons_of_mem _ (in_X3 w h)) hown hK hP kp_22 hk_22 rfl 2 (by decide) (va_Nw.use rfl (hN _ nl_6)) (fun _ h9 => h9) rfl d_Net_act_59 ?_
      refine lv_iload hx hb d_Net_act_62 (lv_at hl 0 rfl) ?_
      obtain ⟨v_23, hv_23, hf⟩ := hf
      have hPc := hP.sub (ws' := [(h0, .inr (1, [.int pos, .ref a1, .ref a2, .ref a3, .ref a4, .ref a5])), (a4, .inl ((cA 0), 30, .inl sp)), (a5, .inl ((cA 0), 900, .inl sa))]) [3, 1, 2] rfl
      have hDc := hD.sub (ws' := [(h0, .inr (1, [.int pos, .ref a1, .ref a2, .ref a3, .ref a4, .ref a5])), (a4, .inl ((cA 0), 30, .inl sp)), (a5, .inl ((cA 0), 900, .inl sa))]) [3, 1, 2] (by decide) rfl
      have hFc := va_free (wc := [(h0, .inr (1, [.int pos, .ref a1, .ref a2, .ref a3, .ref a4, .ref a5])), (a4, .inl ((cA 0), 30, .inl sp)), (a5, .inl ((cA 0), 900, .inl sa))]) hD hS hA [3, 1, 2] rfl
      refine va_callv (va_runV (As := [.int ((pf q1).1), .int ((pf q1).2.2.1), .int (1 <<< (p3 &&& 31))]) (rest := []) ⟨hx, hb, hml, hown, hts⟩ (c_Net_giveSteps l dC dI cA h0 a4 a5 a1 a2 a3 H.size ((pf q1).1) ((pf q1).2.2.1) (1 <<< (p3 &&& 31)) pos sp sa v_23 hv_23) (cwV 3 hts (gV9 k_730 k_732 k_13 k_51 k_733) rfl rfl rfl hv_Net_giveSteps ⟨Nat.le_of_ble_eq_true rfl, Nat.le_of_ble_eq_true rfl⟩) ⟨fun a U g mk q => by obtain ⟨q0, q1, qP, qK, qN, qD⟩ := q; exact ⟨q0, q1, qP, va_K.moved (u := U) (U := U.calling g mk a) (Vm.Alike.refl U.vm) qK, nW_same (u := U) (U := U.calling g mk a) rfl qN, qD⟩, va_recv hK hPc (ci := 1) (q0 := 0) rfl rfl, fun U hU hW => ⟨rfl, congrArg _ hU, P_cg hU.symm hPc, va_K.moved hW.alike hK, nW_warm hW hN, hDc.weaken (fun _ _ _ _ => trivial)⟩⟩ rfl rfl hl.1 rfl (lv_room (Nat.le_of_ble_eq_true rfl)) d_Net_act_64 ⟨Nat.zero_le _, Nat.zero_le _⟩) hS (fun q _ h => hFc q h) hFc (fun u t H locs ht hvm hw hB hz1 hk1 hS => ?_)
      subst hw
      obtain ⟨hP1, hK1, hD1⟩ := hB
      replace hP1 := P_cg ht hP1
      obtain ⟨hP, hD⟩ := va_joinQ (cx := [(h0, .inr (1, [.int pos, .ref a1, .ref a2, .ref a3, .ref a4, .ref a5])), (a4, .inl ((cA 0), 30, .inl sp)), (a5, .inl ((cA 0), 900, .inl sa))]) (wr := [(a3, .inl ((cA 0), 30, .inl la)), (a2, .inl ((cA 0), 30, .inl v_20))]) (w1 := [(h0, .inr (1, [.int pos, .ref a1, .ref a2, .ref a3, .ref a4, .ref a5])), (a4, .inl ((cA 0), 30, .inl sp)), (a5, .inl ((cA 0), 900, .inl v_23))]) hP hD [3, 1, 2] [0, 4] rfl rfl (by decide) (by decide) hk1 hFc hP1 hD1
      have hP : va_P (dC, dI) clA (@HAppend.hAppend va_W va_W va_W _ [(a3, .inl ((cA 0), 30, .inl la)), (a2, .inl ((cA 0), 30, .inl v_20)), (h0, .inr (1, [.int pos, .ref a1, .ref a2, .ref a3, .ref a4, .ref a5])), (a4, .inl ((cA 0), 30, .inl sp)), (a5, .inl ((cA 0), 900, .inl v_23))] (va_pl LP (ptF pf))) H := hP
      have hD : va_D A (@HAppend.hAppend va_W va_W va_W _ [(a3, .inl ((cA 0), 30, .inl la)), (a2, .inl ((cA 0), 30, .inl v_20)), (h0, .inr (1, [.int pos, .ref a1, .ref a2, .ref a3, .ref a4, .ref a5])), (a4, .inl ((cA 0), 30, .inl sp)), (a5, .inl ((cA 0), 900, .inl v_23))] (va_pl LP (ptF pf))) := hD
      refine lv_goto (tgt := 140) hx hb d_Net_act_67 (by decide) ?_
      have hP9 := hP.part (cx := [(h0, .inr (1, [.int pos, .ref a1, .ref a2, .ref a3, .ref a4, .ref a5])), (a2, .inl ((cA 0), 30, .inl v_20)), (a3, .inl ((cA 0), 30, .inl la)), (a4, .inl ((cA 0), 30, .inl sp)), (a5, .inl ((cA 0), 900, .inl v_23))]) [2, 1, 0, 3, 4] rfl
      have hD9 := hD.part (cx := [(h0, .inr (1, [.int pos, .ref a1, .ref a2, .ref a3, .ref a4, .ref a5])), (a2, .inl ((cA 0), 30, .inl v_20)), (a3, .inl ((cA 0), 30, .inl la)), (a4, .inl ((cA 0), 30, .inl sp)), (a5, .inl ((cA 0), 900, .inl v_23))]) [2, 1, 0, 3, 4] (by decide) rfl
      refine W_end hQz ?_
      exact W.vret hx hb hr (fun t ht hW => ⟨⟨(v_20, la, v_23, pf), rfl, hf, P_cg ht.symm hP9, va_K.moved hW.alike hK, hD9⟩, hS.F ht⟩) hS.2.2 d_Net_act_140 hlocks
  · replace hf := hf.2 c_1
    refine lv_aload_n hx hb d_Net_act_11 rfl (lv_at hl 1 rfl) ?_
    refine lv_aload_n hx hb d_Net_act_12 rfl (lv_at hl 1 rfl) ?_
    refine va_get (D := (dC, dI)) (ci := 1) (v := .ref a2) (C := RX1) (T := TX1) (N := 6) hx hb hts (fun w h => List.mem_cons_of_mem _ (in_X1 w h)) hown hK hP 0 rfl rfl 2 (by decide) (hts _ (List.mem_cons_of_mem _ k_98)) (fun _ h9 => h9) rfl d_Net_act_13 ?_
    refine lv_aload_n hx hb d_Net_act_16 rfl (lv_at hl 2 rfl) ?_
    obtain ⟨kp_25, hk_25⟩ := va_pl_get (X := [(h0, .inr (1, [.int pos, .ref a1, .ref a2, .ref a3, .ref a4, .ref a5])), (a2, .inl ((cA 0), 30, .inl fa)), (a3, .inl ((cA 0), 30, .inl la)), (a4, .inl ((cA 0), 30, .inl sp)), (a5, .inl ((cA 0), 900, .inl sa))]) (f := ptF pf) hm1
    refine va_getN (D := (dC, dI)) (ci := 3) (v := .int ((pf q1).2.1)) (C := RX3) (T := TX3) (N := 5) hx hb hts (fun w h => List.mem_cons_of_mem _ (in_X3 w h)) hown hK hP kp_25 hk_25 rfl 1 (by decide) (va_Nw.use rfl (hN _ nl_4)) (fun _ h9 => h9) rfl d_Net_act_17 ?_
    refine lv_iload hx hb d_Net_act_20 (lv_at hl 0 rfl) ?_
    obtain ⟨v_26, hv_26, hf⟩ := hf
    have hPc := hP.sub (ws' := [(h0, .inr (1, [.int pos, .ref a1, .ref a2, .ref a3, .ref a4, .ref a5])), (a2, .inl ((cA 0), 30, .inl fa))]) [0, 1] rfl
    have hDc := hD.sub (ws' := [(h0, .inr (1, [.int pos, .ref a1, .ref a2, .ref a3, .ref a4, .ref a5])), (a2, .inl ((cA 0), 30, .inl fa))]) [0, 1] (by decide) rfl
    have hFc := va_free (wc := [(h0, .inr (1, [.int pos, .ref a1, .ref a2, .ref a3, .ref a4, .ref a5])), (a2, .inl ((cA 0), 30, .inl fa))]) hD hS hA [0, 1] rfl
    refine va_callv (va_runV (As := [.ref a2, .int ((pf q1).2.1), .int (1 <<< (p3 &&& 31))]) (rest := []) ⟨hx, hb, hml, hown, hts⟩ (c_Net_give l dC dI cA h0 a2 a1 a2 a3 a4 a5 s.heap.size ((pf q1).2.1) (1 <<< (p3 &&& 31)) pos fa v_26 hv_26) (cwV 3 hts (gV9 k_726 k_728 k_12 k_51 k_729) rfl rfl rfl hv_Net_give ⟨Nat.le_of_ble_eq_true rfl, Nat.le_of_ble_eq_true rfl⟩) ⟨fun a U g mk q => by obtain ⟨q0, q1, qP, qK, qN, qD⟩ := q; exact ⟨q0, q1, qP, va_K.moved (u := U) (U := U.calling g mk a) (Vm.Alike.refl U.vm) qK, nW_same (u := U) (U := U.calling g mk a) rfl qN, qD⟩, va_recv hK hPc (ci := 1) (q0 := 0) rfl rfl, fun U hU hW => ⟨rfl, congrArg _ hU, P_cg hU.symm hPc, va_K.moved hW.alike hK, nW_warm hW hN, hDc.weaken (fun _ _ _ _ => trivial)⟩⟩ rfl rfl hl.1 rfl (lv_room (Nat.le_of_ble_eq_true rfl)) d_Net_act_22 ⟨Nat.zero_le _, Nat.zero_le _⟩) hS (fun q _ h => hFc q h) hFc (fun u t H locs ht hvm hw hB hz1 hk1 hS => ?_)
    subst hw
    obtain ⟨hP1, hK1, hD1⟩ := hB
    replace hP1 := P_cg ht hP1
    obtain ⟨hP, hD⟩ := va_joinQ (cx := [(h0, .inr (1, [.int pos, .ref a1, .ref a2, .ref a3, .ref a4, .ref a5])), (a2, .inl ((cA 0), 30, .inl fa))]) (wr := [(a3, .inl ((cA 0), 30, .inl la)), (a4, .inl ((cA 0), 30, .inl sp)), (a5, .inl ((cA 0), 900, .inl sa))]) (w1 := [(h0, .inr (1, [.int pos, .ref a1, .ref a2, .ref a3, .ref a4, .ref a5])), (a2, .inl ((cA 0), 30, .inl v_26))]) hP hD [0, 1] [2, 3, 4] rfl rfl (by decide) (by decide) hk1 hFc hP1 hD1
    have hP : va_P (dC, dI) clA (@HAppend.hAppend va_W va_W va_W _ [(a3, .inl ((cA 0), 30, .inl la)), (a4, .inl ((cA 0), 30, .inl sp)), (a5, .inl ((cA 0), 900, .inl sa)), (h0, .inr (1, [.int pos, .ref a1, .ref a2, .ref a3, .ref a4, .ref a5])), (a2, .inl ((cA 0), 30, .inl v_26))] (va_pl LP (ptF pf))) H := hP
    have hD : va_D A (@HAppend.hAppend va_W va_W va_W _ [(a3, .inl ((cA 0), 30, .inl la)), (a4, .inl ((cA 0), 30, .inl sp)), (a5, .inl ((cA 0), 900, .inl sa)), (h0, .inr (1, [.int pos, .ref a1, .ref a2, .ref a3, .ref a4, .ref a5])), (a2, .inl ((cA 0), 30, .inl v_26))] (va_pl LP (ptF pf))) := hD
    refine lv_goto (tgt := 140) hx hb d_Net_act_25 (by decide) ?_
    have hP9 := hP.part (cx := [(h0, .inr (1, [.int pos, .ref a1, .ref a2, .ref a3, .ref a4, .ref a5])), (a2, .inl ((cA 0), 30, .inl v_26)), (a3, .inl ((cA 0), 30, .inl la)), (a4, .inl ((cA 0), 30, .inl sp)), (a5, .inl ((cA 0), 900, .inl sa))]) [3, 4, 0, 1, 2] rfl
    have hD9 := hD.part (cx := [(h0, .inr (1, [.int pos, .ref a1, .ref a2, .ref a3, .ref a4, .ref a5])), (a2, .inl ((cA 0), 30, .inl v_26)), (a3, .inl ((cA 0), 30, .inl la)), (a4, .inl ((cA 0), 30, .inl sp)), (a5, .inl ((cA 0), 900, .inl sa))]) [3, 4, 0, 1, 2] (by decide) rfl
    refine W_end hQz ?_
    exact W.vret hx hb hr (fun t ht hW => ⟨⟨(v_26, la, sa, pf), rfl, hf, P_cg ht.symm hP9, va_K.moved hW.alike hK, hD9⟩, hS.F ht⟩) hS.2.2 d_Net_act_140 hlocks
