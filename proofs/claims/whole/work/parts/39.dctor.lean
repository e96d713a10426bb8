abbrev b_Part_init : ByteArray := prog_5_method_1_code
def y_Part_init : MethodName := ⟨RX3, "<init>", "()V"⟩
def ws_Part_init : List Cond := .code y_Part_init b_Part_init 1 none :: tb9
theorem hs_Part_init : y_Part_init.cls ≠ "java/lang/invoke/MethodHandle" ∧ y_Part_init.cls ≠ "java/lang/invoke/VarHandle" ∧ (parseMethodDescriptor y_Part_init.desc).map (fun d => d.parameters.length) = some 0 := by decide +kernel
abbrev b_Walk_init : ByteArray := prog_6_method_1_code
def y_Walk_init : MethodName := ⟨RX4, "<init>", "()V"⟩
def ws_Walk_init : List Cond := .code y_Walk_init b_Walk_init 1 none :: tb9
theorem hs_Walk_init : y_Walk_init.cls ≠ "java/lang/invoke/MethodHandle" ∧ y_Walk_init.cls ≠ "java/lang/invoke/VarHandle" ∧ (parseMethodDescriptor y_Walk_init.desc).map (fun d => d.parameters.length) = some 0 := by decide +kernel
abbrev b_Net_init : ByteArray := prog_3_method_1_code
def y_Net_init : MethodName := ⟨RX1, "<init>", "()V"⟩
def ws_Net_init : List Cond := .code y_Net_init b_Net_init 1 none :: tb9
theorem hs_Net_init : y_Net_init.cls ≠ "java/lang/invoke/MethodHandle" ∧ y_Net_init.cls ≠ "java/lang/invoke/VarHandle" ∧ (parseMethodDescriptor y_Net_init.desc).map (fun d => d.parameters.length) = some 0 := by decide +kernel
abbrev b_Mach_init : ByteArray := prog_2_method_1_code
def y_Mach_init : MethodName := ⟨RX0, "<init>", "()V"⟩
def ws_Mach_init : List Cond := .code y_Mach_init b_Mach_init 1 none :: tb9
theorem hs_Mach_init : y_Mach_init.cls ≠ "java/lang/invoke/MethodHandle" ∧ y_Mach_init.cls ≠ "java/lang/invoke/VarHandle" ∧ (parseMethodDescriptor y_Mach_init.desc).map (fun d => d.parameters.length) = some 0 := by decide +kernel
abbrev b_Pars_init : ByteArray := prog_4_method_1_code
def y_Pars_init : MethodName := ⟨RX2, "<init>", "()V"⟩
def ws_Pars_init : List Cond := .code y_Pars_init b_Pars_init 2 none :: tb9
theorem hs_Pars_init : y_Pars_init.cls ≠ "java/lang/invoke/MethodHandle" ∧ y_Pars_init.cls ≠ "java/lang/invoke/VarHandle" ∧ (parseMethodDescriptor y_Pars_init.desc).map (fun d => d.parameters.length) = some 0 := by decide +kernel
abbrev b_EF_init : ByteArray := prog_1_method_1_code
def y_EF_init : MethodName := ⟨RX5, "<init>", "()V"⟩
def ws_EF_init : List Cond := .code y_EF_init b_EF_init 1 none :: tb9
theorem hs_EF_init : y_EF_init.cls ≠ "java/lang/invoke/MethodHandle" ∧ y_EF_init.cls ≠ "java/lang/invoke/VarHandle" ∧ (parseMethodDescriptor y_EF_init.desc).map (fun d => d.parameters.length) = some 0 := by decide +kernel
abbrev b_M_init : ByteArray := prog_8_method_1_code
def y_M_init : MethodName := ⟨RX6, "<init>", "()V"⟩
def ws_M_init : List Cond := .code y_M_init b_M_init 1 none :: tb9
theorem hs_M_init : y_M_init.cls ≠ "java/lang/invoke/MethodHandle" ∧ y_M_init.cls ≠ "java/lang/invoke/VarHandle" ∧ (parseMethodDescriptor y_M_init.desc).map (fun d => d.parameters.length) = some 0 := by decide +kernel
theorem k_79 : (.methodLink RX5 1 Lib.objectInit : Cond) ∈ tb9 := List.mem_filter.mpr ⟨List.mem_of_getElem? (i := 79) (by decide +kernel), by decide +kernel⟩
theorem k_80 : (.instanceMethod Lib.objectInit : Cond) ∈ tb9 := List.mem_filter.mpr ⟨List.mem_of_getElem? (i := 80) (by decide +kernel), by decide +kernel⟩
theorem k_81 : (.code Lib.objectInit ⟨#[0xb1]⟩ 1 none : Cond) ∈ tb9 := List.mem_filter.mpr ⟨List.mem_of_getElem? (i := 81) (by decide +kernel), by decide +kernel⟩
theorem k_82 : (.classLink RX5 20 RX2 : Cond) ∈ tb9 := List.mem_filter.mpr ⟨List.mem_of_getElem? (i := 82) (by decide +kernel), by decide +kernel⟩
theorem k_83 : (.instantiable RX2 7 : Cond) ∈ tb9 := List.mem_filter.mpr ⟨List.mem_of_getElem? (i := 83) (by decide +kernel), by decide +kernel⟩
theorem k_84 : (.methodLink RX5 22 y_Pars_init : Cond) ∈ tb9 := List.mem_filter.mpr ⟨List.mem_of_getElem? (i := 84) (by decide +kernel), by decide +kernel⟩
theorem k_85 : (.instanceMethod y_Pars_init : Cond) ∈ tb9 := List.mem_filter.mpr ⟨List.mem_of_getElem? (i := 85) (by decide +kernel), by decide +kernel⟩
theorem k_86 : (.code y_Pars_init b_Pars_init 2 none : Cond) ∈ tb9 := List.mem_filter.mpr ⟨List.mem_of_getElem? (i := 86) (by decide +kernel), by decide +kernel⟩
theorem k_87 : (.methodLink RX2 3 Lib.objectInit : Cond) ∈ tb9 := List.mem_filter.mpr ⟨List.mem_of_getElem? (i := 87) (by decide +kernel), by decide +kernel⟩
theorem k_88 : (.classLink RX2 9 RX1 : Cond) ∈ tb9 := List.mem_filter.mpr ⟨List.mem_of_getElem? (i := 88) (by decide +kernel), by decide +kernel⟩
theorem k_89 : (.instantiable RX1 6 : Cond) ∈ tb9 := List.mem_filter.mpr ⟨List.mem_of_getElem? (i := 89) (by decide +kernel), by decide +kernel⟩
theorem k_91 : (.instanceMethod y_Net_init : Cond) ∈ tb9 := List.mem_filter.mpr ⟨List.mem_of_getElem? (i := 91) (by decide +kernel), by decide +kernel⟩
theorem k_92 : (.code y_Net_init b_Net_init 1 none : Cond) ∈ tb9 := List.mem_filter.mpr ⟨List.mem_of_getElem? (i := 92) (by decide +kernel), by decide +kernel⟩
theorem k_93 : (.methodLink RX1 3 Lib.objectInit : Cond) ∈ tb9 := List.mem_filter.mpr ⟨List.mem_of_getElem? (i := 93) (by decide +kernel), by decide +kernel⟩
theorem k_116 : (.arrayClass .char : Cond) ∈ tb9 := List.mem_filter.mpr ⟨List.mem_of_getElem? (i := 116) (by decide +kernel), by decide +kernel⟩
theorem k_117 : (.arrayClass .int : Cond) ∈ tb9 := List.mem_filter.mpr ⟨List.mem_of_getElem? (i := 117) (by decide +kernel), by decide +kernel⟩
theorem k_118 : (.classLink RX2 18 "EmbedForge$Part" : Cond) ∈ tb9 := List.mem_filter.mpr ⟨List.mem_of_getElem? (i := 118) (by decide +kernel), by decide +kernel⟩
theorem k_120 : (.instantiable RX3 5 : Cond) ∈ tb9 := List.mem_filter.mpr ⟨List.mem_of_getElem? (i := 120) (by decide +kernel), by decide +kernel⟩
theorem k_122 : (.instanceMethod y_Part_init : Cond) ∈ tb9 := List.mem_filter.mpr ⟨List.mem_of_getElem? (i := 122) (by decide +kernel), by decide +kernel⟩
theorem k_123 : (.code y_Part_init b_Part_init 1 none : Cond) ∈ tb9 := List.mem_filter.mpr ⟨List.mem_of_getElem? (i := 123) (by decide +kernel), by decide +kernel⟩
theorem k_124 : (.methodLink RX3 1 Lib.objectInit : Cond) ∈ tb9 := List.mem_filter.mpr ⟨List.mem_of_getElem? (i := 124) (by decide +kernel), by decide +kernel⟩
theorem k_173 : (.classLink RX5 27 RX4 : Cond) ∈ tb9 := List.mem_filter.mpr ⟨List.mem_of_getElem? (i := 173) (by decide +kernel), by decide +kernel⟩
theorem k_174 : (.instantiable RX4 4 : Cond) ∈ tb9 := List.mem_filter.mpr ⟨List.mem_of_getElem? (i := 174) (by decide +kernel), by decide +kernel⟩
theorem k_176 : (.instanceMethod y_Walk_init : Cond) ∈ tb9 := List.mem_filter.mpr ⟨List.mem_of_getElem? (i := 176) (by decide +kernel), by decide +kernel⟩
theorem k_177 : (.code y_Walk_init b_Walk_init 1 none : Cond) ∈ tb9 := List.mem_filter.mpr ⟨List.mem_of_getElem? (i := 177) (by decide +kernel), by decide +kernel⟩
theorem k_178 : (.methodLink RX4 3 Lib.objectInit : Cond) ∈ tb9 := List.mem_filter.mpr ⟨List.mem_of_getElem? (i := 178) (by decide +kernel), by decide +kernel⟩
theorem k_196 : (.classLink RX5 34 RX0 : Cond) ∈ tb9 := List.mem_filter.mpr ⟨List.mem_of_getElem? (i := 196) (by decide +kernel), by decide +kernel⟩
theorem k_197 : (.instantiable RX0 10 : Cond) ∈ tb9 := List.mem_filter.mpr ⟨List.mem_of_getElem? (i := 197) (by decide +kernel), by decide +kernel⟩
theorem k_199 : (.instanceMethod y_Mach_init : Cond) ∈ tb9 := List.mem_filter.mpr ⟨List.mem_of_getElem? (i := 199) (by decide +kernel), by decide +kernel⟩
theorem k_200 : (.code y_Mach_init b_Mach_init 1 none : Cond) ∈ tb9 := List.mem_filter.mpr ⟨List.mem_of_getElem? (i := 200) (by decide +kernel), by decide +kernel⟩
theorem k_201 : (.methodLink RX0 3 Lib.objectInit : Cond) ∈ tb9 := List.mem_filter.mpr ⟨List.mem_of_getElem? (i := 201) (by decide +kernel), by decide +kernel⟩
theorem k_240 : (.arrayClass .boolean : Cond) ∈ tb9 := List.mem_filter.mpr ⟨List.mem_of_getElem? (i := 240) (by decide +kernel), by decide +kernel⟩
theorem k_937 : (.methodLink RX6 1 Lib.objectInit : Cond) ∈ tb9 := List.mem_filter.mpr ⟨List.mem_of_getElem? (i := 937) (by decide +kernel), by decide +kernel⟩
theorem RA_inj {U : State} {a b : ClassId} {ty : FieldType} (h1 : va_RA U a ty) (h2 : va_RA U b ty) : a = b := by
  cases ty with
  | object C =>
    obtain ⟨_, _, _, _, _, h1⟩ := h1
    obtain ⟨_, _, _, _, _, h2⟩ := h2
    exact Option.some.inj (h1.symm.trans h2)
  | _ => exact Option.some.inj ((show U.vm.findClass _ = some a from h1).symm.trans h2)
section
variable {p : Program} {l : Launch} {e : Env} {R : Room} {s : State} {m : MethodId} {args : Array Value} {below : List Frame} {meth : Method} {c : Code} {H : Heap} {locs : List Loc} {cells slots : Nat} {Q : State → Prop}
variable {cc : ByteArray} {pc : Nat} {ls : Array Slot} {rest : List Value} {D : va_G} {cl : List vw_C} {A : Nat → Prop} {tys : List (ClassId × FieldType)} {ws : va_W} {H0 : Heap}
theorem newa9 (hexec : p.tables.exec = Jvm.exec) (hb : c.code = cc) {atype : ArrayType} (harr : (Cond.arrayClass (newarray.typeOf atype)).before args s = true) {ty : FieldType} (hty : newarray.typeOf atype = ty) (hK : va_K D cl tys s) (hP : va_P D cl ws H) (hD : va_D A ws) (hS : va_S A H0 H locs) (hA : ∀ q, H0.size ≤ q → A q) (t0 : Nat) {cT : ClassId} (ht : tys[t0]? = some (cT, ty))
    {n : Int32} {N' : Nat} {a0 : vp_A} (ha : ∀ cA : ClassId, vp_cell cA a0 = arrV cA N' (fun _ => defaultValue ty)) (hn : ¬ n < 0) (hN : n.toNatClampNeg = N') (hbytes : N' * componentBytes ty ≤ 536870912) (hcells : cells + 1 ≤ R.cells) (hslots : slots + N' ≤ R.slots) (hdg : decode cc pc = .ok (.newarray atype, 2))
    (kk : ∀ (q : Nat) (H1 : Heap), va_P D cl (ws ++ [(q, .inl (cT, a0))]) H1 → va_D A (ws ++ [(q, .inl (cT, a0))]) → va_S A H0 H1 locs →
      W p l e R s m args below meth c H1 locs (cells + 1) (slots + N') Q (F0 m (pc + 2) ls (.ref q :: rest))) : W p l e R s m args below meth c H locs cells slots Q (F0 m pc ls (.int n :: rest)) := by
  refine va_newa hexec hb harr hty hK hP hD hS hA ha hn hN hbytes hcells hslots hdg (fun q c1 H1 hK1 hP1 hD1 hS1 => ?_)
  have e1 : c1 = cT := RA_inj (hK1.2 tys.length (c1, ty) (by simp)).2 (hK.2 t0 _ ht).2
  rw [e1] at hP1 hD1
  exact kk q H1 hP1 hD1 hS1
theorem newq9 (hexec : p.tables.exec = Jvm.exec) (hb : c.code = cc) {own C : String} {index : Nat} (hown : s.vm.findClass own = some m.cls) (hclink : (Cond.classLink own index C).before args s = true) (hover : va_AO C s) (hK : va_K D cl tys s) (hP : va_P D cl ws H) (hD : va_D A ws) (hS : va_S A H0 H locs) (hA : ∀ q, H0.size ≤ q → A q) (t0 : Nat) {cT : ClassId} (ht : tys[t0]? = some (cT, .object C))
    {n : Int32} {N' : Nat} (hn : ¬ n < 0) (hN : n.toNatClampNeg = N') (hbytes : N' * 4 ≤ 536870912) (hcells : cells + 1 ≤ R.cells) (hslots : slots + N' ≤ R.slots) (hdg : decode cc pc = .ok (.anewarray index, 3))
    (kk : ∀ (q : Nat) (H1 : Heap), va_P D cl (ws ++ [(q, .inl (cT, N', .inr (.inr (.inr (.inr (fun _ => none))))))]) H1 → va_D A (ws ++ [(q, .inl (cT, N', .inr (.inr (.inr (.inr (fun _ => none))))))]) → va_S A H0 H1 locs →
      W p l e R s m args below meth c H1 locs (cells + 1) (slots + N') Q (F0 m (pc + 3) ls (.ref q :: rest))) : W p l e R s m args below meth c H locs cells slots Q (F0 m pc ls (.int n :: rest)) := by
  refine va_newq hexec hb hown hclink hover hK hP hD hS hA hn hN hbytes hcells hslots hdg (fun q c1 H1 hK1 hP1 hD1 hS1 => ?_)
  have e1 : c1 = cT := RA_inj (hK1.2 tys.length (c1, .object C) (by simp)).2 (hK.2 t0 _ ht).2
  rw [e1] at hP1 hD1
  exact kk q H1 hP1 hD1 hS1
end
def nestM : List (String × Nat × MethodName × String) := [("EmbedForge$Parser", 11, ⟨"EmbedForge$Net", "<init>", "()V"⟩, "EmbedForge"), ("EmbedForge$Parser", 34, ⟨"EmbedForge$Part", "<init>", "()V"⟩, "EmbedForge"), ("EmbedForge", 29, ⟨"EmbedForge$Walk", "<init>", "()V"⟩, "EmbedForge"), ("EmbedForge", 36, ⟨"EmbedForge$Machine", "<init>", "()V"⟩, "EmbedForge")]
def nestML : List Cond := nestM.map fun x => .methodLinkNest x.1 x.2.1 x.2.2.1 x.2.2.2
/-- what the constructors want: links to nest mates' constructors, the class of arrays of parts -/
def cW (U : State) : Prop := (∀ w ∈ nestML, va_Nw w U) ∧ va_AO "EmbedForge$Part" U
theorem cW_warm {s U : State} (hW : s.WarmedH U.vm) (h : cW s) : cW U := by
  refine ⟨fun w hw => ?_, h.2.moved hW.alike⟩
  obtain ⟨x, hx, rfl⟩ := List.mem_map.mp hw
  exact va_Nw.warmM hW (h.1 _ hw)
theorem cW_same {u U : State} (hv : u.vm.Alike U.vm) (e : u.vm = U.vm) (h : cW u) : cW U := by
  refine ⟨fun w hw => ?_, h.2.moved hv⟩
  obtain ⟨x, hx, rfl⟩ := List.mem_map.mp hw
  exact va_Nw.same rfl e (h.1 _ hw)
theorem nm_0 : (.methodLinkNest RX2 11 y_Net_init "EmbedForge" : Cond) ∈ nestML := List.mem_of_getElem? (i := 0) (by decide +kernel)
theorem nm_1 : (.methodLinkNest RX2 34 y_Part_init "EmbedForge" : Cond) ∈ nestML := List.mem_of_getElem? (i := 1) (by decide +kernel)
theorem nm_2 : (.methodLinkNest RX5 29 y_Walk_init "EmbedForge" : Cond) ∈ nestML := List.mem_of_getElem? (i := 2) (by decide +kernel)
theorem nm_3 : (.methodLinkNest RX5 36 y_Mach_init "EmbedForge" : Cond) ∈ nestML := List.mem_of_getElem? (i := 3) (by decide +kernel)
theorem d_Part_init_0 : decode b_Part_init 0 = .ok (.aload_n 0, 1) := by decide +kernel
theorem d_Part_init_1 : decode b_Part_init 1 = .ok (.invokespecial 1, 3) := by decide +kernel
theorem d_Part_init_4 : decode b_Part_init 4 = .ok (.return_, 1) := by decide +kernel
theorem d_Walk_init_0 : decode b_Walk_init 0 = .ok (.aload_n 0, 1) := by decide +kernel
theorem d_Walk_init_1 : decode b_Walk_init 1 = .ok (.invokespecial 3, 3) := by decide +kernel
theorem d_Walk_init_4 : decode b_Walk_init 4 = .ok (.aload_n 0, 1) := by decide +kernel
theorem d_Walk_init_5 : decode b_Walk_init 5 = .ok (.bipush 10, 2) := by decide +kernel
theorem d_Walk_init_7 : decode b_Walk_init 7 = .ok (.newarray .int, 2) := by decide +kernel
theorem d_Walk_init_9 : decode b_Walk_init 9 = .ok (.putfield 9, 3) := by decide +kernel
theorem d_Walk_init_12 : decode b_Walk_init 12 = .ok (.return_, 1) := by decide +kernel
theorem d_Net_init_0 : decode b_Net_init 0 = .ok (.aload_n 0, 1) := by decide +kernel
theorem d_Net_init_1 : decode b_Net_init 1 = .ok (.invokespecial 3, 3) := by decide +kernel
theorem d_Net_init_4 : decode b_Net_init 4 = .ok (.aload_n 0, 1) := by decide +kernel
theorem d_Net_init_5 : decode b_Net_init 5 = .ok (.iconst 4, 1) := by decide +kernel
theorem d_Net_init_6 : decode b_Net_init 6 = .ok (.newarray .int, 2) := by decide +kernel
theorem d_Net_init_8 : decode b_Net_init 8 = .ok (.putfield 9, 3) := by decide +kernel
theorem d_Net_init_11 : decode b_Net_init 11 = .ok (.aload_n 0, 1) := by decide +kernel
theorem d_Net_init_12 : decode b_Net_init 12 = .ok (.bipush 30, 2) := by decide +kernel
theorem d_Net_init_14 : decode b_Net_init 14 = .ok (.newarray .int, 2) := by decide +kernel
theorem d_Net_init_16 : decode b_Net_init 16 = .ok (.putfield 15, 3) := by decide +kernel
theorem d_Net_init_19 : decode b_Net_init 19 = .ok (.aload_n 0, 1) := by decide +kernel
theorem d_Net_init_20 : decode b_Net_init 20 = .ok (.bipush 30, 2) := by decide +kernel
theorem d_Net_init_22 : decode b_Net_init 22 = .ok (.newarray .int, 2) := by decide +kernel
theorem d_Net_init_24 : decode b_Net_init 24 = .ok (.putfield 18, 3) := by decide +kernel
theorem d_Net_init_27 : decode b_Net_init 27 = .ok (.aload_n 0, 1) := by decide +kernel
theorem d_Net_init_28 : decode b_Net_init 28 = .ok (.bipush 30, 2) := by decide +kernel
theorem d_Net_init_30 : decode b_Net_init 30 = .ok (.newarray .int, 2) := by decide +kernel
theorem d_Net_init_32 : decode b_Net_init 32 = .ok (.putfield 21, 3) := by decide +kernel
theorem d_Net_init_35 : decode b_Net_init 35 = .ok (.aload_n 0, 1) := by decide +kernel
theorem d_Net_init_36 : decode b_Net_init 36 = .ok (.sipush 900, 3) := by decide +kernel
theorem d_Net_init_39 : decode b_Net_init 39 = .ok (.newarray .int, 2) := by decide +kernel
theorem d_Net_init_41 : decode b_Net_init 41 = .ok (.putfield 24, 3) := by decide +kernel
theorem d_Net_init_44 : decode b_Net_init 44 = .ok (.return_, 1) := by decide +kernel
theorem d_Mach_init_0 : decode b_Mach_init 0 = .ok (.aload_n 0, 1) := by decide +kernel
theorem d_Mach_init_1 : decode b_Mach_init 1 = .ok (.invokespecial 3, 3) := by decide +kernel
theorem d_Mach_init_4 : decode b_Mach_init 4 = .ok (.aload_n 0, 1) := by decide +kernel
theorem d_Mach_init_5 : decode b_Mach_init 5 = .ok (.bipush 50, 2) := by decide +kernel
theorem d_Mach_init_7 : decode b_Mach_init 7 = .ok (.newarray .int, 2) := by decide +kernel
theorem d_Mach_init_9 : decode b_Mach_init 9 = .ok (.putfield 9, 3) := by decide +kernel
theorem d_Mach_init_12 : decode b_Mach_init 12 = .ok (.aload_n 0, 1) := by decide +kernel
theorem d_Mach_init_13 : decode b_Mach_init 13 = .ok (.sipush 200, 3) := by decide +kernel
theorem d_Mach_init_16 : decode b_Mach_init 16 = .ok (.newarray .int, 2) := by decide +kernel
theorem d_Mach_init_18 : decode b_Mach_init 18 = .ok (.putfield 15, 3) := by decide +kernel
theorem d_Mach_init_21 : decode b_Mach_init 21 = .ok (.aload_n 0, 1) := by decide +kernel
theorem d_Mach_init_22 : decode b_Mach_init 22 = .ok (.sipush 200, 3) := by decide +kernel
theorem d_Mach_init_25 : decode b_Mach_init 25 = .ok (.newarray .int, 2) := by decide +kernel
theorem d_Mach_init_27 : decode b_Mach_init 27 = .ok (.putfield 18, 3) := by decide +kernel
theorem d_Mach_init_30 : decode b_Mach_init 30 = .ok (.aload_n 0, 1) := by decide +kernel
theorem d_Mach_init_31 : decode b_Mach_init 31 = .ok (.bipush 50, 2) := by decide +kernel
theorem d_Mach_init_33 : decode b_Mach_init 33 = .ok (.newarray .boolean, 2) := by decide +kernel
theorem d_Mach_init_35 : decode b_Mach_init 35 = .ok (.putfield 21, 3) := by decide +kernel
theorem d_Mach_init_38 : decode b_Mach_init 38 = .ok (.aload_n 0, 1) := by decide +kernel
theorem d_Mach_init_39 : decode b_Mach_init 39 = .ok (.bipush 50, 2) := by decide +kernel
theorem d_Mach_init_41 : decode b_Mach_init 41 = .ok (.newarray .int, 2) := by decide +kernel
theorem d_Mach_init_43 : decode b_Mach_init 43 = .ok (.putfield 25, 3) := by decide +kernel
theorem d_Mach_init_46 : decode b_Mach_init 46 = .ok (.aload_n 0, 1) := by decide +kernel
theorem d_Mach_init_47 : decode b_Mach_init 47 = .ok (.bipush 50, 2) := by decide +kernel
theorem d_Mach_init_49 : decode b_Mach_init 49 = .ok (.newarray .int, 2) := by decide +kernel
theorem d_Mach_init_51 : decode b_Mach_init 51 = .ok (.putfield 28, 3) := by decide +kernel
theorem d_Mach_init_54 : decode b_Mach_init 54 = .ok (.aload_n 0, 1) := by decide +kernel
theorem d_Mach_init_55 : decode b_Mach_init 55 = .ok (.bipush 50, 2) := by decide +kernel
theorem d_Mach_init_57 : decode b_Mach_init 57 = .ok (.newarray .int, 2) := by decide +kernel
theorem d_Mach_init_59 : decode b_Mach_init 59 = .ok (.putfield 31, 3) := by decide +kernel
theorem d_Mach_init_62 : decode b_Mach_init 62 = .ok (.return_, 1) := by decide +kernel
theorem d_Pars_init_0 : decode b_Pars_init 0 = .ok (.aload_n 0, 1) := by decide +kernel
theorem d_Pars_init_1 : decode b_Pars_init 1 = .ok (.invokespecial 3, 3) := by decide +kernel
theorem d_Pars_init_4 : decode b_Pars_init 4 = .ok (.aload_n 0, 1) := by decide +kernel
theorem d_Pars_init_5 : decode b_Pars_init 5 = .ok (.new 9, 3) := by decide +kernel
theorem d_Pars_init_8 : decode b_Pars_init 8 = .ok (.dup, 1) := by decide +kernel
theorem d_Pars_init_9 : decode b_Pars_init 9 = .ok (.invokespecial 11, 3) := by decide +kernel
theorem d_Pars_init_12 : decode b_Pars_init 12 = .ok (.putfield 12, 3) := by decide +kernel
theorem d_Pars_init_15 : decode b_Pars_init 15 = .ok (.aload_n 0, 1) := by decide +kernel
theorem d_Pars_init_16 : decode b_Pars_init 16 = .ok (.bipush 9, 2) := by decide +kernel
theorem d_Pars_init_18 : decode b_Pars_init 18 = .ok (.anewarray 18, 3) := by decide +kernel
theorem d_Pars_init_21 : decode b_Pars_init 21 = .ok (.putfield 20, 3) := by decide +kernel
theorem d_Pars_init_24 : decode b_Pars_init 24 = .ok (.aload_n 0, 1) := by decide +kernel
theorem d_Pars_init_25 : decode b_Pars_init 25 = .ok (.bipush 9, 2) := by decide +kernel
theorem d_Pars_init_27 : decode b_Pars_init 27 = .ok (.anewarray 18, 3) := by decide +kernel
theorem d_Pars_init_30 : decode b_Pars_init 30 = .ok (.putfield 24, 3) := by decide +kernel
theorem d_Pars_init_33 : decode b_Pars_init 33 = .ok (.aload_n 0, 1) := by decide +kernel
theorem d_Pars_init_34 : decode b_Pars_init 34 = .ok (.bipush 9, 2) := by decide +kernel
theorem d_Pars_init_36 : decode b_Pars_init 36 = .ok (.anewarray 18, 3) := by decide +kernel
theorem d_Pars_init_39 : decode b_Pars_init 39 = .ok (.putfield 27, 3) := by decide +kernel
theorem d_Pars_init_42 : decode b_Pars_init 42 = .ok (.aload_n 0, 1) := by decide +kernel
theorem d_Pars_init_43 : decode b_Pars_init 43 = .ok (.iconst 0, 1) := by decide +kernel
theorem d_Pars_init_44 : decode b_Pars_init 44 = .ok (.newarray .char, 2) := by decide +kernel
theorem d_Pars_init_46 : decode b_Pars_init 46 = .ok (.putfield 30, 3) := by decide +kernel
theorem d_Pars_init_49 : decode b_Pars_init 49 = .ok (.iconst 0, 1) := by decide +kernel
theorem d_Pars_init_50 : decode b_Pars_init 50 = .ok (.istore_n 1, 1) := by decide +kernel
theorem d_Pars_init_51 : decode b_Pars_init 51 = .ok (.iload_n 1, 1) := by decide +kernel
theorem d_Pars_init_52 : decode b_Pars_init 52 = .ok (.bipush 8, 2) := by decide +kernel
theorem d_Pars_init_54 : decode b_Pars_init 54 = .ok (.if_icmp .gt 48, 3) := by decide +kernel
theorem d_Pars_init_57 : decode b_Pars_init 57 = .ok (.aload_n 0, 1) := by decide +kernel
theorem d_Pars_init_58 : decode b_Pars_init 58 = .ok (.getfield 20, 3) := by decide +kernel
theorem d_Pars_init_61 : decode b_Pars_init 61 = .ok (.iload_n 1, 1) := by decide +kernel
theorem d_Pars_init_62 : decode b_Pars_init 62 = .ok (.new 18, 3) := by decide +kernel
theorem d_Pars_init_65 : decode b_Pars_init 65 = .ok (.dup, 1) := by decide +kernel
theorem d_Pars_init_66 : decode b_Pars_init 66 = .ok (.invokespecial 34, 3) := by decide +kernel
theorem d_Pars_init_69 : decode b_Pars_init 69 = .ok (.aastore, 1) := by decide +kernel
theorem d_Pars_init_70 : decode b_Pars_init 70 = .ok (.aload_n 0, 1) := by decide +kernel
theorem d_Pars_init_71 : decode b_Pars_init 71 = .ok (.getfield 24, 3) := by decide +kernel
theorem d_Pars_init_74 : decode b_Pars_init 74 = .ok (.iload_n 1, 1) := by decide +kernel
theorem d_Pars_init_75 : decode b_Pars_init 75 = .ok (.new 18, 3) := by decide +kernel
theorem d_Pars_init_78 : decode b_Pars_init 78 = .ok (.dup, 1) := by decide +kernel
theorem d_Pars_init_79 : decode b_Pars_init 79 = .ok (.invokespecial 34, 3) := by decide +kernel
theorem d_Pars_init_82 : decode b_Pars_init 82 = .ok (.aastore, 1) := by decide +kernel
theorem d_Pars_init_83 : decode b_Pars_init 83 = .ok (.aload_n 0, 1) := by decide +kernel
theorem d_Pars_init_84 : decode b_Pars_init 84 = .ok (.getfield 27, 3) := by decide +kernel
theorem d_Pars_init_87 : decode b_Pars_init 87 = .ok (.iload_n 1, 1) := by decide +kernel
theorem d_Pars_init_88 : decode b_Pars_init 88 = .ok (.new 18, 3) := by decide +kernel
theorem d_Pars_init_91 : decode b_Pars_init 91 = .ok (.dup, 1) := by decide +kernel
theorem d_Pars_init_92 : decode b_Pars_init 92 = .ok (.invokespecial 34, 3) := by decide +kernel
theorem d_Pars_init_95 : decode b_Pars_init 95 = .ok (.aastore, 1) := by decide +kernel
theorem d_Pars_init_96 : decode b_Pars_init 96 = .ok (.iinc 1 1, 3) := by decide +kernel
theorem d_Pars_init_99 : decode b_Pars_init 99 = .ok (.goto (-48), 3) := by decide +kernel
theorem d_Pars_init_102 : decode b_Pars_init 102 = .ok (.return_, 1) := by decide +kernel
theorem d_EF_init_0 : decode b_EF_init 0 = .ok (.aload_n 0, 1) := by decide +kernel
theorem d_EF_init_1 : decode b_EF_init 1 = .ok (.invokespecial 1, 3) := by decide +kernel
theorem d_EF_init_4 : decode b_EF_init 4 = .ok (.aload_n 0, 1) := by decide +kernel
theorem d_EF_init_5 : decode b_EF_init 5 = .ok (.bipush 80, 2) := by decide +kernel
theorem d_EF_init_7 : decode b_EF_init 7 = .ok (.newarray .char, 2) := by decide +kernel
theorem d_EF_init_9 : decode b_EF_init 9 = .ok (.putfield 9, 3) := by decide +kernel
theorem d_EF_init_12 : decode b_EF_init 12 = .ok (.aload_n 0, 1) := by decide +kernel
theorem d_EF_init_13 : decode b_EF_init 13 = .ok (.iconst 0, 1) := by decide +kernel
theorem d_EF_init_14 : decode b_EF_init 14 = .ok (.putfield 13, 3) := by decide +kernel
theorem d_EF_init_17 : decode b_EF_init 17 = .ok (.aload_n 0, 1) := by decide +kernel
theorem d_EF_init_18 : decode b_EF_init 18 = .ok (.bipush (-2), 2) := by decide +kernel
theorem d_EF_init_20 : decode b_EF_init 20 = .ok (.putfield 17, 3) := by decide +kernel
theorem d_EF_init_23 : decode b_EF_init 23 = .ok (.aload_n 0, 1) := by decide +kernel
theorem d_EF_init_24 : decode b_EF_init 24 = .ok (.new 20, 3) := by decide +kernel
theorem d_EF_init_27 : decode b_EF_init 27 = .ok (.dup, 1) := by decide +kernel
theorem d_EF_init_28 : decode b_EF_init 28 = .ok (.invokespecial 22, 3) := by decide +kernel
theorem d_EF_init_31 : decode b_EF_init 31 = .ok (.putfield 23, 3) := by decide +kernel
theorem d_EF_init_34 : decode b_EF_init 34 = .ok (.aload_n 0, 1) := by decide +kernel
theorem d_EF_init_35 : decode b_EF_init 35 = .ok (.new 27, 3) := by decide +kernel
theorem d_EF_init_38 : decode b_EF_init 38 = .ok (.dup, 1) := by decide +kernel
theorem d_EF_init_39 : decode b_EF_init 39 = .ok (.invokespecial 29, 3) := by decide +kernel
theorem d_EF_init_42 : decode b_EF_init 42 = .ok (.putfield 30, 3) := by decide +kernel
theorem d_EF_init_45 : decode b_EF_init 45 = .ok (.aload_n 0, 1) := by decide +kernel
theorem d_EF_init_46 : decode b_EF_init 46 = .ok (.new 34, 3) := by decide +kernel
theorem d_EF_init_49 : decode b_EF_init 49 = .ok (.dup, 1) := by decide +kernel
theorem d_EF_init_50 : decode b_EF_init 50 = .ok (.invokespecial 36, 3) := by decide +kernel
theorem d_EF_init_53 : decode b_EF_init 53 = .ok (.putfield 37, 3) := by decide +kernel
theorem d_EF_init_56 : decode b_EF_init 56 = .ok (.aload_n 0, 1) := by decide +kernel
theorem d_EF_init_57 : decode b_EF_init 57 = .ok (.new 34, 3) := by decide +kernel
theorem d_EF_init_60 : decode b_EF_init 60 = .ok (.dup, 1) := by decide +kernel
theorem d_EF_init_61 : decode b_EF_init 61 = .ok (.invokespecial 36, 3) := by decide +kernel
theorem d_EF_init_64 : decode b_EF_init 64 = .ok (.putfield 41, 3) := by decide +kernel
theorem d_EF_init_67 : decode b_EF_init 67 = .ok (.return_, 1) := by decide +kernel
theorem d_M_init_0 : decode b_M_init 0 = .ok (.aload_n 0, 1) := by decide +kernel
theorem d_M_init_1 : decode b_M_init 1 = .ok (.invokespecial 1, 3) := by decide +kernel
theorem d_M_init_4 : decode b_M_init 4 = .ok (.aload_n 0, 1) := by decide +kernel
theorem d_M_init_5 : decode b_M_init 5 = .ok (.bipush 80, 2) := by decide +kernel
theorem d_M_init_7 : decode b_M_init 7 = .ok (.newarray .int, 2) := by decide +kernel
theorem d_M_init_9 : decode b_M_init 9 = .ok (.putfield 7, 3) := by decide +kernel
theorem d_M_init_12 : decode b_M_init 12 = .ok (.aload_n 0, 1) := by decide +kernel
theorem d_M_init_13 : decode b_M_init 13 = .ok (.bipush (-2), 2) := by decide +kernel
theorem d_M_init_15 : decode b_M_init 15 = .ok (.putfield 13, 3) := by decide +kernel
theorem d_M_init_18 : decode b_M_init 18 = .ok (.aload_n 0, 1) := by decide +kernel
theorem d_M_init_19 : decode b_M_init 19 = .ok (.bipush 30, 2) := by decide +kernel
theorem d_M_init_21 : decode b_M_init 21 = .ok (.newarray .boolean, 2) := by decide +kernel
theorem d_M_init_23 : decode b_M_init 23 = .ok (.putfield 17, 3) := by decide +kernel
theorem d_M_init_26 : decode b_M_init 26 = .ok (.aload_n 0, 1) := by decide +kernel
theorem d_M_init_27 : decode b_M_init 27 = .ok (.bipush 30, 2) := by decide +kernel
theorem d_M_init_29 : decode b_M_init 29 = .ok (.newarray .boolean, 2) := by decide +kernel
theorem d_M_init_31 : decode b_M_init 31 = .ok (.putfield 21, 3) := by decide +kernel
theorem d_M_init_34 : decode b_M_init 34 = .ok (.aload_n 0, 1) := by decide +kernel
theorem d_M_init_35 : decode b_M_init 35 = .ok (.bipush 30, 2) := by decide +kernel
theorem d_M_init_37 : decode b_M_init 37 = .ok (.newarray .int, 2) := by decide +kernel
theorem d_M_init_39 : decode b_M_init 39 = .ok (.putfield 24, 3) := by decide +kernel
theorem d_M_init_42 : decode b_M_init 42 = .ok (.aload_n 0, 1) := by decide +kernel
theorem d_M_init_43 : decode b_M_init 43 = .ok (.bipush 30, 2) := by decide +kernel
theorem d_M_init_45 : decode b_M_init 45 = .ok (.newarray .int, 2) := by decide +kernel
theorem d_M_init_47 : decode b_M_init 47 = .ok (.putfield 27, 3) := by decide +kernel
theorem d_M_init_50 : decode b_M_init 50 = .ok (.aload_n 0, 1) := by decide +kernel
theorem d_M_init_51 : decode b_M_init 51 = .ok (.bipush 30, 2) := by decide +kernel
theorem d_M_init_53 : decode b_M_init 53 = .ok (.newarray .int, 2) := by decide +kernel
theorem d_M_init_55 : decode b_M_init 55 = .ok (.putfield 30, 3) := by decide +kernel
theorem d_M_init_58 : decode b_M_init 58 = .ok (.aload_n 0, 1) := by decide +kernel
theorem d_M_init_59 : decode b_M_init 59 = .ok (.bipush 30, 2) := by decide +kernel
theorem d_M_init_61 : decode b_M_init 61 = .ok (.newarray .int, 2) := by decide +kernel
theorem d_M_init_63 : decode b_M_init 63 = .ok (.putfield 33, 3) := by decide +kernel
theorem d_M_init_66 : decode b_M_init 66 = .ok (.aload_n 0, 1) := by decide +kernel
theorem d_M_init_67 : decode b_M_init 67 = .ok (.sipush 900, 3) := by decide +kernel
theorem d_M_init_70 : decode b_M_init 70 = .ok (.newarray .int, 2) := by decide +kernel
theorem d_M_init_72 : decode b_M_init 72 = .ok (.putfield 36, 3) := by decide +kernel
theorem d_M_init_75 : decode b_M_init 75 = .ok (.aload_n 0, 1) := by decide +kernel
theorem d_M_init_76 : decode b_M_init 76 = .ok (.sipush 900, 3) := by decide +kernel
theorem d_M_init_79 : decode b_M_init 79 = .ok (.newarray .int, 2) := by decide +kernel
theorem d_M_init_81 : decode b_M_init 81 = .ok (.putfield 39, 3) := by decide +kernel
theorem d_M_init_84 : decode b_M_init 84 = .ok (.aload_n 0, 1) := by decide +kernel
theorem d_M_init_85 : decode b_M_init 85 = .ok (.bipush 30, 2) := by decide +kernel
theorem d_M_init_87 : decode b_M_init 87 = .ok (.newarray .int, 2) := by decide +kernel
theorem d_M_init_89 : decode b_M_init 89 = .ok (.putfield 42, 3) := by decide +kernel
theorem d_M_init_92 : decode b_M_init 92 = .ok (.aload_n 0, 1) := by decide +kernel
theorem d_M_init_93 : decode b_M_init 93 = .ok (.sipush 900, 3) := by decide +kernel
theorem d_M_init_96 : decode b_M_init 96 = .ok (.newarray .int, 2) := by decide +kernel
theorem d_M_init_98 : decode b_M_init 98 = .ok (.putfield 45, 3) := by decide +kernel
theorem d_M_init_101 : decode b_M_init 101 = .ok (.aload_n 0, 1) := by decide +kernel
theorem d_M_init_102 : decode b_M_init 102 = .ok (.sipush 900, 3) := by decide +kernel
theorem d_M_init_105 : decode b_M_init 105 = .ok (.newarray .boolean, 2) := by decide +kernel
theorem d_M_init_107 : decode b_M_init 107 = .ok (.putfield 48, 3) := by decide +kernel
theorem d_M_init_110 : decode b_M_init 110 = .ok (.aload_n 0, 1) := by decide +kernel
theorem d_M_init_111 : decode b_M_init 111 = .ok (.bipush 51, 2) := by decide +kernel
theorem d_M_init_113 : decode b_M_init 113 = .ok (.newarray .int, 2) := by decide +kernel
theorem d_M_init_115 : decode b_M_init 115 = .ok (.putfield 51, 3) := by decide +kernel
theorem d_M_init_118 : decode b_M_init 118 = .ok (.aload_n 0, 1) := by decide +kernel
theorem d_M_init_119 : decode b_M_init 119 = .ok (.sipush 200, 3) := by decide +kernel
theorem d_M_init_122 : decode b_M_init 122 = .ok (.newarray .int, 2) := by decide +kernel
theorem d_M_init_124 : decode b_M_init 124 = .ok (.putfield 54, 3) := by decide +kernel
theorem d_M_init_127 : decode b_M_init 127 = .ok (.aload_n 0, 1) := by decide +kernel
theorem d_M_init_128 : decode b_M_init 128 = .ok (.sipush 200, 3) := by decide +kernel
theorem d_M_init_131 : decode b_M_init 131 = .ok (.newarray .int, 2) := by decide +kernel
theorem d_M_init_133 : decode b_M_init 133 = .ok (.putfield 57, 3) := by decide +kernel
theorem d_M_init_136 : decode b_M_init 136 = .ok (.aload_n 0, 1) := by decide +kernel
theorem d_M_init_137 : decode b_M_init 137 = .ok (.bipush 50, 2) := by decide +kernel
theorem d_M_init_139 : decode b_M_init 139 = .ok (.newarray .int, 2) := by decide +kernel
theorem d_M_init_141 : decode b_M_init 141 = .ok (.putfield 60, 3) := by decide +kernel
theorem d_M_init_144 : decode b_M_init 144 = .ok (.aload_n 0, 1) := by decide +kernel
theorem d_M_init_145 : decode b_M_init 145 = .ok (.bipush 50, 2) := by decide +kernel
theorem d_M_init_147 : decode b_M_init 147 = .ok (.newarray .int, 2) := by decide +kernel
theorem d_M_init_149 : decode b_M_init 149 = .ok (.putfield 63, 3) := by decide +kernel
theorem d_M_init_152 : decode b_M_init 152 = .ok (.aload_n 0, 1) := by decide +kernel
theorem d_M_init_153 : decode b_M_init 153 = .ok (.bipush 50, 2) := by decide +kernel
theorem d_M_init_155 : decode b_M_init 155 = .ok (.newarray .int, 2) := by decide +kernel
theorem d_M_init_157 : decode b_M_init 157 = .ok (.putfield 66, 3) := by decide +kernel
theorem d_M_init_160 : decode b_M_init 160 = .ok (.aload_n 0, 1) := by decide +kernel
theorem d_M_init_161 : decode b_M_init 161 = .ok (.bipush 50, 2) := by decide +kernel
theorem d_M_init_163 : decode b_M_init 163 = .ok (.newarray .boolean, 2) := by decide +kernel
theorem d_M_init_165 : decode b_M_init 165 = .ok (.putfield 69, 3) := by decide +kernel
theorem d_M_init_168 : decode b_M_init 168 = .ok (.aload_n 0, 1) := by decide +kernel
theorem d_M_init_169 : decode b_M_init 169 = .ok (.bipush 50, 2) := by decide +kernel
theorem d_M_init_171 : decode b_M_init 171 = .ok (.newarray .int, 2) := by decide +kernel
theorem d_M_init_173 : decode b_M_init 173 = .ok (.putfield 72, 3) := by decide +kernel
theorem d_M_init_176 : decode b_M_init 176 = .ok (.aload_n 0, 1) := by decide +kernel
theorem d_M_init_177 : decode b_M_init 177 = .ok (.sipush 200, 3) := by decide +kernel
theorem d_M_init_180 : decode b_M_init 180 = .ok (.newarray .int, 2) := by decide +kernel
theorem d_M_init_182 : decode b_M_init 182 = .ok (.putfield 75, 3) := by decide +kernel
theorem d_M_init_185 : decode b_M_init 185 = .ok (.aload_n 0, 1) := by decide +kernel
theorem d_M_init_186 : decode b_M_init 186 = .ok (.sipush 200, 3) := by decide +kernel
theorem d_M_init_189 : decode b_M_init 189 = .ok (.newarray .int, 2) := by decide +kernel
theorem d_M_init_191 : decode b_M_init 191 = .ok (.putfield 78, 3) := by decide +kernel
theorem d_M_init_194 : decode b_M_init 194 = .ok (.aload_n 0, 1) := by decide +kernel
theorem d_M_init_195 : decode b_M_init 195 = .ok (.bipush 50, 2) := by decide +kernel
theorem d_M_init_197 : decode b_M_init 197 = .ok (.newarray .int, 2) := by decide +kernel
theorem d_M_init_199 : decode b_M_init 199 = .ok (.putfield 81, 3) := by decide +kernel
theorem d_M_init_202 : decode b_M_init 202 = .ok (.aload_n 0, 1) := by decide +kernel
theorem d_M_init_203 : decode b_M_init 203 = .ok (.bipush 50, 2) := by decide +kernel
theorem d_M_init_205 : decode b_M_init 205 = .ok (.newarray .int, 2) := by decide +kernel
theorem d_M_init_207 : decode b_M_init 207 = .ok (.putfield 84, 3) := by decide +kernel
theorem d_M_init_210 : decode b_M_init 210 = .ok (.aload_n 0, 1) := by decide +kernel
theorem d_M_init_211 : decode b_M_init 211 = .ok (.bipush 10, 2) := by decide +kernel
theorem d_M_init_213 : decode b_M_init 213 = .ok (.newarray .int, 2) := by decide +kernel
theorem d_M_init_215 : decode b_M_init 215 = .ok (.putfield 87, 3) := by decide +kernel
theorem d_M_init_218 : decode b_M_init 218 = .ok (.aload_n 0, 1) := by decide +kernel
theorem d_M_init_219 : decode b_M_init 219 = .ok (.bipush 50, 2) := by decide +kernel
theorem d_M_init_221 : decode b_M_init 221 = .ok (.newarray .boolean, 2) := by decide +kernel
theorem d_M_init_223 : decode b_M_init 223 = .ok (.putfield 90, 3) := by decide +kernel
theorem d_M_init_226 : decode b_M_init 226 = .ok (.return_, 1) := by decide +kernel
