def RX0 : String := "EmbedForge$Machine"
def TX0 : u_T := fun k => match k with
  | 0 => ("EmbedForge$Machine", "states", "I", false)
  | 1 => ("EmbedForge$Machine", "positions", "I", false)
  | 2 => ("EmbedForge$Machine", "classCount", "I", false)
  | 3 => ("EmbedForge$Machine", "sets", "[I", true)
  | 4 => ("EmbedForge$Machine", "ways", "[I", true)
  | 5 => ("EmbedForge$Machine", "wayActions", "[I", true)
  | 6 => ("EmbedForge$Machine", "finals", "[Z", true)
  | 7 => ("EmbedForge$Machine", "endActions", "[I", true)
  | 8 => ("EmbedForge$Machine", "classes", "[I", true)
  | _ => ("EmbedForge$Machine", "finer", "[I", true)
def tyX0 : Nat → FieldType := fun k => match k with
  | 0 => .int
  | 1 => .int
  | 2 => .int
  | 3 => .array .int
  | 4 => .array .int
  | 5 => .array .int
  | 6 => .array .boolean
  | 7 => .array .int
  | 8 => .array .int
  | _ => .array .int
abbrev wsX00 : List Cond := u_ws RX0 TX0 10
theorem nmX0 : ∀ a, a < 10 → ∀ b, b < 10 → a ≠ b → (TX0 a).2.1 ≠ (TX0 b).2.1 := by decide +kernel
theorem tyX0_ok : ∀ k, k < 10 → parseFieldDescriptor (TX0 k).2.2.1 = some (tyX0 k) := by decide +kernel
def RX1 : String := "EmbedForge$Net"
def TX1 : u_T := fun k => match k with
  | 0 => ("EmbedForge$Net", "positions", "I", false)
  | 1 => ("EmbedForge$Net", "withLetter", "[I", true)
  | 2 => ("EmbedForge$Net", "firstActions", "[I", true)
  | 3 => ("EmbedForge$Net", "lastActions", "[I", true)
  | 4 => ("EmbedForge$Net", "steps", "[I", true)
  | _ => ("EmbedForge$Net", "stepActions", "[I", true)
def tyX1 : Nat → FieldType := fun k => match k with
  | 0 => .int
  | 1 => .array .int
  | 2 => .array .int
  | 3 => .array .int
  | 4 => .array .int
  | _ => .array .int
abbrev wsX10 : List Cond := u_ws RX1 TX1 6
theorem nmX1 : ∀ a, a < 6 → ∀ b, b < 6 → a ≠ b → (TX1 a).2.1 ≠ (TX1 b).2.1 := by decide +kernel
theorem tyX1_ok : ∀ k, k < 6 → parseFieldDescriptor (TX1 k).2.2.1 = some (tyX1 k) := by decide +kernel
def RX2 : String := "EmbedForge$Parser"
def TX2 : u_T := fun k => match k with
  | 0 => ("EmbedForge$Parser", "net", "LEmbedForge$Net;", true)
  | 1 => ("EmbedForge$Parser", "expressions", "[LEmbedForge$Part;", true)
  | 2 => ("EmbedForge$Parser", "terms", "[LEmbedForge$Part;", true)
  | 3 => ("EmbedForge$Parser", "factors", "[LEmbedForge$Part;", true)
  | 4 => ("EmbedForge$Parser", "row", "[C", false)
  | 5 => ("EmbedForge$Parser", "length", "I", false)
  | _ => ("EmbedForge$Parser", "at", "I", false)
def tyX2 : Nat → FieldType := fun k => match k with
  | 0 => .object "EmbedForge$Net"
  | 1 => .array (.object "EmbedForge$Part")
  | 2 => .array (.object "EmbedForge$Part")
  | 3 => .array (.object "EmbedForge$Part")
  | 4 => .array .char
  | 5 => .int
  | _ => .int
abbrev wsX20 : List Cond := u_ws RX2 TX2 7
theorem nmX2 : ∀ a, a < 7 → ∀ b, b < 7 → a ≠ b → (TX2 a).2.1 ≠ (TX2 b).2.1 := by decide +kernel
theorem tyX2_ok : ∀ k, k < 7 → parseFieldDescriptor (TX2 k).2.2.1 = some (tyX2 k) := by decide +kernel
def RX3 : String := "EmbedForge$Part"
def TX3 : u_T := fun k => match k with
  | 0 => ("EmbedForge$Part", "from", "I", false)
  | 1 => ("EmbedForge$Part", "first", "I", false)
  | 2 => ("EmbedForge$Part", "last", "I", false)
  | 3 => ("EmbedForge$Part", "empty", "Z", false)
  | _ => ("EmbedForge$Part", "nothing", "I", false)
def tyX3 : Nat → FieldType := fun k => match k with
  | 0 => .int
  | 1 => .int
  | 2 => .int
  | 3 => .boolean
  | _ => .int
abbrev wsX30 : List Cond := u_ws RX3 TX3 5
theorem nmX3 : ∀ a, a < 5 → ∀ b, b < 5 → a ≠ b → (TX3 a).2.1 ≠ (TX3 b).2.1 := by decide +kernel
theorem tyX3_ok : ∀ k, k < 5 → parseFieldDescriptor (TX3 k).2.2.1 = some (tyX3 k) := by decide +kernel
def RX4 : String := "EmbedForge$Walk"
def TX4 : u_T := fun k => match k with
  | 0 => ("EmbedForge$Walk", "at", "I", false)
  | 1 => ("EmbedForge$Walk", "ended", "Z", false)
  | 2 => ("EmbedForge$Walk", "fed", "I", false)
  | _ => ("EmbedForge$Walk", "done", "[I", true)
def tyX4 : Nat → FieldType := fun k => match k with
  | 0 => .int
  | 1 => .boolean
  | 2 => .int
  | _ => .array .int
abbrev wsX40 : List Cond := u_ws RX4 TX4 4
theorem nmX4 : ∀ a, a < 4 → ∀ b, b < 4 → a ≠ b → (TX4 a).2.1 ≠ (TX4 b).2.1 := by decide +kernel
theorem tyX4_ok : ∀ k, k < 4 → parseFieldDescriptor (TX4 k).2.2.1 = some (tyX4 k) := by decide +kernel
def RX5 : String := "EmbedForge"
def TX5 : u_T := fun k => match k with
  | 0 => ("EmbedForge", "row", "[C", true)
  | 1 => ("EmbedForge", "length", "I", false)
  | 2 => ("EmbedForge", "fault", "I", false)
  | 3 => ("EmbedForge", "parser", "LEmbedForge$Parser;", true)
  | 4 => ("EmbedForge", "walk", "LEmbedForge$Walk;", true)
  | 5 => ("EmbedForge", "machine", "LEmbedForge$Machine;", false)
  | _ => ("EmbedForge", "spare", "LEmbedForge$Machine;", false)
def tyX5 : Nat → FieldType := fun k => match k with
  | 0 => .array .char
  | 1 => .int
  | 2 => .int
  | 3 => .object "EmbedForge$Parser"
  | 4 => .object "EmbedForge$Walk"
  | 5 => .object "EmbedForge$Machine"
  | _ => .object "EmbedForge$Machine"
abbrev wsX50 : List Cond := u_ws RX5 TX5 7
theorem nmX5 : ∀ a, a < 7 → ∀ b, b < 7 → a ≠ b → (TX5 a).2.1 ≠ (TX5 b).2.1 := by decide +kernel
theorem tyX5_ok : ∀ k, k < 7 → parseFieldDescriptor (TX5 k).2.2.1 = some (tyX5 k) := by decide +kernel
def RX6 : String := "EmbedForgeModel"
def TX6 : u_T := fun k => match k with
  | 0 => ("EmbedForgeModel", "text", "[I", true)
  | 1 => ("EmbedForgeModel", "length", "I", false)
  | 2 => ("EmbedForgeModel", "where", "I", false)
  | 3 => ("EmbedForgeModel", "thrown", "I", false)
  | 4 => ("EmbedForgeModel", "at", "I", false)
  | 5 => ("EmbedForgeModel", "many", "I", false)
  | 6 => ("EmbedForgeModel", "bad", "Z", false)
  | 7 => ("EmbedForgeModel", "is", "[Z", true)
  | 8 => ("EmbedForgeModel", "empty", "[Z", true)
  | 9 => ("EmbedForgeModel", "from", "[I", true)
  | 10 => ("EmbedForgeModel", "nothing", "[I", true)
  | 11 => ("EmbedForgeModel", "first", "[I", true)
  | 12 => ("EmbedForgeModel", "last", "[I", true)
  | 13 => ("EmbedForgeModel", "firstDo", "[I", true)
  | 14 => ("EmbedForgeModel", "lastDo", "[I", true)
  | 15 => ("EmbedForgeModel", "letters", "[I", true)
  | 16 => ("EmbedForgeModel", "stepDo", "[I", true)
  | 17 => ("EmbedForgeModel", "step", "[Z", true)
  | 18 => ("EmbedForgeModel", "set", "[I", true)
  | 19 => ("EmbedForgeModel", "go", "[I", true)
  | 20 => ("EmbedForgeModel", "does", "[I", true)
  | 21 => ("EmbedForgeModel", "ends", "[I", true)
  | 22 => ("EmbedForgeModel", "group", "[I", true)
  | 23 => ("EmbedForgeModel", "other", "[I", true)
  | 24 => ("EmbedForgeModel", "last0", "[Z", true)
  | 25 => ("EmbedForgeModel", "size", "[I", true)
  | 26 => ("EmbedForgeModel", "way", "[I", true)
  | 27 => ("EmbedForgeModel", "action", "[I", true)
  | 28 => ("EmbedForgeModel", "endDo", "[I", true)
  | 29 => ("EmbedForgeModel", "alike", "[I", true)
  | 30 => ("EmbedForgeModel", "done", "[I", true)
  | 31 => ("EmbedForgeModel", "isFinal", "[Z", true)
  | 32 => ("EmbedForgeModel", "states", "I", false)
  | 33 => ("EmbedForgeModel", "positions", "I", false)
  | 34 => ("EmbedForgeModel", "now", "I", false)
  | 35 => ("EmbedForgeModel", "fed", "I", false)
  | 36 => ("EmbedForgeModel", "found", "I", false)
  | _ => ("EmbedForgeModel", "over", "Z", false)
def tyX6 : Nat → FieldType := fun k => match k with
  | 0 => .array .int
  | 1 => .int
  | 2 => .int
  | 3 => .int
  | 4 => .int
  | 5 => .int
  | 6 => .boolean
  | 7 => .array .boolean
  | 8 => .array .boolean
  | 9 => .array .int
  | 10 => .array .int
  | 11 => .array .int
  | 12 => .array .int
  | 13 => .array .int
  | 14 => .array .int
  | 15 => .array .int
  | 16 => .array .int
  | 17 => .array .boolean
  | 18 => .array .int
  | 19 => .array .int
  | 20 => .array .int
  | 21 => .array .int
  | 22 => .array .int
  | 23 => .array .int
  | 24 => .array .boolean
  | 25 => .array .int
  | 26 => .array .int
  | 27 => .array .int
  | 28 => .array .int
  | 29 => .array .int
  | 30 => .array .int
  | 31 => .array .boolean
  | 32 => .int
  | 33 => .int
  | 34 => .int
  | 35 => .int
  | 36 => .int
  | _ => .boolean
theorem nmX6 : ∀ a, a < 38 → ∀ b, b < 38 → a ≠ b → (TX6 a).2.1 ≠ (TX6 b).2.1 := by decide +kernel
theorem tyX6_ok : ∀ k, k < 38 → parseFieldDescriptor (TX6 k).2.2.1 = some (tyX6 k) := by decide +kernel
abbrev clA : List vw_C := [(RX0, TX0, 10), (RX1, TX1, 6), (RX2, TX2, 7), (RX3, TX3, 5), (RX4, TX4, 4), (RX5, TX5, 7), (RX6, TX6, 38)]
def RAr : String := "java/util/Arrays"
def RIn : String := "java/lang/Integer"
/-- the tables' good words -/
def tb9 : List Cond := lw_tbl.filter goodWord
theorem tb9_good {w : Cond} (h : w ∈ tb9) : (w.onTables && w.keeps) = true ∨ ∃ ty, w = .arrayClass ty := good_of_word (List.mem_filter.mp h).2
theorem gI9 {c0 : Cond} {y : MethodName} {b : ByteArray} {mx : Nat} {rt : Option FieldType} (h5 : Cond.code y b mx rt ∈ tb9) : GoodIn (c0 :: tb9) (.code y b mx rt :: tb9) := by
  intro w hw
  have h : w ∈ tb9 := by
    rcases List.mem_cons.mp hw with e | e
    · rw [e]; exact h5
    · exact e
  exact ⟨List.mem_cons_of_mem _ h, tb9_good h⟩
theorem gV9 {c0 : Cond} {own C : String} {idx : Nat} {y : MethodName} {b : ByteArray} {mx : Nat} {rt : Option FieldType} (h1 : Cond.methodLink own idx y ∈ tb9) (h2 : Cond.instanceMethod y ∈ tb9) (h3 : Cond.selects C y y ∈ tb9) (h4 : Cond.initialized C ∈ tb9) (h5 : Cond.code y b mx rt ∈ tb9) : GoodIn (c0 :: tb9) (wsV own idx C y (.code y b mx rt :: tb9)) := by
  intro w hw
  rcases List.mem_append.mp (show w ∈ ([.methodLink own idx y, .instanceMethod y, .selects C y y, .initialized C] : List Cond) ++ (.code y b mx rt :: tb9) from hw) with e | e
  · have h : w ∈ tb9 := by
      simp only [List.mem_cons, List.not_mem_nil, or_false] at e
      rcases e with e | e | e | e <;> rw [e] <;> assumption
    exact ⟨List.mem_cons_of_mem _ h, tb9_good h⟩
  · exact gI9 h5 w e
theorem gS9 {c0 : Cond} {own : String} {idx : Nat} {y : MethodName} {b : ByteArray} {mx : Nat} {rt : Option FieldType} (h1 : Cond.methodLink own idx y ∈ tb9) (h2 : Cond.static y ∈ tb9) (h4 : Cond.initialized y.cls ∈ tb9) (h5 : Cond.code y b mx rt ∈ tb9) : GoodIn (c0 :: tb9) (va_wsS own idx y (.code y b mx rt :: tb9)) := by
  intro w hw
  rcases List.mem_append.mp (show w ∈ ([.methodLink own idx y, .static y, .initialized y.cls] : List Cond) ++ (.code y b mx rt :: tb9) from hw) with e | e
  · have h : w ∈ tb9 := by
      simp only [List.mem_cons, List.not_mem_nil, or_false] at e
      rcases e with e | e | e <;> rw [e] <;> assumption
    exact ⟨List.mem_cons_of_mem _ h, tb9_good h⟩
  · exact gI9 h5 w e
theorem P_cg {D : va_G} {cl : List vw_C} {ws : va_W} {H H' : Heap} (e : H = H') (h : va_P D cl ws H) : va_P D cl ws H' := e ▸ h
theorem W_gen {p : Program} {l : Launch} {e : Env} {R : Room} {s : State} {m : MethodId} {args : Array Value} {below : List Frame} {meth : Method} {c : Code} {H : Heap} {locs : List Loc} {cells slots : Nat} {Q : State → Prop} {g : JFrame} (h : ∀ Qz : State → Prop, Qz = Q → W p l e R s m args below meth c H locs cells slots Qz g) : W p l e R s m args below meth c H locs cells slots Q g := h Q rfl
theorem W_end {p : Program} {l : Launch} {e : Env} {R : Room} {s : State} {m : MethodId} {args : Array Value} {below : List Frame} {meth : Method} {c : Code} {H : Heap} {locs : List Loc} {cells slots : Nat} {Q Qz : State → Prop} {g : JFrame} (e9 : Qz = Q) (h : W p l e R s m args below meth c H locs cells slots Q g) : W p l e R s m args below meth c H locs cells slots Qz g := e9 ▸ h
/-- links to a nest mate's fields -/
def nestF : List (String × Nat × String × String × String × String) := [("EmbedForge$Machine", 34, "EmbedForge$Net", "positions", "I", "EmbedForge"), ("EmbedForge$Machine", 60, "EmbedForge$Net", "withLetter", "[I", "EmbedForge"), ("EmbedForge$Machine", 67, "EmbedForge$Net", "steps", "[I", "EmbedForge"), ("EmbedForge$Net", 67, "EmbedForge$Part", "from", "I", "EmbedForge"), ("EmbedForge$Net", 46, "EmbedForge$Part", "first", "I", "EmbedForge"), ("EmbedForge$Machine", 55, "EmbedForge$Part", "first", "I", "EmbedForge"), ("EmbedForge$Net", 49, "EmbedForge$Part", "last", "I", "EmbedForge"), ("EmbedForge$Machine", 77, "EmbedForge$Part", "last", "I", "EmbedForge"), ("EmbedForge$Net", 52, "EmbedForge$Part", "empty", "Z", "EmbedForge"), ("EmbedForge$Machine", 80, "EmbedForge$Part", "empty", "Z", "EmbedForge"), ("EmbedForge$Net", 56, "EmbedForge$Part", "nothing", "I", "EmbedForge"), ("EmbedForge$Machine", 84, "EmbedForge$Part", "nothing", "I", "EmbedForge"), ("EmbedForge", 66, "EmbedForge$Parser", "net", "LEmbedForge$Net;", "EmbedForge"), ("EmbedForge", 124, "EmbedForge$Walk", "at", "I", "EmbedForge"), ("EmbedForge", 146, "EmbedForge$Walk", "ended", "Z", "EmbedForge"), ("EmbedForge", 150, "EmbedForge$Walk", "fed", "I", "EmbedForge"), ("EmbedForge", 137, "EmbedForge$Walk", "done", "[I", "EmbedForge"), ("EmbedForge", 85, "EmbedForge$Machine", "states", "I", "EmbedForge"), ("EmbedForge", 143, "EmbedForge$Machine", "positions", "I", "EmbedForge"), ("EmbedForge", 140, "EmbedForge$Machine", "classCount", "I", "EmbedForge"), ("EmbedForge", 112, "EmbedForge$Machine", "sets", "[I", "EmbedForge"), ("EmbedForge", 101, "EmbedForge$Machine", "finals", "[Z", "EmbedForge"), ("EmbedForge", 105, "EmbedForge$Machine", "endActions", "[I", "EmbedForge"), ("EmbedForge", 109, "EmbedForge$Machine", "classes", "[I", "EmbedForge")]
def nestL : List Cond := nestF.map fun x => .fieldLinkNest x.1 x.2.1 x.2.2.1 x.2.2.2.1 x.2.2.2.2.1 x.2.2.2.2.2
def nW (U : State) : Prop := ∀ w ∈ nestL, va_Nw w U
theorem nW_warm {s U : State} (hW : s.WarmedH U.vm) (h : nW s) : nW U := by
  intro w hw
  obtain ⟨x, hx, rfl⟩ := List.mem_map.mp hw
  exact va_Nw.warmF hW (h _ hw)
theorem nW_same {u U : State} (e : u.vm = U.vm) (h : nW u) : nW U := by
  intro w hw
  obtain ⟨x, hx, rfl⟩ := List.mem_map.mp hw
  exact va_Nw.same rfl e (h _ hw)
/-- kinds of arrays -/
abbrev tysA (cA : Nat → ClassId) : List (ClassId × FieldType) := [(cA 0, .int), (cA 1, .boolean), (cA 2, .char), (cA 3, .long), (cA 4, .object "EmbedForge$Part")]
def zb (v : Int32) : Prop := narrow .boolean (.int v) = .int v ∧ fits .boolean (.int v) = true
def zc (v : Int32) : Prop := narrow .char (.int v) = .int v ∧ fits .char (.int v) = true
/-- the parts, by their addresses -/
abbrev PT : Type := Int32 × Int32 × Int32 × Int32 × Int32
abbrev ptE (t : PT) : va_E := .inr (3, [.int t.1, .int t.2.1, .int t.2.2.1, .int t.2.2.2.1, .int t.2.2.2.2])
abbrev ptF (pf : Nat → PT) : Nat → va_E := fun q => ptE (pf q)
theorem ptF_up (pf : Nat → PT) (a : Nat) (t : PT) : ptF (va_up pf a t) = va_up (ptF pf) a (ptE t) := by
  funext q
  by_cases h : q = a
  · subst h; simp [va_up]
  · simp [va_up, h]
theorem ptF_set {D : va_G} {cl : List vw_C} {A : Nat → Prop} {X : va_W} {LP : List Nat} {pf : Nat → PT} {a k : Nat} {H : Heap} {t9 : PT} (hD : va_D A (X ++ va_pl LP (ptF pf))) (h : a ∈ LP) (hk : (X ++ va_pl LP (ptF pf))[k]? = some (a, ptF pf a)) (hP : va_P D cl ((X ++ va_pl LP (ptF pf)).set k (a, ptE t9)) H) : va_P D cl (X ++ va_pl LP (ptF (va_up pf a t9))) H := by
  rw [va_pl_set hD h hk] at hP
  rw [ptF_up]
  exact hP
theorem ptF_setD {A : Nat → Prop} {X : va_W} {LP : List Nat} {pf : Nat → PT} {a k : Nat} {t9 : PT} (hD : va_D A (X ++ va_pl LP (ptF pf))) (h : a ∈ LP) (hk : (X ++ va_pl LP (ptF pf))[k]? = some (a, ptF pf a)) (hP : va_D A ((X ++ va_pl LP (ptF pf)).set k (a, ptE t9))) : va_D A (X ++ va_pl LP (ptF (va_up pf a t9))) := by
  rw [va_pl_set hD h hk] at hP
  rw [ptF_up]
  exact hP
theorem in_X0 : ∀ w ∈ u_ws RX0 TX0 10, w ∈ tb9 := by decide +kernel
theorem in_X1 : ∀ w ∈ u_ws RX1 TX1 6, w ∈ tb9 := by decide +kernel
theorem in_X2 : ∀ w ∈ u_ws RX2 TX2 7, w ∈ tb9 := by decide +kernel
theorem in_X3 : ∀ w ∈ u_ws RX3 TX3 5, w ∈ tb9 := by decide +kernel
theorem in_X4 : ∀ w ∈ u_ws RX4 TX4 4, w ∈ tb9 := by decide +kernel
theorem in_X5 : ∀ w ∈ u_ws RX5 TX5 7, w ∈ tb9 := by decide +kernel
theorem in_X6 : ∀ w ∈ u_ws RX6 TX6 38, w ∈ tb9 := by decide +kernel
theorem nl_0 : (.fieldLinkNest RX0 34 "EmbedForge$Net" "positions" "I" "EmbedForge" : Cond) ∈ nestL := List.mem_of_getElem? (i := 0) (by decide +kernel)
theorem nl_1 : (.fieldLinkNest RX0 60 "EmbedForge$Net" "withLetter" "[I" "EmbedForge" : Cond) ∈ nestL := List.mem_of_getElem? (i := 1) (by decide +kernel)
theorem nl_2 : (.fieldLinkNest RX0 67 "EmbedForge$Net" "steps" "[I" "EmbedForge" : Cond) ∈ nestL := List.mem_of_getElem? (i := 2) (by decide +kernel)
theorem nl_3 : (.fieldLinkNest RX1 67 "EmbedForge$Part" "from" "I" "EmbedForge" : Cond) ∈ nestL := List.mem_of_getElem? (i := 3) (by decide +kernel)
theorem nl_4 : (.fieldLinkNest RX1 46 "EmbedForge$Part" "first" "I" "EmbedForge" : Cond) ∈ nestL := List.mem_of_getElem? (i := 4) (by decide +kernel)
theorem nl_5 : (.fieldLinkNest RX0 55 "EmbedForge$Part" "first" "I" "EmbedForge" : Cond) ∈ nestL := List.mem_of_getElem? (i := 5) (by decide +kernel)
theorem nl_6 : (.fieldLinkNest RX1 49 "EmbedForge$Part" "last" "I" "EmbedForge" : Cond) ∈ nestL := List.mem_of_getElem? (i := 6) (by decide +kernel)
theorem nl_7 : (.fieldLinkNest RX0 77 "EmbedForge$Part" "last" "I" "EmbedForge" : Cond) ∈ nestL := List.mem_of_getElem? (i := 7) (by decide +kernel)
theorem nl_8 : (.fieldLinkNest RX1 52 "EmbedForge$Part" "empty" "Z" "EmbedForge" : Cond) ∈ nestL := List.mem_of_getElem? (i := 8) (by decide +kernel)
theorem nl_9 : (.fieldLinkNest RX0 80 "EmbedForge$Part" "empty" "Z" "EmbedForge" : Cond) ∈ nestL := List.mem_of_getElem? (i := 9) (by decide +kernel)
theorem nl_10 : (.fieldLinkNest RX1 56 "EmbedForge$Part" "nothing" "I" "EmbedForge" : Cond) ∈ nestL := List.mem_of_getElem? (i := 10) (by decide +kernel)
theorem nl_11 : (.fieldLinkNest RX0 84 "EmbedForge$Part" "nothing" "I" "EmbedForge" : Cond) ∈ nestL := List.mem_of_getElem? (i := 11) (by decide +kernel)
theorem nl_12 : (.fieldLinkNest RX5 66 "EmbedForge$Parser" "net" "LEmbedForge$Net;" "EmbedForge" : Cond) ∈ nestL := List.mem_of_getElem? (i := 12) (by decide +kernel)
theorem nl_13 : (.fieldLinkNest RX5 124 "EmbedForge$Walk" "at" "I" "EmbedForge" : Cond) ∈ nestL := List.mem_of_getElem? (i := 13) (by decide +kernel)
theorem nl_14 : (.fieldLinkNest RX5 146 "EmbedForge$Walk" "ended" "Z" "EmbedForge" : Cond) ∈ nestL := List.mem_of_getElem? (i := 14) (by decide +kernel)
theorem nl_15 : (.fieldLinkNest RX5 150 "EmbedForge$Walk" "fed" "I" "EmbedForge" : Cond) ∈ nestL := List.mem_of_getElem? (i := 15) (by decide +kernel)
theorem nl_16 : (.fieldLinkNest RX5 137 "EmbedForge$Walk" "done" "[I" "EmbedForge" : Cond) ∈ nestL := List.mem_of_getElem? (i := 16) (by decide +kernel)
theorem nl_17 : (.fieldLinkNest RX5 85 "EmbedForge$Machine" "states" "I" "EmbedForge" : Cond) ∈ nestL := List.mem_of_getElem? (i := 17) (by decide +kernel)
theorem nl_18 : (.fieldLinkNest RX5 143 "EmbedForge$Machine" "positions" "I" "EmbedForge" : Cond) ∈ nestL := List.mem_of_getElem? (i := 18) (by decide +kernel)
theorem nl_19 : (.fieldLinkNest RX5 140 "EmbedForge$Machine" "classCount" "I" "EmbedForge" : Cond) ∈ nestL := List.mem_of_getElem? (i := 19) (by decide +kernel)
theorem nl_20 : (.fieldLinkNest RX5 112 "EmbedForge$Machine" "sets" "[I" "EmbedForge" : Cond) ∈ nestL := List.mem_of_getElem? (i := 20) (by decide +kernel)
theorem nl_21 : (.fieldLinkNest RX5 101 "EmbedForge$Machine" "finals" "[Z" "EmbedForge" : Cond) ∈ nestL := List.mem_of_getElem? (i := 21) (by decide +kernel)
theorem nl_22 : (.fieldLinkNest RX5 105 "EmbedForge$Machine" "endActions" "[I" "EmbedForge" : Cond) ∈ nestL := List.mem_of_getElem? (i := 22) (by decide +kernel)
theorem nl_23 : (.fieldLinkNest RX5 109 "EmbedForge$Machine" "classes" "[I" "EmbedForge" : Cond) ∈ nestL := List.mem_of_getElem? (i := 23) (by decide +kernel)
