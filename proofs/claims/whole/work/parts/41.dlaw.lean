def RL9 : String := "EmbedForgeLaw"
def ncL : List (String × String) := [("java/lang/IllegalStateException", "java/lang/IllegalArgumentException"), ("java/lang/UnsupportedOperationException", "java/lang/IllegalArgumentException"), ("java/util/NoSuchElementException", "java/lang/IllegalArgumentException"), ("java/lang/UnsupportedOperationException", "java/lang/IllegalStateException"), ("java/util/NoSuchElementException", "java/lang/IllegalStateException")]
/-- which exceptions a handler of another class leaves alone -/
def lW (U : State) : Prop := ∀ x ∈ ncL, va_Nc x.1 x.2 U
theorem lW_moved {u U : State} (hv : u.vm.Alike U.vm) (h : lW u) : lW U := fun x hx => (h x hx).moved hv
abbrev b_L_text : ByteArray := method_3_code
def y_L_text : MethodName := ⟨"EmbedForgeLaw", "text", "(LEmbedForge;J[J)I"⟩
def ws_L_text : List Cond := .codeWith y_L_text b_L_text 5 (Option.some FieldType.int) [(0, 9, 12, 13), (0, 9, 16, 15)] :: tb9
theorem hs_L_text : y_L_text.cls ≠ "java/lang/invoke/MethodHandle" ∧ y_L_text.cls ≠ "java/lang/invoke/VarHandle" ∧ (parseMethodDescriptor y_L_text.desc).map (fun d => d.parameters.length) = some 3 := by decide +kernel
abbrev b_L_way : ByteArray := method_5_code
def y_L_way : MethodName := ⟨"EmbedForgeLaw", "way", "(LEmbedForge;II[J)I"⟩
def ws_L_way : List Cond := .codeWith y_L_way b_L_way 5 (Option.some FieldType.int) [(0, 10, 13, 13), (0, 10, 17, 27)] :: tb9
theorem hs_L_way : y_L_way.cls ≠ "java/lang/invoke/MethodHandle" ∧ y_L_way.cls ≠ "java/lang/invoke/VarHandle" ∧ (parseMethodDescriptor y_L_way.desc).map (fun d => d.parameters.length) = some 4 := by decide +kernel
abbrev b_L_actions : ByteArray := method_6_code
def y_L_actions : MethodName := ⟨"EmbedForgeLaw", "actions", "(LEmbedForge;II[J)I"⟩
def ws_L_actions : List Cond := .codeWith y_L_actions b_L_actions 5 (Option.some FieldType.int) [(0, 10, 13, 13), (0, 10, 17, 27)] :: tb9
theorem hs_L_actions : y_L_actions.cls ≠ "java/lang/invoke/MethodHandle" ∧ y_L_actions.cls ≠ "java/lang/invoke/VarHandle" ∧ (parseMethodDescriptor y_L_actions.desc).map (fun d => d.parameters.length) = some 4 := by decide +kernel
abbrev b_L_state : ByteArray := method_7_code
def y_L_state : MethodName := ⟨"EmbedForgeLaw", "state", "(LEmbedForge;II[J)I"⟩
def ws_L_state : List Cond := .codeWith y_L_state b_L_state 5 (Option.some FieldType.int) [(0, 10, 13, 13), (0, 10, 17, 27)] :: tb9
theorem hs_L_state : y_L_state.cls ≠ "java/lang/invoke/MethodHandle" ∧ y_L_state.cls ≠ "java/lang/invoke/VarHandle" ∧ (parseMethodDescriptor y_L_state.desc).map (fun d => d.parameters.length) = some 4 := by decide +kernel
abbrev b_L_feed : ByteArray := method_8_code
def y_L_feed : MethodName := ⟨"EmbedForgeLaw", "feed", "(LEmbedForge;I[J)I"⟩
def ws_L_feed : List Cond := .codeWith y_L_feed b_L_feed 4 (Option.some FieldType.int) [(0, 9, 12, 13), (0, 9, 15, 15), (0, 9, 18, 21)] :: tb9
theorem hs_L_feed : y_L_feed.cls ≠ "java/lang/invoke/MethodHandle" ∧ y_L_feed.cls ≠ "java/lang/invoke/VarHandle" ∧ (parseMethodDescriptor y_L_feed.desc).map (fun d => d.parameters.length) = some 3 := by decide +kernel
abbrev b_L_end : ByteArray := method_9_code
def y_L_end : MethodName := ⟨"EmbedForgeLaw", "end", "(LEmbedForge;[J)I"⟩
def ws_L_end : List Cond := .codeWith y_L_end b_L_end 3 (Option.some FieldType.int) [(0, 8, 11, 15), (0, 8, 14, 21)] :: tb9
theorem hs_L_end : y_L_end.cls ≠ "java/lang/invoke/MethodHandle" ∧ y_L_end.cls ≠ "java/lang/invoke/VarHandle" ∧ (parseMethodDescriptor y_L_end.desc).map (fun d => d.parameters.length) = some 2 := by decide +kernel
abbrev b_L_jump : ByteArray := method_10_code
def y_L_jump : MethodName := ⟨"EmbedForgeLaw", "jump", "(LEmbedForge;I[J)I"⟩
def ws_L_jump : List Cond := .codeWith y_L_jump b_L_jump 4 (Option.some FieldType.int) [(0, 9, 12, 15), (0, 9, 15, 27)] :: tb9
theorem hs_L_jump : y_L_jump.cls ≠ "java/lang/invoke/MethodHandle" ∧ y_L_jump.cls ≠ "java/lang/invoke/VarHandle" ∧ (parseMethodDescriptor y_L_jump.desc).map (fun d => d.parameters.length) = some 3 := by decide +kernel
abbrev b_L_count : ByteArray := method_11_code
def y_L_count : MethodName := ⟨"EmbedForgeLaw", "count", "(LEmbedForge;I[J)I"⟩
def ws_L_count : List Cond := .codeWith y_L_count b_L_count 4 (Option.some FieldType.int) [(0, 9, 12, 13)] :: tb9
theorem hs_L_count : y_L_count.cls ≠ "java/lang/invoke/MethodHandle" ∧ y_L_count.cls ≠ "java/lang/invoke/VarHandle" ∧ (parseMethodDescriptor y_L_count.desc).map (fun d => d.parameters.length) = some 3 := by decide +kernel
abbrev b_L_compile : ByteArray := method_4_code
def y_L_compile : MethodName := ⟨"EmbedForgeLaw", "compile", "(LEmbedForge;[J)I"⟩
def ws_L_compile : List Cond := .codeWith y_L_compile b_L_compile 3 (Option.some FieldType.int) [(0, 8, 11, 13), (0, 8, 14, 21)] :: tb9
theorem hs_L_compile : y_L_compile.cls ≠ "java/lang/invoke/MethodHandle" ∧ y_L_compile.cls ≠ "java/lang/invoke/VarHandle" ∧ (parseMethodDescriptor y_L_compile.desc).map (fun d => d.parameters.length) = some 2 := by decide +kernel
theorem k_274 : (.classLink RL9 13 "java/lang/IllegalArgumentException" : Cond) ∈ tb9 := List.mem_filter.mpr ⟨List.mem_of_getElem? (i := 274) (by decide +kernel), by decide +kernel⟩
theorem k_275 : (.classLink RL9 15 "java/lang/IllegalStateException" : Cond) ∈ tb9 := List.mem_filter.mpr ⟨List.mem_of_getElem? (i := 275) (by decide +kernel), by decide +kernel⟩
theorem k_276 : (.methodLink RL9 7 y_EF_text : Cond) ∈ tb9 := List.mem_filter.mpr ⟨List.mem_of_getElem? (i := 276) (by decide +kernel), by decide +kernel⟩
theorem k_277 : (.instanceMethod y_EF_text : Cond) ∈ tb9 := List.mem_filter.mpr ⟨List.mem_of_getElem? (i := 277) (by decide +kernel), by decide +kernel⟩
theorem k_278 : (.selects RX5 y_EF_text y_EF_text : Cond) ∈ tb9 := List.mem_filter.mpr ⟨List.mem_of_getElem? (i := 278) (by decide +kernel), by decide +kernel⟩
theorem k_279 : (.code y_EF_text b_EF_text 6 (Option.some FieldType.int) : Cond) ∈ tb9 := List.mem_filter.mpr ⟨List.mem_of_getElem? (i := 279) (by decide +kernel), by decide +kernel⟩
theorem k_370 : (.classLink RL9 21 "java/lang/UnsupportedOperationException" : Cond) ∈ tb9 := List.mem_filter.mpr ⟨List.mem_of_getElem? (i := 370) (by decide +kernel), by decide +kernel⟩
theorem k_371 : (.methodLink RL9 17 y_EF_compile : Cond) ∈ tb9 := List.mem_filter.mpr ⟨List.mem_of_getElem? (i := 371) (by decide +kernel), by decide +kernel⟩
theorem k_372 : (.instanceMethod y_EF_compile : Cond) ∈ tb9 := List.mem_filter.mpr ⟨List.mem_of_getElem? (i := 372) (by decide +kernel), by decide +kernel⟩
theorem k_373 : (.selects RX5 y_EF_compile y_EF_compile : Cond) ∈ tb9 := List.mem_filter.mpr ⟨List.mem_of_getElem? (i := 373) (by decide +kernel), by decide +kernel⟩
theorem k_374 : (.code y_EF_compile b_EF_compile 2 (Option.some FieldType.int) : Cond) ∈ tb9 := List.mem_filter.mpr ⟨List.mem_of_getElem? (i := 374) (by decide +kernel), by decide +kernel⟩
theorem k_835 : (.classLink RL9 27 "java/util/NoSuchElementException" : Cond) ∈ tb9 := List.mem_filter.mpr ⟨List.mem_of_getElem? (i := 835) (by decide +kernel), by decide +kernel⟩
theorem k_836 : (.methodLink RL9 23 y_EF_way : Cond) ∈ tb9 := List.mem_filter.mpr ⟨List.mem_of_getElem? (i := 836) (by decide +kernel), by decide +kernel⟩
theorem k_837 : (.instanceMethod y_EF_way : Cond) ∈ tb9 := List.mem_filter.mpr ⟨List.mem_of_getElem? (i := 837) (by decide +kernel), by decide +kernel⟩
theorem k_838 : (.selects RX5 y_EF_way y_EF_way : Cond) ∈ tb9 := List.mem_filter.mpr ⟨List.mem_of_getElem? (i := 838) (by decide +kernel), by decide +kernel⟩
theorem k_839 : (.code y_EF_way b_EF_way 3 (Option.some FieldType.int) : Cond) ∈ tb9 := List.mem_filter.mpr ⟨List.mem_of_getElem? (i := 839) (by decide +kernel), by decide +kernel⟩
theorem k_866 : (.methodLink RL9 29 y_EF_actions : Cond) ∈ tb9 := List.mem_filter.mpr ⟨List.mem_of_getElem? (i := 866) (by decide +kernel), by decide +kernel⟩
theorem k_867 : (.instanceMethod y_EF_actions : Cond) ∈ tb9 := List.mem_filter.mpr ⟨List.mem_of_getElem? (i := 867) (by decide +kernel), by decide +kernel⟩
theorem k_868 : (.selects RX5 y_EF_actions y_EF_actions : Cond) ∈ tb9 := List.mem_filter.mpr ⟨List.mem_of_getElem? (i := 868) (by decide +kernel), by decide +kernel⟩
theorem k_869 : (.code y_EF_actions b_EF_actions 3 (Option.some FieldType.int) : Cond) ∈ tb9 := List.mem_filter.mpr ⟨List.mem_of_getElem? (i := 869) (by decide +kernel), by decide +kernel⟩
theorem k_874 : (.methodLink RL9 32 y_EF_state : Cond) ∈ tb9 := List.mem_filter.mpr ⟨List.mem_of_getElem? (i := 874) (by decide +kernel), by decide +kernel⟩
theorem k_875 : (.instanceMethod y_EF_state : Cond) ∈ tb9 := List.mem_filter.mpr ⟨List.mem_of_getElem? (i := 875) (by decide +kernel), by decide +kernel⟩
theorem k_876 : (.selects RX5 y_EF_state y_EF_state : Cond) ∈ tb9 := List.mem_filter.mpr ⟨List.mem_of_getElem? (i := 876) (by decide +kernel), by decide +kernel⟩
theorem k_877 : (.code y_EF_state b_EF_state 3 (Option.some FieldType.int) : Cond) ∈ tb9 := List.mem_filter.mpr ⟨List.mem_of_getElem? (i := 877) (by decide +kernel), by decide +kernel⟩
theorem k_887 : (.methodLink RL9 35 y_EF_feed : Cond) ∈ tb9 := List.mem_filter.mpr ⟨List.mem_of_getElem? (i := 887) (by decide +kernel), by decide +kernel⟩
theorem k_888 : (.instanceMethod y_EF_feed : Cond) ∈ tb9 := List.mem_filter.mpr ⟨List.mem_of_getElem? (i := 888) (by decide +kernel), by decide +kernel⟩
theorem k_889 : (.selects RX5 y_EF_feed y_EF_feed : Cond) ∈ tb9 := List.mem_filter.mpr ⟨List.mem_of_getElem? (i := 889) (by decide +kernel), by decide +kernel⟩
theorem k_890 : (.code y_EF_feed b_EF_feed 4 (Option.some FieldType.int) : Cond) ∈ tb9 := List.mem_filter.mpr ⟨List.mem_of_getElem? (i := 890) (by decide +kernel), by decide +kernel⟩
theorem k_910 : (.methodLink RL9 39 y_EF_end : Cond) ∈ tb9 := List.mem_filter.mpr ⟨List.mem_of_getElem? (i := 910) (by decide +kernel), by decide +kernel⟩
theorem k_911 : (.instanceMethod y_EF_end : Cond) ∈ tb9 := List.mem_filter.mpr ⟨List.mem_of_getElem? (i := 911) (by decide +kernel), by decide +kernel⟩
theorem k_912 : (.selects RX5 y_EF_end y_EF_end : Cond) ∈ tb9 := List.mem_filter.mpr ⟨List.mem_of_getElem? (i := 912) (by decide +kernel), by decide +kernel⟩
theorem k_913 : (.code y_EF_end b_EF_end 2 (Option.some FieldType.int) : Cond) ∈ tb9 := List.mem_filter.mpr ⟨List.mem_of_getElem? (i := 913) (by decide +kernel), by decide +kernel⟩
theorem k_921 : (.methodLink RL9 42 y_EF_jump : Cond) ∈ tb9 := List.mem_filter.mpr ⟨List.mem_of_getElem? (i := 921) (by decide +kernel), by decide +kernel⟩
theorem k_922 : (.instanceMethod y_EF_jump : Cond) ∈ tb9 := List.mem_filter.mpr ⟨List.mem_of_getElem? (i := 922) (by decide +kernel), by decide +kernel⟩
theorem k_923 : (.selects RX5 y_EF_jump y_EF_jump : Cond) ∈ tb9 := List.mem_filter.mpr ⟨List.mem_of_getElem? (i := 923) (by decide +kernel), by decide +kernel⟩
theorem k_924 : (.code y_EF_jump b_EF_jump 3 (Option.some FieldType.int) : Cond) ∈ tb9 := List.mem_filter.mpr ⟨List.mem_of_getElem? (i := 924) (by decide +kernel), by decide +kernel⟩
theorem k_928 : (.methodLink RL9 45 y_EF_count : Cond) ∈ tb9 := List.mem_filter.mpr ⟨List.mem_of_getElem? (i := 928) (by decide +kernel), by decide +kernel⟩
theorem k_929 : (.instanceMethod y_EF_count : Cond) ∈ tb9 := List.mem_filter.mpr ⟨List.mem_of_getElem? (i := 929) (by decide +kernel), by decide +kernel⟩
theorem k_930 : (.selects RX5 y_EF_count y_EF_count : Cond) ∈ tb9 := List.mem_filter.mpr ⟨List.mem_of_getElem? (i := 930) (by decide +kernel), by decide +kernel⟩
theorem k_931 : (.code y_EF_count b_EF_count 2 (Option.some FieldType.int) : Cond) ∈ tb9 := List.mem_filter.mpr ⟨List.mem_of_getElem? (i := 931) (by decide +kernel), by decide +kernel⟩
theorem d_L_text_0 : decode b_L_text 0 = .ok (.aload_n 3, 1) := by decide +kernel
theorem d_L_text_1 : decode b_L_text 1 = .ok (.iconst 0, 1) := by decide +kernel
theorem d_L_text_2 : decode b_L_text 2 = .ok (.aload_n 0, 1) := by decide +kernel
theorem d_L_text_3 : decode b_L_text 3 = .ok (.lload_n 1, 1) := by decide +kernel
theorem d_L_text_4 : decode b_L_text 4 = .ok (.invokevirtual 7, 3) := by decide +kernel
theorem d_L_text_7 : decode b_L_text 7 = .ok (.i2l, 1) := by decide +kernel
theorem d_L_text_8 : decode b_L_text 8 = .ok (.lastore, 1) := by decide +kernel
theorem d_L_text_9 : decode b_L_text 9 = .ok (.goto 11, 3) := by decide +kernel
theorem d_L_text_12 : decode b_L_text 12 = .ok (.astore 4, 2) := by decide +kernel
theorem d_L_text_14 : decode b_L_text 14 = .ok (.iconst 1, 1) := by decide +kernel
theorem d_L_text_15 : decode b_L_text 15 = .ok (.ireturn, 1) := by decide +kernel
theorem d_L_text_16 : decode b_L_text 16 = .ok (.astore 4, 2) := by decide +kernel
theorem d_L_text_18 : decode b_L_text 18 = .ok (.iconst 2, 1) := by decide +kernel
theorem d_L_text_19 : decode b_L_text 19 = .ok (.ireturn, 1) := by decide +kernel
theorem d_L_text_20 : decode b_L_text 20 = .ok (.iconst 0, 1) := by decide +kernel
theorem d_L_text_21 : decode b_L_text 21 = .ok (.ireturn, 1) := by decide +kernel
theorem d_L_way_0 : decode b_L_way 0 = .ok (.aload_n 3, 1) := by decide +kernel
theorem d_L_way_1 : decode b_L_way 1 = .ok (.iconst 0, 1) := by decide +kernel
theorem d_L_way_2 : decode b_L_way 2 = .ok (.aload_n 0, 1) := by decide +kernel
theorem d_L_way_3 : decode b_L_way 3 = .ok (.iload_n 1, 1) := by decide +kernel
theorem d_L_way_4 : decode b_L_way 4 = .ok (.iload_n 2, 1) := by decide +kernel
theorem d_L_way_5 : decode b_L_way 5 = .ok (.invokevirtual 23, 3) := by decide +kernel
theorem d_L_way_8 : decode b_L_way 8 = .ok (.i2l, 1) := by decide +kernel
theorem d_L_way_9 : decode b_L_way 9 = .ok (.lastore, 1) := by decide +kernel
theorem d_L_way_10 : decode b_L_way 10 = .ok (.goto 11, 3) := by decide +kernel
theorem d_L_way_13 : decode b_L_way 13 = .ok (.astore 4, 2) := by decide +kernel
theorem d_L_way_15 : decode b_L_way 15 = .ok (.iconst 1, 1) := by decide +kernel
theorem d_L_way_16 : decode b_L_way 16 = .ok (.ireturn, 1) := by decide +kernel
theorem d_L_way_17 : decode b_L_way 17 = .ok (.astore 4, 2) := by decide +kernel
theorem d_L_way_19 : decode b_L_way 19 = .ok (.iconst 2, 1) := by decide +kernel
theorem d_L_way_20 : decode b_L_way 20 = .ok (.ireturn, 1) := by decide +kernel
theorem d_L_way_21 : decode b_L_way 21 = .ok (.iconst 0, 1) := by decide +kernel
theorem d_L_way_22 : decode b_L_way 22 = .ok (.ireturn, 1) := by decide +kernel
theorem d_L_actions_0 : decode b_L_actions 0 = .ok (.aload_n 3, 1) := by decide +kernel
theorem d_L_actions_1 : decode b_L_actions 1 = .ok (.iconst 0, 1) := by decide +kernel
theorem d_L_actions_2 : decode b_L_actions 2 = .ok (.aload_n 0, 1) := by decide +kernel
theorem d_L_actions_3 : decode b_L_actions 3 = .ok (.iload_n 1, 1) := by decide +kernel
theorem d_L_actions_4 : decode b_L_actions 4 = .ok (.iload_n 2, 1) := by decide +kernel
theorem d_L_actions_5 : decode b_L_actions 5 = .ok (.invokevirtual 29, 3) := by decide +kernel
theorem d_L_actions_8 : decode b_L_actions 8 = .ok (.i2l, 1) := by decide +kernel
theorem d_L_actions_9 : decode b_L_actions 9 = .ok (.lastore, 1) := by decide +kernel
theorem d_L_actions_10 : decode b_L_actions 10 = .ok (.goto 11, 3) := by decide +kernel
theorem d_L_actions_13 : decode b_L_actions 13 = .ok (.astore 4, 2) := by decide +kernel
theorem d_L_actions_15 : decode b_L_actions 15 = .ok (.iconst 1, 1) := by decide +kernel
theorem d_L_actions_16 : decode b_L_actions 16 = .ok (.ireturn, 1) := by decide +kernel
theorem d_L_actions_17 : decode b_L_actions 17 = .ok (.astore 4, 2) := by decide +kernel
theorem d_L_actions_19 : decode b_L_actions 19 = .ok (.iconst 2, 1) := by decide +kernel
theorem d_L_actions_20 : decode b_L_actions 20 = .ok (.ireturn, 1) := by decide +kernel
theorem d_L_actions_21 : decode b_L_actions 21 = .ok (.iconst 0, 1) := by decide +kernel
theorem d_L_actions_22 : decode b_L_actions 22 = .ok (.ireturn, 1) := by decide +kernel
theorem d_L_state_0 : decode b_L_state 0 = .ok (.aload_n 3, 1) := by decide +kernel
theorem d_L_state_1 : decode b_L_state 1 = .ok (.iconst 0, 1) := by decide +kernel
theorem d_L_state_2 : decode b_L_state 2 = .ok (.aload_n 0, 1) := by decide +kernel
theorem d_L_state_3 : decode b_L_state 3 = .ok (.iload_n 1, 1) := by decide +kernel
theorem d_L_state_4 : decode b_L_state 4 = .ok (.iload_n 2, 1) := by decide +kernel
theorem d_L_state_5 : decode b_L_state 5 = .ok (.invokevirtual 32, 3) := by decide +kernel
theorem d_L_state_8 : decode b_L_state 8 = .ok (.i2l, 1) := by decide +kernel
theorem d_L_state_9 : decode b_L_state 9 = .ok (.lastore, 1) := by decide +kernel
theorem d_L_state_10 : decode b_L_state 10 = .ok (.goto 11, 3) := by decide +kernel
theorem d_L_state_13 : decode b_L_state 13 = .ok (.astore 4, 2) := by decide +kernel
theorem d_L_state_15 : decode b_L_state 15 = .ok (.iconst 1, 1) := by decide +kernel
theorem d_L_state_16 : decode b_L_state 16 = .ok (.ireturn, 1) := by decide +kernel
theorem d_L_state_17 : decode b_L_state 17 = .ok (.astore 4, 2) := by decide +kernel
theorem d_L_state_19 : decode b_L_state 19 = .ok (.iconst 2, 1) := by decide +kernel
theorem d_L_state_20 : decode b_L_state 20 = .ok (.ireturn, 1) := by decide +kernel
theorem d_L_state_21 : decode b_L_state 21 = .ok (.iconst 0, 1) := by decide +kernel
theorem d_L_state_22 : decode b_L_state 22 = .ok (.ireturn, 1) := by decide +kernel
theorem d_L_feed_0 : decode b_L_feed 0 = .ok (.aload_n 2, 1) := by decide +kernel
theorem d_L_feed_1 : decode b_L_feed 1 = .ok (.iconst 0, 1) := by decide +kernel
theorem d_L_feed_2 : decode b_L_feed 2 = .ok (.aload_n 0, 1) := by decide +kernel
theorem d_L_feed_3 : decode b_L_feed 3 = .ok (.iload_n 1, 1) := by decide +kernel
theorem d_L_feed_4 : decode b_L_feed 4 = .ok (.invokevirtual 35, 3) := by decide +kernel
theorem d_L_feed_7 : decode b_L_feed 7 = .ok (.i2l, 1) := by decide +kernel
theorem d_L_feed_8 : decode b_L_feed 8 = .ok (.lastore, 1) := by decide +kernel
theorem d_L_feed_9 : decode b_L_feed 9 = .ok (.goto 12, 3) := by decide +kernel
theorem d_L_feed_12 : decode b_L_feed 12 = .ok (.astore_n 3, 1) := by decide +kernel
theorem d_L_feed_13 : decode b_L_feed 13 = .ok (.iconst 1, 1) := by decide +kernel
theorem d_L_feed_14 : decode b_L_feed 14 = .ok (.ireturn, 1) := by decide +kernel
theorem d_L_feed_15 : decode b_L_feed 15 = .ok (.astore_n 3, 1) := by decide +kernel
theorem d_L_feed_16 : decode b_L_feed 16 = .ok (.iconst 2, 1) := by decide +kernel
theorem d_L_feed_17 : decode b_L_feed 17 = .ok (.ireturn, 1) := by decide +kernel
theorem d_L_feed_18 : decode b_L_feed 18 = .ok (.astore_n 3, 1) := by decide +kernel
theorem d_L_feed_19 : decode b_L_feed 19 = .ok (.iconst 3, 1) := by decide +kernel
theorem d_L_feed_20 : decode b_L_feed 20 = .ok (.ireturn, 1) := by decide +kernel
theorem d_L_feed_21 : decode b_L_feed 21 = .ok (.iconst 0, 1) := by decide +kernel
theorem d_L_feed_22 : decode b_L_feed 22 = .ok (.ireturn, 1) := by decide +kernel
theorem d_L_end_0 : decode b_L_end 0 = .ok (.aload_n 1, 1) := by decide +kernel
theorem d_L_end_1 : decode b_L_end 1 = .ok (.iconst 0, 1) := by decide +kernel
theorem d_L_end_2 : decode b_L_end 2 = .ok (.aload_n 0, 1) := by decide +kernel
theorem d_L_end_3 : decode b_L_end 3 = .ok (.invokevirtual 39, 3) := by decide +kernel
theorem d_L_end_6 : decode b_L_end 6 = .ok (.i2l, 1) := by decide +kernel
theorem d_L_end_7 : decode b_L_end 7 = .ok (.lastore, 1) := by decide +kernel
theorem d_L_end_8 : decode b_L_end 8 = .ok (.goto 9, 3) := by decide +kernel
theorem d_L_end_11 : decode b_L_end 11 = .ok (.astore_n 2, 1) := by decide +kernel
theorem d_L_end_12 : decode b_L_end 12 = .ok (.iconst 1, 1) := by decide +kernel
theorem d_L_end_13 : decode b_L_end 13 = .ok (.ireturn, 1) := by decide +kernel
theorem d_L_end_14 : decode b_L_end 14 = .ok (.astore_n 2, 1) := by decide +kernel
theorem d_L_end_15 : decode b_L_end 15 = .ok (.iconst 2, 1) := by decide +kernel
theorem d_L_end_16 : decode b_L_end 16 = .ok (.ireturn, 1) := by decide +kernel
theorem d_L_end_17 : decode b_L_end 17 = .ok (.iconst 0, 1) := by decide +kernel
theorem d_L_end_18 : decode b_L_end 18 = .ok (.ireturn, 1) := by decide +kernel
theorem d_L_jump_0 : decode b_L_jump 0 = .ok (.aload_n 2, 1) := by decide +kernel
theorem d_L_jump_1 : decode b_L_jump 1 = .ok (.iconst 0, 1) := by decide +kernel
theorem d_L_jump_2 : decode b_L_jump 2 = .ok (.aload_n 0, 1) := by decide +kernel
theorem d_L_jump_3 : decode b_L_jump 3 = .ok (.iload_n 1, 1) := by decide +kernel
theorem d_L_jump_4 : decode b_L_jump 4 = .ok (.invokevirtual 42, 3) := by decide +kernel
theorem d_L_jump_7 : decode b_L_jump 7 = .ok (.i2l, 1) := by decide +kernel
theorem d_L_jump_8 : decode b_L_jump 8 = .ok (.lastore, 1) := by decide +kernel
theorem d_L_jump_9 : decode b_L_jump 9 = .ok (.goto 9, 3) := by decide +kernel
theorem d_L_jump_12 : decode b_L_jump 12 = .ok (.astore_n 3, 1) := by decide +kernel
theorem d_L_jump_13 : decode b_L_jump 13 = .ok (.iconst 1, 1) := by decide +kernel
theorem d_L_jump_14 : decode b_L_jump 14 = .ok (.ireturn, 1) := by decide +kernel
theorem d_L_jump_15 : decode b_L_jump 15 = .ok (.astore_n 3, 1) := by decide +kernel
theorem d_L_jump_16 : decode b_L_jump 16 = .ok (.iconst 2, 1) := by decide +kernel
theorem d_L_jump_17 : decode b_L_jump 17 = .ok (.ireturn, 1) := by decide +kernel
theorem d_L_jump_18 : decode b_L_jump 18 = .ok (.iconst 0, 1) := by decide +kernel
theorem d_L_jump_19 : decode b_L_jump 19 = .ok (.ireturn, 1) := by decide +kernel
theorem d_L_count_0 : decode b_L_count 0 = .ok (.aload_n 2, 1) := by decide +kernel
theorem d_L_count_1 : decode b_L_count 1 = .ok (.iconst 0, 1) := by decide +kernel
theorem d_L_count_2 : decode b_L_count 2 = .ok (.aload_n 0, 1) := by decide +kernel
theorem d_L_count_3 : decode b_L_count 3 = .ok (.iload_n 1, 1) := by decide +kernel
theorem d_L_count_4 : decode b_L_count 4 = .ok (.invokevirtual 45, 3) := by decide +kernel
theorem d_L_count_7 : decode b_L_count 7 = .ok (.i2l, 1) := by decide +kernel
theorem d_L_count_8 : decode b_L_count 8 = .ok (.lastore, 1) := by decide +kernel
theorem d_L_count_9 : decode b_L_count 9 = .ok (.goto 6, 3) := by decide +kernel
theorem d_L_count_12 : decode b_L_count 12 = .ok (.astore_n 3, 1) := by decide +kernel
theorem d_L_count_13 : decode b_L_count 13 = .ok (.iconst 1, 1) := by decide +kernel
theorem d_L_count_14 : decode b_L_count 14 = .ok (.ireturn, 1) := by decide +kernel
theorem d_L_count_15 : decode b_L_count 15 = .ok (.iconst 0, 1) := by decide +kernel
theorem d_L_count_16 : decode b_L_count 16 = .ok (.ireturn, 1) := by decide +kernel
theorem d_L_compile_0 : decode b_L_compile 0 = .ok (.aload_n 1, 1) := by decide +kernel
theorem d_L_compile_1 : decode b_L_compile 1 = .ok (.iconst 0, 1) := by decide +kernel
theorem d_L_compile_2 : decode b_L_compile 2 = .ok (.aload_n 0, 1) := by decide +kernel
theorem d_L_compile_3 : decode b_L_compile 3 = .ok (.invokevirtual 17, 3) := by decide +kernel
theorem d_L_compile_6 : decode b_L_compile 6 = .ok (.i2l, 1) := by decide +kernel
theorem d_L_compile_7 : decode b_L_compile 7 = .ok (.lastore, 1) := by decide +kernel
theorem d_L_compile_8 : decode b_L_compile 8 = .ok (.goto 9, 3) := by decide +kernel
theorem d_L_compile_11 : decode b_L_compile 11 = .ok (.astore_n 2, 1) := by decide +kernel
theorem d_L_compile_12 : decode b_L_compile 12 = .ok (.iconst 1, 1) := by decide +kernel
theorem d_L_compile_13 : decode b_L_compile 13 = .ok (.ireturn, 1) := by decide +kernel
theorem d_L_compile_14 : decode b_L_compile 14 = .ok (.astore_n 2, 1) := by decide +kernel
theorem d_L_compile_15 : decode b_L_compile 15 = .ok (.iconst 2, 1) := by decide +kernel
theorem d_L_compile_16 : decode b_L_compile 16 = .ok (.ireturn, 1) := by decide +kernel
theorem d_L_compile_17 : decode b_L_compile 17 = .ok (.iconst 0, 1) := by decide +kernel
theorem d_L_compile_18 : decode b_L_compile 18 = .ok (.ireturn, 1) := by decide +kernel
