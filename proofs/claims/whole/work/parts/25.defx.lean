abbrev b_EF_checkLetter : ByteArray := prog_1_method_15_code
def y_EF_checkLetter : MethodName := ⟨RX5, "checkLetter", "(I)V"⟩
def ws_EF_checkLetter : List Cond := .code y_EF_checkLetter b_EF_checkLetter 1 (Option.none : Option FieldType) :: tb9
theorem hs_EF_checkLetter : y_EF_checkLetter.cls ≠ "java/lang/invoke/MethodHandle" ∧ y_EF_checkLetter.cls ≠ "java/lang/invoke/VarHandle" ∧ (parseMethodDescriptor y_EF_checkLetter.desc).map (fun d => d.parameters.length) = some 1 := by decide +kernel
theorem hv_EF_checkLetter : y_EF_checkLetter.cls = RX5 ∧ y_EF_checkLetter.cls ≠ "java/lang/invoke/MethodHandle" ∧ y_EF_checkLetter.cls ≠ "java/lang/invoke/VarHandle" ∧ (parseMethodDescriptor y_EF_checkLetter.desc).map (fun d => d.parameters.length) = some 1 := ⟨rfl, hs_EF_checkLetter⟩
abbrev b_EF_checkState : ByteArray := prog_1_method_16_code
def y_EF_checkState : MethodName := ⟨RX5, "checkState", "(I)V"⟩
def ws_EF_checkState : List Cond := .code y_EF_checkState b_EF_checkState 2 (Option.none : Option FieldType) :: tb9
theorem hs_EF_checkState : y_EF_checkState.cls ≠ "java/lang/invoke/MethodHandle" ∧ y_EF_checkState.cls ≠ "java/lang/invoke/VarHandle" ∧ (parseMethodDescriptor y_EF_checkState.desc).map (fun d => d.parameters.length) = some 1 := by decide +kernel
theorem hv_EF_checkState : y_EF_checkState.cls = RX5 ∧ y_EF_checkState.cls ≠ "java/lang/invoke/MethodHandle" ∧ y_EF_checkState.cls ≠ "java/lang/invoke/VarHandle" ∧ (parseMethodDescriptor y_EF_checkState.desc).map (fun d => d.parameters.length) = some 1 := ⟨rfl, hs_EF_checkState⟩
abbrev b_EF_checkCompiled : ByteArray := prog_1_method_17_code
def y_EF_checkCompiled : MethodName := ⟨RX5, "checkCompiled", "()V"⟩
def ws_EF_checkCompiled : List Cond := .code y_EF_checkCompiled b_EF_checkCompiled 1 (Option.none : Option FieldType) :: tb9
theorem hs_EF_checkCompiled : y_EF_checkCompiled.cls ≠ "java/lang/invoke/MethodHandle" ∧ y_EF_checkCompiled.cls ≠ "java/lang/invoke/VarHandle" ∧ (parseMethodDescriptor y_EF_checkCompiled.desc).map (fun d => d.parameters.length) = some 0 := by decide +kernel
theorem hv_EF_checkCompiled : y_EF_checkCompiled.cls = RX5 ∧ y_EF_checkCompiled.cls ≠ "java/lang/invoke/MethodHandle" ∧ y_EF_checkCompiled.cls ≠ "java/lang/invoke/VarHandle" ∧ (parseMethodDescriptor y_EF_checkCompiled.desc).map (fun d => d.parameters.length) = some 0 := ⟨rfl, hs_EF_checkCompiled⟩
abbrev b_EF_checkGoing : ByteArray := prog_1_method_18_code
def y_EF_checkGoing : MethodName := ⟨RX5, "checkGoing", "()V"⟩
def ws_EF_checkGoing : List Cond := .code y_EF_checkGoing b_EF_checkGoing 1 (Option.none : Option FieldType) :: tb9
theorem hs_EF_checkGoing : y_EF_checkGoing.cls ≠ "java/lang/invoke/MethodHandle" ∧ y_EF_checkGoing.cls ≠ "java/lang/invoke/VarHandle" ∧ (parseMethodDescriptor y_EF_checkGoing.desc).map (fun d => d.parameters.length) = some 0 := by decide +kernel
theorem hv_EF_checkGoing : y_EF_checkGoing.cls = RX5 ∧ y_EF_checkGoing.cls ≠ "java/lang/invoke/MethodHandle" ∧ y_EF_checkGoing.cls ≠ "java/lang/invoke/VarHandle" ∧ (parseMethodDescriptor y_EF_checkGoing.desc).map (fun d => d.parameters.length) = some 0 := ⟨rfl, hs_EF_checkGoing⟩
abbrev b_EF_text : ByteArray := prog_1_method_2_code
def y_EF_text : MethodName := ⟨RX5, "text", "(J)I"⟩
def ws_EF_text : List Cond := .code y_EF_text b_EF_text 6 (Option.some FieldType.int) :: tb9
theorem hs_EF_text : y_EF_text.cls ≠ "java/lang/invoke/MethodHandle" ∧ y_EF_text.cls ≠ "java/lang/invoke/VarHandle" ∧ (parseMethodDescriptor y_EF_text.desc).map (fun d => d.parameters.length) = some 1 := by decide +kernel
theorem hv_EF_text : y_EF_text.cls = RX5 ∧ y_EF_text.cls ≠ "java/lang/invoke/MethodHandle" ∧ y_EF_text.cls ≠ "java/lang/invoke/VarHandle" ∧ (parseMethodDescriptor y_EF_text.desc).map (fun d => d.parameters.length) = some 1 := ⟨rfl, hs_EF_text⟩
abbrev b_EF_way : ByteArray := prog_1_method_6_code
def y_EF_way : MethodName := ⟨RX5, "way", "(II)I"⟩
def ws_EF_way : List Cond := .code y_EF_way b_EF_way 3 (Option.some FieldType.int) :: tb9
theorem hs_EF_way : y_EF_way.cls ≠ "java/lang/invoke/MethodHandle" ∧ y_EF_way.cls ≠ "java/lang/invoke/VarHandle" ∧ (parseMethodDescriptor y_EF_way.desc).map (fun d => d.parameters.length) = some 2 := by decide +kernel
theorem hv_EF_way : y_EF_way.cls = RX5 ∧ y_EF_way.cls ≠ "java/lang/invoke/MethodHandle" ∧ y_EF_way.cls ≠ "java/lang/invoke/VarHandle" ∧ (parseMethodDescriptor y_EF_way.desc).map (fun d => d.parameters.length) = some 2 := ⟨rfl, hs_EF_way⟩
abbrev b_EF_actions : ByteArray := prog_1_method_7_code
def y_EF_actions : MethodName := ⟨RX5, "actions", "(II)I"⟩
def ws_EF_actions : List Cond := .code y_EF_actions b_EF_actions 3 (Option.some FieldType.int) :: tb9
theorem hs_EF_actions : y_EF_actions.cls ≠ "java/lang/invoke/MethodHandle" ∧ y_EF_actions.cls ≠ "java/lang/invoke/VarHandle" ∧ (parseMethodDescriptor y_EF_actions.desc).map (fun d => d.parameters.length) = some 2 := by decide +kernel
theorem hv_EF_actions : y_EF_actions.cls = RX5 ∧ y_EF_actions.cls ≠ "java/lang/invoke/MethodHandle" ∧ y_EF_actions.cls ≠ "java/lang/invoke/VarHandle" ∧ (parseMethodDescriptor y_EF_actions.desc).map (fun d => d.parameters.length) = some 2 := ⟨rfl, hs_EF_actions⟩
abbrev b_EF_state : ByteArray := prog_1_method_8_code
def y_EF_state : MethodName := ⟨RX5, "state", "(II)I"⟩
def ws_EF_state : List Cond := .code y_EF_state b_EF_state 3 (Option.some FieldType.int) :: tb9
theorem hs_EF_state : y_EF_state.cls ≠ "java/lang/invoke/MethodHandle" ∧ y_EF_state.cls ≠ "java/lang/invoke/VarHandle" ∧ (parseMethodDescriptor y_EF_state.desc).map (fun d => d.parameters.length) = some 2 := by decide +kernel
theorem hv_EF_state : y_EF_state.cls = RX5 ∧ y_EF_state.cls ≠ "java/lang/invoke/MethodHandle" ∧ y_EF_state.cls ≠ "java/lang/invoke/VarHandle" ∧ (parseMethodDescriptor y_EF_state.desc).map (fun d => d.parameters.length) = some 2 := ⟨rfl, hs_EF_state⟩
abbrev b_EF_feed : ByteArray := prog_1_method_9_code
def y_EF_feed : MethodName := ⟨RX5, "feed", "(I)I"⟩
def ws_EF_feed : List Cond := .code y_EF_feed b_EF_feed 4 (Option.some FieldType.int) :: tb9
theorem hs_EF_feed : y_EF_feed.cls ≠ "java/lang/invoke/MethodHandle" ∧ y_EF_feed.cls ≠ "java/lang/invoke/VarHandle" ∧ (parseMethodDescriptor y_EF_feed.desc).map (fun d => d.parameters.length) = some 1 := by decide +kernel
theorem hv_EF_feed : y_EF_feed.cls = RX5 ∧ y_EF_feed.cls ≠ "java/lang/invoke/MethodHandle" ∧ y_EF_feed.cls ≠ "java/lang/invoke/VarHandle" ∧ (parseMethodDescriptor y_EF_feed.desc).map (fun d => d.parameters.length) = some 1 := ⟨rfl, hs_EF_feed⟩
abbrev b_EF_end : ByteArray := prog_1_method_10_code
def y_EF_end : MethodName := ⟨RX5, "end", "()I"⟩
def ws_EF_end : List Cond := .code y_EF_end b_EF_end 2 (Option.some FieldType.int) :: tb9
theorem hs_EF_end : y_EF_end.cls ≠ "java/lang/invoke/MethodHandle" ∧ y_EF_end.cls ≠ "java/lang/invoke/VarHandle" ∧ (parseMethodDescriptor y_EF_end.desc).map (fun d => d.parameters.length) = some 0 := by decide +kernel
theorem hv_EF_end : y_EF_end.cls = RX5 ∧ y_EF_end.cls ≠ "java/lang/invoke/MethodHandle" ∧ y_EF_end.cls ≠ "java/lang/invoke/VarHandle" ∧ (parseMethodDescriptor y_EF_end.desc).map (fun d => d.parameters.length) = some 0 := ⟨rfl, hs_EF_end⟩
abbrev b_EF_jump : ByteArray := prog_1_method_11_code
def y_EF_jump : MethodName := ⟨RX5, "jump", "(I)I"⟩
def ws_EF_jump : List Cond := .code y_EF_jump b_EF_jump 3 (Option.some FieldType.int) :: tb9
theorem hs_EF_jump : y_EF_jump.cls ≠ "java/lang/invoke/MethodHandle" ∧ y_EF_jump.cls ≠ "java/lang/invoke/VarHandle" ∧ (parseMethodDescriptor y_EF_jump.desc).map (fun d => d.parameters.length) = some 1 := by decide +kernel
theorem hv_EF_jump : y_EF_jump.cls = RX5 ∧ y_EF_jump.cls ≠ "java/lang/invoke/MethodHandle" ∧ y_EF_jump.cls ≠ "java/lang/invoke/VarHandle" ∧ (parseMethodDescriptor y_EF_jump.desc).map (fun d => d.parameters.length) = some 1 := ⟨rfl, hs_EF_jump⟩
abbrev b_EF_count : ByteArray := prog_1_method_12_code
def y_EF_count : MethodName := ⟨RX5, "count", "(I)I"⟩
def ws_EF_count : List Cond := .code y_EF_count b_EF_count 2 (Option.some FieldType.int) :: tb9
theorem hs_EF_count : y_EF_count.cls ≠ "java/lang/invoke/MethodHandle" ∧ y_EF_count.cls ≠ "java/lang/invoke/VarHandle" ∧ (parseMethodDescriptor y_EF_count.desc).map (fun d => d.parameters.length) = some 1 := by decide +kernel
theorem hv_EF_count : y_EF_count.cls = RX5 ∧ y_EF_count.cls ≠ "java/lang/invoke/MethodHandle" ∧ y_EF_count.cls ≠ "java/lang/invoke/VarHandle" ∧ (parseMethodDescriptor y_EF_count.desc).map (fun d => d.parameters.length) = some 1 := ⟨rfl, hs_EF_count⟩
theorem k_1 : (.selects RX5 y_EF_append y_EF_append : Cond) ∈ tb9 := List.mem_filter.mpr ⟨List.mem_of_getElem? (i := 1) (by decide +kernel), by decide +kernel⟩
theorem k_23 : (.selects RX5 y_EF_checkState y_EF_checkState : Cond) ∈ tb9 := List.mem_filter.mpr ⟨List.mem_of_getElem? (i := 23) (by decide +kernel), by decide +kernel⟩
theorem k_24 : (.selects RX5 y_EF_checkGoing y_EF_checkGoing : Cond) ∈ tb9 := List.mem_filter.mpr ⟨List.mem_of_getElem? (i := 24) (by decide +kernel), by decide +kernel⟩
theorem k_25 : (.selects RX5 y_EF_checkCompiled y_EF_checkCompiled : Cond) ∈ tb9 := List.mem_filter.mpr ⟨List.mem_of_getElem? (i := 25) (by decide +kernel), by decide +kernel⟩
theorem k_59 : (.initialized "java/lang/IllegalArgumentException" : Cond) ∈ tb9 := List.mem_filter.mpr ⟨List.mem_of_getElem? (i := 59) (by decide +kernel), by decide +kernel⟩
theorem k_60 : (.initialized "java/lang/IllegalStateException" : Cond) ∈ tb9 := List.mem_filter.mpr ⟨List.mem_of_getElem? (i := 60) (by decide +kernel), by decide +kernel⟩
theorem k_71 : (.initialized y_Int_bitCount.cls : Cond) ∈ tb9 := List.mem_filter.mpr ⟨List.mem_of_getElem? (i := 71) (by decide +kernel), by decide +kernel⟩
theorem k_72 : (.initialized "java/lang/UnsupportedOperationException" : Cond) ∈ tb9 := List.mem_filter.mpr ⟨List.mem_of_getElem? (i := 72) (by decide +kernel), by decide +kernel⟩
theorem k_73 : (.initialized "java/util/NoSuchElementException" : Cond) ∈ tb9 := List.mem_filter.mpr ⟨List.mem_of_getElem? (i := 73) (by decide +kernel), by decide +kernel⟩
theorem k_245 : (.fieldLink RX5 30 "EmbedForge" "walk" "LEmbedForge$Walk;" : Cond) ∈ tb9 := List.mem_filter.mpr ⟨List.mem_of_getElem? (i := 245) (by decide +kernel), by decide +kernel⟩
theorem k_246 : (.fieldLink RX5 37 "EmbedForge" "machine" "LEmbedForge$Machine;" : Cond) ∈ tb9 := List.mem_filter.mpr ⟨List.mem_of_getElem? (i := 246) (by decide +kernel), by decide +kernel⟩
theorem k_283 : (.classLink RX5 48 "java/lang/IllegalArgumentException" : Cond) ∈ tb9 := List.mem_filter.mpr ⟨List.mem_of_getElem? (i := 283) (by decide +kernel), by decide +kernel⟩
theorem k_348 : (.classLink RX5 51 "java/lang/IllegalStateException" : Cond) ∈ tb9 := List.mem_filter.mpr ⟨List.mem_of_getElem? (i := 348) (by decide +kernel), by decide +kernel⟩
theorem k_363 : (.methodLink RX5 54 y_EF_append : Cond) ∈ tb9 := List.mem_filter.mpr ⟨List.mem_of_getElem? (i := 363) (by decide +kernel), by decide +kernel⟩
theorem k_365 : (.instanceMethod y_EF_append : Cond) ∈ tb9 := List.mem_filter.mpr ⟨List.mem_of_getElem? (i := 365) (by decide +kernel), by decide +kernel⟩
theorem k_366 : (.code y_EF_append b_EF_append 5 (Option.none : Option FieldType) : Cond) ∈ tb9 := List.mem_filter.mpr ⟨List.mem_of_getElem? (i := 366) (by decide +kernel), by decide +kernel⟩
theorem k_812 : (.classLink RX5 78 "java/lang/UnsupportedOperationException" : Cond) ∈ tb9 := List.mem_filter.mpr ⟨List.mem_of_getElem? (i := 812) (by decide +kernel), by decide +kernel⟩
theorem k_827 : (.methodLink RX5 81 y_Walk_restart : Cond) ∈ tb9 := List.mem_filter.mpr ⟨List.mem_of_getElem? (i := 827) (by decide +kernel), by decide +kernel⟩
theorem k_828 : (.instanceMethod y_Walk_restart : Cond) ∈ tb9 := List.mem_filter.mpr ⟨List.mem_of_getElem? (i := 828) (by decide +kernel), by decide +kernel⟩
theorem k_829 : (.selects RX4 y_Walk_restart y_Walk_restart : Cond) ∈ tb9 := List.mem_filter.mpr ⟨List.mem_of_getElem? (i := 829) (by decide +kernel), by decide +kernel⟩
theorem k_830 : (.code y_Walk_restart b_Walk_restart 2 (Option.none : Option FieldType) : Cond) ∈ tb9 := List.mem_filter.mpr ⟨List.mem_of_getElem? (i := 830) (by decide +kernel), by decide +kernel⟩
theorem k_840 : (.methodLink RX5 88 y_EF_checkLetter : Cond) ∈ tb9 := List.mem_filter.mpr ⟨List.mem_of_getElem? (i := 840) (by decide +kernel), by decide +kernel⟩
theorem k_841 : (.static y_EF_checkLetter : Cond) ∈ tb9 := List.mem_filter.mpr ⟨List.mem_of_getElem? (i := 841) (by decide +kernel), by decide +kernel⟩
theorem k_842 : (.code y_EF_checkLetter b_EF_checkLetter 1 (Option.none : Option FieldType) : Cond) ∈ tb9 := List.mem_filter.mpr ⟨List.mem_of_getElem? (i := 842) (by decide +kernel), by decide +kernel⟩
theorem k_843 : (.methodLink RX5 91 y_EF_checkState : Cond) ∈ tb9 := List.mem_filter.mpr ⟨List.mem_of_getElem? (i := 843) (by decide +kernel), by decide +kernel⟩
theorem k_845 : (.instanceMethod y_EF_checkState : Cond) ∈ tb9 := List.mem_filter.mpr ⟨List.mem_of_getElem? (i := 845) (by decide +kernel), by decide +kernel⟩
theorem k_846 : (.code y_EF_checkState b_EF_checkState 2 (Option.none : Option FieldType) : Cond) ∈ tb9 := List.mem_filter.mpr ⟨List.mem_of_getElem? (i := 846) (by decide +kernel), by decide +kernel⟩
theorem k_847 : (.classLink RX5 153 "java/util/NoSuchElementException" : Cond) ∈ tb9 := List.mem_filter.mpr ⟨List.mem_of_getElem? (i := 847) (by decide +kernel), by decide +kernel⟩
theorem k_862 : (.methodLink RX5 94 y_Mach_target : Cond) ∈ tb9 := List.mem_filter.mpr ⟨List.mem_of_getElem? (i := 862) (by decide +kernel), by decide +kernel⟩
theorem k_870 : (.methodLink RX5 98 y_Mach_actionsOnWay : Cond) ∈ tb9 := List.mem_filter.mpr ⟨List.mem_of_getElem? (i := 870) (by decide +kernel), by decide +kernel⟩
theorem k_878 : (.methodLink RX5 115 y_Int_bitCount : Cond) ∈ tb9 := List.mem_filter.mpr ⟨List.mem_of_getElem? (i := 878) (by decide +kernel), by decide +kernel⟩
theorem k_879 : (.static y_Int_bitCount : Cond) ∈ tb9 := List.mem_filter.mpr ⟨List.mem_of_getElem? (i := 879) (by decide +kernel), by decide +kernel⟩
theorem k_880 : (.code y_Int_bitCount b_Int_bitCount 1 (Option.some FieldType.int) : Cond) ∈ tb9 := List.mem_filter.mpr ⟨List.mem_of_getElem? (i := 880) (by decide +kernel), by decide +kernel⟩
theorem k_891 : (.methodLink RX5 121 y_EF_checkGoing : Cond) ∈ tb9 := List.mem_filter.mpr ⟨List.mem_of_getElem? (i := 891) (by decide +kernel), by decide +kernel⟩
theorem k_893 : (.instanceMethod y_EF_checkGoing : Cond) ∈ tb9 := List.mem_filter.mpr ⟨List.mem_of_getElem? (i := 893) (by decide +kernel), by decide +kernel⟩
theorem k_894 : (.code y_EF_checkGoing b_EF_checkGoing 1 (Option.none : Option FieldType) : Cond) ∈ tb9 := List.mem_filter.mpr ⟨List.mem_of_getElem? (i := 894) (by decide +kernel), by decide +kernel⟩
theorem k_895 : (.methodLink RX5 134 y_EF_checkCompiled : Cond) ∈ tb9 := List.mem_filter.mpr ⟨List.mem_of_getElem? (i := 895) (by decide +kernel), by decide +kernel⟩
theorem k_897 : (.instanceMethod y_EF_checkCompiled : Cond) ∈ tb9 := List.mem_filter.mpr ⟨List.mem_of_getElem? (i := 897) (by decide +kernel), by decide +kernel⟩
theorem k_898 : (.code y_EF_checkCompiled b_EF_checkCompiled 1 (Option.none : Option FieldType) : Cond) ∈ tb9 := List.mem_filter.mpr ⟨List.mem_of_getElem? (i := 898) (by decide +kernel), by decide +kernel⟩
theorem k_899 : (.methodLink RX5 127 y_Walk_goOn : Cond) ∈ tb9 := List.mem_filter.mpr ⟨List.mem_of_getElem? (i := 899) (by decide +kernel), by decide +kernel⟩
theorem k_900 : (.instanceMethod y_Walk_goOn : Cond) ∈ tb9 := List.mem_filter.mpr ⟨List.mem_of_getElem? (i := 900) (by decide +kernel), by decide +kernel⟩
theorem k_901 : (.selects RX4 y_Walk_goOn y_Walk_goOn : Cond) ∈ tb9 := List.mem_filter.mpr ⟨List.mem_of_getElem? (i := 901) (by decide +kernel), by decide +kernel⟩
theorem k_902 : (.code y_Walk_goOn b_Walk_goOn 3 (Option.none : Option FieldType) : Cond) ∈ tb9 := List.mem_filter.mpr ⟨List.mem_of_getElem? (i := 902) (by decide +kernel), by decide +kernel⟩
theorem k_914 : (.methodLink RX5 131 y_Walk_finish : Cond) ∈ tb9 := List.mem_filter.mpr ⟨List.mem_of_getElem? (i := 914) (by decide +kernel), by decide +kernel⟩
theorem k_915 : (.instanceMethod y_Walk_finish : Cond) ∈ tb9 := List.mem_filter.mpr ⟨List.mem_of_getElem? (i := 915) (by decide +kernel), by decide +kernel⟩
theorem k_916 : (.selects RX4 y_Walk_finish y_Walk_finish : Cond) ∈ tb9 := List.mem_filter.mpr ⟨List.mem_of_getElem? (i := 916) (by decide +kernel), by decide +kernel⟩
theorem k_917 : (.code y_Walk_finish b_Walk_finish 2 (Option.none : Option FieldType) : Cond) ∈ tb9 := List.mem_filter.mpr ⟨List.mem_of_getElem? (i := 917) (by decide +kernel), by decide +kernel⟩
theorem d_EF_checkLetter_0 : decode b_EF_checkLetter 0 = .ok (.iload_n 0, 1) := by decide +kernel
theorem d_EF_checkLetter_1 : decode b_EF_checkLetter 1 = .ok (.ifCond .lt 8, 3) := by decide +kernel
theorem d_EF_checkLetter_4 : decode b_EF_checkLetter 4 = .ok (.iload_n 0, 1) := by decide +kernel
theorem d_EF_checkLetter_5 : decode b_EF_checkLetter 5 = .ok (.iconst 4, 1) := by decide +kernel
theorem d_EF_checkLetter_6 : decode b_EF_checkLetter 6 = .ok (.if_icmp .lt 11, 3) := by decide +kernel
theorem d_EF_checkLetter_9 : decode b_EF_checkLetter 9 = .ok (.new 48, 3) := by decide +kernel
theorem d_EF_checkLetter_12 : decode b_EF_checkLetter 12 = .ok (.dup, 1) := by decide +kernel
theorem d_EF_checkLetter_13 : decode b_EF_checkLetter 13 = .ok (.invokespecial 50, 3) := by decide +kernel
theorem d_EF_checkLetter_16 : decode b_EF_checkLetter 16 = .ok (.athrow, 1) := by decide +kernel
theorem d_EF_checkLetter_17 : decode b_EF_checkLetter 17 = .ok (.return_, 1) := by decide +kernel
theorem d_EF_checkState_0 : decode b_EF_checkState 0 = .ok (.iload_n 1, 1) := by decide +kernel
theorem d_EF_checkState_1 : decode b_EF_checkState 1 = .ok (.ifCond .lt 14, 3) := by decide +kernel
theorem d_EF_checkState_4 : decode b_EF_checkState 4 = .ok (.iload_n 1, 1) := by decide +kernel
theorem d_EF_checkState_5 : decode b_EF_checkState 5 = .ok (.aload_n 0, 1) := by decide +kernel
theorem d_EF_checkState_6 : decode b_EF_checkState 6 = .ok (.getfield 37, 3) := by decide +kernel
theorem d_EF_checkState_9 : decode b_EF_checkState 9 = .ok (.getfield 85, 3) := by decide +kernel
theorem d_EF_checkState_12 : decode b_EF_checkState 12 = .ok (.if_icmp .lt 11, 3) := by decide +kernel
theorem d_EF_checkState_15 : decode b_EF_checkState 15 = .ok (.new 153, 3) := by decide +kernel
theorem d_EF_checkState_18 : decode b_EF_checkState 18 = .ok (.dup, 1) := by decide +kernel
theorem d_EF_checkState_19 : decode b_EF_checkState 19 = .ok (.invokespecial 155, 3) := by decide +kernel
theorem d_EF_checkState_22 : decode b_EF_checkState 22 = .ok (.athrow, 1) := by decide +kernel
theorem d_EF_checkState_23 : decode b_EF_checkState 23 = .ok (.return_, 1) := by decide +kernel
theorem d_EF_checkCompiled_0 : decode b_EF_checkCompiled 0 = .ok (.aload_n 0, 1) := by decide +kernel
theorem d_EF_checkCompiled_1 : decode b_EF_checkCompiled 1 = .ok (.getfield 37, 3) := by decide +kernel
theorem d_EF_checkCompiled_4 : decode b_EF_checkCompiled 4 = .ok (.getfield 85, 3) := by decide +kernel
theorem d_EF_checkCompiled_7 : decode b_EF_checkCompiled 7 = .ok (.ifCond .ne 11, 3) := by decide +kernel
theorem d_EF_checkCompiled_10 : decode b_EF_checkCompiled 10 = .ok (.new 51, 3) := by decide +kernel
theorem d_EF_checkCompiled_13 : decode b_EF_checkCompiled 13 = .ok (.dup, 1) := by decide +kernel
theorem d_EF_checkCompiled_14 : decode b_EF_checkCompiled 14 = .ok (.invokespecial 53, 3) := by decide +kernel
theorem d_EF_checkCompiled_17 : decode b_EF_checkCompiled 17 = .ok (.athrow, 1) := by decide +kernel
theorem d_EF_checkCompiled_18 : decode b_EF_checkCompiled 18 = .ok (.return_, 1) := by decide +kernel
theorem d_EF_checkGoing_0 : decode b_EF_checkGoing 0 = .ok (.aload_n 0, 1) := by decide +kernel
theorem d_EF_checkGoing_1 : decode b_EF_checkGoing 1 = .ok (.invokevirtual 134, 3) := by decide +kernel
theorem d_EF_checkGoing_4 : decode b_EF_checkGoing 4 = .ok (.aload_n 0, 1) := by decide +kernel
theorem d_EF_checkGoing_5 : decode b_EF_checkGoing 5 = .ok (.getfield 30, 3) := by decide +kernel
theorem d_EF_checkGoing_8 : decode b_EF_checkGoing 8 = .ok (.getfield 146, 3) := by decide +kernel
theorem d_EF_checkGoing_11 : decode b_EF_checkGoing 11 = .ok (.ifCond .eq 11, 3) := by decide +kernel
theorem d_EF_checkGoing_14 : decode b_EF_checkGoing 14 = .ok (.new 51, 3) := by decide +kernel
theorem d_EF_checkGoing_17 : decode b_EF_checkGoing 17 = .ok (.dup, 1) := by decide +kernel
theorem d_EF_checkGoing_18 : decode b_EF_checkGoing 18 = .ok (.invokespecial 53, 3) := by decide +kernel
theorem d_EF_checkGoing_21 : decode b_EF_checkGoing 21 = .ok (.athrow, 1) := by decide +kernel
theorem d_EF_checkGoing_22 : decode b_EF_checkGoing 22 = .ok (.return_, 1) := by decide +kernel
theorem d_EF_text_0 : decode b_EF_text 0 = .ok (.iconst 0, 1) := by decide +kernel
theorem d_EF_text_1 : decode b_EF_text 1 = .ok (.istore_n 3, 1) := by decide +kernel
theorem d_EF_text_2 : decode b_EF_text 2 = .ok (.bipush 56, 2) := by decide +kernel
theorem d_EF_text_4 : decode b_EF_text 4 = .ok (.istore 4, 2) := by decide +kernel
theorem d_EF_text_6 : decode b_EF_text 6 = .ok (.iload 4, 2) := by decide +kernel
theorem d_EF_text_8 : decode b_EF_text 8 = .ok (.ifCond .lt 52, 3) := by decide +kernel
theorem d_EF_text_11 : decode b_EF_text 11 = .ok (.lload_n 1, 1) := by decide +kernel
theorem d_EF_text_12 : decode b_EF_text 12 = .ok (.iload 4, 2) := by decide +kernel
theorem d_EF_text_14 : decode b_EF_text 14 = .ok (.invokestatic 44, 3) := by decide +kernel
theorem d_EF_text_17 : decode b_EF_text 17 = .ok (.istore 5, 2) := by decide +kernel
theorem d_EF_text_19 : decode b_EF_text 19 = .ok (.iload 5, 2) := by decide +kernel
theorem d_EF_text_21 : decode b_EF_text 21 = .ok (.ifCond .eq 25, 3) := by decide +kernel
theorem d_EF_text_24 : decode b_EF_text 24 = .ok (.iload 5, 2) := by decide +kernel
theorem d_EF_text_26 : decode b_EF_text 26 = .ok (.bipush 32, 2) := by decide +kernel
theorem d_EF_text_28 : decode b_EF_text 28 = .ok (.if_icmp .lt 10, 3) := by decide +kernel
theorem d_EF_text_31 : decode b_EF_text 31 = .ok (.iload 5, 2) := by decide +kernel
theorem d_EF_text_33 : decode b_EF_text 33 = .ok (.bipush 126, 2) := by decide +kernel
theorem d_EF_text_35 : decode b_EF_text 35 = .ok (.if_icmp .le 11, 3) := by decide +kernel
theorem d_EF_text_38 : decode b_EF_text 38 = .ok (.new 48, 3) := by decide +kernel
theorem d_EF_text_41 : decode b_EF_text 41 = .ok (.dup, 1) := by decide +kernel
theorem d_EF_text_42 : decode b_EF_text 42 = .ok (.invokespecial 50, 3) := by decide +kernel
theorem d_EF_text_45 : decode b_EF_text 45 = .ok (.athrow, 1) := by decide +kernel
theorem d_EF_text_46 : decode b_EF_text 46 = .ok (.iload 5, 2) := by decide +kernel
theorem d_EF_text_48 : decode b_EF_text 48 = .ok (.ifCond .eq 6, 3) := by decide +kernel
theorem d_EF_text_51 : decode b_EF_text 51 = .ok (.iinc 3 1, 3) := by decide +kernel
theorem d_EF_text_54 : decode b_EF_text 54 = .ok (.iinc 4 (-8), 3) := by decide +kernel
theorem d_EF_text_57 : decode b_EF_text 57 = .ok (.goto (-51), 3) := by decide +kernel
theorem d_EF_text_60 : decode b_EF_text 60 = .ok (.aload_n 0, 1) := by decide +kernel
theorem d_EF_text_61 : decode b_EF_text 61 = .ok (.getfield 13, 3) := by decide +kernel
theorem d_EF_text_64 : decode b_EF_text 64 = .ok (.iload_n 3, 1) := by decide +kernel
theorem d_EF_text_65 : decode b_EF_text 65 = .ok (.iadd, 1) := by decide +kernel
theorem d_EF_text_66 : decode b_EF_text 66 = .ok (.bipush 80, 2) := by decide +kernel
theorem d_EF_text_68 : decode b_EF_text 68 = .ok (.if_icmp .le 11, 3) := by decide +kernel
theorem d_EF_text_71 : decode b_EF_text 71 = .ok (.new 51, 3) := by decide +kernel
theorem d_EF_text_74 : decode b_EF_text 74 = .ok (.dup, 1) := by decide +kernel
theorem d_EF_text_75 : decode b_EF_text 75 = .ok (.invokespecial 53, 3) := by decide +kernel
theorem d_EF_text_78 : decode b_EF_text 78 = .ok (.athrow, 1) := by decide +kernel
theorem d_EF_text_79 : decode b_EF_text 79 = .ok (.aload_n 0, 1) := by decide +kernel
theorem d_EF_text_80 : decode b_EF_text 80 = .ok (.lload_n 1, 1) := by decide +kernel
theorem d_EF_text_81 : decode b_EF_text 81 = .ok (.invokevirtual 54, 3) := by decide +kernel
theorem d_EF_text_84 : decode b_EF_text 84 = .ok (.aload_n 0, 1) := by decide +kernel
theorem d_EF_text_85 : decode b_EF_text 85 = .ok (.getfield 13, 3) := by decide +kernel
theorem d_EF_text_88 : decode b_EF_text 88 = .ok (.ireturn, 1) := by decide +kernel
theorem d_EF_way_0 : decode b_EF_way 0 = .ok (.iload_n 2, 1) := by decide +kernel
theorem d_EF_way_1 : decode b_EF_way 1 = .ok (.invokestatic 88, 3) := by decide +kernel
theorem d_EF_way_4 : decode b_EF_way 4 = .ok (.aload_n 0, 1) := by decide +kernel
theorem d_EF_way_5 : decode b_EF_way 5 = .ok (.iload_n 1, 1) := by decide +kernel
theorem d_EF_way_6 : decode b_EF_way 6 = .ok (.invokevirtual 91, 3) := by decide +kernel
theorem d_EF_way_9 : decode b_EF_way 9 = .ok (.aload_n 0, 1) := by decide +kernel
theorem d_EF_way_10 : decode b_EF_way 10 = .ok (.getfield 37, 3) := by decide +kernel
theorem d_EF_way_13 : decode b_EF_way 13 = .ok (.iload_n 1, 1) := by decide +kernel
theorem d_EF_way_14 : decode b_EF_way 14 = .ok (.iload_n 2, 1) := by decide +kernel
theorem d_EF_way_15 : decode b_EF_way 15 = .ok (.invokevirtual 94, 3) := by decide +kernel
theorem d_EF_way_18 : decode b_EF_way 18 = .ok (.ireturn, 1) := by decide +kernel
theorem d_EF_actions_0 : decode b_EF_actions 0 = .ok (.iload_n 2, 1) := by decide +kernel
theorem d_EF_actions_1 : decode b_EF_actions 1 = .ok (.invokestatic 88, 3) := by decide +kernel
theorem d_EF_actions_4 : decode b_EF_actions 4 = .ok (.aload_n 0, 1) := by decide +kernel
theorem d_EF_actions_5 : decode b_EF_actions 5 = .ok (.iload_n 1, 1) := by decide +kernel
theorem d_EF_actions_6 : decode b_EF_actions 6 = .ok (.invokevirtual 91, 3) := by decide +kernel
theorem d_EF_actions_9 : decode b_EF_actions 9 = .ok (.aload_n 0, 1) := by decide +kernel
theorem d_EF_actions_10 : decode b_EF_actions 10 = .ok (.getfield 37, 3) := by decide +kernel
theorem d_EF_actions_13 : decode b_EF_actions 13 = .ok (.iload_n 1, 1) := by decide +kernel
theorem d_EF_actions_14 : decode b_EF_actions 14 = .ok (.iload_n 2, 1) := by decide +kernel
theorem d_EF_actions_15 : decode b_EF_actions 15 = .ok (.invokevirtual 98, 3) := by decide +kernel
theorem d_EF_actions_18 : decode b_EF_actions 18 = .ok (.ireturn, 1) := by decide +kernel
theorem d_EF_state_0 : decode b_EF_state 0 = .ok (.iload_n 2, 1) := by decide +kernel
theorem d_EF_state_1 : decode b_EF_state 1 = .ok (.ifCond .lt 8, 3) := by decide +kernel
theorem d_EF_state_4 : decode b_EF_state 4 = .ok (.iload_n 2, 1) := by decide +kernel
theorem d_EF_state_5 : decode b_EF_state 5 = .ok (.iconst 3, 1) := by decide +kernel
theorem d_EF_state_6 : decode b_EF_state 6 = .ok (.if_icmp .le 11, 3) := by decide +kernel
theorem d_EF_state_9 : decode b_EF_state 9 = .ok (.new 48, 3) := by decide +kernel
theorem d_EF_state_12 : decode b_EF_state 12 = .ok (.dup, 1) := by decide +kernel
theorem d_EF_state_13 : decode b_EF_state 13 = .ok (.invokespecial 50, 3) := by decide +kernel
theorem d_EF_state_16 : decode b_EF_state 16 = .ok (.athrow, 1) := by decide +kernel
theorem d_EF_state_17 : decode b_EF_state 17 = .ok (.aload_n 0, 1) := by decide +kernel
theorem d_EF_state_18 : decode b_EF_state 18 = .ok (.iload_n 1, 1) := by decide +kernel
theorem d_EF_state_19 : decode b_EF_state 19 = .ok (.invokevirtual 91, 3) := by decide +kernel
theorem d_EF_state_22 : decode b_EF_state 22 = .ok (.iload_n 2, 1) := by decide +kernel
theorem d_EF_state_23 : decode b_EF_state 23 = .ok (.tableswitch 63 0 2 #[25, 43, 53], 25) := by decide +kernel
theorem d_EF_state_48 : decode b_EF_state 48 = .ok (.aload_n 0, 1) := by decide +kernel
theorem d_EF_state_49 : decode b_EF_state 49 = .ok (.getfield 37, 3) := by decide +kernel
theorem d_EF_state_52 : decode b_EF_state 52 = .ok (.getfield 101, 3) := by decide +kernel
theorem d_EF_state_55 : decode b_EF_state 55 = .ok (.iload_n 1, 1) := by decide +kernel
theorem d_EF_state_56 : decode b_EF_state 56 = .ok (.baload, 1) := by decide +kernel
theorem d_EF_state_57 : decode b_EF_state 57 = .ok (.ifCond .eq 7, 3) := by decide +kernel
theorem d_EF_state_60 : decode b_EF_state 60 = .ok (.iconst 1, 1) := by decide +kernel
theorem d_EF_state_61 : decode b_EF_state 61 = .ok (.goto 4, 3) := by decide +kernel
theorem d_EF_state_64 : decode b_EF_state 64 = .ok (.iconst 0, 1) := by decide +kernel
theorem d_EF_state_65 : decode b_EF_state 65 = .ok (.ireturn, 1) := by decide +kernel
theorem d_EF_state_66 : decode b_EF_state 66 = .ok (.aload_n 0, 1) := by decide +kernel
theorem d_EF_state_67 : decode b_EF_state 67 = .ok (.getfield 37, 3) := by decide +kernel
theorem d_EF_state_70 : decode b_EF_state 70 = .ok (.getfield 105, 3) := by decide +kernel
theorem d_EF_state_73 : decode b_EF_state 73 = .ok (.iload_n 1, 1) := by decide +kernel
theorem d_EF_state_74 : decode b_EF_state 74 = .ok (.iaload, 1) := by decide +kernel
theorem d_EF_state_75 : decode b_EF_state 75 = .ok (.ireturn, 1) := by decide +kernel
theorem d_EF_state_76 : decode b_EF_state 76 = .ok (.aload_n 0, 1) := by decide +kernel
theorem d_EF_state_77 : decode b_EF_state 77 = .ok (.getfield 37, 3) := by decide +kernel
theorem d_EF_state_80 : decode b_EF_state 80 = .ok (.getfield 109, 3) := by decide +kernel
theorem d_EF_state_83 : decode b_EF_state 83 = .ok (.iload_n 1, 1) := by decide +kernel
theorem d_EF_state_84 : decode b_EF_state 84 = .ok (.iaload, 1) := by decide +kernel
theorem d_EF_state_85 : decode b_EF_state 85 = .ok (.ireturn, 1) := by decide +kernel
theorem d_EF_state_86 : decode b_EF_state 86 = .ok (.aload_n 0, 1) := by decide +kernel
theorem d_EF_state_87 : decode b_EF_state 87 = .ok (.getfield 37, 3) := by decide +kernel
theorem d_EF_state_90 : decode b_EF_state 90 = .ok (.getfield 112, 3) := by decide +kernel
theorem d_EF_state_93 : decode b_EF_state 93 = .ok (.iload_n 1, 1) := by decide +kernel
theorem d_EF_state_94 : decode b_EF_state 94 = .ok (.iaload, 1) := by decide +kernel
theorem d_EF_state_95 : decode b_EF_state 95 = .ok (.invokestatic 115, 3) := by decide +kernel
theorem d_EF_state_98 : decode b_EF_state 98 = .ok (.ireturn, 1) := by decide +kernel
theorem d_EF_feed_0 : decode b_EF_feed 0 = .ok (.iload_n 1, 1) := by decide +kernel
theorem d_EF_feed_1 : decode b_EF_feed 1 = .ok (.invokestatic 88, 3) := by decide +kernel
theorem d_EF_feed_4 : decode b_EF_feed 4 = .ok (.aload_n 0, 1) := by decide +kernel
theorem d_EF_feed_5 : decode b_EF_feed 5 = .ok (.invokevirtual 121, 3) := by decide +kernel
theorem d_EF_feed_8 : decode b_EF_feed 8 = .ok (.aload_n 0, 1) := by decide +kernel
theorem d_EF_feed_9 : decode b_EF_feed 9 = .ok (.getfield 37, 3) := by decide +kernel
theorem d_EF_feed_12 : decode b_EF_feed 12 = .ok (.aload_n 0, 1) := by decide +kernel
theorem d_EF_feed_13 : decode b_EF_feed 13 = .ok (.getfield 30, 3) := by decide +kernel
theorem d_EF_feed_16 : decode b_EF_feed 16 = .ok (.getfield 124, 3) := by decide +kernel
theorem d_EF_feed_19 : decode b_EF_feed 19 = .ok (.iload_n 1, 1) := by decide +kernel
theorem d_EF_feed_20 : decode b_EF_feed 20 = .ok (.invokevirtual 94, 3) := by decide +kernel
theorem d_EF_feed_23 : decode b_EF_feed 23 = .ok (.istore_n 2, 1) := by decide +kernel
theorem d_EF_feed_24 : decode b_EF_feed 24 = .ok (.iload_n 2, 1) := by decide +kernel
theorem d_EF_feed_25 : decode b_EF_feed 25 = .ok (.iconst (-1), 1) := by decide +kernel
theorem d_EF_feed_26 : decode b_EF_feed 26 = .ok (.if_icmp .ne 11, 3) := by decide +kernel
theorem d_EF_feed_29 : decode b_EF_feed 29 = .ok (.new 78, 3) := by decide +kernel
theorem d_EF_feed_32 : decode b_EF_feed 32 = .ok (.dup, 1) := by decide +kernel
theorem d_EF_feed_33 : decode b_EF_feed 33 = .ok (.invokespecial 80, 3) := by decide +kernel
theorem d_EF_feed_36 : decode b_EF_feed 36 = .ok (.athrow, 1) := by decide +kernel
theorem d_EF_feed_37 : decode b_EF_feed 37 = .ok (.aload_n 0, 1) := by decide +kernel
theorem d_EF_feed_38 : decode b_EF_feed 38 = .ok (.getfield 37, 3) := by decide +kernel
theorem d_EF_feed_41 : decode b_EF_feed 41 = .ok (.aload_n 0, 1) := by decide +kernel
theorem d_EF_feed_42 : decode b_EF_feed 42 = .ok (.getfield 30, 3) := by decide +kernel
theorem d_EF_feed_45 : decode b_EF_feed 45 = .ok (.getfield 124, 3) := by decide +kernel
theorem d_EF_feed_48 : decode b_EF_feed 48 = .ok (.iload_n 1, 1) := by decide +kernel
theorem d_EF_feed_49 : decode b_EF_feed 49 = .ok (.invokevirtual 98, 3) := by decide +kernel
theorem d_EF_feed_52 : decode b_EF_feed 52 = .ok (.istore_n 3, 1) := by decide +kernel
theorem d_EF_feed_53 : decode b_EF_feed 53 = .ok (.aload_n 0, 1) := by decide +kernel
theorem d_EF_feed_54 : decode b_EF_feed 54 = .ok (.getfield 30, 3) := by decide +kernel
theorem d_EF_feed_57 : decode b_EF_feed 57 = .ok (.iload_n 2, 1) := by decide +kernel
theorem d_EF_feed_58 : decode b_EF_feed 58 = .ok (.iload_n 3, 1) := by decide +kernel
theorem d_EF_feed_59 : decode b_EF_feed 59 = .ok (.invokevirtual 127, 3) := by decide +kernel
theorem d_EF_feed_62 : decode b_EF_feed 62 = .ok (.iload_n 3, 1) := by decide +kernel
theorem d_EF_feed_63 : decode b_EF_feed 63 = .ok (.ireturn, 1) := by decide +kernel
theorem d_EF_end_0 : decode b_EF_end 0 = .ok (.aload_n 0, 1) := by decide +kernel
theorem d_EF_end_1 : decode b_EF_end 1 = .ok (.invokevirtual 121, 3) := by decide +kernel
theorem d_EF_end_4 : decode b_EF_end 4 = .ok (.aload_n 0, 1) := by decide +kernel
theorem d_EF_end_5 : decode b_EF_end 5 = .ok (.getfield 37, 3) := by decide +kernel
theorem d_EF_end_8 : decode b_EF_end 8 = .ok (.getfield 101, 3) := by decide +kernel
theorem d_EF_end_11 : decode b_EF_end 11 = .ok (.aload_n 0, 1) := by decide +kernel
theorem d_EF_end_12 : decode b_EF_end 12 = .ok (.getfield 30, 3) := by decide +kernel
theorem d_EF_end_15 : decode b_EF_end 15 = .ok (.getfield 124, 3) := by decide +kernel
theorem d_EF_end_18 : decode b_EF_end 18 = .ok (.baload, 1) := by decide +kernel
theorem d_EF_end_19 : decode b_EF_end 19 = .ok (.ifCond .ne 11, 3) := by decide +kernel
theorem d_EF_end_22 : decode b_EF_end 22 = .ok (.new 78, 3) := by decide +kernel
theorem d_EF_end_25 : decode b_EF_end 25 = .ok (.dup, 1) := by decide +kernel
theorem d_EF_end_26 : decode b_EF_end 26 = .ok (.invokespecial 80, 3) := by decide +kernel
theorem d_EF_end_29 : decode b_EF_end 29 = .ok (.athrow, 1) := by decide +kernel
theorem d_EF_end_30 : decode b_EF_end 30 = .ok (.aload_n 0, 1) := by decide +kernel
theorem d_EF_end_31 : decode b_EF_end 31 = .ok (.getfield 37, 3) := by decide +kernel
theorem d_EF_end_34 : decode b_EF_end 34 = .ok (.getfield 105, 3) := by decide +kernel
theorem d_EF_end_37 : decode b_EF_end 37 = .ok (.aload_n 0, 1) := by decide +kernel
theorem d_EF_end_38 : decode b_EF_end 38 = .ok (.getfield 30, 3) := by decide +kernel
theorem d_EF_end_41 : decode b_EF_end 41 = .ok (.getfield 124, 3) := by decide +kernel
theorem d_EF_end_44 : decode b_EF_end 44 = .ok (.iaload, 1) := by decide +kernel
theorem d_EF_end_45 : decode b_EF_end 45 = .ok (.istore_n 1, 1) := by decide +kernel
theorem d_EF_end_46 : decode b_EF_end 46 = .ok (.aload_n 0, 1) := by decide +kernel
theorem d_EF_end_47 : decode b_EF_end 47 = .ok (.getfield 30, 3) := by decide +kernel
theorem d_EF_end_50 : decode b_EF_end 50 = .ok (.iload_n 1, 1) := by decide +kernel
theorem d_EF_end_51 : decode b_EF_end 51 = .ok (.invokevirtual 131, 3) := by decide +kernel
theorem d_EF_end_54 : decode b_EF_end 54 = .ok (.iload_n 1, 1) := by decide +kernel
theorem d_EF_end_55 : decode b_EF_end 55 = .ok (.ireturn, 1) := by decide +kernel
theorem d_EF_jump_0 : decode b_EF_jump 0 = .ok (.aload_n 0, 1) := by decide +kernel
theorem d_EF_jump_1 : decode b_EF_jump 1 = .ok (.invokevirtual 134, 3) := by decide +kernel
theorem d_EF_jump_4 : decode b_EF_jump 4 = .ok (.aload_n 0, 1) := by decide +kernel
theorem d_EF_jump_5 : decode b_EF_jump 5 = .ok (.iload_n 1, 1) := by decide +kernel
theorem d_EF_jump_6 : decode b_EF_jump 6 = .ok (.invokevirtual 91, 3) := by decide +kernel
theorem d_EF_jump_9 : decode b_EF_jump 9 = .ok (.aload_n 0, 1) := by decide +kernel
theorem d_EF_jump_10 : decode b_EF_jump 10 = .ok (.getfield 30, 3) := by decide +kernel
theorem d_EF_jump_13 : decode b_EF_jump 13 = .ok (.getfield 124, 3) := by decide +kernel
theorem d_EF_jump_16 : decode b_EF_jump 16 = .ok (.istore_n 2, 1) := by decide +kernel
theorem d_EF_jump_17 : decode b_EF_jump 17 = .ok (.aload_n 0, 1) := by decide +kernel
theorem d_EF_jump_18 : decode b_EF_jump 18 = .ok (.getfield 30, 3) := by decide +kernel
theorem d_EF_jump_21 : decode b_EF_jump 21 = .ok (.iload_n 1, 1) := by decide +kernel
theorem d_EF_jump_22 : decode b_EF_jump 22 = .ok (.invokevirtual 81, 3) := by decide +kernel
theorem d_EF_jump_25 : decode b_EF_jump 25 = .ok (.iload_n 2, 1) := by decide +kernel
theorem d_EF_jump_26 : decode b_EF_jump 26 = .ok (.ireturn, 1) := by decide +kernel
theorem d_EF_count_0 : decode b_EF_count 0 = .ok (.iload_n 1, 1) := by decide +kernel
theorem d_EF_count_1 : decode b_EF_count 1 = .ok (.bipush 10, 2) := by decide +kernel
theorem d_EF_count_3 : decode b_EF_count 3 = .ok (.if_icmp .lt 22, 3) := by decide +kernel
theorem d_EF_count_6 : decode b_EF_count 6 = .ok (.iload_n 1, 1) := by decide +kernel
theorem d_EF_count_7 : decode b_EF_count 7 = .ok (.bipush 20, 2) := by decide +kernel
theorem d_EF_count_9 : decode b_EF_count 9 = .ok (.if_icmp .ge 16, 3) := by decide +kernel
theorem d_EF_count_12 : decode b_EF_count 12 = .ok (.aload_n 0, 1) := by decide +kernel
theorem d_EF_count_13 : decode b_EF_count 13 = .ok (.getfield 30, 3) := by decide +kernel
theorem d_EF_count_16 : decode b_EF_count 16 = .ok (.getfield 137, 3) := by decide +kernel
theorem d_EF_count_19 : decode b_EF_count 19 = .ok (.iload_n 1, 1) := by decide +kernel
theorem d_EF_count_20 : decode b_EF_count 20 = .ok (.bipush 10, 2) := by decide +kernel
theorem d_EF_count_22 : decode b_EF_count 22 = .ok (.isub, 1) := by decide +kernel
theorem d_EF_count_23 : decode b_EF_count 23 = .ok (.iaload, 1) := by decide +kernel
theorem d_EF_count_24 : decode b_EF_count 24 = .ok (.ireturn, 1) := by decide +kernel
theorem d_EF_count_25 : decode b_EF_count 25 = .ok (.iload_n 1, 1) := by decide +kernel
theorem d_EF_count_26 : decode b_EF_count 26 = .ok (.tableswitch 103 0 6 #[42, 47, 55, 63, 71, 79, 95], 42) := by decide +kernel
theorem d_EF_count_68 : decode b_EF_count 68 = .ok (.aload_n 0, 1) := by decide +kernel
theorem d_EF_count_69 : decode b_EF_count 69 = .ok (.getfield 13, 3) := by decide +kernel
theorem d_EF_count_72 : decode b_EF_count 72 = .ok (.ireturn, 1) := by decide +kernel
theorem d_EF_count_73 : decode b_EF_count 73 = .ok (.aload_n 0, 1) := by decide +kernel
theorem d_EF_count_74 : decode b_EF_count 74 = .ok (.getfield 37, 3) := by decide +kernel
theorem d_EF_count_77 : decode b_EF_count 77 = .ok (.getfield 85, 3) := by decide +kernel
theorem d_EF_count_80 : decode b_EF_count 80 = .ok (.ireturn, 1) := by decide +kernel
theorem d_EF_count_81 : decode b_EF_count 81 = .ok (.aload_n 0, 1) := by decide +kernel
theorem d_EF_count_82 : decode b_EF_count 82 = .ok (.getfield 37, 3) := by decide +kernel
theorem d_EF_count_85 : decode b_EF_count 85 = .ok (.getfield 140, 3) := by decide +kernel
theorem d_EF_count_88 : decode b_EF_count 88 = .ok (.ireturn, 1) := by decide +kernel
theorem d_EF_count_89 : decode b_EF_count 89 = .ok (.aload_n 0, 1) := by decide +kernel
theorem d_EF_count_90 : decode b_EF_count 90 = .ok (.getfield 37, 3) := by decide +kernel
theorem d_EF_count_93 : decode b_EF_count 93 = .ok (.getfield 143, 3) := by decide +kernel
theorem d_EF_count_96 : decode b_EF_count 96 = .ok (.ireturn, 1) := by decide +kernel
theorem d_EF_count_97 : decode b_EF_count 97 = .ok (.aload_n 0, 1) := by decide +kernel
theorem d_EF_count_98 : decode b_EF_count 98 = .ok (.getfield 30, 3) := by decide +kernel
theorem d_EF_count_101 : decode b_EF_count 101 = .ok (.getfield 124, 3) := by decide +kernel
theorem d_EF_count_104 : decode b_EF_count 104 = .ok (.ireturn, 1) := by decide +kernel
theorem d_EF_count_105 : decode b_EF_count 105 = .ok (.aload_n 0, 1) := by decide +kernel
theorem d_EF_count_106 : decode b_EF_count 106 = .ok (.getfield 30, 3) := by decide +kernel
theorem d_EF_count_109 : decode b_EF_count 109 = .ok (.getfield 146, 3) := by decide +kernel
theorem d_EF_count_112 : decode b_EF_count 112 = .ok (.ifCond .eq 7, 3) := by decide +kernel
theorem d_EF_count_115 : decode b_EF_count 115 = .ok (.iconst 1, 1) := by decide +kernel
theorem d_EF_count_116 : decode b_EF_count 116 = .ok (.goto 4, 3) := by decide +kernel
theorem d_EF_count_119 : decode b_EF_count 119 = .ok (.iconst 0, 1) := by decide +kernel
theorem d_EF_count_120 : decode b_EF_count 120 = .ok (.ireturn, 1) := by decide +kernel
theorem d_EF_count_121 : decode b_EF_count 121 = .ok (.aload_n 0, 1) := by decide +kernel
theorem d_EF_count_122 : decode b_EF_count 122 = .ok (.getfield 30, 3) := by decide +kernel
theorem d_EF_count_125 : decode b_EF_count 125 = .ok (.getfield 150, 3) := by decide +kernel
theorem d_EF_count_128 : decode b_EF_count 128 = .ok (.ireturn, 1) := by decide +kernel
theorem d_EF_count_129 : decode b_EF_count 129 = .ok (.new 48, 3) := by decide +kernel
theorem d_EF_count_132 : decode b_EF_count 132 = .ok (.dup, 1) := by decide +kernel
theorem d_EF_count_133 : decode b_EF_count 133 = .ok (.invokespecial 50, 3) := by decide +kernel
theorem d_EF_count_136 : decode b_EF_count 136 = .ok (.athrow, 1) := by decide +kernel
