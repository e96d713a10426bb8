abbrev b_M_in : ByteArray := prog_8_method_3_code
def y_M_in : MethodName := ⟨RX6, "in", "(III)Z"⟩
def ws_M_in : List Cond := .code y_M_in b_M_in 3 (Option.some FieldType.boolean) :: tb9
theorem hs_M_in : y_M_in.cls ≠ "java/lang/invoke/MethodHandle" ∧ y_M_in.cls ≠ "java/lang/invoke/VarHandle" ∧ (parseMethodDescriptor y_M_in.desc).map (fun d => d.parameters.length) = some 3 := by decide +kernel
theorem hv_M_in : y_M_in.cls = RX6 ∧ y_M_in.cls ≠ "java/lang/invoke/MethodHandle" ∧ y_M_in.cls ≠ "java/lang/invoke/VarHandle" ∧ (parseMethodDescriptor y_M_in.desc).map (fun d => d.parameters.length) = some 3 := ⟨rfl, hs_M_in⟩
abbrev b_M_has : ByteArray := prog_8_method_8_code
def y_M_has : MethodName := ⟨RX6, "has", "(II)Z"⟩
def ws_M_has : List Cond := .code y_M_has b_M_has 2 (Option.some FieldType.boolean) :: tb9
theorem hs_M_has : y_M_has.cls ≠ "java/lang/invoke/MethodHandle" ∧ y_M_has.cls ≠ "java/lang/invoke/VarHandle" ∧ (parseMethodDescriptor y_M_has.desc).map (fun d => d.parameters.length) = some 2 := by decide +kernel
theorem hv_M_has : y_M_has.cls = RX6 ∧ y_M_has.cls ≠ "java/lang/invoke/MethodHandle" ∧ y_M_has.cls ≠ "java/lang/invoke/VarHandle" ∧ (parseMethodDescriptor y_M_has.desc).map (fun d => d.parameters.length) = some 2 := ⟨rfl, hs_M_has⟩
abbrev b_M_isAtom : ByteArray := prog_8_method_18_code
def y_M_isAtom : MethodName := ⟨RX6, "isAtom", "(I)Z"⟩
def ws_M_isAtom : List Cond := .code y_M_isAtom b_M_isAtom 1 (Option.some FieldType.boolean) :: tb9
theorem hs_M_isAtom : y_M_isAtom.cls ≠ "java/lang/invoke/MethodHandle" ∧ y_M_isAtom.cls ≠ "java/lang/invoke/VarHandle" ∧ (parseMethodDescriptor y_M_isAtom.desc).map (fun d => d.parameters.length) = some 1 := by decide +kernel
theorem hv_M_isAtom : y_M_isAtom.cls = RX6 ∧ y_M_isAtom.cls ≠ "java/lang/invoke/MethodHandle" ∧ y_M_isAtom.cls ≠ "java/lang/invoke/VarHandle" ∧ (parseMethodDescriptor y_M_isAtom.desc).map (fun d => d.parameters.length) = some 1 := ⟨rfl, hs_M_isAtom⟩
abbrev b_M_isSuffix : ByteArray := prog_8_method_21_code
def y_M_isSuffix : MethodName := ⟨RX6, "isSuffix", "(I)Z"⟩
def ws_M_isSuffix : List Cond := .code y_M_isSuffix b_M_isSuffix 1 (Option.some FieldType.boolean) :: tb9
theorem hs_M_isSuffix : y_M_isSuffix.cls ≠ "java/lang/invoke/MethodHandle" ∧ y_M_isSuffix.cls ≠ "java/lang/invoke/VarHandle" ∧ (parseMethodDescriptor y_M_isSuffix.desc).map (fun d => d.parameters.length) = some 1 := by decide +kernel
theorem hv_M_isSuffix : y_M_isSuffix.cls = RX6 ∧ y_M_isSuffix.cls ≠ "java/lang/invoke/MethodHandle" ∧ y_M_isSuffix.cls ≠ "java/lang/invoke/VarHandle" ∧ (parseMethodDescriptor y_M_isSuffix.desc).map (fun d => d.parameters.length) = some 1 := ⟨rfl, hs_M_isSuffix⟩
abbrev b_M_thrown : ByteArray := prog_8_method_2_code
def y_M_thrown : MethodName := ⟨RX6, "thrown", "()I"⟩
def ws_M_thrown : List Cond := .code y_M_thrown b_M_thrown 1 (Option.some FieldType.int) :: tb9
theorem hs_M_thrown : y_M_thrown.cls ≠ "java/lang/invoke/MethodHandle" ∧ y_M_thrown.cls ≠ "java/lang/invoke/VarHandle" ∧ (parseMethodDescriptor y_M_thrown.desc).map (fun d => d.parameters.length) = some 0 := by decide +kernel
theorem hv_M_thrown : y_M_thrown.cls = RX6 ∧ y_M_thrown.cls ≠ "java/lang/invoke/MethodHandle" ∧ y_M_thrown.cls ≠ "java/lang/invoke/VarHandle" ∧ (parseMethodDescriptor y_M_thrown.desc).map (fun d => d.parameters.length) = some 0 := ⟨rfl, hs_M_thrown⟩
abbrev b_M_fail : ByteArray := prog_8_method_4_code
def y_M_fail : MethodName := ⟨RX6, "fail", "(I)I"⟩
def ws_M_fail : List Cond := .code y_M_fail b_M_fail 2 (Option.some FieldType.int) :: tb9
theorem hs_M_fail : y_M_fail.cls ≠ "java/lang/invoke/MethodHandle" ∧ y_M_fail.cls ≠ "java/lang/invoke/VarHandle" ∧ (parseMethodDescriptor y_M_fail.desc).map (fun d => d.parameters.length) = some 1 := by decide +kernel
theorem hv_M_fail : y_M_fail.cls = RX6 ∧ y_M_fail.cls ≠ "java/lang/invoke/MethodHandle" ∧ y_M_fail.cls ≠ "java/lang/invoke/VarHandle" ∧ (parseMethodDescriptor y_M_fail.desc).map (fun d => d.parameters.length) = some 1 := ⟨rfl, hs_M_fail⟩
abbrev b_M_text : ByteArray := prog_8_method_5_code
def y_M_text : MethodName := ⟨RX6, "text", "(J)I"⟩
def ws_M_text : List Cond := .code y_M_text b_M_text 7 (Option.some FieldType.int) :: tb9
theorem hs_M_text : y_M_text.cls ≠ "java/lang/invoke/MethodHandle" ∧ y_M_text.cls ≠ "java/lang/invoke/VarHandle" ∧ (parseMethodDescriptor y_M_text.desc).map (fun d => d.parameters.length) = some 1 := by decide +kernel
theorem hv_M_text : y_M_text.cls = RX6 ∧ y_M_text.cls ≠ "java/lang/invoke/MethodHandle" ∧ y_M_text.cls ≠ "java/lang/invoke/VarHandle" ∧ (parseMethodDescriptor y_M_text.desc).map (fun d => d.parameters.length) = some 1 := ⟨rfl, hs_M_text⟩
abbrev b_M_clear : ByteArray := prog_8_method_6_code
def y_M_clear : MethodName := ⟨RX6, "clear", "()I"⟩
def ws_M_clear : List Cond := .code y_M_clear b_M_clear 2 (Option.some FieldType.int) :: tb9
theorem hs_M_clear : y_M_clear.cls ≠ "java/lang/invoke/MethodHandle" ∧ y_M_clear.cls ≠ "java/lang/invoke/VarHandle" ∧ (parseMethodDescriptor y_M_clear.desc).map (fun d => d.parameters.length) = some 0 := by decide +kernel
theorem hv_M_clear : y_M_clear.cls = RX6 ∧ y_M_clear.cls ≠ "java/lang/invoke/MethodHandle" ∧ y_M_clear.cls ≠ "java/lang/invoke/VarHandle" ∧ (parseMethodDescriptor y_M_clear.desc).map (fun d => d.parameters.length) = some 0 := ⟨rfl, hs_M_clear⟩
abbrev b_M_copy : ByteArray := prog_8_method_7_code
def y_M_copy : MethodName := ⟨RX6, "copy", "(II)V"⟩
def ws_M_copy : List Cond := .code y_M_copy b_M_copy 4 (Option.none : Option FieldType) :: tb9
theorem hs_M_copy : y_M_copy.cls ≠ "java/lang/invoke/MethodHandle" ∧ y_M_copy.cls ≠ "java/lang/invoke/VarHandle" ∧ (parseMethodDescriptor y_M_copy.desc).map (fun d => d.parameters.length) = some 2 := by decide +kernel
theorem hv_M_copy : y_M_copy.cls = RX6 ∧ y_M_copy.cls ≠ "java/lang/invoke/MethodHandle" ∧ y_M_copy.cls ≠ "java/lang/invoke/VarHandle" ∧ (parseMethodDescriptor y_M_copy.desc).map (fun d => d.parameters.length) = some 2 := ⟨rfl, hs_M_copy⟩
abbrev b_M_more : ByteArray := prog_8_method_9_code
def y_M_more : MethodName := ⟨RX6, "more", "(IIZI)V"⟩
def ws_M_more : List Cond := .code y_M_more b_M_more 7 (Option.none : Option FieldType) :: tb9
theorem hs_M_more : y_M_more.cls ≠ "java/lang/invoke/MethodHandle" ∧ y_M_more.cls ≠ "java/lang/invoke/VarHandle" ∧ (parseMethodDescriptor y_M_more.desc).map (fun d => d.parameters.length) = some 4 := by decide +kernel
theorem hv_M_more : y_M_more.cls = RX6 ∧ y_M_more.cls ≠ "java/lang/invoke/MethodHandle" ∧ y_M_more.cls ≠ "java/lang/invoke/VarHandle" ∧ (parseMethodDescriptor y_M_more.desc).map (fun d => d.parameters.length) = some 4 := ⟨rfl, hs_M_more⟩
abbrev b_M_link : ByteArray := prog_8_method_10_code
def y_M_link : MethodName := ⟨RX6, "link", "(II)V"⟩
def ws_M_link : List Cond := .code y_M_link b_M_link 5 (Option.none : Option FieldType) :: tb9
theorem hs_M_link : y_M_link.cls ≠ "java/lang/invoke/MethodHandle" ∧ y_M_link.cls ≠ "java/lang/invoke/VarHandle" ∧ (parseMethodDescriptor y_M_link.desc).map (fun d => d.parameters.length) = some 2 := by decide +kernel
theorem hv_M_link : y_M_link.cls = RX6 ∧ y_M_link.cls ≠ "java/lang/invoke/MethodHandle" ∧ y_M_link.cls ≠ "java/lang/invoke/VarHandle" ∧ (parseMethodDescriptor y_M_link.desc).map (fun d => d.parameters.length) = some 2 := ⟨rfl, hs_M_link⟩
abbrev b_M_here : ByteArray := prog_8_method_16_code
def y_M_here : MethodName := ⟨RX6, "here", "()I"⟩
def ws_M_here : List Cond := .code y_M_here b_M_here 1 (Option.some FieldType.int) :: tb9
theorem hs_M_here : y_M_here.cls ≠ "java/lang/invoke/MethodHandle" ∧ y_M_here.cls ≠ "java/lang/invoke/VarHandle" ∧ (parseMethodDescriptor y_M_here.desc).map (fun d => d.parameters.length) = some 0 := by decide +kernel
theorem hv_M_here : y_M_here.cls = RX6 ∧ y_M_here.cls ≠ "java/lang/invoke/MethodHandle" ∧ y_M_here.cls ≠ "java/lang/invoke/VarHandle" ∧ (parseMethodDescriptor y_M_here.desc).map (fun d => d.parameters.length) = some 0 := ⟨rfl, hs_M_here⟩
abbrev b_M_wrong : ByteArray := prog_8_method_17_code
def y_M_wrong : MethodName := ⟨RX6, "wrong", "()V"⟩
def ws_M_wrong : List Cond := .code y_M_wrong b_M_wrong 1 (Option.none : Option FieldType) :: tb9
theorem hs_M_wrong : y_M_wrong.cls ≠ "java/lang/invoke/MethodHandle" ∧ y_M_wrong.cls ≠ "java/lang/invoke/VarHandle" ∧ (parseMethodDescriptor y_M_wrong.desc).map (fun d => d.parameters.length) = some 0 := by decide +kernel
theorem hv_M_wrong : y_M_wrong.cls = RX6 ∧ y_M_wrong.cls ≠ "java/lang/invoke/MethodHandle" ∧ y_M_wrong.cls ≠ "java/lang/invoke/VarHandle" ∧ (parseMethodDescriptor y_M_wrong.desc).map (fun d => d.parameters.length) = some 0 := ⟨rfl, hs_M_wrong⟩
theorem k_27 : (.selects RX6 y_M_fail y_M_fail : Cond) ∈ tb9 := List.mem_filter.mpr ⟨List.mem_of_getElem? (i := 27) (by decide +kernel), by decide +kernel⟩
theorem k_55 : (.initialized y_M_in.cls : Cond) ∈ tb9 := List.mem_filter.mpr ⟨List.mem_of_getElem? (i := 55) (by decide +kernel), by decide +kernel⟩
theorem k_938 : (.fieldLink RX6 7 "EmbedForgeModel" "text" "[I" : Cond) ∈ tb9 := List.mem_filter.mpr ⟨List.mem_of_getElem? (i := 938) (by decide +kernel), by decide +kernel⟩
theorem k_939 : (.fieldLink RX6 104 "EmbedForgeModel" "length" "I" : Cond) ∈ tb9 := List.mem_filter.mpr ⟨List.mem_of_getElem? (i := 939) (by decide +kernel), by decide +kernel⟩
theorem k_940 : (.fieldLink RX6 13 "EmbedForgeModel" "where" "I" : Cond) ∈ tb9 := List.mem_filter.mpr ⟨List.mem_of_getElem? (i := 940) (by decide +kernel), by decide +kernel⟩
theorem k_941 : (.fieldLink RX6 93 "EmbedForgeModel" "thrown" "I" : Cond) ∈ tb9 := List.mem_filter.mpr ⟨List.mem_of_getElem? (i := 941) (by decide +kernel), by decide +kernel⟩
theorem k_942 : (.fieldLink RX6 125 "EmbedForgeModel" "at" "I" : Cond) ∈ tb9 := List.mem_filter.mpr ⟨List.mem_of_getElem? (i := 942) (by decide +kernel), by decide +kernel⟩
theorem k_944 : (.fieldLink RX6 128 "EmbedForgeModel" "bad" "Z" : Cond) ∈ tb9 := List.mem_filter.mpr ⟨List.mem_of_getElem? (i := 944) (by decide +kernel), by decide +kernel⟩
theorem k_945 : (.fieldLink RX6 17 "EmbedForgeModel" "is" "[Z" : Cond) ∈ tb9 := List.mem_filter.mpr ⟨List.mem_of_getElem? (i := 945) (by decide +kernel), by decide +kernel⟩
theorem k_946 : (.fieldLink RX6 21 "EmbedForgeModel" "empty" "[Z" : Cond) ∈ tb9 := List.mem_filter.mpr ⟨List.mem_of_getElem? (i := 946) (by decide +kernel), by decide +kernel⟩
theorem k_947 : (.fieldLink RX6 24 "EmbedForgeModel" "from" "[I" : Cond) ∈ tb9 := List.mem_filter.mpr ⟨List.mem_of_getElem? (i := 947) (by decide +kernel), by decide +kernel⟩
theorem k_948 : (.fieldLink RX6 27 "EmbedForgeModel" "nothing" "[I" : Cond) ∈ tb9 := List.mem_filter.mpr ⟨List.mem_of_getElem? (i := 948) (by decide +kernel), by decide +kernel⟩
theorem k_949 : (.fieldLink RX6 30 "EmbedForgeModel" "first" "[I" : Cond) ∈ tb9 := List.mem_filter.mpr ⟨List.mem_of_getElem? (i := 949) (by decide +kernel), by decide +kernel⟩
theorem k_950 : (.fieldLink RX6 33 "EmbedForgeModel" "last" "[I" : Cond) ∈ tb9 := List.mem_filter.mpr ⟨List.mem_of_getElem? (i := 950) (by decide +kernel), by decide +kernel⟩
theorem k_951 : (.fieldLink RX6 36 "EmbedForgeModel" "firstDo" "[I" : Cond) ∈ tb9 := List.mem_filter.mpr ⟨List.mem_of_getElem? (i := 951) (by decide +kernel), by decide +kernel⟩
theorem k_952 : (.fieldLink RX6 39 "EmbedForgeModel" "lastDo" "[I" : Cond) ∈ tb9 := List.mem_filter.mpr ⟨List.mem_of_getElem? (i := 952) (by decide +kernel), by decide +kernel⟩
theorem k_954 : (.fieldLink RX6 45 "EmbedForgeModel" "stepDo" "[I" : Cond) ∈ tb9 := List.mem_filter.mpr ⟨List.mem_of_getElem? (i := 954) (by decide +kernel), by decide +kernel⟩
theorem k_955 : (.fieldLink RX6 48 "EmbedForgeModel" "step" "[Z" : Cond) ∈ tb9 := List.mem_filter.mpr ⟨List.mem_of_getElem? (i := 955) (by decide +kernel), by decide +kernel⟩
theorem k_1061 : (.methodLink RX6 96 y_M_in : Cond) ∈ tb9 := List.mem_filter.mpr ⟨List.mem_of_getElem? (i := 1061) (by decide +kernel), by decide +kernel⟩
theorem k_1062 : (.static y_M_in : Cond) ∈ tb9 := List.mem_filter.mpr ⟨List.mem_of_getElem? (i := 1062) (by decide +kernel), by decide +kernel⟩
theorem k_1063 : (.code y_M_in b_M_in 3 (Option.some FieldType.boolean) : Cond) ∈ tb9 := List.mem_filter.mpr ⟨List.mem_of_getElem? (i := 1063) (by decide +kernel), by decide +kernel⟩
theorem k_1064 : (.methodLink RX6 100 y_M_fail : Cond) ∈ tb9 := List.mem_filter.mpr ⟨List.mem_of_getElem? (i := 1064) (by decide +kernel), by decide +kernel⟩
theorem k_1066 : (.instanceMethod y_M_fail : Cond) ∈ tb9 := List.mem_filter.mpr ⟨List.mem_of_getElem? (i := 1066) (by decide +kernel), by decide +kernel⟩
theorem k_1067 : (.code y_M_fail b_M_fail 2 (Option.some FieldType.int) : Cond) ∈ tb9 := List.mem_filter.mpr ⟨List.mem_of_getElem? (i := 1067) (by decide +kernel), by decide +kernel⟩
theorem k_1103 : (.methodLink RX6 107 y_M_has : Cond) ∈ tb9 := List.mem_filter.mpr ⟨List.mem_of_getElem? (i := 1103) (by decide +kernel), by decide +kernel⟩
theorem k_1104 : (.static y_M_has : Cond) ∈ tb9 := List.mem_filter.mpr ⟨List.mem_of_getElem? (i := 1104) (by decide +kernel), by decide +kernel⟩
theorem k_1105 : (.code y_M_has b_M_has 2 (Option.some FieldType.boolean) : Cond) ∈ tb9 := List.mem_filter.mpr ⟨List.mem_of_getElem? (i := 1105) (by decide +kernel), by decide +kernel⟩
theorem d_M_in_0 : decode b_M_in 0 = .ok (.iload_n 0, 1) := by decide +kernel
theorem d_M_in_1 : decode b_M_in 1 = .ok (.iload_n 1, 1) := by decide +kernel
theorem d_M_in_2 : decode b_M_in 2 = .ok (.if_icmp .lt 12, 3) := by decide +kernel
theorem d_M_in_5 : decode b_M_in 5 = .ok (.iload_n 0, 1) := by decide +kernel
theorem d_M_in_6 : decode b_M_in 6 = .ok (.iload_n 2, 1) := by decide +kernel
theorem d_M_in_7 : decode b_M_in 7 = .ok (.if_icmp .gt 7, 3) := by decide +kernel
theorem d_M_in_10 : decode b_M_in 10 = .ok (.iconst 1, 1) := by decide +kernel
theorem d_M_in_11 : decode b_M_in 11 = .ok (.goto 4, 3) := by decide +kernel
theorem d_M_in_14 : decode b_M_in 14 = .ok (.iconst 0, 1) := by decide +kernel
theorem d_M_in_15 : decode b_M_in 15 = .ok (.ireturn, 1) := by decide +kernel
theorem d_M_has_0 : decode b_M_has 0 = .ok (.iload_n 0, 1) := by decide +kernel
theorem d_M_has_1 : decode b_M_has 1 = .ok (.iload_n 1, 1) := by decide +kernel
theorem d_M_has_2 : decode b_M_has 2 = .ok (.ishr, 1) := by decide +kernel
theorem d_M_has_3 : decode b_M_has 3 = .ok (.iconst 1, 1) := by decide +kernel
theorem d_M_has_4 : decode b_M_has 4 = .ok (.iand, 1) := by decide +kernel
theorem d_M_has_5 : decode b_M_has 5 = .ok (.iconst 1, 1) := by decide +kernel
theorem d_M_has_6 : decode b_M_has 6 = .ok (.if_icmp .ne 7, 3) := by decide +kernel
theorem d_M_has_9 : decode b_M_has 9 = .ok (.iconst 1, 1) := by decide +kernel
theorem d_M_has_10 : decode b_M_has 10 = .ok (.goto 4, 3) := by decide +kernel
theorem d_M_has_13 : decode b_M_has 13 = .ok (.iconst 0, 1) := by decide +kernel
theorem d_M_has_14 : decode b_M_has 14 = .ok (.ireturn, 1) := by decide +kernel
theorem d_M_isAtom_0 : decode b_M_isAtom 0 = .ok (.iload_n 0, 1) := by decide +kernel
theorem d_M_isAtom_1 : decode b_M_isAtom 1 = .ok (.bipush 97, 2) := by decide +kernel
theorem d_M_isAtom_3 : decode b_M_isAtom 3 = .ok (.bipush 100, 2) := by decide +kernel
theorem d_M_isAtom_5 : decode b_M_isAtom 5 = .ok (.invokestatic 96, 3) := by decide +kernel
theorem d_M_isAtom_8 : decode b_M_isAtom 8 = .ok (.ifCond .ne 15, 3) := by decide +kernel
theorem d_M_isAtom_11 : decode b_M_isAtom 11 = .ok (.iload_n 0, 1) := by decide +kernel
theorem d_M_isAtom_12 : decode b_M_isAtom 12 = .ok (.bipush 46, 2) := by decide +kernel
theorem d_M_isAtom_14 : decode b_M_isAtom 14 = .ok (.if_icmp .eq 9, 3) := by decide +kernel
theorem d_M_isAtom_17 : decode b_M_isAtom 17 = .ok (.iload_n 0, 1) := by decide +kernel
theorem d_M_isAtom_18 : decode b_M_isAtom 18 = .ok (.bipush 91, 2) := by decide +kernel
theorem d_M_isAtom_20 : decode b_M_isAtom 20 = .ok (.if_icmp .ne 7, 3) := by decide +kernel
theorem d_M_isAtom_23 : decode b_M_isAtom 23 = .ok (.iconst 1, 1) := by decide +kernel
theorem d_M_isAtom_24 : decode b_M_isAtom 24 = .ok (.goto 4, 3) := by decide +kernel
theorem d_M_isAtom_27 : decode b_M_isAtom 27 = .ok (.iconst 0, 1) := by decide +kernel
theorem d_M_isAtom_28 : decode b_M_isAtom 28 = .ok (.ireturn, 1) := by decide +kernel
theorem d_M_isSuffix_0 : decode b_M_isSuffix 0 = .ok (.iload_n 0, 1) := by decide +kernel
theorem d_M_isSuffix_1 : decode b_M_isSuffix 1 = .ok (.bipush 42, 2) := by decide +kernel
theorem d_M_isSuffix_3 : decode b_M_isSuffix 3 = .ok (.if_icmp .eq 39, 3) := by decide +kernel
theorem d_M_isSuffix_6 : decode b_M_isSuffix 6 = .ok (.iload_n 0, 1) := by decide +kernel
theorem d_M_isSuffix_7 : decode b_M_isSuffix 7 = .ok (.bipush 43, 2) := by decide +kernel
theorem d_M_isSuffix_9 : decode b_M_isSuffix 9 = .ok (.if_icmp .eq 33, 3) := by decide +kernel
theorem d_M_isSuffix_12 : decode b_M_isSuffix 12 = .ok (.iload_n 0, 1) := by decide +kernel
theorem d_M_isSuffix_13 : decode b_M_isSuffix 13 = .ok (.bipush 63, 2) := by decide +kernel
theorem d_M_isSuffix_15 : decode b_M_isSuffix 15 = .ok (.if_icmp .eq 27, 3) := by decide +kernel
theorem d_M_isSuffix_18 : decode b_M_isSuffix 18 = .ok (.iload_n 0, 1) := by decide +kernel
theorem d_M_isSuffix_19 : decode b_M_isSuffix 19 = .ok (.bipush 62, 2) := by decide +kernel
theorem d_M_isSuffix_21 : decode b_M_isSuffix 21 = .ok (.if_icmp .eq 21, 3) := by decide +kernel
theorem d_M_isSuffix_24 : decode b_M_isSuffix 24 = .ok (.iload_n 0, 1) := by decide +kernel
theorem d_M_isSuffix_25 : decode b_M_isSuffix 25 = .ok (.bipush 64, 2) := by decide +kernel
theorem d_M_isSuffix_27 : decode b_M_isSuffix 27 = .ok (.if_icmp .eq 15, 3) := by decide +kernel
theorem d_M_isSuffix_30 : decode b_M_isSuffix 30 = .ok (.iload_n 0, 1) := by decide +kernel
theorem d_M_isSuffix_31 : decode b_M_isSuffix 31 = .ok (.bipush 36, 2) := by decide +kernel
theorem d_M_isSuffix_33 : decode b_M_isSuffix 33 = .ok (.if_icmp .eq 9, 3) := by decide +kernel
theorem d_M_isSuffix_36 : decode b_M_isSuffix 36 = .ok (.iload_n 0, 1) := by decide +kernel
theorem d_M_isSuffix_37 : decode b_M_isSuffix 37 = .ok (.bipush 37, 2) := by decide +kernel
theorem d_M_isSuffix_39 : decode b_M_isSuffix 39 = .ok (.if_icmp .ne 7, 3) := by decide +kernel
theorem d_M_isSuffix_42 : decode b_M_isSuffix 42 = .ok (.iconst 1, 1) := by decide +kernel
theorem d_M_isSuffix_43 : decode b_M_isSuffix 43 = .ok (.goto 4, 3) := by decide +kernel
theorem d_M_isSuffix_46 : decode b_M_isSuffix 46 = .ok (.iconst 0, 1) := by decide +kernel
theorem d_M_isSuffix_47 : decode b_M_isSuffix 47 = .ok (.ireturn, 1) := by decide +kernel
theorem d_M_thrown_0 : decode b_M_thrown 0 = .ok (.aload_n 0, 1) := by decide +kernel
theorem d_M_thrown_1 : decode b_M_thrown 1 = .ok (.getfield 93, 3) := by decide +kernel
theorem d_M_thrown_4 : decode b_M_thrown 4 = .ok (.ireturn, 1) := by decide +kernel
theorem d_M_fail_0 : decode b_M_fail 0 = .ok (.aload_n 0, 1) := by decide +kernel
theorem d_M_fail_1 : decode b_M_fail 1 = .ok (.iload_n 1, 1) := by decide +kernel
theorem d_M_fail_2 : decode b_M_fail 2 = .ok (.putfield 93, 3) := by decide +kernel
theorem d_M_fail_5 : decode b_M_fail 5 = .ok (.iconst 0, 1) := by decide +kernel
theorem d_M_fail_6 : decode b_M_fail 6 = .ok (.ireturn, 1) := by decide +kernel
theorem d_M_text_0 : decode b_M_text 0 = .ok (.iconst 0, 1) := by decide +kernel
theorem d_M_text_1 : decode b_M_text 1 = .ok (.istore_n 3, 1) := by decide +kernel
theorem d_M_text_2 : decode b_M_text 2 = .ok (.iconst 1, 1) := by decide +kernel
theorem d_M_text_3 : decode b_M_text 3 = .ok (.istore 4, 2) := by decide +kernel
theorem d_M_text_5 : decode b_M_text 5 = .ok (.bipush 56, 2) := by decide +kernel
theorem d_M_text_7 : decode b_M_text 7 = .ok (.istore 5, 2) := by decide +kernel
theorem d_M_text_9 : decode b_M_text 9 = .ok (.iload 5, 2) := by decide +kernel
theorem d_M_text_11 : decode b_M_text 11 = .ok (.ifCond .lt 46, 3) := by decide +kernel
theorem d_M_text_14 : decode b_M_text 14 = .ok (.lload_n 1, 1) := by decide +kernel
theorem d_M_text_15 : decode b_M_text 15 = .ok (.iload 5, 2) := by decide +kernel
theorem d_M_text_17 : decode b_M_text 17 = .ok (.lshr, 1) := by decide +kernel
theorem d_M_text_18 : decode b_M_text 18 = .ok (.l2i, 1) := by decide +kernel
theorem d_M_text_19 : decode b_M_text 19 = .ok (.sipush 255, 3) := by decide +kernel
theorem d_M_text_22 : decode b_M_text 22 = .ok (.iand, 1) := by decide +kernel
theorem d_M_text_23 : decode b_M_text 23 = .ok (.istore 6, 2) := by decide +kernel
theorem d_M_text_25 : decode b_M_text 25 = .ok (.iload 6, 2) := by decide +kernel
theorem d_M_text_27 : decode b_M_text 27 = .ok (.ifCond .ne 6, 3) := by decide +kernel
theorem d_M_text_30 : decode b_M_text 30 = .ok (.goto 21, 3) := by decide +kernel
theorem d_M_text_33 : decode b_M_text 33 = .ok (.iload 6, 2) := by decide +kernel
theorem d_M_text_35 : decode b_M_text 35 = .ok (.bipush 32, 2) := by decide +kernel
theorem d_M_text_37 : decode b_M_text 37 = .ok (.bipush 126, 2) := by decide +kernel
theorem d_M_text_39 : decode b_M_text 39 = .ok (.invokestatic 96, 3) := by decide +kernel
theorem d_M_text_42 : decode b_M_text 42 = .ok (.ifCond .ne 6, 3) := by decide +kernel
theorem d_M_text_45 : decode b_M_text 45 = .ok (.iconst 0, 1) := by decide +kernel
theorem d_M_text_46 : decode b_M_text 46 = .ok (.istore 4, 2) := by decide +kernel
theorem d_M_text_48 : decode b_M_text 48 = .ok (.iinc 3 1, 3) := by decide +kernel
theorem d_M_text_51 : decode b_M_text 51 = .ok (.iinc 5 (-8), 3) := by decide +kernel
theorem d_M_text_54 : decode b_M_text 54 = .ok (.goto (-45), 3) := by decide +kernel
theorem d_M_text_57 : decode b_M_text 57 = .ok (.iload 4, 2) := by decide +kernel
theorem d_M_text_59 : decode b_M_text 59 = .ok (.ifCond .ne 9, 3) := by decide +kernel
theorem d_M_text_62 : decode b_M_text 62 = .ok (.aload_n 0, 1) := by decide +kernel
theorem d_M_text_63 : decode b_M_text 63 = .ok (.iconst 1, 1) := by decide +kernel
theorem d_M_text_64 : decode b_M_text 64 = .ok (.invokevirtual 100, 3) := by decide +kernel
theorem d_M_text_67 : decode b_M_text 67 = .ok (.ireturn, 1) := by decide +kernel
theorem d_M_text_68 : decode b_M_text 68 = .ok (.aload_n 0, 1) := by decide +kernel
theorem d_M_text_69 : decode b_M_text 69 = .ok (.getfield 104, 3) := by decide +kernel
theorem d_M_text_72 : decode b_M_text 72 = .ok (.iload_n 3, 1) := by decide +kernel
theorem d_M_text_73 : decode b_M_text 73 = .ok (.iadd, 1) := by decide +kernel
theorem d_M_text_74 : decode b_M_text 74 = .ok (.bipush 80, 2) := by decide +kernel
theorem d_M_text_76 : decode b_M_text 76 = .ok (.if_icmp .le 9, 3) := by decide +kernel
theorem d_M_text_79 : decode b_M_text 79 = .ok (.aload_n 0, 1) := by decide +kernel
theorem d_M_text_80 : decode b_M_text 80 = .ok (.iconst 2, 1) := by decide +kernel
theorem d_M_text_81 : decode b_M_text 81 = .ok (.invokevirtual 100, 3) := by decide +kernel
theorem d_M_text_84 : decode b_M_text 84 = .ok (.ireturn, 1) := by decide +kernel
theorem d_M_text_85 : decode b_M_text 85 = .ok (.aload_n 0, 1) := by decide +kernel
theorem d_M_text_86 : decode b_M_text 86 = .ok (.iconst 0, 1) := by decide +kernel
theorem d_M_text_87 : decode b_M_text 87 = .ok (.putfield 93, 3) := by decide +kernel
theorem d_M_text_90 : decode b_M_text 90 = .ok (.bipush 56, 2) := by decide +kernel
theorem d_M_text_92 : decode b_M_text 92 = .ok (.istore 5, 2) := by decide +kernel
theorem d_M_text_94 : decode b_M_text 94 = .ok (.iload 5, 2) := by decide +kernel
theorem d_M_text_96 : decode b_M_text 96 = .ok (.ifCond .lt 49, 3) := by decide +kernel
theorem d_M_text_99 : decode b_M_text 99 = .ok (.lload_n 1, 1) := by decide +kernel
theorem d_M_text_100 : decode b_M_text 100 = .ok (.iload 5, 2) := by decide +kernel
theorem d_M_text_102 : decode b_M_text 102 = .ok (.lshr, 1) := by decide +kernel
theorem d_M_text_103 : decode b_M_text 103 = .ok (.l2i, 1) := by decide +kernel
theorem d_M_text_104 : decode b_M_text 104 = .ok (.sipush 255, 3) := by decide +kernel
theorem d_M_text_107 : decode b_M_text 107 = .ok (.iand, 1) := by decide +kernel
theorem d_M_text_108 : decode b_M_text 108 = .ok (.istore 6, 2) := by decide +kernel
theorem d_M_text_110 : decode b_M_text 110 = .ok (.iload 6, 2) := by decide +kernel
theorem d_M_text_112 : decode b_M_text 112 = .ok (.ifCond .ne 6, 3) := by decide +kernel
theorem d_M_text_115 : decode b_M_text 115 = .ok (.goto 24, 3) := by decide +kernel
theorem d_M_text_118 : decode b_M_text 118 = .ok (.aload_n 0, 1) := by decide +kernel
theorem d_M_text_119 : decode b_M_text 119 = .ok (.getfield 7, 3) := by decide +kernel
theorem d_M_text_122 : decode b_M_text 122 = .ok (.aload_n 0, 1) := by decide +kernel
theorem d_M_text_123 : decode b_M_text 123 = .ok (.getfield 104, 3) := by decide +kernel
theorem d_M_text_126 : decode b_M_text 126 = .ok (.iload 6, 2) := by decide +kernel
theorem d_M_text_128 : decode b_M_text 128 = .ok (.iastore, 1) := by decide +kernel
theorem d_M_text_129 : decode b_M_text 129 = .ok (.aload_n 0, 1) := by decide +kernel
theorem d_M_text_130 : decode b_M_text 130 = .ok (.dup, 1) := by decide +kernel
theorem d_M_text_131 : decode b_M_text 131 = .ok (.getfield 104, 3) := by decide +kernel
theorem d_M_text_134 : decode b_M_text 134 = .ok (.iconst 1, 1) := by decide +kernel
theorem d_M_text_135 : decode b_M_text 135 = .ok (.iadd, 1) := by decide +kernel
theorem d_M_text_136 : decode b_M_text 136 = .ok (.putfield 104, 3) := by decide +kernel
theorem d_M_text_139 : decode b_M_text 139 = .ok (.iinc 5 (-8), 3) := by decide +kernel
theorem d_M_text_142 : decode b_M_text 142 = .ok (.goto (-48), 3) := by decide +kernel
theorem d_M_text_145 : decode b_M_text 145 = .ok (.aload_n 0, 1) := by decide +kernel
theorem d_M_text_146 : decode b_M_text 146 = .ok (.getfield 104, 3) := by decide +kernel
theorem d_M_text_149 : decode b_M_text 149 = .ok (.ireturn, 1) := by decide +kernel
theorem d_M_clear_0 : decode b_M_clear 0 = .ok (.aload_n 0, 1) := by decide +kernel
theorem d_M_clear_1 : decode b_M_clear 1 = .ok (.iconst 0, 1) := by decide +kernel
theorem d_M_clear_2 : decode b_M_clear 2 = .ok (.putfield 93, 3) := by decide +kernel
theorem d_M_clear_5 : decode b_M_clear 5 = .ok (.aload_n 0, 1) := by decide +kernel
theorem d_M_clear_6 : decode b_M_clear 6 = .ok (.getfield 104, 3) := by decide +kernel
theorem d_M_clear_9 : decode b_M_clear 9 = .ok (.istore_n 1, 1) := by decide +kernel
theorem d_M_clear_10 : decode b_M_clear 10 = .ok (.aload_n 0, 1) := by decide +kernel
theorem d_M_clear_11 : decode b_M_clear 11 = .ok (.iconst 0, 1) := by decide +kernel
theorem d_M_clear_12 : decode b_M_clear 12 = .ok (.putfield 104, 3) := by decide +kernel
theorem d_M_clear_15 : decode b_M_clear 15 = .ok (.iload_n 1, 1) := by decide +kernel
theorem d_M_clear_16 : decode b_M_clear 16 = .ok (.ireturn, 1) := by decide +kernel
theorem d_M_copy_0 : decode b_M_copy 0 = .ok (.aload_n 0, 1) := by decide +kernel
theorem d_M_copy_1 : decode b_M_copy 1 = .ok (.getfield 17, 3) := by decide +kernel
theorem d_M_copy_4 : decode b_M_copy 4 = .ok (.iload_n 1, 1) := by decide +kernel
theorem d_M_copy_5 : decode b_M_copy 5 = .ok (.iconst 1, 1) := by decide +kernel
theorem d_M_copy_6 : decode b_M_copy 6 = .ok (.bastore, 1) := by decide +kernel
theorem d_M_copy_7 : decode b_M_copy 7 = .ok (.aload_n 0, 1) := by decide +kernel
theorem d_M_copy_8 : decode b_M_copy 8 = .ok (.getfield 21, 3) := by decide +kernel
theorem d_M_copy_11 : decode b_M_copy 11 = .ok (.iload_n 1, 1) := by decide +kernel
theorem d_M_copy_12 : decode b_M_copy 12 = .ok (.aload_n 0, 1) := by decide +kernel
theorem d_M_copy_13 : decode b_M_copy 13 = .ok (.getfield 21, 3) := by decide +kernel
theorem d_M_copy_16 : decode b_M_copy 16 = .ok (.iload_n 2, 1) := by decide +kernel
theorem d_M_copy_17 : decode b_M_copy 17 = .ok (.baload, 1) := by decide +kernel
theorem d_M_copy_18 : decode b_M_copy 18 = .ok (.bastore, 1) := by decide +kernel
theorem d_M_copy_19 : decode b_M_copy 19 = .ok (.aload_n 0, 1) := by decide +kernel
theorem d_M_copy_20 : decode b_M_copy 20 = .ok (.getfield 24, 3) := by decide +kernel
theorem d_M_copy_23 : decode b_M_copy 23 = .ok (.iload_n 1, 1) := by decide +kernel
theorem d_M_copy_24 : decode b_M_copy 24 = .ok (.aload_n 0, 1) := by decide +kernel
theorem d_M_copy_25 : decode b_M_copy 25 = .ok (.getfield 24, 3) := by decide +kernel
theorem d_M_copy_28 : decode b_M_copy 28 = .ok (.iload_n 2, 1) := by decide +kernel
theorem d_M_copy_29 : decode b_M_copy 29 = .ok (.iaload, 1) := by decide +kernel
theorem d_M_copy_30 : decode b_M_copy 30 = .ok (.iastore, 1) := by decide +kernel
theorem d_M_copy_31 : decode b_M_copy 31 = .ok (.aload_n 0, 1) := by decide +kernel
theorem d_M_copy_32 : decode b_M_copy 32 = .ok (.getfield 27, 3) := by decide +kernel
theorem d_M_copy_35 : decode b_M_copy 35 = .ok (.iload_n 1, 1) := by decide +kernel
theorem d_M_copy_36 : decode b_M_copy 36 = .ok (.aload_n 0, 1) := by decide +kernel
theorem d_M_copy_37 : decode b_M_copy 37 = .ok (.getfield 27, 3) := by decide +kernel
theorem d_M_copy_40 : decode b_M_copy 40 = .ok (.iload_n 2, 1) := by decide +kernel
theorem d_M_copy_41 : decode b_M_copy 41 = .ok (.iaload, 1) := by decide +kernel
theorem d_M_copy_42 : decode b_M_copy 42 = .ok (.iastore, 1) := by decide +kernel
theorem d_M_copy_43 : decode b_M_copy 43 = .ok (.aload_n 0, 1) := by decide +kernel
theorem d_M_copy_44 : decode b_M_copy 44 = .ok (.getfield 30, 3) := by decide +kernel
theorem d_M_copy_47 : decode b_M_copy 47 = .ok (.iload_n 1, 1) := by decide +kernel
theorem d_M_copy_48 : decode b_M_copy 48 = .ok (.aload_n 0, 1) := by decide +kernel
theorem d_M_copy_49 : decode b_M_copy 49 = .ok (.getfield 30, 3) := by decide +kernel
theorem d_M_copy_52 : decode b_M_copy 52 = .ok (.iload_n 2, 1) := by decide +kernel
theorem d_M_copy_53 : decode b_M_copy 53 = .ok (.iaload, 1) := by decide +kernel
theorem d_M_copy_54 : decode b_M_copy 54 = .ok (.iastore, 1) := by decide +kernel
theorem d_M_copy_55 : decode b_M_copy 55 = .ok (.aload_n 0, 1) := by decide +kernel
theorem d_M_copy_56 : decode b_M_copy 56 = .ok (.getfield 33, 3) := by decide +kernel
theorem d_M_copy_59 : decode b_M_copy 59 = .ok (.iload_n 1, 1) := by decide +kernel
theorem d_M_copy_60 : decode b_M_copy 60 = .ok (.aload_n 0, 1) := by decide +kernel
theorem d_M_copy_61 : decode b_M_copy 61 = .ok (.getfield 33, 3) := by decide +kernel
theorem d_M_copy_64 : decode b_M_copy 64 = .ok (.iload_n 2, 1) := by decide +kernel
theorem d_M_copy_65 : decode b_M_copy 65 = .ok (.iaload, 1) := by decide +kernel
theorem d_M_copy_66 : decode b_M_copy 66 = .ok (.iastore, 1) := by decide +kernel
theorem d_M_copy_67 : decode b_M_copy 67 = .ok (.iconst 0, 1) := by decide +kernel
theorem d_M_copy_68 : decode b_M_copy 68 = .ok (.istore_n 3, 1) := by decide +kernel
theorem d_M_copy_69 : decode b_M_copy 69 = .ok (.iload_n 3, 1) := by decide +kernel
theorem d_M_copy_70 : decode b_M_copy 70 = .ok (.bipush 30, 2) := by decide +kernel
theorem d_M_copy_72 : decode b_M_copy 72 = .ok (.if_icmp .ge 53, 3) := by decide +kernel
theorem d_M_copy_75 : decode b_M_copy 75 = .ok (.aload_n 0, 1) := by decide +kernel
theorem d_M_copy_76 : decode b_M_copy 76 = .ok (.getfield 36, 3) := by decide +kernel
theorem d_M_copy_79 : decode b_M_copy 79 = .ok (.bipush 30, 2) := by decide +kernel
theorem d_M_copy_81 : decode b_M_copy 81 = .ok (.iload_n 1, 1) := by decide +kernel
theorem d_M_copy_82 : decode b_M_copy 82 = .ok (.imul, 1) := by decide +kernel
theorem d_M_copy_83 : decode b_M_copy 83 = .ok (.iload_n 3, 1) := by decide +kernel
theorem d_M_copy_84 : decode b_M_copy 84 = .ok (.iadd, 1) := by decide +kernel
theorem d_M_copy_85 : decode b_M_copy 85 = .ok (.aload_n 0, 1) := by decide +kernel
theorem d_M_copy_86 : decode b_M_copy 86 = .ok (.getfield 36, 3) := by decide +kernel
theorem d_M_copy_89 : decode b_M_copy 89 = .ok (.bipush 30, 2) := by decide +kernel
theorem d_M_copy_91 : decode b_M_copy 91 = .ok (.iload_n 2, 1) := by decide +kernel
theorem d_M_copy_92 : decode b_M_copy 92 = .ok (.imul, 1) := by decide +kernel
theorem d_M_copy_93 : decode b_M_copy 93 = .ok (.iload_n 3, 1) := by decide +kernel
theorem d_M_copy_94 : decode b_M_copy 94 = .ok (.iadd, 1) := by decide +kernel
theorem d_M_copy_95 : decode b_M_copy 95 = .ok (.iaload, 1) := by decide +kernel
theorem d_M_copy_96 : decode b_M_copy 96 = .ok (.iastore, 1) := by decide +kernel
theorem d_M_copy_97 : decode b_M_copy 97 = .ok (.aload_n 0, 1) := by decide +kernel
theorem d_M_copy_98 : decode b_M_copy 98 = .ok (.getfield 39, 3) := by decide +kernel
theorem d_M_copy_101 : decode b_M_copy 101 = .ok (.bipush 30, 2) := by decide +kernel
theorem d_M_copy_103 : decode b_M_copy 103 = .ok (.iload_n 1, 1) := by decide +kernel
theorem d_M_copy_104 : decode b_M_copy 104 = .ok (.imul, 1) := by decide +kernel
theorem d_M_copy_105 : decode b_M_copy 105 = .ok (.iload_n 3, 1) := by decide +kernel
theorem d_M_copy_106 : decode b_M_copy 106 = .ok (.iadd, 1) := by decide +kernel
theorem d_M_copy_107 : decode b_M_copy 107 = .ok (.aload_n 0, 1) := by decide +kernel
theorem d_M_copy_108 : decode b_M_copy 108 = .ok (.getfield 39, 3) := by decide +kernel
theorem d_M_copy_111 : decode b_M_copy 111 = .ok (.bipush 30, 2) := by decide +kernel
theorem d_M_copy_113 : decode b_M_copy 113 = .ok (.iload_n 2, 1) := by decide +kernel
theorem d_M_copy_114 : decode b_M_copy 114 = .ok (.imul, 1) := by decide +kernel
theorem d_M_copy_115 : decode b_M_copy 115 = .ok (.iload_n 3, 1) := by decide +kernel
theorem d_M_copy_116 : decode b_M_copy 116 = .ok (.iadd, 1) := by decide +kernel
theorem d_M_copy_117 : decode b_M_copy 117 = .ok (.iaload, 1) := by decide +kernel
theorem d_M_copy_118 : decode b_M_copy 118 = .ok (.iastore, 1) := by decide +kernel
theorem d_M_copy_119 : decode b_M_copy 119 = .ok (.iinc 3 1, 3) := by decide +kernel
theorem d_M_copy_122 : decode b_M_copy 122 = .ok (.goto (-53), 3) := by decide +kernel
theorem d_M_copy_125 : decode b_M_copy 125 = .ok (.aload_n 0, 1) := by decide +kernel
theorem d_M_copy_126 : decode b_M_copy 126 = .ok (.getfield 17, 3) := by decide +kernel
theorem d_M_copy_129 : decode b_M_copy 129 = .ok (.iload_n 2, 1) := by decide +kernel
theorem d_M_copy_130 : decode b_M_copy 130 = .ok (.iconst 0, 1) := by decide +kernel
theorem d_M_copy_131 : decode b_M_copy 131 = .ok (.bastore, 1) := by decide +kernel
theorem d_M_copy_132 : decode b_M_copy 132 = .ok (.return_, 1) := by decide +kernel
theorem d_M_more_0 : decode b_M_more 0 = .ok (.iconst 0, 1) := by decide +kernel
theorem d_M_more_1 : decode b_M_more 1 = .ok (.istore 5, 2) := by decide +kernel
theorem d_M_more_3 : decode b_M_more 3 = .ok (.iload 5, 2) := by decide +kernel
theorem d_M_more_5 : decode b_M_more 5 = .ok (.bipush 30, 2) := by decide +kernel
theorem d_M_more_7 : decode b_M_more 7 = .ok (.if_icmp .ge 130, 3) := by decide +kernel
theorem d_M_more_10 : decode b_M_more 10 = .ok (.iload_n 3, 1) := by decide +kernel
theorem d_M_more_11 : decode b_M_more 11 = .ok (.ifCond .eq 12, 3) := by decide +kernel
theorem d_M_more_14 : decode b_M_more 14 = .ok (.aload_n 0, 1) := by decide +kernel
theorem d_M_more_15 : decode b_M_more 15 = .ok (.getfield 30, 3) := by decide +kernel
theorem d_M_more_18 : decode b_M_more 18 = .ok (.iload_n 2, 1) := by decide +kernel
theorem d_M_more_19 : decode b_M_more 19 = .ok (.iaload, 1) := by decide +kernel
theorem d_M_more_20 : decode b_M_more 20 = .ok (.goto 9, 3) := by decide +kernel
theorem d_M_more_23 : decode b_M_more 23 = .ok (.aload_n 0, 1) := by decide +kernel
theorem d_M_more_24 : decode b_M_more 24 = .ok (.getfield 33, 3) := by decide +kernel
theorem d_M_more_27 : decode b_M_more 27 = .ok (.iload_n 2, 1) := by decide +kernel
theorem d_M_more_28 : decode b_M_more 28 = .ok (.iaload, 1) := by decide +kernel
theorem d_M_more_29 : decode b_M_more 29 = .ok (.iload 5, 2) := by decide +kernel
theorem d_M_more_31 : decode b_M_more 31 = .ok (.invokestatic 107, 3) := by decide +kernel
theorem d_M_more_34 : decode b_M_more 34 = .ok (.istore 6, 2) := by decide +kernel
theorem d_M_more_36 : decode b_M_more 36 = .ok (.iload 6, 2) := by decide +kernel
theorem d_M_more_38 : decode b_M_more 38 = .ok (.ifCond .ne 6, 3) := by decide +kernel
theorem d_M_more_41 : decode b_M_more 41 = .ok (.goto 90, 3) := by decide +kernel
theorem d_M_more_44 : decode b_M_more 44 = .ok (.iload_n 3, 1) := by decide +kernel
theorem d_M_more_45 : decode b_M_more 45 = .ok (.ifCond .eq 46, 3) := by decide +kernel
theorem d_M_more_48 : decode b_M_more 48 = .ok (.aload_n 0, 1) := by decide +kernel
theorem d_M_more_49 : decode b_M_more 49 = .ok (.getfield 30, 3) := by decide +kernel
theorem d_M_more_52 : decode b_M_more 52 = .ok (.iload_n 1, 1) := by decide +kernel
theorem d_M_more_53 : decode b_M_more 53 = .ok (.dup2, 1) := by decide +kernel
theorem d_M_more_54 : decode b_M_more 54 = .ok (.iaload, 1) := by decide +kernel
theorem d_M_more_55 : decode b_M_more 55 = .ok (.iconst 1, 1) := by decide +kernel
theorem d_M_more_56 : decode b_M_more 56 = .ok (.iload 5, 2) := by decide +kernel
theorem d_M_more_58 : decode b_M_more 58 = .ok (.ishl, 1) := by decide +kernel
theorem d_M_more_59 : decode b_M_more 59 = .ok (.ior, 1) := by decide +kernel
theorem d_M_more_60 : decode b_M_more 60 = .ok (.iastore, 1) := by decide +kernel
theorem d_M_more_61 : decode b_M_more 61 = .ok (.aload_n 0, 1) := by decide +kernel
theorem d_M_more_62 : decode b_M_more 62 = .ok (.getfield 36, 3) := by decide +kernel
theorem d_M_more_65 : decode b_M_more 65 = .ok (.bipush 30, 2) := by decide +kernel
theorem d_M_more_67 : decode b_M_more 67 = .ok (.iload_n 1, 1) := by decide +kernel
theorem d_M_more_68 : decode b_M_more 68 = .ok (.imul, 1) := by decide +kernel
theorem d_M_more_69 : decode b_M_more 69 = .ok (.iload 5, 2) := by decide +kernel
theorem d_M_more_71 : decode b_M_more 71 = .ok (.iadd, 1) := by decide +kernel
theorem d_M_more_72 : decode b_M_more 72 = .ok (.aload_n 0, 1) := by decide +kernel
theorem d_M_more_73 : decode b_M_more 73 = .ok (.getfield 36, 3) := by decide +kernel
theorem d_M_more_76 : decode b_M_more 76 = .ok (.bipush 30, 2) := by decide +kernel
theorem d_M_more_78 : decode b_M_more 78 = .ok (.iload_n 2, 1) := by decide +kernel
theorem d_M_more_79 : decode b_M_more 79 = .ok (.imul, 1) := by decide +kernel
theorem d_M_more_80 : decode b_M_more 80 = .ok (.iload 5, 2) := by decide +kernel
theorem d_M_more_82 : decode b_M_more 82 = .ok (.iadd, 1) := by decide +kernel
theorem d_M_more_83 : decode b_M_more 83 = .ok (.iaload, 1) := by decide +kernel
theorem d_M_more_84 : decode b_M_more 84 = .ok (.iload 4, 2) := by decide +kernel
theorem d_M_more_86 : decode b_M_more 86 = .ok (.ior, 1) := by decide +kernel
theorem d_M_more_87 : decode b_M_more 87 = .ok (.iastore, 1) := by decide +kernel
theorem d_M_more_88 : decode b_M_more 88 = .ok (.goto 43, 3) := by decide +kernel
theorem d_M_more_91 : decode b_M_more 91 = .ok (.aload_n 0, 1) := by decide +kernel
theorem d_M_more_92 : decode b_M_more 92 = .ok (.getfield 33, 3) := by decide +kernel
theorem d_M_more_95 : decode b_M_more 95 = .ok (.iload_n 1, 1) := by decide +kernel
theorem d_M_more_96 : decode b_M_more 96 = .ok (.dup2, 1) := by decide +kernel
theorem d_M_more_97 : decode b_M_more 97 = .ok (.iaload, 1) := by decide +kernel
theorem d_M_more_98 : decode b_M_more 98 = .ok (.iconst 1, 1) := by decide +kernel
theorem d_M_more_99 : decode b_M_more 99 = .ok (.iload 5, 2) := by decide +kernel
theorem d_M_more_101 : decode b_M_more 101 = .ok (.ishl, 1) := by decide +kernel
theorem d_M_more_102 : decode b_M_more 102 = .ok (.ior, 1) := by decide +kernel
theorem d_M_more_103 : decode b_M_more 103 = .ok (.iastore, 1) := by decide +kernel
theorem d_M_more_104 : decode b_M_more 104 = .ok (.aload_n 0, 1) := by decide +kernel
theorem d_M_more_105 : decode b_M_more 105 = .ok (.getfield 39, 3) := by decide +kernel
theorem d_M_more_108 : decode b_M_more 108 = .ok (.bipush 30, 2) := by decide +kernel
theorem d_M_more_110 : decode b_M_more 110 = .ok (.iload_n 1, 1) := by decide +kernel
theorem d_M_more_111 : decode b_M_more 111 = .ok (.imul, 1) := by decide +kernel
theorem d_M_more_112 : decode b_M_more 112 = .ok (.iload 5, 2) := by decide +kernel
theorem d_M_more_114 : decode b_M_more 114 = .ok (.iadd, 1) := by decide +kernel
theorem d_M_more_115 : decode b_M_more 115 = .ok (.aload_n 0, 1) := by decide +kernel
theorem d_M_more_116 : decode b_M_more 116 = .ok (.getfield 39, 3) := by decide +kernel
theorem d_M_more_119 : decode b_M_more 119 = .ok (.bipush 30, 2) := by decide +kernel
theorem d_M_more_121 : decode b_M_more 121 = .ok (.iload_n 2, 1) := by decide +kernel
theorem d_M_more_122 : decode b_M_more 122 = .ok (.imul, 1) := by decide +kernel
theorem d_M_more_123 : decode b_M_more 123 = .ok (.iload 5, 2) := by decide +kernel
theorem d_M_more_125 : decode b_M_more 125 = .ok (.iadd, 1) := by decide +kernel
theorem d_M_more_126 : decode b_M_more 126 = .ok (.iaload, 1) := by decide +kernel
theorem d_M_more_127 : decode b_M_more 127 = .ok (.iload 4, 2) := by decide +kernel
theorem d_M_more_129 : decode b_M_more 129 = .ok (.ior, 1) := by decide +kernel
theorem d_M_more_130 : decode b_M_more 130 = .ok (.iastore, 1) := by decide +kernel
theorem d_M_more_131 : decode b_M_more 131 = .ok (.iinc 5 1, 3) := by decide +kernel
theorem d_M_more_134 : decode b_M_more 134 = .ok (.goto (-131), 3) := by decide +kernel
theorem d_M_more_137 : decode b_M_more 137 = .ok (.return_, 1) := by decide +kernel
theorem d_M_link_0 : decode b_M_link 0 = .ok (.iconst 0, 1) := by decide +kernel
theorem d_M_link_1 : decode b_M_link 1 = .ok (.istore_n 3, 1) := by decide +kernel
theorem d_M_link_2 : decode b_M_link 2 = .ok (.iload_n 3, 1) := by decide +kernel
theorem d_M_link_3 : decode b_M_link 3 = .ok (.bipush 30, 2) := by decide +kernel
theorem d_M_link_5 : decode b_M_link 5 = .ok (.if_icmp .ge 107, 3) := by decide +kernel
theorem d_M_link_8 : decode b_M_link 8 = .ok (.iconst 0, 1) := by decide +kernel
theorem d_M_link_9 : decode b_M_link 9 = .ok (.istore 4, 2) := by decide +kernel
theorem d_M_link_11 : decode b_M_link 11 = .ok (.iload 4, 2) := by decide +kernel
theorem d_M_link_13 : decode b_M_link 13 = .ok (.bipush 30, 2) := by decide +kernel
theorem d_M_link_15 : decode b_M_link 15 = .ok (.if_icmp .ge 91, 3) := by decide +kernel
theorem d_M_link_18 : decode b_M_link 18 = .ok (.aload_n 0, 1) := by decide +kernel
theorem d_M_link_19 : decode b_M_link 19 = .ok (.getfield 33, 3) := by decide +kernel
theorem d_M_link_22 : decode b_M_link 22 = .ok (.iload_n 1, 1) := by decide +kernel
theorem d_M_link_23 : decode b_M_link 23 = .ok (.iaload, 1) := by decide +kernel
theorem d_M_link_24 : decode b_M_link 24 = .ok (.iload_n 3, 1) := by decide +kernel
theorem d_M_link_25 : decode b_M_link 25 = .ok (.invokestatic 107, 3) := by decide +kernel
theorem d_M_link_28 : decode b_M_link 28 = .ok (.ifCond .eq 78, 3) := by decide +kernel
theorem d_M_link_31 : decode b_M_link 31 = .ok (.aload_n 0, 1) := by decide +kernel
theorem d_M_link_32 : decode b_M_link 32 = .ok (.getfield 30, 3) := by decide +kernel
theorem d_M_link_35 : decode b_M_link 35 = .ok (.iload_n 2, 1) := by decide +kernel
theorem d_M_link_36 : decode b_M_link 36 = .ok (.iaload, 1) := by decide +kernel
theorem d_M_link_37 : decode b_M_link 37 = .ok (.iload 4, 2) := by decide +kernel
theorem d_M_link_39 : decode b_M_link 39 = .ok (.invokestatic 107, 3) := by decide +kernel
theorem d_M_link_42 : decode b_M_link 42 = .ok (.ifCond .ne 6, 3) := by decide +kernel
theorem d_M_link_45 : decode b_M_link 45 = .ok (.goto 55, 3) := by decide +kernel
theorem d_M_link_48 : decode b_M_link 48 = .ok (.aload_n 0, 1) := by decide +kernel
theorem d_M_link_49 : decode b_M_link 49 = .ok (.getfield 48, 3) := by decide +kernel
theorem d_M_link_52 : decode b_M_link 52 = .ok (.bipush 30, 2) := by decide +kernel
theorem d_M_link_54 : decode b_M_link 54 = .ok (.iload_n 3, 1) := by decide +kernel
theorem d_M_link_55 : decode b_M_link 55 = .ok (.imul, 1) := by decide +kernel
theorem d_M_link_56 : decode b_M_link 56 = .ok (.iload 4, 2) := by decide +kernel
theorem d_M_link_58 : decode b_M_link 58 = .ok (.iadd, 1) := by decide +kernel
theorem d_M_link_59 : decode b_M_link 59 = .ok (.iconst 1, 1) := by decide +kernel
theorem d_M_link_60 : decode b_M_link 60 = .ok (.bastore, 1) := by decide +kernel
theorem d_M_link_61 : decode b_M_link 61 = .ok (.aload_n 0, 1) := by decide +kernel
theorem d_M_link_62 : decode b_M_link 62 = .ok (.getfield 45, 3) := by decide +kernel
theorem d_M_link_65 : decode b_M_link 65 = .ok (.bipush 30, 2) := by decide +kernel
theorem d_M_link_67 : decode b_M_link 67 = .ok (.iload_n 3, 1) := by decide +kernel
theorem d_M_link_68 : decode b_M_link 68 = .ok (.imul, 1) := by decide +kernel
theorem d_M_link_69 : decode b_M_link 69 = .ok (.iload 4, 2) := by decide +kernel
theorem d_M_link_71 : decode b_M_link 71 = .ok (.iadd, 1) := by decide +kernel
theorem d_M_link_72 : decode b_M_link 72 = .ok (.dup2, 1) := by decide +kernel
theorem d_M_link_73 : decode b_M_link 73 = .ok (.iaload, 1) := by decide +kernel
theorem d_M_link_74 : decode b_M_link 74 = .ok (.aload_n 0, 1) := by decide +kernel
theorem d_M_link_75 : decode b_M_link 75 = .ok (.getfield 39, 3) := by decide +kernel
theorem d_M_link_78 : decode b_M_link 78 = .ok (.bipush 30, 2) := by decide +kernel
theorem d_M_link_80 : decode b_M_link 80 = .ok (.iload_n 1, 1) := by decide +kernel
theorem d_M_link_81 : decode b_M_link 81 = .ok (.imul, 1) := by decide +kernel
theorem d_M_link_82 : decode b_M_link 82 = .ok (.iload_n 3, 1) := by decide +kernel
theorem d_M_link_83 : decode b_M_link 83 = .ok (.iadd, 1) := by decide +kernel
theorem d_M_link_84 : decode b_M_link 84 = .ok (.iaload, 1) := by decide +kernel
theorem d_M_link_85 : decode b_M_link 85 = .ok (.aload_n 0, 1) := by decide +kernel
theorem d_M_link_86 : decode b_M_link 86 = .ok (.getfield 36, 3) := by decide +kernel
theorem d_M_link_89 : decode b_M_link 89 = .ok (.bipush 30, 2) := by decide +kernel
theorem d_M_link_91 : decode b_M_link 91 = .ok (.iload_n 2, 1) := by decide +kernel
theorem d_M_link_92 : decode b_M_link 92 = .ok (.imul, 1) := by decide +kernel
theorem d_M_link_93 : decode b_M_link 93 = .ok (.iload 4, 2) := by decide +kernel
theorem d_M_link_95 : decode b_M_link 95 = .ok (.iadd, 1) := by decide +kernel
theorem d_M_link_96 : decode b_M_link 96 = .ok (.iaload, 1) := by decide +kernel
theorem d_M_link_97 : decode b_M_link 97 = .ok (.ior, 1) := by decide +kernel
theorem d_M_link_98 : decode b_M_link 98 = .ok (.ior, 1) := by decide +kernel
theorem d_M_link_99 : decode b_M_link 99 = .ok (.iastore, 1) := by decide +kernel
theorem d_M_link_100 : decode b_M_link 100 = .ok (.iinc 4 1, 3) := by decide +kernel
theorem d_M_link_103 : decode b_M_link 103 = .ok (.goto (-92), 3) := by decide +kernel
theorem d_M_link_106 : decode b_M_link 106 = .ok (.iinc 3 1, 3) := by decide +kernel
theorem d_M_link_109 : decode b_M_link 109 = .ok (.goto (-107), 3) := by decide +kernel
theorem d_M_link_112 : decode b_M_link 112 = .ok (.return_, 1) := by decide +kernel
theorem d_M_here_0 : decode b_M_here 0 = .ok (.aload_n 0, 1) := by decide +kernel
theorem d_M_here_1 : decode b_M_here 1 = .ok (.getfield 125, 3) := by decide +kernel
theorem d_M_here_4 : decode b_M_here 4 = .ok (.aload_n 0, 1) := by decide +kernel
theorem d_M_here_5 : decode b_M_here 5 = .ok (.getfield 104, 3) := by decide +kernel
theorem d_M_here_8 : decode b_M_here 8 = .ok (.if_icmp .ge 15, 3) := by decide +kernel
theorem d_M_here_11 : decode b_M_here 11 = .ok (.aload_n 0, 1) := by decide +kernel
theorem d_M_here_12 : decode b_M_here 12 = .ok (.getfield 7, 3) := by decide +kernel
theorem d_M_here_15 : decode b_M_here 15 = .ok (.aload_n 0, 1) := by decide +kernel
theorem d_M_here_16 : decode b_M_here 16 = .ok (.getfield 125, 3) := by decide +kernel
theorem d_M_here_19 : decode b_M_here 19 = .ok (.iaload, 1) := by decide +kernel
theorem d_M_here_20 : decode b_M_here 20 = .ok (.goto 4, 3) := by decide +kernel
theorem d_M_here_23 : decode b_M_here 23 = .ok (.iconst (-1), 1) := by decide +kernel
theorem d_M_here_24 : decode b_M_here 24 = .ok (.ireturn, 1) := by decide +kernel
theorem d_M_wrong_0 : decode b_M_wrong 0 = .ok (.aload_n 0, 1) := by decide +kernel
theorem d_M_wrong_1 : decode b_M_wrong 1 = .ok (.getfield 128, 3) := by decide +kernel
theorem d_M_wrong_4 : decode b_M_wrong 4 = .ok (.ifCond .ne 11, 3) := by decide +kernel
theorem d_M_wrong_7 : decode b_M_wrong 7 = .ok (.aload_n 0, 1) := by decide +kernel
theorem d_M_wrong_8 : decode b_M_wrong 8 = .ok (.aload_n 0, 1) := by decide +kernel
theorem d_M_wrong_9 : decode b_M_wrong 9 = .ok (.getfield 125, 3) := by decide +kernel
theorem d_M_wrong_12 : decode b_M_wrong 12 = .ok (.putfield 13, 3) := by decide +kernel
theorem d_M_wrong_15 : decode b_M_wrong 15 = .ok (.aload_n 0, 1) := by decide +kernel
theorem d_M_wrong_16 : decode b_M_wrong 16 = .ok (.iconst 1, 1) := by decide +kernel
theorem d_M_wrong_17 : decode b_M_wrong 17 = .ok (.putfield 128, 3) := by decide +kernel
theorem d_M_wrong_20 : decode b_M_wrong 20 = .ok (.return_, 1) := by decide +kernel
