abbrev b_M_reach : ByteArray := prog_8_method_23_code
def y_M_reach : MethodName := ⟨RX6, "reach", "(II)I"⟩
def ws_M_reach : List Cond := .code y_M_reach b_M_reach 6 (Option.some FieldType.int) :: tb9
theorem hs_M_reach : y_M_reach.cls ≠ "java/lang/invoke/MethodHandle" ∧ y_M_reach.cls ≠ "java/lang/invoke/VarHandle" ∧ (parseMethodDescriptor y_M_reach.desc).map (fun d => d.parameters.length) = some 2 := by decide +kernel
theorem hv_M_reach : y_M_reach.cls = RX6 ∧ y_M_reach.cls ≠ "java/lang/invoke/MethodHandle" ∧ y_M_reach.cls ≠ "java/lang/invoke/VarHandle" ∧ (parseMethodDescriptor y_M_reach.desc).map (fun d => d.parameters.length) = some 2 := ⟨rfl, hs_M_reach⟩
abbrev b_M_build : ByteArray := prog_8_method_24_code
def y_M_build : MethodName := ⟨RX6, "build", "()I"⟩
def ws_M_build : List Cond := .code y_M_build b_M_build 6 (Option.some FieldType.int) :: tb9
theorem hs_M_build : y_M_build.cls ≠ "java/lang/invoke/MethodHandle" ∧ y_M_build.cls ≠ "java/lang/invoke/VarHandle" ∧ (parseMethodDescriptor y_M_build.desc).map (fun d => d.parameters.length) = some 0 := by decide +kernel
theorem hv_M_build : y_M_build.cls = RX6 ∧ y_M_build.cls ≠ "java/lang/invoke/MethodHandle" ∧ y_M_build.cls ≠ "java/lang/invoke/VarHandle" ∧ (parseMethodDescriptor y_M_build.desc).map (fun d => d.parameters.length) = some 0 := ⟨rfl, hs_M_build⟩
abbrev b_M_finish : ByteArray := prog_8_method_25_code
def y_M_finish : MethodName := ⟨RX6, "finish", "(I)V"⟩
def ws_M_finish : List Cond := .code y_M_finish b_M_finish 4 (Option.none : Option FieldType) :: tb9
theorem hs_M_finish : y_M_finish.cls ≠ "java/lang/invoke/MethodHandle" ∧ y_M_finish.cls ≠ "java/lang/invoke/VarHandle" ∧ (parseMethodDescriptor y_M_finish.desc).map (fun d => d.parameters.length) = some 1 := by decide +kernel
theorem hv_M_finish : y_M_finish.cls = RX6 ∧ y_M_finish.cls ≠ "java/lang/invoke/MethodHandle" ∧ y_M_finish.cls ≠ "java/lang/invoke/VarHandle" ∧ (parseMethodDescriptor y_M_finish.desc).map (fun d => d.parameters.length) = some 1 := ⟨rfl, hs_M_finish⟩
abbrev b_M_isApart : ByteArray := prog_8_method_26_code
def y_M_isApart : MethodName := ⟨RX6, "isApart", "(II)Z"⟩
def ws_M_isApart : List Cond := .code y_M_isApart b_M_isApart 6 (Option.some FieldType.boolean) :: tb9
theorem hs_M_isApart : y_M_isApart.cls ≠ "java/lang/invoke/MethodHandle" ∧ y_M_isApart.cls ≠ "java/lang/invoke/VarHandle" ∧ (parseMethodDescriptor y_M_isApart.desc).map (fun d => d.parameters.length) = some 2 := by decide +kernel
theorem hv_M_isApart : y_M_isApart.cls = RX6 ∧ y_M_isApart.cls ≠ "java/lang/invoke/MethodHandle" ∧ y_M_isApart.cls ≠ "java/lang/invoke/VarHandle" ∧ (parseMethodDescriptor y_M_isApart.desc).map (fun d => d.parameters.length) = some 2 := ⟨rfl, hs_M_isApart⟩
abbrev b_M_divide : ByteArray := prog_8_method_27_code
def y_M_divide : MethodName := ⟨RX6, "divide", "(I)V"⟩
def ws_M_divide : List Cond := .code y_M_divide b_M_divide 6 (Option.none : Option FieldType) :: tb9
theorem hs_M_divide : y_M_divide.cls ≠ "java/lang/invoke/MethodHandle" ∧ y_M_divide.cls ≠ "java/lang/invoke/VarHandle" ∧ (parseMethodDescriptor y_M_divide.desc).map (fun d => d.parameters.length) = some 1 := by decide +kernel
theorem hv_M_divide : y_M_divide.cls = RX6 ∧ y_M_divide.cls ≠ "java/lang/invoke/MethodHandle" ∧ y_M_divide.cls ≠ "java/lang/invoke/VarHandle" ∧ (parseMethodDescriptor y_M_divide.desc).map (fun d => d.parameters.length) = some 1 := ⟨rfl, hs_M_divide⟩
abbrev b_M_begin : ByteArray := prog_8_method_29_code
def y_M_begin : MethodName := ⟨RX6, "begin", "(I)V"⟩
def ws_M_begin : List Cond := .code y_M_begin b_M_begin 3 (Option.none : Option FieldType) :: tb9
theorem hs_M_begin : y_M_begin.cls ≠ "java/lang/invoke/MethodHandle" ∧ y_M_begin.cls ≠ "java/lang/invoke/VarHandle" ∧ (parseMethodDescriptor y_M_begin.desc).map (fun d => d.parameters.length) = some 1 := by decide +kernel
theorem hv_M_begin : y_M_begin.cls = RX6 ∧ y_M_begin.cls ≠ "java/lang/invoke/MethodHandle" ∧ y_M_begin.cls ≠ "java/lang/invoke/VarHandle" ∧ (parseMethodDescriptor y_M_begin.desc).map (fun d => d.parameters.length) = some 1 := ⟨rfl, hs_M_begin⟩
abbrev b_M_compile : ByteArray := prog_8_method_28_code
def y_M_compile : MethodName := ⟨RX6, "compile", "()I"⟩
def ws_M_compile : List Cond := .code y_M_compile b_M_compile 4 (Option.some FieldType.int) :: tb9
theorem hs_M_compile : y_M_compile.cls ≠ "java/lang/invoke/MethodHandle" ∧ y_M_compile.cls ≠ "java/lang/invoke/VarHandle" ∧ (parseMethodDescriptor y_M_compile.desc).map (fun d => d.parameters.length) = some 0 := by decide +kernel
theorem hv_M_compile : y_M_compile.cls = RX6 ∧ y_M_compile.cls ≠ "java/lang/invoke/MethodHandle" ∧ y_M_compile.cls ≠ "java/lang/invoke/VarHandle" ∧ (parseMethodDescriptor y_M_compile.desc).map (fun d => d.parameters.length) = some 0 := ⟨rfl, hs_M_compile⟩
theorem k_28 : (.selects RX6 y_M_parse y_M_parse : Cond) ∈ tb9 := List.mem_filter.mpr ⟨List.mem_of_getElem? (i := 28) (by decide +kernel), by decide +kernel⟩
theorem k_41 : (.selects RX6 y_M_build y_M_build : Cond) ∈ tb9 := List.mem_filter.mpr ⟨List.mem_of_getElem? (i := 41) (by decide +kernel), by decide +kernel⟩
theorem k_42 : (.selects RX6 y_M_reach y_M_reach : Cond) ∈ tb9 := List.mem_filter.mpr ⟨List.mem_of_getElem? (i := 42) (by decide +kernel), by decide +kernel⟩
theorem k_43 : (.selects RX6 y_M_finish y_M_finish : Cond) ∈ tb9 := List.mem_filter.mpr ⟨List.mem_of_getElem? (i := 43) (by decide +kernel), by decide +kernel⟩
theorem k_44 : (.selects RX6 y_M_divide y_M_divide : Cond) ∈ tb9 := List.mem_filter.mpr ⟨List.mem_of_getElem? (i := 44) (by decide +kernel), by decide +kernel⟩
theorem k_45 : (.selects RX6 y_M_isApart y_M_isApart : Cond) ∈ tb9 := List.mem_filter.mpr ⟨List.mem_of_getElem? (i := 45) (by decide +kernel), by decide +kernel⟩
theorem k_46 : (.selects RX6 y_M_begin y_M_begin : Cond) ∈ tb9 := List.mem_filter.mpr ⟨List.mem_of_getElem? (i := 46) (by decide +kernel), by decide +kernel⟩
theorem k_956 : (.fieldLink RX6 51 "EmbedForgeModel" "set" "[I" : Cond) ∈ tb9 := List.mem_filter.mpr ⟨List.mem_of_getElem? (i := 956) (by decide +kernel), by decide +kernel⟩
theorem k_957 : (.fieldLink RX6 54 "EmbedForgeModel" "go" "[I" : Cond) ∈ tb9 := List.mem_filter.mpr ⟨List.mem_of_getElem? (i := 957) (by decide +kernel), by decide +kernel⟩
theorem k_958 : (.fieldLink RX6 57 "EmbedForgeModel" "does" "[I" : Cond) ∈ tb9 := List.mem_filter.mpr ⟨List.mem_of_getElem? (i := 958) (by decide +kernel), by decide +kernel⟩
theorem k_959 : (.fieldLink RX6 60 "EmbedForgeModel" "ends" "[I" : Cond) ∈ tb9 := List.mem_filter.mpr ⟨List.mem_of_getElem? (i := 959) (by decide +kernel), by decide +kernel⟩
theorem k_960 : (.fieldLink RX6 63 "EmbedForgeModel" "group" "[I" : Cond) ∈ tb9 := List.mem_filter.mpr ⟨List.mem_of_getElem? (i := 960) (by decide +kernel), by decide +kernel⟩
theorem k_961 : (.fieldLink RX6 66 "EmbedForgeModel" "other" "[I" : Cond) ∈ tb9 := List.mem_filter.mpr ⟨List.mem_of_getElem? (i := 961) (by decide +kernel), by decide +kernel⟩
theorem k_962 : (.fieldLink RX6 69 "EmbedForgeModel" "last0" "[Z" : Cond) ∈ tb9 := List.mem_filter.mpr ⟨List.mem_of_getElem? (i := 962) (by decide +kernel), by decide +kernel⟩
theorem k_963 : (.fieldLink RX6 72 "EmbedForgeModel" "size" "[I" : Cond) ∈ tb9 := List.mem_filter.mpr ⟨List.mem_of_getElem? (i := 963) (by decide +kernel), by decide +kernel⟩
theorem k_964 : (.fieldLink RX6 75 "EmbedForgeModel" "way" "[I" : Cond) ∈ tb9 := List.mem_filter.mpr ⟨List.mem_of_getElem? (i := 964) (by decide +kernel), by decide +kernel⟩
theorem k_965 : (.fieldLink RX6 78 "EmbedForgeModel" "action" "[I" : Cond) ∈ tb9 := List.mem_filter.mpr ⟨List.mem_of_getElem? (i := 965) (by decide +kernel), by decide +kernel⟩
theorem k_966 : (.fieldLink RX6 81 "EmbedForgeModel" "endDo" "[I" : Cond) ∈ tb9 := List.mem_filter.mpr ⟨List.mem_of_getElem? (i := 966) (by decide +kernel), by decide +kernel⟩
theorem k_967 : (.fieldLink RX6 84 "EmbedForgeModel" "alike" "[I" : Cond) ∈ tb9 := List.mem_filter.mpr ⟨List.mem_of_getElem? (i := 967) (by decide +kernel), by decide +kernel⟩
theorem k_968 : (.fieldLink RX6 87 "EmbedForgeModel" "done" "[I" : Cond) ∈ tb9 := List.mem_filter.mpr ⟨List.mem_of_getElem? (i := 968) (by decide +kernel), by decide +kernel⟩
theorem k_969 : (.fieldLink RX6 90 "EmbedForgeModel" "isFinal" "[Z" : Cond) ∈ tb9 := List.mem_filter.mpr ⟨List.mem_of_getElem? (i := 969) (by decide +kernel), by decide +kernel⟩
theorem k_970 : (.fieldLink RX6 191 "EmbedForgeModel" "states" "I" : Cond) ∈ tb9 := List.mem_filter.mpr ⟨List.mem_of_getElem? (i := 970) (by decide +kernel), by decide +kernel⟩
theorem k_971 : (.fieldLink RX6 194 "EmbedForgeModel" "positions" "I" : Cond) ∈ tb9 := List.mem_filter.mpr ⟨List.mem_of_getElem? (i := 971) (by decide +kernel), by decide +kernel⟩
theorem k_972 : (.fieldLink RX6 200 "EmbedForgeModel" "now" "I" : Cond) ∈ tb9 := List.mem_filter.mpr ⟨List.mem_of_getElem? (i := 972) (by decide +kernel), by decide +kernel⟩
theorem k_973 : (.fieldLink RX6 206 "EmbedForgeModel" "fed" "I" : Cond) ∈ tb9 := List.mem_filter.mpr ⟨List.mem_of_getElem? (i := 973) (by decide +kernel), by decide +kernel⟩
theorem k_974 : (.fieldLink RX6 169 "EmbedForgeModel" "found" "I" : Cond) ∈ tb9 := List.mem_filter.mpr ⟨List.mem_of_getElem? (i := 974) (by decide +kernel), by decide +kernel⟩
theorem k_975 : (.fieldLink RX6 203 "EmbedForgeModel" "over" "Z" : Cond) ∈ tb9 := List.mem_filter.mpr ⟨List.mem_of_getElem? (i := 975) (by decide +kernel), by decide +kernel⟩
theorem k_1076 : (.methodLink RX6 179 y_M_parse : Cond) ∈ tb9 := List.mem_filter.mpr ⟨List.mem_of_getElem? (i := 1076) (by decide +kernel), by decide +kernel⟩
theorem k_1078 : (.instanceMethod y_M_parse : Cond) ∈ tb9 := List.mem_filter.mpr ⟨List.mem_of_getElem? (i := 1078) (by decide +kernel), by decide +kernel⟩
theorem k_1079 : (.code y_M_parse b_M_parse 6 (Option.none : Option FieldType) : Cond) ∈ tb9 := List.mem_filter.mpr ⟨List.mem_of_getElem? (i := 1079) (by decide +kernel), by decide +kernel⟩
theorem k_1137 : (.methodLink RX6 182 y_M_build : Cond) ∈ tb9 := List.mem_filter.mpr ⟨List.mem_of_getElem? (i := 1137) (by decide +kernel), by decide +kernel⟩
theorem k_1139 : (.instanceMethod y_M_build : Cond) ∈ tb9 := List.mem_filter.mpr ⟨List.mem_of_getElem? (i := 1139) (by decide +kernel), by decide +kernel⟩
theorem k_1140 : (.code y_M_build b_M_build 6 (Option.some FieldType.int) : Cond) ∈ tb9 := List.mem_filter.mpr ⟨List.mem_of_getElem? (i := 1140) (by decide +kernel), by decide +kernel⟩
theorem k_1141 : (.methodLink RX6 172 y_M_reach : Cond) ∈ tb9 := List.mem_filter.mpr ⟨List.mem_of_getElem? (i := 1141) (by decide +kernel), by decide +kernel⟩
theorem k_1143 : (.instanceMethod y_M_reach : Cond) ∈ tb9 := List.mem_filter.mpr ⟨List.mem_of_getElem? (i := 1143) (by decide +kernel), by decide +kernel⟩
theorem k_1144 : (.code y_M_reach b_M_reach 6 (Option.some FieldType.int) : Cond) ∈ tb9 := List.mem_filter.mpr ⟨List.mem_of_getElem? (i := 1144) (by decide +kernel), by decide +kernel⟩
theorem k_1145 : (.methodLink RX6 185 y_M_finish : Cond) ∈ tb9 := List.mem_filter.mpr ⟨List.mem_of_getElem? (i := 1145) (by decide +kernel), by decide +kernel⟩
theorem k_1147 : (.instanceMethod y_M_finish : Cond) ∈ tb9 := List.mem_filter.mpr ⟨List.mem_of_getElem? (i := 1147) (by decide +kernel), by decide +kernel⟩
theorem k_1148 : (.code y_M_finish b_M_finish 4 (Option.none : Option FieldType) : Cond) ∈ tb9 := List.mem_filter.mpr ⟨List.mem_of_getElem? (i := 1148) (by decide +kernel), by decide +kernel⟩
theorem k_1149 : (.methodLink RX6 188 y_M_divide : Cond) ∈ tb9 := List.mem_filter.mpr ⟨List.mem_of_getElem? (i := 1149) (by decide +kernel), by decide +kernel⟩
theorem k_1151 : (.instanceMethod y_M_divide : Cond) ∈ tb9 := List.mem_filter.mpr ⟨List.mem_of_getElem? (i := 1151) (by decide +kernel), by decide +kernel⟩
theorem k_1152 : (.code y_M_divide b_M_divide 6 (Option.none : Option FieldType) : Cond) ∈ tb9 := List.mem_filter.mpr ⟨List.mem_of_getElem? (i := 1152) (by decide +kernel), by decide +kernel⟩
theorem k_1153 : (.methodLink RX6 176 y_M_isApart : Cond) ∈ tb9 := List.mem_filter.mpr ⟨List.mem_of_getElem? (i := 1153) (by decide +kernel), by decide +kernel⟩
theorem k_1155 : (.instanceMethod y_M_isApart : Cond) ∈ tb9 := List.mem_filter.mpr ⟨List.mem_of_getElem? (i := 1155) (by decide +kernel), by decide +kernel⟩
theorem k_1156 : (.code y_M_isApart b_M_isApart 6 (Option.some FieldType.boolean) : Cond) ∈ tb9 := List.mem_filter.mpr ⟨List.mem_of_getElem? (i := 1156) (by decide +kernel), by decide +kernel⟩
theorem k_1157 : (.methodLink RX6 197 y_M_begin : Cond) ∈ tb9 := List.mem_filter.mpr ⟨List.mem_of_getElem? (i := 1157) (by decide +kernel), by decide +kernel⟩
theorem k_1159 : (.instanceMethod y_M_begin : Cond) ∈ tb9 := List.mem_filter.mpr ⟨List.mem_of_getElem? (i := 1159) (by decide +kernel), by decide +kernel⟩
theorem k_1160 : (.code y_M_begin b_M_begin 3 (Option.none : Option FieldType) : Cond) ∈ tb9 := List.mem_filter.mpr ⟨List.mem_of_getElem? (i := 1160) (by decide +kernel), by decide +kernel⟩
theorem d_M_reach_0 : decode b_M_reach 0 = .ok (.iconst 0, 1) := by decide +kernel
theorem d_M_reach_1 : decode b_M_reach 1 = .ok (.istore_n 3, 1) := by decide +kernel
theorem d_M_reach_2 : decode b_M_reach 2 = .ok (.aload_n 0, 1) := by decide +kernel
theorem d_M_reach_3 : decode b_M_reach 3 = .ok (.iconst 0, 1) := by decide +kernel
theorem d_M_reach_4 : decode b_M_reach 4 = .ok (.putfield 169, 3) := by decide +kernel
theorem d_M_reach_7 : decode b_M_reach 7 = .ok (.iconst 0, 1) := by decide +kernel
theorem d_M_reach_8 : decode b_M_reach 8 = .ok (.istore 4, 2) := by decide +kernel
theorem d_M_reach_10 : decode b_M_reach 10 = .ok (.iload 4, 2) := by decide +kernel
theorem d_M_reach_12 : decode b_M_reach 12 = .ok (.aload_n 0, 1) := by decide +kernel
theorem d_M_reach_13 : decode b_M_reach 13 = .ok (.getfield 122, 3) := by decide +kernel
theorem d_M_reach_16 : decode b_M_reach 16 = .ok (.if_icmp .ge 151, 3) := by decide +kernel
theorem d_M_reach_19 : decode b_M_reach 19 = .ok (.aload_n 0, 1) := by decide +kernel
theorem d_M_reach_20 : decode b_M_reach 20 = .ok (.getfield 42, 3) := by decide +kernel
theorem d_M_reach_23 : decode b_M_reach 23 = .ok (.iload 4, 2) := by decide +kernel
theorem d_M_reach_25 : decode b_M_reach 25 = .ok (.iaload, 1) := by decide +kernel
theorem d_M_reach_26 : decode b_M_reach 26 = .ok (.iload_n 2, 1) := by decide +kernel
theorem d_M_reach_27 : decode b_M_reach 27 = .ok (.invokestatic 107, 3) := by decide +kernel
theorem d_M_reach_30 : decode b_M_reach 30 = .ok (.ifCond .ne 6, 3) := by decide +kernel
theorem d_M_reach_33 : decode b_M_reach 33 = .ok (.goto 128, 3) := by decide +kernel
theorem d_M_reach_36 : decode b_M_reach 36 = .ok (.iload_n 1, 1) := by decide +kernel
theorem d_M_reach_37 : decode b_M_reach 37 = .ok (.ifCond .ne 40, 3) := by decide +kernel
theorem d_M_reach_40 : decode b_M_reach 40 = .ok (.aload_n 0, 1) := by decide +kernel
theorem d_M_reach_41 : decode b_M_reach 41 = .ok (.getfield 30, 3) := by decide +kernel
theorem d_M_reach_44 : decode b_M_reach 44 = .ok (.iconst 0, 1) := by decide +kernel
theorem d_M_reach_45 : decode b_M_reach 45 = .ok (.iaload, 1) := by decide +kernel
theorem d_M_reach_46 : decode b_M_reach 46 = .ok (.iload 4, 2) := by decide +kernel
theorem d_M_reach_48 : decode b_M_reach 48 = .ok (.invokestatic 107, 3) := by decide +kernel
theorem d_M_reach_51 : decode b_M_reach 51 = .ok (.ifCond .eq 26, 3) := by decide +kernel
theorem d_M_reach_54 : decode b_M_reach 54 = .ok (.iload_n 3, 1) := by decide +kernel
theorem d_M_reach_55 : decode b_M_reach 55 = .ok (.iconst 1, 1) := by decide +kernel
theorem d_M_reach_56 : decode b_M_reach 56 = .ok (.iload 4, 2) := by decide +kernel
theorem d_M_reach_58 : decode b_M_reach 58 = .ok (.ishl, 1) := by decide +kernel
theorem d_M_reach_59 : decode b_M_reach 59 = .ok (.ior, 1) := by decide +kernel
theorem d_M_reach_60 : decode b_M_reach 60 = .ok (.istore_n 3, 1) := by decide +kernel
theorem d_M_reach_61 : decode b_M_reach 61 = .ok (.aload_n 0, 1) := by decide +kernel
theorem d_M_reach_62 : decode b_M_reach 62 = .ok (.dup, 1) := by decide +kernel
theorem d_M_reach_63 : decode b_M_reach 63 = .ok (.getfield 169, 3) := by decide +kernel
theorem d_M_reach_66 : decode b_M_reach 66 = .ok (.aload_n 0, 1) := by decide +kernel
theorem d_M_reach_67 : decode b_M_reach 67 = .ok (.getfield 36, 3) := by decide +kernel
theorem d_M_reach_70 : decode b_M_reach 70 = .ok (.iload 4, 2) := by decide +kernel
theorem d_M_reach_72 : decode b_M_reach 72 = .ok (.iaload, 1) := by decide +kernel
theorem d_M_reach_73 : decode b_M_reach 73 = .ok (.ior, 1) := by decide +kernel
theorem d_M_reach_74 : decode b_M_reach 74 = .ok (.putfield 169, 3) := by decide +kernel
theorem d_M_reach_77 : decode b_M_reach 77 = .ok (.iconst 0, 1) := by decide +kernel
theorem d_M_reach_78 : decode b_M_reach 78 = .ok (.istore 5, 2) := by decide +kernel
theorem d_M_reach_80 : decode b_M_reach 80 = .ok (.iload 5, 2) := by decide +kernel
theorem d_M_reach_82 : decode b_M_reach 82 = .ok (.aload_n 0, 1) := by decide +kernel
theorem d_M_reach_83 : decode b_M_reach 83 = .ok (.getfield 122, 3) := by decide +kernel
theorem d_M_reach_86 : decode b_M_reach 86 = .ok (.if_icmp .ge 75, 3) := by decide +kernel
theorem d_M_reach_89 : decode b_M_reach 89 = .ok (.iload_n 1, 1) := by decide +kernel
theorem d_M_reach_90 : decode b_M_reach 90 = .ok (.ifCond .le 71, 3) := by decide +kernel
theorem d_M_reach_93 : decode b_M_reach 93 = .ok (.aload_n 0, 1) := by decide +kernel
theorem d_M_reach_94 : decode b_M_reach 94 = .ok (.getfield 51, 3) := by decide +kernel
theorem d_M_reach_97 : decode b_M_reach 97 = .ok (.iload_n 1, 1) := by decide +kernel
theorem d_M_reach_98 : decode b_M_reach 98 = .ok (.iaload, 1) := by decide +kernel
theorem d_M_reach_99 : decode b_M_reach 99 = .ok (.iload 5, 2) := by decide +kernel
theorem d_M_reach_101 : decode b_M_reach 101 = .ok (.invokestatic 107, 3) := by decide +kernel
theorem d_M_reach_104 : decode b_M_reach 104 = .ok (.ifCond .eq 51, 3) := by decide +kernel
theorem d_M_reach_107 : decode b_M_reach 107 = .ok (.aload_n 0, 1) := by decide +kernel
theorem d_M_reach_108 : decode b_M_reach 108 = .ok (.getfield 48, 3) := by decide +kernel
theorem d_M_reach_111 : decode b_M_reach 111 = .ok (.bipush 30, 2) := by decide +kernel
theorem d_M_reach_113 : decode b_M_reach 113 = .ok (.iload 5, 2) := by decide +kernel
theorem d_M_reach_115 : decode b_M_reach 115 = .ok (.imul, 1) := by decide +kernel
theorem d_M_reach_116 : decode b_M_reach 116 = .ok (.iload 4, 2) := by decide +kernel
theorem d_M_reach_118 : decode b_M_reach 118 = .ok (.iadd, 1) := by decide +kernel
theorem d_M_reach_119 : decode b_M_reach 119 = .ok (.baload, 1) := by decide +kernel
theorem d_M_reach_120 : decode b_M_reach 120 = .ok (.ifCond .ne 6, 3) := by decide +kernel
theorem d_M_reach_123 : decode b_M_reach 123 = .ok (.goto 32, 3) := by decide +kernel
theorem d_M_reach_126 : decode b_M_reach 126 = .ok (.iload_n 3, 1) := by decide +kernel
theorem d_M_reach_127 : decode b_M_reach 127 = .ok (.iconst 1, 1) := by decide +kernel
theorem d_M_reach_128 : decode b_M_reach 128 = .ok (.iload 4, 2) := by decide +kernel
theorem d_M_reach_130 : decode b_M_reach 130 = .ok (.ishl, 1) := by decide +kernel
theorem d_M_reach_131 : decode b_M_reach 131 = .ok (.ior, 1) := by decide +kernel
theorem d_M_reach_132 : decode b_M_reach 132 = .ok (.istore_n 3, 1) := by decide +kernel
theorem d_M_reach_133 : decode b_M_reach 133 = .ok (.aload_n 0, 1) := by decide +kernel
theorem d_M_reach_134 : decode b_M_reach 134 = .ok (.dup, 1) := by decide +kernel
theorem d_M_reach_135 : decode b_M_reach 135 = .ok (.getfield 169, 3) := by decide +kernel
theorem d_M_reach_138 : decode b_M_reach 138 = .ok (.aload_n 0, 1) := by decide +kernel
theorem d_M_reach_139 : decode b_M_reach 139 = .ok (.getfield 45, 3) := by decide +kernel
theorem d_M_reach_142 : decode b_M_reach 142 = .ok (.bipush 30, 2) := by decide +kernel
theorem d_M_reach_144 : decode b_M_reach 144 = .ok (.iload 5, 2) := by decide +kernel
theorem d_M_reach_146 : decode b_M_reach 146 = .ok (.imul, 1) := by decide +kernel
theorem d_M_reach_147 : decode b_M_reach 147 = .ok (.iload 4, 2) := by decide +kernel
theorem d_M_reach_149 : decode b_M_reach 149 = .ok (.iadd, 1) := by decide +kernel
theorem d_M_reach_150 : decode b_M_reach 150 = .ok (.iaload, 1) := by decide +kernel
theorem d_M_reach_151 : decode b_M_reach 151 = .ok (.ior, 1) := by decide +kernel
theorem d_M_reach_152 : decode b_M_reach 152 = .ok (.putfield 169, 3) := by decide +kernel
theorem d_M_reach_155 : decode b_M_reach 155 = .ok (.iinc 5 1, 3) := by decide +kernel
theorem d_M_reach_158 : decode b_M_reach 158 = .ok (.goto (-78), 3) := by decide +kernel
theorem d_M_reach_161 : decode b_M_reach 161 = .ok (.iinc 4 1, 3) := by decide +kernel
theorem d_M_reach_164 : decode b_M_reach 164 = .ok (.goto (-154), 3) := by decide +kernel
theorem d_M_reach_167 : decode b_M_reach 167 = .ok (.iload_n 3, 1) := by decide +kernel
theorem d_M_reach_168 : decode b_M_reach 168 = .ok (.ireturn, 1) := by decide +kernel
theorem d_M_build_0 : decode b_M_build 0 = .ok (.iconst 1, 1) := by decide +kernel
theorem d_M_build_1 : decode b_M_build 1 = .ok (.istore_n 1, 1) := by decide +kernel
theorem d_M_build_2 : decode b_M_build 2 = .ok (.aload_n 0, 1) := by decide +kernel
theorem d_M_build_3 : decode b_M_build 3 = .ok (.getfield 51, 3) := by decide +kernel
theorem d_M_build_6 : decode b_M_build 6 = .ok (.iconst 0, 1) := by decide +kernel
theorem d_M_build_7 : decode b_M_build 7 = .ok (.iconst 0, 1) := by decide +kernel
theorem d_M_build_8 : decode b_M_build 8 = .ok (.iastore, 1) := by decide +kernel
theorem d_M_build_9 : decode b_M_build 9 = .ok (.iconst 0, 1) := by decide +kernel
theorem d_M_build_10 : decode b_M_build 10 = .ok (.istore_n 2, 1) := by decide +kernel
theorem d_M_build_11 : decode b_M_build 11 = .ok (.iload_n 2, 1) := by decide +kernel
theorem d_M_build_12 : decode b_M_build 12 = .ok (.iload_n 1, 1) := by decide +kernel
theorem d_M_build_13 : decode b_M_build 13 = .ok (.if_icmp .ge 131, 3) := by decide +kernel
theorem d_M_build_16 : decode b_M_build 16 = .ok (.iload_n 1, 1) := by decide +kernel
theorem d_M_build_17 : decode b_M_build 17 = .ok (.bipush 50, 2) := by decide +kernel
theorem d_M_build_19 : decode b_M_build 19 = .ok (.if_icmp .gt 125, 3) := by decide +kernel
theorem d_M_build_22 : decode b_M_build 22 = .ok (.iconst 0, 1) := by decide +kernel
theorem d_M_build_23 : decode b_M_build 23 = .ok (.istore_n 3, 1) := by decide +kernel
theorem d_M_build_24 : decode b_M_build 24 = .ok (.iload_n 3, 1) := by decide +kernel
theorem d_M_build_25 : decode b_M_build 25 = .ok (.iconst 4, 1) := by decide +kernel
theorem d_M_build_26 : decode b_M_build 26 = .ok (.if_icmp .ge 112, 3) := by decide +kernel
theorem d_M_build_29 : decode b_M_build 29 = .ok (.iload_n 1, 1) := by decide +kernel
theorem d_M_build_30 : decode b_M_build 30 = .ok (.bipush 50, 2) := by decide +kernel
theorem d_M_build_32 : decode b_M_build 32 = .ok (.if_icmp .gt 106, 3) := by decide +kernel
theorem d_M_build_35 : decode b_M_build 35 = .ok (.aload_n 0, 1) := by decide +kernel
theorem d_M_build_36 : decode b_M_build 36 = .ok (.iload_n 2, 1) := by decide +kernel
theorem d_M_build_37 : decode b_M_build 37 = .ok (.iload_n 3, 1) := by decide +kernel
theorem d_M_build_38 : decode b_M_build 38 = .ok (.invokevirtual 172, 3) := by decide +kernel
theorem d_M_build_41 : decode b_M_build 41 = .ok (.istore 4, 2) := by decide +kernel
theorem d_M_build_43 : decode b_M_build 43 = .ok (.iconst 1, 1) := by decide +kernel
theorem d_M_build_44 : decode b_M_build 44 = .ok (.istore 5, 2) := by decide +kernel
theorem d_M_build_46 : decode b_M_build 46 = .ok (.aload_n 0, 1) := by decide +kernel
theorem d_M_build_47 : decode b_M_build 47 = .ok (.getfield 54, 3) := by decide +kernel
theorem d_M_build_50 : decode b_M_build 50 = .ok (.iconst 4, 1) := by decide +kernel
theorem d_M_build_51 : decode b_M_build 51 = .ok (.iload_n 2, 1) := by decide +kernel
theorem d_M_build_52 : decode b_M_build 52 = .ok (.imul, 1) := by decide +kernel
theorem d_M_build_53 : decode b_M_build 53 = .ok (.iload_n 3, 1) := by decide +kernel
theorem d_M_build_54 : decode b_M_build 54 = .ok (.iadd, 1) := by decide +kernel
theorem d_M_build_55 : decode b_M_build 55 = .ok (.iconst (-1), 1) := by decide +kernel
theorem d_M_build_56 : decode b_M_build 56 = .ok (.iastore, 1) := by decide +kernel
theorem d_M_build_57 : decode b_M_build 57 = .ok (.aload_n 0, 1) := by decide +kernel
theorem d_M_build_58 : decode b_M_build 58 = .ok (.getfield 57, 3) := by decide +kernel
theorem d_M_build_61 : decode b_M_build 61 = .ok (.iconst 4, 1) := by decide +kernel
theorem d_M_build_62 : decode b_M_build 62 = .ok (.iload_n 2, 1) := by decide +kernel
theorem d_M_build_63 : decode b_M_build 63 = .ok (.imul, 1) := by decide +kernel
theorem d_M_build_64 : decode b_M_build 64 = .ok (.iload_n 3, 1) := by decide +kernel
theorem d_M_build_65 : decode b_M_build 65 = .ok (.iadd, 1) := by decide +kernel
theorem d_M_build_66 : decode b_M_build 66 = .ok (.aload_n 0, 1) := by decide +kernel
theorem d_M_build_67 : decode b_M_build 67 = .ok (.getfield 169, 3) := by decide +kernel
theorem d_M_build_70 : decode b_M_build 70 = .ok (.iastore, 1) := by decide +kernel
theorem d_M_build_71 : decode b_M_build 71 = .ok (.iload 4, 2) := by decide +kernel
theorem d_M_build_73 : decode b_M_build 73 = .ok (.ifCond .ne 6, 3) := by decide +kernel
theorem d_M_build_76 : decode b_M_build 76 = .ok (.goto 56, 3) := by decide +kernel
theorem d_M_build_79 : decode b_M_build 79 = .ok (.iload 5, 2) := by decide +kernel
theorem d_M_build_81 : decode b_M_build 81 = .ok (.iload_n 1, 1) := by decide +kernel
theorem d_M_build_82 : decode b_M_build 82 = .ok (.if_icmp .ge 21, 3) := by decide +kernel
theorem d_M_build_85 : decode b_M_build 85 = .ok (.aload_n 0, 1) := by decide +kernel
theorem d_M_build_86 : decode b_M_build 86 = .ok (.getfield 51, 3) := by decide +kernel
theorem d_M_build_89 : decode b_M_build 89 = .ok (.iload 5, 2) := by decide +kernel
theorem d_M_build_91 : decode b_M_build 91 = .ok (.iaload, 1) := by decide +kernel
theorem d_M_build_92 : decode b_M_build 92 = .ok (.iload 4, 2) := by decide +kernel
theorem d_M_build_94 : decode b_M_build 94 = .ok (.if_icmp .eq 9, 3) := by decide +kernel
theorem d_M_build_97 : decode b_M_build 97 = .ok (.iinc 5 1, 3) := by decide +kernel
theorem d_M_build_100 : decode b_M_build 100 = .ok (.goto (-21), 3) := by decide +kernel
theorem d_M_build_103 : decode b_M_build 103 = .ok (.iload 5, 2) := by decide +kernel
theorem d_M_build_105 : decode b_M_build 105 = .ok (.iload_n 1, 1) := by decide +kernel
theorem d_M_build_106 : decode b_M_build 106 = .ok (.if_icmp .ne 14, 3) := by decide +kernel
theorem d_M_build_109 : decode b_M_build 109 = .ok (.aload_n 0, 1) := by decide +kernel
theorem d_M_build_110 : decode b_M_build 110 = .ok (.getfield 51, 3) := by decide +kernel
theorem d_M_build_113 : decode b_M_build 113 = .ok (.iload_n 1, 1) := by decide +kernel
theorem d_M_build_114 : decode b_M_build 114 = .ok (.iload 4, 2) := by decide +kernel
theorem d_M_build_116 : decode b_M_build 116 = .ok (.iastore, 1) := by decide +kernel
theorem d_M_build_117 : decode b_M_build 117 = .ok (.iinc 1 1, 3) := by decide +kernel
theorem d_M_build_120 : decode b_M_build 120 = .ok (.aload_n 0, 1) := by decide +kernel
theorem d_M_build_121 : decode b_M_build 121 = .ok (.getfield 54, 3) := by decide +kernel
theorem d_M_build_124 : decode b_M_build 124 = .ok (.iconst 4, 1) := by decide +kernel
theorem d_M_build_125 : decode b_M_build 125 = .ok (.iload_n 2, 1) := by decide +kernel
theorem d_M_build_126 : decode b_M_build 126 = .ok (.imul, 1) := by decide +kernel
theorem d_M_build_127 : decode b_M_build 127 = .ok (.iload_n 3, 1) := by decide +kernel
theorem d_M_build_128 : decode b_M_build 128 = .ok (.iadd, 1) := by decide +kernel
theorem d_M_build_129 : decode b_M_build 129 = .ok (.iload 5, 2) := by decide +kernel
theorem d_M_build_131 : decode b_M_build 131 = .ok (.iastore, 1) := by decide +kernel
theorem d_M_build_132 : decode b_M_build 132 = .ok (.iinc 3 1, 3) := by decide +kernel
theorem d_M_build_135 : decode b_M_build 135 = .ok (.goto (-111), 3) := by decide +kernel
theorem d_M_build_138 : decode b_M_build 138 = .ok (.iinc 2 1, 3) := by decide +kernel
theorem d_M_build_141 : decode b_M_build 141 = .ok (.goto (-130), 3) := by decide +kernel
theorem d_M_build_144 : decode b_M_build 144 = .ok (.iload_n 1, 1) := by decide +kernel
theorem d_M_build_145 : decode b_M_build 145 = .ok (.ireturn, 1) := by decide +kernel
theorem d_M_finish_0 : decode b_M_finish 0 = .ok (.iconst 0, 1) := by decide +kernel
theorem d_M_finish_1 : decode b_M_finish 1 = .ok (.istore_n 2, 1) := by decide +kernel
theorem d_M_finish_2 : decode b_M_finish 2 = .ok (.iload_n 2, 1) := by decide +kernel
theorem d_M_finish_3 : decode b_M_finish 3 = .ok (.iload_n 1, 1) := by decide +kernel
theorem d_M_finish_4 : decode b_M_finish 4 = .ok (.if_icmp .ge 136, 3) := by decide +kernel
theorem d_M_finish_7 : decode b_M_finish 7 = .ok (.aload_n 0, 1) := by decide +kernel
theorem d_M_finish_8 : decode b_M_finish 8 = .ok (.getfield 60, 3) := by decide +kernel
theorem d_M_finish_11 : decode b_M_finish 11 = .ok (.iload_n 2, 1) := by decide +kernel
theorem d_M_finish_12 : decode b_M_finish 12 = .ok (.iconst 0, 1) := by decide +kernel
theorem d_M_finish_13 : decode b_M_finish 13 = .ok (.iastore, 1) := by decide +kernel
theorem d_M_finish_14 : decode b_M_finish 14 = .ok (.aload_n 0, 1) := by decide +kernel
theorem d_M_finish_15 : decode b_M_finish 15 = .ok (.getfield 69, 3) := by decide +kernel
theorem d_M_finish_18 : decode b_M_finish 18 = .ok (.iload_n 2, 1) := by decide +kernel
theorem d_M_finish_19 : decode b_M_finish 19 = .ok (.iload_n 2, 1) := by decide +kernel
theorem d_M_finish_20 : decode b_M_finish 20 = .ok (.ifCond .ne 12, 3) := by decide +kernel
theorem d_M_finish_23 : decode b_M_finish 23 = .ok (.aload_n 0, 1) := by decide +kernel
theorem d_M_finish_24 : decode b_M_finish 24 = .ok (.getfield 21, 3) := by decide +kernel
theorem d_M_finish_27 : decode b_M_finish 27 = .ok (.iconst 0, 1) := by decide +kernel
theorem d_M_finish_28 : decode b_M_finish 28 = .ok (.baload, 1) := by decide +kernel
theorem d_M_finish_29 : decode b_M_finish 29 = .ok (.goto 24, 3) := by decide +kernel
theorem d_M_finish_32 : decode b_M_finish 32 = .ok (.aload_n 0, 1) := by decide +kernel
theorem d_M_finish_33 : decode b_M_finish 33 = .ok (.getfield 51, 3) := by decide +kernel
theorem d_M_finish_36 : decode b_M_finish 36 = .ok (.iload_n 2, 1) := by decide +kernel
theorem d_M_finish_37 : decode b_M_finish 37 = .ok (.iaload, 1) := by decide +kernel
theorem d_M_finish_38 : decode b_M_finish 38 = .ok (.aload_n 0, 1) := by decide +kernel
theorem d_M_finish_39 : decode b_M_finish 39 = .ok (.getfield 33, 3) := by decide +kernel
theorem d_M_finish_42 : decode b_M_finish 42 = .ok (.iconst 0, 1) := by decide +kernel
theorem d_M_finish_43 : decode b_M_finish 43 = .ok (.iaload, 1) := by decide +kernel
theorem d_M_finish_44 : decode b_M_finish 44 = .ok (.iand, 1) := by decide +kernel
theorem d_M_finish_45 : decode b_M_finish 45 = .ok (.ifCond .eq 7, 3) := by decide +kernel
theorem d_M_finish_48 : decode b_M_finish 48 = .ok (.iconst 1, 1) := by decide +kernel
theorem d_M_finish_49 : decode b_M_finish 49 = .ok (.goto 4, 3) := by decide +kernel
theorem d_M_finish_52 : decode b_M_finish 52 = .ok (.iconst 0, 1) := by decide +kernel
theorem d_M_finish_53 : decode b_M_finish 53 = .ok (.bastore, 1) := by decide +kernel
theorem d_M_finish_54 : decode b_M_finish 54 = .ok (.iload_n 2, 1) := by decide +kernel
theorem d_M_finish_55 : decode b_M_finish 55 = .ok (.ifCond .ne 24, 3) := by decide +kernel
theorem d_M_finish_58 : decode b_M_finish 58 = .ok (.aload_n 0, 1) := by decide +kernel
theorem d_M_finish_59 : decode b_M_finish 59 = .ok (.getfield 21, 3) := by decide +kernel
theorem d_M_finish_62 : decode b_M_finish 62 = .ok (.iconst 0, 1) := by decide +kernel
theorem d_M_finish_63 : decode b_M_finish 63 = .ok (.baload, 1) := by decide +kernel
theorem d_M_finish_64 : decode b_M_finish 64 = .ok (.ifCond .eq 15, 3) := by decide +kernel
theorem d_M_finish_67 : decode b_M_finish 67 = .ok (.aload_n 0, 1) := by decide +kernel
theorem d_M_finish_68 : decode b_M_finish 68 = .ok (.getfield 60, 3) := by decide +kernel
theorem d_M_finish_71 : decode b_M_finish 71 = .ok (.iload_n 2, 1) := by decide +kernel
theorem d_M_finish_72 : decode b_M_finish 72 = .ok (.aload_n 0, 1) := by decide +kernel
theorem d_M_finish_73 : decode b_M_finish 73 = .ok (.getfield 27, 3) := by decide +kernel
theorem d_M_finish_76 : decode b_M_finish 76 = .ok (.iconst 0, 1) := by decide +kernel
theorem d_M_finish_77 : decode b_M_finish 77 = .ok (.iaload, 1) := by decide +kernel
theorem d_M_finish_78 : decode b_M_finish 78 = .ok (.iastore, 1) := by decide +kernel
theorem d_M_finish_79 : decode b_M_finish 79 = .ok (.iconst 0, 1) := by decide +kernel
theorem d_M_finish_80 : decode b_M_finish 80 = .ok (.istore_n 3, 1) := by decide +kernel
theorem d_M_finish_81 : decode b_M_finish 81 = .ok (.iload_n 3, 1) := by decide +kernel
theorem d_M_finish_82 : decode b_M_finish 82 = .ok (.aload_n 0, 1) := by decide +kernel
theorem d_M_finish_83 : decode b_M_finish 83 = .ok (.getfield 122, 3) := by decide +kernel
theorem d_M_finish_86 : decode b_M_finish 86 = .ok (.if_icmp .ge 48, 3) := by decide +kernel
theorem d_M_finish_89 : decode b_M_finish 89 = .ok (.iload_n 2, 1) := by decide +kernel
theorem d_M_finish_90 : decode b_M_finish 90 = .ok (.ifCond .le 44, 3) := by decide +kernel
theorem d_M_finish_93 : decode b_M_finish 93 = .ok (.aload_n 0, 1) := by decide +kernel
theorem d_M_finish_94 : decode b_M_finish 94 = .ok (.getfield 51, 3) := by decide +kernel
theorem d_M_finish_97 : decode b_M_finish 97 = .ok (.iload_n 2, 1) := by decide +kernel
theorem d_M_finish_98 : decode b_M_finish 98 = .ok (.iaload, 1) := by decide +kernel
theorem d_M_finish_99 : decode b_M_finish 99 = .ok (.aload_n 0, 1) := by decide +kernel
theorem d_M_finish_100 : decode b_M_finish 100 = .ok (.getfield 33, 3) := by decide +kernel
theorem d_M_finish_103 : decode b_M_finish 103 = .ok (.iconst 0, 1) := by decide +kernel
theorem d_M_finish_104 : decode b_M_finish 104 = .ok (.iaload, 1) := by decide +kernel
theorem d_M_finish_105 : decode b_M_finish 105 = .ok (.iand, 1) := by decide +kernel
theorem d_M_finish_106 : decode b_M_finish 106 = .ok (.iload_n 3, 1) := by decide +kernel
theorem d_M_finish_107 : decode b_M_finish 107 = .ok (.invokestatic 107, 3) := by decide +kernel
theorem d_M_finish_110 : decode b_M_finish 110 = .ok (.ifCond .eq 18, 3) := by decide +kernel
theorem d_M_finish_113 : decode b_M_finish 113 = .ok (.aload_n 0, 1) := by decide +kernel
theorem d_M_finish_114 : decode b_M_finish 114 = .ok (.getfield 60, 3) := by decide +kernel
theorem d_M_finish_117 : decode b_M_finish 117 = .ok (.iload_n 2, 1) := by decide +kernel
theorem d_M_finish_118 : decode b_M_finish 118 = .ok (.dup2, 1) := by decide +kernel
theorem d_M_finish_119 : decode b_M_finish 119 = .ok (.iaload, 1) := by decide +kernel
theorem d_M_finish_120 : decode b_M_finish 120 = .ok (.aload_n 0, 1) := by decide +kernel
theorem d_M_finish_121 : decode b_M_finish 121 = .ok (.getfield 39, 3) := by decide +kernel
theorem d_M_finish_124 : decode b_M_finish 124 = .ok (.iload_n 3, 1) := by decide +kernel
theorem d_M_finish_125 : decode b_M_finish 125 = .ok (.iaload, 1) := by decide +kernel
theorem d_M_finish_126 : decode b_M_finish 126 = .ok (.ior, 1) := by decide +kernel
theorem d_M_finish_127 : decode b_M_finish 127 = .ok (.iastore, 1) := by decide +kernel
theorem d_M_finish_128 : decode b_M_finish 128 = .ok (.iinc 3 1, 3) := by decide +kernel
theorem d_M_finish_131 : decode b_M_finish 131 = .ok (.goto (-50), 3) := by decide +kernel
theorem d_M_finish_134 : decode b_M_finish 134 = .ok (.iinc 2 1, 3) := by decide +kernel
theorem d_M_finish_137 : decode b_M_finish 137 = .ok (.goto (-135), 3) := by decide +kernel
theorem d_M_finish_140 : decode b_M_finish 140 = .ok (.return_, 1) := by decide +kernel
theorem d_M_isApart_0 : decode b_M_isApart 0 = .ok (.iconst 0, 1) := by decide +kernel
theorem d_M_isApart_1 : decode b_M_isApart 1 = .ok (.istore_n 3, 1) := by decide +kernel
theorem d_M_isApart_2 : decode b_M_isApart 2 = .ok (.iload_n 3, 1) := by decide +kernel
theorem d_M_isApart_3 : decode b_M_isApart 3 = .ok (.iconst 4, 1) := by decide +kernel
theorem d_M_isApart_4 : decode b_M_isApart 4 = .ok (.if_icmp .ge 103, 3) := by decide +kernel
theorem d_M_isApart_7 : decode b_M_isApart 7 = .ok (.aload_n 0, 1) := by decide +kernel
theorem d_M_isApart_8 : decode b_M_isApart 8 = .ok (.getfield 54, 3) := by decide +kernel
theorem d_M_isApart_11 : decode b_M_isApart 11 = .ok (.iconst 4, 1) := by decide +kernel
theorem d_M_isApart_12 : decode b_M_isApart 12 = .ok (.iload_n 1, 1) := by decide +kernel
theorem d_M_isApart_13 : decode b_M_isApart 13 = .ok (.imul, 1) := by decide +kernel
theorem d_M_isApart_14 : decode b_M_isApart 14 = .ok (.iload_n 3, 1) := by decide +kernel
theorem d_M_isApart_15 : decode b_M_isApart 15 = .ok (.iadd, 1) := by decide +kernel
theorem d_M_isApart_16 : decode b_M_isApart 16 = .ok (.iaload, 1) := by decide +kernel
theorem d_M_isApart_17 : decode b_M_isApart 17 = .ok (.istore 4, 2) := by decide +kernel
theorem d_M_isApart_19 : decode b_M_isApart 19 = .ok (.aload_n 0, 1) := by decide +kernel
theorem d_M_isApart_20 : decode b_M_isApart 20 = .ok (.getfield 54, 3) := by decide +kernel
theorem d_M_isApart_23 : decode b_M_isApart 23 = .ok (.iconst 4, 1) := by decide +kernel
theorem d_M_isApart_24 : decode b_M_isApart 24 = .ok (.iload_n 2, 1) := by decide +kernel
theorem d_M_isApart_25 : decode b_M_isApart 25 = .ok (.imul, 1) := by decide +kernel
theorem d_M_isApart_26 : decode b_M_isApart 26 = .ok (.iload_n 3, 1) := by decide +kernel
theorem d_M_isApart_27 : decode b_M_isApart 27 = .ok (.iadd, 1) := by decide +kernel
theorem d_M_isApart_28 : decode b_M_isApart 28 = .ok (.iaload, 1) := by decide +kernel
theorem d_M_isApart_29 : decode b_M_isApart 29 = .ok (.istore 5, 2) := by decide +kernel
theorem d_M_isApart_31 : decode b_M_isApart 31 = .ok (.iload 4, 2) := by decide +kernel
theorem d_M_isApart_33 : decode b_M_isApart 33 = .ok (.ifCond .ge 7, 3) := by decide +kernel
theorem d_M_isApart_36 : decode b_M_isApart 36 = .ok (.iconst 1, 1) := by decide +kernel
theorem d_M_isApart_37 : decode b_M_isApart 37 = .ok (.goto 4, 3) := by decide +kernel
theorem d_M_isApart_40 : decode b_M_isApart 40 = .ok (.iconst 0, 1) := by decide +kernel
theorem d_M_isApart_41 : decode b_M_isApart 41 = .ok (.iload 5, 2) := by decide +kernel
theorem d_M_isApart_43 : decode b_M_isApart 43 = .ok (.ifCond .ge 7, 3) := by decide +kernel
theorem d_M_isApart_46 : decode b_M_isApart 46 = .ok (.iconst 1, 1) := by decide +kernel
theorem d_M_isApart_47 : decode b_M_isApart 47 = .ok (.goto 4, 3) := by decide +kernel
theorem d_M_isApart_50 : decode b_M_isApart 50 = .ok (.iconst 0, 1) := by decide +kernel
theorem d_M_isApart_51 : decode b_M_isApart 51 = .ok (.if_icmp .ne 48, 3) := by decide +kernel
theorem d_M_isApart_54 : decode b_M_isApart 54 = .ok (.iload 4, 2) := by decide +kernel
theorem d_M_isApart_56 : decode b_M_isApart 56 = .ok (.ifCond .lt 45, 3) := by decide +kernel
theorem d_M_isApart_59 : decode b_M_isApart 59 = .ok (.aload_n 0, 1) := by decide +kernel
theorem d_M_isApart_60 : decode b_M_isApart 60 = .ok (.getfield 57, 3) := by decide +kernel
theorem d_M_isApart_63 : decode b_M_isApart 63 = .ok (.iconst 4, 1) := by decide +kernel
theorem d_M_isApart_64 : decode b_M_isApart 64 = .ok (.iload_n 1, 1) := by decide +kernel
theorem d_M_isApart_65 : decode b_M_isApart 65 = .ok (.imul, 1) := by decide +kernel
theorem d_M_isApart_66 : decode b_M_isApart 66 = .ok (.iload_n 3, 1) := by decide +kernel
theorem d_M_isApart_67 : decode b_M_isApart 67 = .ok (.iadd, 1) := by decide +kernel
theorem d_M_isApart_68 : decode b_M_isApart 68 = .ok (.iaload, 1) := by decide +kernel
theorem d_M_isApart_69 : decode b_M_isApart 69 = .ok (.aload_n 0, 1) := by decide +kernel
theorem d_M_isApart_70 : decode b_M_isApart 70 = .ok (.getfield 57, 3) := by decide +kernel
theorem d_M_isApart_73 : decode b_M_isApart 73 = .ok (.iconst 4, 1) := by decide +kernel
theorem d_M_isApart_74 : decode b_M_isApart 74 = .ok (.iload_n 2, 1) := by decide +kernel
theorem d_M_isApart_75 : decode b_M_isApart 75 = .ok (.imul, 1) := by decide +kernel
theorem d_M_isApart_76 : decode b_M_isApart 76 = .ok (.iload_n 3, 1) := by decide +kernel
theorem d_M_isApart_77 : decode b_M_isApart 77 = .ok (.iadd, 1) := by decide +kernel
theorem d_M_isApart_78 : decode b_M_isApart 78 = .ok (.iaload, 1) := by decide +kernel
theorem d_M_isApart_79 : decode b_M_isApart 79 = .ok (.if_icmp .ne 20, 3) := by decide +kernel
theorem d_M_isApart_82 : decode b_M_isApart 82 = .ok (.aload_n 0, 1) := by decide +kernel
theorem d_M_isApart_83 : decode b_M_isApart 83 = .ok (.getfield 63, 3) := by decide +kernel
theorem d_M_isApart_86 : decode b_M_isApart 86 = .ok (.iload 4, 2) := by decide +kernel
theorem d_M_isApart_88 : decode b_M_isApart 88 = .ok (.iaload, 1) := by decide +kernel
theorem d_M_isApart_89 : decode b_M_isApart 89 = .ok (.aload_n 0, 1) := by decide +kernel
theorem d_M_isApart_90 : decode b_M_isApart 90 = .ok (.getfield 63, 3) := by decide +kernel
theorem d_M_isApart_93 : decode b_M_isApart 93 = .ok (.iload 5, 2) := by decide +kernel
theorem d_M_isApart_95 : decode b_M_isApart 95 = .ok (.iaload, 1) := by decide +kernel
theorem d_M_isApart_96 : decode b_M_isApart 96 = .ok (.if_icmp .eq 5, 3) := by decide +kernel
theorem d_M_isApart_99 : decode b_M_isApart 99 = .ok (.iconst 1, 1) := by decide +kernel
theorem d_M_isApart_100 : decode b_M_isApart 100 = .ok (.ireturn, 1) := by decide +kernel
theorem d_M_isApart_101 : decode b_M_isApart 101 = .ok (.iinc 3 1, 3) := by decide +kernel
theorem d_M_isApart_104 : decode b_M_isApart 104 = .ok (.goto (-102), 3) := by decide +kernel
theorem d_M_isApart_107 : decode b_M_isApart 107 = .ok (.iconst 0, 1) := by decide +kernel
theorem d_M_isApart_108 : decode b_M_isApart 108 = .ok (.ireturn, 1) := by decide +kernel
theorem d_M_divide_0 : decode b_M_divide 0 = .ok (.iconst 0, 1) := by decide +kernel
theorem d_M_divide_1 : decode b_M_divide 1 = .ok (.istore_n 2, 1) := by decide +kernel
theorem d_M_divide_2 : decode b_M_divide 2 = .ok (.iload_n 2, 1) := by decide +kernel
theorem d_M_divide_3 : decode b_M_divide 3 = .ok (.iload_n 1, 1) := by decide +kernel
theorem d_M_divide_4 : decode b_M_divide 4 = .ok (.if_icmp .ge 72, 3) := by decide +kernel
theorem d_M_divide_7 : decode b_M_divide 7 = .ok (.aload_n 0, 1) := by decide +kernel
theorem d_M_divide_8 : decode b_M_divide 8 = .ok (.getfield 63, 3) := by decide +kernel
theorem d_M_divide_11 : decode b_M_divide 11 = .ok (.iload_n 2, 1) := by decide +kernel
theorem d_M_divide_12 : decode b_M_divide 12 = .ok (.iload_n 2, 1) := by decide +kernel
theorem d_M_divide_13 : decode b_M_divide 13 = .ok (.iastore, 1) := by decide +kernel
theorem d_M_divide_14 : decode b_M_divide 14 = .ok (.iload_n 2, 1) := by decide +kernel
theorem d_M_divide_15 : decode b_M_divide 15 = .ok (.iconst 1, 1) := by decide +kernel
theorem d_M_divide_16 : decode b_M_divide 16 = .ok (.isub, 1) := by decide +kernel
theorem d_M_divide_17 : decode b_M_divide 17 = .ok (.istore_n 3, 1) := by decide +kernel
theorem d_M_divide_18 : decode b_M_divide 18 = .ok (.iload_n 3, 1) := by decide +kernel
theorem d_M_divide_19 : decode b_M_divide 19 = .ok (.ifCond .lt 51, 3) := by decide +kernel
theorem d_M_divide_22 : decode b_M_divide 22 = .ok (.aload_n 0, 1) := by decide +kernel
theorem d_M_divide_23 : decode b_M_divide 23 = .ok (.getfield 69, 3) := by decide +kernel
theorem d_M_divide_26 : decode b_M_divide 26 = .ok (.iload_n 2, 1) := by decide +kernel
theorem d_M_divide_27 : decode b_M_divide 27 = .ok (.baload, 1) := by decide +kernel
theorem d_M_divide_28 : decode b_M_divide 28 = .ok (.aload_n 0, 1) := by decide +kernel
theorem d_M_divide_29 : decode b_M_divide 29 = .ok (.getfield 69, 3) := by decide +kernel
theorem d_M_divide_32 : decode b_M_divide 32 = .ok (.iload_n 3, 1) := by decide +kernel
theorem d_M_divide_33 : decode b_M_divide 33 = .ok (.baload, 1) := by decide +kernel
theorem d_M_divide_34 : decode b_M_divide 34 = .ok (.if_icmp .ne 30, 3) := by decide +kernel
theorem d_M_divide_37 : decode b_M_divide 37 = .ok (.aload_n 0, 1) := by decide +kernel
theorem d_M_divide_38 : decode b_M_divide 38 = .ok (.getfield 60, 3) := by decide +kernel
theorem d_M_divide_41 : decode b_M_divide 41 = .ok (.iload_n 2, 1) := by decide +kernel
theorem d_M_divide_42 : decode b_M_divide 42 = .ok (.iaload, 1) := by decide +kernel
theorem d_M_divide_43 : decode b_M_divide 43 = .ok (.aload_n 0, 1) := by decide +kernel
theorem d_M_divide_44 : decode b_M_divide 44 = .ok (.getfield 60, 3) := by decide +kernel
theorem d_M_divide_47 : decode b_M_divide 47 = .ok (.iload_n 3, 1) := by decide +kernel
theorem d_M_divide_48 : decode b_M_divide 48 = .ok (.iaload, 1) := by decide +kernel
theorem d_M_divide_49 : decode b_M_divide 49 = .ok (.if_icmp .ne 15, 3) := by decide +kernel
theorem d_M_divide_52 : decode b_M_divide 52 = .ok (.aload_n 0, 1) := by decide +kernel
theorem d_M_divide_53 : decode b_M_divide 53 = .ok (.getfield 63, 3) := by decide +kernel
theorem d_M_divide_56 : decode b_M_divide 56 = .ok (.iload_n 2, 1) := by decide +kernel
theorem d_M_divide_57 : decode b_M_divide 57 = .ok (.aload_n 0, 1) := by decide +kernel
theorem d_M_divide_58 : decode b_M_divide 58 = .ok (.getfield 63, 3) := by decide +kernel
theorem d_M_divide_61 : decode b_M_divide 61 = .ok (.iload_n 3, 1) := by decide +kernel
theorem d_M_divide_62 : decode b_M_divide 62 = .ok (.iaload, 1) := by decide +kernel
theorem d_M_divide_63 : decode b_M_divide 63 = .ok (.iastore, 1) := by decide +kernel
theorem d_M_divide_64 : decode b_M_divide 64 = .ok (.iinc 3 (-1), 3) := by decide +kernel
theorem d_M_divide_67 : decode b_M_divide 67 = .ok (.goto (-49), 3) := by decide +kernel
theorem d_M_divide_70 : decode b_M_divide 70 = .ok (.iinc 2 1, 3) := by decide +kernel
theorem d_M_divide_73 : decode b_M_divide 73 = .ok (.goto (-71), 3) := by decide +kernel
theorem d_M_divide_76 : decode b_M_divide 76 = .ok (.iconst 1, 1) := by decide +kernel
theorem d_M_divide_77 : decode b_M_divide 77 = .ok (.istore_n 2, 1) := by decide +kernel
theorem d_M_divide_78 : decode b_M_divide 78 = .ok (.iload_n 2, 1) := by decide +kernel
theorem d_M_divide_79 : decode b_M_divide 79 = .ok (.ifCond .eq 150, 3) := by decide +kernel
theorem d_M_divide_82 : decode b_M_divide 82 = .ok (.iconst 0, 1) := by decide +kernel
theorem d_M_divide_83 : decode b_M_divide 83 = .ok (.istore_n 2, 1) := by decide +kernel
theorem d_M_divide_84 : decode b_M_divide 84 = .ok (.iconst 0, 1) := by decide +kernel
theorem d_M_divide_85 : decode b_M_divide 85 = .ok (.istore_n 3, 1) := by decide +kernel
theorem d_M_divide_86 : decode b_M_divide 86 = .ok (.iload_n 3, 1) := by decide +kernel
theorem d_M_divide_87 : decode b_M_divide 87 = .ok (.iload_n 1, 1) := by decide +kernel
theorem d_M_divide_88 : decode b_M_divide 88 = .ok (.if_icmp .ge 83, 3) := by decide +kernel
theorem d_M_divide_91 : decode b_M_divide 91 = .ok (.aload_n 0, 1) := by decide +kernel
theorem d_M_divide_92 : decode b_M_divide 92 = .ok (.getfield 66, 3) := by decide +kernel
theorem d_M_divide_95 : decode b_M_divide 95 = .ok (.iload_n 3, 1) := by decide +kernel
theorem d_M_divide_96 : decode b_M_divide 96 = .ok (.iload_n 3, 1) := by decide +kernel
theorem d_M_divide_97 : decode b_M_divide 97 = .ok (.iastore, 1) := by decide +kernel
theorem d_M_divide_98 : decode b_M_divide 98 = .ok (.iload_n 3, 1) := by decide +kernel
theorem d_M_divide_99 : decode b_M_divide 99 = .ok (.iconst 1, 1) := by decide +kernel
theorem d_M_divide_100 : decode b_M_divide 100 = .ok (.isub, 1) := by decide +kernel
theorem d_M_divide_101 : decode b_M_divide 101 = .ok (.istore 4, 2) := by decide +kernel
theorem d_M_divide_103 : decode b_M_divide 103 = .ok (.iload 4, 2) := by decide +kernel
theorem d_M_divide_105 : decode b_M_divide 105 = .ok (.ifCond .lt 60, 3) := by decide +kernel
theorem d_M_divide_108 : decode b_M_divide 108 = .ok (.aload_n 0, 1) := by decide +kernel
theorem d_M_divide_109 : decode b_M_divide 109 = .ok (.getfield 63, 3) := by decide +kernel
theorem d_M_divide_112 : decode b_M_divide 112 = .ok (.iload_n 3, 1) := by decide +kernel
theorem d_M_divide_113 : decode b_M_divide 113 = .ok (.iaload, 1) := by decide +kernel
theorem d_M_divide_114 : decode b_M_divide 114 = .ok (.aload_n 0, 1) := by decide +kernel
theorem d_M_divide_115 : decode b_M_divide 115 = .ok (.getfield 63, 3) := by decide +kernel
theorem d_M_divide_118 : decode b_M_divide 118 = .ok (.iload 4, 2) := by decide +kernel
theorem d_M_divide_120 : decode b_M_divide 120 = .ok (.iaload, 1) := by decide +kernel
theorem d_M_divide_121 : decode b_M_divide 121 = .ok (.if_icmp .ne 13, 3) := by decide +kernel
theorem d_M_divide_124 : decode b_M_divide 124 = .ok (.aload_n 0, 1) := by decide +kernel
theorem d_M_divide_125 : decode b_M_divide 125 = .ok (.iload_n 3, 1) := by decide +kernel
theorem d_M_divide_126 : decode b_M_divide 126 = .ok (.iload 4, 2) := by decide +kernel
theorem d_M_divide_128 : decode b_M_divide 128 = .ok (.invokevirtual 176, 3) := by decide +kernel
theorem d_M_divide_131 : decode b_M_divide 131 = .ok (.ifCond .eq 7, 3) := by decide +kernel
theorem d_M_divide_134 : decode b_M_divide 134 = .ok (.iconst 1, 1) := by decide +kernel
theorem d_M_divide_135 : decode b_M_divide 135 = .ok (.goto 4, 3) := by decide +kernel
theorem d_M_divide_138 : decode b_M_divide 138 = .ok (.iconst 0, 1) := by decide +kernel
theorem d_M_divide_139 : decode b_M_divide 139 = .ok (.istore 5, 2) := by decide +kernel
theorem d_M_divide_141 : decode b_M_divide 141 = .ok (.iload 5, 2) := by decide +kernel
theorem d_M_divide_143 : decode b_M_divide 143 = .ok (.ifCond .ne 16, 3) := by decide +kernel
theorem d_M_divide_146 : decode b_M_divide 146 = .ok (.aload_n 0, 1) := by decide +kernel
theorem d_M_divide_147 : decode b_M_divide 147 = .ok (.getfield 66, 3) := by decide +kernel
theorem d_M_divide_150 : decode b_M_divide 150 = .ok (.iload_n 3, 1) := by decide +kernel
theorem d_M_divide_151 : decode b_M_divide 151 = .ok (.aload_n 0, 1) := by decide +kernel
theorem d_M_divide_152 : decode b_M_divide 152 = .ok (.getfield 66, 3) := by decide +kernel
theorem d_M_divide_155 : decode b_M_divide 155 = .ok (.iload 4, 2) := by decide +kernel
theorem d_M_divide_157 : decode b_M_divide 157 = .ok (.iaload, 1) := by decide +kernel
theorem d_M_divide_158 : decode b_M_divide 158 = .ok (.iastore, 1) := by decide +kernel
theorem d_M_divide_159 : decode b_M_divide 159 = .ok (.iinc 4 (-1), 3) := by decide +kernel
theorem d_M_divide_162 : decode b_M_divide 162 = .ok (.goto (-59), 3) := by decide +kernel
theorem d_M_divide_165 : decode b_M_divide 165 = .ok (.iinc 3 1, 3) := by decide +kernel
theorem d_M_divide_168 : decode b_M_divide 168 = .ok (.goto (-82), 3) := by decide +kernel
theorem d_M_divide_171 : decode b_M_divide 171 = .ok (.iconst 0, 1) := by decide +kernel
theorem d_M_divide_172 : decode b_M_divide 172 = .ok (.istore_n 3, 1) := by decide +kernel
theorem d_M_divide_173 : decode b_M_divide 173 = .ok (.iload_n 3, 1) := by decide +kernel
theorem d_M_divide_174 : decode b_M_divide 174 = .ok (.iload_n 1, 1) := by decide +kernel
theorem d_M_divide_175 : decode b_M_divide 175 = .ok (.if_icmp .ge 26, 3) := by decide +kernel
theorem d_M_divide_178 : decode b_M_divide 178 = .ok (.aload_n 0, 1) := by decide +kernel
theorem d_M_divide_179 : decode b_M_divide 179 = .ok (.getfield 66, 3) := by decide +kernel
theorem d_M_divide_182 : decode b_M_divide 182 = .ok (.iload_n 3, 1) := by decide +kernel
theorem d_M_divide_183 : decode b_M_divide 183 = .ok (.iaload, 1) := by decide +kernel
theorem d_M_divide_184 : decode b_M_divide 184 = .ok (.aload_n 0, 1) := by decide +kernel
theorem d_M_divide_185 : decode b_M_divide 185 = .ok (.getfield 63, 3) := by decide +kernel
theorem d_M_divide_188 : decode b_M_divide 188 = .ok (.iload_n 3, 1) := by decide +kernel
theorem d_M_divide_189 : decode b_M_divide 189 = .ok (.iaload, 1) := by decide +kernel
theorem d_M_divide_190 : decode b_M_divide 190 = .ok (.if_icmp .eq 5, 3) := by decide +kernel
theorem d_M_divide_193 : decode b_M_divide 193 = .ok (.iconst 1, 1) := by decide +kernel
theorem d_M_divide_194 : decode b_M_divide 194 = .ok (.istore_n 2, 1) := by decide +kernel
theorem d_M_divide_195 : decode b_M_divide 195 = .ok (.iinc 3 1, 3) := by decide +kernel
theorem d_M_divide_198 : decode b_M_divide 198 = .ok (.goto (-25), 3) := by decide +kernel
theorem d_M_divide_201 : decode b_M_divide 201 = .ok (.iconst 0, 1) := by decide +kernel
theorem d_M_divide_202 : decode b_M_divide 202 = .ok (.istore_n 3, 1) := by decide +kernel
theorem d_M_divide_203 : decode b_M_divide 203 = .ok (.iload_n 3, 1) := by decide +kernel
theorem d_M_divide_204 : decode b_M_divide 204 = .ok (.iload_n 1, 1) := by decide +kernel
theorem d_M_divide_205 : decode b_M_divide 205 = .ok (.if_icmp .ge 21, 3) := by decide +kernel
theorem d_M_divide_208 : decode b_M_divide 208 = .ok (.aload_n 0, 1) := by decide +kernel
theorem d_M_divide_209 : decode b_M_divide 209 = .ok (.getfield 63, 3) := by decide +kernel
theorem d_M_divide_212 : decode b_M_divide 212 = .ok (.iload_n 3, 1) := by decide +kernel
theorem d_M_divide_213 : decode b_M_divide 213 = .ok (.aload_n 0, 1) := by decide +kernel
theorem d_M_divide_214 : decode b_M_divide 214 = .ok (.getfield 66, 3) := by decide +kernel
theorem d_M_divide_217 : decode b_M_divide 217 = .ok (.iload_n 3, 1) := by decide +kernel
theorem d_M_divide_218 : decode b_M_divide 218 = .ok (.iaload, 1) := by decide +kernel
theorem d_M_divide_219 : decode b_M_divide 219 = .ok (.iastore, 1) := by decide +kernel
theorem d_M_divide_220 : decode b_M_divide 220 = .ok (.iinc 3 1, 3) := by decide +kernel
theorem d_M_divide_223 : decode b_M_divide 223 = .ok (.goto (-20), 3) := by decide +kernel
theorem d_M_divide_226 : decode b_M_divide 226 = .ok (.goto (-148), 3) := by decide +kernel
theorem d_M_divide_229 : decode b_M_divide 229 = .ok (.return_, 1) := by decide +kernel
theorem d_M_begin_0 : decode b_M_begin 0 = .ok (.aload_n 0, 1) := by decide +kernel
theorem d_M_begin_1 : decode b_M_begin 1 = .ok (.iload_n 1, 1) := by decide +kernel
theorem d_M_begin_2 : decode b_M_begin 2 = .ok (.putfield 200, 3) := by decide +kernel
theorem d_M_begin_5 : decode b_M_begin 5 = .ok (.aload_n 0, 1) := by decide +kernel
theorem d_M_begin_6 : decode b_M_begin 6 = .ok (.iconst 0, 1) := by decide +kernel
theorem d_M_begin_7 : decode b_M_begin 7 = .ok (.putfield 203, 3) := by decide +kernel
theorem d_M_begin_10 : decode b_M_begin 10 = .ok (.aload_n 0, 1) := by decide +kernel
theorem d_M_begin_11 : decode b_M_begin 11 = .ok (.iconst 0, 1) := by decide +kernel
theorem d_M_begin_12 : decode b_M_begin 12 = .ok (.putfield 206, 3) := by decide +kernel
theorem d_M_begin_15 : decode b_M_begin 15 = .ok (.iconst 0, 1) := by decide +kernel
theorem d_M_begin_16 : decode b_M_begin 16 = .ok (.istore_n 2, 1) := by decide +kernel
theorem d_M_begin_17 : decode b_M_begin 17 = .ok (.iload_n 2, 1) := by decide +kernel
theorem d_M_begin_18 : decode b_M_begin 18 = .ok (.bipush 10, 2) := by decide +kernel
theorem d_M_begin_20 : decode b_M_begin 20 = .ok (.if_icmp .ge 16, 3) := by decide +kernel
theorem d_M_begin_23 : decode b_M_begin 23 = .ok (.aload_n 0, 1) := by decide +kernel
theorem d_M_begin_24 : decode b_M_begin 24 = .ok (.getfield 87, 3) := by decide +kernel
theorem d_M_begin_27 : decode b_M_begin 27 = .ok (.iload_n 2, 1) := by decide +kernel
theorem d_M_begin_28 : decode b_M_begin 28 = .ok (.iconst 0, 1) := by decide +kernel
theorem d_M_begin_29 : decode b_M_begin 29 = .ok (.iastore, 1) := by decide +kernel
theorem d_M_begin_30 : decode b_M_begin 30 = .ok (.iinc 2 1, 3) := by decide +kernel
theorem d_M_begin_33 : decode b_M_begin 33 = .ok (.goto (-16), 3) := by decide +kernel
theorem d_M_begin_36 : decode b_M_begin 36 = .ok (.return_, 1) := by decide +kernel
theorem d_M_compile_0 : decode b_M_compile 0 = .ok (.aload_n 0, 1) := by decide +kernel
theorem d_M_compile_1 : decode b_M_compile 1 = .ok (.invokevirtual 179, 3) := by decide +kernel
theorem d_M_compile_4 : decode b_M_compile 4 = .ok (.aload_n 0, 1) := by decide +kernel
theorem d_M_compile_5 : decode b_M_compile 5 = .ok (.getfield 128, 3) := by decide +kernel
theorem d_M_compile_8 : decode b_M_compile 8 = .ok (.ifCond .eq 9, 3) := by decide +kernel
theorem d_M_compile_11 : decode b_M_compile 11 = .ok (.aload_n 0, 1) := by decide +kernel
theorem d_M_compile_12 : decode b_M_compile 12 = .ok (.iconst 1, 1) := by decide +kernel
theorem d_M_compile_13 : decode b_M_compile 13 = .ok (.invokevirtual 100, 3) := by decide +kernel
theorem d_M_compile_16 : decode b_M_compile 16 = .ok (.ireturn, 1) := by decide +kernel
theorem d_M_compile_17 : decode b_M_compile 17 = .ok (.aload_n 0, 1) := by decide +kernel
theorem d_M_compile_18 : decode b_M_compile 18 = .ok (.invokevirtual 182, 3) := by decide +kernel
theorem d_M_compile_21 : decode b_M_compile 21 = .ok (.istore_n 1, 1) := by decide +kernel
theorem d_M_compile_22 : decode b_M_compile 22 = .ok (.iload_n 1, 1) := by decide +kernel
theorem d_M_compile_23 : decode b_M_compile 23 = .ok (.bipush 50, 2) := by decide +kernel
theorem d_M_compile_25 : decode b_M_compile 25 = .ok (.if_icmp .le 9, 3) := by decide +kernel
theorem d_M_compile_28 : decode b_M_compile 28 = .ok (.aload_n 0, 1) := by decide +kernel
theorem d_M_compile_29 : decode b_M_compile 29 = .ok (.iconst 2, 1) := by decide +kernel
theorem d_M_compile_30 : decode b_M_compile 30 = .ok (.invokevirtual 100, 3) := by decide +kernel
theorem d_M_compile_33 : decode b_M_compile 33 = .ok (.ireturn, 1) := by decide +kernel
theorem d_M_compile_34 : decode b_M_compile 34 = .ok (.aload_n 0, 1) := by decide +kernel
theorem d_M_compile_35 : decode b_M_compile 35 = .ok (.iconst 0, 1) := by decide +kernel
theorem d_M_compile_36 : decode b_M_compile 36 = .ok (.putfield 93, 3) := by decide +kernel
theorem d_M_compile_39 : decode b_M_compile 39 = .ok (.aload_n 0, 1) := by decide +kernel
theorem d_M_compile_40 : decode b_M_compile 40 = .ok (.iload_n 1, 1) := by decide +kernel
theorem d_M_compile_41 : decode b_M_compile 41 = .ok (.invokevirtual 185, 3) := by decide +kernel
theorem d_M_compile_44 : decode b_M_compile 44 = .ok (.aload_n 0, 1) := by decide +kernel
theorem d_M_compile_45 : decode b_M_compile 45 = .ok (.iload_n 1, 1) := by decide +kernel
theorem d_M_compile_46 : decode b_M_compile 46 = .ok (.invokevirtual 188, 3) := by decide +kernel
theorem d_M_compile_49 : decode b_M_compile 49 = .ok (.aload_n 0, 1) := by decide +kernel
theorem d_M_compile_50 : decode b_M_compile 50 = .ok (.iload_n 1, 1) := by decide +kernel
theorem d_M_compile_51 : decode b_M_compile 51 = .ok (.putfield 191, 3) := by decide +kernel
theorem d_M_compile_54 : decode b_M_compile 54 = .ok (.aload_n 0, 1) := by decide +kernel
theorem d_M_compile_55 : decode b_M_compile 55 = .ok (.aload_n 0, 1) := by decide +kernel
theorem d_M_compile_56 : decode b_M_compile 56 = .ok (.getfield 122, 3) := by decide +kernel
theorem d_M_compile_59 : decode b_M_compile 59 = .ok (.putfield 194, 3) := by decide +kernel
theorem d_M_compile_62 : decode b_M_compile 62 = .ok (.iconst 0, 1) := by decide +kernel
theorem d_M_compile_63 : decode b_M_compile 63 = .ok (.istore_n 2, 1) := by decide +kernel
theorem d_M_compile_64 : decode b_M_compile 64 = .ok (.iload_n 2, 1) := by decide +kernel
theorem d_M_compile_65 : decode b_M_compile 65 = .ok (.iconst 4, 1) := by decide +kernel
theorem d_M_compile_66 : decode b_M_compile 66 = .ok (.iload_n 1, 1) := by decide +kernel
theorem d_M_compile_67 : decode b_M_compile 67 = .ok (.imul, 1) := by decide +kernel
theorem d_M_compile_68 : decode b_M_compile 68 = .ok (.if_icmp .ge 46, 3) := by decide +kernel
theorem d_M_compile_71 : decode b_M_compile 71 = .ok (.aload_n 0, 1) := by decide +kernel
theorem d_M_compile_72 : decode b_M_compile 72 = .ok (.getfield 75, 3) := by decide +kernel
theorem d_M_compile_75 : decode b_M_compile 75 = .ok (.iload_n 2, 1) := by decide +kernel
theorem d_M_compile_76 : decode b_M_compile 76 = .ok (.aload_n 0, 1) := by decide +kernel
theorem d_M_compile_77 : decode b_M_compile 77 = .ok (.getfield 54, 3) := by decide +kernel
theorem d_M_compile_80 : decode b_M_compile 80 = .ok (.iload_n 2, 1) := by decide +kernel
theorem d_M_compile_81 : decode b_M_compile 81 = .ok (.iaload, 1) := by decide +kernel
theorem d_M_compile_82 : decode b_M_compile 82 = .ok (.iastore, 1) := by decide +kernel
theorem d_M_compile_83 : decode b_M_compile 83 = .ok (.aload_n 0, 1) := by decide +kernel
theorem d_M_compile_84 : decode b_M_compile 84 = .ok (.getfield 78, 3) := by decide +kernel
theorem d_M_compile_87 : decode b_M_compile 87 = .ok (.iload_n 2, 1) := by decide +kernel
theorem d_M_compile_88 : decode b_M_compile 88 = .ok (.aload_n 0, 1) := by decide +kernel
theorem d_M_compile_89 : decode b_M_compile 89 = .ok (.getfield 54, 3) := by decide +kernel
theorem d_M_compile_92 : decode b_M_compile 92 = .ok (.iload_n 2, 1) := by decide +kernel
theorem d_M_compile_93 : decode b_M_compile 93 = .ok (.iaload, 1) := by decide +kernel
theorem d_M_compile_94 : decode b_M_compile 94 = .ok (.ifCond .ge 7, 3) := by decide +kernel
theorem d_M_compile_97 : decode b_M_compile 97 = .ok (.iconst 0, 1) := by decide +kernel
theorem d_M_compile_98 : decode b_M_compile 98 = .ok (.goto 9, 3) := by decide +kernel
theorem d_M_compile_101 : decode b_M_compile 101 = .ok (.aload_n 0, 1) := by decide +kernel
theorem d_M_compile_102 : decode b_M_compile 102 = .ok (.getfield 57, 3) := by decide +kernel
theorem d_M_compile_105 : decode b_M_compile 105 = .ok (.iload_n 2, 1) := by decide +kernel
theorem d_M_compile_106 : decode b_M_compile 106 = .ok (.iaload, 1) := by decide +kernel
theorem d_M_compile_107 : decode b_M_compile 107 = .ok (.iastore, 1) := by decide +kernel
theorem d_M_compile_108 : decode b_M_compile 108 = .ok (.iinc 2 1, 3) := by decide +kernel
theorem d_M_compile_111 : decode b_M_compile 111 = .ok (.goto (-47), 3) := by decide +kernel
theorem d_M_compile_114 : decode b_M_compile 114 = .ok (.iconst 0, 1) := by decide +kernel
theorem d_M_compile_115 : decode b_M_compile 115 = .ok (.istore_n 2, 1) := by decide +kernel
theorem d_M_compile_116 : decode b_M_compile 116 = .ok (.iload_n 2, 1) := by decide +kernel
theorem d_M_compile_117 : decode b_M_compile 117 = .ok (.iload_n 1, 1) := by decide +kernel
theorem d_M_compile_118 : decode b_M_compile 118 = .ok (.if_icmp .ge 89, 3) := by decide +kernel
theorem d_M_compile_121 : decode b_M_compile 121 = .ok (.aload_n 0, 1) := by decide +kernel
theorem d_M_compile_122 : decode b_M_compile 122 = .ok (.getfield 90, 3) := by decide +kernel
theorem d_M_compile_125 : decode b_M_compile 125 = .ok (.iload_n 2, 1) := by decide +kernel
theorem d_M_compile_126 : decode b_M_compile 126 = .ok (.aload_n 0, 1) := by decide +kernel
theorem d_M_compile_127 : decode b_M_compile 127 = .ok (.getfield 69, 3) := by decide +kernel
theorem d_M_compile_130 : decode b_M_compile 130 = .ok (.iload_n 2, 1) := by decide +kernel
theorem d_M_compile_131 : decode b_M_compile 131 = .ok (.baload, 1) := by decide +kernel
theorem d_M_compile_132 : decode b_M_compile 132 = .ok (.bastore, 1) := by decide +kernel
theorem d_M_compile_133 : decode b_M_compile 133 = .ok (.aload_n 0, 1) := by decide +kernel
theorem d_M_compile_134 : decode b_M_compile 134 = .ok (.getfield 81, 3) := by decide +kernel
theorem d_M_compile_137 : decode b_M_compile 137 = .ok (.iload_n 2, 1) := by decide +kernel
theorem d_M_compile_138 : decode b_M_compile 138 = .ok (.aload_n 0, 1) := by decide +kernel
theorem d_M_compile_139 : decode b_M_compile 139 = .ok (.getfield 60, 3) := by decide +kernel
theorem d_M_compile_142 : decode b_M_compile 142 = .ok (.iload_n 2, 1) := by decide +kernel
theorem d_M_compile_143 : decode b_M_compile 143 = .ok (.iaload, 1) := by decide +kernel
theorem d_M_compile_144 : decode b_M_compile 144 = .ok (.iastore, 1) := by decide +kernel
theorem d_M_compile_145 : decode b_M_compile 145 = .ok (.aload_n 0, 1) := by decide +kernel
theorem d_M_compile_146 : decode b_M_compile 146 = .ok (.getfield 84, 3) := by decide +kernel
theorem d_M_compile_149 : decode b_M_compile 149 = .ok (.iload_n 2, 1) := by decide +kernel
theorem d_M_compile_150 : decode b_M_compile 150 = .ok (.aload_n 0, 1) := by decide +kernel
theorem d_M_compile_151 : decode b_M_compile 151 = .ok (.getfield 63, 3) := by decide +kernel
theorem d_M_compile_154 : decode b_M_compile 154 = .ok (.iload_n 2, 1) := by decide +kernel
theorem d_M_compile_155 : decode b_M_compile 155 = .ok (.iaload, 1) := by decide +kernel
theorem d_M_compile_156 : decode b_M_compile 156 = .ok (.iastore, 1) := by decide +kernel
theorem d_M_compile_157 : decode b_M_compile 157 = .ok (.aload_n 0, 1) := by decide +kernel
theorem d_M_compile_158 : decode b_M_compile 158 = .ok (.getfield 72, 3) := by decide +kernel
theorem d_M_compile_161 : decode b_M_compile 161 = .ok (.iload_n 2, 1) := by decide +kernel
theorem d_M_compile_162 : decode b_M_compile 162 = .ok (.iconst 0, 1) := by decide +kernel
theorem d_M_compile_163 : decode b_M_compile 163 = .ok (.iastore, 1) := by decide +kernel
theorem d_M_compile_164 : decode b_M_compile 164 = .ok (.iconst 0, 1) := by decide +kernel
theorem d_M_compile_165 : decode b_M_compile 165 = .ok (.istore_n 3, 1) := by decide +kernel
theorem d_M_compile_166 : decode b_M_compile 166 = .ok (.iload_n 3, 1) := by decide +kernel
theorem d_M_compile_167 : decode b_M_compile 167 = .ok (.bipush 30, 2) := by decide +kernel
theorem d_M_compile_169 : decode b_M_compile 169 = .ok (.if_icmp .ge 32, 3) := by decide +kernel
theorem d_M_compile_172 : decode b_M_compile 172 = .ok (.aload_n 0, 1) := by decide +kernel
theorem d_M_compile_173 : decode b_M_compile 173 = .ok (.getfield 51, 3) := by decide +kernel
theorem d_M_compile_176 : decode b_M_compile 176 = .ok (.iload_n 2, 1) := by decide +kernel
theorem d_M_compile_177 : decode b_M_compile 177 = .ok (.iaload, 1) := by decide +kernel
theorem d_M_compile_178 : decode b_M_compile 178 = .ok (.iload_n 3, 1) := by decide +kernel
theorem d_M_compile_179 : decode b_M_compile 179 = .ok (.invokestatic 107, 3) := by decide +kernel
theorem d_M_compile_182 : decode b_M_compile 182 = .ok (.ifCond .eq 13, 3) := by decide +kernel
theorem d_M_compile_185 : decode b_M_compile 185 = .ok (.aload_n 0, 1) := by decide +kernel
theorem d_M_compile_186 : decode b_M_compile 186 = .ok (.getfield 72, 3) := by decide +kernel
theorem d_M_compile_189 : decode b_M_compile 189 = .ok (.iload_n 2, 1) := by decide +kernel
theorem d_M_compile_190 : decode b_M_compile 190 = .ok (.dup2, 1) := by decide +kernel
theorem d_M_compile_191 : decode b_M_compile 191 = .ok (.iaload, 1) := by decide +kernel
theorem d_M_compile_192 : decode b_M_compile 192 = .ok (.iconst 1, 1) := by decide +kernel
theorem d_M_compile_193 : decode b_M_compile 193 = .ok (.iadd, 1) := by decide +kernel
theorem d_M_compile_194 : decode b_M_compile 194 = .ok (.iastore, 1) := by decide +kernel
theorem d_M_compile_195 : decode b_M_compile 195 = .ok (.iinc 3 1, 3) := by decide +kernel
theorem d_M_compile_198 : decode b_M_compile 198 = .ok (.goto (-32), 3) := by decide +kernel
theorem d_M_compile_201 : decode b_M_compile 201 = .ok (.iinc 2 1, 3) := by decide +kernel
theorem d_M_compile_204 : decode b_M_compile 204 = .ok (.goto (-88), 3) := by decide +kernel
theorem d_M_compile_207 : decode b_M_compile 207 = .ok (.aload_n 0, 1) := by decide +kernel
theorem d_M_compile_208 : decode b_M_compile 208 = .ok (.iconst 0, 1) := by decide +kernel
theorem d_M_compile_209 : decode b_M_compile 209 = .ok (.invokevirtual 197, 3) := by decide +kernel
theorem d_M_compile_212 : decode b_M_compile 212 = .ok (.iload_n 1, 1) := by decide +kernel
theorem d_M_compile_213 : decode b_M_compile 213 = .ok (.ireturn, 1) := by decide +kernel
