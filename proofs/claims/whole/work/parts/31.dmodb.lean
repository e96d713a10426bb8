abbrev b_M_behind : ByteArray := prog_8_method_11_code
def y_M_behind : MethodName := ⟨RX6, "behind", "(II)V"⟩
def ws_M_behind : List Cond := .code y_M_behind b_M_behind 4 (Option.none : Option FieldType) :: tb9
theorem hs_M_behind : y_M_behind.cls ≠ "java/lang/invoke/MethodHandle" ∧ y_M_behind.cls ≠ "java/lang/invoke/VarHandle" ∧ (parseMethodDescriptor y_M_behind.desc).map (fun d => d.parameters.length) = some 2 := by decide +kernel
theorem hv_M_behind : y_M_behind.cls = RX6 ∧ y_M_behind.cls ≠ "java/lang/invoke/MethodHandle" ∧ y_M_behind.cls ≠ "java/lang/invoke/VarHandle" ∧ (parseMethodDescriptor y_M_behind.desc).map (fun d => d.parameters.length) = some 2 := ⟨rfl, hs_M_behind⟩
abbrev b_M_beside : ByteArray := prog_8_method_12_code
def y_M_beside : MethodName := ⟨RX6, "beside", "(II)V"⟩
def ws_M_beside : List Cond := .code y_M_beside b_M_beside 3 (Option.none : Option FieldType) :: tb9
theorem hs_M_beside : y_M_beside.cls ≠ "java/lang/invoke/MethodHandle" ∧ y_M_beside.cls ≠ "java/lang/invoke/VarHandle" ∧ (parseMethodDescriptor y_M_beside.desc).map (fun d => d.parameters.length) = some 2 := by decide +kernel
theorem hv_M_beside : y_M_beside.cls = RX6 ∧ y_M_beside.cls ≠ "java/lang/invoke/MethodHandle" ∧ y_M_beside.cls ≠ "java/lang/invoke/VarHandle" ∧ (parseMethodDescriptor y_M_beside.desc).map (fun d => d.parameters.length) = some 2 := ⟨rfl, hs_M_beside⟩
abbrev b_M_position : ByteArray := prog_8_method_13_code
def y_M_position : MethodName := ⟨RX6, "position", "(II)V"⟩
def ws_M_position : List Cond := .code y_M_position b_M_position 4 (Option.none : Option FieldType) :: tb9
theorem hs_M_position : y_M_position.cls ≠ "java/lang/invoke/MethodHandle" ∧ y_M_position.cls ≠ "java/lang/invoke/VarHandle" ∧ (parseMethodDescriptor y_M_position.desc).map (fun d => d.parameters.length) = some 2 := by decide +kernel
theorem hv_M_position : y_M_position.cls = RX6 ∧ y_M_position.cls ≠ "java/lang/invoke/MethodHandle" ∧ y_M_position.cls ≠ "java/lang/invoke/VarHandle" ∧ (parseMethodDescriptor y_M_position.desc).map (fun d => d.parameters.length) = some 2 := ⟨rfl, hs_M_position⟩
abbrev b_M_repeat : ByteArray := prog_8_method_14_code
def y_M_repeat : MethodName := ⟨RX6, "repeat", "(II)V"⟩
def ws_M_repeat : List Cond := .code y_M_repeat b_M_repeat 3 (Option.none : Option FieldType) :: tb9
theorem hs_M_repeat : y_M_repeat.cls ≠ "java/lang/invoke/MethodHandle" ∧ y_M_repeat.cls ≠ "java/lang/invoke/VarHandle" ∧ (parseMethodDescriptor y_M_repeat.desc).map (fun d => d.parameters.length) = some 2 := by decide +kernel
theorem hv_M_repeat : y_M_repeat.cls = RX6 ∧ y_M_repeat.cls ≠ "java/lang/invoke/MethodHandle" ∧ y_M_repeat.cls ≠ "java/lang/invoke/VarHandle" ∧ (parseMethodDescriptor y_M_repeat.desc).map (fun d => d.parameters.length) = some 2 := ⟨rfl, hs_M_repeat⟩
abbrev b_M_act : ByteArray := prog_8_method_15_code
def y_M_act : MethodName := ⟨RX6, "act", "(III)V"⟩
def ws_M_act : List Cond := .code y_M_act b_M_act 7 (Option.none : Option FieldType) :: tb9
theorem hs_M_act : y_M_act.cls ≠ "java/lang/invoke/MethodHandle" ∧ y_M_act.cls ≠ "java/lang/invoke/VarHandle" ∧ (parseMethodDescriptor y_M_act.desc).map (fun d => d.parameters.length) = some 3 := by decide +kernel
theorem hv_M_act : y_M_act.cls = RX6 ∧ y_M_act.cls ≠ "java/lang/invoke/MethodHandle" ∧ y_M_act.cls ≠ "java/lang/invoke/VarHandle" ∧ (parseMethodDescriptor y_M_act.desc).map (fun d => d.parameters.length) = some 3 := ⟨rfl, hs_M_act⟩
abbrev b_M_bits : ByteArray := prog_8_method_19_code
def y_M_bits : MethodName := ⟨RX6, "bits", "()I"⟩
def ws_M_bits : List Cond := .code y_M_bits b_M_bits 3 (Option.some FieldType.int) :: tb9
theorem hs_M_bits : y_M_bits.cls ≠ "java/lang/invoke/MethodHandle" ∧ y_M_bits.cls ≠ "java/lang/invoke/VarHandle" ∧ (parseMethodDescriptor y_M_bits.desc).map (fun d => d.parameters.length) = some 0 := by decide +kernel
theorem hv_M_bits : y_M_bits.cls = RX6 ∧ y_M_bits.cls ≠ "java/lang/invoke/MethodHandle" ∧ y_M_bits.cls ≠ "java/lang/invoke/VarHandle" ∧ (parseMethodDescriptor y_M_bits.desc).map (fun d => d.parameters.length) = some 0 := ⟨rfl, hs_M_bits⟩
abbrev b_M_suffix : ByteArray := prog_8_method_20_code
def y_M_suffix : MethodName := ⟨RX6, "suffix", "(I)V"⟩
def ws_M_suffix : List Cond := .code y_M_suffix b_M_suffix 3 (Option.none : Option FieldType) :: tb9
theorem hs_M_suffix : y_M_suffix.cls ≠ "java/lang/invoke/MethodHandle" ∧ y_M_suffix.cls ≠ "java/lang/invoke/VarHandle" ∧ (parseMethodDescriptor y_M_suffix.desc).map (fun d => d.parameters.length) = some 1 := by decide +kernel
theorem hv_M_suffix : y_M_suffix.cls = RX6 ∧ y_M_suffix.cls ≠ "java/lang/invoke/MethodHandle" ∧ y_M_suffix.cls ≠ "java/lang/invoke/VarHandle" ∧ (parseMethodDescriptor y_M_suffix.desc).map (fun d => d.parameters.length) = some 1 := ⟨rfl, hs_M_suffix⟩
theorem k_29 : (.selects RX6 y_M_here y_M_here : Cond) ∈ tb9 := List.mem_filter.mpr ⟨List.mem_of_getElem? (i := 29) (by decide +kernel), by decide +kernel⟩
theorem k_30 : (.selects RX6 y_M_wrong y_M_wrong : Cond) ∈ tb9 := List.mem_filter.mpr ⟨List.mem_of_getElem? (i := 30) (by decide +kernel), by decide +kernel⟩
theorem k_32 : (.selects RX6 y_M_copy y_M_copy : Cond) ∈ tb9 := List.mem_filter.mpr ⟨List.mem_of_getElem? (i := 32) (by decide +kernel), by decide +kernel⟩
theorem k_33 : (.selects RX6 y_M_link y_M_link : Cond) ∈ tb9 := List.mem_filter.mpr ⟨List.mem_of_getElem? (i := 33) (by decide +kernel), by decide +kernel⟩
theorem k_34 : (.selects RX6 y_M_more y_M_more : Cond) ∈ tb9 := List.mem_filter.mpr ⟨List.mem_of_getElem? (i := 34) (by decide +kernel), by decide +kernel⟩
theorem k_38 : (.selects RX6 y_M_repeat y_M_repeat : Cond) ∈ tb9 := List.mem_filter.mpr ⟨List.mem_of_getElem? (i := 38) (by decide +kernel), by decide +kernel⟩
theorem k_39 : (.selects RX6 y_M_act y_M_act : Cond) ∈ tb9 := List.mem_filter.mpr ⟨List.mem_of_getElem? (i := 39) (by decide +kernel), by decide +kernel⟩
theorem k_943 : (.fieldLink RX6 122 "EmbedForgeModel" "many" "I" : Cond) ∈ tb9 := List.mem_filter.mpr ⟨List.mem_of_getElem? (i := 943) (by decide +kernel), by decide +kernel⟩
theorem k_953 : (.fieldLink RX6 42 "EmbedForgeModel" "letters" "[I" : Cond) ∈ tb9 := List.mem_filter.mpr ⟨List.mem_of_getElem? (i := 953) (by decide +kernel), by decide +kernel⟩
theorem k_1080 : (.methodLink RX6 132 y_M_here : Cond) ∈ tb9 := List.mem_filter.mpr ⟨List.mem_of_getElem? (i := 1080) (by decide +kernel), by decide +kernel⟩
theorem k_1082 : (.instanceMethod y_M_here : Cond) ∈ tb9 := List.mem_filter.mpr ⟨List.mem_of_getElem? (i := 1082) (by decide +kernel), by decide +kernel⟩
theorem k_1083 : (.code y_M_here b_M_here 1 (Option.some FieldType.int) : Cond) ∈ tb9 := List.mem_filter.mpr ⟨List.mem_of_getElem? (i := 1083) (by decide +kernel), by decide +kernel⟩
theorem k_1087 : (.methodLink RX6 136 y_M_wrong : Cond) ∈ tb9 := List.mem_filter.mpr ⟨List.mem_of_getElem? (i := 1087) (by decide +kernel), by decide +kernel⟩
theorem k_1089 : (.instanceMethod y_M_wrong : Cond) ∈ tb9 := List.mem_filter.mpr ⟨List.mem_of_getElem? (i := 1089) (by decide +kernel), by decide +kernel⟩
theorem k_1090 : (.code y_M_wrong b_M_wrong 1 (Option.none : Option FieldType) : Cond) ∈ tb9 := List.mem_filter.mpr ⟨List.mem_of_getElem? (i := 1090) (by decide +kernel), by decide +kernel⟩
theorem k_1095 : (.methodLink RX6 111 y_M_copy : Cond) ∈ tb9 := List.mem_filter.mpr ⟨List.mem_of_getElem? (i := 1095) (by decide +kernel), by decide +kernel⟩
theorem k_1097 : (.instanceMethod y_M_copy : Cond) ∈ tb9 := List.mem_filter.mpr ⟨List.mem_of_getElem? (i := 1097) (by decide +kernel), by decide +kernel⟩
theorem k_1098 : (.code y_M_copy b_M_copy 4 (Option.none : Option FieldType) : Cond) ∈ tb9 := List.mem_filter.mpr ⟨List.mem_of_getElem? (i := 1098) (by decide +kernel), by decide +kernel⟩
theorem k_1099 : (.methodLink RX6 115 y_M_link : Cond) ∈ tb9 := List.mem_filter.mpr ⟨List.mem_of_getElem? (i := 1099) (by decide +kernel), by decide +kernel⟩
theorem k_1101 : (.instanceMethod y_M_link : Cond) ∈ tb9 := List.mem_filter.mpr ⟨List.mem_of_getElem? (i := 1101) (by decide +kernel), by decide +kernel⟩
theorem k_1102 : (.code y_M_link b_M_link 5 (Option.none : Option FieldType) : Cond) ∈ tb9 := List.mem_filter.mpr ⟨List.mem_of_getElem? (i := 1102) (by decide +kernel), by decide +kernel⟩
theorem k_1106 : (.methodLink RX6 118 y_M_more : Cond) ∈ tb9 := List.mem_filter.mpr ⟨List.mem_of_getElem? (i := 1106) (by decide +kernel), by decide +kernel⟩
theorem k_1108 : (.instanceMethod y_M_more : Cond) ∈ tb9 := List.mem_filter.mpr ⟨List.mem_of_getElem? (i := 1108) (by decide +kernel), by decide +kernel⟩
theorem k_1109 : (.code y_M_more b_M_more 7 (Option.none : Option FieldType) : Cond) ∈ tb9 := List.mem_filter.mpr ⟨List.mem_of_getElem? (i := 1109) (by decide +kernel), by decide +kernel⟩
theorem k_1125 : (.methodLink RX6 139 y_M_repeat : Cond) ∈ tb9 := List.mem_filter.mpr ⟨List.mem_of_getElem? (i := 1125) (by decide +kernel), by decide +kernel⟩
theorem k_1127 : (.instanceMethod y_M_repeat : Cond) ∈ tb9 := List.mem_filter.mpr ⟨List.mem_of_getElem? (i := 1127) (by decide +kernel), by decide +kernel⟩
theorem k_1128 : (.code y_M_repeat b_M_repeat 3 (Option.none : Option FieldType) : Cond) ∈ tb9 := List.mem_filter.mpr ⟨List.mem_of_getElem? (i := 1128) (by decide +kernel), by decide +kernel⟩
theorem k_1129 : (.methodLink RX6 142 y_M_act : Cond) ∈ tb9 := List.mem_filter.mpr ⟨List.mem_of_getElem? (i := 1129) (by decide +kernel), by decide +kernel⟩
theorem k_1131 : (.instanceMethod y_M_act : Cond) ∈ tb9 := List.mem_filter.mpr ⟨List.mem_of_getElem? (i := 1131) (by decide +kernel), by decide +kernel⟩
theorem k_1132 : (.code y_M_act b_M_act 7 (Option.none : Option FieldType) : Cond) ∈ tb9 := List.mem_filter.mpr ⟨List.mem_of_getElem? (i := 1132) (by decide +kernel), by decide +kernel⟩
theorem d_M_behind_0 : decode b_M_behind 0 = .ok (.aload_n 0, 1) := by decide +kernel
theorem d_M_behind_1 : decode b_M_behind 1 = .ok (.getfield 17, 3) := by decide +kernel
theorem d_M_behind_4 : decode b_M_behind 4 = .ok (.iload_n 1, 1) := by decide +kernel
theorem d_M_behind_5 : decode b_M_behind 5 = .ok (.baload, 1) := by decide +kernel
theorem d_M_behind_6 : decode b_M_behind 6 = .ok (.ifCond .ne 10, 3) := by decide +kernel
theorem d_M_behind_9 : decode b_M_behind 9 = .ok (.aload_n 0, 1) := by decide +kernel
theorem d_M_behind_10 : decode b_M_behind 10 = .ok (.iload_n 1, 1) := by decide +kernel
theorem d_M_behind_11 : decode b_M_behind 11 = .ok (.iload_n 2, 1) := by decide +kernel
theorem d_M_behind_12 : decode b_M_behind 12 = .ok (.invokevirtual 111, 3) := by decide +kernel
theorem d_M_behind_15 : decode b_M_behind 15 = .ok (.return_, 1) := by decide +kernel
theorem d_M_behind_16 : decode b_M_behind 16 = .ok (.aload_n 0, 1) := by decide +kernel
theorem d_M_behind_17 : decode b_M_behind 17 = .ok (.iload_n 1, 1) := by decide +kernel
theorem d_M_behind_18 : decode b_M_behind 18 = .ok (.iload_n 2, 1) := by decide +kernel
theorem d_M_behind_19 : decode b_M_behind 19 = .ok (.invokevirtual 115, 3) := by decide +kernel
theorem d_M_behind_22 : decode b_M_behind 22 = .ok (.aload_n 0, 1) := by decide +kernel
theorem d_M_behind_23 : decode b_M_behind 23 = .ok (.getfield 21, 3) := by decide +kernel
theorem d_M_behind_26 : decode b_M_behind 26 = .ok (.iload_n 1, 1) := by decide +kernel
theorem d_M_behind_27 : decode b_M_behind 27 = .ok (.baload, 1) := by decide +kernel
theorem d_M_behind_28 : decode b_M_behind 28 = .ok (.ifCond .eq 16, 3) := by decide +kernel
theorem d_M_behind_31 : decode b_M_behind 31 = .ok (.aload_n 0, 1) := by decide +kernel
theorem d_M_behind_32 : decode b_M_behind 32 = .ok (.iload_n 1, 1) := by decide +kernel
theorem d_M_behind_33 : decode b_M_behind 33 = .ok (.iload_n 2, 1) := by decide +kernel
theorem d_M_behind_34 : decode b_M_behind 34 = .ok (.iconst 1, 1) := by decide +kernel
theorem d_M_behind_35 : decode b_M_behind 35 = .ok (.aload_n 0, 1) := by decide +kernel
theorem d_M_behind_36 : decode b_M_behind 36 = .ok (.getfield 27, 3) := by decide +kernel
theorem d_M_behind_39 : decode b_M_behind 39 = .ok (.iload_n 1, 1) := by decide +kernel
theorem d_M_behind_40 : decode b_M_behind 40 = .ok (.iaload, 1) := by decide +kernel
theorem d_M_behind_41 : decode b_M_behind 41 = .ok (.invokevirtual 118, 3) := by decide +kernel
theorem d_M_behind_44 : decode b_M_behind 44 = .ok (.aload_n 0, 1) := by decide +kernel
theorem d_M_behind_45 : decode b_M_behind 45 = .ok (.getfield 21, 3) := by decide +kernel
theorem d_M_behind_48 : decode b_M_behind 48 = .ok (.iload_n 2, 1) := by decide +kernel
theorem d_M_behind_49 : decode b_M_behind 49 = .ok (.baload, 1) := by decide +kernel
theorem d_M_behind_50 : decode b_M_behind 50 = .ok (.ifCond .eq 53, 3) := by decide +kernel
theorem d_M_behind_53 : decode b_M_behind 53 = .ok (.iconst 0, 1) := by decide +kernel
theorem d_M_behind_54 : decode b_M_behind 54 = .ok (.istore_n 3, 1) := by decide +kernel
theorem d_M_behind_55 : decode b_M_behind 55 = .ok (.iload_n 3, 1) := by decide +kernel
theorem d_M_behind_56 : decode b_M_behind 56 = .ok (.bipush 30, 2) := by decide +kernel
theorem d_M_behind_58 : decode b_M_behind 58 = .ok (.if_icmp .ge 42, 3) := by decide +kernel
theorem d_M_behind_61 : decode b_M_behind 61 = .ok (.aload_n 0, 1) := by decide +kernel
theorem d_M_behind_62 : decode b_M_behind 62 = .ok (.getfield 33, 3) := by decide +kernel
theorem d_M_behind_65 : decode b_M_behind 65 = .ok (.iload_n 1, 1) := by decide +kernel
theorem d_M_behind_66 : decode b_M_behind 66 = .ok (.iaload, 1) := by decide +kernel
theorem d_M_behind_67 : decode b_M_behind 67 = .ok (.iload_n 3, 1) := by decide +kernel
theorem d_M_behind_68 : decode b_M_behind 68 = .ok (.invokestatic 107, 3) := by decide +kernel
theorem d_M_behind_71 : decode b_M_behind 71 = .ok (.ifCond .eq 23, 3) := by decide +kernel
theorem d_M_behind_74 : decode b_M_behind 74 = .ok (.aload_n 0, 1) := by decide +kernel
theorem d_M_behind_75 : decode b_M_behind 75 = .ok (.getfield 39, 3) := by decide +kernel
theorem d_M_behind_78 : decode b_M_behind 78 = .ok (.bipush 30, 2) := by decide +kernel
theorem d_M_behind_80 : decode b_M_behind 80 = .ok (.iload_n 1, 1) := by decide +kernel
theorem d_M_behind_81 : decode b_M_behind 81 = .ok (.imul, 1) := by decide +kernel
theorem d_M_behind_82 : decode b_M_behind 82 = .ok (.iload_n 3, 1) := by decide +kernel
theorem d_M_behind_83 : decode b_M_behind 83 = .ok (.iadd, 1) := by decide +kernel
theorem d_M_behind_84 : decode b_M_behind 84 = .ok (.dup2, 1) := by decide +kernel
theorem d_M_behind_85 : decode b_M_behind 85 = .ok (.iaload, 1) := by decide +kernel
theorem d_M_behind_86 : decode b_M_behind 86 = .ok (.aload_n 0, 1) := by decide +kernel
theorem d_M_behind_87 : decode b_M_behind 87 = .ok (.getfield 27, 3) := by decide +kernel
theorem d_M_behind_90 : decode b_M_behind 90 = .ok (.iload_n 2, 1) := by decide +kernel
theorem d_M_behind_91 : decode b_M_behind 91 = .ok (.iaload, 1) := by decide +kernel
theorem d_M_behind_92 : decode b_M_behind 92 = .ok (.ior, 1) := by decide +kernel
theorem d_M_behind_93 : decode b_M_behind 93 = .ok (.iastore, 1) := by decide +kernel
theorem d_M_behind_94 : decode b_M_behind 94 = .ok (.iinc 3 1, 3) := by decide +kernel
theorem d_M_behind_97 : decode b_M_behind 97 = .ok (.goto (-42), 3) := by decide +kernel
theorem d_M_behind_100 : decode b_M_behind 100 = .ok (.goto 10, 3) := by decide +kernel
theorem d_M_behind_103 : decode b_M_behind 103 = .ok (.aload_n 0, 1) := by decide +kernel
theorem d_M_behind_104 : decode b_M_behind 104 = .ok (.getfield 33, 3) := by decide +kernel
theorem d_M_behind_107 : decode b_M_behind 107 = .ok (.iload_n 1, 1) := by decide +kernel
theorem d_M_behind_108 : decode b_M_behind 108 = .ok (.iconst 0, 1) := by decide +kernel
theorem d_M_behind_109 : decode b_M_behind 109 = .ok (.iastore, 1) := by decide +kernel
theorem d_M_behind_110 : decode b_M_behind 110 = .ok (.aload_n 0, 1) := by decide +kernel
theorem d_M_behind_111 : decode b_M_behind 111 = .ok (.iload_n 1, 1) := by decide +kernel
theorem d_M_behind_112 : decode b_M_behind 112 = .ok (.iload_n 2, 1) := by decide +kernel
theorem d_M_behind_113 : decode b_M_behind 113 = .ok (.iconst 0, 1) := by decide +kernel
theorem d_M_behind_114 : decode b_M_behind 114 = .ok (.iconst 0, 1) := by decide +kernel
theorem d_M_behind_115 : decode b_M_behind 115 = .ok (.invokevirtual 118, 3) := by decide +kernel
theorem d_M_behind_118 : decode b_M_behind 118 = .ok (.aload_n 0, 1) := by decide +kernel
theorem d_M_behind_119 : decode b_M_behind 119 = .ok (.getfield 21, 3) := by decide +kernel
theorem d_M_behind_122 : decode b_M_behind 122 = .ok (.iload_n 1, 1) := by decide +kernel
theorem d_M_behind_123 : decode b_M_behind 123 = .ok (.aload_n 0, 1) := by decide +kernel
theorem d_M_behind_124 : decode b_M_behind 124 = .ok (.getfield 21, 3) := by decide +kernel
theorem d_M_behind_127 : decode b_M_behind 127 = .ok (.iload_n 1, 1) := by decide +kernel
theorem d_M_behind_128 : decode b_M_behind 128 = .ok (.baload, 1) := by decide +kernel
theorem d_M_behind_129 : decode b_M_behind 129 = .ok (.ifCond .eq 16, 3) := by decide +kernel
theorem d_M_behind_132 : decode b_M_behind 132 = .ok (.aload_n 0, 1) := by decide +kernel
theorem d_M_behind_133 : decode b_M_behind 133 = .ok (.getfield 21, 3) := by decide +kernel
theorem d_M_behind_136 : decode b_M_behind 136 = .ok (.iload_n 2, 1) := by decide +kernel
theorem d_M_behind_137 : decode b_M_behind 137 = .ok (.baload, 1) := by decide +kernel
theorem d_M_behind_138 : decode b_M_behind 138 = .ok (.ifCond .eq 7, 3) := by decide +kernel
theorem d_M_behind_141 : decode b_M_behind 141 = .ok (.iconst 1, 1) := by decide +kernel
theorem d_M_behind_142 : decode b_M_behind 142 = .ok (.goto 4, 3) := by decide +kernel
theorem d_M_behind_145 : decode b_M_behind 145 = .ok (.iconst 0, 1) := by decide +kernel
theorem d_M_behind_146 : decode b_M_behind 146 = .ok (.bastore, 1) := by decide +kernel
theorem d_M_behind_147 : decode b_M_behind 147 = .ok (.aload_n 0, 1) := by decide +kernel
theorem d_M_behind_148 : decode b_M_behind 148 = .ok (.getfield 27, 3) := by decide +kernel
theorem d_M_behind_151 : decode b_M_behind 151 = .ok (.iload_n 1, 1) := by decide +kernel
theorem d_M_behind_152 : decode b_M_behind 152 = .ok (.aload_n 0, 1) := by decide +kernel
theorem d_M_behind_153 : decode b_M_behind 153 = .ok (.getfield 21, 3) := by decide +kernel
theorem d_M_behind_156 : decode b_M_behind 156 = .ok (.iload_n 1, 1) := by decide +kernel
theorem d_M_behind_157 : decode b_M_behind 157 = .ok (.baload, 1) := by decide +kernel
theorem d_M_behind_158 : decode b_M_behind 158 = .ok (.ifCond .eq 19, 3) := by decide +kernel
theorem d_M_behind_161 : decode b_M_behind 161 = .ok (.aload_n 0, 1) := by decide +kernel
theorem d_M_behind_162 : decode b_M_behind 162 = .ok (.getfield 27, 3) := by decide +kernel
theorem d_M_behind_165 : decode b_M_behind 165 = .ok (.iload_n 1, 1) := by decide +kernel
theorem d_M_behind_166 : decode b_M_behind 166 = .ok (.iaload, 1) := by decide +kernel
theorem d_M_behind_167 : decode b_M_behind 167 = .ok (.aload_n 0, 1) := by decide +kernel
theorem d_M_behind_168 : decode b_M_behind 168 = .ok (.getfield 27, 3) := by decide +kernel
theorem d_M_behind_171 : decode b_M_behind 171 = .ok (.iload_n 2, 1) := by decide +kernel
theorem d_M_behind_172 : decode b_M_behind 172 = .ok (.iaload, 1) := by decide +kernel
theorem d_M_behind_173 : decode b_M_behind 173 = .ok (.ior, 1) := by decide +kernel
theorem d_M_behind_174 : decode b_M_behind 174 = .ok (.goto 4, 3) := by decide +kernel
theorem d_M_behind_177 : decode b_M_behind 177 = .ok (.iconst 0, 1) := by decide +kernel
theorem d_M_behind_178 : decode b_M_behind 178 = .ok (.iastore, 1) := by decide +kernel
theorem d_M_behind_179 : decode b_M_behind 179 = .ok (.aload_n 0, 1) := by decide +kernel
theorem d_M_behind_180 : decode b_M_behind 180 = .ok (.getfield 17, 3) := by decide +kernel
theorem d_M_behind_183 : decode b_M_behind 183 = .ok (.iload_n 2, 1) := by decide +kernel
theorem d_M_behind_184 : decode b_M_behind 184 = .ok (.iconst 0, 1) := by decide +kernel
theorem d_M_behind_185 : decode b_M_behind 185 = .ok (.bastore, 1) := by decide +kernel
theorem d_M_behind_186 : decode b_M_behind 186 = .ok (.return_, 1) := by decide +kernel
theorem d_M_beside_0 : decode b_M_beside 0 = .ok (.aload_n 0, 1) := by decide +kernel
theorem d_M_beside_1 : decode b_M_beside 1 = .ok (.getfield 17, 3) := by decide +kernel
theorem d_M_beside_4 : decode b_M_beside 4 = .ok (.iload_n 1, 1) := by decide +kernel
theorem d_M_beside_5 : decode b_M_beside 5 = .ok (.baload, 1) := by decide +kernel
theorem d_M_beside_6 : decode b_M_beside 6 = .ok (.ifCond .ne 10, 3) := by decide +kernel
theorem d_M_beside_9 : decode b_M_beside 9 = .ok (.aload_n 0, 1) := by decide +kernel
theorem d_M_beside_10 : decode b_M_beside 10 = .ok (.iload_n 1, 1) := by decide +kernel
theorem d_M_beside_11 : decode b_M_beside 11 = .ok (.iload_n 2, 1) := by decide +kernel
theorem d_M_beside_12 : decode b_M_beside 12 = .ok (.invokevirtual 111, 3) := by decide +kernel
theorem d_M_beside_15 : decode b_M_beside 15 = .ok (.return_, 1) := by decide +kernel
theorem d_M_beside_16 : decode b_M_beside 16 = .ok (.aload_n 0, 1) := by decide +kernel
theorem d_M_beside_17 : decode b_M_beside 17 = .ok (.iload_n 1, 1) := by decide +kernel
theorem d_M_beside_18 : decode b_M_beside 18 = .ok (.iload_n 2, 1) := by decide +kernel
theorem d_M_beside_19 : decode b_M_beside 19 = .ok (.iconst 1, 1) := by decide +kernel
theorem d_M_beside_20 : decode b_M_beside 20 = .ok (.iconst 0, 1) := by decide +kernel
theorem d_M_beside_21 : decode b_M_beside 21 = .ok (.invokevirtual 118, 3) := by decide +kernel
theorem d_M_beside_24 : decode b_M_beside 24 = .ok (.aload_n 0, 1) := by decide +kernel
theorem d_M_beside_25 : decode b_M_beside 25 = .ok (.iload_n 1, 1) := by decide +kernel
theorem d_M_beside_26 : decode b_M_beside 26 = .ok (.iload_n 2, 1) := by decide +kernel
theorem d_M_beside_27 : decode b_M_beside 27 = .ok (.iconst 0, 1) := by decide +kernel
theorem d_M_beside_28 : decode b_M_beside 28 = .ok (.iconst 0, 1) := by decide +kernel
theorem d_M_beside_29 : decode b_M_beside 29 = .ok (.invokevirtual 118, 3) := by decide +kernel
theorem d_M_beside_32 : decode b_M_beside 32 = .ok (.aload_n 0, 1) := by decide +kernel
theorem d_M_beside_33 : decode b_M_beside 33 = .ok (.getfield 27, 3) := by decide +kernel
theorem d_M_beside_36 : decode b_M_beside 36 = .ok (.iload_n 1, 1) := by decide +kernel
theorem d_M_beside_37 : decode b_M_beside 37 = .ok (.aload_n 0, 1) := by decide +kernel
theorem d_M_beside_38 : decode b_M_beside 38 = .ok (.getfield 21, 3) := by decide +kernel
theorem d_M_beside_41 : decode b_M_beside 41 = .ok (.iload_n 1, 1) := by decide +kernel
theorem d_M_beside_42 : decode b_M_beside 42 = .ok (.baload, 1) := by decide +kernel
theorem d_M_beside_43 : decode b_M_beside 43 = .ok (.ifCond .eq 12, 3) := by decide +kernel
theorem d_M_beside_46 : decode b_M_beside 46 = .ok (.aload_n 0, 1) := by decide +kernel
theorem d_M_beside_47 : decode b_M_beside 47 = .ok (.getfield 27, 3) := by decide +kernel
theorem d_M_beside_50 : decode b_M_beside 50 = .ok (.iload_n 1, 1) := by decide +kernel
theorem d_M_beside_51 : decode b_M_beside 51 = .ok (.iaload, 1) := by decide +kernel
theorem d_M_beside_52 : decode b_M_beside 52 = .ok (.goto 4, 3) := by decide +kernel
theorem d_M_beside_55 : decode b_M_beside 55 = .ok (.iconst 0, 1) := by decide +kernel
theorem d_M_beside_56 : decode b_M_beside 56 = .ok (.aload_n 0, 1) := by decide +kernel
theorem d_M_beside_57 : decode b_M_beside 57 = .ok (.getfield 21, 3) := by decide +kernel
theorem d_M_beside_60 : decode b_M_beside 60 = .ok (.iload_n 2, 1) := by decide +kernel
theorem d_M_beside_61 : decode b_M_beside 61 = .ok (.baload, 1) := by decide +kernel
theorem d_M_beside_62 : decode b_M_beside 62 = .ok (.ifCond .eq 12, 3) := by decide +kernel
theorem d_M_beside_65 : decode b_M_beside 65 = .ok (.aload_n 0, 1) := by decide +kernel
theorem d_M_beside_66 : decode b_M_beside 66 = .ok (.getfield 27, 3) := by decide +kernel
theorem d_M_beside_69 : decode b_M_beside 69 = .ok (.iload_n 2, 1) := by decide +kernel
theorem d_M_beside_70 : decode b_M_beside 70 = .ok (.iaload, 1) := by decide +kernel
theorem d_M_beside_71 : decode b_M_beside 71 = .ok (.goto 4, 3) := by decide +kernel
theorem d_M_beside_74 : decode b_M_beside 74 = .ok (.iconst 0, 1) := by decide +kernel
theorem d_M_beside_75 : decode b_M_beside 75 = .ok (.ior, 1) := by decide +kernel
theorem d_M_beside_76 : decode b_M_beside 76 = .ok (.iastore, 1) := by decide +kernel
theorem d_M_beside_77 : decode b_M_beside 77 = .ok (.aload_n 0, 1) := by decide +kernel
theorem d_M_beside_78 : decode b_M_beside 78 = .ok (.getfield 21, 3) := by decide +kernel
theorem d_M_beside_81 : decode b_M_beside 81 = .ok (.iload_n 1, 1) := by decide +kernel
theorem d_M_beside_82 : decode b_M_beside 82 = .ok (.aload_n 0, 1) := by decide +kernel
theorem d_M_beside_83 : decode b_M_beside 83 = .ok (.getfield 21, 3) := by decide +kernel
theorem d_M_beside_86 : decode b_M_beside 86 = .ok (.iload_n 1, 1) := by decide +kernel
theorem d_M_beside_87 : decode b_M_beside 87 = .ok (.baload, 1) := by decide +kernel
theorem d_M_beside_88 : decode b_M_beside 88 = .ok (.ifCond .ne 12, 3) := by decide +kernel
theorem d_M_beside_91 : decode b_M_beside 91 = .ok (.aload_n 0, 1) := by decide +kernel
theorem d_M_beside_92 : decode b_M_beside 92 = .ok (.getfield 21, 3) := by decide +kernel
theorem d_M_beside_95 : decode b_M_beside 95 = .ok (.iload_n 2, 1) := by decide +kernel
theorem d_M_beside_96 : decode b_M_beside 96 = .ok (.baload, 1) := by decide +kernel
theorem d_M_beside_97 : decode b_M_beside 97 = .ok (.ifCond .eq 7, 3) := by decide +kernel
theorem d_M_beside_100 : decode b_M_beside 100 = .ok (.iconst 1, 1) := by decide +kernel
theorem d_M_beside_101 : decode b_M_beside 101 = .ok (.goto 4, 3) := by decide +kernel
theorem d_M_beside_104 : decode b_M_beside 104 = .ok (.iconst 0, 1) := by decide +kernel
theorem d_M_beside_105 : decode b_M_beside 105 = .ok (.bastore, 1) := by decide +kernel
theorem d_M_beside_106 : decode b_M_beside 106 = .ok (.aload_n 0, 1) := by decide +kernel
theorem d_M_beside_107 : decode b_M_beside 107 = .ok (.getfield 17, 3) := by decide +kernel
theorem d_M_beside_110 : decode b_M_beside 110 = .ok (.iload_n 2, 1) := by decide +kernel
theorem d_M_beside_111 : decode b_M_beside 111 = .ok (.iconst 0, 1) := by decide +kernel
theorem d_M_beside_112 : decode b_M_beside 112 = .ok (.bastore, 1) := by decide +kernel
theorem d_M_beside_113 : decode b_M_beside 113 = .ok (.return_, 1) := by decide +kernel
theorem d_M_position_0 : decode b_M_position 0 = .ok (.aload_n 0, 1) := by decide +kernel
theorem d_M_position_1 : decode b_M_position 1 = .ok (.getfield 17, 3) := by decide +kernel
theorem d_M_position_4 : decode b_M_position 4 = .ok (.iload_n 1, 1) := by decide +kernel
theorem d_M_position_5 : decode b_M_position 5 = .ok (.iconst 1, 1) := by decide +kernel
theorem d_M_position_6 : decode b_M_position 6 = .ok (.bastore, 1) := by decide +kernel
theorem d_M_position_7 : decode b_M_position 7 = .ok (.aload_n 0, 1) := by decide +kernel
theorem d_M_position_8 : decode b_M_position 8 = .ok (.getfield 21, 3) := by decide +kernel
theorem d_M_position_11 : decode b_M_position 11 = .ok (.iload_n 1, 1) := by decide +kernel
theorem d_M_position_12 : decode b_M_position 12 = .ok (.iconst 0, 1) := by decide +kernel
theorem d_M_position_13 : decode b_M_position 13 = .ok (.bastore, 1) := by decide +kernel
theorem d_M_position_14 : decode b_M_position 14 = .ok (.aload_n 0, 1) := by decide +kernel
theorem d_M_position_15 : decode b_M_position 15 = .ok (.getfield 27, 3) := by decide +kernel
theorem d_M_position_18 : decode b_M_position 18 = .ok (.iload_n 1, 1) := by decide +kernel
theorem d_M_position_19 : decode b_M_position 19 = .ok (.iconst 0, 1) := by decide +kernel
theorem d_M_position_20 : decode b_M_position 20 = .ok (.iastore, 1) := by decide +kernel
theorem d_M_position_21 : decode b_M_position 21 = .ok (.aload_n 0, 1) := by decide +kernel
theorem d_M_position_22 : decode b_M_position 22 = .ok (.getfield 24, 3) := by decide +kernel
theorem d_M_position_25 : decode b_M_position 25 = .ok (.iload_n 1, 1) := by decide +kernel
theorem d_M_position_26 : decode b_M_position 26 = .ok (.aload_n 0, 1) := by decide +kernel
theorem d_M_position_27 : decode b_M_position 27 = .ok (.getfield 122, 3) := by decide +kernel
theorem d_M_position_30 : decode b_M_position 30 = .ok (.iastore, 1) := by decide +kernel
theorem d_M_position_31 : decode b_M_position 31 = .ok (.aload_n 0, 1) := by decide +kernel
theorem d_M_position_32 : decode b_M_position 32 = .ok (.getfield 30, 3) := by decide +kernel
theorem d_M_position_35 : decode b_M_position 35 = .ok (.iload_n 1, 1) := by decide +kernel
theorem d_M_position_36 : decode b_M_position 36 = .ok (.iconst 1, 1) := by decide +kernel
theorem d_M_position_37 : decode b_M_position 37 = .ok (.aload_n 0, 1) := by decide +kernel
theorem d_M_position_38 : decode b_M_position 38 = .ok (.getfield 122, 3) := by decide +kernel
theorem d_M_position_41 : decode b_M_position 41 = .ok (.ishl, 1) := by decide +kernel
theorem d_M_position_42 : decode b_M_position 42 = .ok (.iastore, 1) := by decide +kernel
theorem d_M_position_43 : decode b_M_position 43 = .ok (.aload_n 0, 1) := by decide +kernel
theorem d_M_position_44 : decode b_M_position 44 = .ok (.getfield 33, 3) := by decide +kernel
theorem d_M_position_47 : decode b_M_position 47 = .ok (.iload_n 1, 1) := by decide +kernel
theorem d_M_position_48 : decode b_M_position 48 = .ok (.iconst 1, 1) := by decide +kernel
theorem d_M_position_49 : decode b_M_position 49 = .ok (.aload_n 0, 1) := by decide +kernel
theorem d_M_position_50 : decode b_M_position 50 = .ok (.getfield 122, 3) := by decide +kernel
theorem d_M_position_53 : decode b_M_position 53 = .ok (.ishl, 1) := by decide +kernel
theorem d_M_position_54 : decode b_M_position 54 = .ok (.iastore, 1) := by decide +kernel
theorem d_M_position_55 : decode b_M_position 55 = .ok (.aload_n 0, 1) := by decide +kernel
theorem d_M_position_56 : decode b_M_position 56 = .ok (.getfield 36, 3) := by decide +kernel
theorem d_M_position_59 : decode b_M_position 59 = .ok (.bipush 30, 2) := by decide +kernel
theorem d_M_position_61 : decode b_M_position 61 = .ok (.iload_n 1, 1) := by decide +kernel
theorem d_M_position_62 : decode b_M_position 62 = .ok (.imul, 1) := by decide +kernel
theorem d_M_position_63 : decode b_M_position 63 = .ok (.aload_n 0, 1) := by decide +kernel
theorem d_M_position_64 : decode b_M_position 64 = .ok (.getfield 122, 3) := by decide +kernel
theorem d_M_position_67 : decode b_M_position 67 = .ok (.iadd, 1) := by decide +kernel
theorem d_M_position_68 : decode b_M_position 68 = .ok (.iconst 0, 1) := by decide +kernel
theorem d_M_position_69 : decode b_M_position 69 = .ok (.iastore, 1) := by decide +kernel
theorem d_M_position_70 : decode b_M_position 70 = .ok (.aload_n 0, 1) := by decide +kernel
theorem d_M_position_71 : decode b_M_position 71 = .ok (.getfield 39, 3) := by decide +kernel
theorem d_M_position_74 : decode b_M_position 74 = .ok (.bipush 30, 2) := by decide +kernel
theorem d_M_position_76 : decode b_M_position 76 = .ok (.iload_n 1, 1) := by decide +kernel
theorem d_M_position_77 : decode b_M_position 77 = .ok (.imul, 1) := by decide +kernel
theorem d_M_position_78 : decode b_M_position 78 = .ok (.aload_n 0, 1) := by decide +kernel
theorem d_M_position_79 : decode b_M_position 79 = .ok (.getfield 122, 3) := by decide +kernel
theorem d_M_position_82 : decode b_M_position 82 = .ok (.iadd, 1) := by decide +kernel
theorem d_M_position_83 : decode b_M_position 83 = .ok (.iconst 0, 1) := by decide +kernel
theorem d_M_position_84 : decode b_M_position 84 = .ok (.iastore, 1) := by decide +kernel
theorem d_M_position_85 : decode b_M_position 85 = .ok (.aload_n 0, 1) := by decide +kernel
theorem d_M_position_86 : decode b_M_position 86 = .ok (.getfield 42, 3) := by decide +kernel
theorem d_M_position_89 : decode b_M_position 89 = .ok (.aload_n 0, 1) := by decide +kernel
theorem d_M_position_90 : decode b_M_position 90 = .ok (.getfield 122, 3) := by decide +kernel
theorem d_M_position_93 : decode b_M_position 93 = .ok (.iload_n 2, 1) := by decide +kernel
theorem d_M_position_94 : decode b_M_position 94 = .ok (.iastore, 1) := by decide +kernel
theorem d_M_position_95 : decode b_M_position 95 = .ok (.iconst 0, 1) := by decide +kernel
theorem d_M_position_96 : decode b_M_position 96 = .ok (.istore_n 3, 1) := by decide +kernel
theorem d_M_position_97 : decode b_M_position 97 = .ok (.iload_n 3, 1) := by decide +kernel
theorem d_M_position_98 : decode b_M_position 98 = .ok (.bipush 30, 2) := by decide +kernel
theorem d_M_position_100 : decode b_M_position 100 = .ok (.if_icmp .ge 69, 3) := by decide +kernel
theorem d_M_position_103 : decode b_M_position 103 = .ok (.aload_n 0, 1) := by decide +kernel
theorem d_M_position_104 : decode b_M_position 104 = .ok (.getfield 48, 3) := by decide +kernel
theorem d_M_position_107 : decode b_M_position 107 = .ok (.bipush 30, 2) := by decide +kernel
theorem d_M_position_109 : decode b_M_position 109 = .ok (.aload_n 0, 1) := by decide +kernel
theorem d_M_position_110 : decode b_M_position 110 = .ok (.getfield 122, 3) := by decide +kernel
theorem d_M_position_113 : decode b_M_position 113 = .ok (.imul, 1) := by decide +kernel
theorem d_M_position_114 : decode b_M_position 114 = .ok (.iload_n 3, 1) := by decide +kernel
theorem d_M_position_115 : decode b_M_position 115 = .ok (.iadd, 1) := by decide +kernel
theorem d_M_position_116 : decode b_M_position 116 = .ok (.iconst 0, 1) := by decide +kernel
theorem d_M_position_117 : decode b_M_position 117 = .ok (.bastore, 1) := by decide +kernel
theorem d_M_position_118 : decode b_M_position 118 = .ok (.aload_n 0, 1) := by decide +kernel
theorem d_M_position_119 : decode b_M_position 119 = .ok (.getfield 48, 3) := by decide +kernel
theorem d_M_position_122 : decode b_M_position 122 = .ok (.bipush 30, 2) := by decide +kernel
theorem d_M_position_124 : decode b_M_position 124 = .ok (.iload_n 3, 1) := by decide +kernel
theorem d_M_position_125 : decode b_M_position 125 = .ok (.imul, 1) := by decide +kernel
theorem d_M_position_126 : decode b_M_position 126 = .ok (.aload_n 0, 1) := by decide +kernel
theorem d_M_position_127 : decode b_M_position 127 = .ok (.getfield 122, 3) := by decide +kernel
theorem d_M_position_130 : decode b_M_position 130 = .ok (.iadd, 1) := by decide +kernel
theorem d_M_position_131 : decode b_M_position 131 = .ok (.iconst 0, 1) := by decide +kernel
theorem d_M_position_132 : decode b_M_position 132 = .ok (.bastore, 1) := by decide +kernel
theorem d_M_position_133 : decode b_M_position 133 = .ok (.aload_n 0, 1) := by decide +kernel
theorem d_M_position_134 : decode b_M_position 134 = .ok (.getfield 45, 3) := by decide +kernel
theorem d_M_position_137 : decode b_M_position 137 = .ok (.bipush 30, 2) := by decide +kernel
theorem d_M_position_139 : decode b_M_position 139 = .ok (.aload_n 0, 1) := by decide +kernel
theorem d_M_position_140 : decode b_M_position 140 = .ok (.getfield 122, 3) := by decide +kernel
theorem d_M_position_143 : decode b_M_position 143 = .ok (.imul, 1) := by decide +kernel
theorem d_M_position_144 : decode b_M_position 144 = .ok (.iload_n 3, 1) := by decide +kernel
theorem d_M_position_145 : decode b_M_position 145 = .ok (.iadd, 1) := by decide +kernel
theorem d_M_position_146 : decode b_M_position 146 = .ok (.iconst 0, 1) := by decide +kernel
theorem d_M_position_147 : decode b_M_position 147 = .ok (.iastore, 1) := by decide +kernel
theorem d_M_position_148 : decode b_M_position 148 = .ok (.aload_n 0, 1) := by decide +kernel
theorem d_M_position_149 : decode b_M_position 149 = .ok (.getfield 45, 3) := by decide +kernel
theorem d_M_position_152 : decode b_M_position 152 = .ok (.bipush 30, 2) := by decide +kernel
theorem d_M_position_154 : decode b_M_position 154 = .ok (.iload_n 3, 1) := by decide +kernel
theorem d_M_position_155 : decode b_M_position 155 = .ok (.imul, 1) := by decide +kernel
theorem d_M_position_156 : decode b_M_position 156 = .ok (.aload_n 0, 1) := by decide +kernel
theorem d_M_position_157 : decode b_M_position 157 = .ok (.getfield 122, 3) := by decide +kernel
theorem d_M_position_160 : decode b_M_position 160 = .ok (.iadd, 1) := by decide +kernel
theorem d_M_position_161 : decode b_M_position 161 = .ok (.iconst 0, 1) := by decide +kernel
theorem d_M_position_162 : decode b_M_position 162 = .ok (.iastore, 1) := by decide +kernel
theorem d_M_position_163 : decode b_M_position 163 = .ok (.iinc 3 1, 3) := by decide +kernel
theorem d_M_position_166 : decode b_M_position 166 = .ok (.goto (-69), 3) := by decide +kernel
theorem d_M_position_169 : decode b_M_position 169 = .ok (.aload_n 0, 1) := by decide +kernel
theorem d_M_position_170 : decode b_M_position 170 = .ok (.dup, 1) := by decide +kernel
theorem d_M_position_171 : decode b_M_position 171 = .ok (.getfield 122, 3) := by decide +kernel
theorem d_M_position_174 : decode b_M_position 174 = .ok (.iconst 1, 1) := by decide +kernel
theorem d_M_position_175 : decode b_M_position 175 = .ok (.iadd, 1) := by decide +kernel
theorem d_M_position_176 : decode b_M_position 176 = .ok (.putfield 122, 3) := by decide +kernel
theorem d_M_position_179 : decode b_M_position 179 = .ok (.return_, 1) := by decide +kernel
theorem d_M_repeat_0 : decode b_M_repeat 0 = .ok (.iload_n 2, 1) := by decide +kernel
theorem d_M_repeat_1 : decode b_M_repeat 1 = .ok (.bipush 63, 2) := by decide +kernel
theorem d_M_repeat_3 : decode b_M_repeat 3 = .ok (.if_icmp .eq 9, 3) := by decide +kernel
theorem d_M_repeat_6 : decode b_M_repeat 6 = .ok (.aload_n 0, 1) := by decide +kernel
theorem d_M_repeat_7 : decode b_M_repeat 7 = .ok (.iload_n 1, 1) := by decide +kernel
theorem d_M_repeat_8 : decode b_M_repeat 8 = .ok (.iload_n 1, 1) := by decide +kernel
theorem d_M_repeat_9 : decode b_M_repeat 9 = .ok (.invokevirtual 115, 3) := by decide +kernel
theorem d_M_repeat_12 : decode b_M_repeat 12 = .ok (.aload_n 0, 1) := by decide +kernel
theorem d_M_repeat_13 : decode b_M_repeat 13 = .ok (.getfield 21, 3) := by decide +kernel
theorem d_M_repeat_16 : decode b_M_repeat 16 = .ok (.iload_n 1, 1) := by decide +kernel
theorem d_M_repeat_17 : decode b_M_repeat 17 = .ok (.baload, 1) := by decide +kernel
theorem d_M_repeat_18 : decode b_M_repeat 18 = .ok (.ifCond .ne 10, 3) := by decide +kernel
theorem d_M_repeat_21 : decode b_M_repeat 21 = .ok (.aload_n 0, 1) := by decide +kernel
theorem d_M_repeat_22 : decode b_M_repeat 22 = .ok (.getfield 27, 3) := by decide +kernel
theorem d_M_repeat_25 : decode b_M_repeat 25 = .ok (.iload_n 1, 1) := by decide +kernel
theorem d_M_repeat_26 : decode b_M_repeat 26 = .ok (.iconst 0, 1) := by decide +kernel
theorem d_M_repeat_27 : decode b_M_repeat 27 = .ok (.iastore, 1) := by decide +kernel
theorem d_M_repeat_28 : decode b_M_repeat 28 = .ok (.iload_n 2, 1) := by decide +kernel
theorem d_M_repeat_29 : decode b_M_repeat 29 = .ok (.bipush 43, 2) := by decide +kernel
theorem d_M_repeat_31 : decode b_M_repeat 31 = .ok (.if_icmp .eq 10, 3) := by decide +kernel
theorem d_M_repeat_34 : decode b_M_repeat 34 = .ok (.aload_n 0, 1) := by decide +kernel
theorem d_M_repeat_35 : decode b_M_repeat 35 = .ok (.getfield 21, 3) := by decide +kernel
theorem d_M_repeat_38 : decode b_M_repeat 38 = .ok (.iload_n 1, 1) := by decide +kernel
theorem d_M_repeat_39 : decode b_M_repeat 39 = .ok (.iconst 1, 1) := by decide +kernel
theorem d_M_repeat_40 : decode b_M_repeat 40 = .ok (.bastore, 1) := by decide +kernel
theorem d_M_repeat_41 : decode b_M_repeat 41 = .ok (.return_, 1) := by decide +kernel
theorem d_M_act_0 : decode b_M_act 0 = .ok (.aload_n 0, 1) := by decide +kernel
theorem d_M_act_1 : decode b_M_act 1 = .ok (.getfield 24, 3) := by decide +kernel
theorem d_M_act_4 : decode b_M_act 4 = .ok (.iload_n 1, 1) := by decide +kernel
theorem d_M_act_5 : decode b_M_act 5 = .ok (.iaload, 1) := by decide +kernel
theorem d_M_act_6 : decode b_M_act 6 = .ok (.istore 4, 2) := by decide +kernel
theorem d_M_act_8 : decode b_M_act 8 = .ok (.iload 4, 2) := by decide +kernel
theorem d_M_act_10 : decode b_M_act 10 = .ok (.aload_n 0, 1) := by decide +kernel
theorem d_M_act_11 : decode b_M_act 11 = .ok (.getfield 122, 3) := by decide +kernel
theorem d_M_act_14 : decode b_M_act 14 = .ok (.if_icmp .ge 175, 3) := by decide +kernel
theorem d_M_act_17 : decode b_M_act 17 = .ok (.aload_n 0, 1) := by decide +kernel
theorem d_M_act_18 : decode b_M_act 18 = .ok (.getfield 33, 3) := by decide +kernel
theorem d_M_act_21 : decode b_M_act 21 = .ok (.iload_n 1, 1) := by decide +kernel
theorem d_M_act_22 : decode b_M_act 22 = .ok (.iaload, 1) := by decide +kernel
theorem d_M_act_23 : decode b_M_act 23 = .ok (.iload 4, 2) := by decide +kernel
theorem d_M_act_25 : decode b_M_act 25 = .ok (.invokestatic 107, 3) := by decide +kernel
theorem d_M_act_28 : decode b_M_act 28 = .ok (.istore 5, 2) := by decide +kernel
theorem d_M_act_30 : decode b_M_act 30 = .ok (.aload_n 0, 1) := by decide +kernel
theorem d_M_act_31 : decode b_M_act 31 = .ok (.getfield 30, 3) := by decide +kernel
theorem d_M_act_34 : decode b_M_act 34 = .ok (.iload_n 1, 1) := by decide +kernel
theorem d_M_act_35 : decode b_M_act 35 = .ok (.iaload, 1) := by decide +kernel
theorem d_M_act_36 : decode b_M_act 36 = .ok (.iload 4, 2) := by decide +kernel
theorem d_M_act_38 : decode b_M_act 38 = .ok (.invokestatic 107, 3) := by decide +kernel
theorem d_M_act_41 : decode b_M_act 41 = .ok (.ifCond .eq 42, 3) := by decide +kernel
theorem d_M_act_44 : decode b_M_act 44 = .ok (.iload_n 2, 1) := by decide +kernel
theorem d_M_act_45 : decode b_M_act 45 = .ok (.bipush 62, 2) := by decide +kernel
theorem d_M_act_47 : decode b_M_act 47 = .ok (.if_icmp .eq 20, 3) := by decide +kernel
theorem d_M_act_50 : decode b_M_act 50 = .ok (.iload_n 2, 1) := by decide +kernel
theorem d_M_act_51 : decode b_M_act 51 = .ok (.bipush 36, 2) := by decide +kernel
theorem d_M_act_53 : decode b_M_act 53 = .ok (.if_icmp .eq 14, 3) := by decide +kernel
theorem d_M_act_56 : decode b_M_act 56 = .ok (.iload_n 2, 1) := by decide +kernel
theorem d_M_act_57 : decode b_M_act 57 = .ok (.bipush 64, 2) := by decide +kernel
theorem d_M_act_59 : decode b_M_act 59 = .ok (.if_icmp .ne 24, 3) := by decide +kernel
theorem d_M_act_62 : decode b_M_act 62 = .ok (.iload 5, 2) := by decide +kernel
theorem d_M_act_64 : decode b_M_act 64 = .ok (.ifCond .eq 19, 3) := by decide +kernel
theorem d_M_act_67 : decode b_M_act 67 = .ok (.aload_n 0, 1) := by decide +kernel
theorem d_M_act_68 : decode b_M_act 68 = .ok (.getfield 36, 3) := by decide +kernel
theorem d_M_act_71 : decode b_M_act 71 = .ok (.bipush 30, 2) := by decide +kernel
theorem d_M_act_73 : decode b_M_act 73 = .ok (.iload_n 1, 1) := by decide +kernel
theorem d_M_act_74 : decode b_M_act 74 = .ok (.imul, 1) := by decide +kernel
theorem d_M_act_75 : decode b_M_act 75 = .ok (.iload 4, 2) := by decide +kernel
theorem d_M_act_77 : decode b_M_act 77 = .ok (.iadd, 1) := by decide +kernel
theorem d_M_act_78 : decode b_M_act 78 = .ok (.dup2, 1) := by decide +kernel
theorem d_M_act_79 : decode b_M_act 79 = .ok (.iaload, 1) := by decide +kernel
theorem d_M_act_80 : decode b_M_act 80 = .ok (.iload_n 3, 1) := by decide +kernel
theorem d_M_act_81 : decode b_M_act 81 = .ok (.ior, 1) := by decide +kernel
theorem d_M_act_82 : decode b_M_act 82 = .ok (.iastore, 1) := by decide +kernel
theorem d_M_act_83 : decode b_M_act 83 = .ok (.iload 5, 2) := by decide +kernel
theorem d_M_act_85 : decode b_M_act 85 = .ok (.ifCond .eq 25, 3) := by decide +kernel
theorem d_M_act_88 : decode b_M_act 88 = .ok (.iload_n 2, 1) := by decide +kernel
theorem d_M_act_89 : decode b_M_act 89 = .ok (.bipush 37, 2) := by decide +kernel
theorem d_M_act_91 : decode b_M_act 91 = .ok (.if_icmp .ne 19, 3) := by decide +kernel
theorem d_M_act_94 : decode b_M_act 94 = .ok (.aload_n 0, 1) := by decide +kernel
theorem d_M_act_95 : decode b_M_act 95 = .ok (.getfield 39, 3) := by decide +kernel
theorem d_M_act_98 : decode b_M_act 98 = .ok (.bipush 30, 2) := by decide +kernel
theorem d_M_act_100 : decode b_M_act 100 = .ok (.iload_n 1, 1) := by decide +kernel
theorem d_M_act_101 : decode b_M_act 101 = .ok (.imul, 1) := by decide +kernel
theorem d_M_act_102 : decode b_M_act 102 = .ok (.iload 4, 2) := by decide +kernel
theorem d_M_act_104 : decode b_M_act 104 = .ok (.iadd, 1) := by decide +kernel
theorem d_M_act_105 : decode b_M_act 105 = .ok (.dup2, 1) := by decide +kernel
theorem d_M_act_106 : decode b_M_act 106 = .ok (.iaload, 1) := by decide +kernel
theorem d_M_act_107 : decode b_M_act 107 = .ok (.iload_n 3, 1) := by decide +kernel
theorem d_M_act_108 : decode b_M_act 108 = .ok (.ior, 1) := by decide +kernel
theorem d_M_act_109 : decode b_M_act 109 = .ok (.iastore, 1) := by decide +kernel
theorem d_M_act_110 : decode b_M_act 110 = .ok (.aload_n 0, 1) := by decide +kernel
theorem d_M_act_111 : decode b_M_act 111 = .ok (.getfield 24, 3) := by decide +kernel
theorem d_M_act_114 : decode b_M_act 114 = .ok (.iload_n 1, 1) := by decide +kernel
theorem d_M_act_115 : decode b_M_act 115 = .ok (.iaload, 1) := by decide +kernel
theorem d_M_act_116 : decode b_M_act 116 = .ok (.istore 6, 2) := by decide +kernel
theorem d_M_act_118 : decode b_M_act 118 = .ok (.iload 6, 2) := by decide +kernel
theorem d_M_act_120 : decode b_M_act 120 = .ok (.aload_n 0, 1) := by decide +kernel
theorem d_M_act_121 : decode b_M_act 121 = .ok (.getfield 122, 3) := by decide +kernel
theorem d_M_act_124 : decode b_M_act 124 = .ok (.if_icmp .ge 59, 3) := by decide +kernel
theorem d_M_act_127 : decode b_M_act 127 = .ok (.iload_n 2, 1) := by decide +kernel
theorem d_M_act_128 : decode b_M_act 128 = .ok (.bipush 36, 2) := by decide +kernel
theorem d_M_act_130 : decode b_M_act 130 = .ok (.if_icmp .eq 14, 3) := by decide +kernel
theorem d_M_act_133 : decode b_M_act 133 = .ok (.iload_n 2, 1) := by decide +kernel
theorem d_M_act_134 : decode b_M_act 134 = .ok (.bipush 64, 2) := by decide +kernel
theorem d_M_act_136 : decode b_M_act 136 = .ok (.if_icmp .ne 47, 3) := by decide +kernel
theorem d_M_act_139 : decode b_M_act 139 = .ok (.iload 5, 2) := by decide +kernel
theorem d_M_act_141 : decode b_M_act 141 = .ok (.ifCond .eq 42, 3) := by decide +kernel
theorem d_M_act_144 : decode b_M_act 144 = .ok (.aload_n 0, 1) := by decide +kernel
theorem d_M_act_145 : decode b_M_act 145 = .ok (.getfield 48, 3) := by decide +kernel
theorem d_M_act_148 : decode b_M_act 148 = .ok (.bipush 30, 2) := by decide +kernel
theorem d_M_act_150 : decode b_M_act 150 = .ok (.iload 6, 2) := by decide +kernel
theorem d_M_act_152 : decode b_M_act 152 = .ok (.imul, 1) := by decide +kernel
theorem d_M_act_153 : decode b_M_act 153 = .ok (.iload 4, 2) := by decide +kernel
theorem d_M_act_155 : decode b_M_act 155 = .ok (.iadd, 1) := by decide +kernel
theorem d_M_act_156 : decode b_M_act 156 = .ok (.baload, 1) := by decide +kernel
theorem d_M_act_157 : decode b_M_act 157 = .ok (.ifCond .eq 20, 3) := by decide +kernel
theorem d_M_act_160 : decode b_M_act 160 = .ok (.aload_n 0, 1) := by decide +kernel
theorem d_M_act_161 : decode b_M_act 161 = .ok (.getfield 45, 3) := by decide +kernel
theorem d_M_act_164 : decode b_M_act 164 = .ok (.bipush 30, 2) := by decide +kernel
theorem d_M_act_166 : decode b_M_act 166 = .ok (.iload 6, 2) := by decide +kernel
theorem d_M_act_168 : decode b_M_act 168 = .ok (.imul, 1) := by decide +kernel
theorem d_M_act_169 : decode b_M_act 169 = .ok (.iload 4, 2) := by decide +kernel
theorem d_M_act_171 : decode b_M_act 171 = .ok (.iadd, 1) := by decide +kernel
theorem d_M_act_172 : decode b_M_act 172 = .ok (.dup2, 1) := by decide +kernel
theorem d_M_act_173 : decode b_M_act 173 = .ok (.iaload, 1) := by decide +kernel
theorem d_M_act_174 : decode b_M_act 174 = .ok (.iload_n 3, 1) := by decide +kernel
theorem d_M_act_175 : decode b_M_act 175 = .ok (.ior, 1) := by decide +kernel
theorem d_M_act_176 : decode b_M_act 176 = .ok (.iastore, 1) := by decide +kernel
theorem d_M_act_177 : decode b_M_act 177 = .ok (.iinc 6 1, 3) := by decide +kernel
theorem d_M_act_180 : decode b_M_act 180 = .ok (.goto (-62), 3) := by decide +kernel
theorem d_M_act_183 : decode b_M_act 183 = .ok (.iinc 4 1, 3) := by decide +kernel
theorem d_M_act_186 : decode b_M_act 186 = .ok (.goto (-178), 3) := by decide +kernel
theorem d_M_act_189 : decode b_M_act 189 = .ok (.iload_n 2, 1) := by decide +kernel
theorem d_M_act_190 : decode b_M_act 190 = .ok (.bipush 37, 2) := by decide +kernel
theorem d_M_act_192 : decode b_M_act 192 = .ok (.if_icmp .ne 22, 3) := by decide +kernel
theorem d_M_act_195 : decode b_M_act 195 = .ok (.aload_n 0, 1) := by decide +kernel
theorem d_M_act_196 : decode b_M_act 196 = .ok (.getfield 21, 3) := by decide +kernel
theorem d_M_act_199 : decode b_M_act 199 = .ok (.iload_n 1, 1) := by decide +kernel
theorem d_M_act_200 : decode b_M_act 200 = .ok (.baload, 1) := by decide +kernel
theorem d_M_act_201 : decode b_M_act 201 = .ok (.ifCond .eq 13, 3) := by decide +kernel
theorem d_M_act_204 : decode b_M_act 204 = .ok (.aload_n 0, 1) := by decide +kernel
theorem d_M_act_205 : decode b_M_act 205 = .ok (.getfield 27, 3) := by decide +kernel
theorem d_M_act_208 : decode b_M_act 208 = .ok (.iload_n 1, 1) := by decide +kernel
theorem d_M_act_209 : decode b_M_act 209 = .ok (.dup2, 1) := by decide +kernel
theorem d_M_act_210 : decode b_M_act 210 = .ok (.iaload, 1) := by decide +kernel
theorem d_M_act_211 : decode b_M_act 211 = .ok (.iload_n 3, 1) := by decide +kernel
theorem d_M_act_212 : decode b_M_act 212 = .ok (.ior, 1) := by decide +kernel
theorem d_M_act_213 : decode b_M_act 213 = .ok (.iastore, 1) := by decide +kernel
theorem d_M_act_214 : decode b_M_act 214 = .ok (.return_, 1) := by decide +kernel
theorem d_M_bits_0 : decode b_M_bits 0 = .ok (.aload_n 0, 1) := by decide +kernel
theorem d_M_bits_1 : decode b_M_bits 1 = .ok (.invokevirtual 132, 3) := by decide +kernel
theorem d_M_bits_4 : decode b_M_bits 4 = .ok (.istore_n 1, 1) := by decide +kernel
theorem d_M_bits_5 : decode b_M_bits 5 = .ok (.iconst 0, 1) := by decide +kernel
theorem d_M_bits_6 : decode b_M_bits 6 = .ok (.istore_n 2, 1) := by decide +kernel
theorem d_M_bits_7 : decode b_M_bits 7 = .ok (.aload_n 0, 1) := by decide +kernel
theorem d_M_bits_8 : decode b_M_bits 8 = .ok (.dup, 1) := by decide +kernel
theorem d_M_bits_9 : decode b_M_bits 9 = .ok (.getfield 125, 3) := by decide +kernel
theorem d_M_bits_12 : decode b_M_bits 12 = .ok (.iconst 1, 1) := by decide +kernel
theorem d_M_bits_13 : decode b_M_bits 13 = .ok (.iadd, 1) := by decide +kernel
theorem d_M_bits_14 : decode b_M_bits 14 = .ok (.putfield 125, 3) := by decide +kernel
theorem d_M_bits_17 : decode b_M_bits 17 = .ok (.iload_n 1, 1) := by decide +kernel
theorem d_M_bits_18 : decode b_M_bits 18 = .ok (.bipush 91, 2) := by decide +kernel
theorem d_M_bits_20 : decode b_M_bits 20 = .ok (.if_icmp .eq 21, 3) := by decide +kernel
theorem d_M_bits_23 : decode b_M_bits 23 = .ok (.iload_n 1, 1) := by decide +kernel
theorem d_M_bits_24 : decode b_M_bits 24 = .ok (.bipush 46, 2) := by decide +kernel
theorem d_M_bits_26 : decode b_M_bits 26 = .ok (.if_icmp .ne 8, 3) := by decide +kernel
theorem d_M_bits_29 : decode b_M_bits 29 = .ok (.bipush 15, 2) := by decide +kernel
theorem d_M_bits_31 : decode b_M_bits 31 = .ok (.goto 9, 3) := by decide +kernel
theorem d_M_bits_34 : decode b_M_bits 34 = .ok (.iconst 1, 1) := by decide +kernel
theorem d_M_bits_35 : decode b_M_bits 35 = .ok (.iload_n 1, 1) := by decide +kernel
theorem d_M_bits_36 : decode b_M_bits 36 = .ok (.bipush 97, 2) := by decide +kernel
theorem d_M_bits_38 : decode b_M_bits 38 = .ok (.isub, 1) := by decide +kernel
theorem d_M_bits_39 : decode b_M_bits 39 = .ok (.ishl, 1) := by decide +kernel
theorem d_M_bits_40 : decode b_M_bits 40 = .ok (.ireturn, 1) := by decide +kernel
theorem d_M_bits_41 : decode b_M_bits 41 = .ok (.aload_n 0, 1) := by decide +kernel
theorem d_M_bits_42 : decode b_M_bits 42 = .ok (.invokevirtual 132, 3) := by decide +kernel
theorem d_M_bits_45 : decode b_M_bits 45 = .ok (.bipush 97, 2) := by decide +kernel
theorem d_M_bits_47 : decode b_M_bits 47 = .ok (.bipush 100, 2) := by decide +kernel
theorem d_M_bits_49 : decode b_M_bits 49 = .ok (.invokestatic 96, 3) := by decide +kernel
theorem d_M_bits_52 : decode b_M_bits 52 = .ok (.ifCond .eq 28, 3) := by decide +kernel
theorem d_M_bits_55 : decode b_M_bits 55 = .ok (.iload_n 2, 1) := by decide +kernel
theorem d_M_bits_56 : decode b_M_bits 56 = .ok (.iconst 1, 1) := by decide +kernel
theorem d_M_bits_57 : decode b_M_bits 57 = .ok (.aload_n 0, 1) := by decide +kernel
theorem d_M_bits_58 : decode b_M_bits 58 = .ok (.invokevirtual 132, 3) := by decide +kernel
theorem d_M_bits_61 : decode b_M_bits 61 = .ok (.bipush 97, 2) := by decide +kernel
theorem d_M_bits_63 : decode b_M_bits 63 = .ok (.isub, 1) := by decide +kernel
theorem d_M_bits_64 : decode b_M_bits 64 = .ok (.ishl, 1) := by decide +kernel
theorem d_M_bits_65 : decode b_M_bits 65 = .ok (.ior, 1) := by decide +kernel
theorem d_M_bits_66 : decode b_M_bits 66 = .ok (.istore_n 2, 1) := by decide +kernel
theorem d_M_bits_67 : decode b_M_bits 67 = .ok (.aload_n 0, 1) := by decide +kernel
theorem d_M_bits_68 : decode b_M_bits 68 = .ok (.dup, 1) := by decide +kernel
theorem d_M_bits_69 : decode b_M_bits 69 = .ok (.getfield 125, 3) := by decide +kernel
theorem d_M_bits_72 : decode b_M_bits 72 = .ok (.iconst 1, 1) := by decide +kernel
theorem d_M_bits_73 : decode b_M_bits 73 = .ok (.iadd, 1) := by decide +kernel
theorem d_M_bits_74 : decode b_M_bits 74 = .ok (.putfield 125, 3) := by decide +kernel
theorem d_M_bits_77 : decode b_M_bits 77 = .ok (.goto (-36), 3) := by decide +kernel
theorem d_M_bits_80 : decode b_M_bits 80 = .ok (.iload_n 2, 1) := by decide +kernel
theorem d_M_bits_81 : decode b_M_bits 81 = .ok (.ifCond .eq 12, 3) := by decide +kernel
theorem d_M_bits_84 : decode b_M_bits 84 = .ok (.aload_n 0, 1) := by decide +kernel
theorem d_M_bits_85 : decode b_M_bits 85 = .ok (.invokevirtual 132, 3) := by decide +kernel
theorem d_M_bits_88 : decode b_M_bits 88 = .ok (.bipush 93, 2) := by decide +kernel
theorem d_M_bits_90 : decode b_M_bits 90 = .ok (.if_icmp .eq 7, 3) := by decide +kernel
theorem d_M_bits_93 : decode b_M_bits 93 = .ok (.aload_n 0, 1) := by decide +kernel
theorem d_M_bits_94 : decode b_M_bits 94 = .ok (.invokevirtual 136, 3) := by decide +kernel
theorem d_M_bits_97 : decode b_M_bits 97 = .ok (.aload_n 0, 1) := by decide +kernel
theorem d_M_bits_98 : decode b_M_bits 98 = .ok (.dup, 1) := by decide +kernel
theorem d_M_bits_99 : decode b_M_bits 99 = .ok (.getfield 125, 3) := by decide +kernel
theorem d_M_bits_102 : decode b_M_bits 102 = .ok (.iconst 1, 1) := by decide +kernel
theorem d_M_bits_103 : decode b_M_bits 103 = .ok (.iadd, 1) := by decide +kernel
theorem d_M_bits_104 : decode b_M_bits 104 = .ok (.putfield 125, 3) := by decide +kernel
theorem d_M_bits_107 : decode b_M_bits 107 = .ok (.iload_n 2, 1) := by decide +kernel
theorem d_M_bits_108 : decode b_M_bits 108 = .ok (.ireturn, 1) := by decide +kernel
theorem d_M_suffix_0 : decode b_M_suffix 0 = .ok (.aload_n 0, 1) := by decide +kernel
theorem d_M_suffix_1 : decode b_M_suffix 1 = .ok (.invokevirtual 132, 3) := by decide +kernel
theorem d_M_suffix_4 : decode b_M_suffix 4 = .ok (.istore_n 2, 1) := by decide +kernel
theorem d_M_suffix_5 : decode b_M_suffix 5 = .ok (.aload_n 0, 1) := by decide +kernel
theorem d_M_suffix_6 : decode b_M_suffix 6 = .ok (.dup, 1) := by decide +kernel
theorem d_M_suffix_7 : decode b_M_suffix 7 = .ok (.getfield 125, 3) := by decide +kernel
theorem d_M_suffix_10 : decode b_M_suffix 10 = .ok (.iconst 1, 1) := by decide +kernel
theorem d_M_suffix_11 : decode b_M_suffix 11 = .ok (.iadd, 1) := by decide +kernel
theorem d_M_suffix_12 : decode b_M_suffix 12 = .ok (.putfield 125, 3) := by decide +kernel
theorem d_M_suffix_15 : decode b_M_suffix 15 = .ok (.iload_n 2, 1) := by decide +kernel
theorem d_M_suffix_16 : decode b_M_suffix 16 = .ok (.bipush 42, 2) := by decide +kernel
theorem d_M_suffix_18 : decode b_M_suffix 18 = .ok (.if_icmp .eq 15, 3) := by decide +kernel
theorem d_M_suffix_21 : decode b_M_suffix 21 = .ok (.iload_n 2, 1) := by decide +kernel
theorem d_M_suffix_22 : decode b_M_suffix 22 = .ok (.bipush 43, 2) := by decide +kernel
theorem d_M_suffix_24 : decode b_M_suffix 24 = .ok (.if_icmp .eq 9, 3) := by decide +kernel
theorem d_M_suffix_27 : decode b_M_suffix 27 = .ok (.iload_n 2, 1) := by decide +kernel
theorem d_M_suffix_28 : decode b_M_suffix 28 = .ok (.bipush 63, 2) := by decide +kernel
theorem d_M_suffix_30 : decode b_M_suffix 30 = .ok (.if_icmp .ne 10, 3) := by decide +kernel
theorem d_M_suffix_33 : decode b_M_suffix 33 = .ok (.aload_n 0, 1) := by decide +kernel
theorem d_M_suffix_34 : decode b_M_suffix 34 = .ok (.iload_n 1, 1) := by decide +kernel
theorem d_M_suffix_35 : decode b_M_suffix 35 = .ok (.iload_n 2, 1) := by decide +kernel
theorem d_M_suffix_36 : decode b_M_suffix 36 = .ok (.invokevirtual 139, 3) := by decide +kernel
theorem d_M_suffix_39 : decode b_M_suffix 39 = .ok (.return_, 1) := by decide +kernel
theorem d_M_suffix_40 : decode b_M_suffix 40 = .ok (.aload_n 0, 1) := by decide +kernel
theorem d_M_suffix_41 : decode b_M_suffix 41 = .ok (.invokevirtual 132, 3) := by decide +kernel
theorem d_M_suffix_44 : decode b_M_suffix 44 = .ok (.bipush 48, 2) := by decide +kernel
theorem d_M_suffix_46 : decode b_M_suffix 46 = .ok (.bipush 57, 2) := by decide +kernel
theorem d_M_suffix_48 : decode b_M_suffix 48 = .ok (.invokestatic 96, 3) := by decide +kernel
theorem d_M_suffix_51 : decode b_M_suffix 51 = .ok (.ifCond .ne 10, 3) := by decide +kernel
theorem d_M_suffix_54 : decode b_M_suffix 54 = .ok (.aload_n 0, 1) := by decide +kernel
theorem d_M_suffix_55 : decode b_M_suffix 55 = .ok (.invokevirtual 136, 3) := by decide +kernel
theorem d_M_suffix_58 : decode b_M_suffix 58 = .ok (.goto 18, 3) := by decide +kernel
theorem d_M_suffix_61 : decode b_M_suffix 61 = .ok (.aload_n 0, 1) := by decide +kernel
theorem d_M_suffix_62 : decode b_M_suffix 62 = .ok (.iload_n 1, 1) := by decide +kernel
theorem d_M_suffix_63 : decode b_M_suffix 63 = .ok (.iload_n 2, 1) := by decide +kernel
theorem d_M_suffix_64 : decode b_M_suffix 64 = .ok (.iconst 1, 1) := by decide +kernel
theorem d_M_suffix_65 : decode b_M_suffix 65 = .ok (.aload_n 0, 1) := by decide +kernel
theorem d_M_suffix_66 : decode b_M_suffix 66 = .ok (.invokevirtual 132, 3) := by decide +kernel
theorem d_M_suffix_69 : decode b_M_suffix 69 = .ok (.bipush 48, 2) := by decide +kernel
theorem d_M_suffix_71 : decode b_M_suffix 71 = .ok (.isub, 1) := by decide +kernel
theorem d_M_suffix_72 : decode b_M_suffix 72 = .ok (.ishl, 1) := by decide +kernel
theorem d_M_suffix_73 : decode b_M_suffix 73 = .ok (.invokevirtual 142, 3) := by decide +kernel
theorem d_M_suffix_76 : decode b_M_suffix 76 = .ok (.aload_n 0, 1) := by decide +kernel
theorem d_M_suffix_77 : decode b_M_suffix 77 = .ok (.dup, 1) := by decide +kernel
theorem d_M_suffix_78 : decode b_M_suffix 78 = .ok (.getfield 125, 3) := by decide +kernel
theorem d_M_suffix_81 : decode b_M_suffix 81 = .ok (.iconst 1, 1) := by decide +kernel
theorem d_M_suffix_82 : decode b_M_suffix 82 = .ok (.iadd, 1) := by decide +kernel
theorem d_M_suffix_83 : decode b_M_suffix 83 = .ok (.putfield 125, 3) := by decide +kernel
theorem d_M_suffix_86 : decode b_M_suffix 86 = .ok (.return_, 1) := by decide +kernel
