abbrev b_M_parse : ByteArray := prog_8_method_22_code
def y_M_parse : MethodName := ⟨RX6, "parse", "()V"⟩
def ws_M_parse : List Cond := .code y_M_parse b_M_parse 6 (Option.none : Option FieldType) :: tb9
theorem hs_M_parse : y_M_parse.cls ≠ "java/lang/invoke/MethodHandle" ∧ y_M_parse.cls ≠ "java/lang/invoke/VarHandle" ∧ (parseMethodDescriptor y_M_parse.desc).map (fun d => d.parameters.length) = some 0 := by decide +kernel
theorem hv_M_parse : y_M_parse.cls = RX6 ∧ y_M_parse.cls ≠ "java/lang/invoke/MethodHandle" ∧ y_M_parse.cls ≠ "java/lang/invoke/VarHandle" ∧ (parseMethodDescriptor y_M_parse.desc).map (fun d => d.parameters.length) = some 0 := ⟨rfl, hs_M_parse⟩
theorem k_31 : (.selects RX6 y_M_behind y_M_behind : Cond) ∈ tb9 := List.mem_filter.mpr ⟨List.mem_of_getElem? (i := 31) (by decide +kernel), by decide +kernel⟩
theorem k_35 : (.selects RX6 y_M_bits y_M_bits : Cond) ∈ tb9 := List.mem_filter.mpr ⟨List.mem_of_getElem? (i := 35) (by decide +kernel), by decide +kernel⟩
theorem k_36 : (.selects RX6 y_M_position y_M_position : Cond) ∈ tb9 := List.mem_filter.mpr ⟨List.mem_of_getElem? (i := 36) (by decide +kernel), by decide +kernel⟩
theorem k_37 : (.selects RX6 y_M_suffix y_M_suffix : Cond) ∈ tb9 := List.mem_filter.mpr ⟨List.mem_of_getElem? (i := 37) (by decide +kernel), by decide +kernel⟩
theorem k_40 : (.selects RX6 y_M_beside y_M_beside : Cond) ∈ tb9 := List.mem_filter.mpr ⟨List.mem_of_getElem? (i := 40) (by decide +kernel), by decide +kernel⟩
theorem k_1084 : (.methodLink RX6 146 y_M_isAtom : Cond) ∈ tb9 := List.mem_filter.mpr ⟨List.mem_of_getElem? (i := 1084) (by decide +kernel), by decide +kernel⟩
theorem k_1085 : (.static y_M_isAtom : Cond) ∈ tb9 := List.mem_filter.mpr ⟨List.mem_of_getElem? (i := 1085) (by decide +kernel), by decide +kernel⟩
theorem k_1086 : (.code y_M_isAtom b_M_isAtom 1 (Option.some FieldType.boolean) : Cond) ∈ tb9 := List.mem_filter.mpr ⟨List.mem_of_getElem? (i := 1086) (by decide +kernel), by decide +kernel⟩
theorem k_1091 : (.methodLink RX6 150 y_M_behind : Cond) ∈ tb9 := List.mem_filter.mpr ⟨List.mem_of_getElem? (i := 1091) (by decide +kernel), by decide +kernel⟩
theorem k_1093 : (.instanceMethod y_M_behind : Cond) ∈ tb9 := List.mem_filter.mpr ⟨List.mem_of_getElem? (i := 1093) (by decide +kernel), by decide +kernel⟩
theorem k_1094 : (.code y_M_behind b_M_behind 4 (Option.none : Option FieldType) : Cond) ∈ tb9 := List.mem_filter.mpr ⟨List.mem_of_getElem? (i := 1094) (by decide +kernel), by decide +kernel⟩
theorem k_1110 : (.methodLink RX6 153 y_M_bits : Cond) ∈ tb9 := List.mem_filter.mpr ⟨List.mem_of_getElem? (i := 1110) (by decide +kernel), by decide +kernel⟩
theorem k_1112 : (.instanceMethod y_M_bits : Cond) ∈ tb9 := List.mem_filter.mpr ⟨List.mem_of_getElem? (i := 1112) (by decide +kernel), by decide +kernel⟩
theorem k_1113 : (.code y_M_bits b_M_bits 3 (Option.some FieldType.int) : Cond) ∈ tb9 := List.mem_filter.mpr ⟨List.mem_of_getElem? (i := 1113) (by decide +kernel), by decide +kernel⟩
theorem k_1114 : (.methodLink RX6 156 y_M_position : Cond) ∈ tb9 := List.mem_filter.mpr ⟨List.mem_of_getElem? (i := 1114) (by decide +kernel), by decide +kernel⟩
theorem k_1116 : (.instanceMethod y_M_position : Cond) ∈ tb9 := List.mem_filter.mpr ⟨List.mem_of_getElem? (i := 1116) (by decide +kernel), by decide +kernel⟩
theorem k_1117 : (.code y_M_position b_M_position 4 (Option.none : Option FieldType) : Cond) ∈ tb9 := List.mem_filter.mpr ⟨List.mem_of_getElem? (i := 1117) (by decide +kernel), by decide +kernel⟩
theorem k_1118 : (.methodLink RX6 159 y_M_isSuffix : Cond) ∈ tb9 := List.mem_filter.mpr ⟨List.mem_of_getElem? (i := 1118) (by decide +kernel), by decide +kernel⟩
theorem k_1119 : (.static y_M_isSuffix : Cond) ∈ tb9 := List.mem_filter.mpr ⟨List.mem_of_getElem? (i := 1119) (by decide +kernel), by decide +kernel⟩
theorem k_1120 : (.code y_M_isSuffix b_M_isSuffix 1 (Option.some FieldType.boolean) : Cond) ∈ tb9 := List.mem_filter.mpr ⟨List.mem_of_getElem? (i := 1120) (by decide +kernel), by decide +kernel⟩
theorem k_1121 : (.methodLink RX6 162 y_M_suffix : Cond) ∈ tb9 := List.mem_filter.mpr ⟨List.mem_of_getElem? (i := 1121) (by decide +kernel), by decide +kernel⟩
theorem k_1123 : (.instanceMethod y_M_suffix : Cond) ∈ tb9 := List.mem_filter.mpr ⟨List.mem_of_getElem? (i := 1123) (by decide +kernel), by decide +kernel⟩
theorem k_1124 : (.code y_M_suffix b_M_suffix 3 (Option.none : Option FieldType) : Cond) ∈ tb9 := List.mem_filter.mpr ⟨List.mem_of_getElem? (i := 1124) (by decide +kernel), by decide +kernel⟩
theorem k_1133 : (.methodLink RX6 166 y_M_beside : Cond) ∈ tb9 := List.mem_filter.mpr ⟨List.mem_of_getElem? (i := 1133) (by decide +kernel), by decide +kernel⟩
theorem k_1135 : (.instanceMethod y_M_beside : Cond) ∈ tb9 := List.mem_filter.mpr ⟨List.mem_of_getElem? (i := 1135) (by decide +kernel), by decide +kernel⟩
theorem k_1136 : (.code y_M_beside b_M_beside 3 (Option.none : Option FieldType) : Cond) ∈ tb9 := List.mem_filter.mpr ⟨List.mem_of_getElem? (i := 1136) (by decide +kernel), by decide +kernel⟩
theorem d_M_parse_0 : decode b_M_parse 0 = .ok (.iconst 0, 1) := by decide +kernel
theorem d_M_parse_1 : decode b_M_parse 1 = .ok (.istore_n 1, 1) := by decide +kernel
theorem d_M_parse_2 : decode b_M_parse 2 = .ok (.aload_n 0, 1) := by decide +kernel
theorem d_M_parse_3 : decode b_M_parse 3 = .ok (.iconst 0, 1) := by decide +kernel
theorem d_M_parse_4 : decode b_M_parse 4 = .ok (.putfield 125, 3) := by decide +kernel
theorem d_M_parse_7 : decode b_M_parse 7 = .ok (.aload_n 0, 1) := by decide +kernel
theorem d_M_parse_8 : decode b_M_parse 8 = .ok (.iconst 0, 1) := by decide +kernel
theorem d_M_parse_9 : decode b_M_parse 9 = .ok (.putfield 128, 3) := by decide +kernel
theorem d_M_parse_12 : decode b_M_parse 12 = .ok (.aload_n 0, 1) := by decide +kernel
theorem d_M_parse_13 : decode b_M_parse 13 = .ok (.bipush (-2), 2) := by decide +kernel
theorem d_M_parse_15 : decode b_M_parse 15 = .ok (.putfield 13, 3) := by decide +kernel
theorem d_M_parse_18 : decode b_M_parse 18 = .ok (.aload_n 0, 1) := by decide +kernel
theorem d_M_parse_19 : decode b_M_parse 19 = .ok (.iconst 0, 1) := by decide +kernel
theorem d_M_parse_20 : decode b_M_parse 20 = .ok (.putfield 122, 3) := by decide +kernel
theorem d_M_parse_23 : decode b_M_parse 23 = .ok (.iconst 0, 1) := by decide +kernel
theorem d_M_parse_24 : decode b_M_parse 24 = .ok (.istore_n 2, 1) := by decide +kernel
theorem d_M_parse_25 : decode b_M_parse 25 = .ok (.iload_n 2, 1) := by decide +kernel
theorem d_M_parse_26 : decode b_M_parse 26 = .ok (.bipush 30, 2) := by decide +kernel
theorem d_M_parse_28 : decode b_M_parse 28 = .ok (.if_icmp .ge 16, 3) := by decide +kernel
theorem d_M_parse_31 : decode b_M_parse 31 = .ok (.aload_n 0, 1) := by decide +kernel
theorem d_M_parse_32 : decode b_M_parse 32 = .ok (.getfield 17, 3) := by decide +kernel
theorem d_M_parse_35 : decode b_M_parse 35 = .ok (.iload_n 2, 1) := by decide +kernel
theorem d_M_parse_36 : decode b_M_parse 36 = .ok (.iconst 0, 1) := by decide +kernel
theorem d_M_parse_37 : decode b_M_parse 37 = .ok (.bastore, 1) := by decide +kernel
theorem d_M_parse_38 : decode b_M_parse 38 = .ok (.iinc 2 1, 3) := by decide +kernel
theorem d_M_parse_41 : decode b_M_parse 41 = .ok (.goto (-16), 3) := by decide +kernel
theorem d_M_parse_44 : decode b_M_parse 44 = .ok (.iconst 1, 1) := by decide +kernel
theorem d_M_parse_45 : decode b_M_parse 45 = .ok (.istore_n 2, 1) := by decide +kernel
theorem d_M_parse_46 : decode b_M_parse 46 = .ok (.iload_n 2, 1) := by decide +kernel
theorem d_M_parse_47 : decode b_M_parse 47 = .ok (.ifCond .eq 295, 3) := by decide +kernel
theorem d_M_parse_50 : decode b_M_parse 50 = .ok (.aload_n 0, 1) := by decide +kernel
theorem d_M_parse_51 : decode b_M_parse 51 = .ok (.getfield 128, 3) := by decide +kernel
theorem d_M_parse_54 : decode b_M_parse 54 = .ok (.ifCond .ne 288, 3) := by decide +kernel
theorem d_M_parse_57 : decode b_M_parse 57 = .ok (.aload_n 0, 1) := by decide +kernel
theorem d_M_parse_58 : decode b_M_parse 58 = .ok (.invokevirtual 132, 3) := by decide +kernel
theorem d_M_parse_61 : decode b_M_parse 61 = .ok (.bipush 32, 2) := by decide +kernel
theorem d_M_parse_63 : decode b_M_parse 63 = .ok (.if_icmp .ne 16, 3) := by decide +kernel
theorem d_M_parse_66 : decode b_M_parse 66 = .ok (.aload_n 0, 1) := by decide +kernel
theorem d_M_parse_67 : decode b_M_parse 67 = .ok (.dup, 1) := by decide +kernel
theorem d_M_parse_68 : decode b_M_parse 68 = .ok (.getfield 125, 3) := by decide +kernel
theorem d_M_parse_71 : decode b_M_parse 71 = .ok (.iconst 1, 1) := by decide +kernel
theorem d_M_parse_72 : decode b_M_parse 72 = .ok (.iadd, 1) := by decide +kernel
theorem d_M_parse_73 : decode b_M_parse 73 = .ok (.putfield 125, 3) := by decide +kernel
theorem d_M_parse_76 : decode b_M_parse 76 = .ok (.goto (-19), 3) := by decide +kernel
theorem d_M_parse_79 : decode b_M_parse 79 = .ok (.aload_n 0, 1) := by decide +kernel
theorem d_M_parse_80 : decode b_M_parse 80 = .ok (.invokevirtual 132, 3) := by decide +kernel
theorem d_M_parse_83 : decode b_M_parse 83 = .ok (.istore_n 3, 1) := by decide +kernel
theorem d_M_parse_84 : decode b_M_parse 84 = .ok (.iconst 3, 1) := by decide +kernel
theorem d_M_parse_85 : decode b_M_parse 85 = .ok (.iload_n 1, 1) := by decide +kernel
theorem d_M_parse_86 : decode b_M_parse 86 = .ok (.imul, 1) := by decide +kernel
theorem d_M_parse_87 : decode b_M_parse 87 = .ok (.istore 4, 2) := by decide +kernel
theorem d_M_parse_89 : decode b_M_parse 89 = .ok (.iload_n 3, 1) := by decide +kernel
theorem d_M_parse_90 : decode b_M_parse 90 = .ok (.invokestatic 146, 3) := by decide +kernel
theorem d_M_parse_93 : decode b_M_parse 93 = .ok (.ifCond .ne 9, 3) := by decide +kernel
theorem d_M_parse_96 : decode b_M_parse 96 = .ok (.iload_n 3, 1) := by decide +kernel
theorem d_M_parse_97 : decode b_M_parse 97 = .ok (.bipush 40, 2) := by decide +kernel
theorem d_M_parse_99 : decode b_M_parse 99 = .ok (.if_icmp .ne 106, 3) := by decide +kernel
theorem d_M_parse_102 : decode b_M_parse 102 = .ok (.iload_n 3, 1) := by decide +kernel
theorem d_M_parse_103 : decode b_M_parse 103 = .ok (.bipush 40, 2) := by decide +kernel
theorem d_M_parse_105 : decode b_M_parse 105 = .ok (.if_icmp .ne 12, 3) := by decide +kernel
theorem d_M_parse_108 : decode b_M_parse 108 = .ok (.iload_n 1, 1) := by decide +kernel
theorem d_M_parse_109 : decode b_M_parse 109 = .ok (.bipush 8, 2) := by decide +kernel
theorem d_M_parse_111 : decode b_M_parse 111 = .ok (.if_icmp .ne 19, 3) := by decide +kernel
theorem d_M_parse_114 : decode b_M_parse 114 = .ok (.goto 12, 3) := by decide +kernel
theorem d_M_parse_117 : decode b_M_parse 117 = .ok (.aload_n 0, 1) := by decide +kernel
theorem d_M_parse_118 : decode b_M_parse 118 = .ok (.getfield 122, 3) := by decide +kernel
theorem d_M_parse_121 : decode b_M_parse 121 = .ok (.bipush 30, 2) := by decide +kernel
theorem d_M_parse_123 : decode b_M_parse 123 = .ok (.if_icmp .ne 7, 3) := by decide +kernel
theorem d_M_parse_126 : decode b_M_parse 126 = .ok (.aload_n 0, 1) := by decide +kernel
theorem d_M_parse_127 : decode b_M_parse 127 = .ok (.invokevirtual 136, 3) := by decide +kernel
theorem d_M_parse_130 : decode b_M_parse 130 = .ok (.aload_n 0, 1) := by decide +kernel
theorem d_M_parse_131 : decode b_M_parse 131 = .ok (.getfield 17, 3) := by decide +kernel
theorem d_M_parse_134 : decode b_M_parse 134 = .ok (.iload 4, 2) := by decide +kernel
theorem d_M_parse_136 : decode b_M_parse 136 = .ok (.iconst 2, 1) := by decide +kernel
theorem d_M_parse_137 : decode b_M_parse 137 = .ok (.iadd, 1) := by decide +kernel
theorem d_M_parse_138 : decode b_M_parse 138 = .ok (.baload, 1) := by decide +kernel
theorem d_M_parse_139 : decode b_M_parse 139 = .ok (.ifCond .eq 15, 3) := by decide +kernel
theorem d_M_parse_142 : decode b_M_parse 142 = .ok (.aload_n 0, 1) := by decide +kernel
theorem d_M_parse_143 : decode b_M_parse 143 = .ok (.iload 4, 2) := by decide +kernel
theorem d_M_parse_145 : decode b_M_parse 145 = .ok (.iconst 1, 1) := by decide +kernel
theorem d_M_parse_146 : decode b_M_parse 146 = .ok (.iadd, 1) := by decide +kernel
theorem d_M_parse_147 : decode b_M_parse 147 = .ok (.iload 4, 2) := by decide +kernel
theorem d_M_parse_149 : decode b_M_parse 149 = .ok (.iconst 2, 1) := by decide +kernel
theorem d_M_parse_150 : decode b_M_parse 150 = .ok (.iadd, 1) := by decide +kernel
theorem d_M_parse_151 : decode b_M_parse 151 = .ok (.invokevirtual 150, 3) := by decide +kernel
theorem d_M_parse_154 : decode b_M_parse 154 = .ok (.aload_n 0, 1) := by decide +kernel
theorem d_M_parse_155 : decode b_M_parse 155 = .ok (.getfield 128, 3) := by decide +kernel
theorem d_M_parse_158 : decode b_M_parse 158 = .ok (.ifCond .eq 6, 3) := by decide +kernel
theorem d_M_parse_161 : decode b_M_parse 161 = .ok (.goto (-115), 3) := by decide +kernel
theorem d_M_parse_164 : decode b_M_parse 164 = .ok (.iload_n 3, 1) := by decide +kernel
theorem d_M_parse_165 : decode b_M_parse 165 = .ok (.bipush 40, 2) := by decide +kernel
theorem d_M_parse_167 : decode b_M_parse 167 = .ok (.if_icmp .ne 19, 3) := by decide +kernel
theorem d_M_parse_170 : decode b_M_parse 170 = .ok (.iinc 1 1, 3) := by decide +kernel
theorem d_M_parse_173 : decode b_M_parse 173 = .ok (.aload_n 0, 1) := by decide +kernel
theorem d_M_parse_174 : decode b_M_parse 174 = .ok (.dup, 1) := by decide +kernel
theorem d_M_parse_175 : decode b_M_parse 175 = .ok (.getfield 125, 3) := by decide +kernel
theorem d_M_parse_178 : decode b_M_parse 178 = .ok (.iconst 1, 1) := by decide +kernel
theorem d_M_parse_179 : decode b_M_parse 179 = .ok (.iadd, 1) := by decide +kernel
theorem d_M_parse_180 : decode b_M_parse 180 = .ok (.putfield 125, 3) := by decide +kernel
theorem d_M_parse_183 : decode b_M_parse 183 = .ok (.goto 156, 3) := by decide +kernel
theorem d_M_parse_186 : decode b_M_parse 186 = .ok (.aload_n 0, 1) := by decide +kernel
theorem d_M_parse_187 : decode b_M_parse 187 = .ok (.invokevirtual 153, 3) := by decide +kernel
theorem d_M_parse_190 : decode b_M_parse 190 = .ok (.istore 5, 2) := by decide +kernel
theorem d_M_parse_192 : decode b_M_parse 192 = .ok (.aload_n 0, 1) := by decide +kernel
theorem d_M_parse_193 : decode b_M_parse 193 = .ok (.iload 4, 2) := by decide +kernel
theorem d_M_parse_195 : decode b_M_parse 195 = .ok (.iconst 2, 1) := by decide +kernel
theorem d_M_parse_196 : decode b_M_parse 196 = .ok (.iadd, 1) := by decide +kernel
theorem d_M_parse_197 : decode b_M_parse 197 = .ok (.iload 5, 2) := by decide +kernel
theorem d_M_parse_199 : decode b_M_parse 199 = .ok (.invokevirtual 156, 3) := by decide +kernel
theorem d_M_parse_202 : decode b_M_parse 202 = .ok (.goto 137, 3) := by decide +kernel
theorem d_M_parse_205 : decode b_M_parse 205 = .ok (.aload_n 0, 1) := by decide +kernel
theorem d_M_parse_206 : decode b_M_parse 206 = .ok (.getfield 17, 3) := by decide +kernel
theorem d_M_parse_209 : decode b_M_parse 209 = .ok (.iload 4, 2) := by decide +kernel
theorem d_M_parse_211 : decode b_M_parse 211 = .ok (.iconst 2, 1) := by decide +kernel
theorem d_M_parse_212 : decode b_M_parse 212 = .ok (.iadd, 1) := by decide +kernel
theorem d_M_parse_213 : decode b_M_parse 213 = .ok (.baload, 1) := by decide +kernel
theorem d_M_parse_214 : decode b_M_parse 214 = .ok (.ifCond .ne 10, 3) := by decide +kernel
theorem d_M_parse_217 : decode b_M_parse 217 = .ok (.aload_n 0, 1) := by decide +kernel
theorem d_M_parse_218 : decode b_M_parse 218 = .ok (.invokevirtual 136, 3) := by decide +kernel
theorem d_M_parse_221 : decode b_M_parse 221 = .ok (.goto 118, 3) := by decide +kernel
theorem d_M_parse_224 : decode b_M_parse 224 = .ok (.iload_n 3, 1) := by decide +kernel
theorem d_M_parse_225 : decode b_M_parse 225 = .ok (.invokestatic 159, 3) := by decide +kernel
theorem d_M_parse_228 : decode b_M_parse 228 = .ok (.ifCond .eq 14, 3) := by decide +kernel
theorem d_M_parse_231 : decode b_M_parse 231 = .ok (.aload_n 0, 1) := by decide +kernel
theorem d_M_parse_232 : decode b_M_parse 232 = .ok (.iload 4, 2) := by decide +kernel
theorem d_M_parse_234 : decode b_M_parse 234 = .ok (.iconst 2, 1) := by decide +kernel
theorem d_M_parse_235 : decode b_M_parse 235 = .ok (.iadd, 1) := by decide +kernel
theorem d_M_parse_236 : decode b_M_parse 236 = .ok (.invokevirtual 162, 3) := by decide +kernel
theorem d_M_parse_239 : decode b_M_parse 239 = .ok (.goto 100, 3) := by decide +kernel
theorem d_M_parse_242 : decode b_M_parse 242 = .ok (.iload_n 3, 1) := by decide +kernel
theorem d_M_parse_243 : decode b_M_parse 243 = .ok (.bipush 124, 2) := by decide +kernel
theorem d_M_parse_245 : decode b_M_parse 245 = .ok (.if_icmp .eq 21, 3) := by decide +kernel
theorem d_M_parse_248 : decode b_M_parse 248 = .ok (.iload_n 3, 1) := by decide +kernel
theorem d_M_parse_249 : decode b_M_parse 249 = .ok (.bipush 41, 2) := by decide +kernel
theorem d_M_parse_251 : decode b_M_parse 251 = .ok (.if_icmp .ne 7, 3) := by decide +kernel
theorem d_M_parse_254 : decode b_M_parse 254 = .ok (.iload_n 1, 1) := by decide +kernel
theorem d_M_parse_255 : decode b_M_parse 255 = .ok (.ifCond .gt 11, 3) := by decide +kernel
theorem d_M_parse_258 : decode b_M_parse 258 = .ok (.iload_n 3, 1) := by decide +kernel
theorem d_M_parse_259 : decode b_M_parse 259 = .ok (.ifCond .ge 76, 3) := by decide +kernel
theorem d_M_parse_262 : decode b_M_parse 262 = .ok (.iload_n 1, 1) := by decide +kernel
theorem d_M_parse_263 : decode b_M_parse 263 = .ok (.ifCond .ne 72, 3) := by decide +kernel
theorem d_M_parse_266 : decode b_M_parse 266 = .ok (.aload_n 0, 1) := by decide +kernel
theorem d_M_parse_267 : decode b_M_parse 267 = .ok (.iload 4, 2) := by decide +kernel
theorem d_M_parse_269 : decode b_M_parse 269 = .ok (.iconst 1, 1) := by decide +kernel
theorem d_M_parse_270 : decode b_M_parse 270 = .ok (.iadd, 1) := by decide +kernel
theorem d_M_parse_271 : decode b_M_parse 271 = .ok (.iload 4, 2) := by decide +kernel
theorem d_M_parse_273 : decode b_M_parse 273 = .ok (.iconst 2, 1) := by decide +kernel
theorem d_M_parse_274 : decode b_M_parse 274 = .ok (.iadd, 1) := by decide +kernel
theorem d_M_parse_275 : decode b_M_parse 275 = .ok (.invokevirtual 150, 3) := by decide +kernel
theorem d_M_parse_278 : decode b_M_parse 278 = .ok (.aload_n 0, 1) := by decide +kernel
theorem d_M_parse_279 : decode b_M_parse 279 = .ok (.iload 4, 2) := by decide +kernel
theorem d_M_parse_281 : decode b_M_parse 281 = .ok (.iconst 0, 1) := by decide +kernel
theorem d_M_parse_282 : decode b_M_parse 282 = .ok (.iadd, 1) := by decide +kernel
theorem d_M_parse_283 : decode b_M_parse 283 = .ok (.iload 4, 2) := by decide +kernel
theorem d_M_parse_285 : decode b_M_parse 285 = .ok (.iconst 1, 1) := by decide +kernel
theorem d_M_parse_286 : decode b_M_parse 286 = .ok (.iadd, 1) := by decide +kernel
theorem d_M_parse_287 : decode b_M_parse 287 = .ok (.invokevirtual 166, 3) := by decide +kernel
theorem d_M_parse_290 : decode b_M_parse 290 = .ok (.iload_n 3, 1) := by decide +kernel
theorem d_M_parse_291 : decode b_M_parse 291 = .ok (.ifCond .lt 7, 3) := by decide +kernel
theorem d_M_parse_294 : decode b_M_parse 294 = .ok (.iconst 1, 1) := by decide +kernel
theorem d_M_parse_295 : decode b_M_parse 295 = .ok (.goto 4, 3) := by decide +kernel
theorem d_M_parse_298 : decode b_M_parse 298 = .ok (.iconst 0, 1) := by decide +kernel
theorem d_M_parse_299 : decode b_M_parse 299 = .ok (.istore_n 2, 1) := by decide +kernel
theorem d_M_parse_300 : decode b_M_parse 300 = .ok (.aload_n 0, 1) := by decide +kernel
theorem d_M_parse_301 : decode b_M_parse 301 = .ok (.dup, 1) := by decide +kernel
theorem d_M_parse_302 : decode b_M_parse 302 = .ok (.getfield 125, 3) := by decide +kernel
theorem d_M_parse_305 : decode b_M_parse 305 = .ok (.iconst 1, 1) := by decide +kernel
theorem d_M_parse_306 : decode b_M_parse 306 = .ok (.iadd, 1) := by decide +kernel
theorem d_M_parse_307 : decode b_M_parse 307 = .ok (.putfield 125, 3) := by decide +kernel
theorem d_M_parse_310 : decode b_M_parse 310 = .ok (.iload_n 3, 1) := by decide +kernel
theorem d_M_parse_311 : decode b_M_parse 311 = .ok (.bipush 41, 2) := by decide +kernel
theorem d_M_parse_313 : decode b_M_parse 313 = .ok (.if_icmp .eq 6, 3) := by decide +kernel
theorem d_M_parse_316 : decode b_M_parse 316 = .ok (.goto (-270), 3) := by decide +kernel
theorem d_M_parse_319 : decode b_M_parse 319 = .ok (.iinc 1 (-1), 3) := by decide +kernel
theorem d_M_parse_322 : decode b_M_parse 322 = .ok (.aload_n 0, 1) := by decide +kernel
theorem d_M_parse_323 : decode b_M_parse 323 = .ok (.iload 4, 2) := by decide +kernel
theorem d_M_parse_325 : decode b_M_parse 325 = .ok (.iconst 1, 1) := by decide +kernel
theorem d_M_parse_326 : decode b_M_parse 326 = .ok (.isub, 1) := by decide +kernel
theorem d_M_parse_327 : decode b_M_parse 327 = .ok (.iload 4, 2) := by decide +kernel
theorem d_M_parse_329 : decode b_M_parse 329 = .ok (.invokevirtual 111, 3) := by decide +kernel
theorem d_M_parse_332 : decode b_M_parse 332 = .ok (.goto 7, 3) := by decide +kernel
theorem d_M_parse_335 : decode b_M_parse 335 = .ok (.aload_n 0, 1) := by decide +kernel
theorem d_M_parse_336 : decode b_M_parse 336 = .ok (.invokevirtual 136, 3) := by decide +kernel
theorem d_M_parse_339 : decode b_M_parse 339 = .ok (.goto (-293), 3) := by decide +kernel
theorem d_M_parse_342 : decode b_M_parse 342 = .ok (.return_, 1) := by decide +kernel
