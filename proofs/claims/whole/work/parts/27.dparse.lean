abbrev b_Pars_whole : ByteArray := prog_4_method_4_code
def y_Pars_whole : MethodName := ⟨RX2, "whole", "()LEmbedForge$Part;"⟩
def ws_Pars_whole : List Cond := .code y_Pars_whole b_Pars_whole 1 (Option.some (FieldType.object "EmbedForge$Part")) :: tb9
theorem hs_Pars_whole : y_Pars_whole.cls ≠ "java/lang/invoke/MethodHandle" ∧ y_Pars_whole.cls ≠ "java/lang/invoke/VarHandle" ∧ (parseMethodDescriptor y_Pars_whole.desc).map (fun d => d.parameters.length) = some 0 := by decide +kernel
theorem hv_Pars_whole : y_Pars_whole.cls = RX2 ∧ y_Pars_whole.cls ≠ "java/lang/invoke/MethodHandle" ∧ y_Pars_whole.cls ≠ "java/lang/invoke/VarHandle" ∧ (parseMethodDescriptor y_Pars_whole.desc).map (fun d => d.parameters.length) = some 0 := ⟨rfl, hs_Pars_whole⟩
abbrev b_Pars_parse : ByteArray := prog_4_method_2_code
def y_Pars_parse : MethodName := ⟨RX2, "parse", "([CI)Z"⟩
def ws_Pars_parse : List Cond := .code y_Pars_parse b_Pars_parse 3 (Option.some FieldType.boolean) :: tb9
theorem hs_Pars_parse : y_Pars_parse.cls ≠ "java/lang/invoke/MethodHandle" ∧ y_Pars_parse.cls ≠ "java/lang/invoke/VarHandle" ∧ (parseMethodDescriptor y_Pars_parse.desc).map (fun d => d.parameters.length) = some 2 := by decide +kernel
theorem hv_Pars_parse : y_Pars_parse.cls = RX2 ∧ y_Pars_parse.cls ≠ "java/lang/invoke/MethodHandle" ∧ y_Pars_parse.cls ≠ "java/lang/invoke/VarHandle" ∧ (parseMethodDescriptor y_Pars_parse.desc).map (fun d => d.parameters.length) = some 2 := ⟨rfl, hs_Pars_parse⟩
abbrev b_EF_compile : ByteArray := prog_1_method_4_code
def y_EF_compile : MethodName := ⟨RX5, "compile", "()I"⟩
def ws_EF_compile : List Cond := .code y_EF_compile b_EF_compile 2 (Option.some FieldType.int) :: tb9
theorem hs_EF_compile : y_EF_compile.cls ≠ "java/lang/invoke/MethodHandle" ∧ y_EF_compile.cls ≠ "java/lang/invoke/VarHandle" ∧ (parseMethodDescriptor y_EF_compile.desc).map (fun d => d.parameters.length) = some 0 := by decide +kernel
theorem hv_EF_compile : y_EF_compile.cls = RX5 ∧ y_EF_compile.cls ≠ "java/lang/invoke/MethodHandle" ∧ y_EF_compile.cls ≠ "java/lang/invoke/VarHandle" ∧ (parseMethodDescriptor y_EF_compile.desc).map (fun d => d.parameters.length) = some 0 := ⟨rfl, hs_EF_compile⟩
theorem k_61 : (.initialized "java/lang/Math" : Cond) ∈ tb9 := List.mem_filter.mpr ⟨List.mem_of_getElem? (i := 61) (by decide +kernel), by decide +kernel⟩
theorem k_244 : (.fieldLink RX5 23 "EmbedForge" "parser" "LEmbedForge$Parser;" : Cond) ∈ tb9 := List.mem_filter.mpr ⟨List.mem_of_getElem? (i := 244) (by decide +kernel), by decide +kernel⟩
theorem k_247 : (.fieldLink RX5 41 "EmbedForge" "spare" "LEmbedForge$Machine;" : Cond) ∈ tb9 := List.mem_filter.mpr ⟨List.mem_of_getElem? (i := 247) (by decide +kernel), by decide +kernel⟩
theorem k_375 : (.methodLink RX5 58 y_Pars_parse : Cond) ∈ tb9 := List.mem_filter.mpr ⟨List.mem_of_getElem? (i := 375) (by decide +kernel), by decide +kernel⟩
theorem k_376 : (.instanceMethod y_Pars_parse : Cond) ∈ tb9 := List.mem_filter.mpr ⟨List.mem_of_getElem? (i := 376) (by decide +kernel), by decide +kernel⟩
theorem k_377 : (.selects RX2 y_Pars_parse y_Pars_parse : Cond) ∈ tb9 := List.mem_filter.mpr ⟨List.mem_of_getElem? (i := 377) (by decide +kernel), by decide +kernel⟩
theorem k_378 : (.code y_Pars_parse b_Pars_parse 3 (Option.some FieldType.boolean) : Cond) ∈ tb9 := List.mem_filter.mpr ⟨List.mem_of_getElem? (i := 378) (by decide +kernel), by decide +kernel⟩
theorem k_379 : (.methodLink RX2 35 Lib.Math.min.name : Cond) ∈ tb9 := List.mem_filter.mpr ⟨List.mem_of_getElem? (i := 379) (by decide +kernel), by decide +kernel⟩
theorem k_380 : (.static Lib.Math.min.name : Cond) ∈ tb9 := List.mem_filter.mpr ⟨List.mem_of_getElem? (i := 380) (by decide +kernel), by decide +kernel⟩
theorem k_381 : (.code Lib.Math.min.name Lib.Math.min.code 2 (some .int) : Cond) ∈ tb9 := List.mem_filter.mpr ⟨List.mem_of_getElem? (i := 381) (by decide +kernel), by decide +kernel⟩
theorem k_382 : (.methodLink RX2 48 y_Net_restart : Cond) ∈ tb9 := List.mem_filter.mpr ⟨List.mem_of_getElem? (i := 382) (by decide +kernel), by decide +kernel⟩
theorem k_383 : (.instanceMethod y_Net_restart : Cond) ∈ tb9 := List.mem_filter.mpr ⟨List.mem_of_getElem? (i := 383) (by decide +kernel), by decide +kernel⟩
theorem k_384 : (.selects RX1 y_Net_restart y_Net_restart : Cond) ∈ tb9 := List.mem_filter.mpr ⟨List.mem_of_getElem? (i := 384) (by decide +kernel), by decide +kernel⟩
theorem k_385 : (.code y_Net_restart b_Net_restart 1 (Option.none : Option FieldType) : Cond) ∈ tb9 := List.mem_filter.mpr ⟨List.mem_of_getElem? (i := 385) (by decide +kernel), by decide +kernel⟩
theorem k_742 : (.methodLink RX5 62 y_Pars_place : Cond) ∈ tb9 := List.mem_filter.mpr ⟨List.mem_of_getElem? (i := 742) (by decide +kernel), by decide +kernel⟩
theorem k_743 : (.instanceMethod y_Pars_place : Cond) ∈ tb9 := List.mem_filter.mpr ⟨List.mem_of_getElem? (i := 743) (by decide +kernel), by decide +kernel⟩
theorem k_744 : (.selects RX2 y_Pars_place y_Pars_place : Cond) ∈ tb9 := List.mem_filter.mpr ⟨List.mem_of_getElem? (i := 744) (by decide +kernel), by decide +kernel⟩
theorem k_745 : (.code y_Pars_place b_Pars_place 1 (Option.some FieldType.int) : Cond) ∈ tb9 := List.mem_filter.mpr ⟨List.mem_of_getElem? (i := 745) (by decide +kernel), by decide +kernel⟩
theorem k_746 : (.methodLink RX5 70 y_Pars_whole : Cond) ∈ tb9 := List.mem_filter.mpr ⟨List.mem_of_getElem? (i := 746) (by decide +kernel), by decide +kernel⟩
theorem k_747 : (.instanceMethod y_Pars_whole : Cond) ∈ tb9 := List.mem_filter.mpr ⟨List.mem_of_getElem? (i := 747) (by decide +kernel), by decide +kernel⟩
theorem k_748 : (.selects RX2 y_Pars_whole y_Pars_whole : Cond) ∈ tb9 := List.mem_filter.mpr ⟨List.mem_of_getElem? (i := 748) (by decide +kernel), by decide +kernel⟩
theorem k_749 : (.code y_Pars_whole b_Pars_whole 1 (Option.some (FieldType.object "EmbedForge$Part")) : Cond) ∈ tb9 := List.mem_filter.mpr ⟨List.mem_of_getElem? (i := 749) (by decide +kernel), by decide +kernel⟩
theorem k_750 : (.methodLink RX5 74 y_Mach_build : Cond) ∈ tb9 := List.mem_filter.mpr ⟨List.mem_of_getElem? (i := 750) (by decide +kernel), by decide +kernel⟩
theorem k_751 : (.instanceMethod y_Mach_build : Cond) ∈ tb9 := List.mem_filter.mpr ⟨List.mem_of_getElem? (i := 751) (by decide +kernel), by decide +kernel⟩
theorem k_752 : (.selects RX0 y_Mach_build y_Mach_build : Cond) ∈ tb9 := List.mem_filter.mpr ⟨List.mem_of_getElem? (i := 752) (by decide +kernel), by decide +kernel⟩
theorem k_753 : (.code y_Mach_build b_Mach_build 5 (Option.some FieldType.boolean) : Cond) ∈ tb9 := List.mem_filter.mpr ⟨List.mem_of_getElem? (i := 753) (by decide +kernel), by decide +kernel⟩
theorem d_Pars_whole_0 : decode b_Pars_whole 0 = .ok (.aload_n 0, 1) := by decide +kernel
theorem d_Pars_whole_1 : decode b_Pars_whole 1 = .ok (.getfield 20, 3) := by decide +kernel
theorem d_Pars_whole_4 : decode b_Pars_whole 4 = .ok (.iconst 0, 1) := by decide +kernel
theorem d_Pars_whole_5 : decode b_Pars_whole 5 = .ok (.aaload, 1) := by decide +kernel
theorem d_Pars_whole_6 : decode b_Pars_whole 6 = .ok (.areturn, 1) := by decide +kernel
theorem d_Pars_parse_0 : decode b_Pars_parse 0 = .ok (.aload_n 0, 1) := by decide +kernel
theorem d_Pars_parse_1 : decode b_Pars_parse 1 = .ok (.aload_n 1, 1) := by decide +kernel
theorem d_Pars_parse_2 : decode b_Pars_parse 2 = .ok (.putfield 30, 3) := by decide +kernel
theorem d_Pars_parse_5 : decode b_Pars_parse 5 = .ok (.aload_n 0, 1) := by decide +kernel
theorem d_Pars_parse_6 : decode b_Pars_parse 6 = .ok (.iload_n 2, 1) := by decide +kernel
theorem d_Pars_parse_7 : decode b_Pars_parse 7 = .ok (.aload_n 1, 1) := by decide +kernel
theorem d_Pars_parse_8 : decode b_Pars_parse 8 = .ok (.arraylength, 1) := by decide +kernel
theorem d_Pars_parse_9 : decode b_Pars_parse 9 = .ok (.invokestatic 35, 3) := by decide +kernel
theorem d_Pars_parse_12 : decode b_Pars_parse 12 = .ok (.putfield 41, 3) := by decide +kernel
theorem d_Pars_parse_15 : decode b_Pars_parse 15 = .ok (.aload_n 0, 1) := by decide +kernel
theorem d_Pars_parse_16 : decode b_Pars_parse 16 = .ok (.iconst 0, 1) := by decide +kernel
theorem d_Pars_parse_17 : decode b_Pars_parse 17 = .ok (.putfield 45, 3) := by decide +kernel
theorem d_Pars_parse_20 : decode b_Pars_parse 20 = .ok (.aload_n 0, 1) := by decide +kernel
theorem d_Pars_parse_21 : decode b_Pars_parse 21 = .ok (.getfield 12, 3) := by decide +kernel
theorem d_Pars_parse_24 : decode b_Pars_parse 24 = .ok (.invokevirtual 48, 3) := by decide +kernel
theorem d_Pars_parse_27 : decode b_Pars_parse 27 = .ok (.aload_n 0, 1) := by decide +kernel
theorem d_Pars_parse_28 : decode b_Pars_parse 28 = .ok (.iconst 0, 1) := by decide +kernel
theorem d_Pars_parse_29 : decode b_Pars_parse 29 = .ok (.invokevirtual 51, 3) := by decide +kernel
theorem d_Pars_parse_32 : decode b_Pars_parse 32 = .ok (.ifCond .eq 14, 3) := by decide +kernel
theorem d_Pars_parse_35 : decode b_Pars_parse 35 = .ok (.aload_n 0, 1) := by decide +kernel
theorem d_Pars_parse_36 : decode b_Pars_parse 36 = .ok (.invokevirtual 55, 3) := by decide +kernel
theorem d_Pars_parse_39 : decode b_Pars_parse 39 = .ok (.ifCond .ne 7, 3) := by decide +kernel
theorem d_Pars_parse_42 : decode b_Pars_parse 42 = .ok (.iconst 1, 1) := by decide +kernel
theorem d_Pars_parse_43 : decode b_Pars_parse 43 = .ok (.goto 4, 3) := by decide +kernel
theorem d_Pars_parse_46 : decode b_Pars_parse 46 = .ok (.iconst 0, 1) := by decide +kernel
theorem d_Pars_parse_47 : decode b_Pars_parse 47 = .ok (.ireturn, 1) := by decide +kernel
theorem d_EF_compile_0 : decode b_EF_compile 0 = .ok (.aload_n 0, 1) := by decide +kernel
theorem d_EF_compile_1 : decode b_EF_compile 1 = .ok (.getfield 23, 3) := by decide +kernel
theorem d_EF_compile_4 : decode b_EF_compile 4 = .ok (.aload_n 0, 1) := by decide +kernel
theorem d_EF_compile_5 : decode b_EF_compile 5 = .ok (.getfield 9, 3) := by decide +kernel
theorem d_EF_compile_8 : decode b_EF_compile 8 = .ok (.aload_n 0, 1) := by decide +kernel
theorem d_EF_compile_9 : decode b_EF_compile 9 = .ok (.getfield 13, 3) := by decide +kernel
theorem d_EF_compile_12 : decode b_EF_compile 12 = .ok (.invokevirtual 58, 3) := by decide +kernel
theorem d_EF_compile_15 : decode b_EF_compile 15 = .ok (.ifCond .ne 22, 3) := by decide +kernel
theorem d_EF_compile_18 : decode b_EF_compile 18 = .ok (.aload_n 0, 1) := by decide +kernel
theorem d_EF_compile_19 : decode b_EF_compile 19 = .ok (.aload_n 0, 1) := by decide +kernel
theorem d_EF_compile_20 : decode b_EF_compile 20 = .ok (.getfield 23, 3) := by decide +kernel
theorem d_EF_compile_23 : decode b_EF_compile 23 = .ok (.invokevirtual 62, 3) := by decide +kernel
theorem d_EF_compile_26 : decode b_EF_compile 26 = .ok (.putfield 17, 3) := by decide +kernel
theorem d_EF_compile_29 : decode b_EF_compile 29 = .ok (.new 48, 3) := by decide +kernel
theorem d_EF_compile_32 : decode b_EF_compile 32 = .ok (.dup, 1) := by decide +kernel
theorem d_EF_compile_33 : decode b_EF_compile 33 = .ok (.invokespecial 50, 3) := by decide +kernel
theorem d_EF_compile_36 : decode b_EF_compile 36 = .ok (.athrow, 1) := by decide +kernel
theorem d_EF_compile_37 : decode b_EF_compile 37 = .ok (.aload_n 0, 1) := by decide +kernel
theorem d_EF_compile_38 : decode b_EF_compile 38 = .ok (.bipush (-2), 2) := by decide +kernel
theorem d_EF_compile_40 : decode b_EF_compile 40 = .ok (.putfield 17, 3) := by decide +kernel
theorem d_EF_compile_43 : decode b_EF_compile 43 = .ok (.aload_n 0, 1) := by decide +kernel
theorem d_EF_compile_44 : decode b_EF_compile 44 = .ok (.getfield 41, 3) := by decide +kernel
theorem d_EF_compile_47 : decode b_EF_compile 47 = .ok (.aload_n 0, 1) := by decide +kernel
theorem d_EF_compile_48 : decode b_EF_compile 48 = .ok (.getfield 23, 3) := by decide +kernel
theorem d_EF_compile_51 : decode b_EF_compile 51 = .ok (.getfield 66, 3) := by decide +kernel
theorem d_EF_compile_54 : decode b_EF_compile 54 = .ok (.aload_n 0, 1) := by decide +kernel
theorem d_EF_compile_55 : decode b_EF_compile 55 = .ok (.getfield 23, 3) := by decide +kernel
theorem d_EF_compile_58 : decode b_EF_compile 58 = .ok (.invokevirtual 70, 3) := by decide +kernel
theorem d_EF_compile_61 : decode b_EF_compile 61 = .ok (.invokevirtual 74, 3) := by decide +kernel
theorem d_EF_compile_64 : decode b_EF_compile 64 = .ok (.ifCond .ne 11, 3) := by decide +kernel
theorem d_EF_compile_67 : decode b_EF_compile 67 = .ok (.new 78, 3) := by decide +kernel
theorem d_EF_compile_70 : decode b_EF_compile 70 = .ok (.dup, 1) := by decide +kernel
theorem d_EF_compile_71 : decode b_EF_compile 71 = .ok (.invokespecial 80, 3) := by decide +kernel
theorem d_EF_compile_74 : decode b_EF_compile 74 = .ok (.athrow, 1) := by decide +kernel
theorem d_EF_compile_75 : decode b_EF_compile 75 = .ok (.aload_n 0, 1) := by decide +kernel
theorem d_EF_compile_76 : decode b_EF_compile 76 = .ok (.getfield 37, 3) := by decide +kernel
theorem d_EF_compile_79 : decode b_EF_compile 79 = .ok (.astore_n 1, 1) := by decide +kernel
theorem d_EF_compile_80 : decode b_EF_compile 80 = .ok (.aload_n 0, 1) := by decide +kernel
theorem d_EF_compile_81 : decode b_EF_compile 81 = .ok (.aload_n 0, 1) := by decide +kernel
theorem d_EF_compile_82 : decode b_EF_compile 82 = .ok (.getfield 41, 3) := by decide +kernel
theorem d_EF_compile_85 : decode b_EF_compile 85 = .ok (.putfield 37, 3) := by decide +kernel
theorem d_EF_compile_88 : decode b_EF_compile 88 = .ok (.aload_n 0, 1) := by decide +kernel
theorem d_EF_compile_89 : decode b_EF_compile 89 = .ok (.aload_n 1, 1) := by decide +kernel
theorem d_EF_compile_90 : decode b_EF_compile 90 = .ok (.putfield 41, 3) := by decide +kernel
theorem d_EF_compile_93 : decode b_EF_compile 93 = .ok (.aload_n 0, 1) := by decide +kernel
theorem d_EF_compile_94 : decode b_EF_compile 94 = .ok (.getfield 30, 3) := by decide +kernel
theorem d_EF_compile_97 : decode b_EF_compile 97 = .ok (.iconst 0, 1) := by decide +kernel
theorem d_EF_compile_98 : decode b_EF_compile 98 = .ok (.invokevirtual 81, 3) := by decide +kernel
theorem d_EF_compile_101 : decode b_EF_compile 101 = .ok (.aload_n 0, 1) := by decide +kernel
theorem d_EF_compile_102 : decode b_EF_compile 102 = .ok (.getfield 37, 3) := by decide +kernel
theorem d_EF_compile_105 : decode b_EF_compile 105 = .ok (.getfield 85, 3) := by decide +kernel
theorem d_EF_compile_108 : decode b_EF_compile 108 = .ok (.ireturn, 1) := by decide +kernel
