abbrev b_M_where : ByteArray := prog_8_method_30_code
def y_M_where : MethodName := ⟨RX6, "where", "()I"⟩
def ws_M_where : List Cond := .code y_M_where b_M_where 1 (Option.some FieldType.int) :: tb9
theorem hs_M_where : y_M_where.cls ≠ "java/lang/invoke/MethodHandle" ∧ y_M_where.cls ≠ "java/lang/invoke/VarHandle" ∧ (parseMethodDescriptor y_M_where.desc).map (fun d => d.parameters.length) = some 0 := by decide +kernel
theorem hv_M_where : y_M_where.cls = RX6 ∧ y_M_where.cls ≠ "java/lang/invoke/MethodHandle" ∧ y_M_where.cls ≠ "java/lang/invoke/VarHandle" ∧ (parseMethodDescriptor y_M_where.desc).map (fun d => d.parameters.length) = some 0 := ⟨rfl, hs_M_where⟩
abbrev b_M_way : ByteArray := prog_8_method_31_code
def y_M_way : MethodName := ⟨RX6, "way", "(II)I"⟩
def ws_M_way : List Cond := .code y_M_way b_M_way 3 (Option.some FieldType.int) :: tb9
theorem hs_M_way : y_M_way.cls ≠ "java/lang/invoke/MethodHandle" ∧ y_M_way.cls ≠ "java/lang/invoke/VarHandle" ∧ (parseMethodDescriptor y_M_way.desc).map (fun d => d.parameters.length) = some 2 := by decide +kernel
theorem hv_M_way : y_M_way.cls = RX6 ∧ y_M_way.cls ≠ "java/lang/invoke/MethodHandle" ∧ y_M_way.cls ≠ "java/lang/invoke/VarHandle" ∧ (parseMethodDescriptor y_M_way.desc).map (fun d => d.parameters.length) = some 2 := ⟨rfl, hs_M_way⟩
abbrev b_M_actions : ByteArray := prog_8_method_32_code
def y_M_actions : MethodName := ⟨RX6, "actions", "(II)I"⟩
def ws_M_actions : List Cond := .code y_M_actions b_M_actions 3 (Option.some FieldType.int) :: tb9
theorem hs_M_actions : y_M_actions.cls ≠ "java/lang/invoke/MethodHandle" ∧ y_M_actions.cls ≠ "java/lang/invoke/VarHandle" ∧ (parseMethodDescriptor y_M_actions.desc).map (fun d => d.parameters.length) = some 2 := by decide +kernel
theorem hv_M_actions : y_M_actions.cls = RX6 ∧ y_M_actions.cls ≠ "java/lang/invoke/MethodHandle" ∧ y_M_actions.cls ≠ "java/lang/invoke/VarHandle" ∧ (parseMethodDescriptor y_M_actions.desc).map (fun d => d.parameters.length) = some 2 := ⟨rfl, hs_M_actions⟩
abbrev b_M_state : ByteArray := prog_8_method_33_code
def y_M_state : MethodName := ⟨RX6, "state", "(II)I"⟩
def ws_M_state : List Cond := .code y_M_state b_M_state 3 (Option.some FieldType.int) :: tb9
theorem hs_M_state : y_M_state.cls ≠ "java/lang/invoke/MethodHandle" ∧ y_M_state.cls ≠ "java/lang/invoke/VarHandle" ∧ (parseMethodDescriptor y_M_state.desc).map (fun d => d.parameters.length) = some 2 := by decide +kernel
theorem hv_M_state : y_M_state.cls = RX6 ∧ y_M_state.cls ≠ "java/lang/invoke/MethodHandle" ∧ y_M_state.cls ≠ "java/lang/invoke/VarHandle" ∧ (parseMethodDescriptor y_M_state.desc).map (fun d => d.parameters.length) = some 2 := ⟨rfl, hs_M_state⟩
abbrev b_M_perform : ByteArray := prog_8_method_34_code
def y_M_perform : MethodName := ⟨RX6, "perform", "(I)I"⟩
def ws_M_perform : List Cond := .code y_M_perform b_M_perform 3 (Option.some FieldType.int) :: tb9
theorem hs_M_perform : y_M_perform.cls ≠ "java/lang/invoke/MethodHandle" ∧ y_M_perform.cls ≠ "java/lang/invoke/VarHandle" ∧ (parseMethodDescriptor y_M_perform.desc).map (fun d => d.parameters.length) = some 1 := by decide +kernel
theorem hv_M_perform : y_M_perform.cls = RX6 ∧ y_M_perform.cls ≠ "java/lang/invoke/MethodHandle" ∧ y_M_perform.cls ≠ "java/lang/invoke/VarHandle" ∧ (parseMethodDescriptor y_M_perform.desc).map (fun d => d.parameters.length) = some 1 := ⟨rfl, hs_M_perform⟩
abbrev b_M_feed : ByteArray := prog_8_method_35_code
def y_M_feed : MethodName := ⟨RX6, "feed", "(I)I"⟩
def ws_M_feed : List Cond := .code y_M_feed b_M_feed 4 (Option.some FieldType.int) :: tb9
theorem hs_M_feed : y_M_feed.cls ≠ "java/lang/invoke/MethodHandle" ∧ y_M_feed.cls ≠ "java/lang/invoke/VarHandle" ∧ (parseMethodDescriptor y_M_feed.desc).map (fun d => d.parameters.length) = some 1 := by decide +kernel
theorem hv_M_feed : y_M_feed.cls = RX6 ∧ y_M_feed.cls ≠ "java/lang/invoke/MethodHandle" ∧ y_M_feed.cls ≠ "java/lang/invoke/VarHandle" ∧ (parseMethodDescriptor y_M_feed.desc).map (fun d => d.parameters.length) = some 1 := ⟨rfl, hs_M_feed⟩
abbrev b_M_end : ByteArray := prog_8_method_36_code
def y_M_end : MethodName := ⟨RX6, "end", "()I"⟩
def ws_M_end : List Cond := .code y_M_end b_M_end 1 (Option.some FieldType.int) :: tb9
theorem hs_M_end : y_M_end.cls ≠ "java/lang/invoke/MethodHandle" ∧ y_M_end.cls ≠ "java/lang/invoke/VarHandle" ∧ (parseMethodDescriptor y_M_end.desc).map (fun d => d.parameters.length) = some 0 := by decide +kernel
theorem hv_M_end : y_M_end.cls = RX6 ∧ y_M_end.cls ≠ "java/lang/invoke/MethodHandle" ∧ y_M_end.cls ≠ "java/lang/invoke/VarHandle" ∧ (parseMethodDescriptor y_M_end.desc).map (fun d => d.parameters.length) = some 0 := ⟨rfl, hs_M_end⟩
abbrev b_M_jump : ByteArray := prog_8_method_37_code
def y_M_jump : MethodName := ⟨RX6, "jump", "(I)I"⟩
def ws_M_jump : List Cond := .code y_M_jump b_M_jump 3 (Option.some FieldType.int) :: tb9
theorem hs_M_jump : y_M_jump.cls ≠ "java/lang/invoke/MethodHandle" ∧ y_M_jump.cls ≠ "java/lang/invoke/VarHandle" ∧ (parseMethodDescriptor y_M_jump.desc).map (fun d => d.parameters.length) = some 1 := by decide +kernel
theorem hv_M_jump : y_M_jump.cls = RX6 ∧ y_M_jump.cls ≠ "java/lang/invoke/MethodHandle" ∧ y_M_jump.cls ≠ "java/lang/invoke/VarHandle" ∧ (parseMethodDescriptor y_M_jump.desc).map (fun d => d.parameters.length) = some 1 := ⟨rfl, hs_M_jump⟩
abbrev b_M_count : ByteArray := prog_8_method_38_code
def y_M_count : MethodName := ⟨RX6, "count", "(I)I"⟩
def ws_M_count : List Cond := .code y_M_count b_M_count 4 (Option.some FieldType.int) :: tb9
theorem hs_M_count : y_M_count.cls ≠ "java/lang/invoke/MethodHandle" ∧ y_M_count.cls ≠ "java/lang/invoke/VarHandle" ∧ (parseMethodDescriptor y_M_count.desc).map (fun d => d.parameters.length) = some 1 := by decide +kernel
theorem hv_M_count : y_M_count.cls = RX6 ∧ y_M_count.cls ≠ "java/lang/invoke/MethodHandle" ∧ y_M_count.cls ≠ "java/lang/invoke/VarHandle" ∧ (parseMethodDescriptor y_M_count.desc).map (fun d => d.parameters.length) = some 1 := ⟨rfl, hs_M_count⟩
theorem k_47 : (.selects RX6 y_M_perform y_M_perform : Cond) ∈ tb9 := List.mem_filter.mpr ⟨List.mem_of_getElem? (i := 47) (by decide +kernel), by decide +kernel⟩
theorem k_1181 : (.methodLink RX6 209 y_M_perform : Cond) ∈ tb9 := List.mem_filter.mpr ⟨List.mem_of_getElem? (i := 1181) (by decide +kernel), by decide +kernel⟩
theorem k_1183 : (.instanceMethod y_M_perform : Cond) ∈ tb9 := List.mem_filter.mpr ⟨List.mem_of_getElem? (i := 1183) (by decide +kernel), by decide +kernel⟩
theorem k_1184 : (.code y_M_perform b_M_perform 3 (Option.some FieldType.int) : Cond) ∈ tb9 := List.mem_filter.mpr ⟨List.mem_of_getElem? (i := 1184) (by decide +kernel), by decide +kernel⟩
theorem d_M_where_0 : decode b_M_where 0 = .ok (.aload_n 0, 1) := by decide +kernel
theorem d_M_where_1 : decode b_M_where 1 = .ok (.iconst 0, 1) := by decide +kernel
theorem d_M_where_2 : decode b_M_where 2 = .ok (.putfield 93, 3) := by decide +kernel
theorem d_M_where_5 : decode b_M_where 5 = .ok (.aload_n 0, 1) := by decide +kernel
theorem d_M_where_6 : decode b_M_where 6 = .ok (.getfield 13, 3) := by decide +kernel
theorem d_M_where_9 : decode b_M_where 9 = .ok (.ireturn, 1) := by decide +kernel
theorem d_M_way_0 : decode b_M_way 0 = .ok (.aload_n 0, 1) := by decide +kernel
theorem d_M_way_1 : decode b_M_way 1 = .ok (.iload_n 2, 1) := by decide +kernel
theorem d_M_way_2 : decode b_M_way 2 = .ok (.iconst 0, 1) := by decide +kernel
theorem d_M_way_3 : decode b_M_way 3 = .ok (.iconst 3, 1) := by decide +kernel
theorem d_M_way_4 : decode b_M_way 4 = .ok (.invokestatic 96, 3) := by decide +kernel
theorem d_M_way_7 : decode b_M_way 7 = .ok (.ifCond .ne 7, 3) := by decide +kernel
theorem d_M_way_10 : decode b_M_way 10 = .ok (.iconst 1, 1) := by decide +kernel
theorem d_M_way_11 : decode b_M_way 11 = .ok (.goto 22, 3) := by decide +kernel
theorem d_M_way_14 : decode b_M_way 14 = .ok (.iload_n 1, 1) := by decide +kernel
theorem d_M_way_15 : decode b_M_way 15 = .ok (.iconst 0, 1) := by decide +kernel
theorem d_M_way_16 : decode b_M_way 16 = .ok (.aload_n 0, 1) := by decide +kernel
theorem d_M_way_17 : decode b_M_way 17 = .ok (.getfield 191, 3) := by decide +kernel
theorem d_M_way_20 : decode b_M_way 20 = .ok (.iconst 1, 1) := by decide +kernel
theorem d_M_way_21 : decode b_M_way 21 = .ok (.isub, 1) := by decide +kernel
theorem d_M_way_22 : decode b_M_way 22 = .ok (.invokestatic 96, 3) := by decide +kernel
theorem d_M_way_25 : decode b_M_way 25 = .ok (.ifCond .ne 7, 3) := by decide +kernel
theorem d_M_way_28 : decode b_M_way 28 = .ok (.iconst 2, 1) := by decide +kernel
theorem d_M_way_29 : decode b_M_way 29 = .ok (.goto 4, 3) := by decide +kernel
theorem d_M_way_32 : decode b_M_way 32 = .ok (.iconst 0, 1) := by decide +kernel
theorem d_M_way_33 : decode b_M_way 33 = .ok (.putfield 93, 3) := by decide +kernel
theorem d_M_way_36 : decode b_M_way 36 = .ok (.aload_n 0, 1) := by decide +kernel
theorem d_M_way_37 : decode b_M_way 37 = .ok (.getfield 93, 3) := by decide +kernel
theorem d_M_way_40 : decode b_M_way 40 = .ok (.ifCond .le 7, 3) := by decide +kernel
theorem d_M_way_43 : decode b_M_way 43 = .ok (.iconst 0, 1) := by decide +kernel
theorem d_M_way_44 : decode b_M_way 44 = .ok (.goto 13, 3) := by decide +kernel
theorem d_M_way_47 : decode b_M_way 47 = .ok (.aload_n 0, 1) := by decide +kernel
theorem d_M_way_48 : decode b_M_way 48 = .ok (.getfield 75, 3) := by decide +kernel
theorem d_M_way_51 : decode b_M_way 51 = .ok (.iconst 4, 1) := by decide +kernel
theorem d_M_way_52 : decode b_M_way 52 = .ok (.iload_n 1, 1) := by decide +kernel
theorem d_M_way_53 : decode b_M_way 53 = .ok (.imul, 1) := by decide +kernel
theorem d_M_way_54 : decode b_M_way 54 = .ok (.iload_n 2, 1) := by decide +kernel
theorem d_M_way_55 : decode b_M_way 55 = .ok (.iadd, 1) := by decide +kernel
theorem d_M_way_56 : decode b_M_way 56 = .ok (.iaload, 1) := by decide +kernel
theorem d_M_way_57 : decode b_M_way 57 = .ok (.ireturn, 1) := by decide +kernel
theorem d_M_actions_0 : decode b_M_actions 0 = .ok (.aload_n 0, 1) := by decide +kernel
theorem d_M_actions_1 : decode b_M_actions 1 = .ok (.iload_n 2, 1) := by decide +kernel
theorem d_M_actions_2 : decode b_M_actions 2 = .ok (.iconst 0, 1) := by decide +kernel
theorem d_M_actions_3 : decode b_M_actions 3 = .ok (.iconst 3, 1) := by decide +kernel
theorem d_M_actions_4 : decode b_M_actions 4 = .ok (.invokestatic 96, 3) := by decide +kernel
theorem d_M_actions_7 : decode b_M_actions 7 = .ok (.ifCond .ne 7, 3) := by decide +kernel
theorem d_M_actions_10 : decode b_M_actions 10 = .ok (.iconst 1, 1) := by decide +kernel
theorem d_M_actions_11 : decode b_M_actions 11 = .ok (.goto 22, 3) := by decide +kernel
theorem d_M_actions_14 : decode b_M_actions 14 = .ok (.iload_n 1, 1) := by decide +kernel
theorem d_M_actions_15 : decode b_M_actions 15 = .ok (.iconst 0, 1) := by decide +kernel
theorem d_M_actions_16 : decode b_M_actions 16 = .ok (.aload_n 0, 1) := by decide +kernel
theorem d_M_actions_17 : decode b_M_actions 17 = .ok (.getfield 191, 3) := by decide +kernel
theorem d_M_actions_20 : decode b_M_actions 20 = .ok (.iconst 1, 1) := by decide +kernel
theorem d_M_actions_21 : decode b_M_actions 21 = .ok (.isub, 1) := by decide +kernel
theorem d_M_actions_22 : decode b_M_actions 22 = .ok (.invokestatic 96, 3) := by decide +kernel
theorem d_M_actions_25 : decode b_M_actions 25 = .ok (.ifCond .ne 7, 3) := by decide +kernel
theorem d_M_actions_28 : decode b_M_actions 28 = .ok (.iconst 2, 1) := by decide +kernel
theorem d_M_actions_29 : decode b_M_actions 29 = .ok (.goto 4, 3) := by decide +kernel
theorem d_M_actions_32 : decode b_M_actions 32 = .ok (.iconst 0, 1) := by decide +kernel
theorem d_M_actions_33 : decode b_M_actions 33 = .ok (.putfield 93, 3) := by decide +kernel
theorem d_M_actions_36 : decode b_M_actions 36 = .ok (.aload_n 0, 1) := by decide +kernel
theorem d_M_actions_37 : decode b_M_actions 37 = .ok (.getfield 93, 3) := by decide +kernel
theorem d_M_actions_40 : decode b_M_actions 40 = .ok (.ifCond .le 7, 3) := by decide +kernel
theorem d_M_actions_43 : decode b_M_actions 43 = .ok (.iconst 0, 1) := by decide +kernel
theorem d_M_actions_44 : decode b_M_actions 44 = .ok (.goto 13, 3) := by decide +kernel
theorem d_M_actions_47 : decode b_M_actions 47 = .ok (.aload_n 0, 1) := by decide +kernel
theorem d_M_actions_48 : decode b_M_actions 48 = .ok (.getfield 78, 3) := by decide +kernel
theorem d_M_actions_51 : decode b_M_actions 51 = .ok (.iconst 4, 1) := by decide +kernel
theorem d_M_actions_52 : decode b_M_actions 52 = .ok (.iload_n 1, 1) := by decide +kernel
theorem d_M_actions_53 : decode b_M_actions 53 = .ok (.imul, 1) := by decide +kernel
theorem d_M_actions_54 : decode b_M_actions 54 = .ok (.iload_n 2, 1) := by decide +kernel
theorem d_M_actions_55 : decode b_M_actions 55 = .ok (.iadd, 1) := by decide +kernel
theorem d_M_actions_56 : decode b_M_actions 56 = .ok (.iaload, 1) := by decide +kernel
theorem d_M_actions_57 : decode b_M_actions 57 = .ok (.ireturn, 1) := by decide +kernel
theorem d_M_state_0 : decode b_M_state 0 = .ok (.aload_n 0, 1) := by decide +kernel
theorem d_M_state_1 : decode b_M_state 1 = .ok (.iload_n 2, 1) := by decide +kernel
theorem d_M_state_2 : decode b_M_state 2 = .ok (.iconst 0, 1) := by decide +kernel
theorem d_M_state_3 : decode b_M_state 3 = .ok (.iconst 3, 1) := by decide +kernel
theorem d_M_state_4 : decode b_M_state 4 = .ok (.invokestatic 96, 3) := by decide +kernel
theorem d_M_state_7 : decode b_M_state 7 = .ok (.ifCond .ne 7, 3) := by decide +kernel
theorem d_M_state_10 : decode b_M_state 10 = .ok (.iconst 1, 1) := by decide +kernel
theorem d_M_state_11 : decode b_M_state 11 = .ok (.goto 22, 3) := by decide +kernel
theorem d_M_state_14 : decode b_M_state 14 = .ok (.iload_n 1, 1) := by decide +kernel
theorem d_M_state_15 : decode b_M_state 15 = .ok (.iconst 0, 1) := by decide +kernel
theorem d_M_state_16 : decode b_M_state 16 = .ok (.aload_n 0, 1) := by decide +kernel
theorem d_M_state_17 : decode b_M_state 17 = .ok (.getfield 191, 3) := by decide +kernel
theorem d_M_state_20 : decode b_M_state 20 = .ok (.iconst 1, 1) := by decide +kernel
theorem d_M_state_21 : decode b_M_state 21 = .ok (.isub, 1) := by decide +kernel
theorem d_M_state_22 : decode b_M_state 22 = .ok (.invokestatic 96, 3) := by decide +kernel
theorem d_M_state_25 : decode b_M_state 25 = .ok (.ifCond .ne 7, 3) := by decide +kernel
theorem d_M_state_28 : decode b_M_state 28 = .ok (.iconst 2, 1) := by decide +kernel
theorem d_M_state_29 : decode b_M_state 29 = .ok (.goto 4, 3) := by decide +kernel
theorem d_M_state_32 : decode b_M_state 32 = .ok (.iconst 0, 1) := by decide +kernel
theorem d_M_state_33 : decode b_M_state 33 = .ok (.putfield 93, 3) := by decide +kernel
theorem d_M_state_36 : decode b_M_state 36 = .ok (.aload_n 0, 1) := by decide +kernel
theorem d_M_state_37 : decode b_M_state 37 = .ok (.getfield 93, 3) := by decide +kernel
theorem d_M_state_40 : decode b_M_state 40 = .ok (.ifCond .le 5, 3) := by decide +kernel
theorem d_M_state_43 : decode b_M_state 43 = .ok (.iconst 0, 1) := by decide +kernel
theorem d_M_state_44 : decode b_M_state 44 = .ok (.ireturn, 1) := by decide +kernel
theorem d_M_state_45 : decode b_M_state 45 = .ok (.iload_n 2, 1) := by decide +kernel
theorem d_M_state_46 : decode b_M_state 46 = .ok (.ifCond .ne 20, 3) := by decide +kernel
theorem d_M_state_49 : decode b_M_state 49 = .ok (.aload_n 0, 1) := by decide +kernel
theorem d_M_state_50 : decode b_M_state 50 = .ok (.getfield 90, 3) := by decide +kernel
theorem d_M_state_53 : decode b_M_state 53 = .ok (.iload_n 1, 1) := by decide +kernel
theorem d_M_state_54 : decode b_M_state 54 = .ok (.baload, 1) := by decide +kernel
theorem d_M_state_55 : decode b_M_state 55 = .ok (.ifCond .eq 7, 3) := by decide +kernel
theorem d_M_state_58 : decode b_M_state 58 = .ok (.iconst 1, 1) := by decide +kernel
theorem d_M_state_59 : decode b_M_state 59 = .ok (.goto 41, 3) := by decide +kernel
theorem d_M_state_62 : decode b_M_state 62 = .ok (.iconst 0, 1) := by decide +kernel
theorem d_M_state_63 : decode b_M_state 63 = .ok (.goto 37, 3) := by decide +kernel
theorem d_M_state_66 : decode b_M_state 66 = .ok (.iload_n 2, 1) := by decide +kernel
theorem d_M_state_67 : decode b_M_state 67 = .ok (.iconst 1, 1) := by decide +kernel
theorem d_M_state_68 : decode b_M_state 68 = .ok (.if_icmp .ne 12, 3) := by decide +kernel
theorem d_M_state_71 : decode b_M_state 71 = .ok (.aload_n 0, 1) := by decide +kernel
theorem d_M_state_72 : decode b_M_state 72 = .ok (.getfield 81, 3) := by decide +kernel
theorem d_M_state_75 : decode b_M_state 75 = .ok (.iload_n 1, 1) := by decide +kernel
theorem d_M_state_76 : decode b_M_state 76 = .ok (.iaload, 1) := by decide +kernel
theorem d_M_state_77 : decode b_M_state 77 = .ok (.goto 23, 3) := by decide +kernel
theorem d_M_state_80 : decode b_M_state 80 = .ok (.iload_n 2, 1) := by decide +kernel
theorem d_M_state_81 : decode b_M_state 81 = .ok (.iconst 2, 1) := by decide +kernel
theorem d_M_state_82 : decode b_M_state 82 = .ok (.if_icmp .ne 12, 3) := by decide +kernel
theorem d_M_state_85 : decode b_M_state 85 = .ok (.aload_n 0, 1) := by decide +kernel
theorem d_M_state_86 : decode b_M_state 86 = .ok (.getfield 84, 3) := by decide +kernel
theorem d_M_state_89 : decode b_M_state 89 = .ok (.iload_n 1, 1) := by decide +kernel
theorem d_M_state_90 : decode b_M_state 90 = .ok (.iaload, 1) := by decide +kernel
theorem d_M_state_91 : decode b_M_state 91 = .ok (.goto 9, 3) := by decide +kernel
theorem d_M_state_94 : decode b_M_state 94 = .ok (.aload_n 0, 1) := by decide +kernel
theorem d_M_state_95 : decode b_M_state 95 = .ok (.getfield 72, 3) := by decide +kernel
theorem d_M_state_98 : decode b_M_state 98 = .ok (.iload_n 1, 1) := by decide +kernel
theorem d_M_state_99 : decode b_M_state 99 = .ok (.iaload, 1) := by decide +kernel
theorem d_M_state_100 : decode b_M_state 100 = .ok (.ireturn, 1) := by decide +kernel
theorem d_M_perform_0 : decode b_M_perform 0 = .ok (.iconst 0, 1) := by decide +kernel
theorem d_M_perform_1 : decode b_M_perform 1 = .ok (.istore_n 2, 1) := by decide +kernel
theorem d_M_perform_2 : decode b_M_perform 2 = .ok (.iload_n 2, 1) := by decide +kernel
theorem d_M_perform_3 : decode b_M_perform 3 = .ok (.bipush 10, 2) := by decide +kernel
theorem d_M_perform_5 : decode b_M_perform 5 = .ok (.if_icmp .ge 27, 3) := by decide +kernel
theorem d_M_perform_8 : decode b_M_perform 8 = .ok (.iload_n 1, 1) := by decide +kernel
theorem d_M_perform_9 : decode b_M_perform 9 = .ok (.iload_n 2, 1) := by decide +kernel
theorem d_M_perform_10 : decode b_M_perform 10 = .ok (.invokestatic 107, 3) := by decide +kernel
theorem d_M_perform_13 : decode b_M_perform 13 = .ok (.ifCond .eq 13, 3) := by decide +kernel
theorem d_M_perform_16 : decode b_M_perform 16 = .ok (.aload_n 0, 1) := by decide +kernel
theorem d_M_perform_17 : decode b_M_perform 17 = .ok (.getfield 87, 3) := by decide +kernel
theorem d_M_perform_20 : decode b_M_perform 20 = .ok (.iload_n 2, 1) := by decide +kernel
theorem d_M_perform_21 : decode b_M_perform 21 = .ok (.dup2, 1) := by decide +kernel
theorem d_M_perform_22 : decode b_M_perform 22 = .ok (.iaload, 1) := by decide +kernel
theorem d_M_perform_23 : decode b_M_perform 23 = .ok (.iconst 1, 1) := by decide +kernel
theorem d_M_perform_24 : decode b_M_perform 24 = .ok (.iadd, 1) := by decide +kernel
theorem d_M_perform_25 : decode b_M_perform 25 = .ok (.iastore, 1) := by decide +kernel
theorem d_M_perform_26 : decode b_M_perform 26 = .ok (.iinc 2 1, 3) := by decide +kernel
theorem d_M_perform_29 : decode b_M_perform 29 = .ok (.goto (-27), 3) := by decide +kernel
theorem d_M_perform_32 : decode b_M_perform 32 = .ok (.iload_n 1, 1) := by decide +kernel
theorem d_M_perform_33 : decode b_M_perform 33 = .ok (.ireturn, 1) := by decide +kernel
theorem d_M_feed_0 : decode b_M_feed 0 = .ok (.iload_n 1, 1) := by decide +kernel
theorem d_M_feed_1 : decode b_M_feed 1 = .ok (.iconst 0, 1) := by decide +kernel
theorem d_M_feed_2 : decode b_M_feed 2 = .ok (.iconst 3, 1) := by decide +kernel
theorem d_M_feed_3 : decode b_M_feed 3 = .ok (.invokestatic 96, 3) := by decide +kernel
theorem d_M_feed_6 : decode b_M_feed 6 = .ok (.ifCond .ne 9, 3) := by decide +kernel
theorem d_M_feed_9 : decode b_M_feed 9 = .ok (.aload_n 0, 1) := by decide +kernel
theorem d_M_feed_10 : decode b_M_feed 10 = .ok (.iconst 1, 1) := by decide +kernel
theorem d_M_feed_11 : decode b_M_feed 11 = .ok (.invokevirtual 100, 3) := by decide +kernel
theorem d_M_feed_14 : decode b_M_feed 14 = .ok (.ireturn, 1) := by decide +kernel
theorem d_M_feed_15 : decode b_M_feed 15 = .ok (.aload_n 0, 1) := by decide +kernel
theorem d_M_feed_16 : decode b_M_feed 16 = .ok (.getfield 191, 3) := by decide +kernel
theorem d_M_feed_19 : decode b_M_feed 19 = .ok (.ifCond .eq 10, 3) := by decide +kernel
theorem d_M_feed_22 : decode b_M_feed 22 = .ok (.aload_n 0, 1) := by decide +kernel
theorem d_M_feed_23 : decode b_M_feed 23 = .ok (.getfield 203, 3) := by decide +kernel
theorem d_M_feed_26 : decode b_M_feed 26 = .ok (.ifCond .eq 9, 3) := by decide +kernel
theorem d_M_feed_29 : decode b_M_feed 29 = .ok (.aload_n 0, 1) := by decide +kernel
theorem d_M_feed_30 : decode b_M_feed 30 = .ok (.iconst 2, 1) := by decide +kernel
theorem d_M_feed_31 : decode b_M_feed 31 = .ok (.invokevirtual 100, 3) := by decide +kernel
theorem d_M_feed_34 : decode b_M_feed 34 = .ok (.ireturn, 1) := by decide +kernel
theorem d_M_feed_35 : decode b_M_feed 35 = .ok (.aload_n 0, 1) := by decide +kernel
theorem d_M_feed_36 : decode b_M_feed 36 = .ok (.getfield 75, 3) := by decide +kernel
theorem d_M_feed_39 : decode b_M_feed 39 = .ok (.iconst 4, 1) := by decide +kernel
theorem d_M_feed_40 : decode b_M_feed 40 = .ok (.aload_n 0, 1) := by decide +kernel
theorem d_M_feed_41 : decode b_M_feed 41 = .ok (.getfield 200, 3) := by decide +kernel
theorem d_M_feed_44 : decode b_M_feed 44 = .ok (.imul, 1) := by decide +kernel
theorem d_M_feed_45 : decode b_M_feed 45 = .ok (.iload_n 1, 1) := by decide +kernel
theorem d_M_feed_46 : decode b_M_feed 46 = .ok (.iadd, 1) := by decide +kernel
theorem d_M_feed_47 : decode b_M_feed 47 = .ok (.iaload, 1) := by decide +kernel
theorem d_M_feed_48 : decode b_M_feed 48 = .ok (.istore_n 2, 1) := by decide +kernel
theorem d_M_feed_49 : decode b_M_feed 49 = .ok (.aload_n 0, 1) := by decide +kernel
theorem d_M_feed_50 : decode b_M_feed 50 = .ok (.getfield 78, 3) := by decide +kernel
theorem d_M_feed_53 : decode b_M_feed 53 = .ok (.iconst 4, 1) := by decide +kernel
theorem d_M_feed_54 : decode b_M_feed 54 = .ok (.aload_n 0, 1) := by decide +kernel
theorem d_M_feed_55 : decode b_M_feed 55 = .ok (.getfield 200, 3) := by decide +kernel
theorem d_M_feed_58 : decode b_M_feed 58 = .ok (.imul, 1) := by decide +kernel
theorem d_M_feed_59 : decode b_M_feed 59 = .ok (.iload_n 1, 1) := by decide +kernel
theorem d_M_feed_60 : decode b_M_feed 60 = .ok (.iadd, 1) := by decide +kernel
theorem d_M_feed_61 : decode b_M_feed 61 = .ok (.iaload, 1) := by decide +kernel
theorem d_M_feed_62 : decode b_M_feed 62 = .ok (.istore_n 3, 1) := by decide +kernel
theorem d_M_feed_63 : decode b_M_feed 63 = .ok (.iload_n 2, 1) := by decide +kernel
theorem d_M_feed_64 : decode b_M_feed 64 = .ok (.ifCond .ge 9, 3) := by decide +kernel
theorem d_M_feed_67 : decode b_M_feed 67 = .ok (.aload_n 0, 1) := by decide +kernel
theorem d_M_feed_68 : decode b_M_feed 68 = .ok (.iconst 3, 1) := by decide +kernel
theorem d_M_feed_69 : decode b_M_feed 69 = .ok (.invokevirtual 100, 3) := by decide +kernel
theorem d_M_feed_72 : decode b_M_feed 72 = .ok (.ireturn, 1) := by decide +kernel
theorem d_M_feed_73 : decode b_M_feed 73 = .ok (.aload_n 0, 1) := by decide +kernel
theorem d_M_feed_74 : decode b_M_feed 74 = .ok (.iconst 0, 1) := by decide +kernel
theorem d_M_feed_75 : decode b_M_feed 75 = .ok (.putfield 93, 3) := by decide +kernel
theorem d_M_feed_78 : decode b_M_feed 78 = .ok (.aload_n 0, 1) := by decide +kernel
theorem d_M_feed_79 : decode b_M_feed 79 = .ok (.iload_n 2, 1) := by decide +kernel
theorem d_M_feed_80 : decode b_M_feed 80 = .ok (.putfield 200, 3) := by decide +kernel
theorem d_M_feed_83 : decode b_M_feed 83 = .ok (.aload_n 0, 1) := by decide +kernel
theorem d_M_feed_84 : decode b_M_feed 84 = .ok (.dup, 1) := by decide +kernel
theorem d_M_feed_85 : decode b_M_feed 85 = .ok (.getfield 206, 3) := by decide +kernel
theorem d_M_feed_88 : decode b_M_feed 88 = .ok (.iconst 1, 1) := by decide +kernel
theorem d_M_feed_89 : decode b_M_feed 89 = .ok (.iadd, 1) := by decide +kernel
theorem d_M_feed_90 : decode b_M_feed 90 = .ok (.putfield 206, 3) := by decide +kernel
theorem d_M_feed_93 : decode b_M_feed 93 = .ok (.aload_n 0, 1) := by decide +kernel
theorem d_M_feed_94 : decode b_M_feed 94 = .ok (.iload_n 3, 1) := by decide +kernel
theorem d_M_feed_95 : decode b_M_feed 95 = .ok (.invokevirtual 209, 3) := by decide +kernel
theorem d_M_feed_98 : decode b_M_feed 98 = .ok (.ireturn, 1) := by decide +kernel
theorem d_M_end_0 : decode b_M_end 0 = .ok (.aload_n 0, 1) := by decide +kernel
theorem d_M_end_1 : decode b_M_end 1 = .ok (.getfield 191, 3) := by decide +kernel
theorem d_M_end_4 : decode b_M_end 4 = .ok (.ifCond .eq 10, 3) := by decide +kernel
theorem d_M_end_7 : decode b_M_end 7 = .ok (.aload_n 0, 1) := by decide +kernel
theorem d_M_end_8 : decode b_M_end 8 = .ok (.getfield 203, 3) := by decide +kernel
theorem d_M_end_11 : decode b_M_end 11 = .ok (.ifCond .eq 9, 3) := by decide +kernel
theorem d_M_end_14 : decode b_M_end 14 = .ok (.aload_n 0, 1) := by decide +kernel
theorem d_M_end_15 : decode b_M_end 15 = .ok (.iconst 1, 1) := by decide +kernel
theorem d_M_end_16 : decode b_M_end 16 = .ok (.invokevirtual 100, 3) := by decide +kernel
theorem d_M_end_19 : decode b_M_end 19 = .ok (.ireturn, 1) := by decide +kernel
theorem d_M_end_20 : decode b_M_end 20 = .ok (.aload_n 0, 1) := by decide +kernel
theorem d_M_end_21 : decode b_M_end 21 = .ok (.getfield 90, 3) := by decide +kernel
theorem d_M_end_24 : decode b_M_end 24 = .ok (.aload_n 0, 1) := by decide +kernel
theorem d_M_end_25 : decode b_M_end 25 = .ok (.getfield 200, 3) := by decide +kernel
theorem d_M_end_28 : decode b_M_end 28 = .ok (.baload, 1) := by decide +kernel
theorem d_M_end_29 : decode b_M_end 29 = .ok (.ifCond .ne 9, 3) := by decide +kernel
theorem d_M_end_32 : decode b_M_end 32 = .ok (.aload_n 0, 1) := by decide +kernel
theorem d_M_end_33 : decode b_M_end 33 = .ok (.iconst 2, 1) := by decide +kernel
theorem d_M_end_34 : decode b_M_end 34 = .ok (.invokevirtual 100, 3) := by decide +kernel
theorem d_M_end_37 : decode b_M_end 37 = .ok (.ireturn, 1) := by decide +kernel
theorem d_M_end_38 : decode b_M_end 38 = .ok (.aload_n 0, 1) := by decide +kernel
theorem d_M_end_39 : decode b_M_end 39 = .ok (.iconst 0, 1) := by decide +kernel
theorem d_M_end_40 : decode b_M_end 40 = .ok (.putfield 93, 3) := by decide +kernel
theorem d_M_end_43 : decode b_M_end 43 = .ok (.aload_n 0, 1) := by decide +kernel
theorem d_M_end_44 : decode b_M_end 44 = .ok (.iconst 1, 1) := by decide +kernel
theorem d_M_end_45 : decode b_M_end 45 = .ok (.putfield 203, 3) := by decide +kernel
theorem d_M_end_48 : decode b_M_end 48 = .ok (.aload_n 0, 1) := by decide +kernel
theorem d_M_end_49 : decode b_M_end 49 = .ok (.aload_n 0, 1) := by decide +kernel
theorem d_M_end_50 : decode b_M_end 50 = .ok (.getfield 81, 3) := by decide +kernel
theorem d_M_end_53 : decode b_M_end 53 = .ok (.aload_n 0, 1) := by decide +kernel
theorem d_M_end_54 : decode b_M_end 54 = .ok (.getfield 200, 3) := by decide +kernel
theorem d_M_end_57 : decode b_M_end 57 = .ok (.iaload, 1) := by decide +kernel
theorem d_M_end_58 : decode b_M_end 58 = .ok (.invokevirtual 209, 3) := by decide +kernel
theorem d_M_end_61 : decode b_M_end 61 = .ok (.ireturn, 1) := by decide +kernel
theorem d_M_jump_0 : decode b_M_jump 0 = .ok (.aload_n 0, 1) := by decide +kernel
theorem d_M_jump_1 : decode b_M_jump 1 = .ok (.getfield 191, 3) := by decide +kernel
theorem d_M_jump_4 : decode b_M_jump 4 = .ok (.ifCond .ne 9, 3) := by decide +kernel
theorem d_M_jump_7 : decode b_M_jump 7 = .ok (.aload_n 0, 1) := by decide +kernel
theorem d_M_jump_8 : decode b_M_jump 8 = .ok (.iconst 1, 1) := by decide +kernel
theorem d_M_jump_9 : decode b_M_jump 9 = .ok (.invokevirtual 100, 3) := by decide +kernel
theorem d_M_jump_12 : decode b_M_jump 12 = .ok (.ireturn, 1) := by decide +kernel
theorem d_M_jump_13 : decode b_M_jump 13 = .ok (.iload_n 1, 1) := by decide +kernel
theorem d_M_jump_14 : decode b_M_jump 14 = .ok (.iconst 0, 1) := by decide +kernel
theorem d_M_jump_15 : decode b_M_jump 15 = .ok (.aload_n 0, 1) := by decide +kernel
theorem d_M_jump_16 : decode b_M_jump 16 = .ok (.getfield 191, 3) := by decide +kernel
theorem d_M_jump_19 : decode b_M_jump 19 = .ok (.iconst 1, 1) := by decide +kernel
theorem d_M_jump_20 : decode b_M_jump 20 = .ok (.isub, 1) := by decide +kernel
theorem d_M_jump_21 : decode b_M_jump 21 = .ok (.invokestatic 96, 3) := by decide +kernel
theorem d_M_jump_24 : decode b_M_jump 24 = .ok (.ifCond .ne 9, 3) := by decide +kernel
theorem d_M_jump_27 : decode b_M_jump 27 = .ok (.aload_n 0, 1) := by decide +kernel
theorem d_M_jump_28 : decode b_M_jump 28 = .ok (.iconst 2, 1) := by decide +kernel
theorem d_M_jump_29 : decode b_M_jump 29 = .ok (.invokevirtual 100, 3) := by decide +kernel
theorem d_M_jump_32 : decode b_M_jump 32 = .ok (.ireturn, 1) := by decide +kernel
theorem d_M_jump_33 : decode b_M_jump 33 = .ok (.aload_n 0, 1) := by decide +kernel
theorem d_M_jump_34 : decode b_M_jump 34 = .ok (.iconst 0, 1) := by decide +kernel
theorem d_M_jump_35 : decode b_M_jump 35 = .ok (.putfield 93, 3) := by decide +kernel
theorem d_M_jump_38 : decode b_M_jump 38 = .ok (.aload_n 0, 1) := by decide +kernel
theorem d_M_jump_39 : decode b_M_jump 39 = .ok (.getfield 200, 3) := by decide +kernel
theorem d_M_jump_42 : decode b_M_jump 42 = .ok (.istore_n 2, 1) := by decide +kernel
theorem d_M_jump_43 : decode b_M_jump 43 = .ok (.aload_n 0, 1) := by decide +kernel
theorem d_M_jump_44 : decode b_M_jump 44 = .ok (.iload_n 1, 1) := by decide +kernel
theorem d_M_jump_45 : decode b_M_jump 45 = .ok (.invokevirtual 197, 3) := by decide +kernel
theorem d_M_jump_48 : decode b_M_jump 48 = .ok (.iload_n 2, 1) := by decide +kernel
theorem d_M_jump_49 : decode b_M_jump 49 = .ok (.ireturn, 1) := by decide +kernel
theorem d_M_count_0 : decode b_M_count 0 = .ok (.iload_n 1, 1) := by decide +kernel
theorem d_M_count_1 : decode b_M_count 1 = .ok (.iconst 0, 1) := by decide +kernel
theorem d_M_count_2 : decode b_M_count 2 = .ok (.bipush 6, 2) := by decide +kernel
theorem d_M_count_4 : decode b_M_count 4 = .ok (.invokestatic 96, 3) := by decide +kernel
theorem d_M_count_7 : decode b_M_count 7 = .ok (.ifCond .ne 20, 3) := by decide +kernel
theorem d_M_count_10 : decode b_M_count 10 = .ok (.iload_n 1, 1) := by decide +kernel
theorem d_M_count_11 : decode b_M_count 11 = .ok (.bipush 10, 2) := by decide +kernel
theorem d_M_count_13 : decode b_M_count 13 = .ok (.bipush 19, 2) := by decide +kernel
theorem d_M_count_15 : decode b_M_count 15 = .ok (.invokestatic 96, 3) := by decide +kernel
theorem d_M_count_18 : decode b_M_count 18 = .ok (.ifCond .ne 9, 3) := by decide +kernel
theorem d_M_count_21 : decode b_M_count 21 = .ok (.aload_n 0, 1) := by decide +kernel
theorem d_M_count_22 : decode b_M_count 22 = .ok (.iconst 1, 1) := by decide +kernel
theorem d_M_count_23 : decode b_M_count 23 = .ok (.invokevirtual 100, 3) := by decide +kernel
theorem d_M_count_26 : decode b_M_count 26 = .ok (.ireturn, 1) := by decide +kernel
theorem d_M_count_27 : decode b_M_count 27 = .ok (.aload_n 0, 1) := by decide +kernel
theorem d_M_count_28 : decode b_M_count 28 = .ok (.iconst 0, 1) := by decide +kernel
theorem d_M_count_29 : decode b_M_count 29 = .ok (.putfield 93, 3) := by decide +kernel
theorem d_M_count_32 : decode b_M_count 32 = .ok (.iconst 0, 1) := by decide +kernel
theorem d_M_count_33 : decode b_M_count 33 = .ok (.istore_n 2, 1) := by decide +kernel
theorem d_M_count_34 : decode b_M_count 34 = .ok (.iconst 0, 1) := by decide +kernel
theorem d_M_count_35 : decode b_M_count 35 = .ok (.istore_n 3, 1) := by decide +kernel
theorem d_M_count_36 : decode b_M_count 36 = .ok (.iload_n 3, 1) := by decide +kernel
theorem d_M_count_37 : decode b_M_count 37 = .ok (.aload_n 0, 1) := by decide +kernel
theorem d_M_count_38 : decode b_M_count 38 = .ok (.getfield 191, 3) := by decide +kernel
theorem d_M_count_41 : decode b_M_count 41 = .ok (.if_icmp .ge 22, 3) := by decide +kernel
theorem d_M_count_44 : decode b_M_count 44 = .ok (.aload_n 0, 1) := by decide +kernel
theorem d_M_count_45 : decode b_M_count 45 = .ok (.getfield 84, 3) := by decide +kernel
theorem d_M_count_48 : decode b_M_count 48 = .ok (.iload_n 3, 1) := by decide +kernel
theorem d_M_count_49 : decode b_M_count 49 = .ok (.iaload, 1) := by decide +kernel
theorem d_M_count_50 : decode b_M_count 50 = .ok (.iload_n 3, 1) := by decide +kernel
theorem d_M_count_51 : decode b_M_count 51 = .ok (.if_icmp .ne 6, 3) := by decide +kernel
theorem d_M_count_54 : decode b_M_count 54 = .ok (.iinc 2 1, 3) := by decide +kernel
theorem d_M_count_57 : decode b_M_count 57 = .ok (.iinc 3 1, 3) := by decide +kernel
theorem d_M_count_60 : decode b_M_count 60 = .ok (.goto (-24), 3) := by decide +kernel
theorem d_M_count_63 : decode b_M_count 63 = .ok (.iload_n 1, 1) := by decide +kernel
theorem d_M_count_64 : decode b_M_count 64 = .ok (.tableswitch 84 0 6 #[44, 49, 54, 56, 61, 66, 79], 44) := by decide +kernel
theorem d_M_count_108 : decode b_M_count 108 = .ok (.aload_n 0, 1) := by decide +kernel
theorem d_M_count_109 : decode b_M_count 109 = .ok (.getfield 104, 3) := by decide +kernel
theorem d_M_count_112 : decode b_M_count 112 = .ok (.ireturn, 1) := by decide +kernel
theorem d_M_count_113 : decode b_M_count 113 = .ok (.aload_n 0, 1) := by decide +kernel
theorem d_M_count_114 : decode b_M_count 114 = .ok (.getfield 191, 3) := by decide +kernel
theorem d_M_count_117 : decode b_M_count 117 = .ok (.ireturn, 1) := by decide +kernel
theorem d_M_count_118 : decode b_M_count 118 = .ok (.iload_n 2, 1) := by decide +kernel
theorem d_M_count_119 : decode b_M_count 119 = .ok (.ireturn, 1) := by decide +kernel
theorem d_M_count_120 : decode b_M_count 120 = .ok (.aload_n 0, 1) := by decide +kernel
theorem d_M_count_121 : decode b_M_count 121 = .ok (.getfield 194, 3) := by decide +kernel
theorem d_M_count_124 : decode b_M_count 124 = .ok (.ireturn, 1) := by decide +kernel
theorem d_M_count_125 : decode b_M_count 125 = .ok (.aload_n 0, 1) := by decide +kernel
theorem d_M_count_126 : decode b_M_count 126 = .ok (.getfield 200, 3) := by decide +kernel
theorem d_M_count_129 : decode b_M_count 129 = .ok (.ireturn, 1) := by decide +kernel
theorem d_M_count_130 : decode b_M_count 130 = .ok (.aload_n 0, 1) := by decide +kernel
theorem d_M_count_131 : decode b_M_count 131 = .ok (.getfield 203, 3) := by decide +kernel
theorem d_M_count_134 : decode b_M_count 134 = .ok (.ifCond .eq 7, 3) := by decide +kernel
theorem d_M_count_137 : decode b_M_count 137 = .ok (.iconst 1, 1) := by decide +kernel
theorem d_M_count_138 : decode b_M_count 138 = .ok (.goto 4, 3) := by decide +kernel
theorem d_M_count_141 : decode b_M_count 141 = .ok (.iconst 0, 1) := by decide +kernel
theorem d_M_count_142 : decode b_M_count 142 = .ok (.ireturn, 1) := by decide +kernel
theorem d_M_count_143 : decode b_M_count 143 = .ok (.aload_n 0, 1) := by decide +kernel
theorem d_M_count_144 : decode b_M_count 144 = .ok (.getfield 206, 3) := by decide +kernel
theorem d_M_count_147 : decode b_M_count 147 = .ok (.ireturn, 1) := by decide +kernel
theorem d_M_count_148 : decode b_M_count 148 = .ok (.aload_n 0, 1) := by decide +kernel
theorem d_M_count_149 : decode b_M_count 149 = .ok (.getfield 87, 3) := by decide +kernel
theorem d_M_count_152 : decode b_M_count 152 = .ok (.iload_n 1, 1) := by decide +kernel
theorem d_M_count_153 : decode b_M_count 153 = .ok (.bipush 10, 2) := by decide +kernel
theorem d_M_count_155 : decode b_M_count 155 = .ok (.isub, 1) := by decide +kernel
theorem d_M_count_156 : decode b_M_count 156 = .ok (.iaload, 1) := by decide +kernel
theorem d_M_count_157 : decode b_M_count 157 = .ok (.ireturn, 1) := by decide +kernel
