abbrev b_Net_isFull : ByteArray := prog_3_method_3_code
def y_Net_isFull : MethodName := ⟨RX1, "isFull", "()Z"⟩
def ws_Net_isFull : List Cond := .code y_Net_isFull b_Net_isFull 1 (Option.some FieldType.boolean) :: tb9
theorem hs_Net_isFull : y_Net_isFull.cls ≠ "java/lang/invoke/MethodHandle" ∧ y_Net_isFull.cls ≠ "java/lang/invoke/VarHandle" ∧ (parseMethodDescriptor y_Net_isFull.desc).map (fun d => d.parameters.length) = some 0 := by decide +kernel
theorem hv_Net_isFull : y_Net_isFull.cls = RX1 ∧ y_Net_isFull.cls ≠ "java/lang/invoke/MethodHandle" ∧ y_Net_isFull.cls ≠ "java/lang/invoke/VarHandle" ∧ (parseMethodDescriptor y_Net_isFull.desc).map (fun d => d.parameters.length) = some 0 := ⟨rfl, hs_Net_isFull⟩
abbrev b_Net_link : ByteArray := prog_3_method_12_code
def y_Net_link : MethodName := ⟨RX1, "link", "(II)V"⟩
def ws_Net_link : List Cond := .code y_Net_link b_Net_link 6 (Option.none : Option FieldType) :: tb9
theorem hs_Net_link : y_Net_link.cls ≠ "java/lang/invoke/MethodHandle" ∧ y_Net_link.cls ≠ "java/lang/invoke/VarHandle" ∧ (parseMethodDescriptor y_Net_link.desc).map (fun d => d.parameters.length) = some 2 := by decide +kernel
theorem hv_Net_link : y_Net_link.cls = RX1 ∧ y_Net_link.cls ≠ "java/lang/invoke/MethodHandle" ∧ y_Net_link.cls ≠ "java/lang/invoke/VarHandle" ∧ (parseMethodDescriptor y_Net_link.desc).map (fun d => d.parameters.length) = some 2 := ⟨rfl, hs_Net_link⟩
abbrev b_Net_together : ByteArray := prog_3_method_15_code
def y_Net_together : MethodName := ⟨RX1, "together", "([III)I"⟩
def ws_Net_together : List Cond := .code y_Net_together b_Net_together 6 (Option.some FieldType.int) :: tb9
theorem hs_Net_together : y_Net_together.cls ≠ "java/lang/invoke/MethodHandle" ∧ y_Net_together.cls ≠ "java/lang/invoke/VarHandle" ∧ (parseMethodDescriptor y_Net_together.desc).map (fun d => d.parameters.length) = some 3 := by decide +kernel
theorem hv_Net_together : y_Net_together.cls = RX1 ∧ y_Net_together.cls ≠ "java/lang/invoke/MethodHandle" ∧ y_Net_together.cls ≠ "java/lang/invoke/VarHandle" ∧ (parseMethodDescriptor y_Net_together.desc).map (fun d => d.parameters.length) = some 3 := ⟨rfl, hs_Net_together⟩
abbrev b_Net_give : ByteArray := prog_3_method_13_code
def y_Net_give : MethodName := ⟨RX1, "give", "([III)V"⟩
def ws_Net_give : List Cond := .code y_Net_give b_Net_give 5 (Option.none : Option FieldType) :: tb9
theorem hs_Net_give : y_Net_give.cls ≠ "java/lang/invoke/MethodHandle" ∧ y_Net_give.cls ≠ "java/lang/invoke/VarHandle" ∧ (parseMethodDescriptor y_Net_give.desc).map (fun d => d.parameters.length) = some 3 := by decide +kernel
theorem hv_Net_give : y_Net_give.cls = RX1 ∧ y_Net_give.cls ≠ "java/lang/invoke/MethodHandle" ∧ y_Net_give.cls ≠ "java/lang/invoke/VarHandle" ∧ (parseMethodDescriptor y_Net_give.desc).map (fun d => d.parameters.length) = some 3 := ⟨rfl, hs_Net_give⟩
abbrev b_Net_giveSteps : ByteArray := prog_3_method_14_code
def y_Net_giveSteps : MethodName := ⟨RX1, "giveSteps", "(III)V"⟩
def ws_Net_giveSteps : List Cond := .code y_Net_giveSteps b_Net_giveSteps 7 (Option.none : Option FieldType) :: tb9
theorem hs_Net_giveSteps : y_Net_giveSteps.cls ≠ "java/lang/invoke/MethodHandle" ∧ y_Net_giveSteps.cls ≠ "java/lang/invoke/VarHandle" ∧ (parseMethodDescriptor y_Net_giveSteps.desc).map (fun d => d.parameters.length) = some 3 := by decide +kernel
theorem hv_Net_giveSteps : y_Net_giveSteps.cls = RX1 ∧ y_Net_giveSteps.cls ≠ "java/lang/invoke/MethodHandle" ∧ y_Net_giveSteps.cls ≠ "java/lang/invoke/VarHandle" ∧ (parseMethodDescriptor y_Net_giveSteps.desc).map (fun d => d.parameters.length) = some 3 := ⟨rfl, hs_Net_giveSteps⟩
abbrev b_Net_actionsOfFirst : ByteArray := prog_3_method_9_code
def y_Net_actionsOfFirst : MethodName := ⟨RX1, "actionsOfFirst", "(I)I"⟩
def ws_Net_actionsOfFirst : List Cond := .code y_Net_actionsOfFirst b_Net_actionsOfFirst 2 (Option.some FieldType.int) :: tb9
theorem hs_Net_actionsOfFirst : y_Net_actionsOfFirst.cls ≠ "java/lang/invoke/MethodHandle" ∧ y_Net_actionsOfFirst.cls ≠ "java/lang/invoke/VarHandle" ∧ (parseMethodDescriptor y_Net_actionsOfFirst.desc).map (fun d => d.parameters.length) = some 1 := by decide +kernel
theorem hv_Net_actionsOfFirst : y_Net_actionsOfFirst.cls = RX1 ∧ y_Net_actionsOfFirst.cls ≠ "java/lang/invoke/MethodHandle" ∧ y_Net_actionsOfFirst.cls ≠ "java/lang/invoke/VarHandle" ∧ (parseMethodDescriptor y_Net_actionsOfFirst.desc).map (fun d => d.parameters.length) = some 1 := ⟨rfl, hs_Net_actionsOfFirst⟩
abbrev b_Net_actionsOfLast : ByteArray := prog_3_method_10_code
def y_Net_actionsOfLast : MethodName := ⟨RX1, "actionsOfLast", "(I)I"⟩
def ws_Net_actionsOfLast : List Cond := .code y_Net_actionsOfLast b_Net_actionsOfLast 2 (Option.some FieldType.int) :: tb9
theorem hs_Net_actionsOfLast : y_Net_actionsOfLast.cls ≠ "java/lang/invoke/MethodHandle" ∧ y_Net_actionsOfLast.cls ≠ "java/lang/invoke/VarHandle" ∧ (parseMethodDescriptor y_Net_actionsOfLast.desc).map (fun d => d.parameters.length) = some 1 := by decide +kernel
theorem hv_Net_actionsOfLast : y_Net_actionsOfLast.cls = RX1 ∧ y_Net_actionsOfLast.cls ≠ "java/lang/invoke/MethodHandle" ∧ y_Net_actionsOfLast.cls ≠ "java/lang/invoke/VarHandle" ∧ (parseMethodDescriptor y_Net_actionsOfLast.desc).map (fun d => d.parameters.length) = some 1 := ⟨rfl, hs_Net_actionsOfLast⟩
abbrev b_Net_actionsOfSteps : ByteArray := prog_3_method_11_code
def y_Net_actionsOfSteps : MethodName := ⟨RX1, "actionsOfSteps", "(II)I"⟩
def ws_Net_actionsOfSteps : List Cond := .code y_Net_actionsOfSteps b_Net_actionsOfSteps 3 (Option.some FieldType.int) :: tb9
theorem hs_Net_actionsOfSteps : y_Net_actionsOfSteps.cls ≠ "java/lang/invoke/MethodHandle" ∧ y_Net_actionsOfSteps.cls ≠ "java/lang/invoke/VarHandle" ∧ (parseMethodDescriptor y_Net_actionsOfSteps.desc).map (fun d => d.parameters.length) = some 2 := by decide +kernel
theorem hv_Net_actionsOfSteps : y_Net_actionsOfSteps.cls = RX1 ∧ y_Net_actionsOfSteps.cls ≠ "java/lang/invoke/MethodHandle" ∧ y_Net_actionsOfSteps.cls ≠ "java/lang/invoke/VarHandle" ∧ (parseMethodDescriptor y_Net_actionsOfSteps.desc).map (fun d => d.parameters.length) = some 2 := ⟨rfl, hs_Net_actionsOfSteps⟩
abbrev b_Part_become : ByteArray := prog_5_method_3_code
def y_Part_become : MethodName := ⟨RX3, "become", "(LEmbedForge$Part;)V"⟩
def ws_Part_become : List Cond := .code y_Part_become b_Part_become 2 (Option.none : Option FieldType) :: tb9
theorem hs_Part_become : y_Part_become.cls ≠ "java/lang/invoke/MethodHandle" ∧ y_Part_become.cls ≠ "java/lang/invoke/VarHandle" ∧ (parseMethodDescriptor y_Part_become.desc).map (fun d => d.parameters.length) = some 1 := by decide +kernel
theorem hv_Part_become : y_Part_become.cls = RX3 ∧ y_Part_become.cls ≠ "java/lang/invoke/MethodHandle" ∧ y_Part_become.cls ≠ "java/lang/invoke/VarHandle" ∧ (parseMethodDescriptor y_Part_become.desc).map (fun d => d.parameters.length) = some 1 := ⟨rfl, hs_Part_become⟩
abbrev b_Part_becomePosition : ByteArray := prog_5_method_2_code
def y_Part_becomePosition : MethodName := ⟨RX3, "becomePosition", "(I)V"⟩
def ws_Part_becomePosition : List Cond := .code y_Part_becomePosition b_Part_becomePosition 2 (Option.none : Option FieldType) :: tb9
theorem hs_Part_becomePosition : y_Part_becomePosition.cls ≠ "java/lang/invoke/MethodHandle" ∧ y_Part_becomePosition.cls ≠ "java/lang/invoke/VarHandle" ∧ (parseMethodDescriptor y_Part_becomePosition.desc).map (fun d => d.parameters.length) = some 1 := by decide +kernel
theorem hv_Part_becomePosition : y_Part_becomePosition.cls = RX3 ∧ y_Part_becomePosition.cls ≠ "java/lang/invoke/MethodHandle" ∧ y_Part_becomePosition.cls ≠ "java/lang/invoke/VarHandle" ∧ (parseMethodDescriptor y_Part_becomePosition.desc).map (fun d => d.parameters.length) = some 1 := ⟨rfl, hs_Part_becomePosition⟩
abbrev b_Net_either : ByteArray := prog_3_method_5_code
def y_Net_either : MethodName := ⟨RX1, "either", "(LEmbedForge$Part;LEmbedForge$Part;)V"⟩
def ws_Net_either : List Cond := .code y_Net_either b_Net_either 3 (Option.none : Option FieldType) :: tb9
theorem hs_Net_either : y_Net_either.cls ≠ "java/lang/invoke/MethodHandle" ∧ y_Net_either.cls ≠ "java/lang/invoke/VarHandle" ∧ (parseMethodDescriptor y_Net_either.desc).map (fun d => d.parameters.length) = some 2 := by decide +kernel
theorem hv_Net_either : y_Net_either.cls = RX1 ∧ y_Net_either.cls ≠ "java/lang/invoke/MethodHandle" ∧ y_Net_either.cls ≠ "java/lang/invoke/VarHandle" ∧ (parseMethodDescriptor y_Net_either.desc).map (fun d => d.parameters.length) = some 2 := ⟨rfl, hs_Net_either⟩
abbrev b_Mach_target : ByteArray := prog_2_method_3_code
def y_Mach_target : MethodName := ⟨RX0, "target", "(II)I"⟩
def ws_Mach_target : List Cond := .code y_Mach_target b_Mach_target 3 (Option.some FieldType.int) :: tb9
theorem hs_Mach_target : y_Mach_target.cls ≠ "java/lang/invoke/MethodHandle" ∧ y_Mach_target.cls ≠ "java/lang/invoke/VarHandle" ∧ (parseMethodDescriptor y_Mach_target.desc).map (fun d => d.parameters.length) = some 2 := by decide +kernel
theorem hv_Mach_target : y_Mach_target.cls = RX0 ∧ y_Mach_target.cls ≠ "java/lang/invoke/MethodHandle" ∧ y_Mach_target.cls ≠ "java/lang/invoke/VarHandle" ∧ (parseMethodDescriptor y_Mach_target.desc).map (fun d => d.parameters.length) = some 2 := ⟨rfl, hs_Mach_target⟩
abbrev b_Mach_actionsOnWay : ByteArray := prog_2_method_4_code
def y_Mach_actionsOnWay : MethodName := ⟨RX0, "actionsOnWay", "(II)I"⟩
def ws_Mach_actionsOnWay : List Cond := .code y_Mach_actionsOnWay b_Mach_actionsOnWay 3 (Option.some FieldType.int) :: tb9
theorem hs_Mach_actionsOnWay : y_Mach_actionsOnWay.cls ≠ "java/lang/invoke/MethodHandle" ∧ y_Mach_actionsOnWay.cls ≠ "java/lang/invoke/VarHandle" ∧ (parseMethodDescriptor y_Mach_actionsOnWay.desc).map (fun d => d.parameters.length) = some 2 := by decide +kernel
theorem hv_Mach_actionsOnWay : y_Mach_actionsOnWay.cls = RX0 ∧ y_Mach_actionsOnWay.cls ≠ "java/lang/invoke/MethodHandle" ∧ y_Mach_actionsOnWay.cls ≠ "java/lang/invoke/VarHandle" ∧ (parseMethodDescriptor y_Mach_actionsOnWay.desc).map (fun d => d.parameters.length) = some 2 := ⟨rfl, hs_Mach_actionsOnWay⟩
abbrev b_Mach_indexOf : ByteArray := prog_2_method_6_code
def y_Mach_indexOf : MethodName := ⟨RX0, "indexOf", "(I)I"⟩
def ws_Mach_indexOf : List Cond := .code y_Mach_indexOf b_Mach_indexOf 3 (Option.some FieldType.int) :: tb9
theorem hs_Mach_indexOf : y_Mach_indexOf.cls ≠ "java/lang/invoke/MethodHandle" ∧ y_Mach_indexOf.cls ≠ "java/lang/invoke/VarHandle" ∧ (parseMethodDescriptor y_Mach_indexOf.desc).map (fun d => d.parameters.length) = some 1 := by decide +kernel
theorem hv_Mach_indexOf : y_Mach_indexOf.cls = RX0 ∧ y_Mach_indexOf.cls ≠ "java/lang/invoke/MethodHandle" ∧ y_Mach_indexOf.cls ≠ "java/lang/invoke/VarHandle" ∧ (parseMethodDescriptor y_Mach_indexOf.desc).map (fun d => d.parameters.length) = some 1 := ⟨rfl, hs_Mach_indexOf⟩
abbrev b_Mach_classBehind : ByteArray := prog_2_method_12_code
def y_Mach_classBehind : MethodName := ⟨RX0, "classBehind", "(II)I"⟩
def ws_Mach_classBehind : List Cond := .code y_Mach_classBehind b_Mach_classBehind 4 (Option.some FieldType.int) :: tb9
theorem hs_Mach_classBehind : y_Mach_classBehind.cls ≠ "java/lang/invoke/MethodHandle" ∧ y_Mach_classBehind.cls ≠ "java/lang/invoke/VarHandle" ∧ (parseMethodDescriptor y_Mach_classBehind.desc).map (fun d => d.parameters.length) = some 2 := by decide +kernel
theorem hv_Mach_classBehind : y_Mach_classBehind.cls = RX0 ∧ y_Mach_classBehind.cls ≠ "java/lang/invoke/MethodHandle" ∧ y_Mach_classBehind.cls ≠ "java/lang/invoke/VarHandle" ∧ (parseMethodDescriptor y_Mach_classBehind.desc).map (fun d => d.parameters.length) = some 2 := ⟨rfl, hs_Mach_classBehind⟩
abbrev b_Mach_looksLike : ByteArray := prog_2_method_11_code
def y_Mach_looksLike : MethodName := ⟨RX0, "looksLike", "(II)Z"⟩
def ws_Mach_looksLike : List Cond := .code y_Mach_looksLike b_Mach_looksLike 5 (Option.some FieldType.boolean) :: tb9
theorem hs_Mach_looksLike : y_Mach_looksLike.cls ≠ "java/lang/invoke/MethodHandle" ∧ y_Mach_looksLike.cls ≠ "java/lang/invoke/VarHandle" ∧ (parseMethodDescriptor y_Mach_looksLike.desc).map (fun d => d.parameters.length) = some 2 := by decide +kernel
theorem hv_Mach_looksLike : y_Mach_looksLike.cls = RX0 ∧ y_Mach_looksLike.cls ≠ "java/lang/invoke/MethodHandle" ∧ y_Mach_looksLike.cls ≠ "java/lang/invoke/VarHandle" ∧ (parseMethodDescriptor y_Mach_looksLike.desc).map (fun d => d.parameters.length) = some 2 := ⟨rfl, hs_Mach_looksLike⟩
abbrev b_Mach_leastAlike : ByteArray := prog_2_method_10_code
def y_Mach_leastAlike : MethodName := ⟨RX0, "leastAlike", "(I)I"⟩
def ws_Mach_leastAlike : List Cond := .code y_Mach_leastAlike b_Mach_leastAlike 3 (Option.some FieldType.int) :: tb9
theorem hs_Mach_leastAlike : y_Mach_leastAlike.cls ≠ "java/lang/invoke/MethodHandle" ∧ y_Mach_leastAlike.cls ≠ "java/lang/invoke/VarHandle" ∧ (parseMethodDescriptor y_Mach_leastAlike.desc).map (fun d => d.parameters.length) = some 1 := by decide +kernel
theorem hv_Mach_leastAlike : y_Mach_leastAlike.cls = RX0 ∧ y_Mach_leastAlike.cls ≠ "java/lang/invoke/MethodHandle" ∧ y_Mach_leastAlike.cls ≠ "java/lang/invoke/VarHandle" ∧ (parseMethodDescriptor y_Mach_leastAlike.desc).map (fun d => d.parameters.length) = some 1 := ⟨rfl, hs_Mach_leastAlike⟩
abbrev b_Walk_perform : ByteArray := prog_6_method_5_code
def y_Walk_perform : MethodName := ⟨RX4, "perform", "(I)V"⟩
def ws_Walk_perform : List Cond := .code y_Walk_perform b_Walk_perform 3 (Option.none : Option FieldType) :: tb9
theorem hs_Walk_perform : y_Walk_perform.cls ≠ "java/lang/invoke/MethodHandle" ∧ y_Walk_perform.cls ≠ "java/lang/invoke/VarHandle" ∧ (parseMethodDescriptor y_Walk_perform.desc).map (fun d => d.parameters.length) = some 1 := by decide +kernel
theorem hv_Walk_perform : y_Walk_perform.cls = RX4 ∧ y_Walk_perform.cls ≠ "java/lang/invoke/MethodHandle" ∧ y_Walk_perform.cls ≠ "java/lang/invoke/VarHandle" ∧ (parseMethodDescriptor y_Walk_perform.desc).map (fun d => d.parameters.length) = some 1 := ⟨rfl, hs_Walk_perform⟩
abbrev b_Walk_goOn : ByteArray := prog_6_method_3_code
def y_Walk_goOn : MethodName := ⟨RX4, "goOn", "(II)V"⟩
def ws_Walk_goOn : List Cond := .code y_Walk_goOn b_Walk_goOn 3 (Option.none : Option FieldType) :: tb9
theorem hs_Walk_goOn : y_Walk_goOn.cls ≠ "java/lang/invoke/MethodHandle" ∧ y_Walk_goOn.cls ≠ "java/lang/invoke/VarHandle" ∧ (parseMethodDescriptor y_Walk_goOn.desc).map (fun d => d.parameters.length) = some 2 := by decide +kernel
theorem hv_Walk_goOn : y_Walk_goOn.cls = RX4 ∧ y_Walk_goOn.cls ≠ "java/lang/invoke/MethodHandle" ∧ y_Walk_goOn.cls ≠ "java/lang/invoke/VarHandle" ∧ (parseMethodDescriptor y_Walk_goOn.desc).map (fun d => d.parameters.length) = some 2 := ⟨rfl, hs_Walk_goOn⟩
abbrev b_Walk_finish : ByteArray := prog_6_method_4_code
def y_Walk_finish : MethodName := ⟨RX4, "finish", "(I)V"⟩
def ws_Walk_finish : List Cond := .code y_Walk_finish b_Walk_finish 2 (Option.none : Option FieldType) :: tb9
theorem hs_Walk_finish : y_Walk_finish.cls ≠ "java/lang/invoke/MethodHandle" ∧ y_Walk_finish.cls ≠ "java/lang/invoke/VarHandle" ∧ (parseMethodDescriptor y_Walk_finish.desc).map (fun d => d.parameters.length) = some 1 := by decide +kernel
theorem hv_Walk_finish : y_Walk_finish.cls = RX4 ∧ y_Walk_finish.cls ≠ "java/lang/invoke/MethodHandle" ∧ y_Walk_finish.cls ≠ "java/lang/invoke/VarHandle" ∧ (parseMethodDescriptor y_Walk_finish.desc).map (fun d => d.parameters.length) = some 1 := ⟨rfl, hs_Walk_finish⟩
abbrev b_Pars_isLetter : ByteArray := prog_4_method_14_code
def y_Pars_isLetter : MethodName := ⟨RX2, "isLetter", "(C)Z"⟩
def ws_Pars_isLetter : List Cond := .code y_Pars_isLetter b_Pars_isLetter 1 (Option.some FieldType.boolean) :: tb9
theorem hs_Pars_isLetter : y_Pars_isLetter.cls ≠ "java/lang/invoke/MethodHandle" ∧ y_Pars_isLetter.cls ≠ "java/lang/invoke/VarHandle" ∧ (parseMethodDescriptor y_Pars_isLetter.desc).map (fun d => d.parameters.length) = some 1 := by decide +kernel
theorem hv_Pars_isLetter : y_Pars_isLetter.cls = RX2 ∧ y_Pars_isLetter.cls ≠ "java/lang/invoke/MethodHandle" ∧ y_Pars_isLetter.cls ≠ "java/lang/invoke/VarHandle" ∧ (parseMethodDescriptor y_Pars_isLetter.desc).map (fun d => d.parameters.length) = some 1 := ⟨rfl, hs_Pars_isLetter⟩
abbrev b_Pars_letterBit : ByteArray := prog_4_method_15_code
def y_Pars_letterBit : MethodName := ⟨RX2, "letterBit", "(C)I"⟩
def ws_Pars_letterBit : List Cond := .code y_Pars_letterBit b_Pars_letterBit 1 (Option.some FieldType.int) :: tb9
theorem hs_Pars_letterBit : y_Pars_letterBit.cls ≠ "java/lang/invoke/MethodHandle" ∧ y_Pars_letterBit.cls ≠ "java/lang/invoke/VarHandle" ∧ (parseMethodDescriptor y_Pars_letterBit.desc).map (fun d => d.parameters.length) = some 1 := by decide +kernel
theorem hv_Pars_letterBit : y_Pars_letterBit.cls = RX2 ∧ y_Pars_letterBit.cls ≠ "java/lang/invoke/MethodHandle" ∧ y_Pars_letterBit.cls ≠ "java/lang/invoke/VarHandle" ∧ (parseMethodDescriptor y_Pars_letterBit.desc).map (fun d => d.parameters.length) = some 1 := ⟨rfl, hs_Pars_letterBit⟩
abbrev b_Pars_beginsAtom : ByteArray := prog_4_method_16_code
def y_Pars_beginsAtom : MethodName := ⟨RX2, "beginsAtom", "(C)Z"⟩
def ws_Pars_beginsAtom : List Cond := .code y_Pars_beginsAtom b_Pars_beginsAtom 1 (Option.some FieldType.boolean) :: tb9
theorem hs_Pars_beginsAtom : y_Pars_beginsAtom.cls ≠ "java/lang/invoke/MethodHandle" ∧ y_Pars_beginsAtom.cls ≠ "java/lang/invoke/VarHandle" ∧ (parseMethodDescriptor y_Pars_beginsAtom.desc).map (fun d => d.parameters.length) = some 1 := by decide +kernel
theorem hv_Pars_beginsAtom : y_Pars_beginsAtom.cls = RX2 ∧ y_Pars_beginsAtom.cls ≠ "java/lang/invoke/MethodHandle" ∧ y_Pars_beginsAtom.cls ≠ "java/lang/invoke/VarHandle" ∧ (parseMethodDescriptor y_Pars_beginsAtom.desc).map (fun d => d.parameters.length) = some 1 := ⟨rfl, hs_Pars_beginsAtom⟩
abbrev b_Pars_isRepeat : ByteArray := prog_4_method_17_code
def y_Pars_isRepeat : MethodName := ⟨RX2, "isRepeat", "(C)Z"⟩
def ws_Pars_isRepeat : List Cond := .code y_Pars_isRepeat b_Pars_isRepeat 1 (Option.some FieldType.boolean) :: tb9
theorem hs_Pars_isRepeat : y_Pars_isRepeat.cls ≠ "java/lang/invoke/MethodHandle" ∧ y_Pars_isRepeat.cls ≠ "java/lang/invoke/VarHandle" ∧ (parseMethodDescriptor y_Pars_isRepeat.desc).map (fun d => d.parameters.length) = some 1 := by decide +kernel
theorem hv_Pars_isRepeat : y_Pars_isRepeat.cls = RX2 ∧ y_Pars_isRepeat.cls ≠ "java/lang/invoke/MethodHandle" ∧ y_Pars_isRepeat.cls ≠ "java/lang/invoke/VarHandle" ∧ (parseMethodDescriptor y_Pars_isRepeat.desc).map (fun d => d.parameters.length) = some 1 := ⟨rfl, hs_Pars_isRepeat⟩
abbrev b_Pars_isSign : ByteArray := prog_4_method_18_code
def y_Pars_isSign : MethodName := ⟨RX2, "isSign", "(C)Z"⟩
def ws_Pars_isSign : List Cond := .code y_Pars_isSign b_Pars_isSign 1 (Option.some FieldType.boolean) :: tb9
theorem hs_Pars_isSign : y_Pars_isSign.cls ≠ "java/lang/invoke/MethodHandle" ∧ y_Pars_isSign.cls ≠ "java/lang/invoke/VarHandle" ∧ (parseMethodDescriptor y_Pars_isSign.desc).map (fun d => d.parameters.length) = some 1 := by decide +kernel
theorem hv_Pars_isSign : y_Pars_isSign.cls = RX2 ∧ y_Pars_isSign.cls ≠ "java/lang/invoke/MethodHandle" ∧ y_Pars_isSign.cls ≠ "java/lang/invoke/VarHandle" ∧ (parseMethodDescriptor y_Pars_isSign.desc).map (fun d => d.parameters.length) = some 1 := ⟨rfl, hs_Pars_isSign⟩
abbrev b_Pars_here : ByteArray := prog_4_method_12_code
def y_Pars_here : MethodName := ⟨RX2, "here", "()C"⟩
def ws_Pars_here : List Cond := .code y_Pars_here b_Pars_here 1 (Option.some FieldType.char) :: tb9
theorem hs_Pars_here : y_Pars_here.cls ≠ "java/lang/invoke/MethodHandle" ∧ y_Pars_here.cls ≠ "java/lang/invoke/VarHandle" ∧ (parseMethodDescriptor y_Pars_here.desc).map (fun d => d.parameters.length) = some 0 := by decide +kernel
theorem hv_Pars_here : y_Pars_here.cls = RX2 ∧ y_Pars_here.cls ≠ "java/lang/invoke/MethodHandle" ∧ y_Pars_here.cls ≠ "java/lang/invoke/VarHandle" ∧ (parseMethodDescriptor y_Pars_here.desc).map (fun d => d.parameters.length) = some 0 := ⟨rfl, hs_Pars_here⟩
abbrev b_Pars_next : ByteArray := prog_4_method_13_code
def y_Pars_next : MethodName := ⟨RX2, "next", "()C"⟩
def ws_Pars_next : List Cond := .code y_Pars_next b_Pars_next 1 (Option.some FieldType.char) :: tb9
theorem hs_Pars_next : y_Pars_next.cls ≠ "java/lang/invoke/MethodHandle" ∧ y_Pars_next.cls ≠ "java/lang/invoke/VarHandle" ∧ (parseMethodDescriptor y_Pars_next.desc).map (fun d => d.parameters.length) = some 0 := by decide +kernel
theorem hv_Pars_next : y_Pars_next.cls = RX2 ∧ y_Pars_next.cls ≠ "java/lang/invoke/MethodHandle" ∧ y_Pars_next.cls ≠ "java/lang/invoke/VarHandle" ∧ (parseMethodDescriptor y_Pars_next.desc).map (fun d => d.parameters.length) = some 0 := ⟨rfl, hs_Pars_next⟩
abbrev b_Pars_readLetters : ByteArray := prog_4_method_11_code
def y_Pars_readLetters : MethodName := ⟨RX2, "readLetters", "()I"⟩
def ws_Pars_readLetters : List Cond := .code y_Pars_readLetters b_Pars_readLetters 2 (Option.some FieldType.int) :: tb9
theorem hs_Pars_readLetters : y_Pars_readLetters.cls ≠ "java/lang/invoke/MethodHandle" ∧ y_Pars_readLetters.cls ≠ "java/lang/invoke/VarHandle" ∧ (parseMethodDescriptor y_Pars_readLetters.desc).map (fun d => d.parameters.length) = some 0 := by decide +kernel
theorem hv_Pars_readLetters : y_Pars_readLetters.cls = RX2 ∧ y_Pars_readLetters.cls ≠ "java/lang/invoke/MethodHandle" ∧ y_Pars_readLetters.cls ≠ "java/lang/invoke/VarHandle" ∧ (parseMethodDescriptor y_Pars_readLetters.desc).map (fun d => d.parameters.length) = some 0 := ⟨rfl, hs_Pars_readLetters⟩
abbrev b_Pars_place : ByteArray := prog_4_method_3_code
def y_Pars_place : MethodName := ⟨RX2, "place", "()I"⟩
def ws_Pars_place : List Cond := .code y_Pars_place b_Pars_place 1 (Option.some FieldType.int) :: tb9
theorem hs_Pars_place : y_Pars_place.cls ≠ "java/lang/invoke/MethodHandle" ∧ y_Pars_place.cls ≠ "java/lang/invoke/VarHandle" ∧ (parseMethodDescriptor y_Pars_place.desc).map (fun d => d.parameters.length) = some 0 := by decide +kernel
theorem hv_Pars_place : y_Pars_place.cls = RX2 ∧ y_Pars_place.cls ≠ "java/lang/invoke/MethodHandle" ∧ y_Pars_place.cls ≠ "java/lang/invoke/VarHandle" ∧ (parseMethodDescriptor y_Pars_place.desc).map (fun d => d.parameters.length) = some 0 := ⟨rfl, hs_Pars_place⟩
abbrev b_EF_byteAt : ByteArray := prog_1_method_13_code
def y_EF_byteAt : MethodName := ⟨RX5, "byteAt", "(JI)I"⟩
def ws_EF_byteAt : List Cond := .code y_EF_byteAt b_EF_byteAt 3 (Option.some FieldType.int) :: tb9
theorem hs_EF_byteAt : y_EF_byteAt.cls ≠ "java/lang/invoke/MethodHandle" ∧ y_EF_byteAt.cls ≠ "java/lang/invoke/VarHandle" ∧ (parseMethodDescriptor y_EF_byteAt.desc).map (fun d => d.parameters.length) = some 2 := by decide +kernel
theorem hv_EF_byteAt : y_EF_byteAt.cls = RX5 ∧ y_EF_byteAt.cls ≠ "java/lang/invoke/MethodHandle" ∧ y_EF_byteAt.cls ≠ "java/lang/invoke/VarHandle" ∧ (parseMethodDescriptor y_EF_byteAt.desc).map (fun d => d.parameters.length) = some 2 := ⟨rfl, hs_EF_byteAt⟩
abbrev b_Net_addPosition : ByteArray := prog_3_method_4_code
def y_Net_addPosition : MethodName := ⟨RX1, "addPosition", "(ILEmbedForge$Part;)V"⟩
def ws_Net_addPosition : List Cond := .code y_Net_addPosition b_Net_addPosition 5 (Option.none : Option FieldType) :: tb9
theorem hs_Net_addPosition : y_Net_addPosition.cls ≠ "java/lang/invoke/MethodHandle" ∧ y_Net_addPosition.cls ≠ "java/lang/invoke/VarHandle" ∧ (parseMethodDescriptor y_Net_addPosition.desc).map (fun d => d.parameters.length) = some 2 := by decide +kernel
theorem hv_Net_addPosition : y_Net_addPosition.cls = RX1 ∧ y_Net_addPosition.cls ≠ "java/lang/invoke/MethodHandle" ∧ y_Net_addPosition.cls ≠ "java/lang/invoke/VarHandle" ∧ (parseMethodDescriptor y_Net_addPosition.desc).map (fun d => d.parameters.length) = some 2 := ⟨rfl, hs_Net_addPosition⟩
abbrev b_Net_chain : ByteArray := prog_3_method_6_code
def y_Net_chain : MethodName := ⟨RX1, "chain", "(LEmbedForge$Part;LEmbedForge$Part;)V"⟩
def ws_Net_chain : List Cond := .code y_Net_chain b_Net_chain 3 (Option.none : Option FieldType) :: tb9
theorem hs_Net_chain : y_Net_chain.cls ≠ "java/lang/invoke/MethodHandle" ∧ y_Net_chain.cls ≠ "java/lang/invoke/VarHandle" ∧ (parseMethodDescriptor y_Net_chain.desc).map (fun d => d.parameters.length) = some 2 := by decide +kernel
theorem hv_Net_chain : y_Net_chain.cls = RX1 ∧ y_Net_chain.cls ≠ "java/lang/invoke/MethodHandle" ∧ y_Net_chain.cls ≠ "java/lang/invoke/VarHandle" ∧ (parseMethodDescriptor y_Net_chain.desc).map (fun d => d.parameters.length) = some 2 := ⟨rfl, hs_Net_chain⟩
abbrev b_Net_repeat : ByteArray := prog_3_method_7_code
def y_Net_repeat : MethodName := ⟨RX1, "repeat", "(LEmbedForge$Part;C)V"⟩
def ws_Net_repeat : List Cond := .code y_Net_repeat b_Net_repeat 3 (Option.none : Option FieldType) :: tb9
theorem hs_Net_repeat : y_Net_repeat.cls ≠ "java/lang/invoke/MethodHandle" ∧ y_Net_repeat.cls ≠ "java/lang/invoke/VarHandle" ∧ (parseMethodDescriptor y_Net_repeat.desc).map (fun d => d.parameters.length) = some 2 := by decide +kernel
theorem hv_Net_repeat : y_Net_repeat.cls = RX1 ∧ y_Net_repeat.cls ≠ "java/lang/invoke/MethodHandle" ∧ y_Net_repeat.cls ≠ "java/lang/invoke/VarHandle" ∧ (parseMethodDescriptor y_Net_repeat.desc).map (fun d => d.parameters.length) = some 2 := ⟨rfl, hs_Net_repeat⟩
abbrev b_Net_act : ByteArray := prog_3_method_8_code
def y_Net_act : MethodName := ⟨RX1, "act", "(LEmbedForge$Part;CI)V"⟩
def ws_Net_act : List Cond := .code y_Net_act b_Net_act 5 (Option.none : Option FieldType) :: tb9
theorem hs_Net_act : y_Net_act.cls ≠ "java/lang/invoke/MethodHandle" ∧ y_Net_act.cls ≠ "java/lang/invoke/VarHandle" ∧ (parseMethodDescriptor y_Net_act.desc).map (fun d => d.parameters.length) = some 3 := by decide +kernel
theorem hv_Net_act : y_Net_act.cls = RX1 ∧ y_Net_act.cls ≠ "java/lang/invoke/MethodHandle" ∧ y_Net_act.cls ≠ "java/lang/invoke/VarHandle" ∧ (parseMethodDescriptor y_Net_act.desc).map (fun d => d.parameters.length) = some 3 := ⟨rfl, hs_Net_act⟩
abbrev b_Pars_readAction : ByteArray := prog_4_method_8_code
def y_Pars_readAction : MethodName := ⟨RX2, "readAction", "(LEmbedForge$Part;C)Z"⟩
def ws_Pars_readAction : List Cond := .code y_Pars_readAction b_Pars_readAction 4 (Option.some FieldType.boolean) :: tb9
theorem hs_Pars_readAction : y_Pars_readAction.cls ≠ "java/lang/invoke/MethodHandle" ∧ y_Pars_readAction.cls ≠ "java/lang/invoke/VarHandle" ∧ (parseMethodDescriptor y_Pars_readAction.desc).map (fun d => d.parameters.length) = some 2 := by decide +kernel
theorem hv_Pars_readAction : y_Pars_readAction.cls = RX2 ∧ y_Pars_readAction.cls ≠ "java/lang/invoke/MethodHandle" ∧ y_Pars_readAction.cls ≠ "java/lang/invoke/VarHandle" ∧ (parseMethodDescriptor y_Pars_readAction.desc).map (fun d => d.parameters.length) = some 2 := ⟨rfl, hs_Pars_readAction⟩
abbrev b_Pars_readGroup : ByteArray := prog_4_method_10_code
def y_Pars_readGroup : MethodName := ⟨RX2, "readGroup", "(I)Z"⟩
def ws_Pars_readGroup : List Cond := .code y_Pars_readGroup b_Pars_readGroup 2 (Option.some FieldType.boolean) :: tb9
theorem hs_Pars_readGroup : y_Pars_readGroup.cls ≠ "java/lang/invoke/MethodHandle" ∧ y_Pars_readGroup.cls ≠ "java/lang/invoke/VarHandle" ∧ (parseMethodDescriptor y_Pars_readGroup.desc).map (fun d => d.parameters.length) = some 1 := by decide +kernel
theorem hv_Pars_readGroup : y_Pars_readGroup.cls = RX2 ∧ y_Pars_readGroup.cls ≠ "java/lang/invoke/MethodHandle" ∧ y_Pars_readGroup.cls ≠ "java/lang/invoke/VarHandle" ∧ (parseMethodDescriptor y_Pars_readGroup.desc).map (fun d => d.parameters.length) = some 1 := ⟨rfl, hs_Pars_readGroup⟩
abbrev b_Pars_readAtom : ByteArray := prog_4_method_9_code
def y_Pars_readAtom : MethodName := ⟨RX2, "readAtom", "(I)Z"⟩
def ws_Pars_readAtom : List Cond := .code y_Pars_readAtom b_Pars_readAtom 4 (Option.some FieldType.boolean) :: tb9
theorem hs_Pars_readAtom : y_Pars_readAtom.cls ≠ "java/lang/invoke/MethodHandle" ∧ y_Pars_readAtom.cls ≠ "java/lang/invoke/VarHandle" ∧ (parseMethodDescriptor y_Pars_readAtom.desc).map (fun d => d.parameters.length) = some 1 := by decide +kernel
theorem hv_Pars_readAtom : y_Pars_readAtom.cls = RX2 ∧ y_Pars_readAtom.cls ≠ "java/lang/invoke/MethodHandle" ∧ y_Pars_readAtom.cls ≠ "java/lang/invoke/VarHandle" ∧ (parseMethodDescriptor y_Pars_readAtom.desc).map (fun d => d.parameters.length) = some 1 := ⟨rfl, hs_Pars_readAtom⟩
abbrev b_Pars_readFactor : ByteArray := prog_4_method_7_code
def y_Pars_readFactor : MethodName := ⟨RX2, "readFactor", "(I)Z"⟩
def ws_Pars_readFactor : List Cond := .code y_Pars_readFactor b_Pars_readFactor 4 (Option.some FieldType.boolean) :: tb9
theorem hs_Pars_readFactor : y_Pars_readFactor.cls ≠ "java/lang/invoke/MethodHandle" ∧ y_Pars_readFactor.cls ≠ "java/lang/invoke/VarHandle" ∧ (parseMethodDescriptor y_Pars_readFactor.desc).map (fun d => d.parameters.length) = some 1 := by decide +kernel
theorem hv_Pars_readFactor : y_Pars_readFactor.cls = RX2 ∧ y_Pars_readFactor.cls ≠ "java/lang/invoke/MethodHandle" ∧ y_Pars_readFactor.cls ≠ "java/lang/invoke/VarHandle" ∧ (parseMethodDescriptor y_Pars_readFactor.desc).map (fun d => d.parameters.length) = some 1 := ⟨rfl, hs_Pars_readFactor⟩
abbrev b_Pars_readTerm : ByteArray := prog_4_method_6_code
def y_Pars_readTerm : MethodName := ⟨RX2, "readTerm", "(I)Z"⟩
def ws_Pars_readTerm : List Cond := .code y_Pars_readTerm b_Pars_readTerm 3 (Option.some FieldType.boolean) :: tb9
theorem hs_Pars_readTerm : y_Pars_readTerm.cls ≠ "java/lang/invoke/MethodHandle" ∧ y_Pars_readTerm.cls ≠ "java/lang/invoke/VarHandle" ∧ (parseMethodDescriptor y_Pars_readTerm.desc).map (fun d => d.parameters.length) = some 1 := by decide +kernel
theorem hv_Pars_readTerm : y_Pars_readTerm.cls = RX2 ∧ y_Pars_readTerm.cls ≠ "java/lang/invoke/MethodHandle" ∧ y_Pars_readTerm.cls ≠ "java/lang/invoke/VarHandle" ∧ (parseMethodDescriptor y_Pars_readTerm.desc).map (fun d => d.parameters.length) = some 1 := ⟨rfl, hs_Pars_readTerm⟩
abbrev b_Pars_readExpression : ByteArray := prog_4_method_5_code
def y_Pars_readExpression : MethodName := ⟨RX2, "readExpression", "(I)Z"⟩
def ws_Pars_readExpression : List Cond := .code y_Pars_readExpression b_Pars_readExpression 3 (Option.some FieldType.boolean) :: tb9
theorem hs_Pars_readExpression : y_Pars_readExpression.cls ≠ "java/lang/invoke/MethodHandle" ∧ y_Pars_readExpression.cls ≠ "java/lang/invoke/VarHandle" ∧ (parseMethodDescriptor y_Pars_readExpression.desc).map (fun d => d.parameters.length) = some 1 := by decide +kernel
theorem hv_Pars_readExpression : y_Pars_readExpression.cls = RX2 ∧ y_Pars_readExpression.cls ≠ "java/lang/invoke/MethodHandle" ∧ y_Pars_readExpression.cls ≠ "java/lang/invoke/VarHandle" ∧ (parseMethodDescriptor y_Pars_readExpression.desc).map (fun d => d.parameters.length) = some 1 := ⟨rfl, hs_Pars_readExpression⟩
abbrev b_Arrays_fillR : ByteArray := prog_24_method_104_code
def y_Arrays_fillR : MethodName := ⟨"java/util/Arrays", "fill", "([IIII)V"⟩
def ws_Arrays_fillR : List Cond := .code y_Arrays_fillR b_Arrays_fillR 5 (Option.none : Option FieldType) :: tb9
theorem hs_Arrays_fillR : y_Arrays_fillR.cls ≠ "java/lang/invoke/MethodHandle" ∧ y_Arrays_fillR.cls ≠ "java/lang/invoke/VarHandle" ∧ (parseMethodDescriptor y_Arrays_fillR.desc).map (fun d => d.parameters.length) = some 4 := by decide +kernel
abbrev b_Arrays_rangeCheck : ByteArray := prog_24_method_30_code
def y_Arrays_rangeCheck : MethodName := ⟨"java/util/Arrays", "rangeCheck", "(III)V"⟩
def ws_Arrays_rangeCheck : List Cond := .code y_Arrays_rangeCheck b_Arrays_rangeCheck 3 (Option.none : Option FieldType) :: tb9
theorem hs_Arrays_rangeCheck : y_Arrays_rangeCheck.cls ≠ "java/lang/invoke/MethodHandle" ∧ y_Arrays_rangeCheck.cls ≠ "java/lang/invoke/VarHandle" ∧ (parseMethodDescriptor y_Arrays_rangeCheck.desc).map (fun d => d.parameters.length) = some 3 := by decide +kernel
abbrev b_Int_bitCount : ByteArray := prog_14_method_49_code
def y_Int_bitCount : MethodName := ⟨"java/lang/Integer", "bitCount", "(I)I"⟩
def ws_Int_bitCount : List Cond := .code y_Int_bitCount b_Int_bitCount 1 (Option.some FieldType.int) :: tb9
theorem hs_Int_bitCount : y_Int_bitCount.cls ≠ "java/lang/invoke/MethodHandle" ∧ y_Int_bitCount.cls ≠ "java/lang/invoke/VarHandle" ∧ (parseMethodDescriptor y_Int_bitCount.desc).map (fun d => d.parameters.length) = some 1 := by decide +kernel
abbrev b_Arrays_fill : ByteArray := prog_24_method_103_code
def y_Arrays_fill : MethodName := ⟨"java/util/Arrays", "fill", "([II)V"⟩
def ws_Arrays_fill : List Cond := .code y_Arrays_fill b_Arrays_fill 4 (Option.none : Option FieldType) :: tb9
theorem hs_Arrays_fill : y_Arrays_fill.cls ≠ "java/lang/invoke/MethodHandle" ∧ y_Arrays_fill.cls ≠ "java/lang/invoke/VarHandle" ∧ (parseMethodDescriptor y_Arrays_fill.desc).map (fun d => d.parameters.length) = some 2 := by decide +kernel
abbrev b_Mach_findWay : ByteArray := prog_2_method_5_code
def y_Mach_findWay : MethodName := ⟨RX0, "findWay", "(LEmbedForge$Net;LEmbedForge$Part;II)Z"⟩
def ws_Mach_findWay : List Cond := .code y_Mach_findWay b_Mach_findWay 9 (Option.some FieldType.boolean) :: tb9
theorem hs_Mach_findWay : y_Mach_findWay.cls ≠ "java/lang/invoke/MethodHandle" ∧ y_Mach_findWay.cls ≠ "java/lang/invoke/VarHandle" ∧ (parseMethodDescriptor y_Mach_findWay.desc).map (fun d => d.parameters.length) = some 4 := by decide +kernel
theorem hv_Mach_findWay : y_Mach_findWay.cls = RX0 ∧ y_Mach_findWay.cls ≠ "java/lang/invoke/MethodHandle" ∧ y_Mach_findWay.cls ≠ "java/lang/invoke/VarHandle" ∧ (parseMethodDescriptor y_Mach_findWay.desc).map (fun d => d.parameters.length) = some 4 := ⟨rfl, hs_Mach_findWay⟩
abbrev b_Mach_findEnd : ByteArray := prog_2_method_7_code
def y_Mach_findEnd : MethodName := ⟨RX0, "findEnd", "(LEmbedForge$Net;LEmbedForge$Part;I)V"⟩
def ws_Mach_findEnd : List Cond := .code y_Mach_findEnd b_Mach_findEnd 5 (Option.none : Option FieldType) :: tb9
theorem hs_Mach_findEnd : y_Mach_findEnd.cls ≠ "java/lang/invoke/MethodHandle" ∧ y_Mach_findEnd.cls ≠ "java/lang/invoke/VarHandle" ∧ (parseMethodDescriptor y_Mach_findEnd.desc).map (fun d => d.parameters.length) = some 3 := by decide +kernel
theorem hv_Mach_findEnd : y_Mach_findEnd.cls = RX0 ∧ y_Mach_findEnd.cls ≠ "java/lang/invoke/MethodHandle" ∧ y_Mach_findEnd.cls ≠ "java/lang/invoke/VarHandle" ∧ (parseMethodDescriptor y_Mach_findEnd.desc).map (fun d => d.parameters.length) = some 3 := ⟨rfl, hs_Mach_findEnd⟩
abbrev b_Mach_refine : ByteArray := prog_2_method_9_code
def y_Mach_refine : MethodName := ⟨RX0, "refine", "()Z"⟩
def ws_Mach_refine : List Cond := .code y_Mach_refine b_Mach_refine 3 (Option.some FieldType.boolean) :: tb9
theorem hs_Mach_refine : y_Mach_refine.cls ≠ "java/lang/invoke/MethodHandle" ∧ y_Mach_refine.cls ≠ "java/lang/invoke/VarHandle" ∧ (parseMethodDescriptor y_Mach_refine.desc).map (fun d => d.parameters.length) = some 0 := by decide +kernel
theorem hv_Mach_refine : y_Mach_refine.cls = RX0 ∧ y_Mach_refine.cls ≠ "java/lang/invoke/MethodHandle" ∧ y_Mach_refine.cls ≠ "java/lang/invoke/VarHandle" ∧ (parseMethodDescriptor y_Mach_refine.desc).map (fun d => d.parameters.length) = some 0 := ⟨rfl, hs_Mach_refine⟩
abbrev b_Mach_findClasses : ByteArray := prog_2_method_8_code
def y_Mach_findClasses : MethodName := ⟨RX0, "findClasses", "()V"⟩
def ws_Mach_findClasses : List Cond := .code y_Mach_findClasses b_Mach_findClasses 3 (Option.none : Option FieldType) :: tb9
theorem hs_Mach_findClasses : y_Mach_findClasses.cls ≠ "java/lang/invoke/MethodHandle" ∧ y_Mach_findClasses.cls ≠ "java/lang/invoke/VarHandle" ∧ (parseMethodDescriptor y_Mach_findClasses.desc).map (fun d => d.parameters.length) = some 0 := by decide +kernel
theorem hv_Mach_findClasses : y_Mach_findClasses.cls = RX0 ∧ y_Mach_findClasses.cls ≠ "java/lang/invoke/MethodHandle" ∧ y_Mach_findClasses.cls ≠ "java/lang/invoke/VarHandle" ∧ (parseMethodDescriptor y_Mach_findClasses.desc).map (fun d => d.parameters.length) = some 0 := ⟨rfl, hs_Mach_findClasses⟩
abbrev b_Mach_build : ByteArray := prog_2_method_2_code
def y_Mach_build : MethodName := ⟨RX0, "build", "(LEmbedForge$Net;LEmbedForge$Part;)Z"⟩
def ws_Mach_build : List Cond := .code y_Mach_build b_Mach_build 5 (Option.some FieldType.boolean) :: tb9
theorem hs_Mach_build : y_Mach_build.cls ≠ "java/lang/invoke/MethodHandle" ∧ y_Mach_build.cls ≠ "java/lang/invoke/VarHandle" ∧ (parseMethodDescriptor y_Mach_build.desc).map (fun d => d.parameters.length) = some 2 := by decide +kernel
theorem hv_Mach_build : y_Mach_build.cls = RX0 ∧ y_Mach_build.cls ≠ "java/lang/invoke/MethodHandle" ∧ y_Mach_build.cls ≠ "java/lang/invoke/VarHandle" ∧ (parseMethodDescriptor y_Mach_build.desc).map (fun d => d.parameters.length) = some 2 := ⟨rfl, hs_Mach_build⟩
abbrev b_EF_append : ByteArray := prog_1_method_14_code
def y_EF_append : MethodName := ⟨RX5, "append", "(J)V"⟩
def ws_EF_append : List Cond := .code y_EF_append b_EF_append 5 (Option.none : Option FieldType) :: tb9
theorem hs_EF_append : y_EF_append.cls ≠ "java/lang/invoke/MethodHandle" ∧ y_EF_append.cls ≠ "java/lang/invoke/VarHandle" ∧ (parseMethodDescriptor y_EF_append.desc).map (fun d => d.parameters.length) = some 1 := by decide +kernel
theorem hv_EF_append : y_EF_append.cls = RX5 ∧ y_EF_append.cls ≠ "java/lang/invoke/MethodHandle" ∧ y_EF_append.cls ≠ "java/lang/invoke/VarHandle" ∧ (parseMethodDescriptor y_EF_append.desc).map (fun d => d.parameters.length) = some 1 := ⟨rfl, hs_EF_append⟩
abbrev b_EF_clear : ByteArray := prog_1_method_3_code
def y_EF_clear : MethodName := ⟨RX5, "clear", "()I"⟩
def ws_EF_clear : List Cond := .code y_EF_clear b_EF_clear 2 (Option.some FieldType.int) :: tb9
theorem hs_EF_clear : y_EF_clear.cls ≠ "java/lang/invoke/MethodHandle" ∧ y_EF_clear.cls ≠ "java/lang/invoke/VarHandle" ∧ (parseMethodDescriptor y_EF_clear.desc).map (fun d => d.parameters.length) = some 0 := by decide +kernel
theorem hv_EF_clear : y_EF_clear.cls = RX5 ∧ y_EF_clear.cls ≠ "java/lang/invoke/MethodHandle" ∧ y_EF_clear.cls ≠ "java/lang/invoke/VarHandle" ∧ (parseMethodDescriptor y_EF_clear.desc).map (fun d => d.parameters.length) = some 0 := ⟨rfl, hs_EF_clear⟩
abbrev b_EF_where : ByteArray := prog_1_method_5_code
def y_EF_where : MethodName := ⟨RX5, "where", "()I"⟩
def ws_EF_where : List Cond := .code y_EF_where b_EF_where 1 (Option.some FieldType.int) :: tb9
theorem hs_EF_where : y_EF_where.cls ≠ "java/lang/invoke/MethodHandle" ∧ y_EF_where.cls ≠ "java/lang/invoke/VarHandle" ∧ (parseMethodDescriptor y_EF_where.desc).map (fun d => d.parameters.length) = some 0 := by decide +kernel
theorem hv_EF_where : y_EF_where.cls = RX5 ∧ y_EF_where.cls ≠ "java/lang/invoke/MethodHandle" ∧ y_EF_where.cls ≠ "java/lang/invoke/VarHandle" ∧ (parseMethodDescriptor y_EF_where.desc).map (fun d => d.parameters.length) = some 0 := ⟨rfl, hs_EF_where⟩
abbrev b_Net_restart : ByteArray := prog_3_method_2_code
def y_Net_restart : MethodName := ⟨RX1, "restart", "()V"⟩
def ws_Net_restart : List Cond := .code y_Net_restart b_Net_restart 1 (Option.none : Option FieldType) :: tb9
theorem hs_Net_restart : y_Net_restart.cls ≠ "java/lang/invoke/MethodHandle" ∧ y_Net_restart.cls ≠ "java/lang/invoke/VarHandle" ∧ (parseMethodDescriptor y_Net_restart.desc).map (fun d => d.parameters.length) = some 0 := by decide +kernel
theorem hv_Net_restart : y_Net_restart.cls = RX1 ∧ y_Net_restart.cls ≠ "java/lang/invoke/MethodHandle" ∧ y_Net_restart.cls ≠ "java/lang/invoke/VarHandle" ∧ (parseMethodDescriptor y_Net_restart.desc).map (fun d => d.parameters.length) = some 0 := ⟨rfl, hs_Net_restart⟩
abbrev b_Walk_restart : ByteArray := prog_6_method_2_code
def y_Walk_restart : MethodName := ⟨RX4, "restart", "(I)V"⟩
def ws_Walk_restart : List Cond := .code y_Walk_restart b_Walk_restart 2 (Option.none : Option FieldType) :: tb9
theorem hs_Walk_restart : y_Walk_restart.cls ≠ "java/lang/invoke/MethodHandle" ∧ y_Walk_restart.cls ≠ "java/lang/invoke/VarHandle" ∧ (parseMethodDescriptor y_Walk_restart.desc).map (fun d => d.parameters.length) = some 1 := by decide +kernel
theorem hv_Walk_restart : y_Walk_restart.cls = RX4 ∧ y_Walk_restart.cls ≠ "java/lang/invoke/MethodHandle" ∧ y_Walk_restart.cls ≠ "java/lang/invoke/VarHandle" ∧ (parseMethodDescriptor y_Walk_restart.desc).map (fun d => d.parameters.length) = some 1 := ⟨rfl, hs_Walk_restart⟩
theorem k_2 : (.selects RX2 y_Pars_readExpression y_Pars_readExpression : Cond) ∈ tb9 := List.mem_filter.mpr ⟨List.mem_of_getElem? (i := 2) (by decide +kernel), by decide +kernel⟩
theorem k_3 : (.selects RX2 y_Pars_readTerm y_Pars_readTerm : Cond) ∈ tb9 := List.mem_filter.mpr ⟨List.mem_of_getElem? (i := 3) (by decide +kernel), by decide +kernel⟩
theorem k_4 : (.selects RX2 y_Pars_readFactor y_Pars_readFactor : Cond) ∈ tb9 := List.mem_filter.mpr ⟨List.mem_of_getElem? (i := 4) (by decide +kernel), by decide +kernel⟩
theorem k_5 : (.selects RX2 y_Pars_readAtom y_Pars_readAtom : Cond) ∈ tb9 := List.mem_filter.mpr ⟨List.mem_of_getElem? (i := 5) (by decide +kernel), by decide +kernel⟩
theorem k_6 : (.selects RX2 y_Pars_next y_Pars_next : Cond) ∈ tb9 := List.mem_filter.mpr ⟨List.mem_of_getElem? (i := 6) (by decide +kernel), by decide +kernel⟩
theorem k_7 : (.selects RX2 y_Pars_readGroup y_Pars_readGroup : Cond) ∈ tb9 := List.mem_filter.mpr ⟨List.mem_of_getElem? (i := 7) (by decide +kernel), by decide +kernel⟩
theorem k_8 : (.selects RX2 y_Pars_readLetters y_Pars_readLetters : Cond) ∈ tb9 := List.mem_filter.mpr ⟨List.mem_of_getElem? (i := 8) (by decide +kernel), by decide +kernel⟩
theorem k_9 : (.selects RX2 y_Pars_here y_Pars_here : Cond) ∈ tb9 := List.mem_filter.mpr ⟨List.mem_of_getElem? (i := 9) (by decide +kernel), by decide +kernel⟩
theorem k_10 : (.selects RX1 y_Net_link y_Net_link : Cond) ∈ tb9 := List.mem_filter.mpr ⟨List.mem_of_getElem? (i := 10) (by decide +kernel), by decide +kernel⟩
theorem k_11 : (.selects RX2 y_Pars_readAction y_Pars_readAction : Cond) ∈ tb9 := List.mem_filter.mpr ⟨List.mem_of_getElem? (i := 11) (by decide +kernel), by decide +kernel⟩
theorem k_12 : (.selects RX1 y_Net_give y_Net_give : Cond) ∈ tb9 := List.mem_filter.mpr ⟨List.mem_of_getElem? (i := 12) (by decide +kernel), by decide +kernel⟩
theorem k_13 : (.selects RX1 y_Net_giveSteps y_Net_giveSteps : Cond) ∈ tb9 := List.mem_filter.mpr ⟨List.mem_of_getElem? (i := 13) (by decide +kernel), by decide +kernel⟩
theorem k_14 : (.selects RX0 y_Mach_findWay y_Mach_findWay : Cond) ∈ tb9 := List.mem_filter.mpr ⟨List.mem_of_getElem? (i := 14) (by decide +kernel), by decide +kernel⟩
theorem k_15 : (.selects RX1 y_Net_together y_Net_together : Cond) ∈ tb9 := List.mem_filter.mpr ⟨List.mem_of_getElem? (i := 15) (by decide +kernel), by decide +kernel⟩
theorem k_16 : (.selects RX0 y_Mach_indexOf y_Mach_indexOf : Cond) ∈ tb9 := List.mem_filter.mpr ⟨List.mem_of_getElem? (i := 16) (by decide +kernel), by decide +kernel⟩
theorem k_17 : (.selects RX0 y_Mach_findEnd y_Mach_findEnd : Cond) ∈ tb9 := List.mem_filter.mpr ⟨List.mem_of_getElem? (i := 17) (by decide +kernel), by decide +kernel⟩
theorem k_18 : (.selects RX0 y_Mach_findClasses y_Mach_findClasses : Cond) ∈ tb9 := List.mem_filter.mpr ⟨List.mem_of_getElem? (i := 18) (by decide +kernel), by decide +kernel⟩
theorem k_19 : (.selects RX0 y_Mach_refine y_Mach_refine : Cond) ∈ tb9 := List.mem_filter.mpr ⟨List.mem_of_getElem? (i := 19) (by decide +kernel), by decide +kernel⟩
theorem k_20 : (.selects RX0 y_Mach_leastAlike y_Mach_leastAlike : Cond) ∈ tb9 := List.mem_filter.mpr ⟨List.mem_of_getElem? (i := 20) (by decide +kernel), by decide +kernel⟩
theorem k_21 : (.selects RX0 y_Mach_looksLike y_Mach_looksLike : Cond) ∈ tb9 := List.mem_filter.mpr ⟨List.mem_of_getElem? (i := 21) (by decide +kernel), by decide +kernel⟩
theorem k_22 : (.selects RX0 y_Mach_classBehind y_Mach_classBehind : Cond) ∈ tb9 := List.mem_filter.mpr ⟨List.mem_of_getElem? (i := 22) (by decide +kernel), by decide +kernel⟩
theorem k_26 : (.selects RX4 y_Walk_perform y_Walk_perform : Cond) ∈ tb9 := List.mem_filter.mpr ⟨List.mem_of_getElem? (i := 26) (by decide +kernel), by decide +kernel⟩
theorem k_49 : (.initialized y_EF_byteAt.cls : Cond) ∈ tb9 := List.mem_filter.mpr ⟨List.mem_of_getElem? (i := 49) (by decide +kernel), by decide +kernel⟩
theorem k_50 : (.initialized y_Pars_isLetter.cls : Cond) ∈ tb9 := List.mem_filter.mpr ⟨List.mem_of_getElem? (i := 50) (by decide +kernel), by decide +kernel⟩
theorem k_51 : (.initialized RX1 : Cond) ∈ tb9 := List.mem_filter.mpr ⟨List.mem_of_getElem? (i := 51) (by decide +kernel), by decide +kernel⟩
theorem k_52 : (.initialized RX3 : Cond) ∈ tb9 := List.mem_filter.mpr ⟨List.mem_of_getElem? (i := 52) (by decide +kernel), by decide +kernel⟩
theorem k_53 : (.initialized RX4 : Cond) ∈ tb9 := List.mem_filter.mpr ⟨List.mem_of_getElem? (i := 53) (by decide +kernel), by decide +kernel⟩
theorem k_54 : (.initialized RX0 : Cond) ∈ tb9 := List.mem_filter.mpr ⟨List.mem_of_getElem? (i := 54) (by decide +kernel), by decide +kernel⟩
theorem k_62 : (.initialized y_Arrays_rangeCheck.cls : Cond) ∈ tb9 := List.mem_filter.mpr ⟨List.mem_of_getElem? (i := 62) (by decide +kernel), by decide +kernel⟩
theorem k_68 : (.initialized "java/lang/System" : Cond) ∈ tb9 := List.mem_filter.mpr ⟨List.mem_of_getElem? (i := 68) (by decide +kernel), by decide +kernel⟩
theorem k_94 : (.fieldLink RX1 27 "EmbedForge$Net" "positions" "I" : Cond) ∈ tb9 := List.mem_filter.mpr ⟨List.mem_of_getElem? (i := 94) (by decide +kernel), by decide +kernel⟩
theorem k_96 : (.fieldLink RX1 9 "EmbedForge$Net" "withLetter" "[I" : Cond) ∈ tb9 := List.mem_filter.mpr ⟨List.mem_of_getElem? (i := 96) (by decide +kernel), by decide +kernel⟩
theorem k_98 : (.fieldLink RX1 15 "EmbedForge$Net" "firstActions" "[I" : Cond) ∈ tb9 := List.mem_filter.mpr ⟨List.mem_of_getElem? (i := 98) (by decide +kernel), by decide +kernel⟩
theorem k_99 : (.fieldLink RX1 18 "EmbedForge$Net" "lastActions" "[I" : Cond) ∈ tb9 := List.mem_filter.mpr ⟨List.mem_of_getElem? (i := 99) (by decide +kernel), by decide +kernel⟩
theorem k_100 : (.fieldLink RX1 21 "EmbedForge$Net" "steps" "[I" : Cond) ∈ tb9 := List.mem_filter.mpr ⟨List.mem_of_getElem? (i := 100) (by decide +kernel), by decide +kernel⟩
theorem k_102 : (.fieldLink RX1 24 "EmbedForge$Net" "stepActions" "[I" : Cond) ∈ tb9 := List.mem_filter.mpr ⟨List.mem_of_getElem? (i := 102) (by decide +kernel), by decide +kernel⟩
theorem k_125 : (.fieldLink RX3 7 "EmbedForge$Part" "from" "I" : Cond) ∈ tb9 := List.mem_filter.mpr ⟨List.mem_of_getElem? (i := 125) (by decide +kernel), by decide +kernel⟩
theorem k_127 : (.fieldLink RX3 13 "EmbedForge$Part" "first" "I" : Cond) ∈ tb9 := List.mem_filter.mpr ⟨List.mem_of_getElem? (i := 127) (by decide +kernel), by decide +kernel⟩
theorem k_130 : (.fieldLink RX3 16 "EmbedForge$Part" "last" "I" : Cond) ∈ tb9 := List.mem_filter.mpr ⟨List.mem_of_getElem? (i := 130) (by decide +kernel), by decide +kernel⟩
theorem k_133 : (.fieldLink RX3 19 "EmbedForge$Part" "empty" "Z" : Cond) ∈ tb9 := List.mem_filter.mpr ⟨List.mem_of_getElem? (i := 133) (by decide +kernel), by decide +kernel⟩
theorem k_136 : (.fieldLink RX3 23 "EmbedForge$Part" "nothing" "I" : Cond) ∈ tb9 := List.mem_filter.mpr ⟨List.mem_of_getElem? (i := 136) (by decide +kernel), by decide +kernel⟩
theorem k_150 : (.fieldLink RX2 12 "EmbedForge$Parser" "net" "LEmbedForge$Net;" : Cond) ∈ tb9 := List.mem_filter.mpr ⟨List.mem_of_getElem? (i := 150) (by decide +kernel), by decide +kernel⟩
theorem k_152 : (.fieldLink RX2 20 "EmbedForge$Parser" "expressions" "[LEmbedForge$Part;" : Cond) ∈ tb9 := List.mem_filter.mpr ⟨List.mem_of_getElem? (i := 152) (by decide +kernel), by decide +kernel⟩
theorem k_153 : (.fieldLink RX2 24 "EmbedForge$Parser" "terms" "[LEmbedForge$Part;" : Cond) ∈ tb9 := List.mem_filter.mpr ⟨List.mem_of_getElem? (i := 153) (by decide +kernel), by decide +kernel⟩
theorem k_154 : (.fieldLink RX2 27 "EmbedForge$Parser" "factors" "[LEmbedForge$Part;" : Cond) ∈ tb9 := List.mem_filter.mpr ⟨List.mem_of_getElem? (i := 154) (by decide +kernel), by decide +kernel⟩
theorem k_155 : (.fieldLink RX2 30 "EmbedForge$Parser" "row" "[C" : Cond) ∈ tb9 := List.mem_filter.mpr ⟨List.mem_of_getElem? (i := 155) (by decide +kernel), by decide +kernel⟩
theorem k_156 : (.fieldLink RX2 41 "EmbedForge$Parser" "length" "I" : Cond) ∈ tb9 := List.mem_filter.mpr ⟨List.mem_of_getElem? (i := 156) (by decide +kernel), by decide +kernel⟩
theorem k_157 : (.fieldLink RX2 45 "EmbedForge$Parser" "at" "I" : Cond) ∈ tb9 := List.mem_filter.mpr ⟨List.mem_of_getElem? (i := 157) (by decide +kernel), by decide +kernel⟩
theorem k_179 : (.fieldLink RX4 15 "EmbedForge$Walk" "at" "I" : Cond) ∈ tb9 := List.mem_filter.mpr ⟨List.mem_of_getElem? (i := 179) (by decide +kernel), by decide +kernel⟩
theorem k_181 : (.fieldLink RX4 19 "EmbedForge$Walk" "ended" "Z" : Cond) ∈ tb9 := List.mem_filter.mpr ⟨List.mem_of_getElem? (i := 181) (by decide +kernel), by decide +kernel⟩
theorem k_183 : (.fieldLink RX4 23 "EmbedForge$Walk" "fed" "I" : Cond) ∈ tb9 := List.mem_filter.mpr ⟨List.mem_of_getElem? (i := 183) (by decide +kernel), by decide +kernel⟩
theorem k_185 : (.fieldLink RX4 9 "EmbedForge$Walk" "done" "[I" : Cond) ∈ tb9 := List.mem_filter.mpr ⟨List.mem_of_getElem? (i := 185) (by decide +kernel), by decide +kernel⟩
theorem k_202 : (.fieldLink RX0 41 "EmbedForge$Machine" "states" "I" : Cond) ∈ tb9 := List.mem_filter.mpr ⟨List.mem_of_getElem? (i := 202) (by decide +kernel), by decide +kernel⟩
theorem k_204 : (.fieldLink RX0 40 "EmbedForge$Machine" "positions" "I" : Cond) ∈ tb9 := List.mem_filter.mpr ⟨List.mem_of_getElem? (i := 204) (by decide +kernel), by decide +kernel⟩
theorem k_206 : (.fieldLink RX0 100 "EmbedForge$Machine" "classCount" "I" : Cond) ∈ tb9 := List.mem_filter.mpr ⟨List.mem_of_getElem? (i := 206) (by decide +kernel), by decide +kernel⟩
theorem k_208 : (.fieldLink RX0 9 "EmbedForge$Machine" "sets" "[I" : Cond) ∈ tb9 := List.mem_filter.mpr ⟨List.mem_of_getElem? (i := 208) (by decide +kernel), by decide +kernel⟩
theorem k_210 : (.fieldLink RX0 15 "EmbedForge$Machine" "ways" "[I" : Cond) ∈ tb9 := List.mem_filter.mpr ⟨List.mem_of_getElem? (i := 210) (by decide +kernel), by decide +kernel⟩
theorem k_211 : (.fieldLink RX0 18 "EmbedForge$Machine" "wayActions" "[I" : Cond) ∈ tb9 := List.mem_filter.mpr ⟨List.mem_of_getElem? (i := 211) (by decide +kernel), by decide +kernel⟩
theorem k_212 : (.fieldLink RX0 21 "EmbedForge$Machine" "finals" "[Z" : Cond) ∈ tb9 := List.mem_filter.mpr ⟨List.mem_of_getElem? (i := 212) (by decide +kernel), by decide +kernel⟩
theorem k_214 : (.fieldLink RX0 25 "EmbedForge$Machine" "endActions" "[I" : Cond) ∈ tb9 := List.mem_filter.mpr ⟨List.mem_of_getElem? (i := 214) (by decide +kernel), by decide +kernel⟩
theorem k_216 : (.fieldLink RX0 28 "EmbedForge$Machine" "classes" "[I" : Cond) ∈ tb9 := List.mem_filter.mpr ⟨List.mem_of_getElem? (i := 216) (by decide +kernel), by decide +kernel⟩
theorem k_218 : (.fieldLink RX0 31 "EmbedForge$Machine" "finer" "[I" : Cond) ∈ tb9 := List.mem_filter.mpr ⟨List.mem_of_getElem? (i := 218) (by decide +kernel), by decide +kernel⟩
theorem k_241 : (.fieldLink RX5 9 "EmbedForge" "row" "[C" : Cond) ∈ tb9 := List.mem_filter.mpr ⟨List.mem_of_getElem? (i := 241) (by decide +kernel), by decide +kernel⟩
theorem k_242 : (.fieldLink RX5 13 "EmbedForge" "length" "I" : Cond) ∈ tb9 := List.mem_filter.mpr ⟨List.mem_of_getElem? (i := 242) (by decide +kernel), by decide +kernel⟩
theorem k_243 : (.fieldLink RX5 17 "EmbedForge" "fault" "I" : Cond) ∈ tb9 := List.mem_filter.mpr ⟨List.mem_of_getElem? (i := 243) (by decide +kernel), by decide +kernel⟩
theorem k_280 : (.methodLink RX5 44 y_EF_byteAt : Cond) ∈ tb9 := List.mem_filter.mpr ⟨List.mem_of_getElem? (i := 280) (by decide +kernel), by decide +kernel⟩
theorem k_281 : (.static y_EF_byteAt : Cond) ∈ tb9 := List.mem_filter.mpr ⟨List.mem_of_getElem? (i := 281) (by decide +kernel), by decide +kernel⟩
theorem k_282 : (.code y_EF_byteAt b_EF_byteAt 3 (Option.some FieldType.int) : Cond) ∈ tb9 := List.mem_filter.mpr ⟨List.mem_of_getElem? (i := 282) (by decide +kernel), by decide +kernel⟩
theorem k_386 : (.methodLink RX1 31 y_Arrays_fill : Cond) ∈ tb9 := List.mem_filter.mpr ⟨List.mem_of_getElem? (i := 386) (by decide +kernel), by decide +kernel⟩
theorem k_387 : (.static y_Arrays_fill : Cond) ∈ tb9 := List.mem_filter.mpr ⟨List.mem_of_getElem? (i := 387) (by decide +kernel), by decide +kernel⟩
theorem k_388 : (.code y_Arrays_fill b_Arrays_fill 4 (Option.none : Option FieldType) : Cond) ∈ tb9 := List.mem_filter.mpr ⟨List.mem_of_getElem? (i := 388) (by decide +kernel), by decide +kernel⟩
theorem k_389 : (.methodLink RX2 51 y_Pars_readExpression : Cond) ∈ tb9 := List.mem_filter.mpr ⟨List.mem_of_getElem? (i := 389) (by decide +kernel), by decide +kernel⟩
theorem k_391 : (.instanceMethod y_Pars_readExpression : Cond) ∈ tb9 := List.mem_filter.mpr ⟨List.mem_of_getElem? (i := 391) (by decide +kernel), by decide +kernel⟩
theorem k_392 : (.code y_Pars_readExpression b_Pars_readExpression 3 (Option.some FieldType.boolean) : Cond) ∈ tb9 := List.mem_filter.mpr ⟨List.mem_of_getElem? (i := 392) (by decide +kernel), by decide +kernel⟩
theorem k_393 : (.methodLink RX2 59 y_Pars_readTerm : Cond) ∈ tb9 := List.mem_filter.mpr ⟨List.mem_of_getElem? (i := 393) (by decide +kernel), by decide +kernel⟩
theorem k_395 : (.instanceMethod y_Pars_readTerm : Cond) ∈ tb9 := List.mem_filter.mpr ⟨List.mem_of_getElem? (i := 395) (by decide +kernel), by decide +kernel⟩
theorem k_396 : (.code y_Pars_readTerm b_Pars_readTerm 3 (Option.some FieldType.boolean) : Cond) ∈ tb9 := List.mem_filter.mpr ⟨List.mem_of_getElem? (i := 396) (by decide +kernel), by decide +kernel⟩
theorem k_397 : (.methodLink RX2 70 y_Pars_readFactor : Cond) ∈ tb9 := List.mem_filter.mpr ⟨List.mem_of_getElem? (i := 397) (by decide +kernel), by decide +kernel⟩
theorem k_399 : (.instanceMethod y_Pars_readFactor : Cond) ∈ tb9 := List.mem_filter.mpr ⟨List.mem_of_getElem? (i := 399) (by decide +kernel), by decide +kernel⟩
theorem k_400 : (.code y_Pars_readFactor b_Pars_readFactor 4 (Option.some FieldType.boolean) : Cond) ∈ tb9 := List.mem_filter.mpr ⟨List.mem_of_getElem? (i := 400) (by decide +kernel), by decide +kernel⟩
theorem k_401 : (.methodLink RX2 80 y_Pars_readAtom : Cond) ∈ tb9 := List.mem_filter.mpr ⟨List.mem_of_getElem? (i := 401) (by decide +kernel), by decide +kernel⟩
theorem k_403 : (.instanceMethod y_Pars_readAtom : Cond) ∈ tb9 := List.mem_filter.mpr ⟨List.mem_of_getElem? (i := 403) (by decide +kernel), by decide +kernel⟩
theorem k_404 : (.code y_Pars_readAtom b_Pars_readAtom 4 (Option.some FieldType.boolean) : Cond) ∈ tb9 := List.mem_filter.mpr ⟨List.mem_of_getElem? (i := 404) (by decide +kernel), by decide +kernel⟩
theorem k_405 : (.methodLink RX2 55 y_Pars_next : Cond) ∈ tb9 := List.mem_filter.mpr ⟨List.mem_of_getElem? (i := 405) (by decide +kernel), by decide +kernel⟩
theorem k_407 : (.instanceMethod y_Pars_next : Cond) ∈ tb9 := List.mem_filter.mpr ⟨List.mem_of_getElem? (i := 407) (by decide +kernel), by decide +kernel⟩
theorem k_408 : (.code y_Pars_next b_Pars_next 1 (Option.some FieldType.char) : Cond) ∈ tb9 := List.mem_filter.mpr ⟨List.mem_of_getElem? (i := 408) (by decide +kernel), by decide +kernel⟩
theorem k_409 : (.methodLink RX2 104 y_Pars_readGroup : Cond) ∈ tb9 := List.mem_filter.mpr ⟨List.mem_of_getElem? (i := 409) (by decide +kernel), by decide +kernel⟩
theorem k_411 : (.instanceMethod y_Pars_readGroup : Cond) ∈ tb9 := List.mem_filter.mpr ⟨List.mem_of_getElem? (i := 411) (by decide +kernel), by decide +kernel⟩
theorem k_412 : (.code y_Pars_readGroup b_Pars_readGroup 2 (Option.some FieldType.boolean) : Cond) ∈ tb9 := List.mem_filter.mpr ⟨List.mem_of_getElem? (i := 412) (by decide +kernel), by decide +kernel⟩
theorem k_413 : (.methodLink RX2 62 y_Part_become : Cond) ∈ tb9 := List.mem_filter.mpr ⟨List.mem_of_getElem? (i := 413) (by decide +kernel), by decide +kernel⟩
theorem k_414 : (.instanceMethod y_Part_become : Cond) ∈ tb9 := List.mem_filter.mpr ⟨List.mem_of_getElem? (i := 414) (by decide +kernel), by decide +kernel⟩
theorem k_415 : (.selects RX3 y_Part_become y_Part_become : Cond) ∈ tb9 := List.mem_filter.mpr ⟨List.mem_of_getElem? (i := 415) (by decide +kernel), by decide +kernel⟩
theorem k_416 : (.code y_Part_become b_Part_become 2 (Option.none : Option FieldType) : Cond) ∈ tb9 := List.mem_filter.mpr ⟨List.mem_of_getElem? (i := 416) (by decide +kernel), by decide +kernel⟩
theorem k_417 : (.methodLink RX2 73 y_Pars_beginsAtom : Cond) ∈ tb9 := List.mem_filter.mpr ⟨List.mem_of_getElem? (i := 417) (by decide +kernel), by decide +kernel⟩
theorem k_418 : (.static y_Pars_beginsAtom : Cond) ∈ tb9 := List.mem_filter.mpr ⟨List.mem_of_getElem? (i := 418) (by decide +kernel), by decide +kernel⟩
theorem k_419 : (.code y_Pars_beginsAtom b_Pars_beginsAtom 1 (Option.some FieldType.boolean) : Cond) ∈ tb9 := List.mem_filter.mpr ⟨List.mem_of_getElem? (i := 419) (by decide +kernel), by decide +kernel⟩
theorem k_420 : (.methodLink RX2 123 y_Pars_isLetter : Cond) ∈ tb9 := List.mem_filter.mpr ⟨List.mem_of_getElem? (i := 420) (by decide +kernel), by decide +kernel⟩
theorem k_421 : (.static y_Pars_isLetter : Cond) ∈ tb9 := List.mem_filter.mpr ⟨List.mem_of_getElem? (i := 421) (by decide +kernel), by decide +kernel⟩
theorem k_422 : (.code y_Pars_isLetter b_Pars_isLetter 1 (Option.some FieldType.boolean) : Cond) ∈ tb9 := List.mem_filter.mpr ⟨List.mem_of_getElem? (i := 422) (by decide +kernel), by decide +kernel⟩
theorem k_423 : (.methodLink RX2 107 y_Net_isFull : Cond) ∈ tb9 := List.mem_filter.mpr ⟨List.mem_of_getElem? (i := 423) (by decide +kernel), by decide +kernel⟩
theorem k_424 : (.instanceMethod y_Net_isFull : Cond) ∈ tb9 := List.mem_filter.mpr ⟨List.mem_of_getElem? (i := 424) (by decide +kernel), by decide +kernel⟩
theorem k_425 : (.selects RX1 y_Net_isFull y_Net_isFull : Cond) ∈ tb9 := List.mem_filter.mpr ⟨List.mem_of_getElem? (i := 425) (by decide +kernel), by decide +kernel⟩
theorem k_426 : (.code y_Net_isFull b_Net_isFull 1 (Option.some FieldType.boolean) : Cond) ∈ tb9 := List.mem_filter.mpr ⟨List.mem_of_getElem? (i := 426) (by decide +kernel), by decide +kernel⟩
theorem k_427 : (.methodLink RX2 111 y_Pars_readLetters : Cond) ∈ tb9 := List.mem_filter.mpr ⟨List.mem_of_getElem? (i := 427) (by decide +kernel), by decide +kernel⟩
theorem k_429 : (.instanceMethod y_Pars_readLetters : Cond) ∈ tb9 := List.mem_filter.mpr ⟨List.mem_of_getElem? (i := 429) (by decide +kernel), by decide +kernel⟩
theorem k_430 : (.code y_Pars_readLetters b_Pars_readLetters 2 (Option.some FieldType.int) : Cond) ∈ tb9 := List.mem_filter.mpr ⟨List.mem_of_getElem? (i := 430) (by decide +kernel), by decide +kernel⟩
theorem k_431 : (.methodLink RX2 115 y_Pars_letterBit : Cond) ∈ tb9 := List.mem_filter.mpr ⟨List.mem_of_getElem? (i := 431) (by decide +kernel), by decide +kernel⟩
theorem k_432 : (.static y_Pars_letterBit : Cond) ∈ tb9 := List.mem_filter.mpr ⟨List.mem_of_getElem? (i := 432) (by decide +kernel), by decide +kernel⟩
theorem k_433 : (.code y_Pars_letterBit b_Pars_letterBit 1 (Option.some FieldType.int) : Cond) ∈ tb9 := List.mem_filter.mpr ⟨List.mem_of_getElem? (i := 433) (by decide +kernel), by decide +kernel⟩
theorem k_434 : (.methodLink RX2 86 y_Pars_here : Cond) ∈ tb9 := List.mem_filter.mpr ⟨List.mem_of_getElem? (i := 434) (by decide +kernel), by decide +kernel⟩
theorem k_436 : (.instanceMethod y_Pars_here : Cond) ∈ tb9 := List.mem_filter.mpr ⟨List.mem_of_getElem? (i := 436) (by decide +kernel), by decide +kernel⟩
theorem k_437 : (.code y_Pars_here b_Pars_here 1 (Option.some FieldType.char) : Cond) ∈ tb9 := List.mem_filter.mpr ⟨List.mem_of_getElem? (i := 437) (by decide +kernel), by decide +kernel⟩
theorem k_438 : (.methodLink RX2 119 y_Net_addPosition : Cond) ∈ tb9 := List.mem_filter.mpr ⟨List.mem_of_getElem? (i := 438) (by decide +kernel), by decide +kernel⟩
theorem k_439 : (.instanceMethod y_Net_addPosition : Cond) ∈ tb9 := List.mem_filter.mpr ⟨List.mem_of_getElem? (i := 439) (by decide +kernel), by decide +kernel⟩
theorem k_440 : (.selects RX1 y_Net_addPosition y_Net_addPosition : Cond) ∈ tb9 := List.mem_filter.mpr ⟨List.mem_of_getElem? (i := 440) (by decide +kernel), by decide +kernel⟩
theorem k_441 : (.code y_Net_addPosition b_Net_addPosition 5 (Option.none : Option FieldType) : Cond) ∈ tb9 := List.mem_filter.mpr ⟨List.mem_of_getElem? (i := 441) (by decide +kernel), by decide +kernel⟩
theorem k_442 : (.methodLink RX1 37 y_Arrays_fillR : Cond) ∈ tb9 := List.mem_filter.mpr ⟨List.mem_of_getElem? (i := 442) (by decide +kernel), by decide +kernel⟩
theorem k_443 : (.static y_Arrays_fillR : Cond) ∈ tb9 := List.mem_filter.mpr ⟨List.mem_of_getElem? (i := 443) (by decide +kernel), by decide +kernel⟩
theorem k_444 : (.code y_Arrays_fillR b_Arrays_fillR 5 (Option.none : Option FieldType) : Cond) ∈ tb9 := List.mem_filter.mpr ⟨List.mem_of_getElem? (i := 444) (by decide +kernel), by decide +kernel⟩
theorem k_445 : (.methodLink RAr 13 y_Arrays_rangeCheck : Cond) ∈ tb9 := List.mem_filter.mpr ⟨List.mem_of_getElem? (i := 445) (by decide +kernel), by decide +kernel⟩
theorem k_446 : (.static y_Arrays_rangeCheck : Cond) ∈ tb9 := List.mem_filter.mpr ⟨List.mem_of_getElem? (i := 446) (by decide +kernel), by decide +kernel⟩
theorem k_447 : (.code y_Arrays_rangeCheck b_Arrays_rangeCheck 3 (Option.none : Option FieldType) : Cond) ∈ tb9 := List.mem_filter.mpr ⟨List.mem_of_getElem? (i := 447) (by decide +kernel), by decide +kernel⟩
theorem k_524 : (.static arraycopyName : Cond) ∈ tb9 := List.mem_filter.mpr ⟨List.mem_of_getElem? (i := 524) (by decide +kernel), by decide +kernel⟩
theorem k_525 : (.native arraycopyName : Cond) ∈ tb9 := List.mem_filter.mpr ⟨List.mem_of_getElem? (i := 525) (by decide +kernel), by decide +kernel⟩
theorem k_700 : (.methodLink RX1 40 y_Part_becomePosition : Cond) ∈ tb9 := List.mem_filter.mpr ⟨List.mem_of_getElem? (i := 700) (by decide +kernel), by decide +kernel⟩
theorem k_701 : (.instanceMethod y_Part_becomePosition : Cond) ∈ tb9 := List.mem_filter.mpr ⟨List.mem_of_getElem? (i := 701) (by decide +kernel), by decide +kernel⟩
theorem k_702 : (.selects RX3 y_Part_becomePosition y_Part_becomePosition : Cond) ∈ tb9 := List.mem_filter.mpr ⟨List.mem_of_getElem? (i := 702) (by decide +kernel), by decide +kernel⟩
theorem k_703 : (.code y_Part_becomePosition b_Part_becomePosition 2 (Option.none : Option FieldType) : Cond) ∈ tb9 := List.mem_filter.mpr ⟨List.mem_of_getElem? (i := 703) (by decide +kernel), by decide +kernel⟩
theorem k_704 : (.methodLink RX2 83 y_Pars_isSign : Cond) ∈ tb9 := List.mem_filter.mpr ⟨List.mem_of_getElem? (i := 704) (by decide +kernel), by decide +kernel⟩
theorem k_705 : (.static y_Pars_isSign : Cond) ∈ tb9 := List.mem_filter.mpr ⟨List.mem_of_getElem? (i := 705) (by decide +kernel), by decide +kernel⟩
theorem k_706 : (.code y_Pars_isSign b_Pars_isSign 1 (Option.some FieldType.boolean) : Cond) ∈ tb9 := List.mem_filter.mpr ⟨List.mem_of_getElem? (i := 706) (by decide +kernel), by decide +kernel⟩
theorem k_707 : (.methodLink RX2 89 y_Pars_isRepeat : Cond) ∈ tb9 := List.mem_filter.mpr ⟨List.mem_of_getElem? (i := 707) (by decide +kernel), by decide +kernel⟩
theorem k_708 : (.static y_Pars_isRepeat : Cond) ∈ tb9 := List.mem_filter.mpr ⟨List.mem_of_getElem? (i := 708) (by decide +kernel), by decide +kernel⟩
theorem k_709 : (.code y_Pars_isRepeat b_Pars_isRepeat 1 (Option.some FieldType.boolean) : Cond) ∈ tb9 := List.mem_filter.mpr ⟨List.mem_of_getElem? (i := 709) (by decide +kernel), by decide +kernel⟩
theorem k_710 : (.methodLink RX2 92 y_Net_repeat : Cond) ∈ tb9 := List.mem_filter.mpr ⟨List.mem_of_getElem? (i := 710) (by decide +kernel), by decide +kernel⟩
theorem k_711 : (.instanceMethod y_Net_repeat : Cond) ∈ tb9 := List.mem_filter.mpr ⟨List.mem_of_getElem? (i := 711) (by decide +kernel), by decide +kernel⟩
theorem k_712 : (.selects RX1 y_Net_repeat y_Net_repeat : Cond) ∈ tb9 := List.mem_filter.mpr ⟨List.mem_of_getElem? (i := 712) (by decide +kernel), by decide +kernel⟩
theorem k_713 : (.code y_Net_repeat b_Net_repeat 3 (Option.none : Option FieldType) : Cond) ∈ tb9 := List.mem_filter.mpr ⟨List.mem_of_getElem? (i := 713) (by decide +kernel), by decide +kernel⟩
theorem k_714 : (.methodLink RX1 59 y_Net_link : Cond) ∈ tb9 := List.mem_filter.mpr ⟨List.mem_of_getElem? (i := 714) (by decide +kernel), by decide +kernel⟩
theorem k_716 : (.instanceMethod y_Net_link : Cond) ∈ tb9 := List.mem_filter.mpr ⟨List.mem_of_getElem? (i := 716) (by decide +kernel), by decide +kernel⟩
theorem k_717 : (.code y_Net_link b_Net_link 6 (Option.none : Option FieldType) : Cond) ∈ tb9 := List.mem_filter.mpr ⟨List.mem_of_getElem? (i := 717) (by decide +kernel), by decide +kernel⟩
theorem k_718 : (.methodLink RX2 96 y_Pars_readAction : Cond) ∈ tb9 := List.mem_filter.mpr ⟨List.mem_of_getElem? (i := 718) (by decide +kernel), by decide +kernel⟩
theorem k_720 : (.instanceMethod y_Pars_readAction : Cond) ∈ tb9 := List.mem_filter.mpr ⟨List.mem_of_getElem? (i := 720) (by decide +kernel), by decide +kernel⟩
theorem k_721 : (.code y_Pars_readAction b_Pars_readAction 4 (Option.some FieldType.boolean) : Cond) ∈ tb9 := List.mem_filter.mpr ⟨List.mem_of_getElem? (i := 721) (by decide +kernel), by decide +kernel⟩
theorem k_722 : (.methodLink RX2 100 y_Net_act : Cond) ∈ tb9 := List.mem_filter.mpr ⟨List.mem_of_getElem? (i := 722) (by decide +kernel), by decide +kernel⟩
theorem k_723 : (.instanceMethod y_Net_act : Cond) ∈ tb9 := List.mem_filter.mpr ⟨List.mem_of_getElem? (i := 723) (by decide +kernel), by decide +kernel⟩
theorem k_724 : (.selects RX1 y_Net_act y_Net_act : Cond) ∈ tb9 := List.mem_filter.mpr ⟨List.mem_of_getElem? (i := 724) (by decide +kernel), by decide +kernel⟩
theorem k_725 : (.code y_Net_act b_Net_act 5 (Option.none : Option FieldType) : Cond) ∈ tb9 := List.mem_filter.mpr ⟨List.mem_of_getElem? (i := 725) (by decide +kernel), by decide +kernel⟩
theorem k_726 : (.methodLink RX1 63 y_Net_give : Cond) ∈ tb9 := List.mem_filter.mpr ⟨List.mem_of_getElem? (i := 726) (by decide +kernel), by decide +kernel⟩
theorem k_728 : (.instanceMethod y_Net_give : Cond) ∈ tb9 := List.mem_filter.mpr ⟨List.mem_of_getElem? (i := 728) (by decide +kernel), by decide +kernel⟩
theorem k_729 : (.code y_Net_give b_Net_give 5 (Option.none : Option FieldType) : Cond) ∈ tb9 := List.mem_filter.mpr ⟨List.mem_of_getElem? (i := 729) (by decide +kernel), by decide +kernel⟩
theorem k_730 : (.methodLink RX1 70 y_Net_giveSteps : Cond) ∈ tb9 := List.mem_filter.mpr ⟨List.mem_of_getElem? (i := 730) (by decide +kernel), by decide +kernel⟩
theorem k_732 : (.instanceMethod y_Net_giveSteps : Cond) ∈ tb9 := List.mem_filter.mpr ⟨List.mem_of_getElem? (i := 732) (by decide +kernel), by decide +kernel⟩
theorem k_733 : (.code y_Net_giveSteps b_Net_giveSteps 7 (Option.none : Option FieldType) : Cond) ∈ tb9 := List.mem_filter.mpr ⟨List.mem_of_getElem? (i := 733) (by decide +kernel), by decide +kernel⟩
theorem k_734 : (.methodLink RX2 77 y_Net_chain : Cond) ∈ tb9 := List.mem_filter.mpr ⟨List.mem_of_getElem? (i := 734) (by decide +kernel), by decide +kernel⟩
theorem k_735 : (.instanceMethod y_Net_chain : Cond) ∈ tb9 := List.mem_filter.mpr ⟨List.mem_of_getElem? (i := 735) (by decide +kernel), by decide +kernel⟩
theorem k_736 : (.selects RX1 y_Net_chain y_Net_chain : Cond) ∈ tb9 := List.mem_filter.mpr ⟨List.mem_of_getElem? (i := 736) (by decide +kernel), by decide +kernel⟩
theorem k_737 : (.code y_Net_chain b_Net_chain 3 (Option.none : Option FieldType) : Cond) ∈ tb9 := List.mem_filter.mpr ⟨List.mem_of_getElem? (i := 737) (by decide +kernel), by decide +kernel⟩
theorem k_738 : (.methodLink RX2 66 y_Net_either : Cond) ∈ tb9 := List.mem_filter.mpr ⟨List.mem_of_getElem? (i := 738) (by decide +kernel), by decide +kernel⟩
theorem k_739 : (.instanceMethod y_Net_either : Cond) ∈ tb9 := List.mem_filter.mpr ⟨List.mem_of_getElem? (i := 739) (by decide +kernel), by decide +kernel⟩
theorem k_740 : (.selects RX1 y_Net_either y_Net_either : Cond) ∈ tb9 := List.mem_filter.mpr ⟨List.mem_of_getElem? (i := 740) (by decide +kernel), by decide +kernel⟩
theorem k_741 : (.code y_Net_either b_Net_either 3 (Option.none : Option FieldType) : Cond) ∈ tb9 := List.mem_filter.mpr ⟨List.mem_of_getElem? (i := 741) (by decide +kernel), by decide +kernel⟩
theorem k_754 : (.methodLink RX0 44 y_Mach_findWay : Cond) ∈ tb9 := List.mem_filter.mpr ⟨List.mem_of_getElem? (i := 754) (by decide +kernel), by decide +kernel⟩
theorem k_756 : (.instanceMethod y_Mach_findWay : Cond) ∈ tb9 := List.mem_filter.mpr ⟨List.mem_of_getElem? (i := 756) (by decide +kernel), by decide +kernel⟩
theorem k_757 : (.code y_Mach_findWay b_Mach_findWay 9 (Option.some FieldType.boolean) : Cond) ∈ tb9 := List.mem_filter.mpr ⟨List.mem_of_getElem? (i := 757) (by decide +kernel), by decide +kernel⟩
theorem k_758 : (.methodLink RX0 63 y_Net_actionsOfFirst : Cond) ∈ tb9 := List.mem_filter.mpr ⟨List.mem_of_getElem? (i := 758) (by decide +kernel), by decide +kernel⟩
theorem k_759 : (.instanceMethod y_Net_actionsOfFirst : Cond) ∈ tb9 := List.mem_filter.mpr ⟨List.mem_of_getElem? (i := 759) (by decide +kernel), by decide +kernel⟩
theorem k_760 : (.selects RX1 y_Net_actionsOfFirst y_Net_actionsOfFirst : Cond) ∈ tb9 := List.mem_filter.mpr ⟨List.mem_of_getElem? (i := 760) (by decide +kernel), by decide +kernel⟩
theorem k_761 : (.code y_Net_actionsOfFirst b_Net_actionsOfFirst 2 (Option.some FieldType.int) : Cond) ∈ tb9 := List.mem_filter.mpr ⟨List.mem_of_getElem? (i := 761) (by decide +kernel), by decide +kernel⟩
theorem k_762 : (.methodLink RX1 74 y_Net_together : Cond) ∈ tb9 := List.mem_filter.mpr ⟨List.mem_of_getElem? (i := 762) (by decide +kernel), by decide +kernel⟩
theorem k_764 : (.instanceMethod y_Net_together : Cond) ∈ tb9 := List.mem_filter.mpr ⟨List.mem_of_getElem? (i := 764) (by decide +kernel), by decide +kernel⟩
theorem k_765 : (.code y_Net_together b_Net_together 6 (Option.some FieldType.int) : Cond) ∈ tb9 := List.mem_filter.mpr ⟨List.mem_of_getElem? (i := 765) (by decide +kernel), by decide +kernel⟩
theorem k_766 : (.methodLink RX0 70 y_Net_actionsOfSteps : Cond) ∈ tb9 := List.mem_filter.mpr ⟨List.mem_of_getElem? (i := 766) (by decide +kernel), by decide +kernel⟩
theorem k_767 : (.instanceMethod y_Net_actionsOfSteps : Cond) ∈ tb9 := List.mem_filter.mpr ⟨List.mem_of_getElem? (i := 767) (by decide +kernel), by decide +kernel⟩
theorem k_768 : (.selects RX1 y_Net_actionsOfSteps y_Net_actionsOfSteps : Cond) ∈ tb9 := List.mem_filter.mpr ⟨List.mem_of_getElem? (i := 768) (by decide +kernel), by decide +kernel⟩
theorem k_769 : (.code y_Net_actionsOfSteps b_Net_actionsOfSteps 3 (Option.some FieldType.int) : Cond) ∈ tb9 := List.mem_filter.mpr ⟨List.mem_of_getElem? (i := 769) (by decide +kernel), by decide +kernel⟩
theorem k_770 : (.methodLink RX0 74 y_Mach_indexOf : Cond) ∈ tb9 := List.mem_filter.mpr ⟨List.mem_of_getElem? (i := 770) (by decide +kernel), by decide +kernel⟩
theorem k_772 : (.instanceMethod y_Mach_indexOf : Cond) ∈ tb9 := List.mem_filter.mpr ⟨List.mem_of_getElem? (i := 772) (by decide +kernel), by decide +kernel⟩
theorem k_773 : (.code y_Mach_indexOf b_Mach_indexOf 3 (Option.some FieldType.int) : Cond) ∈ tb9 := List.mem_filter.mpr ⟨List.mem_of_getElem? (i := 773) (by decide +kernel), by decide +kernel⟩
theorem k_774 : (.methodLink RX0 48 y_Mach_findEnd : Cond) ∈ tb9 := List.mem_filter.mpr ⟨List.mem_of_getElem? (i := 774) (by decide +kernel), by decide +kernel⟩
theorem k_776 : (.instanceMethod y_Mach_findEnd : Cond) ∈ tb9 := List.mem_filter.mpr ⟨List.mem_of_getElem? (i := 776) (by decide +kernel), by decide +kernel⟩
theorem k_777 : (.code y_Mach_findEnd b_Mach_findEnd 5 (Option.none : Option FieldType) : Cond) ∈ tb9 := List.mem_filter.mpr ⟨List.mem_of_getElem? (i := 777) (by decide +kernel), by decide +kernel⟩
theorem k_778 : (.methodLink RX0 87 y_Net_actionsOfLast : Cond) ∈ tb9 := List.mem_filter.mpr ⟨List.mem_of_getElem? (i := 778) (by decide +kernel), by decide +kernel⟩
theorem k_779 : (.instanceMethod y_Net_actionsOfLast : Cond) ∈ tb9 := List.mem_filter.mpr ⟨List.mem_of_getElem? (i := 779) (by decide +kernel), by decide +kernel⟩
theorem k_780 : (.selects RX1 y_Net_actionsOfLast y_Net_actionsOfLast : Cond) ∈ tb9 := List.mem_filter.mpr ⟨List.mem_of_getElem? (i := 780) (by decide +kernel), by decide +kernel⟩
theorem k_781 : (.code y_Net_actionsOfLast b_Net_actionsOfLast 2 (Option.some FieldType.int) : Cond) ∈ tb9 := List.mem_filter.mpr ⟨List.mem_of_getElem? (i := 781) (by decide +kernel), by decide +kernel⟩
theorem k_782 : (.methodLink RX0 52 y_Mach_findClasses : Cond) ∈ tb9 := List.mem_filter.mpr ⟨List.mem_of_getElem? (i := 782) (by decide +kernel), by decide +kernel⟩
theorem k_784 : (.instanceMethod y_Mach_findClasses : Cond) ∈ tb9 := List.mem_filter.mpr ⟨List.mem_of_getElem? (i := 784) (by decide +kernel), by decide +kernel⟩
theorem k_785 : (.code y_Mach_findClasses b_Mach_findClasses 3 (Option.none : Option FieldType) : Cond) ∈ tb9 := List.mem_filter.mpr ⟨List.mem_of_getElem? (i := 785) (by decide +kernel), by decide +kernel⟩
theorem k_786 : (.methodLink RX0 90 y_Arrays_fill : Cond) ∈ tb9 := List.mem_filter.mpr ⟨List.mem_of_getElem? (i := 786) (by decide +kernel), by decide +kernel⟩
theorem k_787 : (.methodLink RX0 96 y_Mach_refine : Cond) ∈ tb9 := List.mem_filter.mpr ⟨List.mem_of_getElem? (i := 787) (by decide +kernel), by decide +kernel⟩
theorem k_789 : (.instanceMethod y_Mach_refine : Cond) ∈ tb9 := List.mem_filter.mpr ⟨List.mem_of_getElem? (i := 789) (by decide +kernel), by decide +kernel⟩
theorem k_790 : (.code y_Mach_refine b_Mach_refine 3 (Option.some FieldType.boolean) : Cond) ∈ tb9 := List.mem_filter.mpr ⟨List.mem_of_getElem? (i := 790) (by decide +kernel), by decide +kernel⟩
theorem k_791 : (.methodLink RX0 103 y_Mach_leastAlike : Cond) ∈ tb9 := List.mem_filter.mpr ⟨List.mem_of_getElem? (i := 791) (by decide +kernel), by decide +kernel⟩
theorem k_793 : (.instanceMethod y_Mach_leastAlike : Cond) ∈ tb9 := List.mem_filter.mpr ⟨List.mem_of_getElem? (i := 793) (by decide +kernel), by decide +kernel⟩
theorem k_794 : (.code y_Mach_leastAlike b_Mach_leastAlike 3 (Option.some FieldType.int) : Cond) ∈ tb9 := List.mem_filter.mpr ⟨List.mem_of_getElem? (i := 794) (by decide +kernel), by decide +kernel⟩
theorem k_795 : (.methodLink RX0 112 y_Mach_looksLike : Cond) ∈ tb9 := List.mem_filter.mpr ⟨List.mem_of_getElem? (i := 795) (by decide +kernel), by decide +kernel⟩
theorem k_797 : (.instanceMethod y_Mach_looksLike : Cond) ∈ tb9 := List.mem_filter.mpr ⟨List.mem_of_getElem? (i := 797) (by decide +kernel), by decide +kernel⟩
theorem k_798 : (.code y_Mach_looksLike b_Mach_looksLike 5 (Option.some FieldType.boolean) : Cond) ∈ tb9 := List.mem_filter.mpr ⟨List.mem_of_getElem? (i := 798) (by decide +kernel), by decide +kernel⟩
theorem k_799 : (.methodLink RX0 116 y_Mach_actionsOnWay : Cond) ∈ tb9 := List.mem_filter.mpr ⟨List.mem_of_getElem? (i := 799) (by decide +kernel), by decide +kernel⟩
theorem k_800 : (.instanceMethod y_Mach_actionsOnWay : Cond) ∈ tb9 := List.mem_filter.mpr ⟨List.mem_of_getElem? (i := 800) (by decide +kernel), by decide +kernel⟩
theorem k_801 : (.selects RX0 y_Mach_actionsOnWay y_Mach_actionsOnWay : Cond) ∈ tb9 := List.mem_filter.mpr ⟨List.mem_of_getElem? (i := 801) (by decide +kernel), by decide +kernel⟩
theorem k_802 : (.code y_Mach_actionsOnWay b_Mach_actionsOnWay 3 (Option.some FieldType.int) : Cond) ∈ tb9 := List.mem_filter.mpr ⟨List.mem_of_getElem? (i := 802) (by decide +kernel), by decide +kernel⟩
theorem k_803 : (.methodLink RX0 119 y_Mach_classBehind : Cond) ∈ tb9 := List.mem_filter.mpr ⟨List.mem_of_getElem? (i := 803) (by decide +kernel), by decide +kernel⟩
theorem k_805 : (.instanceMethod y_Mach_classBehind : Cond) ∈ tb9 := List.mem_filter.mpr ⟨List.mem_of_getElem? (i := 805) (by decide +kernel), by decide +kernel⟩
theorem k_806 : (.code y_Mach_classBehind b_Mach_classBehind 4 (Option.some FieldType.int) : Cond) ∈ tb9 := List.mem_filter.mpr ⟨List.mem_of_getElem? (i := 806) (by decide +kernel), by decide +kernel⟩
theorem k_807 : (.methodLink RX0 122 y_Mach_target : Cond) ∈ tb9 := List.mem_filter.mpr ⟨List.mem_of_getElem? (i := 807) (by decide +kernel), by decide +kernel⟩
theorem k_808 : (.instanceMethod y_Mach_target : Cond) ∈ tb9 := List.mem_filter.mpr ⟨List.mem_of_getElem? (i := 808) (by decide +kernel), by decide +kernel⟩
theorem k_809 : (.selects RX0 y_Mach_target y_Mach_target : Cond) ∈ tb9 := List.mem_filter.mpr ⟨List.mem_of_getElem? (i := 809) (by decide +kernel), by decide +kernel⟩
theorem k_810 : (.code y_Mach_target b_Mach_target 3 (Option.some FieldType.int) : Cond) ∈ tb9 := List.mem_filter.mpr ⟨List.mem_of_getElem? (i := 810) (by decide +kernel), by decide +kernel⟩
theorem k_811 : (.methodLink RX0 106 arraycopyName : Cond) ∈ tb9 := List.mem_filter.mpr ⟨List.mem_of_getElem? (i := 811) (by decide +kernel), by decide +kernel⟩
theorem k_831 : (.methodLink RX4 26 y_Arrays_fill : Cond) ∈ tb9 := List.mem_filter.mpr ⟨List.mem_of_getElem? (i := 831) (by decide +kernel), by decide +kernel⟩
theorem k_881 : (.constant RIn 265 (1431655765 : Int32) : Cond) ∈ tb9 := List.mem_filter.mpr ⟨List.mem_of_getElem? (i := 881) (by decide +kernel), by decide +kernel⟩
theorem k_882 : (.constant RIn 266 (858993459 : Int32) : Cond) ∈ tb9 := List.mem_filter.mpr ⟨List.mem_of_getElem? (i := 882) (by decide +kernel), by decide +kernel⟩
theorem k_883 : (.constant RIn 267 (252645135 : Int32) : Cond) ∈ tb9 := List.mem_filter.mpr ⟨List.mem_of_getElem? (i := 883) (by decide +kernel), by decide +kernel⟩
theorem k_903 : (.methodLink RX4 32 y_Walk_perform : Cond) ∈ tb9 := List.mem_filter.mpr ⟨List.mem_of_getElem? (i := 903) (by decide +kernel), by decide +kernel⟩
theorem k_905 : (.instanceMethod y_Walk_perform : Cond) ∈ tb9 := List.mem_filter.mpr ⟨List.mem_of_getElem? (i := 905) (by decide +kernel), by decide +kernel⟩
theorem k_906 : (.code y_Walk_perform b_Walk_perform 3 (Option.none : Option FieldType) : Cond) ∈ tb9 := List.mem_filter.mpr ⟨List.mem_of_getElem? (i := 906) (by decide +kernel), by decide +kernel⟩
