abbrev b_Net_isFull : ByteArray := prog_3_method_3_code
def y_Net_isFull : MethodName := ⟨RX1, "isFull", "()Z"⟩
def ws_Net_isFull : List Cond := .code y_Net_isFull b_Net_isFull 1 (Option.some FieldType.boolean) :: tb9
abbrev b_Net_link : ByteArray := prog_3_method_12_code
def y_Net_link : MethodName := ⟨RX1, "link", "(II)V"⟩
def ws_Net_link : List Cond := .code y_Net_link b_Net_link 6 (Option.none : Option FieldType) :: tb9
abbrev b_Net_together : ByteArray := prog_3_method_15_code
def y_Net_together : MethodName := ⟨RX1, "together", "([III)I"⟩
def ws_Net_together : List Cond := .code y_Net_together b_Net_together 6 (Option.some FieldType.int) :: tb9
abbrev b_Net_give : ByteArray := prog_3_method_13_code
def y_Net_give : MethodName := ⟨RX1, "give", "([III)V"⟩
def ws_Net_give : List Cond := .code y_Net_give b_Net_give 5 (Option.none : Option FieldType) :: tb9
abbrev b_Net_giveSteps : ByteArray := prog_3_method_14_code
def y_Net_giveSteps : MethodName := ⟨RX1, "giveSteps", "(III)V"⟩
def ws_Net_giveSteps : List Cond := .code y_Net_giveSteps b_Net_giveSteps 7 (Option.none : Option FieldType) :: tb9
abbrev b_Net_actionsOfFirst : ByteArray := prog_3_method_9_code
def y_Net_actionsOfFirst : MethodName := ⟨RX1, "actionsOfFirst", "(I)I"⟩
def ws_Net_actionsOfFirst : List Cond := .code y_Net_actionsOfFirst b_Net_actionsOfFirst 2 (Option.some FieldType.int) :: tb9
abbrev b_Net_actionsOfLast : ByteArray := prog_3_method_10_code
def y_Net_actionsOfLast : MethodName := ⟨RX1, "actionsOfLast", "(I)I"⟩
def ws_Net_actionsOfLast : List Cond := .code y_Net_actionsOfLast b_Net_actionsOfLast 2 (Option.some FieldType.int) :: tb9
abbrev b_Net_actionsOfSteps : ByteArray := prog_3_method_11_code
def y_Net_actionsOfSteps : MethodName := ⟨RX1, "actionsOfSteps", "(II)I"⟩
def ws_Net_actionsOfSteps : List Cond := .code y_Net_actionsOfSteps b_Net_actionsOfSteps 3 (Option.some FieldType.int) :: tb9
theorem k_15 : (.selects RX1 y_Net_together y_Net_together : Cond) ∈ tb9 := List.mem_filter.mpr ⟨List.mem_of_getElem? (i := 15) (by decide +kernel), by decide +kernel⟩
theorem k_51 : (.initialized RX1 : Cond) ∈ tb9 := List.mem_filter.mpr ⟨List.mem_of_getElem? (i := 51) (by decide +kernel), by decide +kernel⟩
theorem k_94 : (.fieldLink RX1 27 "EmbedForge$Net" "positions" "I" : Cond) ∈ tb9 := List.mem_filter.mpr ⟨List.mem_of_getElem? (i := 94) (by decide +kernel), by decide +kernel⟩
theorem k_98 : (.fieldLink RX1 15 "EmbedForge$Net" "firstActions" "[I" : Cond) ∈ tb9 := List.mem_filter.mpr ⟨List.mem_of_getElem? (i := 98) (by decide +kernel), by decide +kernel⟩
theorem k_99 : (.fieldLink RX1 18 "EmbedForge$Net" "lastActions" "[I" : Cond) ∈ tb9 := List.mem_filter.mpr ⟨List.mem_of_getElem? (i := 99) (by decide +kernel), by decide +kernel⟩
theorem k_100 : (.fieldLink RX1 21 "EmbedForge$Net" "steps" "[I" : Cond) ∈ tb9 := List.mem_filter.mpr ⟨List.mem_of_getElem? (i := 100) (by decide +kernel), by decide +kernel⟩
theorem k_102 : (.fieldLink RX1 24 "EmbedForge$Net" "stepActions" "[I" : Cond) ∈ tb9 := List.mem_filter.mpr ⟨List.mem_of_getElem? (i := 102) (by decide +kernel), by decide +kernel⟩
theorem k_762 : (.methodLink RX1 74 y_Net_together : Cond) ∈ tb9 := List.mem_filter.mpr ⟨List.mem_of_getElem? (i := 762) (by decide +kernel), by decide +kernel⟩
theorem k_764 : (.instanceMethod y_Net_together : Cond) ∈ tb9 := List.mem_filter.mpr ⟨List.mem_of_getElem? (i := 764) (by decide +kernel), by decide +kernel⟩
theorem k_765 : (.code y_Net_together b_Net_together 6 (Option.some FieldType.int) : Cond) ∈ tb9 := List.mem_filter.mpr ⟨List.mem_of_getElem? (i := 765) (by decide +kernel), by decide +kernel⟩
