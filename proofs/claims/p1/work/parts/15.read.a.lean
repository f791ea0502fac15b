abbrev b_X_dropped : ByteArray := prog_1_method_7_code
abbrev y_X_dropped : MethodName := ⟨"Generations", "dropped", "(I)I"⟩
abbrev b_Row_at : ByteArray := prog_4_method_2_code
abbrev y_Row_at : MethodName := ⟨"Generations$Row", "at", "(I)I"⟩
abbrev b_X_list : ByteArray := prog_1_method_9_code
abbrev y_X_list : MethodName := ⟨"Generations", "list", "(I)I"⟩
abbrev b_X_reclaim : ByteArray := prog_1_method_10_code
abbrev y_X_reclaim : MethodName := ⟨"Generations", "reclaim", "(I)I"⟩
abbrev b_X_empty : ByteArray := prog_1_method_11_code
abbrev y_X_empty : MethodName := ⟨"Generations", "empty", "(Z)I"⟩
abbrev b_X_version : ByteArray := prog_1_method_12_code
abbrev y_X_version : MethodName := ⟨"Generations", "version", "(I)I"⟩
abbrev b_X_state : ByteArray := prog_1_method_13_code
abbrev y_X_state : MethodName := ⟨"Generations", "state", "(I)I"⟩
abbrev b_X_count : ByteArray := prog_1_method_14_code
abbrev y_X_count : MethodName := ⟨"Generations", "count", "(I)I"⟩
set_option maxRecDepth 20000 in
theorem mw140 : (Cond.fieldLink "Generations" (138 : Nat) "Generations" "goneCount" "I") ∈ gw_N0 := gw_in (List.mem_append_right _ (gw_tm (i := 109) rfl))
set_option maxRecDepth 20000 in
theorem mw141 : (Cond.code ({ cls := "Generations$Row", name := "at", desc := "(I)I" } : Jvm.MethodName) prog_4_method_2_code (2 : Nat) (Option.some Jvm.ClassFile.FieldType.int)) ∈ gw_N0 := gw_in (List.mem_append_right _ (gw_tm (i := 241) rfl))
set_option maxRecDepth 20000 in
theorem mw142 : (Cond.methodLinkNest "Generations" (149 : Nat) ({ cls := "Generations$Row", name := "at", desc := "(I)I" } : Jvm.MethodName) "Generations") ∈ gw_N0 := gw_in (List.mem_append_right _ (gw_tm (i := 238) rfl))
set_option maxRecDepth 20000 in
theorem mw143 : (Cond.instanceMethod ({ cls := "Generations$Row", name := "at", desc := "(I)I" } : Jvm.MethodName)) ∈ gw_N0 := gw_in (List.mem_append_right _ (gw_tm (i := 240) rfl))
set_option maxRecDepth 20000 in
theorem mw144 : (Cond.selects "Generations$Row" ⟨"Generations$Row", "at", "(I)I"⟩ ⟨"Generations$Row", "at", "(I)I"⟩) ∈ gw_N0 := gw_in (List.mem_append_left _ (List.mem_of_getElem? (i := 10) rfl))
set_option maxRecDepth 20000 in
theorem mw145 : (Cond.fieldLink "Generations" (155 : Nat) "Generations" "emptyRule" "Z") ∈ gw_N0 := gw_in (List.mem_append_right _ (gw_tm (i := 103) rfl))
set_option maxRecDepth 20000 in
theorem mw146 : (Cond.code ({ cls := "Generations", name := "howManyAre", desc := "(I)I" } : Jvm.MethodName) prog_1_method_19_code (4 : Nat) (Option.some Jvm.ClassFile.FieldType.int)) ∈ gw_N0 := gw_in (List.mem_append_right _ (gw_tm (i := 313) rfl))
set_option maxRecDepth 20000 in
theorem mw147 : (Cond.methodLink "Generations" (158 : Nat) ({ cls := "Generations", name := "howManyAre", desc := "(I)I" } : Jvm.MethodName)) ∈ gw_N0 := gw_in (List.mem_append_right _ (gw_tm (i := 310) rfl))
set_option maxRecDepth 20000 in
theorem mw148 : (Cond.instanceMethod ({ cls := "Generations", name := "howManyAre", desc := "(I)I" } : Jvm.MethodName)) ∈ gw_N0 := gw_in (List.mem_append_right _ (gw_tm (i := 312) rfl))
set_option maxRecDepth 20000 in
theorem mw149 : (Cond.selects "Generations" ⟨"Generations", "howManyAre", "(I)I"⟩ ⟨"Generations", "howManyAre", "(I)I"⟩) ∈ gw_N0 := gw_in (List.mem_append_left _ (List.mem_of_getElem? (i := 14) rfl))
set_option maxRecDepth 20000 in
theorem mw150 : (Cond.code ({ cls := "Generations", name := "jobThatMakes", desc := "()I" } : Jvm.MethodName) prog_1_method_20_code (3 : Nat) (Option.some Jvm.ClassFile.FieldType.int)) ∈ gw_N0 := gw_in (List.mem_append_right _ (gw_tm (i := 317) rfl))
set_option maxRecDepth 20000 in
theorem mw151 : (Cond.methodLink "Generations" (161 : Nat) ({ cls := "Generations", name := "jobThatMakes", desc := "()I" } : Jvm.MethodName)) ∈ gw_N0 := gw_in (List.mem_append_right _ (gw_tm (i := 314) rfl))
set_option maxRecDepth 20000 in
theorem mw152 : (Cond.instanceMethod ({ cls := "Generations", name := "jobThatMakes", desc := "()I" } : Jvm.MethodName)) ∈ gw_N0 := gw_in (List.mem_append_right _ (gw_tm (i := 316) rfl))
set_option maxRecDepth 20000 in
theorem mw153 : (Cond.selects "Generations" ⟨"Generations", "jobThatMakes", "()I"⟩ ⟨"Generations", "jobThatMakes", "()I"⟩) ∈ gw_N0 := gw_in (List.mem_append_left _ (List.mem_of_getElem? (i := 15) rfl))
