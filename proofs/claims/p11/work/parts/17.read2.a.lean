abbrev b_Math_floorMod : ByteArray := prog_12_method_50_code
abbrev y_Math_floorMod : MethodName := ⟨"java/lang/Math", "floorMod", "(II)I"⟩
abbrev b_Job_base : ByteArray := prog_3_method_2_code
abbrev y_Job_base : MethodName := ⟨"Generations$Job", "base", "()I"⟩
abbrev b_Job_plus : ByteArray := prog_3_method_3_code
abbrev y_Job_plus : MethodName := ⟨"Generations$Job", "plus", "(I)I"⟩
abbrev b_Job_countedFromNewest : ByteArray := prog_3_method_4_code
abbrev y_Job_countedFromNewest : MethodName := ⟨"Generations$Job", "countedFromNewest", "(I)I"⟩
abbrev b_Row_isAhead : ByteArray := prog_4_method_6_code
abbrev y_Row_isAhead : MethodName := ⟨"Generations$Row", "isAhead", "(II)Z"⟩
set_option maxRecDepth 20000 in
theorem mw116 : (Cond.fieldLink "Generations$Job" (9 : Nat) "Generations$Job" "rowThen" "[I") ∈ gw_N0 := gw_in (List.mem_append_right _ (gw_tm (i := 275) rfl))
set_option maxRecDepth 20000 in
theorem mw117 : (Cond.code ({ cls := "Generations$Job", name := "base", desc := "()I" } : Jvm.MethodName) prog_3_method_2_code (1 : Nat) (Option.some Jvm.ClassFile.FieldType.int)) ∈ gw_N0 := gw_in (List.mem_append_right _ (gw_tm (i := 407) rfl))
set_option maxRecDepth 20000 in
theorem mw118 : (Cond.methodLink "Generations$Job" (15 : Nat) ({ cls := "Generations$Job", name := "base", desc := "()I" } : Jvm.MethodName)) ∈ gw_N0 := gw_in (List.mem_append_right _ (gw_tm (i := 404) rfl))
set_option maxRecDepth 20000 in
theorem mw119 : (Cond.instanceMethod ({ cls := "Generations$Job", name := "base", desc := "()I" } : Jvm.MethodName)) ∈ gw_N0 := gw_in (List.mem_append_right _ (gw_tm (i := 406) rfl))
set_option maxRecDepth 20000 in
theorem mw120 : (Cond.selects "Generations$Job" ⟨"Generations$Job", "base", "()I"⟩ ⟨"Generations$Job", "base", "()I"⟩) ∈ gw_N0 := gw_in (List.mem_append_left _ (List.mem_of_getElem? (i := 19) rfl))
set_option maxRecDepth 20000 in
theorem mw121 : (Cond.initialized "Generations$Job") ∈ gw_N0 := gw_in (List.mem_append_right _ (gw_tm (i := 14) rfl))
set_option maxRecDepth 20000 in
theorem mw122 : (Cond.code ({ cls := "java/lang/Math", name := "floorMod", desc := "(II)I" } : Jvm.MethodName) prog_12_method_50_code (3 : Nat) (Option.some Jvm.ClassFile.FieldType.int)) ∈ gw_N0 := gw_in (List.mem_append_right _ (gw_tm (i := 233) rfl))
set_option maxRecDepth 20000 in
theorem mw123 : (Cond.methodLink "Generations$Job" (19 : Nat) ({ cls := "java/lang/Math", name := "floorMod", desc := "(II)I" } : Jvm.MethodName)) ∈ gw_N0 := gw_in (List.mem_append_right _ (gw_tm (i := 408) rfl))
set_option maxRecDepth 20000 in
theorem mw124 : (Cond.static ({ cls := "java/lang/Math", name := "floorMod", desc := "(II)I" } : Jvm.MethodName)) ∈ gw_N0 := gw_in (List.mem_append_right _ (gw_tm (i := 232) rfl))
set_option maxRecDepth 20000 in
theorem mw125 : (Cond.methodLink "Generations$Row" (35 : Nat) ({ cls := "java/lang/Math", name := "floorMod", desc := "(II)I" } : Jvm.MethodName)) ∈ gw_N0 := gw_in (List.mem_append_right _ (gw_tm (i := 231) rfl))
