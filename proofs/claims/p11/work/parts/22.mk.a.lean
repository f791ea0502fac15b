abbrev b_X_relative : ByteArray := prog_1_method_4_code
abbrev y_X_relative : MethodName := ⟨"Generations", "relative", "(II)I"⟩
abbrev b_X_make : ByteArray := prog_1_method_5_code
abbrev y_X_make : MethodName := ⟨"Generations", "make", "(II)I"⟩
abbrev b_X_end : ByteArray := prog_1_method_6_code
abbrev y_X_end : MethodName := ⟨"Generations", "end", "(IIZ)I"⟩
abbrev b_X_restart : ByteArray := prog_1_method_8_code
abbrev y_X_restart : MethodName := ⟨"Generations", "restart", "(II)I"⟩
set_option maxRecDepth 20000 in
theorem mw192 : (Cond.code ({ cls := "Generations", name := "jobCalled", desc := "(I)LGenerations$Job;" } : Jvm.MethodName) prog_1_method_16_code (2 : Nat) (Option.some (Jvm.ClassFile.FieldType.object "Generations$Job"))) ∈ gw_N0 := gw_in (List.mem_append_right _ (gw_tm (i := 332) rfl))
set_option maxRecDepth 20000 in
theorem mw193 : (Cond.methodLink "Generations" (100 : Nat) ({ cls := "Generations", name := "jobCalled", desc := "(I)LGenerations$Job;" } : Jvm.MethodName)) ∈ gw_N0 := gw_in (List.mem_append_right _ (gw_tm (i := 329) rfl))
set_option maxRecDepth 20000 in
theorem mw194 : (Cond.instanceMethod ({ cls := "Generations", name := "jobCalled", desc := "(I)LGenerations$Job;" } : Jvm.MethodName)) ∈ gw_N0 := gw_in (List.mem_append_right _ (gw_tm (i := 331) rfl))
set_option maxRecDepth 20000 in
theorem mw195 : (Cond.selects "Generations" ⟨"Generations", "jobCalled", "(I)LGenerations$Job;"⟩ ⟨"Generations", "jobCalled", "(I)LGenerations$Job;"⟩) ∈ gw_N0 := gw_in (List.mem_append_left _ (List.mem_of_getElem? (i := 16) rfl))
set_option maxRecDepth 20000 in
theorem mw196 : (Cond.code ({ cls := "Generations$Job", name := "countedFromNewest", desc := "(I)I" } : Jvm.MethodName) prog_3_method_4_code (3 : Nat) (Option.some Jvm.ClassFile.FieldType.int)) ∈ gw_N0 := gw_in (List.mem_append_right _ (gw_tm (i := 417) rfl))
set_option maxRecDepth 20000 in
theorem mw197 : (Cond.methodLinkNest "Generations" (118 : Nat) ({ cls := "Generations$Job", name := "countedFromNewest", desc := "(I)I" } : Jvm.MethodName) "Generations") ∈ gw_N0 := gw_in (List.mem_append_right _ (gw_tm (i := 414) rfl))
set_option maxRecDepth 20000 in
theorem mw198 : (Cond.instanceMethod ({ cls := "Generations$Job", name := "countedFromNewest", desc := "(I)I" } : Jvm.MethodName)) ∈ gw_N0 := gw_in (List.mem_append_right _ (gw_tm (i := 416) rfl))
set_option maxRecDepth 20000 in
theorem mw199 : (Cond.selects "Generations$Job" ⟨"Generations$Job", "countedFromNewest", "(I)I"⟩ ⟨"Generations$Job", "countedFromNewest", "(I)I"⟩) ∈ gw_N0 := gw_in (List.mem_append_left _ (List.mem_of_getElem? (i := 21) rfl))
set_option maxRecDepth 20000 in
theorem mw200 : (Cond.code ({ cls := "Generations$Job", name := "plus", desc := "(I)I" } : Jvm.MethodName) prog_3_method_3_code (2 : Nat) (Option.some Jvm.ClassFile.FieldType.int)) ∈ gw_N0 := gw_in (List.mem_append_right _ (gw_tm (i := 403) rfl))
set_option maxRecDepth 20000 in
theorem mw201 : (Cond.methodLinkNest "Generations" (111 : Nat) ({ cls := "Generations$Job", name := "plus", desc := "(I)I" } : Jvm.MethodName) "Generations") ∈ gw_N0 := gw_in (List.mem_append_right _ (gw_tm (i := 400) rfl))
set_option maxRecDepth 20000 in
theorem mw202 : (Cond.instanceMethod ({ cls := "Generations$Job", name := "plus", desc := "(I)I" } : Jvm.MethodName)) ∈ gw_N0 := gw_in (List.mem_append_right _ (gw_tm (i := 402) rfl))
set_option maxRecDepth 20000 in
theorem mw203 : (Cond.selects "Generations$Job" ⟨"Generations$Job", "plus", "(I)I"⟩ ⟨"Generations$Job", "plus", "(I)I"⟩) ∈ gw_N0 := gw_in (List.mem_append_left _ (List.mem_of_getElem? (i := 18) rfl))
set_option maxRecDepth 20000 in
theorem mw204 : (Cond.code ({ cls := "Generations$Generation", name := "isNewOneOf", desc := "(I)Z" } : Jvm.MethodName) prog_2_method_4_code (2 : Nat) (Option.some Jvm.ClassFile.FieldType.boolean)) ∈ gw_N0 := gw_in (List.mem_append_right _ (gw_tm (i := 412) rfl))
set_option maxRecDepth 20000 in
theorem mw205 : (Cond.methodLinkNest "Generations" (115 : Nat) ({ cls := "Generations$Generation", name := "isNewOneOf", desc := "(I)Z" } : Jvm.MethodName) "Generations") ∈ gw_N0 := gw_in (List.mem_append_right _ (gw_tm (i := 409) rfl))
set_option maxRecDepth 20000 in
theorem mw206 : (Cond.instanceMethod ({ cls := "Generations$Generation", name := "isNewOneOf", desc := "(I)Z" } : Jvm.MethodName)) ∈ gw_N0 := gw_in (List.mem_append_right _ (gw_tm (i := 411) rfl))
set_option maxRecDepth 20000 in
theorem mw207 : (Cond.selects "Generations$Generation" ⟨"Generations$Generation", "isNewOneOf", "(I)Z"⟩ ⟨"Generations$Generation", "isNewOneOf", "(I)Z"⟩) ∈ gw_N0 := gw_in (List.mem_append_left _ (List.mem_of_getElem? (i := 20) rfl))
set_option maxRecDepth 20000 in
theorem mw208 : (Cond.code ({ cls := "Generations$Generation", name := "isInTheWayOf", desc := "(I)Z" } : Jvm.MethodName) prog_2_method_5_code (2 : Nat) (Option.some Jvm.ClassFile.FieldType.boolean)) ∈ gw_N0 := gw_in (List.mem_append_right _ (gw_tm (i := 429) rfl))
set_option maxRecDepth 20000 in
theorem mw209 : (Cond.methodLinkNest "Generations" (123 : Nat) ({ cls := "Generations$Generation", name := "isInTheWayOf", desc := "(I)Z" } : Jvm.MethodName) "Generations") ∈ gw_N0 := gw_in (List.mem_append_right _ (gw_tm (i := 426) rfl))
set_option maxRecDepth 20000 in
theorem mw210 : (Cond.instanceMethod ({ cls := "Generations$Generation", name := "isInTheWayOf", desc := "(I)Z" } : Jvm.MethodName)) ∈ gw_N0 := gw_in (List.mem_append_right _ (gw_tm (i := 428) rfl))
set_option maxRecDepth 20000 in
theorem mw211 : (Cond.selects "Generations$Generation" ⟨"Generations$Generation", "isInTheWayOf", "(I)Z"⟩ ⟨"Generations$Generation", "isInTheWayOf", "(I)Z"⟩) ∈ gw_N0 := gw_in (List.mem_append_left _ (List.mem_of_getElem? (i := 22) rfl))
set_option maxRecDepth 20000 in
theorem mw212 : (Cond.code ({ cls := "Generations", name := "anotherMakes", desc := "(I)Z" } : Jvm.MethodName) prog_1_method_21_code (3 : Nat) (Option.some Jvm.ClassFile.FieldType.boolean)) ∈ gw_N0 := gw_in (List.mem_append_right _ (gw_tm (i := 433) rfl))
set_option maxRecDepth 20000 in
theorem mw213 : (Cond.methodLink "Generations" (126 : Nat) ({ cls := "Generations", name := "anotherMakes", desc := "(I)Z" } : Jvm.MethodName)) ∈ gw_N0 := gw_in (List.mem_append_right _ (gw_tm (i := 430) rfl))
set_option maxRecDepth 20000 in
theorem mw214 : (Cond.instanceMethod ({ cls := "Generations", name := "anotherMakes", desc := "(I)Z" } : Jvm.MethodName)) ∈ gw_N0 := gw_in (List.mem_append_right _ (gw_tm (i := 432) rfl))
set_option maxRecDepth 20000 in
theorem mw215 : (Cond.selects "Generations" ⟨"Generations", "anotherMakes", "(I)Z"⟩ ⟨"Generations", "anotherMakes", "(I)Z"⟩) ∈ gw_N0 := gw_in (List.mem_append_left _ (List.mem_of_getElem? (i := 23) rfl))
set_option maxRecDepth 20000 in
theorem mw216 : (Cond.fieldLinkNest "Generations" (132 : Nat) "Generations$Job" "ends" "I" "Generations") ∈ gw_N0 := gw_in (List.mem_append_right _ (gw_tm (i := 276) rfl))
set_option maxRecDepth 20000 in
theorem mw217 : (Cond.fieldLinkNest "Generations" (135 : Nat) "Generations$Generation" "failedAtEnd" "I" "Generations") ∈ gw_N0 := gw_in (List.mem_append_right _ (gw_tm (i := 83) rfl))
set_option maxRecDepth 20000 in
theorem mw218 : (Cond.code ({ cls := "Generations$Generation", name := "failedFor", desc := "(II)Z" } : Jvm.MethodName) prog_2_method_6_code (3 : Nat) (Option.some Jvm.ClassFile.FieldType.boolean)) ∈ gw_N0 := gw_in (List.mem_append_right _ (gw_tm (i := 451) rfl))
set_option maxRecDepth 20000 in
theorem mw219 : (Cond.methodLinkNest "Generations" (145 : Nat) ({ cls := "Generations$Generation", name := "failedFor", desc := "(II)Z" } : Jvm.MethodName) "Generations") ∈ gw_N0 := gw_in (List.mem_append_right _ (gw_tm (i := 448) rfl))
set_option maxRecDepth 20000 in
theorem mw220 : (Cond.instanceMethod ({ cls := "Generations$Generation", name := "failedFor", desc := "(II)Z" } : Jvm.MethodName)) ∈ gw_N0 := gw_in (List.mem_append_right _ (gw_tm (i := 450) rfl))
set_option maxRecDepth 20000 in
theorem mw221 : (Cond.selects "Generations$Generation" ⟨"Generations$Generation", "failedFor", "(II)Z"⟩ ⟨"Generations$Generation", "failedFor", "(II)Z"⟩) ∈ gw_N0 := gw_in (List.mem_append_left _ (List.mem_of_getElem? (i := 24) rfl))
