abbrev b_X_job : ByteArray := prog_1_method_3_code
abbrev y_X_job : MethodName := ⟨"Generations", "job", "()I"⟩
abbrev b_X_jobCalled : ByteArray := prog_1_method_16_code
abbrev y_X_jobCalled : MethodName := ⟨"Generations", "jobCalled", "(I)LGenerations$Job;"⟩
set_option maxRecDepth 20000 in
theorem mw180 : (Cond.classLink "Generations" (87 : Nat) "Generations$Job") ∈ gw_N0 := gw_in (List.mem_append_right _ (gw_tm (i := 255) rfl))
set_option maxRecDepth 20000 in
theorem mw181 : (Cond.instantiable "Generations$Job" (2 : Nat)) ∈ gw_N0 := gw_in (List.mem_append_right _ (gw_tm (i := 256) rfl))
set_option maxRecDepth 20000 in
theorem mw182 : (Cond.code ({ cls := "Generations$Row", name := "copy", desc := "()[I" } : Jvm.MethodName) prog_4_method_3_code (1 : Nat) (Option.some (Jvm.ClassFile.FieldType.array Jvm.ClassFile.FieldType.int))) ∈ gw_N0 := gw_in (List.mem_append_right _ (gw_tm (i := 260) rfl))
set_option maxRecDepth 20000 in
theorem mw183 : (Cond.methodLinkNest "Generations" (89 : Nat) ({ cls := "Generations$Row", name := "copy", desc := "()[I" } : Jvm.MethodName) "Generations") ∈ gw_N0 := gw_in (List.mem_append_right _ (gw_tm (i := 257) rfl))
set_option maxRecDepth 20000 in
theorem mw184 : (Cond.instanceMethod ({ cls := "Generations$Row", name := "copy", desc := "()[I" } : Jvm.MethodName)) ∈ gw_N0 := gw_in (List.mem_append_right _ (gw_tm (i := 259) rfl))
set_option maxRecDepth 20000 in
theorem mw185 : (Cond.selects "Generations$Row" ⟨"Generations$Row", "copy", "()[I"⟩ ⟨"Generations$Row", "copy", "()[I"⟩) ∈ gw_N0 := gw_in (List.mem_append_left _ (List.mem_of_getElem? (i := 13) rfl))
set_option maxRecDepth 20000 in
theorem mw186 : (Cond.code ({ cls := "Generations$Job", name := "<init>", desc := "([I)V" } : Jvm.MethodName) prog_3_method_1_code (2 : Nat) (Option.none : Option Jvm.ClassFile.FieldType)) ∈ gw_N0 := gw_in (List.mem_append_right _ (gw_tm (i := 273) rfl))
set_option maxRecDepth 20000 in
theorem mw187 : (Cond.methodLinkNest "Generations" (93 : Nat) ({ cls := "Generations$Job", name := "<init>", desc := "([I)V" } : Jvm.MethodName) "Generations") ∈ gw_N0 := gw_in (List.mem_append_right _ (gw_tm (i := 271) rfl))
set_option maxRecDepth 20000 in
theorem mw188 : (Cond.instanceMethod ({ cls := "Generations$Job", name := "<init>", desc := "([I)V" } : Jvm.MethodName)) ∈ gw_N0 := gw_in (List.mem_append_right _ (gw_tm (i := 272) rfl))
set_option maxRecDepth 20000 in
theorem mw189 : (Cond.classLink "Generations" (104 : Nat) "java/lang/IllegalArgumentException") ∈ gw_N0 := gw_in (List.mem_append_right _ (gw_tm (i := 333) rfl))
set_option maxRecDepth 20000 in
theorem mw190 : (Cond.initialized "java/lang/IllegalArgumentException") ∈ gw_N0 := gw_in (List.mem_append_right _ (gw_tm (i := 18) rfl))
set_option maxRecDepth 20000 in
theorem mw191 : (Cond.castable "Generations$Job" "Generations$Job") ∈ gw_N0 := gw_in (List.mem_append_right _ (gw_tm (i := 609) rfl))
