abbrev b_X_jobCalled : ByteArray := prog_1_method_16_code
abbrev y_X_jobCalled : MethodName := ⟨"Generations", "jobCalled", "(I)LGenerations$Job;"⟩
abbrev b_X_relative : ByteArray := prog_1_method_4_code
abbrev y_X_relative : MethodName := ⟨"Generations", "relative", "(II)I"⟩
abbrev b_X_make : ByteArray := prog_1_method_5_code
abbrev y_X_make : MethodName := ⟨"Generations", "make", "(II)I"⟩
abbrev b_X_end : ByteArray := prog_1_method_6_code
abbrev y_X_end : MethodName := ⟨"Generations", "end", "(IIZ)I"⟩
abbrev b_X_restart : ByteArray := prog_1_method_8_code
abbrev y_X_restart : MethodName := ⟨"Generations", "restart", "(II)I"⟩
set_option maxRecDepth 20000 in
theorem mw206 : (Cond.classLink "Generations" (104 : Nat) "java/lang/IllegalArgumentException") ∈ gw_N0 := gw_in (List.mem_append_right _ (gw_tm (i := 333) rfl))
set_option maxRecDepth 20000 in
theorem mw207 : (Cond.initialized "java/lang/IllegalArgumentException") ∈ gw_N0 := gw_in (List.mem_append_right _ (gw_tm (i := 18) rfl))
set_option maxRecDepth 20000 in
theorem mw208 : (Cond.code ({ cls := "Generations", name := "jobCalled", desc := "(I)LGenerations$Job;" } : Jvm.MethodName) prog_1_method_16_code (2 : Nat) (Option.some (Jvm.ClassFile.FieldType.object "Generations$Job"))) ∈ gw_N0 := gw_in (List.mem_append_right _ (gw_tm (i := 332) rfl))
set_option maxRecDepth 20000 in
theorem mw209 : (Cond.methodLink "Generations" (100 : Nat) ({ cls := "Generations", name := "jobCalled", desc := "(I)LGenerations$Job;" } : Jvm.MethodName)) ∈ gw_N0 := gw_in (List.mem_append_right _ (gw_tm (i := 329) rfl))
set_option maxRecDepth 20000 in
theorem mw210 : (Cond.instanceMethod ({ cls := "Generations", name := "jobCalled", desc := "(I)LGenerations$Job;" } : Jvm.MethodName)) ∈ gw_N0 := gw_in (List.mem_append_right _ (gw_tm (i := 331) rfl))
set_option maxRecDepth 20000 in
theorem mw211 : (Cond.selects "Generations" ⟨"Generations", "jobCalled", "(I)LGenerations$Job;"⟩ ⟨"Generations", "jobCalled", "(I)LGenerations$Job;"⟩) ∈ gw_N0 := gw_in (List.mem_append_left _ (List.mem_of_getElem? (i := 16) rfl))
