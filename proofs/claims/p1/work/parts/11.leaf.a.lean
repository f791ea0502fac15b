abbrev b_AL_size : ByteArray := prog_19_method_8_code
abbrev y_AL_size : MethodName := ⟨"java/util/ArrayList", "size", "()I"⟩
abbrev b_X_isNumber : ByteArray := prog_1_method_15_code
abbrev y_X_isNumber : MethodName := ⟨"Generations", "isNumber", "(I)Z"⟩
abbrev b_Gen_isDeferred : ByteArray := prog_2_method_3_code
abbrev y_Gen_isDeferred : MethodName := ⟨"Generations$Generation", "isDeferred", "()Z"⟩
abbrev b_Gen_beginAnew : ByteArray := prog_2_method_2_code
abbrev y_Gen_beginAnew : MethodName := ⟨"Generations$Generation", "beginAnew", "(I)V"⟩
abbrev b_X_find : ByteArray := prog_1_method_17_code
abbrev y_X_find : MethodName := ⟨"Generations", "find", "(I)LGenerations$Generation;"⟩
abbrev b_X_howManyAre : ByteArray := prog_1_method_19_code
abbrev y_X_howManyAre : MethodName := ⟨"Generations", "howManyAre", "(I)I"⟩
abbrev b_X_jobThatMakes : ByteArray := prog_1_method_20_code
abbrev y_X_jobThatMakes : MethodName := ⟨"Generations", "jobThatMakes", "()I"⟩
set_option maxRecDepth 20000 in
theorem mw54 : (Cond.fieldLink "java/util/ArrayList" (48 : Nat) "java/util/ArrayList" "size" "I") ∈ gw_N0 := gw_in (List.mem_append_right _ (gw_tm (i := 57) rfl))
set_option maxRecDepth 20000 in
theorem mw55 : (Cond.fieldLink "Generations$Generation" (21 : Nat) "Generations$Generation" "version" "I") ∈ gw_N0 := gw_in (List.mem_append_right _ (gw_tm (i := 78) rfl))
set_option maxRecDepth 20000 in
theorem mw56 : (Cond.fieldLink "Generations$Generation" (24 : Nat) "Generations$Generation" "failedAtEnd" "I") ∈ gw_N0 := gw_in (List.mem_append_right _ (gw_tm (i := 82) rfl))
set_option maxRecDepth 20000 in
theorem mw57 : (Cond.code ({ cls := "java/util/ArrayList", name := "size", desc := "()I" } : Jvm.MethodName) prog_19_method_8_code (1 : Nat) (Option.some Jvm.ClassFile.FieldType.int)) ∈ gw_N0 := gw_in (List.mem_append_right _ (gw_tm (i := 143) rfl))
set_option maxRecDepth 20000 in
theorem mw58 : (Cond.methodLink "Generations" (84 : Nat) ({ cls := "java/util/ArrayList", name := "size", desc := "()I" } : Jvm.MethodName)) ∈ gw_N0 := gw_in (List.mem_append_right _ (gw_tm (i := 140) rfl))
set_option maxRecDepth 20000 in
theorem mw59 : (Cond.instanceMethod ({ cls := "java/util/ArrayList", name := "size", desc := "()I" } : Jvm.MethodName)) ∈ gw_N0 := gw_in (List.mem_append_right _ (gw_tm (i := 141) rfl))
set_option maxRecDepth 20000 in
theorem mw60 : (Cond.selects "java/util/ArrayList" ({ cls := "java/util/ArrayList", name := "size", desc := "()I" } : Jvm.MethodName) ({ cls := "java/util/ArrayList", name := "size", desc := "()I" } : Jvm.MethodName)) ∈ gw_N0 := gw_in (List.mem_append_right _ (gw_tm (i := 142) rfl))
