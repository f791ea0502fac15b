abbrev b_X_isNumber : ByteArray := prog_1_method_15_code
abbrev y_X_isNumber : MethodName := ⟨"Generations", "isNumber", "(I)Z"⟩
abbrev b_Gen_isDeferred : ByteArray := prog_2_method_3_code
abbrev y_Gen_isDeferred : MethodName := ⟨"Generations$Generation", "isDeferred", "()Z"⟩
abbrev b_Gen_isNewOneOf : ByteArray := prog_2_method_4_code
abbrev y_Gen_isNewOneOf : MethodName := ⟨"Generations$Generation", "isNewOneOf", "(I)Z"⟩
abbrev b_Gen_isInTheWayOf : ByteArray := prog_2_method_5_code
abbrev y_Gen_isInTheWayOf : MethodName := ⟨"Generations$Generation", "isInTheWayOf", "(I)Z"⟩
abbrev b_Gen_failedFor : ByteArray := prog_2_method_6_code
abbrev y_Gen_failedFor : MethodName := ⟨"Generations$Generation", "failedFor", "(II)Z"⟩
abbrev b_X_find : ByteArray := prog_1_method_17_code
abbrev y_X_find : MethodName := ⟨"Generations", "find", "(I)LGenerations$Generation;"⟩
abbrev b_X_howManyAre : ByteArray := prog_1_method_19_code
abbrev y_X_howManyAre : MethodName := ⟨"Generations", "howManyAre", "(I)I"⟩
abbrev b_X_jobThatMakes : ByteArray := prog_1_method_20_code
abbrev y_X_jobThatMakes : MethodName := ⟨"Generations", "jobThatMakes", "()I"⟩
abbrev b_X_anotherMakes : ByteArray := prog_1_method_21_code
abbrev y_X_anotherMakes : MethodName := ⟨"Generations", "anotherMakes", "(I)Z"⟩
abbrev b_Row_at : ByteArray := prog_4_method_2_code
abbrev y_Row_at : MethodName := ⟨"Generations$Row", "at", "(I)I"⟩
abbrev b_X_list : ByteArray := prog_1_method_9_code
abbrev y_X_list : MethodName := ⟨"Generations", "list", "(I)I"⟩
abbrev b_X_dropped : ByteArray := prog_1_method_7_code
abbrev y_X_dropped : MethodName := ⟨"Generations", "dropped", "(I)I"⟩
abbrev b_X_version : ByteArray := prog_1_method_12_code
abbrev y_X_version : MethodName := ⟨"Generations", "version", "(I)I"⟩
abbrev b_X_state : ByteArray := prog_1_method_13_code
abbrev y_X_state : MethodName := ⟨"Generations", "state", "(I)I"⟩
abbrev b_X_count : ByteArray := prog_1_method_14_code
abbrev y_X_count : MethodName := ⟨"Generations", "count", "(I)I"⟩
set_option maxRecDepth 20000 in
theorem mw15 : (Cond.fieldLink "Generations$Generation" (9 : Nat) "Generations$Generation" "state" "I") ∈ gw_N0 := gw_in (List.mem_append_right _ (gw_tm (i := 76) rfl))
set_option maxRecDepth 20000 in
theorem mw16 : (Cond.fieldLink "Generations$Generation" (15 : Nat) "Generations$Generation" "maker" "I") ∈ gw_N0 := gw_in (List.mem_append_right _ (gw_tm (i := 80) rfl))
set_option maxRecDepth 20000 in
theorem mw17 : (Cond.code ({ cls := "Generations$Generation", name := "isDeferred", desc := "()Z" } : Jvm.MethodName) prog_2_method_3_code (1 : Nat) (Option.some Jvm.ClassFile.FieldType.boolean)) ∈ gw_N0 := gw_in (List.mem_append_right _ (gw_tm (i := 161) rfl))
set_option maxRecDepth 20000 in
theorem mw18 : (Cond.methodLink "Generations$Generation" (27 : Nat) ({ cls := "Generations$Generation", name := "isDeferred", desc := "()Z" } : Jvm.MethodName)) ∈ gw_N0 := gw_in (List.mem_append_right _ (gw_tm (i := 413) rfl))
set_option maxRecDepth 20000 in
theorem mw19 : (Cond.instanceMethod ({ cls := "Generations$Generation", name := "isDeferred", desc := "()Z" } : Jvm.MethodName)) ∈ gw_N0 := gw_in (List.mem_append_right _ (gw_tm (i := 160) rfl))
set_option maxRecDepth 20000 in
theorem mw20 : (Cond.selects "Generations$Generation" ⟨"Generations$Generation", "isDeferred", "()Z"⟩ ⟨"Generations$Generation", "isDeferred", "()Z"⟩) ∈ gw_N0 := gw_in (List.mem_append_left _ (List.mem_of_getElem? (i := 1) rfl))
set_option maxRecDepth 20000 in
theorem mw21 : (Cond.initialized "Generations$Generation") ∈ gw_N0 := gw_in (List.mem_append_right _ (gw_tm (i := 6) rfl))
set_option maxRecDepth 20000 in
theorem mw22 : (Cond.fieldLink "Generations$Generation" (24 : Nat) "Generations$Generation" "failedAtEnd" "I") ∈ gw_N0 := gw_in (List.mem_append_right _ (gw_tm (i := 82) rfl))
set_option maxRecDepth 20000 in
theorem mw23 : (Cond.fieldLink "Generations" (23 : Nat) "Generations" "known" "Ljava/util/ArrayList;") ∈ gw_N0 := gw_in (List.mem_append_right _ (gw_tm (i := 106) rfl))
set_option maxRecDepth 20000 in
theorem mw24 : (Cond.code ({ cls := "java/util/ArrayList", name := "size", desc := "()I" } : Jvm.MethodName) prog_19_method_8_code (1 : Nat) (Option.some Jvm.ClassFile.FieldType.int)) ∈ gw_N0 := gw_in (List.mem_append_right _ (gw_tm (i := 143) rfl))
set_option maxRecDepth 20000 in
theorem mw25 : (Cond.methodLink "Generations" (84 : Nat) ({ cls := "java/util/ArrayList", name := "size", desc := "()I" } : Jvm.MethodName)) ∈ gw_N0 := gw_in (List.mem_append_right _ (gw_tm (i := 140) rfl))
set_option maxRecDepth 20000 in
theorem mw26 : (Cond.instanceMethod ({ cls := "java/util/ArrayList", name := "size", desc := "()I" } : Jvm.MethodName)) ∈ gw_N0 := gw_in (List.mem_append_right _ (gw_tm (i := 141) rfl))
set_option maxRecDepth 20000 in
theorem mw27 : (Cond.selects "java/util/ArrayList" ({ cls := "java/util/ArrayList", name := "size", desc := "()I" } : Jvm.MethodName) ({ cls := "java/util/ArrayList", name := "size", desc := "()I" } : Jvm.MethodName)) ∈ gw_N0 := gw_in (List.mem_append_right _ (gw_tm (i := 142) rfl))
set_option maxRecDepth 20000 in
theorem mw28 : (Cond.fieldLink "Generations" (31 : Nat) "Generations" "nowhere" "LGenerations$Generation;") ∈ gw_N0 := gw_in (List.mem_append_right _ (gw_tm (i := 107) rfl))
set_option maxRecDepth 20000 in
theorem mw29 : (Cond.code ({ cls := "java/util/ArrayList", name := "get", desc := "(I)Ljava/lang/Object;" } : Jvm.MethodName) prog_19_method_20_code (2 : Nat) (Option.some (Jvm.ClassFile.FieldType.object "java/lang/Object"))) ∈ gw_N0 := gw_in (List.mem_append_right _ (gw_tm (i := 147) rfl))
set_option maxRecDepth 20000 in
theorem mw30 : (Cond.methodLink "Generations" (141 : Nat) ({ cls := "java/util/ArrayList", name := "get", desc := "(I)Ljava/lang/Object;" } : Jvm.MethodName)) ∈ gw_N0 := gw_in (List.mem_append_right _ (gw_tm (i := 144) rfl))
set_option maxRecDepth 20000 in
theorem mw31 : (Cond.instanceMethod ({ cls := "java/util/ArrayList", name := "get", desc := "(I)Ljava/lang/Object;" } : Jvm.MethodName)) ∈ gw_N0 := gw_in (List.mem_append_right _ (gw_tm (i := 145) rfl))
set_option maxRecDepth 20000 in
theorem mw32 : (Cond.selects "java/util/ArrayList" ({ cls := "java/util/ArrayList", name := "get", desc := "(I)Ljava/lang/Object;" } : Jvm.MethodName) ({ cls := "java/util/ArrayList", name := "get", desc := "(I)Ljava/lang/Object;" } : Jvm.MethodName)) ∈ gw_N0 := gw_in (List.mem_append_right _ (gw_tm (i := 146) rfl))
set_option maxRecDepth 20000 in
theorem mw33 : (Cond.classLink "Generations" (26 : Nat) "Generations$Generation") ∈ gw_N0 := gw_in (List.mem_append_right _ (gw_tm (i := 68) rfl))
set_option maxRecDepth 20000 in
theorem mw34 : (Cond.castable "Generations$Generation" "Generations$Generation") ∈ gw_N0 := gw_in (List.mem_append_right _ (gw_tm (i := 608) rfl))
set_option maxRecDepth 20000 in
theorem mw35 : (Cond.fieldLinkNest "Generations" (166 : Nat) "Generations$Generation" "number" "I" "Generations") ∈ gw_N0 := gw_in (List.mem_append_right _ (gw_tm (i := 75) rfl))
set_option maxRecDepth 20000 in
theorem mw36 : (Cond.fieldLinkNest "Generations" (64 : Nat) "Generations$Generation" "state" "I" "Generations") ∈ gw_N0 := gw_in (List.mem_append_right _ (gw_tm (i := 77) rfl))
set_option maxRecDepth 20000 in
theorem mw37 : (Cond.fieldLinkNest "Generations" (129 : Nat) "Generations$Generation" "maker" "I" "Generations") ∈ gw_N0 := gw_in (List.mem_append_right _ (gw_tm (i := 81) rfl))
set_option maxRecDepth 20000 in
theorem mw38 : (Cond.code ({ cls := "Generations", name := "jobThatMakes", desc := "()I" } : Jvm.MethodName) prog_1_method_20_code (3 : Nat) (Option.some Jvm.ClassFile.FieldType.int)) ∈ gw_N0 := gw_in (List.mem_append_right _ (gw_tm (i := 317) rfl))
set_option maxRecDepth 20000 in
theorem mw39 : (Cond.methodLink "Generations" (161 : Nat) ({ cls := "Generations", name := "jobThatMakes", desc := "()I" } : Jvm.MethodName)) ∈ gw_N0 := gw_in (List.mem_append_right _ (gw_tm (i := 314) rfl))
set_option maxRecDepth 20000 in
theorem mw40 : (Cond.instanceMethod ({ cls := "Generations", name := "jobThatMakes", desc := "()I" } : Jvm.MethodName)) ∈ gw_N0 := gw_in (List.mem_append_right _ (gw_tm (i := 316) rfl))
set_option maxRecDepth 20000 in
theorem mw41 : (Cond.selects "Generations" ⟨"Generations", "jobThatMakes", "()I"⟩ ⟨"Generations", "jobThatMakes", "()I"⟩) ∈ gw_N0 := gw_in (List.mem_append_left _ (List.mem_of_getElem? (i := 15) rfl))
set_option maxRecDepth 20000 in
theorem mw42 : (Cond.initialized "Generations") ∈ gw_N0 := gw_in (List.mem_append_right _ (gw_tm (i := 1) rfl))
set_option maxRecDepth 20000 in
theorem mw43 : (Cond.fieldLink "Generations$Row" (15 : Nat) "Generations$Row" "size" "I") ∈ gw_N0 := gw_in (List.mem_append_right _ (gw_tm (i := 34) rfl))
set_option maxRecDepth 20000 in
theorem mw44 : (Cond.fieldLink "Generations$Row" (9 : Nat) "Generations$Row" "numbers" "[I") ∈ gw_N0 := gw_in (List.mem_append_right _ (gw_tm (i := 33) rfl))
set_option maxRecDepth 20000 in
theorem mw45 : (Cond.fieldLink "Generations" (10 : Nat) "Generations" "row" "LGenerations$Row;") ∈ gw_N0 := gw_in (List.mem_append_right _ (gw_tm (i := 104) rfl))
set_option maxRecDepth 20000 in
theorem mw46 : (Cond.code ({ cls := "Generations$Row", name := "at", desc := "(I)I" } : Jvm.MethodName) prog_4_method_2_code (2 : Nat) (Option.some Jvm.ClassFile.FieldType.int)) ∈ gw_N0 := gw_in (List.mem_append_right _ (gw_tm (i := 241) rfl))
set_option maxRecDepth 20000 in
theorem mw47 : (Cond.methodLinkNest "Generations" (149 : Nat) ({ cls := "Generations$Row", name := "at", desc := "(I)I" } : Jvm.MethodName) "Generations") ∈ gw_N0 := gw_in (List.mem_append_right _ (gw_tm (i := 238) rfl))
set_option maxRecDepth 20000 in
theorem mw48 : (Cond.initialized "Generations$Row") ∈ gw_N0 := gw_in (List.mem_append_right _ (gw_tm (i := 2) rfl))
set_option maxRecDepth 20000 in
theorem mw49 : (Cond.instanceMethod ({ cls := "Generations$Row", name := "at", desc := "(I)I" } : Jvm.MethodName)) ∈ gw_N0 := gw_in (List.mem_append_right _ (gw_tm (i := 240) rfl))
set_option maxRecDepth 20000 in
theorem mw50 : (Cond.selects "Generations$Row" ⟨"Generations$Row", "at", "(I)I"⟩ ⟨"Generations$Row", "at", "(I)I"⟩) ∈ gw_N0 := gw_in (List.mem_append_left _ (List.mem_of_getElem? (i := 10) rfl))
set_option maxRecDepth 20000 in
theorem mw51 : (Cond.fieldLink "Generations" (138 : Nat) "Generations" "goneCount" "I") ∈ gw_N0 := gw_in (List.mem_append_right _ (gw_tm (i := 109) rfl))
set_option maxRecDepth 20000 in
theorem mw52 : (Cond.fieldLink "Generations" (35 : Nat) "Generations" "gone" "[I") ∈ gw_N0 := gw_in (List.mem_append_right _ (gw_tm (i := 108) rfl))
set_option maxRecDepth 20000 in
theorem mw53 : (Cond.code ({ cls := "Generations", name := "find", desc := "(I)LGenerations$Generation;" } : Jvm.MethodName) prog_1_method_17_code (4 : Nat) (Option.some (Jvm.ClassFile.FieldType.object "Generations$Generation"))) ∈ gw_N0 := gw_in (List.mem_append_right _ (gw_tm (i := 139) rfl))
set_option maxRecDepth 20000 in
theorem mw54 : (Cond.methodLink "Generations" (60 : Nat) ({ cls := "Generations", name := "find", desc := "(I)LGenerations$Generation;" } : Jvm.MethodName)) ∈ gw_N0 := gw_in (List.mem_append_right _ (gw_tm (i := 136) rfl))
set_option maxRecDepth 20000 in
theorem mw55 : (Cond.instanceMethod ({ cls := "Generations", name := "find", desc := "(I)LGenerations$Generation;" } : Jvm.MethodName)) ∈ gw_N0 := gw_in (List.mem_append_right _ (gw_tm (i := 138) rfl))
set_option maxRecDepth 20000 in
theorem mw56 : (Cond.selects "Generations" ⟨"Generations", "find", "(I)LGenerations$Generation;"⟩ ⟨"Generations", "find", "(I)LGenerations$Generation;"⟩) ∈ gw_N0 := gw_in (List.mem_append_left _ (List.mem_of_getElem? (i := 0) rfl))
set_option maxRecDepth 20000 in
theorem mw57 : (Cond.fieldLinkNest "Generations" (152 : Nat) "Generations$Generation" "version" "I" "Generations") ∈ gw_N0 := gw_in (List.mem_append_right _ (gw_tm (i := 79) rfl))
set_option maxRecDepth 20000 in
theorem mw58 : (Cond.code ({ cls := "Generations", name := "isNumber", desc := "(I)Z" } : Jvm.MethodName) prog_1_method_15_code (1 : Nat) (Option.some Jvm.ClassFile.FieldType.boolean)) ∈ gw_N0 := gw_in (List.mem_append_right _ (gw_tm (i := 135) rfl))
set_option maxRecDepth 20000 in
theorem mw59 : (Cond.methodLink "Generations" (56 : Nat) ({ cls := "Generations", name := "isNumber", desc := "(I)Z" } : Jvm.MethodName)) ∈ gw_N0 := gw_in (List.mem_append_right _ (gw_tm (i := 133) rfl))
set_option maxRecDepth 20000 in
theorem mw60 : (Cond.static ({ cls := "Generations", name := "isNumber", desc := "(I)Z" } : Jvm.MethodName)) ∈ gw_N0 := gw_in (List.mem_append_right _ (gw_tm (i := 134) rfl))
set_option maxRecDepth 20000 in
theorem mw61 : (Cond.fieldLinkNest "Generations" (81 : Nat) "Generations$Row" "size" "I" "Generations") ∈ gw_N0 := gw_in (List.mem_append_right _ (gw_tm (i := 35) rfl))
set_option maxRecDepth 20000 in
theorem mw62 : (Cond.code ({ cls := "Generations", name := "howManyAre", desc := "(I)I" } : Jvm.MethodName) prog_1_method_19_code (4 : Nat) (Option.some Jvm.ClassFile.FieldType.int)) ∈ gw_N0 := gw_in (List.mem_append_right _ (gw_tm (i := 313) rfl))
set_option maxRecDepth 20000 in
theorem mw63 : (Cond.methodLink "Generations" (158 : Nat) ({ cls := "Generations", name := "howManyAre", desc := "(I)I" } : Jvm.MethodName)) ∈ gw_N0 := gw_in (List.mem_append_right _ (gw_tm (i := 310) rfl))
set_option maxRecDepth 20000 in
theorem mw64 : (Cond.instanceMethod ({ cls := "Generations", name := "howManyAre", desc := "(I)I" } : Jvm.MethodName)) ∈ gw_N0 := gw_in (List.mem_append_right _ (gw_tm (i := 312) rfl))
set_option maxRecDepth 20000 in
theorem mw65 : (Cond.selects "Generations" ⟨"Generations", "howManyAre", "(I)I"⟩ ⟨"Generations", "howManyAre", "(I)I"⟩) ∈ gw_N0 := gw_in (List.mem_append_left _ (List.mem_of_getElem? (i := 14) rfl))
set_option maxRecDepth 20000 in
theorem mw66 : (Cond.fieldLink "Generations" (19 : Nat) "Generations" "jobs" "Ljava/util/ArrayList;") ∈ gw_N0 := gw_in (List.mem_append_right _ (gw_tm (i := 105) rfl))
