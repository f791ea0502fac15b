abbrev b_Law_relative : ByteArray := method_3_code
abbrev y_Law_relative : MethodName := ⟨"GenerationsLaw", "relative", "(LGenerations;II[J)I"⟩
abbrev b_Law_make : ByteArray := method_4_code
abbrev y_Law_make : MethodName := ⟨"GenerationsLaw", "make", "(LGenerations;II[J)I"⟩
abbrev b_Law_restart : ByteArray := method_6_code
abbrev y_Law_restart : MethodName := ⟨"GenerationsLaw", "restart", "(LGenerations;II[J)I"⟩
abbrev b_Law_end : ByteArray := method_5_code
abbrev y_Law_end : MethodName := ⟨"GenerationsLaw", "end", "(LGenerations;IIZ[J)I"⟩
set_option maxRecDepth 20000 in
theorem mw313 : (Cond.code ({ cls := "Generations", name := "relative", desc := "(II)I" } : Jvm.MethodName) prog_1_method_4_code (5 : Nat) (Option.some Jvm.ClassFile.FieldType.int)) ∈ gw_N0 := gw_in (List.mem_append_right _ (gw_tm (i := 328) rfl))
set_option maxRecDepth 20000 in
theorem mw314 : (Cond.methodLink "GenerationsLaw" (7 : Nat) ({ cls := "Generations", name := "relative", desc := "(II)I" } : Jvm.MethodName)) ∈ gw_N0 := gw_in (List.mem_append_right _ (gw_tm (i := 325) rfl))
set_option maxRecDepth 20000 in
theorem mw315 : (Cond.instanceMethod ({ cls := "Generations", name := "relative", desc := "(II)I" } : Jvm.MethodName)) ∈ gw_N0 := gw_in (List.mem_append_right _ (gw_tm (i := 326) rfl))
set_option maxRecDepth 20000 in
theorem mw316 : (Cond.selects "Generations" ({ cls := "Generations", name := "relative", desc := "(II)I" } : Jvm.MethodName) ({ cls := "Generations", name := "relative", desc := "(II)I" } : Jvm.MethodName)) ∈ gw_N0 := gw_in (List.mem_append_right _ (gw_tm (i := 327) rfl))
set_option maxRecDepth 20000 in
theorem mw317 : (Cond.classLink "GenerationsLaw" (13 : Nat) "java/lang/IllegalArgumentException") ∈ gw_N0 := gw_in (List.mem_append_right _ (gw_tm (i := 324) rfl))
set_option maxRecDepth 20000 in
theorem mw318 : (Cond.castable "java/lang/IllegalArgumentException" "java/lang/IllegalArgumentException") ∈ gw_N0 := gw_in (List.mem_append_right _ (gw_tm (i := 335) rfl))
set_option maxRecDepth 20000 in
theorem mw319 : (Cond.code ({ cls := "Generations", name := "make", desc := "(II)I" } : Jvm.MethodName) prog_1_method_5_code (7 : Nat) (Option.some Jvm.ClassFile.FieldType.int)) ∈ gw_N0 := gw_in (List.mem_append_right _ (gw_tm (i := 424) rfl))
set_option maxRecDepth 20000 in
theorem mw320 : (Cond.methodLink "GenerationsLaw" (15 : Nat) ({ cls := "Generations", name := "make", desc := "(II)I" } : Jvm.MethodName)) ∈ gw_N0 := gw_in (List.mem_append_right _ (gw_tm (i := 421) rfl))
set_option maxRecDepth 20000 in
theorem mw321 : (Cond.instanceMethod ({ cls := "Generations", name := "make", desc := "(II)I" } : Jvm.MethodName)) ∈ gw_N0 := gw_in (List.mem_append_right _ (gw_tm (i := 422) rfl))
set_option maxRecDepth 20000 in
theorem mw322 : (Cond.selects "Generations" ({ cls := "Generations", name := "make", desc := "(II)I" } : Jvm.MethodName) ({ cls := "Generations", name := "make", desc := "(II)I" } : Jvm.MethodName)) ∈ gw_N0 := gw_in (List.mem_append_right _ (gw_tm (i := 423) rfl))
set_option maxRecDepth 20000 in
theorem mw323 : (Cond.code ({ cls := "Generations", name := "restart", desc := "(II)I" } : Jvm.MethodName) prog_1_method_8_code (7 : Nat) (Option.some Jvm.ClassFile.FieldType.int)) ∈ gw_N0 := gw_in (List.mem_append_right _ (gw_tm (i := 447) rfl))
set_option maxRecDepth 20000 in
theorem mw324 : (Cond.methodLink "GenerationsLaw" (22 : Nat) ({ cls := "Generations", name := "restart", desc := "(II)I" } : Jvm.MethodName)) ∈ gw_N0 := gw_in (List.mem_append_right _ (gw_tm (i := 444) rfl))
set_option maxRecDepth 20000 in
theorem mw325 : (Cond.instanceMethod ({ cls := "Generations", name := "restart", desc := "(II)I" } : Jvm.MethodName)) ∈ gw_N0 := gw_in (List.mem_append_right _ (gw_tm (i := 445) rfl))
set_option maxRecDepth 20000 in
theorem mw326 : (Cond.selects "Generations" ({ cls := "Generations", name := "restart", desc := "(II)I" } : Jvm.MethodName) ({ cls := "Generations", name := "restart", desc := "(II)I" } : Jvm.MethodName)) ∈ gw_N0 := gw_in (List.mem_append_right _ (gw_tm (i := 446) rfl))
set_option maxRecDepth 20000 in
theorem mw327 : (Cond.code ({ cls := "Generations", name := "end", desc := "(IIZ)I" } : Jvm.MethodName) prog_1_method_6_code (6 : Nat) (Option.some Jvm.ClassFile.FieldType.int)) ∈ gw_N0 := gw_in (List.mem_append_right _ (gw_tm (i := 440) rfl))
set_option maxRecDepth 20000 in
theorem mw328 : (Cond.methodLink "GenerationsLaw" (18 : Nat) ({ cls := "Generations", name := "end", desc := "(IIZ)I" } : Jvm.MethodName)) ∈ gw_N0 := gw_in (List.mem_append_right _ (gw_tm (i := 437) rfl))
set_option maxRecDepth 20000 in
theorem mw329 : (Cond.instanceMethod ({ cls := "Generations", name := "end", desc := "(IIZ)I" } : Jvm.MethodName)) ∈ gw_N0 := gw_in (List.mem_append_right _ (gw_tm (i := 438) rfl))
set_option maxRecDepth 20000 in
theorem mw330 : (Cond.selects "Generations" ({ cls := "Generations", name := "end", desc := "(IIZ)I" } : Jvm.MethodName) ({ cls := "Generations", name := "end", desc := "(IIZ)I" } : Jvm.MethodName)) ∈ gw_N0 := gw_in (List.mem_append_right _ (gw_tm (i := 439) rfl))
