abbrev b_Ars_copyOf : ByteArray := prog_20_method_123_code
abbrev y_Ars_copyOf : MethodName := ⟨"java/util/Arrays", "copyOf", "([II)[I"⟩
abbrev b_Row_copy : ByteArray := prog_4_method_3_code
abbrev y_Row_copy : MethodName := ⟨"Generations$Row", "copy", "()[I"⟩
abbrev b_Job_init : ByteArray := prog_3_method_1_code
abbrev y_Job_init : MethodName := ⟨"Generations$Job", "<init>", "([I)V"⟩
abbrev b_X_job : ByteArray := prog_1_method_3_code
abbrev y_X_job : MethodName := ⟨"Generations", "job", "()I"⟩
set_option maxRecDepth 20000 in
theorem mw119 : (Cond.methodLink "java/util/Arrays" (304 : Nat) ({ cls := "java/lang/Math", name := "min", desc := "(II)I" } : Jvm.MethodName)) ∈ gw_N0 := gw_in (List.mem_append_right _ (gw_tm (i := 210) rfl))
set_option maxRecDepth 20000 in
theorem mw120 : (Cond.methodLink "java/util/Arrays" (150 : Nat) ({ cls := "java/lang/System", name := "arraycopy", desc := "(Ljava/lang/Object;ILjava/lang/Object;II)V" } : Jvm.MethodName)) ∈ gw_N0 := gw_in (List.mem_append_right _ (gw_tm (i := 211) rfl))
set_option maxRecDepth 20000 in
theorem mw121 : (Cond.native ({ cls := "java/lang/System", name := "arraycopy", desc := "(Ljava/lang/Object;ILjava/lang/Object;II)V" } : Jvm.MethodName)) ∈ gw_N0 := gw_in (List.mem_append_right _ (gw_tm (i := 213) rfl))
set_option maxRecDepth 20000 in
theorem mw122 : (Cond.static ({ cls := "java/lang/System", name := "arraycopy", desc := "(Ljava/lang/Object;ILjava/lang/Object;II)V" } : Jvm.MethodName)) ∈ gw_N0 := gw_in (List.mem_append_right _ (gw_tm (i := 212) rfl))
set_option maxRecDepth 20000 in
theorem mw123 : (Cond.initialized "java/lang/System") ∈ gw_N0 := gw_in (List.mem_append_right _ (gw_tm (i := 13) rfl))
set_option maxRecDepth 20000 in
theorem mw124 : (Cond.code ({ cls := "java/util/Arrays", name := "copyOf", desc := "([II)[I" } : Jvm.MethodName) prog_20_method_123_code (3 : Nat) (Option.some (Jvm.ClassFile.FieldType.array Jvm.ClassFile.FieldType.int))) ∈ gw_N0 := gw_in (List.mem_append_right _ (gw_tm (i := 263) rfl))
set_option maxRecDepth 20000 in
theorem mw125 : (Cond.methodLink "Generations$Row" (19 : Nat) ({ cls := "java/util/Arrays", name := "copyOf", desc := "([II)[I" } : Jvm.MethodName)) ∈ gw_N0 := gw_in (List.mem_append_right _ (gw_tm (i := 261) rfl))
set_option maxRecDepth 20000 in
theorem mw126 : (Cond.static ({ cls := "java/util/Arrays", name := "copyOf", desc := "([II)[I" } : Jvm.MethodName)) ∈ gw_N0 := gw_in (List.mem_append_right _ (gw_tm (i := 262) rfl))
set_option maxRecDepth 20000 in
theorem mw127 : (Cond.initialized "java/util/Arrays") ∈ gw_N0 := gw_in (List.mem_append_right _ (gw_tm (i := 12) rfl))
set_option maxRecDepth 20000 in
theorem mw128 : (Cond.methodLink "Generations$Job" (3 : Nat) ({ cls := "java/lang/Object", name := "<init>", desc := "()V" } : Jvm.MethodName)) ∈ gw_N0 := gw_in (List.mem_append_right _ (gw_tm (i := 274) rfl))
set_option maxRecDepth 20000 in
theorem mw129 : (Cond.fieldLink "Generations$Job" (9 : Nat) "Generations$Job" "rowThen" "[I") ∈ gw_N0 := gw_in (List.mem_append_right _ (gw_tm (i := 275) rfl))
set_option maxRecDepth 20000 in
theorem mw130 : (Cond.classLink "Generations" (87 : Nat) "Generations$Job") ∈ gw_N0 := gw_in (List.mem_append_right _ (gw_tm (i := 255) rfl))
set_option maxRecDepth 20000 in
theorem mw131 : (Cond.instantiable "Generations$Job" (2 : Nat)) ∈ gw_N0 := gw_in (List.mem_append_right _ (gw_tm (i := 256) rfl))
set_option maxRecDepth 20000 in
theorem mw132 : (Cond.initialized "Generations$Job") ∈ gw_N0 := gw_in (List.mem_append_right _ (gw_tm (i := 14) rfl))
set_option maxRecDepth 20000 in
theorem mw133 : (Cond.code ({ cls := "Generations$Row", name := "copy", desc := "()[I" } : Jvm.MethodName) prog_4_method_3_code (1 : Nat) (Option.some (Jvm.ClassFile.FieldType.array Jvm.ClassFile.FieldType.int))) ∈ gw_N0 := gw_in (List.mem_append_right _ (gw_tm (i := 260) rfl))
set_option maxRecDepth 20000 in
theorem mw134 : (Cond.methodLinkNest "Generations" (89 : Nat) ({ cls := "Generations$Row", name := "copy", desc := "()[I" } : Jvm.MethodName) "Generations") ∈ gw_N0 := gw_in (List.mem_append_right _ (gw_tm (i := 257) rfl))
set_option maxRecDepth 20000 in
theorem mw135 : (Cond.instanceMethod ({ cls := "Generations$Row", name := "copy", desc := "()[I" } : Jvm.MethodName)) ∈ gw_N0 := gw_in (List.mem_append_right _ (gw_tm (i := 259) rfl))
set_option maxRecDepth 20000 in
theorem mw136 : (Cond.selects "Generations$Row" ⟨"Generations$Row", "copy", "()[I"⟩ ⟨"Generations$Row", "copy", "()[I"⟩) ∈ gw_N0 := gw_in (List.mem_append_left _ (List.mem_of_getElem? (i := 13) rfl))
set_option maxRecDepth 20000 in
theorem mw137 : (Cond.code ({ cls := "Generations$Job", name := "<init>", desc := "([I)V" } : Jvm.MethodName) prog_3_method_1_code (2 : Nat) (Option.none : Option Jvm.ClassFile.FieldType)) ∈ gw_N0 := gw_in (List.mem_append_right _ (gw_tm (i := 273) rfl))
set_option maxRecDepth 20000 in
theorem mw138 : (Cond.methodLinkNest "Generations" (93 : Nat) ({ cls := "Generations$Job", name := "<init>", desc := "([I)V" } : Jvm.MethodName) "Generations") ∈ gw_N0 := gw_in (List.mem_append_right _ (gw_tm (i := 271) rfl))
set_option maxRecDepth 20000 in
theorem mw139 : (Cond.instanceMethod ({ cls := "Generations$Job", name := "<init>", desc := "([I)V" } : Jvm.MethodName)) ∈ gw_N0 := gw_in (List.mem_append_right _ (gw_tm (i := 272) rfl))
