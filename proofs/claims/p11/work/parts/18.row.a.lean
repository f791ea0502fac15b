abbrev b_Gen_init : ByteArray := prog_2_method_1_code
abbrev y_Gen_init : MethodName := ⟨"Generations$Generation", "<init>", "(I)V"⟩
abbrev b_Gen_beginAnew : ByteArray := prog_2_method_2_code
abbrev y_Gen_beginAnew : MethodName := ⟨"Generations$Generation", "beginAnew", "(I)V"⟩
abbrev b_Row_put : ByteArray := prog_4_method_4_code
abbrev y_Row_put : MethodName := ⟨"Generations$Row", "put", "(I)V"⟩
abbrev b_Row_removeOldest : ByteArray := prog_4_method_5_code
abbrev y_Row_removeOldest : MethodName := ⟨"Generations$Row", "removeOldest", "(I)V"⟩
abbrev b_X_letGo : ByteArray := prog_1_method_24_code
abbrev y_X_letGo : MethodName := ⟨"Generations", "letGo", "(I)V"⟩
set_option maxRecDepth 20000 in
theorem mw126 : (Cond.methodLink "Generations$Generation" (3 : Nat) ({ cls := "java/lang/Object", name := "<init>", desc := "()V" } : Jvm.MethodName)) ∈ gw_N0 := gw_in (List.mem_append_right _ (gw_tm (i := 73) rfl))
set_option maxRecDepth 20000 in
theorem mw127 : (Cond.instanceMethod ({ cls := "java/lang/Object", name := "<init>", desc := "()V" } : Jvm.MethodName)) ∈ gw_N0 := gw_in (List.mem_append_right _ (gw_tm (i := 25) rfl))
set_option maxRecDepth 20000 in
theorem mw128 : (Cond.code ({ cls := "java/lang/Object", name := "<init>", desc := "()V" } : Jvm.MethodName) object_method_1_code (1 : Nat) (Option.none : Option Jvm.ClassFile.FieldType)) ∈ gw_N0 := gw_in (List.mem_append_right _ (gw_tm (i := 26) rfl))
set_option maxRecDepth 20000 in
theorem mw129 : (Cond.fieldLink "Generations$Generation" (18 : Nat) "Generations$Generation" "number" "I") ∈ gw_N0 := gw_in (List.mem_append_right _ (gw_tm (i := 74) rfl))
set_option maxRecDepth 20000 in
theorem mw130 : (Cond.fieldLink "Generations$Generation" (21 : Nat) "Generations$Generation" "version" "I") ∈ gw_N0 := gw_in (List.mem_append_right _ (gw_tm (i := 78) rfl))
set_option maxRecDepth 20000 in
theorem mw131 : (Cond.code ({ cls := "Generations$Row", name := "isAhead", desc := "(II)Z" } : Jvm.MethodName) prog_4_method_6_code (3 : Nat) (Option.some Jvm.ClassFile.FieldType.boolean)) ∈ gw_N0 := gw_in (List.mem_append_right _ (gw_tm (i := 230) rfl))
set_option maxRecDepth 20000 in
theorem mw132 : (Cond.methodLink "Generations$Row" (25 : Nat) ({ cls := "Generations$Row", name := "isAhead", desc := "(II)Z" } : Jvm.MethodName)) ∈ gw_N0 := gw_in (List.mem_append_right _ (gw_tm (i := 228) rfl))
set_option maxRecDepth 20000 in
theorem mw133 : (Cond.static ({ cls := "Generations$Row", name := "isAhead", desc := "(II)Z" } : Jvm.MethodName)) ∈ gw_N0 := gw_in (List.mem_append_right _ (gw_tm (i := 229) rfl))
set_option maxRecDepth 20000 in
theorem mw134 : (Cond.methodLink "Generations$Row" (29 : Nat) ({ cls := "java/lang/System", name := "arraycopy", desc := "(Ljava/lang/Object;ILjava/lang/Object;II)V" } : Jvm.MethodName)) ∈ gw_N0 := gw_in (List.mem_append_right _ (gw_tm (i := 250) rfl))
set_option maxRecDepth 20000 in
theorem mw135 : (Cond.fieldLink "Generations" (52 : Nat) "Generations" "scratches" "Z") ∈ gw_N0 := gw_in (List.mem_append_right _ (gw_tm (i := 102) rfl))
