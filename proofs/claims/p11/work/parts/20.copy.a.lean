abbrev b_Ars_copyOf3 : ByteArray := prog_20_method_123_code
abbrev y_Ars_copyOf3 : MethodName := ⟨"java/util/Arrays", "copyOf", "([II)[I"⟩
abbrev b_Row_copy : ByteArray := prog_4_method_3_code
abbrev y_Row_copy : MethodName := ⟨"Generations$Row", "copy", "()[I"⟩
abbrev b_Job_init : ByteArray := prog_3_method_1_code
abbrev y_Job_init : MethodName := ⟨"Generations$Job", "<init>", "([I)V"⟩
set_option maxRecDepth 20000 in
theorem mw175 : (Cond.arrayClass Jvm.ClassFile.FieldType.int) ∈ gw_N0 := gw_in (List.mem_append_right _ (gw_tm (i := 41) rfl))
set_option maxRecDepth 20000 in
theorem mw176 : (Cond.code ({ cls := "java/util/Arrays", name := "copyOf", desc := "([II)[I" } : Jvm.MethodName) prog_20_method_123_code (3 : Nat) (Option.some (Jvm.ClassFile.FieldType.array Jvm.ClassFile.FieldType.int))) ∈ gw_N0 := gw_in (List.mem_append_right _ (gw_tm (i := 263) rfl))
set_option maxRecDepth 20000 in
theorem mw177 : (Cond.methodLink "Generations$Row" (19 : Nat) ({ cls := "java/util/Arrays", name := "copyOf", desc := "([II)[I" } : Jvm.MethodName)) ∈ gw_N0 := gw_in (List.mem_append_right _ (gw_tm (i := 261) rfl))
set_option maxRecDepth 20000 in
theorem mw178 : (Cond.static ({ cls := "java/util/Arrays", name := "copyOf", desc := "([II)[I" } : Jvm.MethodName)) ∈ gw_N0 := gw_in (List.mem_append_right _ (gw_tm (i := 262) rfl))
set_option maxRecDepth 20000 in
theorem mw179 : (Cond.methodLink "Generations$Job" (3 : Nat) ({ cls := "java/lang/Object", name := "<init>", desc := "()V" } : Jvm.MethodName)) ∈ gw_N0 := gw_in (List.mem_append_right _ (gw_tm (i := 274) rfl))
