abbrev b_AL_size : ByteArray := prog_19_method_8_code
abbrev y_AL_size : MethodName := ⟨"java/util/ArrayList", "size", "()I"⟩
abbrev b_Preconditions_checkIndex : ByteArray := prog_27_method_11_code
abbrev y_Preconditions_checkIndex : MethodName := ⟨"jdk/internal/util/Preconditions", "checkIndex", "(IILjava/util/function/BiFunction;)I"⟩
abbrev b_Objects_checkIndex : ByteArray := prog_23_method_17_code
abbrev y_Objects_checkIndex : MethodName := ⟨"java/util/Objects", "checkIndex", "(II)I"⟩
abbrev b_AL_elementData : ByteArray := prog_19_method_18_code
abbrev y_AL_elementData : MethodName := ⟨"java/util/ArrayList", "elementData", "(I)Ljava/lang/Object;"⟩
abbrev b_AL_get : ByteArray := prog_19_method_20_code
abbrev y_AL_get : MethodName := ⟨"java/util/ArrayList", "get", "(I)Ljava/lang/Object;"⟩
set_option maxRecDepth 20000 in
theorem mw0 : (Cond.fieldLink "java/util/ArrayList" (48 : Nat) "java/util/ArrayList" "size" "I") ∈ gw_N0 := gw_in (List.mem_append_right _ (gw_tm (i := 57) rfl))
set_option maxRecDepth 20000 in
theorem mw1 : (Cond.code ({ cls := "jdk/internal/util/Preconditions", name := "checkIndex", desc := "(IILjava/util/function/BiFunction;)I" } : Jvm.MethodName) prog_27_method_11_code (3 : Nat) (Option.some Jvm.ClassFile.FieldType.int)) ∈ gw_N0 := gw_in (List.mem_append_right _ (gw_tm (i := 153) rfl))
set_option maxRecDepth 20000 in
theorem mw2 : (Cond.methodLink "java/util/Objects" (105 : Nat) ({ cls := "jdk/internal/util/Preconditions", name := "checkIndex", desc := "(IILjava/util/function/BiFunction;)I" } : Jvm.MethodName)) ∈ gw_N0 := gw_in (List.mem_append_right _ (gw_tm (i := 151) rfl))
set_option maxRecDepth 20000 in
theorem mw3 : (Cond.static ({ cls := "jdk/internal/util/Preconditions", name := "checkIndex", desc := "(IILjava/util/function/BiFunction;)I" } : Jvm.MethodName)) ∈ gw_N0 := gw_in (List.mem_append_right _ (gw_tm (i := 152) rfl))
set_option maxRecDepth 20000 in
theorem mw4 : (Cond.initialized "jdk/internal/util/Preconditions") ∈ gw_N0 := gw_in (List.mem_append_right _ (gw_tm (i := 10) rfl))
set_option maxRecDepth 20000 in
theorem mw5 : (Cond.fieldLink "java/util/ArrayList" (9 : Nat) "java/util/ArrayList" "elementData" "[Ljava/lang/Object;") ∈ gw_N0 := gw_in (List.mem_append_right _ (gw_tm (i := 56) rfl))
set_option maxRecDepth 20000 in
theorem mw6 : (Cond.code ({ cls := "java/util/Objects", name := "checkIndex", desc := "(II)I" } : Jvm.MethodName) prog_23_method_17_code (2 : Nat) (Option.some Jvm.ClassFile.FieldType.int)) ∈ gw_N0 := gw_in (List.mem_append_right _ (gw_tm (i := 150) rfl))
set_option maxRecDepth 20000 in
theorem mw7 : (Cond.methodLink "java/util/ArrayList" (118 : Nat) ({ cls := "java/util/Objects", name := "checkIndex", desc := "(II)I" } : Jvm.MethodName)) ∈ gw_N0 := gw_in (List.mem_append_right _ (gw_tm (i := 148) rfl))
set_option maxRecDepth 20000 in
theorem mw8 : (Cond.static ({ cls := "java/util/Objects", name := "checkIndex", desc := "(II)I" } : Jvm.MethodName)) ∈ gw_N0 := gw_in (List.mem_append_right _ (gw_tm (i := 149) rfl))
set_option maxRecDepth 20000 in
theorem mw9 : (Cond.initialized "java/util/Objects") ∈ gw_N0 := gw_in (List.mem_append_right _ (gw_tm (i := 9) rfl))
set_option maxRecDepth 20000 in
theorem mw10 : (Cond.code ({ cls := "java/util/ArrayList", name := "elementData", desc := "(I)Ljava/lang/Object;" } : Jvm.MethodName) prog_19_method_18_code (2 : Nat) (Option.some (Jvm.ClassFile.FieldType.object "java/lang/Object"))) ∈ gw_N0 := gw_in (List.mem_append_right _ (gw_tm (i := 157) rfl))
set_option maxRecDepth 20000 in
theorem mw11 : (Cond.methodLink "java/util/ArrayList" (123 : Nat) ({ cls := "java/util/ArrayList", name := "elementData", desc := "(I)Ljava/lang/Object;" } : Jvm.MethodName)) ∈ gw_N0 := gw_in (List.mem_append_right _ (gw_tm (i := 154) rfl))
set_option maxRecDepth 20000 in
theorem mw12 : (Cond.instanceMethod ({ cls := "java/util/ArrayList", name := "elementData", desc := "(I)Ljava/lang/Object;" } : Jvm.MethodName)) ∈ gw_N0 := gw_in (List.mem_append_right _ (gw_tm (i := 155) rfl))
set_option maxRecDepth 20000 in
theorem mw13 : (Cond.selects "java/util/ArrayList" ({ cls := "java/util/ArrayList", name := "elementData", desc := "(I)Ljava/lang/Object;" } : Jvm.MethodName) ({ cls := "java/util/ArrayList", name := "elementData", desc := "(I)Ljava/lang/Object;" } : Jvm.MethodName)) ∈ gw_N0 := gw_in (List.mem_append_right _ (gw_tm (i := 156) rfl))
set_option maxRecDepth 20000 in
theorem mw14 : (Cond.initialized "java/util/ArrayList") ∈ gw_N0 := gw_in (List.mem_append_right _ (gw_tm (i := 5) rfl))
