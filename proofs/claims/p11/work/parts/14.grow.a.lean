abbrev b_ArraysSupport_newLength : ByteArray := prog_26_method_27_code
abbrev y_ArraysSupport_newLength : MethodName := ⟨"jdk/internal/util/ArraysSupport", "newLength", "(III)I"⟩
abbrev b_Ars_copyOf : ByteArray := prog_20_method_120_code
abbrev y_Ars_copyOf : MethodName := ⟨"java/util/Arrays", "copyOf", "([Ljava/lang/Object;ILjava/lang/Class;)[Ljava/lang/Object;"⟩
abbrev b_Ars_copyOf2 : ByteArray := prog_20_method_119_code
abbrev y_Ars_copyOf2 : MethodName := ⟨"java/util/Arrays", "copyOf", "([Ljava/lang/Object;I)[Ljava/lang/Object;"⟩
set_option maxRecDepth 20000 in
theorem mw89 : (Cond.methodLink "jdk/internal/util/ArraysSupport" (194 : Nat) ({ cls := "java/lang/Math", name := "max", desc := "(II)I" } : Jvm.MethodName)) ∈ gw_N0 := gw_in (List.mem_append_right _ (gw_tm (i := 185) rfl))
set_option maxRecDepth 20000 in
theorem mw90 : (Cond.constant "jdk/internal/util/ArraysSupport" (200 : Nat) (2147483639 : Int32)) ∈ gw_N0 := gw_in (List.mem_append_right _ (gw_tm (i := 186) rfl))
set_option maxRecDepth 20000 in
theorem mw91 : (Cond.classLink "java/util/Arrays" (110 : Nat) "[Ljava/lang/Object;") ∈ gw_N0 := gw_in (List.mem_append_right _ (gw_tm (i := 207) rfl))
set_option maxRecDepth 20000 in
theorem mw92 : (Cond.classLink "java/util/Arrays" (2 : Nat) "java/lang/Object") ∈ gw_N0 := gw_in (List.mem_append_right _ (gw_tm (i := 209) rfl))
set_option maxRecDepth 20000 in
theorem mw93 : (Cond.methodLink "java/util/Arrays" (304 : Nat) ({ cls := "java/lang/Math", name := "min", desc := "(II)I" } : Jvm.MethodName)) ∈ gw_N0 := gw_in (List.mem_append_right _ (gw_tm (i := 210) rfl))
set_option maxRecDepth 20000 in
theorem mw94 : (Cond.static ({ cls := "java/lang/Math", name := "min", desc := "(II)I" } : Jvm.MethodName)) ∈ gw_N0 := gw_in (List.mem_append_right _ (gw_tm (i := 96) rfl))
set_option maxRecDepth 20000 in
theorem mw95 : (Cond.code ({ cls := "java/lang/Math", name := "min", desc := "(II)I" } : Jvm.MethodName) prog_12_method_69_code (2 : Nat) (Option.some Jvm.ClassFile.FieldType.int)) ∈ gw_N0 := gw_in (List.mem_append_right _ (gw_tm (i := 97) rfl))
set_option maxRecDepth 20000 in
theorem mw96 : (Cond.methodLink "java/util/Arrays" (150 : Nat) ({ cls := "java/lang/System", name := "arraycopy", desc := "(Ljava/lang/Object;ILjava/lang/Object;II)V" } : Jvm.MethodName)) ∈ gw_N0 := gw_in (List.mem_append_right _ (gw_tm (i := 211) rfl))
set_option maxRecDepth 20000 in
theorem mw97 : (Cond.native ({ cls := "java/lang/System", name := "arraycopy", desc := "(Ljava/lang/Object;ILjava/lang/Object;II)V" } : Jvm.MethodName)) ∈ gw_N0 := gw_in (List.mem_append_right _ (gw_tm (i := 213) rfl))
set_option maxRecDepth 20000 in
theorem mw98 : (Cond.static ({ cls := "java/lang/System", name := "arraycopy", desc := "(Ljava/lang/Object;ILjava/lang/Object;II)V" } : Jvm.MethodName)) ∈ gw_N0 := gw_in (List.mem_append_right _ (gw_tm (i := 212) rfl))
set_option maxRecDepth 20000 in
theorem mw99 : (Cond.initialized "java/lang/System") ∈ gw_N0 := gw_in (List.mem_append_right _ (gw_tm (i := 13) rfl))
set_option maxRecDepth 20000 in
theorem mw100 : (Cond.methodLink "java/util/Arrays" (86 : Nat) ({ cls := "java/lang/Object", name := "getClass", desc := "()Ljava/lang/Class;" } : Jvm.MethodName)) ∈ gw_N0 := gw_in (List.mem_append_right _ (gw_tm (i := 193) rfl))
set_option maxRecDepth 20000 in
theorem mw101 : (Cond.declares ({ cls := "java/lang/Object", name := "getClass", desc := "()Ljava/lang/Class;" } : Jvm.MethodName)) ∈ gw_N0 := gw_in (List.mem_append_right _ (gw_tm (i := 612) rfl))
set_option maxRecDepth 20000 in
theorem mw102 : (Cond.selects "[Ljava/lang/Object;" ({ cls := "java/lang/Object", name := "getClass", desc := "()Ljava/lang/Class;" } : Jvm.MethodName) ({ cls := "java/lang/Object", name := "getClass", desc := "()Ljava/lang/Class;" } : Jvm.MethodName)) ∈ gw_N0 := gw_in (List.mem_append_right _ (gw_tm (i := 611) rfl))
set_option maxRecDepth 20000 in
theorem mw103 : (Cond.instanceMethod ({ cls := "java/lang/Object", name := "getClass", desc := "()Ljava/lang/Class;" } : Jvm.MethodName)) ∈ gw_N0 := gw_in (List.mem_append_right _ (gw_tm (i := 194) rfl))
set_option maxRecDepth 20000 in
theorem mw104 : (Cond.native ({ cls := "java/lang/Object", name := "getClass", desc := "()Ljava/lang/Class;" } : Jvm.MethodName)) ∈ gw_N0 := gw_in (List.mem_append_right _ (gw_tm (i := 203) rfl))
set_option maxRecDepth 20000 in
theorem mw105 : (Cond.code ({ cls := "java/util/Arrays", name := "copyOf", desc := "([Ljava/lang/Object;ILjava/lang/Class;)[Ljava/lang/Object;" } : Jvm.MethodName) prog_20_method_120_code (4 : Nat) (Option.some (Jvm.ClassFile.FieldType.array (Jvm.ClassFile.FieldType.object "java/lang/Object")))) ∈ gw_N0 := gw_in (List.mem_append_right _ (gw_tm (i := 206) rfl))
set_option maxRecDepth 20000 in
theorem mw106 : (Cond.methodLink "java/util/Arrays" (300 : Nat) ({ cls := "java/util/Arrays", name := "copyOf", desc := "([Ljava/lang/Object;ILjava/lang/Class;)[Ljava/lang/Object;" } : Jvm.MethodName)) ∈ gw_N0 := gw_in (List.mem_append_right _ (gw_tm (i := 204) rfl))
set_option maxRecDepth 20000 in
theorem mw107 : (Cond.static ({ cls := "java/util/Arrays", name := "copyOf", desc := "([Ljava/lang/Object;ILjava/lang/Class;)[Ljava/lang/Object;" } : Jvm.MethodName)) ∈ gw_N0 := gw_in (List.mem_append_right _ (gw_tm (i := 205) rfl))
set_option maxRecDepth 20000 in
theorem mw108 : (Cond.initialized "java/util/Arrays") ∈ gw_N0 := gw_in (List.mem_append_right _ (gw_tm (i := 12) rfl))
set_option maxRecDepth 20000 in
theorem mw109 : (Cond.code ({ cls := "jdk/internal/util/ArraysSupport", name := "newLength", desc := "(III)I" } : Jvm.MethodName) prog_26_method_27_code (4 : Nat) (Option.some Jvm.ClassFile.FieldType.int)) ∈ gw_N0 := gw_in (List.mem_append_right _ (gw_tm (i := 184) rfl))
set_option maxRecDepth 20000 in
theorem mw110 : (Cond.methodLink "java/util/ArrayList" (73 : Nat) ({ cls := "jdk/internal/util/ArraysSupport", name := "newLength", desc := "(III)I" } : Jvm.MethodName)) ∈ gw_N0 := gw_in (List.mem_append_right _ (gw_tm (i := 182) rfl))
set_option maxRecDepth 20000 in
theorem mw111 : (Cond.static ({ cls := "jdk/internal/util/ArraysSupport", name := "newLength", desc := "(III)I" } : Jvm.MethodName)) ∈ gw_N0 := gw_in (List.mem_append_right _ (gw_tm (i := 183) rfl))
set_option maxRecDepth 20000 in
theorem mw112 : (Cond.initialized "jdk/internal/util/ArraysSupport") ∈ gw_N0 := gw_in (List.mem_append_right _ (gw_tm (i := 11) rfl))
set_option maxRecDepth 20000 in
theorem mw113 : (Cond.code ({ cls := "java/util/Arrays", name := "copyOf", desc := "([Ljava/lang/Object;I)[Ljava/lang/Object;" } : Jvm.MethodName) prog_20_method_119_code (2 : Nat) (Option.some (Jvm.ClassFile.FieldType.array (Jvm.ClassFile.FieldType.object "java/lang/Object")))) ∈ gw_N0 := gw_in (List.mem_append_right _ (gw_tm (i := 192) rfl))
set_option maxRecDepth 20000 in
theorem mw114 : (Cond.methodLink "java/util/ArrayList" (66 : Nat) ({ cls := "java/util/Arrays", name := "copyOf", desc := "([Ljava/lang/Object;I)[Ljava/lang/Object;" } : Jvm.MethodName)) ∈ gw_N0 := gw_in (List.mem_append_right _ (gw_tm (i := 190) rfl))
set_option maxRecDepth 20000 in
theorem mw115 : (Cond.static ({ cls := "java/util/Arrays", name := "copyOf", desc := "([Ljava/lang/Object;I)[Ljava/lang/Object;" } : Jvm.MethodName)) ∈ gw_N0 := gw_in (List.mem_append_right _ (gw_tm (i := 191) rfl))
