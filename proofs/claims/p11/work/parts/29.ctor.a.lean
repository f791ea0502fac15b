abbrev b_Row_init : ByteArray := prog_4_method_1_code
abbrev y_Row_init : MethodName := ⟨"Generations$Row", "<init>", "()V"⟩
abbrev b_AC_init : ByteArray := prog_17_method_1_code
abbrev y_AC_init : MethodName := ⟨"java/util/AbstractCollection", "<init>", "()V"⟩
abbrev b_AbL_init : ByteArray := prog_18_method_1_code
abbrev y_AbL_init : MethodName := ⟨"java/util/AbstractList", "<init>", "()V"⟩
abbrev b_AL_init : ByteArray := prog_19_method_2_code
abbrev y_AL_init : MethodName := ⟨"java/util/ArrayList", "<init>", "()V"⟩
abbrev b_X_init : ByteArray := prog_1_method_1_code
abbrev y_X_init : MethodName := ⟨"Generations", "<init>", "(II)V"⟩
abbrev b_Mo_init : ByteArray := prog_6_method_1_code
abbrev y_Mo_init : MethodName := ⟨"GenerationsModel", "<init>", "(II)V"⟩
set_option maxRecDepth 20000 in
theorem mw288 : (Cond.methodLink "Generations$Row" (3 : Nat) ({ cls := "java/lang/Object", name := "<init>", desc := "()V" } : Jvm.MethodName)) ∈ gw_N0 := gw_in (List.mem_append_right _ (gw_tm (i := 32) rfl))
set_option maxRecDepth 20000 in
theorem mw289 : (Cond.methodLink "java/util/AbstractCollection" (1 : Nat) ({ cls := "java/lang/Object", name := "<init>", desc := "()V" } : Jvm.MethodName)) ∈ gw_N0 := gw_in (List.mem_append_right _ (gw_tm (i := 53) rfl))
set_option maxRecDepth 20000 in
theorem mw290 : (Cond.code ({ cls := "java/util/AbstractCollection", name := "<init>", desc := "()V" } : Jvm.MethodName) prog_17_method_1_code (1 : Nat) (Option.none : Option Jvm.ClassFile.FieldType)) ∈ gw_N0 := gw_in (List.mem_append_right _ (gw_tm (i := 52) rfl))
set_option maxRecDepth 20000 in
theorem mw291 : (Cond.initialized "java/util/AbstractCollection") ∈ gw_N0 := gw_in (List.mem_append_right _ (gw_tm (i := 3) rfl))
set_option maxRecDepth 20000 in
theorem mw292 : (Cond.methodLink "java/util/AbstractList" (1 : Nat) ({ cls := "java/util/AbstractCollection", name := "<init>", desc := "()V" } : Jvm.MethodName)) ∈ gw_N0 := gw_in (List.mem_append_right _ (gw_tm (i := 50) rfl))
set_option maxRecDepth 20000 in
theorem mw293 : (Cond.instanceMethod ({ cls := "java/util/AbstractCollection", name := "<init>", desc := "()V" } : Jvm.MethodName)) ∈ gw_N0 := gw_in (List.mem_append_right _ (gw_tm (i := 51) rfl))
set_option maxRecDepth 20000 in
theorem mw294 : (Cond.fieldLink "java/util/AbstractList" (7 : Nat) "java/util/AbstractList" "modCount" "I") ∈ gw_N0 := gw_in (List.mem_append_right _ (gw_tm (i := 58) rfl))
set_option maxRecDepth 20000 in
theorem mw295 : (Cond.code ({ cls := "java/util/AbstractList", name := "<init>", desc := "()V" } : Jvm.MethodName) prog_18_method_1_code (1 : Nat) (Option.none : Option Jvm.ClassFile.FieldType)) ∈ gw_N0 := gw_in (List.mem_append_right _ (gw_tm (i := 49) rfl))
set_option maxRecDepth 20000 in
theorem mw296 : (Cond.initialized "java/util/AbstractList") ∈ gw_N0 := gw_in (List.mem_append_right _ (gw_tm (i := 4) rfl))
set_option maxRecDepth 20000 in
theorem mw297 : (Cond.methodLink "java/util/ArrayList" (1 : Nat) ({ cls := "java/util/AbstractList", name := "<init>", desc := "()V" } : Jvm.MethodName)) ∈ gw_N0 := gw_in (List.mem_append_right _ (gw_tm (i := 47) rfl))
set_option maxRecDepth 20000 in
theorem mw298 : (Cond.instanceMethod ({ cls := "java/util/AbstractList", name := "<init>", desc := "()V" } : Jvm.MethodName)) ∈ gw_N0 := gw_in (List.mem_append_right _ (gw_tm (i := 48) rfl))
set_option maxRecDepth 20000 in
theorem mw299 : (Cond.methodLink "Generations" (1 : Nat) ({ cls := "java/lang/Object", name := "<init>", desc := "()V" } : Jvm.MethodName)) ∈ gw_N0 := gw_in (List.mem_append_right _ (gw_tm (i := 24) rfl))
set_option maxRecDepth 20000 in
theorem mw300 : (Cond.classLink "Generations" (7 : Nat) "Generations$Row") ∈ gw_N0 := gw_in (List.mem_append_right _ (gw_tm (i := 27) rfl))
set_option maxRecDepth 20000 in
theorem mw301 : (Cond.instantiable "Generations$Row" (2 : Nat)) ∈ gw_N0 := gw_in (List.mem_append_right _ (gw_tm (i := 28) rfl))
set_option maxRecDepth 20000 in
theorem mw302 : (Cond.code ({ cls := "Generations$Row", name := "<init>", desc := "()V" } : Jvm.MethodName) prog_4_method_1_code (1 : Nat) (Option.none : Option Jvm.ClassFile.FieldType)) ∈ gw_N0 := gw_in (List.mem_append_right _ (gw_tm (i := 31) rfl))
set_option maxRecDepth 20000 in
theorem mw303 : (Cond.methodLinkNest "Generations" (9 : Nat) ({ cls := "Generations$Row", name := "<init>", desc := "()V" } : Jvm.MethodName) "Generations") ∈ gw_N0 := gw_in (List.mem_append_right _ (gw_tm (i := 29) rfl))
set_option maxRecDepth 20000 in
theorem mw304 : (Cond.instanceMethod ({ cls := "Generations$Row", name := "<init>", desc := "()V" } : Jvm.MethodName)) ∈ gw_N0 := gw_in (List.mem_append_right _ (gw_tm (i := 30) rfl))
set_option maxRecDepth 20000 in
theorem mw305 : (Cond.classLink "Generations" (16 : Nat) "java/util/ArrayList") ∈ gw_N0 := gw_in (List.mem_append_right _ (gw_tm (i := 42) rfl))
set_option maxRecDepth 20000 in
theorem mw306 : (Cond.instantiable "java/util/ArrayList" (3 : Nat)) ∈ gw_N0 := gw_in (List.mem_append_right _ (gw_tm (i := 43) rfl))
set_option maxRecDepth 20000 in
theorem mw307 : (Cond.code ({ cls := "java/util/ArrayList", name := "<init>", desc := "()V" } : Jvm.MethodName) prog_19_method_2_code (1 : Nat) (Option.none : Option Jvm.ClassFile.FieldType)) ∈ gw_N0 := gw_in (List.mem_append_right _ (gw_tm (i := 46) rfl))
set_option maxRecDepth 20000 in
theorem mw308 : (Cond.methodLink "Generations" (18 : Nat) ({ cls := "java/util/ArrayList", name := "<init>", desc := "()V" } : Jvm.MethodName)) ∈ gw_N0 := gw_in (List.mem_append_right _ (gw_tm (i := 44) rfl))
set_option maxRecDepth 20000 in
theorem mw309 : (Cond.instanceMethod ({ cls := "java/util/ArrayList", name := "<init>", desc := "()V" } : Jvm.MethodName)) ∈ gw_N0 := gw_in (List.mem_append_right _ (gw_tm (i := 45) rfl))
set_option maxRecDepth 20000 in
theorem mw310 : (Cond.methodLink "Generations" (39 : Nat) ({ cls := "java/lang/Math", name := "min", desc := "(II)I" } : Jvm.MethodName)) ∈ gw_N0 := gw_in (List.mem_append_right _ (gw_tm (i := 95) rfl))
set_option maxRecDepth 20000 in
theorem mw311 : (Cond.methodLink "Generations" (45 : Nat) ({ cls := "java/lang/Math", name := "max", desc := "(II)I" } : Jvm.MethodName)) ∈ gw_N0 := gw_in (List.mem_append_right _ (gw_tm (i := 98) rfl))
set_option maxRecDepth 20000 in
theorem mw312 : (Cond.methodLink "GenerationsModel" (1 : Nat) ({ cls := "java/lang/Object", name := "<init>", desc := "()V" } : Jvm.MethodName)) ∈ gw_N0 := gw_in (List.mem_append_right _ (gw_tm (i := 457) rfl))
