abbrev b_Row_init : ByteArray := prog_4_method_1_code
abbrev y_Row_init : MethodName := ⟨"Generations$Row", "<init>", "()V"⟩
abbrev b_AC_init : ByteArray := prog_17_method_1_code
abbrev y_AC_init : MethodName := ⟨"java/util/AbstractCollection", "<init>", "()V"⟩
abbrev b_AbL_init : ByteArray := prog_18_method_1_code
abbrev y_AbL_init : MethodName := ⟨"java/util/AbstractList", "<init>", "()V"⟩
abbrev b_AL_init : ByteArray := prog_19_method_2_code
abbrev y_AL_init : MethodName := ⟨"java/util/ArrayList", "<init>", "()V"⟩
abbrev b_Gen_init : ByteArray := prog_2_method_1_code
abbrev y_Gen_init : MethodName := ⟨"Generations$Generation", "<init>", "(I)V"⟩
abbrev b_X_init : ByteArray := prog_1_method_1_code
abbrev y_X_init : MethodName := ⟨"Generations", "<init>", "(II)V"⟩
set_option maxRecDepth 20000 in
theorem mw0 : (Cond.methodLink "Generations$Row" (3 : Nat) ({ cls := "java/lang/Object", name := "<init>", desc := "()V" } : Jvm.MethodName)) ∈ gw_N0 := gw_in (List.mem_append_right _ (gw_tm (i := 32) rfl))
set_option maxRecDepth 20000 in
theorem mw1 : (Cond.instanceMethod ({ cls := "java/lang/Object", name := "<init>", desc := "()V" } : Jvm.MethodName)) ∈ gw_N0 := gw_in (List.mem_append_right _ (gw_tm (i := 25) rfl))
set_option maxRecDepth 20000 in
theorem mw2 : (Cond.code ({ cls := "java/lang/Object", name := "<init>", desc := "()V" } : Jvm.MethodName) object_method_1_code (1 : Nat) (Option.none : Option Jvm.ClassFile.FieldType)) ∈ gw_N0 := gw_in (List.mem_append_right _ (gw_tm (i := 26) rfl))
set_option maxRecDepth 20000 in
theorem mw3 : (Cond.arrayClass Jvm.ClassFile.FieldType.int) ∈ gw_N0 := gw_in (List.mem_append_right _ (gw_tm (i := 41) rfl))
set_option maxRecDepth 20000 in
theorem mw4 : (Cond.fieldLink "Generations$Row" (9 : Nat) "Generations$Row" "numbers" "[I") ∈ gw_N0 := gw_in (List.mem_append_right _ (gw_tm (i := 33) rfl))
set_option maxRecDepth 20000 in
theorem mw5 : (Cond.methodLink "java/util/AbstractCollection" (1 : Nat) ({ cls := "java/lang/Object", name := "<init>", desc := "()V" } : Jvm.MethodName)) ∈ gw_N0 := gw_in (List.mem_append_right _ (gw_tm (i := 53) rfl))
set_option maxRecDepth 20000 in
theorem mw6 : (Cond.code ({ cls := "java/util/AbstractCollection", name := "<init>", desc := "()V" } : Jvm.MethodName) prog_17_method_1_code (1 : Nat) (Option.none : Option Jvm.ClassFile.FieldType)) ∈ gw_N0 := gw_in (List.mem_append_right _ (gw_tm (i := 52) rfl))
set_option maxRecDepth 20000 in
theorem mw7 : (Cond.initialized "java/util/AbstractCollection") ∈ gw_N0 := gw_in (List.mem_append_right _ (gw_tm (i := 3) rfl))
set_option maxRecDepth 20000 in
theorem mw8 : (Cond.methodLink "java/util/AbstractList" (1 : Nat) ({ cls := "java/util/AbstractCollection", name := "<init>", desc := "()V" } : Jvm.MethodName)) ∈ gw_N0 := gw_in (List.mem_append_right _ (gw_tm (i := 50) rfl))
set_option maxRecDepth 20000 in
theorem mw9 : (Cond.instanceMethod ({ cls := "java/util/AbstractCollection", name := "<init>", desc := "()V" } : Jvm.MethodName)) ∈ gw_N0 := gw_in (List.mem_append_right _ (gw_tm (i := 51) rfl))
set_option maxRecDepth 20000 in
theorem mw10 : (Cond.fieldLink "java/util/AbstractList" (7 : Nat) "java/util/AbstractList" "modCount" "I") ∈ gw_N0 := gw_in (List.mem_append_right _ (gw_tm (i := 58) rfl))
set_option maxRecDepth 20000 in
theorem mw11 : (Cond.code ({ cls := "java/util/AbstractList", name := "<init>", desc := "()V" } : Jvm.MethodName) prog_18_method_1_code (1 : Nat) (Option.none : Option Jvm.ClassFile.FieldType)) ∈ gw_N0 := gw_in (List.mem_append_right _ (gw_tm (i := 49) rfl))
set_option maxRecDepth 20000 in
theorem mw12 : (Cond.initialized "java/util/AbstractList") ∈ gw_N0 := gw_in (List.mem_append_right _ (gw_tm (i := 4) rfl))
set_option maxRecDepth 20000 in
theorem mw13 : (Cond.methodLink "java/util/ArrayList" (1 : Nat) ({ cls := "java/util/AbstractList", name := "<init>", desc := "()V" } : Jvm.MethodName)) ∈ gw_N0 := gw_in (List.mem_append_right _ (gw_tm (i := 47) rfl))
set_option maxRecDepth 20000 in
theorem mw14 : (Cond.instanceMethod ({ cls := "java/util/AbstractList", name := "<init>", desc := "()V" } : Jvm.MethodName)) ∈ gw_N0 := gw_in (List.mem_append_right _ (gw_tm (i := 48) rfl))
set_option maxRecDepth 20000 in
theorem mw15 : (Cond.fieldLink "java/util/ArrayList" (39 : Nat) "java/util/ArrayList" "DEFAULTCAPACITY_EMPTY_ELEMENTDATA" "[Ljava/lang/Object;") ∈ gw_N0 := gw_in (List.mem_append_right _ (gw_tm (i := 54) rfl))
set_option maxRecDepth 20000 in
theorem mw16 : (Cond.fieldLink "java/util/ArrayList" (9 : Nat) "java/util/ArrayList" "elementData" "[Ljava/lang/Object;") ∈ gw_N0 := gw_in (List.mem_append_right _ (gw_tm (i := 56) rfl))
set_option maxRecDepth 20000 in
theorem mw17 : (Cond.methodLink "Generations$Generation" (3 : Nat) ({ cls := "java/lang/Object", name := "<init>", desc := "()V" } : Jvm.MethodName)) ∈ gw_N0 := gw_in (List.mem_append_right _ (gw_tm (i := 73) rfl))
set_option maxRecDepth 20000 in
theorem mw18 : (Cond.fieldLink "Generations$Generation" (9 : Nat) "Generations$Generation" "state" "I") ∈ gw_N0 := gw_in (List.mem_append_right _ (gw_tm (i := 76) rfl))
set_option maxRecDepth 20000 in
theorem mw19 : (Cond.fieldLink "Generations$Generation" (15 : Nat) "Generations$Generation" "maker" "I") ∈ gw_N0 := gw_in (List.mem_append_right _ (gw_tm (i := 80) rfl))
set_option maxRecDepth 20000 in
theorem mw20 : (Cond.fieldLink "Generations$Generation" (18 : Nat) "Generations$Generation" "number" "I") ∈ gw_N0 := gw_in (List.mem_append_right _ (gw_tm (i := 74) rfl))
set_option maxRecDepth 20000 in
theorem mw21 : (Cond.methodLink "Generations" (1 : Nat) ({ cls := "java/lang/Object", name := "<init>", desc := "()V" } : Jvm.MethodName)) ∈ gw_N0 := gw_in (List.mem_append_right _ (gw_tm (i := 24) rfl))
set_option maxRecDepth 20000 in
theorem mw22 : (Cond.classLink "Generations" (7 : Nat) "Generations$Row") ∈ gw_N0 := gw_in (List.mem_append_right _ (gw_tm (i := 27) rfl))
set_option maxRecDepth 20000 in
theorem mw23 : (Cond.instantiable "Generations$Row" (2 : Nat)) ∈ gw_N0 := gw_in (List.mem_append_right _ (gw_tm (i := 28) rfl))
set_option maxRecDepth 20000 in
theorem mw24 : (Cond.initialized "Generations$Row") ∈ gw_N0 := gw_in (List.mem_append_right _ (gw_tm (i := 2) rfl))
set_option maxRecDepth 20000 in
theorem mw25 : (Cond.code ({ cls := "Generations$Row", name := "<init>", desc := "()V" } : Jvm.MethodName) prog_4_method_1_code (1 : Nat) (Option.none : Option Jvm.ClassFile.FieldType)) ∈ gw_N0 := gw_in (List.mem_append_right _ (gw_tm (i := 31) rfl))
set_option maxRecDepth 20000 in
theorem mw26 : (Cond.methodLinkNest "Generations" (9 : Nat) ({ cls := "Generations$Row", name := "<init>", desc := "()V" } : Jvm.MethodName) "Generations") ∈ gw_N0 := gw_in (List.mem_append_right _ (gw_tm (i := 29) rfl))
set_option maxRecDepth 20000 in
theorem mw27 : (Cond.instanceMethod ({ cls := "Generations$Row", name := "<init>", desc := "()V" } : Jvm.MethodName)) ∈ gw_N0 := gw_in (List.mem_append_right _ (gw_tm (i := 30) rfl))
set_option maxRecDepth 20000 in
theorem mw28 : (Cond.fieldLink "Generations" (10 : Nat) "Generations" "row" "LGenerations$Row;") ∈ gw_N0 := gw_in (List.mem_append_right _ (gw_tm (i := 104) rfl))
set_option maxRecDepth 20000 in
theorem mw29 : (Cond.classLink "Generations" (16 : Nat) "java/util/ArrayList") ∈ gw_N0 := gw_in (List.mem_append_right _ (gw_tm (i := 42) rfl))
set_option maxRecDepth 20000 in
theorem mw30 : (Cond.instantiable "java/util/ArrayList" (3 : Nat)) ∈ gw_N0 := gw_in (List.mem_append_right _ (gw_tm (i := 43) rfl))
set_option maxRecDepth 20000 in
theorem mw31 : (Cond.initialized "java/util/ArrayList") ∈ gw_N0 := gw_in (List.mem_append_right _ (gw_tm (i := 5) rfl))
set_option maxRecDepth 20000 in
theorem mw32 : (Cond.code ({ cls := "java/util/ArrayList", name := "<init>", desc := "()V" } : Jvm.MethodName) prog_19_method_2_code (1 : Nat) (Option.none : Option Jvm.ClassFile.FieldType)) ∈ gw_N0 := gw_in (List.mem_append_right _ (gw_tm (i := 46) rfl))
set_option maxRecDepth 20000 in
theorem mw33 : (Cond.methodLink "Generations" (18 : Nat) ({ cls := "java/util/ArrayList", name := "<init>", desc := "()V" } : Jvm.MethodName)) ∈ gw_N0 := gw_in (List.mem_append_right _ (gw_tm (i := 44) rfl))
set_option maxRecDepth 20000 in
theorem mw34 : (Cond.instanceMethod ({ cls := "java/util/ArrayList", name := "<init>", desc := "()V" } : Jvm.MethodName)) ∈ gw_N0 := gw_in (List.mem_append_right _ (gw_tm (i := 45) rfl))
set_option maxRecDepth 20000 in
theorem mw35 : (Cond.fieldLink "Generations" (19 : Nat) "Generations" "jobs" "Ljava/util/ArrayList;") ∈ gw_N0 := gw_in (List.mem_append_right _ (gw_tm (i := 105) rfl))
set_option maxRecDepth 20000 in
theorem mw36 : (Cond.fieldLink "Generations" (23 : Nat) "Generations" "known" "Ljava/util/ArrayList;") ∈ gw_N0 := gw_in (List.mem_append_right _ (gw_tm (i := 106) rfl))
set_option maxRecDepth 20000 in
theorem mw37 : (Cond.classLink "Generations" (26 : Nat) "Generations$Generation") ∈ gw_N0 := gw_in (List.mem_append_right _ (gw_tm (i := 68) rfl))
set_option maxRecDepth 20000 in
theorem mw38 : (Cond.instantiable "Generations$Generation" (5 : Nat)) ∈ gw_N0 := gw_in (List.mem_append_right _ (gw_tm (i := 69) rfl))
set_option maxRecDepth 20000 in
theorem mw39 : (Cond.initialized "Generations$Generation") ∈ gw_N0 := gw_in (List.mem_append_right _ (gw_tm (i := 6) rfl))
set_option maxRecDepth 20000 in
theorem mw40 : (Cond.code ({ cls := "Generations$Generation", name := "<init>", desc := "(I)V" } : Jvm.MethodName) prog_2_method_1_code (2 : Nat) (Option.none : Option Jvm.ClassFile.FieldType)) ∈ gw_N0 := gw_in (List.mem_append_right _ (gw_tm (i := 72) rfl))
set_option maxRecDepth 20000 in
theorem mw41 : (Cond.methodLinkNest "Generations" (28 : Nat) ({ cls := "Generations$Generation", name := "<init>", desc := "(I)V" } : Jvm.MethodName) "Generations") ∈ gw_N0 := gw_in (List.mem_append_right _ (gw_tm (i := 70) rfl))
set_option maxRecDepth 20000 in
theorem mw42 : (Cond.instanceMethod ({ cls := "Generations$Generation", name := "<init>", desc := "(I)V" } : Jvm.MethodName)) ∈ gw_N0 := gw_in (List.mem_append_right _ (gw_tm (i := 71) rfl))
set_option maxRecDepth 20000 in
theorem mw43 : (Cond.fieldLink "Generations" (31 : Nat) "Generations" "nowhere" "LGenerations$Generation;") ∈ gw_N0 := gw_in (List.mem_append_right _ (gw_tm (i := 107) rfl))
set_option maxRecDepth 20000 in
theorem mw44 : (Cond.fieldLink "Generations" (35 : Nat) "Generations" "gone" "[I") ∈ gw_N0 := gw_in (List.mem_append_right _ (gw_tm (i := 108) rfl))
set_option maxRecDepth 20000 in
theorem mw45 : (Cond.methodLink "Generations" (39 : Nat) ({ cls := "java/lang/Math", name := "min", desc := "(II)I" } : Jvm.MethodName)) ∈ gw_N0 := gw_in (List.mem_append_right _ (gw_tm (i := 95) rfl))
set_option maxRecDepth 20000 in
theorem mw46 : (Cond.static ({ cls := "java/lang/Math", name := "min", desc := "(II)I" } : Jvm.MethodName)) ∈ gw_N0 := gw_in (List.mem_append_right _ (gw_tm (i := 96) rfl))
set_option maxRecDepth 20000 in
theorem mw47 : (Cond.initialized "java/lang/Math") ∈ gw_N0 := gw_in (List.mem_append_right _ (gw_tm (i := 7) rfl))
set_option maxRecDepth 20000 in
theorem mw48 : (Cond.code ({ cls := "java/lang/Math", name := "min", desc := "(II)I" } : Jvm.MethodName) prog_12_method_69_code (2 : Nat) (Option.some Jvm.ClassFile.FieldType.int)) ∈ gw_N0 := gw_in (List.mem_append_right _ (gw_tm (i := 97) rfl))
set_option maxRecDepth 20000 in
theorem mw49 : (Cond.methodLink "Generations" (45 : Nat) ({ cls := "java/lang/Math", name := "max", desc := "(II)I" } : Jvm.MethodName)) ∈ gw_N0 := gw_in (List.mem_append_right _ (gw_tm (i := 98) rfl))
set_option maxRecDepth 20000 in
theorem mw50 : (Cond.static ({ cls := "java/lang/Math", name := "max", desc := "(II)I" } : Jvm.MethodName)) ∈ gw_N0 := gw_in (List.mem_append_right _ (gw_tm (i := 99) rfl))
set_option maxRecDepth 20000 in
theorem mw51 : (Cond.code ({ cls := "java/lang/Math", name := "max", desc := "(II)I" } : Jvm.MethodName) prog_12_method_65_code (2 : Nat) (Option.some Jvm.ClassFile.FieldType.int)) ∈ gw_N0 := gw_in (List.mem_append_right _ (gw_tm (i := 100) rfl))
set_option maxRecDepth 20000 in
theorem mw52 : (Cond.fieldLink "Generations" (48 : Nat) "Generations" "limit" "I") ∈ gw_N0 := gw_in (List.mem_append_right _ (gw_tm (i := 101) rfl))
set_option maxRecDepth 20000 in
theorem mw53 : (Cond.fieldLink "Generations" (52 : Nat) "Generations" "scratches" "Z") ∈ gw_N0 := gw_in (List.mem_append_right _ (gw_tm (i := 102) rfl))
