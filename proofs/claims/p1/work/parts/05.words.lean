set_option maxRecDepth 20000 in
theorem mw0 : (Cond.methodLink "Generations$Row" (3 : Nat) ({ cls := "java/lang/Object", name := "<init>", desc := "()V" } : Jvm.MethodName)) ∈ gw_N0 := gw_in (List.mem_append_right _ (gw_tm (i := 32) rfl))
set_option maxRecDepth 20000 in
theorem mw1 : (Cond.instanceMethod ({ cls := "java/lang/Object", name := "<init>", desc := "()V" } : Jvm.MethodName)) ∈ gw_N0 := gw_in (List.mem_append_right _ (gw_tm (i := 25) rfl))
set_option maxRecDepth 20000 in
theorem mw2 : (Cond.code ({ cls := "java/lang/Object", name := "<init>", desc := "()V" } : Jvm.MethodName) object_method_1_code (1 : Nat) (Option.none : Option Jvm.ClassFile.FieldType)) ∈ gw_N0 := gw_in (List.mem_append_right _ (gw_tm (i := 26) rfl))
set_option maxRecDepth 20000 in
theorem mw3 : (Cond.arrayClass Jvm.ClassFile.FieldType.int) ∈ gw_N0 := gw_in (List.mem_append_right _ (gw_tm (i := 41) rfl))
set_option maxRecDepth 20000 in
theorem mw4 : (Cond.fieldLink "Generations$Row" (9 : Nat) "Generations$Row" "numbers" "[I") ∈ gw_N0 := gw_in (List.mem_append_right _ (gw_tm (i := 33) rfl))
set_option maxRecDepth 20000 in
theorem mw5 : (Cond.methodLink "java/util/AbstractCollection" (1 : Nat) ({ cls := "java/lang/Object", name := "<init>", desc := "()V" } : Jvm.MethodName)) ∈ gw_N0 := gw_in (List.mem_append_right _ (gw_tm (i := 53) rfl))
set_option maxRecDepth 20000 in
theorem mw6 : (Cond.code ({ cls := "java/util/AbstractCollection", name := "<init>", desc := "()V" } : Jvm.MethodName) prog_17_method_1_code (1 : Nat) (Option.none : Option Jvm.ClassFile.FieldType)) ∈ gw_N0 := gw_in (List.mem_append_right _ (gw_tm (i := 52) rfl))
set_option maxRecDepth 20000 in
theorem mw7 : (Cond.initialized "java/util/AbstractCollection") ∈ gw_N0 := gw_in (List.mem_append_right _ (gw_tm (i := 3) rfl))
set_option maxRecDepth 20000 in
theorem mw8 : (Cond.methodLink "java/util/AbstractList" (1 : Nat) ({ cls := "java/util/AbstractCollection", name := "<init>", desc := "()V" } : Jvm.MethodName)) ∈ gw_N0 := gw_in (List.mem_append_right _ (gw_tm (i := 50) rfl))
set_option maxRecDepth 20000 in
theorem mw9 : (Cond.instanceMethod ({ cls := "java/util/AbstractCollection", name := "<init>", desc := "()V" } : Jvm.MethodName)) ∈ gw_N0 := gw_in (List.mem_append_right _ (gw_tm (i := 51) rfl))
set_option maxRecDepth 20000 in
theorem mw10 : (Cond.fieldLink "java/util/AbstractList" (7 : Nat) "java/util/AbstractList" "modCount" "I") ∈ gw_N0 := gw_in (List.mem_append_right _ (gw_tm (i := 58) rfl))
set_option maxRecDepth 20000 in
theorem mw11 : (Cond.code ({ cls := "java/util/AbstractList", name := "<init>", desc := "()V" } : Jvm.MethodName) prog_18_method_1_code (1 : Nat) (Option.none : Option Jvm.ClassFile.FieldType)) ∈ gw_N0 := gw_in (List.mem_append_right _ (gw_tm (i := 49) rfl))
set_option maxRecDepth 20000 in
theorem mw12 : (Cond.initialized "java/util/AbstractList") ∈ gw_N0 := gw_in (List.mem_append_right _ (gw_tm (i := 4) rfl))
set_option maxRecDepth 20000 in
theorem mw13 : (Cond.methodLink "java/util/ArrayList" (1 : Nat) ({ cls := "java/util/AbstractList", name := "<init>", desc := "()V" } : Jvm.MethodName)) ∈ gw_N0 := gw_in (List.mem_append_right _ (gw_tm (i := 47) rfl))
set_option maxRecDepth 20000 in
theorem mw14 : (Cond.instanceMethod ({ cls := "java/util/AbstractList", name := "<init>", desc := "()V" } : Jvm.MethodName)) ∈ gw_N0 := gw_in (List.mem_append_right _ (gw_tm (i := 48) rfl))
set_option maxRecDepth 20000 in
theorem mw15 : (Cond.fieldLink "java/util/ArrayList" (39 : Nat) "java/util/ArrayList" "DEFAULTCAPACITY_EMPTY_ELEMENTDATA" "[Ljava/lang/Object;") ∈ gw_N0 := gw_in (List.mem_append_right _ (gw_tm (i := 54) rfl))
set_option maxRecDepth 20000 in
theorem mw16 : (Cond.fieldLink "java/util/ArrayList" (9 : Nat) "java/util/ArrayList" "elementData" "[Ljava/lang/Object;") ∈ gw_N0 := gw_in (List.mem_append_right _ (gw_tm (i := 56) rfl))
set_option maxRecDepth 20000 in
theorem mw17 : (Cond.methodLink "Generations$Generation" (3 : Nat) ({ cls := "java/lang/Object", name := "<init>", desc := "()V" } : Jvm.MethodName)) ∈ gw_N0 := gw_in (List.mem_append_right _ (gw_tm (i := 73) rfl))
set_option maxRecDepth 20000 in
theorem mw18 : (Cond.fieldLink "Generations$Generation" (9 : Nat) "Generations$Generation" "state" "I") ∈ gw_N0 := gw_in (List.mem_append_right _ (gw_tm (i := 76) rfl))
set_option maxRecDepth 20000 in
theorem mw19 : (Cond.fieldLink "Generations$Generation" (15 : Nat) "Generations$Generation" "maker" "I") ∈ gw_N0 := gw_in (List.mem_append_right _ (gw_tm (i := 80) rfl))
set_option maxRecDepth 20000 in
theorem mw20 : (Cond.fieldLink "Generations$Generation" (18 : Nat) "Generations$Generation" "number" "I") ∈ gw_N0 := gw_in (List.mem_append_right _ (gw_tm (i := 74) rfl))
set_option maxRecDepth 20000 in
theorem mw21 : (Cond.methodLink "Generations" (1 : Nat) ({ cls := "java/lang/Object", name := "<init>", desc := "()V" } : Jvm.MethodName)) ∈ gw_N0 := gw_in (List.mem_append_right _ (gw_tm (i := 24) rfl))
set_option maxRecDepth 20000 in
theorem mw22 : (Cond.classLink "Generations" (7 : Nat) "Generations$Row") ∈ gw_N0 := gw_in (List.mem_append_right _ (gw_tm (i := 27) rfl))
set_option maxRecDepth 20000 in
theorem mw23 : (Cond.instantiable "Generations$Row" (2 : Nat)) ∈ gw_N0 := gw_in (List.mem_append_right _ (gw_tm (i := 28) rfl))
set_option maxRecDepth 20000 in
theorem mw24 : (Cond.initialized "Generations$Row") ∈ gw_N0 := gw_in (List.mem_append_right _ (gw_tm (i := 2) rfl))
set_option maxRecDepth 20000 in
theorem mw25 : (Cond.code ({ cls := "Generations$Row", name := "<init>", desc := "()V" } : Jvm.MethodName) prog_4_method_1_code (1 : Nat) (Option.none : Option Jvm.ClassFile.FieldType)) ∈ gw_N0 := gw_in (List.mem_append_right _ (gw_tm (i := 31) rfl))
set_option maxRecDepth 20000 in
theorem mw26 : (Cond.methodLinkNest "Generations" (9 : Nat) ({ cls := "Generations$Row", name := "<init>", desc := "()V" } : Jvm.MethodName) "Generations") ∈ gw_N0 := gw_in (List.mem_append_right _ (gw_tm (i := 29) rfl))
set_option maxRecDepth 20000 in
theorem mw27 : (Cond.instanceMethod ({ cls := "Generations$Row", name := "<init>", desc := "()V" } : Jvm.MethodName)) ∈ gw_N0 := gw_in (List.mem_append_right _ (gw_tm (i := 30) rfl))
set_option maxRecDepth 20000 in
theorem mw28 : (Cond.fieldLink "Generations" (10 : Nat) "Generations" "row" "LGenerations$Row;") ∈ gw_N0 := gw_in (List.mem_append_right _ (gw_tm (i := 104) rfl))
set_option maxRecDepth 20000 in
theorem mw29 : (Cond.classLink "Generations" (16 : Nat) "java/util/ArrayList") ∈ gw_N0 := gw_in (List.mem_append_right _ (gw_tm (i := 42) rfl))
set_option maxRecDepth 20000 in
theorem mw30 : (Cond.instantiable "java/util/ArrayList" (3 : Nat)) ∈ gw_N0 := gw_in (List.mem_append_right _ (gw_tm (i := 43) rfl))
set_option maxRecDepth 20000 in
theorem mw31 : (Cond.initialized "java/util/ArrayList") ∈ gw_N0 := gw_in (List.mem_append_right _ (gw_tm (i := 5) rfl))
set_option maxRecDepth 20000 in
theorem mw32 : (Cond.code ({ cls := "java/util/ArrayList", name := "<init>", desc := "()V" } : Jvm.MethodName) prog_19_method_2_code (1 : Nat) (Option.none : Option Jvm.ClassFile.FieldType)) ∈ gw_N0 := gw_in (List.mem_append_right _ (gw_tm (i := 46) rfl))
set_option maxRecDepth 20000 in
theorem mw33 : (Cond.methodLink "Generations" (18 : Nat) ({ cls := "java/util/ArrayList", name := "<init>", desc := "()V" } : Jvm.MethodName)) ∈ gw_N0 := gw_in (List.mem_append_right _ (gw_tm (i := 44) rfl))
set_option maxRecDepth 20000 in
theorem mw34 : (Cond.instanceMethod ({ cls := "java/util/ArrayList", name := "<init>", desc := "()V" } : Jvm.MethodName)) ∈ gw_N0 := gw_in (List.mem_append_right _ (gw_tm (i := 45) rfl))
set_option maxRecDepth 20000 in
theorem mw35 : (Cond.fieldLink "Generations" (19 : Nat) "Generations" "jobs" "Ljava/util/ArrayList;") ∈ gw_N0 := gw_in (List.mem_append_right _ (gw_tm (i := 105) rfl))
set_option maxRecDepth 20000 in
theorem mw36 : (Cond.fieldLink "Generations" (23 : Nat) "Generations" "known" "Ljava/util/ArrayList;") ∈ gw_N0 := gw_in (List.mem_append_right _ (gw_tm (i := 106) rfl))
set_option maxRecDepth 20000 in
theorem mw37 : (Cond.classLink "Generations" (26 : Nat) "Generations$Generation") ∈ gw_N0 := gw_in (List.mem_append_right _ (gw_tm (i := 68) rfl))
set_option maxRecDepth 20000 in
theorem mw38 : (Cond.instantiable "Generations$Generation" (5 : Nat)) ∈ gw_N0 := gw_in (List.mem_append_right _ (gw_tm (i := 69) rfl))
set_option maxRecDepth 20000 in
theorem mw39 : (Cond.initialized "Generations$Generation") ∈ gw_N0 := gw_in (List.mem_append_right _ (gw_tm (i := 6) rfl))
set_option maxRecDepth 20000 in
theorem mw40 : (Cond.code ({ cls := "Generations$Generation", name := "<init>", desc := "(I)V" } : Jvm.MethodName) prog_2_method_1_code (2 : Nat) (Option.none : Option Jvm.ClassFile.FieldType)) ∈ gw_N0 := gw_in (List.mem_append_right _ (gw_tm (i := 72) rfl))
set_option maxRecDepth 20000 in
theorem mw41 : (Cond.methodLinkNest "Generations" (28 : Nat) ({ cls := "Generations$Generation", name := "<init>", desc := "(I)V" } : Jvm.MethodName) "Generations") ∈ gw_N0 := gw_in (List.mem_append_right _ (gw_tm (i := 70) rfl))
set_option maxRecDepth 20000 in
theorem mw42 : (Cond.instanceMethod ({ cls := "Generations$Generation", name := "<init>", desc := "(I)V" } : Jvm.MethodName)) ∈ gw_N0 := gw_in (List.mem_append_right _ (gw_tm (i := 71) rfl))
set_option maxRecDepth 20000 in
theorem mw43 : (Cond.fieldLink "Generations" (31 : Nat) "Generations" "nowhere" "LGenerations$Generation;") ∈ gw_N0 := gw_in (List.mem_append_right _ (gw_tm (i := 107) rfl))
set_option maxRecDepth 20000 in
theorem mw44 : (Cond.fieldLink "Generations" (35 : Nat) "Generations" "gone" "[I") ∈ gw_N0 := gw_in (List.mem_append_right _ (gw_tm (i := 108) rfl))
set_option maxRecDepth 20000 in
theorem mw45 : (Cond.methodLink "Generations" (39 : Nat) ({ cls := "java/lang/Math", name := "min", desc := "(II)I" } : Jvm.MethodName)) ∈ gw_N0 := gw_in (List.mem_append_right _ (gw_tm (i := 95) rfl))
set_option maxRecDepth 20000 in
theorem mw46 : (Cond.static ({ cls := "java/lang/Math", name := "min", desc := "(II)I" } : Jvm.MethodName)) ∈ gw_N0 := gw_in (List.mem_append_right _ (gw_tm (i := 96) rfl))
set_option maxRecDepth 20000 in
theorem mw47 : (Cond.initialized "java/lang/Math") ∈ gw_N0 := gw_in (List.mem_append_right _ (gw_tm (i := 7) rfl))
set_option maxRecDepth 20000 in
theorem mw48 : (Cond.code ({ cls := "java/lang/Math", name := "min", desc := "(II)I" } : Jvm.MethodName) prog_12_method_69_code (2 : Nat) (Option.some Jvm.ClassFile.FieldType.int)) ∈ gw_N0 := gw_in (List.mem_append_right _ (gw_tm (i := 97) rfl))
set_option maxRecDepth 20000 in
theorem mw49 : (Cond.methodLink "Generations" (45 : Nat) ({ cls := "java/lang/Math", name := "max", desc := "(II)I" } : Jvm.MethodName)) ∈ gw_N0 := gw_in (List.mem_append_right _ (gw_tm (i := 98) rfl))
set_option maxRecDepth 20000 in
theorem mw50 : (Cond.static ({ cls := "java/lang/Math", name := "max", desc := "(II)I" } : Jvm.MethodName)) ∈ gw_N0 := gw_in (List.mem_append_right _ (gw_tm (i := 99) rfl))
set_option maxRecDepth 20000 in
theorem mw51 : (Cond.code ({ cls := "java/lang/Math", name := "max", desc := "(II)I" } : Jvm.MethodName) prog_12_method_65_code (2 : Nat) (Option.some Jvm.ClassFile.FieldType.int)) ∈ gw_N0 := gw_in (List.mem_append_right _ (gw_tm (i := 100) rfl))
set_option maxRecDepth 20000 in
theorem mw52 : (Cond.fieldLink "Generations" (48 : Nat) "Generations" "limit" "I") ∈ gw_N0 := gw_in (List.mem_append_right _ (gw_tm (i := 101) rfl))
set_option maxRecDepth 20000 in
theorem mw53 : (Cond.fieldLink "Generations" (52 : Nat) "Generations" "scratches" "Z") ∈ gw_N0 := gw_in (List.mem_append_right _ (gw_tm (i := 102) rfl))
set_option maxRecDepth 20000 in
theorem mw54 : (Cond.fieldLink "java/util/ArrayList" (48 : Nat) "java/util/ArrayList" "size" "I") ∈ gw_N0 := gw_in (List.mem_append_right _ (gw_tm (i := 57) rfl))
set_option maxRecDepth 20000 in
theorem mw55 : (Cond.fieldLink "Generations$Generation" (21 : Nat) "Generations$Generation" "version" "I") ∈ gw_N0 := gw_in (List.mem_append_right _ (gw_tm (i := 78) rfl))
set_option maxRecDepth 20000 in
theorem mw56 : (Cond.fieldLink "Generations$Generation" (24 : Nat) "Generations$Generation" "failedAtEnd" "I") ∈ gw_N0 := gw_in (List.mem_append_right _ (gw_tm (i := 82) rfl))
set_option maxRecDepth 20000 in
theorem mw57 : (Cond.code ({ cls := "java/util/ArrayList", name := "size", desc := "()I" } : Jvm.MethodName) prog_19_method_8_code (1 : Nat) (Option.some Jvm.ClassFile.FieldType.int)) ∈ gw_N0 := gw_in (List.mem_append_right _ (gw_tm (i := 143) rfl))
set_option maxRecDepth 20000 in
theorem mw58 : (Cond.methodLink "Generations" (84 : Nat) ({ cls := "java/util/ArrayList", name := "size", desc := "()I" } : Jvm.MethodName)) ∈ gw_N0 := gw_in (List.mem_append_right _ (gw_tm (i := 140) rfl))
set_option maxRecDepth 20000 in
theorem mw59 : (Cond.instanceMethod ({ cls := "java/util/ArrayList", name := "size", desc := "()I" } : Jvm.MethodName)) ∈ gw_N0 := gw_in (List.mem_append_right _ (gw_tm (i := 141) rfl))
set_option maxRecDepth 20000 in
theorem mw60 : (Cond.selects "java/util/ArrayList" ({ cls := "java/util/ArrayList", name := "size", desc := "()I" } : Jvm.MethodName) ({ cls := "java/util/ArrayList", name := "size", desc := "()I" } : Jvm.MethodName)) ∈ gw_N0 := gw_in (List.mem_append_right _ (gw_tm (i := 142) rfl))
set_option maxRecDepth 20000 in
theorem mw61 : (Cond.methodLink "java/util/ArrayList" (79 : Nat) ({ cls := "java/lang/Math", name := "max", desc := "(II)I" } : Jvm.MethodName)) ∈ gw_N0 := gw_in (List.mem_append_right _ (gw_tm (i := 214) rfl))
set_option maxRecDepth 20000 in
theorem mw62 : (Cond.classLink "java/util/ArrayList" (7 : Nat) "java/lang/Object") ∈ gw_N0 := gw_in (List.mem_append_right _ (gw_tm (i := 215) rfl))
set_option maxRecDepth 20000 in
theorem mw63 : (Cond.code ({ cls := "java/util/ArrayList", name := "grow", desc := "(I)[Ljava/lang/Object;" } : Jvm.MethodName) prog_19_method_6_code (4 : Nat) (Option.some (Jvm.ClassFile.FieldType.array (Jvm.ClassFile.FieldType.object "java/lang/Object")))) ∈ gw_N0 := gw_in (List.mem_append_right _ (gw_tm (i := 181) rfl))
set_option maxRecDepth 20000 in
theorem mw64 : (Cond.methodLink "java/util/ArrayList" (69 : Nat) ({ cls := "java/util/ArrayList", name := "grow", desc := "(I)[Ljava/lang/Object;" } : Jvm.MethodName)) ∈ gw_N0 := gw_in (List.mem_append_right _ (gw_tm (i := 178) rfl))
set_option maxRecDepth 20000 in
theorem mw65 : (Cond.instanceMethod ({ cls := "java/util/ArrayList", name := "grow", desc := "(I)[Ljava/lang/Object;" } : Jvm.MethodName)) ∈ gw_N0 := gw_in (List.mem_append_right _ (gw_tm (i := 180) rfl))
set_option maxRecDepth 20000 in
theorem mw66 : (Cond.selects "java/util/ArrayList" ⟨"java/util/ArrayList", "grow", "(I)[Ljava/lang/Object;"⟩ ⟨"java/util/ArrayList", "grow", "(I)[Ljava/lang/Object;"⟩) ∈ gw_N0 := gw_in (List.mem_append_left _ (List.mem_of_getElem? (i := 5) rfl))
set_option maxRecDepth 20000 in
theorem mw67 : (Cond.code ({ cls := "java/util/ArrayList", name := "grow", desc := "()[Ljava/lang/Object;" } : Jvm.MethodName) prog_19_method_7_code (1 : Nat) (Option.some (Jvm.ClassFile.FieldType.array (Jvm.ClassFile.FieldType.object "java/lang/Object")))) ∈ gw_N0 := gw_in (List.mem_append_right _ (gw_tm (i := 177) rfl))
set_option maxRecDepth 20000 in
theorem mw68 : (Cond.methodLink "java/util/ArrayList" (129 : Nat) ({ cls := "java/util/ArrayList", name := "grow", desc := "()[Ljava/lang/Object;" } : Jvm.MethodName)) ∈ gw_N0 := gw_in (List.mem_append_right _ (gw_tm (i := 174) rfl))
set_option maxRecDepth 20000 in
theorem mw69 : (Cond.instanceMethod ({ cls := "java/util/ArrayList", name := "grow", desc := "()[Ljava/lang/Object;" } : Jvm.MethodName)) ∈ gw_N0 := gw_in (List.mem_append_right _ (gw_tm (i := 176) rfl))
set_option maxRecDepth 20000 in
theorem mw70 : (Cond.selects "java/util/ArrayList" ⟨"java/util/ArrayList", "grow", "()[Ljava/lang/Object;"⟩ ⟨"java/util/ArrayList", "grow", "()[Ljava/lang/Object;"⟩) ∈ gw_N0 := gw_in (List.mem_append_left _ (List.mem_of_getElem? (i := 4) rfl))
set_option maxRecDepth 20000 in
theorem mw71 : (Cond.castable "Generations$Generation" "java/lang/Object") ∈ gw_N0 := gw_in (List.mem_append_right _ (gw_tm (i := 619) rfl))
set_option maxRecDepth 20000 in
theorem mw72 : (Cond.sameField "java/util/ArrayList" "java/util/AbstractList" "modCount" "I") ∈ gw_N0 := gw_in (List.mem_append_right _ (gw_tm (i := 60) rfl))
set_option maxRecDepth 20000 in
theorem mw73 : (Cond.fieldLink "java/util/ArrayList" (63 : Nat) "java/util/ArrayList" "modCount" "I") ∈ gw_N0 := gw_in (List.mem_append_right _ (gw_tm (i := 59) rfl))
set_option maxRecDepth 20000 in
theorem mw74 : (Cond.code ({ cls := "java/util/ArrayList", name := "add", desc := "(Ljava/lang/Object;[Ljava/lang/Object;I)V" } : Jvm.MethodName) prog_19_method_24_code (4 : Nat) (Option.none : Option Jvm.ClassFile.FieldType)) ∈ gw_N0 := gw_in (List.mem_append_right _ (gw_tm (i := 173) rfl))
set_option maxRecDepth 20000 in
theorem mw75 : (Cond.methodLink "java/util/ArrayList" (131 : Nat) ({ cls := "java/util/ArrayList", name := "add", desc := "(Ljava/lang/Object;[Ljava/lang/Object;I)V" } : Jvm.MethodName)) ∈ gw_N0 := gw_in (List.mem_append_right _ (gw_tm (i := 170) rfl))
set_option maxRecDepth 20000 in
theorem mw76 : (Cond.instanceMethod ({ cls := "java/util/ArrayList", name := "add", desc := "(Ljava/lang/Object;[Ljava/lang/Object;I)V" } : Jvm.MethodName)) ∈ gw_N0 := gw_in (List.mem_append_right _ (gw_tm (i := 172) rfl))
set_option maxRecDepth 20000 in
theorem mw77 : (Cond.selects "java/util/ArrayList" ⟨"java/util/ArrayList", "add", "(Ljava/lang/Object;[Ljava/lang/Object;I)V"⟩ ⟨"java/util/ArrayList", "add", "(Ljava/lang/Object;[Ljava/lang/Object;I)V"⟩) ∈ gw_N0 := gw_in (List.mem_append_left _ (List.mem_of_getElem? (i := 3) rfl))
set_option maxRecDepth 20000 in
theorem mw78 : (Cond.castable "Generations$Job" "java/lang/Object") ∈ gw_N0 := gw_in (List.mem_append_right _ (gw_tm (i := 621) rfl))
set_option maxRecDepth 20000 in
theorem mw79 : (Cond.code ({ cls := "Generations", name := "find", desc := "(I)LGenerations$Generation;" } : Jvm.MethodName) prog_1_method_17_code (4 : Nat) (Option.some (Jvm.ClassFile.FieldType.object "Generations$Generation"))) ∈ gw_N0 := gw_in (List.mem_append_right _ (gw_tm (i := 139) rfl))
set_option maxRecDepth 20000 in
theorem mw80 : (Cond.methodLink "Generations" (60 : Nat) ({ cls := "Generations", name := "find", desc := "(I)LGenerations$Generation;" } : Jvm.MethodName)) ∈ gw_N0 := gw_in (List.mem_append_right _ (gw_tm (i := 136) rfl))
set_option maxRecDepth 20000 in
theorem mw81 : (Cond.instanceMethod ({ cls := "Generations", name := "find", desc := "(I)LGenerations$Generation;" } : Jvm.MethodName)) ∈ gw_N0 := gw_in (List.mem_append_right _ (gw_tm (i := 138) rfl))
set_option maxRecDepth 20000 in
theorem mw82 : (Cond.selects "Generations" ⟨"Generations", "find", "(I)LGenerations$Generation;"⟩ ⟨"Generations", "find", "(I)LGenerations$Generation;"⟩) ∈ gw_N0 := gw_in (List.mem_append_left _ (List.mem_of_getElem? (i := 0) rfl))
set_option maxRecDepth 20000 in
theorem mw83 : (Cond.initialized "Generations") ∈ gw_N0 := gw_in (List.mem_append_right _ (gw_tm (i := 1) rfl))
set_option maxRecDepth 20000 in
theorem mw84 : (Cond.fieldLinkNest "Generations" (166 : Nat) "Generations$Generation" "number" "I" "Generations") ∈ gw_N0 := gw_in (List.mem_append_right _ (gw_tm (i := 75) rfl))
set_option maxRecDepth 20000 in
theorem mw85 : (Cond.code ({ cls := "java/util/ArrayList", name := "add", desc := "(Ljava/lang/Object;)Z" } : Jvm.MethodName) prog_19_method_25_code (2 : Nat) (Option.some Jvm.ClassFile.FieldType.boolean)) ∈ gw_N0 := gw_in (List.mem_append_right _ (gw_tm (i := 169) rfl))
set_option maxRecDepth 20000 in
theorem mw86 : (Cond.methodLink "Generations" (96 : Nat) ({ cls := "java/util/ArrayList", name := "add", desc := "(Ljava/lang/Object;)Z" } : Jvm.MethodName)) ∈ gw_N0 := gw_in (List.mem_append_right _ (gw_tm (i := 166) rfl))
set_option maxRecDepth 20000 in
theorem mw87 : (Cond.instanceMethod ({ cls := "java/util/ArrayList", name := "add", desc := "(Ljava/lang/Object;)Z" } : Jvm.MethodName)) ∈ gw_N0 := gw_in (List.mem_append_right _ (gw_tm (i := 167) rfl))
set_option maxRecDepth 20000 in
theorem mw88 : (Cond.selects "java/util/ArrayList" ({ cls := "java/util/ArrayList", name := "add", desc := "(Ljava/lang/Object;)Z" } : Jvm.MethodName) ({ cls := "java/util/ArrayList", name := "add", desc := "(Ljava/lang/Object;)Z" } : Jvm.MethodName)) ∈ gw_N0 := gw_in (List.mem_append_right _ (gw_tm (i := 168) rfl))
set_option maxRecDepth 20000 in
theorem mw89 : (Cond.fieldLink "Generations$Row" (15 : Nat) "Generations$Row" "size" "I") ∈ gw_N0 := gw_in (List.mem_append_right _ (gw_tm (i := 34) rfl))
set_option maxRecDepth 20000 in
theorem mw90 : (Cond.fieldLinkNest "Generations" (81 : Nat) "Generations$Row" "size" "I" "Generations") ∈ gw_N0 := gw_in (List.mem_append_right _ (gw_tm (i := 35) rfl))
set_option maxRecDepth 20000 in
theorem mw91 : (Cond.fieldLinkNest "Generations" (64 : Nat) "Generations$Generation" "state" "I" "Generations") ∈ gw_N0 := gw_in (List.mem_append_right _ (gw_tm (i := 77) rfl))
set_option maxRecDepth 20000 in
theorem mw92 : (Cond.code ({ cls := "Generations$Row", name := "put", desc := "(I)V" } : Jvm.MethodName) prog_4_method_4_code (3 : Nat) (Option.none : Option Jvm.ClassFile.FieldType)) ∈ gw_N0 := gw_in (List.mem_append_right _ (gw_tm (i := 227) rfl))
set_option maxRecDepth 20000 in
theorem mw93 : (Cond.methodLinkNest "Generations" (169 : Nat) ({ cls := "Generations$Row", name := "put", desc := "(I)V" } : Jvm.MethodName) "Generations") ∈ gw_N0 := gw_in (List.mem_append_right _ (gw_tm (i := 224) rfl))
set_option maxRecDepth 20000 in
theorem mw94 : (Cond.instanceMethod ({ cls := "Generations$Row", name := "put", desc := "(I)V" } : Jvm.MethodName)) ∈ gw_N0 := gw_in (List.mem_append_right _ (gw_tm (i := 226) rfl))
set_option maxRecDepth 20000 in
theorem mw95 : (Cond.selects "Generations$Row" ⟨"Generations$Row", "put", "(I)V"⟩ ⟨"Generations$Row", "put", "(I)V"⟩) ∈ gw_N0 := gw_in (List.mem_append_left _ (List.mem_of_getElem? (i := 8) rfl))
set_option maxRecDepth 20000 in
theorem mw96 : (Cond.code ({ cls := "Generations", name := "holdToLimit", desc := "()V" } : Jvm.MethodName) prog_1_method_23_code (3 : Nat) (Option.none : Option Jvm.ClassFile.FieldType)) ∈ gw_N0 := gw_in (List.mem_append_right _ (gw_tm (i := 237) rfl))
set_option maxRecDepth 20000 in
theorem mw97 : (Cond.methodLink "Generations" (172 : Nat) ({ cls := "Generations", name := "holdToLimit", desc := "()V" } : Jvm.MethodName)) ∈ gw_N0 := gw_in (List.mem_append_right _ (gw_tm (i := 234) rfl))
set_option maxRecDepth 20000 in
theorem mw98 : (Cond.instanceMethod ({ cls := "Generations", name := "holdToLimit", desc := "()V" } : Jvm.MethodName)) ∈ gw_N0 := gw_in (List.mem_append_right _ (gw_tm (i := 236) rfl))
set_option maxRecDepth 20000 in
theorem mw99 : (Cond.selects "Generations" ⟨"Generations", "holdToLimit", "()V"⟩ ⟨"Generations", "holdToLimit", "()V"⟩) ∈ gw_N0 := gw_in (List.mem_append_left _ (List.mem_of_getElem? (i := 9) rfl))
set_option maxRecDepth 20000 in
theorem mw100 : (Cond.code ({ cls := "Generations", name := "isNumber", desc := "(I)Z" } : Jvm.MethodName) prog_1_method_15_code (1 : Nat) (Option.some Jvm.ClassFile.FieldType.boolean)) ∈ gw_N0 := gw_in (List.mem_append_right _ (gw_tm (i := 135) rfl))
set_option maxRecDepth 20000 in
theorem mw101 : (Cond.methodLink "Generations" (56 : Nat) ({ cls := "Generations", name := "isNumber", desc := "(I)Z" } : Jvm.MethodName)) ∈ gw_N0 := gw_in (List.mem_append_right _ (gw_tm (i := 133) rfl))
set_option maxRecDepth 20000 in
theorem mw102 : (Cond.static ({ cls := "Generations", name := "isNumber", desc := "(I)Z" } : Jvm.MethodName)) ∈ gw_N0 := gw_in (List.mem_append_right _ (gw_tm (i := 134) rfl))
set_option maxRecDepth 20000 in
theorem mw103 : (Cond.code ({ cls := "Generations$Generation", name := "isDeferred", desc := "()Z" } : Jvm.MethodName) prog_2_method_3_code (1 : Nat) (Option.some Jvm.ClassFile.FieldType.boolean)) ∈ gw_N0 := gw_in (List.mem_append_right _ (gw_tm (i := 161) rfl))
set_option maxRecDepth 20000 in
theorem mw104 : (Cond.methodLinkNest "Generations" (67 : Nat) ({ cls := "Generations$Generation", name := "isDeferred", desc := "()Z" } : Jvm.MethodName) "Generations") ∈ gw_N0 := gw_in (List.mem_append_right _ (gw_tm (i := 158) rfl))
set_option maxRecDepth 20000 in
theorem mw105 : (Cond.instanceMethod ({ cls := "Generations$Generation", name := "isDeferred", desc := "()Z" } : Jvm.MethodName)) ∈ gw_N0 := gw_in (List.mem_append_right _ (gw_tm (i := 160) rfl))
set_option maxRecDepth 20000 in
theorem mw106 : (Cond.selects "Generations$Generation" ⟨"Generations$Generation", "isDeferred", "()Z"⟩ ⟨"Generations$Generation", "isDeferred", "()Z"⟩) ∈ gw_N0 := gw_in (List.mem_append_left _ (List.mem_of_getElem? (i := 1) rfl))
set_option maxRecDepth 20000 in
theorem mw107 : (Cond.code ({ cls := "Generations", name := "placeFor", desc := "(I)LGenerations$Generation;" } : Jvm.MethodName) prog_1_method_18_code (3 : Nat) (Option.some (Jvm.ClassFile.FieldType.object "Generations$Generation"))) ∈ gw_N0 := gw_in (List.mem_append_right _ (gw_tm (i := 165) rfl))
set_option maxRecDepth 20000 in
theorem mw108 : (Cond.methodLink "Generations" (71 : Nat) ({ cls := "Generations", name := "placeFor", desc := "(I)LGenerations$Generation;" } : Jvm.MethodName)) ∈ gw_N0 := gw_in (List.mem_append_right _ (gw_tm (i := 162) rfl))
set_option maxRecDepth 20000 in
theorem mw109 : (Cond.instanceMethod ({ cls := "Generations", name := "placeFor", desc := "(I)LGenerations$Generation;" } : Jvm.MethodName)) ∈ gw_N0 := gw_in (List.mem_append_right _ (gw_tm (i := 164) rfl))
set_option maxRecDepth 20000 in
theorem mw110 : (Cond.selects "Generations" ⟨"Generations", "placeFor", "(I)LGenerations$Generation;"⟩ ⟨"Generations", "placeFor", "(I)LGenerations$Generation;"⟩) ∈ gw_N0 := gw_in (List.mem_append_left _ (List.mem_of_getElem? (i := 2) rfl))
set_option maxRecDepth 20000 in
theorem mw111 : (Cond.code ({ cls := "Generations$Generation", name := "beginAnew", desc := "(I)V" } : Jvm.MethodName) prog_2_method_2_code (2 : Nat) (Option.none : Option Jvm.ClassFile.FieldType)) ∈ gw_N0 := gw_in (List.mem_append_right _ (gw_tm (i := 219) rfl))
set_option maxRecDepth 20000 in
theorem mw112 : (Cond.methodLinkNest "Generations" (74 : Nat) ({ cls := "Generations$Generation", name := "beginAnew", desc := "(I)V" } : Jvm.MethodName) "Generations") ∈ gw_N0 := gw_in (List.mem_append_right _ (gw_tm (i := 216) rfl))
set_option maxRecDepth 20000 in
theorem mw113 : (Cond.instanceMethod ({ cls := "Generations$Generation", name := "beginAnew", desc := "(I)V" } : Jvm.MethodName)) ∈ gw_N0 := gw_in (List.mem_append_right _ (gw_tm (i := 218) rfl))
set_option maxRecDepth 20000 in
theorem mw114 : (Cond.selects "Generations$Generation" ⟨"Generations$Generation", "beginAnew", "(I)V"⟩ ⟨"Generations$Generation", "beginAnew", "(I)V"⟩) ∈ gw_N0 := gw_in (List.mem_append_left _ (List.mem_of_getElem? (i := 6) rfl))
set_option maxRecDepth 20000 in
theorem mw115 : (Cond.code ({ cls := "Generations", name := "bringIntoRow", desc := "(LGenerations$Generation;)V" } : Jvm.MethodName) prog_1_method_22_code (2 : Nat) (Option.none : Option Jvm.ClassFile.FieldType)) ∈ gw_N0 := gw_in (List.mem_append_right _ (gw_tm (i := 223) rfl))
set_option maxRecDepth 20000 in
theorem mw116 : (Cond.methodLink "Generations" (77 : Nat) ({ cls := "Generations", name := "bringIntoRow", desc := "(LGenerations$Generation;)V" } : Jvm.MethodName)) ∈ gw_N0 := gw_in (List.mem_append_right _ (gw_tm (i := 220) rfl))
set_option maxRecDepth 20000 in
theorem mw117 : (Cond.instanceMethod ({ cls := "Generations", name := "bringIntoRow", desc := "(LGenerations$Generation;)V" } : Jvm.MethodName)) ∈ gw_N0 := gw_in (List.mem_append_right _ (gw_tm (i := 222) rfl))
set_option maxRecDepth 20000 in
theorem mw118 : (Cond.selects "Generations" ⟨"Generations", "bringIntoRow", "(LGenerations$Generation;)V"⟩ ⟨"Generations", "bringIntoRow", "(LGenerations$Generation;)V"⟩) ∈ gw_N0 := gw_in (List.mem_append_left _ (List.mem_of_getElem? (i := 7) rfl))
set_option maxRecDepth 20000 in
theorem mw119 : (Cond.methodLink "java/util/Arrays" (304 : Nat) ({ cls := "java/lang/Math", name := "min", desc := "(II)I" } : Jvm.MethodName)) ∈ gw_N0 := gw_in (List.mem_append_right _ (gw_tm (i := 210) rfl))
set_option maxRecDepth 20000 in
theorem mw120 : (Cond.methodLink "java/util/Arrays" (150 : Nat) ({ cls := "java/lang/System", name := "arraycopy", desc := "(Ljava/lang/Object;ILjava/lang/Object;II)V" } : Jvm.MethodName)) ∈ gw_N0 := gw_in (List.mem_append_right _ (gw_tm (i := 211) rfl))
set_option maxRecDepth 20000 in
theorem mw121 : (Cond.native ({ cls := "java/lang/System", name := "arraycopy", desc := "(Ljava/lang/Object;ILjava/lang/Object;II)V" } : Jvm.MethodName)) ∈ gw_N0 := gw_in (List.mem_append_right _ (gw_tm (i := 213) rfl))
set_option maxRecDepth 20000 in
theorem mw122 : (Cond.static ({ cls := "java/lang/System", name := "arraycopy", desc := "(Ljava/lang/Object;ILjava/lang/Object;II)V" } : Jvm.MethodName)) ∈ gw_N0 := gw_in (List.mem_append_right _ (gw_tm (i := 212) rfl))
set_option maxRecDepth 20000 in
theorem mw123 : (Cond.initialized "java/lang/System") ∈ gw_N0 := gw_in (List.mem_append_right _ (gw_tm (i := 13) rfl))
set_option maxRecDepth 20000 in
theorem mw124 : (Cond.code ({ cls := "java/util/Arrays", name := "copyOf", desc := "([II)[I" } : Jvm.MethodName) prog_20_method_123_code (3 : Nat) (Option.some (Jvm.ClassFile.FieldType.array Jvm.ClassFile.FieldType.int))) ∈ gw_N0 := gw_in (List.mem_append_right _ (gw_tm (i := 263) rfl))
set_option maxRecDepth 20000 in
theorem mw125 : (Cond.methodLink "Generations$Row" (19 : Nat) ({ cls := "java/util/Arrays", name := "copyOf", desc := "([II)[I" } : Jvm.MethodName)) ∈ gw_N0 := gw_in (List.mem_append_right _ (gw_tm (i := 261) rfl))
set_option maxRecDepth 20000 in
theorem mw126 : (Cond.static ({ cls := "java/util/Arrays", name := "copyOf", desc := "([II)[I" } : Jvm.MethodName)) ∈ gw_N0 := gw_in (List.mem_append_right _ (gw_tm (i := 262) rfl))
set_option maxRecDepth 20000 in
theorem mw127 : (Cond.initialized "java/util/Arrays") ∈ gw_N0 := gw_in (List.mem_append_right _ (gw_tm (i := 12) rfl))
set_option maxRecDepth 20000 in
theorem mw128 : (Cond.methodLink "Generations$Job" (3 : Nat) ({ cls := "java/lang/Object", name := "<init>", desc := "()V" } : Jvm.MethodName)) ∈ gw_N0 := gw_in (List.mem_append_right _ (gw_tm (i := 274) rfl))
set_option maxRecDepth 20000 in
theorem mw129 : (Cond.fieldLink "Generations$Job" (9 : Nat) "Generations$Job" "rowThen" "[I") ∈ gw_N0 := gw_in (List.mem_append_right _ (gw_tm (i := 275) rfl))
set_option maxRecDepth 20000 in
theorem mw130 : (Cond.classLink "Generations" (87 : Nat) "Generations$Job") ∈ gw_N0 := gw_in (List.mem_append_right _ (gw_tm (i := 255) rfl))
set_option maxRecDepth 20000 in
theorem mw131 : (Cond.instantiable "Generations$Job" (2 : Nat)) ∈ gw_N0 := gw_in (List.mem_append_right _ (gw_tm (i := 256) rfl))
set_option maxRecDepth 20000 in
theorem mw132 : (Cond.initialized "Generations$Job") ∈ gw_N0 := gw_in (List.mem_append_right _ (gw_tm (i := 14) rfl))
set_option maxRecDepth 20000 in
theorem mw133 : (Cond.code ({ cls := "Generations$Row", name := "copy", desc := "()[I" } : Jvm.MethodName) prog_4_method_3_code (1 : Nat) (Option.some (Jvm.ClassFile.FieldType.array Jvm.ClassFile.FieldType.int))) ∈ gw_N0 := gw_in (List.mem_append_right _ (gw_tm (i := 260) rfl))
set_option maxRecDepth 20000 in
theorem mw134 : (Cond.methodLinkNest "Generations" (89 : Nat) ({ cls := "Generations$Row", name := "copy", desc := "()[I" } : Jvm.MethodName) "Generations") ∈ gw_N0 := gw_in (List.mem_append_right _ (gw_tm (i := 257) rfl))
set_option maxRecDepth 20000 in
theorem mw135 : (Cond.instanceMethod ({ cls := "Generations$Row", name := "copy", desc := "()[I" } : Jvm.MethodName)) ∈ gw_N0 := gw_in (List.mem_append_right _ (gw_tm (i := 259) rfl))
set_option maxRecDepth 20000 in
theorem mw136 : (Cond.selects "Generations$Row" ⟨"Generations$Row", "copy", "()[I"⟩ ⟨"Generations$Row", "copy", "()[I"⟩) ∈ gw_N0 := gw_in (List.mem_append_left _ (List.mem_of_getElem? (i := 13) rfl))
set_option maxRecDepth 20000 in
theorem mw137 : (Cond.code ({ cls := "Generations$Job", name := "<init>", desc := "([I)V" } : Jvm.MethodName) prog_3_method_1_code (2 : Nat) (Option.none : Option Jvm.ClassFile.FieldType)) ∈ gw_N0 := gw_in (List.mem_append_right _ (gw_tm (i := 273) rfl))
set_option maxRecDepth 20000 in
theorem mw138 : (Cond.methodLinkNest "Generations" (93 : Nat) ({ cls := "Generations$Job", name := "<init>", desc := "([I)V" } : Jvm.MethodName) "Generations") ∈ gw_N0 := gw_in (List.mem_append_right _ (gw_tm (i := 271) rfl))
set_option maxRecDepth 20000 in
theorem mw139 : (Cond.instanceMethod ({ cls := "Generations$Job", name := "<init>", desc := "([I)V" } : Jvm.MethodName)) ∈ gw_N0 := gw_in (List.mem_append_right _ (gw_tm (i := 272) rfl))
set_option maxRecDepth 20000 in
theorem mw140 : (Cond.fieldLink "Generations" (138 : Nat) "Generations" "goneCount" "I") ∈ gw_N0 := gw_in (List.mem_append_right _ (gw_tm (i := 109) rfl))
set_option maxRecDepth 20000 in
theorem mw141 : (Cond.code ({ cls := "Generations$Row", name := "at", desc := "(I)I" } : Jvm.MethodName) prog_4_method_2_code (2 : Nat) (Option.some Jvm.ClassFile.FieldType.int)) ∈ gw_N0 := gw_in (List.mem_append_right _ (gw_tm (i := 241) rfl))
set_option maxRecDepth 20000 in
theorem mw142 : (Cond.methodLinkNest "Generations" (149 : Nat) ({ cls := "Generations$Row", name := "at", desc := "(I)I" } : Jvm.MethodName) "Generations") ∈ gw_N0 := gw_in (List.mem_append_right _ (gw_tm (i := 238) rfl))
set_option maxRecDepth 20000 in
theorem mw143 : (Cond.instanceMethod ({ cls := "Generations$Row", name := "at", desc := "(I)I" } : Jvm.MethodName)) ∈ gw_N0 := gw_in (List.mem_append_right _ (gw_tm (i := 240) rfl))
set_option maxRecDepth 20000 in
theorem mw144 : (Cond.selects "Generations$Row" ⟨"Generations$Row", "at", "(I)I"⟩ ⟨"Generations$Row", "at", "(I)I"⟩) ∈ gw_N0 := gw_in (List.mem_append_left _ (List.mem_of_getElem? (i := 10) rfl))
set_option maxRecDepth 20000 in
theorem mw145 : (Cond.fieldLink "Generations" (155 : Nat) "Generations" "emptyRule" "Z") ∈ gw_N0 := gw_in (List.mem_append_right _ (gw_tm (i := 103) rfl))
set_option maxRecDepth 20000 in
theorem mw146 : (Cond.code ({ cls := "Generations", name := "howManyAre", desc := "(I)I" } : Jvm.MethodName) prog_1_method_19_code (4 : Nat) (Option.some Jvm.ClassFile.FieldType.int)) ∈ gw_N0 := gw_in (List.mem_append_right _ (gw_tm (i := 313) rfl))
set_option maxRecDepth 20000 in
theorem mw147 : (Cond.methodLink "Generations" (158 : Nat) ({ cls := "Generations", name := "howManyAre", desc := "(I)I" } : Jvm.MethodName)) ∈ gw_N0 := gw_in (List.mem_append_right _ (gw_tm (i := 310) rfl))
set_option maxRecDepth 20000 in
theorem mw148 : (Cond.instanceMethod ({ cls := "Generations", name := "howManyAre", desc := "(I)I" } : Jvm.MethodName)) ∈ gw_N0 := gw_in (List.mem_append_right _ (gw_tm (i := 312) rfl))
set_option maxRecDepth 20000 in
theorem mw149 : (Cond.selects "Generations" ⟨"Generations", "howManyAre", "(I)I"⟩ ⟨"Generations", "howManyAre", "(I)I"⟩) ∈ gw_N0 := gw_in (List.mem_append_left _ (List.mem_of_getElem? (i := 14) rfl))
set_option maxRecDepth 20000 in
theorem mw150 : (Cond.code ({ cls := "Generations", name := "jobThatMakes", desc := "()I" } : Jvm.MethodName) prog_1_method_20_code (3 : Nat) (Option.some Jvm.ClassFile.FieldType.int)) ∈ gw_N0 := gw_in (List.mem_append_right _ (gw_tm (i := 317) rfl))
set_option maxRecDepth 20000 in
theorem mw151 : (Cond.methodLink "Generations" (161 : Nat) ({ cls := "Generations", name := "jobThatMakes", desc := "()I" } : Jvm.MethodName)) ∈ gw_N0 := gw_in (List.mem_append_right _ (gw_tm (i := 314) rfl))
set_option maxRecDepth 20000 in
theorem mw152 : (Cond.instanceMethod ({ cls := "Generations", name := "jobThatMakes", desc := "()I" } : Jvm.MethodName)) ∈ gw_N0 := gw_in (List.mem_append_right _ (gw_tm (i := 316) rfl))
set_option maxRecDepth 20000 in
theorem mw153 : (Cond.selects "Generations" ⟨"Generations", "jobThatMakes", "()I"⟩ ⟨"Generations", "jobThatMakes", "()I"⟩) ∈ gw_N0 := gw_in (List.mem_append_left _ (List.mem_of_getElem? (i := 15) rfl))
