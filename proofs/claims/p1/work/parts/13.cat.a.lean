abbrev b_X_placeFor : ByteArray := prog_1_method_18_code
abbrev y_X_placeFor : MethodName := ⟨"Generations", "placeFor", "(I)LGenerations$Generation;"⟩
abbrev b_Row_put : ByteArray := prog_4_method_4_code
abbrev y_Row_put : MethodName := ⟨"Generations$Row", "put", "(I)V"⟩
abbrev b_X_holdToLimit : ByteArray := prog_1_method_23_code
abbrev y_X_holdToLimit : MethodName := ⟨"Generations", "holdToLimit", "()V"⟩
abbrev b_X_bringIntoRow : ByteArray := prog_1_method_22_code
abbrev y_X_bringIntoRow : MethodName := ⟨"Generations", "bringIntoRow", "(LGenerations$Generation;)V"⟩
abbrev b_X_catalogue : ByteArray := prog_1_method_2_code
abbrev y_X_catalogue : MethodName := ⟨"Generations", "catalogue", "(I)I"⟩
set_option maxRecDepth 20000 in
theorem mw79 : (Cond.code ({ cls := "Generations", name := "find", desc := "(I)LGenerations$Generation;" } : Jvm.MethodName) prog_1_method_17_code (4 : Nat) (Option.some (Jvm.ClassFile.FieldType.object "Generations$Generation"))) ∈ gw_N0 := gw_in (List.mem_append_right _ (gw_tm (i := 139) rfl))
set_option maxRecDepth 20000 in
theorem mw80 : (Cond.methodLink "Generations" (60 : Nat) ({ cls := "Generations", name := "find", desc := "(I)LGenerations$Generation;" } : Jvm.MethodName)) ∈ gw_N0 := gw_in (List.mem_append_right _ (gw_tm (i := 136) rfl))
set_option maxRecDepth 20000 in
theorem mw81 : (Cond.instanceMethod ({ cls := "Generations", name := "find", desc := "(I)LGenerations$Generation;" } : Jvm.MethodName)) ∈ gw_N0 := gw_in (List.mem_append_right _ (gw_tm (i := 138) rfl))
set_option maxRecDepth 20000 in
theorem mw82 : (Cond.selects "Generations" ⟨"Generations", "find", "(I)LGenerations$Generation;"⟩ ⟨"Generations", "find", "(I)LGenerations$Generation;"⟩) ∈ gw_N0 := gw_in (List.mem_append_left _ (List.mem_of_getElem? (i := 0) rfl))
set_option maxRecDepth 20000 in
theorem mw83 : (Cond.initialized "Generations") ∈ gw_N0 := gw_in (List.mem_append_right _ (gw_tm (i := 1) rfl))
set_option maxRecDepth 20000 in
theorem mw84 : (Cond.fieldLinkNest "Generations" (166 : Nat) "Generations$Generation" "number" "I" "Generations") ∈ gw_N0 := gw_in (List.mem_append_right _ (gw_tm (i := 75) rfl))
set_option maxRecDepth 20000 in
theorem mw85 : (Cond.code ({ cls := "java/util/ArrayList", name := "add", desc := "(Ljava/lang/Object;)Z" } : Jvm.MethodName) prog_19_method_25_code (2 : Nat) (Option.some Jvm.ClassFile.FieldType.boolean)) ∈ gw_N0 := gw_in (List.mem_append_right _ (gw_tm (i := 169) rfl))
set_option maxRecDepth 20000 in
theorem mw86 : (Cond.methodLink "Generations" (96 : Nat) ({ cls := "java/util/ArrayList", name := "add", desc := "(Ljava/lang/Object;)Z" } : Jvm.MethodName)) ∈ gw_N0 := gw_in (List.mem_append_right _ (gw_tm (i := 166) rfl))
set_option maxRecDepth 20000 in
theorem mw87 : (Cond.instanceMethod ({ cls := "java/util/ArrayList", name := "add", desc := "(Ljava/lang/Object;)Z" } : Jvm.MethodName)) ∈ gw_N0 := gw_in (List.mem_append_right _ (gw_tm (i := 167) rfl))
set_option maxRecDepth 20000 in
theorem mw88 : (Cond.selects "java/util/ArrayList" ({ cls := "java/util/ArrayList", name := "add", desc := "(Ljava/lang/Object;)Z" } : Jvm.MethodName) ({ cls := "java/util/ArrayList", name := "add", desc := "(Ljava/lang/Object;)Z" } : Jvm.MethodName)) ∈ gw_N0 := gw_in (List.mem_append_right _ (gw_tm (i := 168) rfl))
set_option maxRecDepth 20000 in
theorem mw89 : (Cond.fieldLink "Generations$Row" (15 : Nat) "Generations$Row" "size" "I") ∈ gw_N0 := gw_in (List.mem_append_right _ (gw_tm (i := 34) rfl))
set_option maxRecDepth 20000 in
theorem mw90 : (Cond.fieldLinkNest "Generations" (81 : Nat) "Generations$Row" "size" "I" "Generations") ∈ gw_N0 := gw_in (List.mem_append_right _ (gw_tm (i := 35) rfl))
set_option maxRecDepth 20000 in
theorem mw91 : (Cond.fieldLinkNest "Generations" (64 : Nat) "Generations$Generation" "state" "I" "Generations") ∈ gw_N0 := gw_in (List.mem_append_right _ (gw_tm (i := 77) rfl))
set_option maxRecDepth 20000 in
theorem mw92 : (Cond.code ({ cls := "Generations$Row", name := "put", desc := "(I)V" } : Jvm.MethodName) prog_4_method_4_code (3 : Nat) (Option.none : Option Jvm.ClassFile.FieldType)) ∈ gw_N0 := gw_in (List.mem_append_right _ (gw_tm (i := 227) rfl))
set_option maxRecDepth 20000 in
theorem mw93 : (Cond.methodLinkNest "Generations" (169 : Nat) ({ cls := "Generations$Row", name := "put", desc := "(I)V" } : Jvm.MethodName) "Generations") ∈ gw_N0 := gw_in (List.mem_append_right _ (gw_tm (i := 224) rfl))
set_option maxRecDepth 20000 in
theorem mw94 : (Cond.instanceMethod ({ cls := "Generations$Row", name := "put", desc := "(I)V" } : Jvm.MethodName)) ∈ gw_N0 := gw_in (List.mem_append_right _ (gw_tm (i := 226) rfl))
set_option maxRecDepth 20000 in
theorem mw95 : (Cond.selects "Generations$Row" ⟨"Generations$Row", "put", "(I)V"⟩ ⟨"Generations$Row", "put", "(I)V"⟩) ∈ gw_N0 := gw_in (List.mem_append_left _ (List.mem_of_getElem? (i := 8) rfl))
set_option maxRecDepth 20000 in
theorem mw96 : (Cond.code ({ cls := "Generations", name := "holdToLimit", desc := "()V" } : Jvm.MethodName) prog_1_method_23_code (3 : Nat) (Option.none : Option Jvm.ClassFile.FieldType)) ∈ gw_N0 := gw_in (List.mem_append_right _ (gw_tm (i := 237) rfl))
set_option maxRecDepth 20000 in
theorem mw97 : (Cond.methodLink "Generations" (172 : Nat) ({ cls := "Generations", name := "holdToLimit", desc := "()V" } : Jvm.MethodName)) ∈ gw_N0 := gw_in (List.mem_append_right _ (gw_tm (i := 234) rfl))
set_option maxRecDepth 20000 in
theorem mw98 : (Cond.instanceMethod ({ cls := "Generations", name := "holdToLimit", desc := "()V" } : Jvm.MethodName)) ∈ gw_N0 := gw_in (List.mem_append_right _ (gw_tm (i := 236) rfl))
set_option maxRecDepth 20000 in
theorem mw99 : (Cond.selects "Generations" ⟨"Generations", "holdToLimit", "()V"⟩ ⟨"Generations", "holdToLimit", "()V"⟩) ∈ gw_N0 := gw_in (List.mem_append_left _ (List.mem_of_getElem? (i := 9) rfl))
set_option maxRecDepth 20000 in
theorem mw100 : (Cond.code ({ cls := "Generations", name := "isNumber", desc := "(I)Z" } : Jvm.MethodName) prog_1_method_15_code (1 : Nat) (Option.some Jvm.ClassFile.FieldType.boolean)) ∈ gw_N0 := gw_in (List.mem_append_right _ (gw_tm (i := 135) rfl))
set_option maxRecDepth 20000 in
theorem mw101 : (Cond.methodLink "Generations" (56 : Nat) ({ cls := "Generations", name := "isNumber", desc := "(I)Z" } : Jvm.MethodName)) ∈ gw_N0 := gw_in (List.mem_append_right _ (gw_tm (i := 133) rfl))
set_option maxRecDepth 20000 in
theorem mw102 : (Cond.static ({ cls := "Generations", name := "isNumber", desc := "(I)Z" } : Jvm.MethodName)) ∈ gw_N0 := gw_in (List.mem_append_right _ (gw_tm (i := 134) rfl))
set_option maxRecDepth 20000 in
theorem mw103 : (Cond.code ({ cls := "Generations$Generation", name := "isDeferred", desc := "()Z" } : Jvm.MethodName) prog_2_method_3_code (1 : Nat) (Option.some Jvm.ClassFile.FieldType.boolean)) ∈ gw_N0 := gw_in (List.mem_append_right _ (gw_tm (i := 161) rfl))
set_option maxRecDepth 20000 in
theorem mw104 : (Cond.methodLinkNest "Generations" (67 : Nat) ({ cls := "Generations$Generation", name := "isDeferred", desc := "()Z" } : Jvm.MethodName) "Generations") ∈ gw_N0 := gw_in (List.mem_append_right _ (gw_tm (i := 158) rfl))
set_option maxRecDepth 20000 in
theorem mw105 : (Cond.instanceMethod ({ cls := "Generations$Generation", name := "isDeferred", desc := "()Z" } : Jvm.MethodName)) ∈ gw_N0 := gw_in (List.mem_append_right _ (gw_tm (i := 160) rfl))
set_option maxRecDepth 20000 in
theorem mw106 : (Cond.selects "Generations$Generation" ⟨"Generations$Generation", "isDeferred", "()Z"⟩ ⟨"Generations$Generation", "isDeferred", "()Z"⟩) ∈ gw_N0 := gw_in (List.mem_append_left _ (List.mem_of_getElem? (i := 1) rfl))
set_option maxRecDepth 20000 in
theorem mw107 : (Cond.code ({ cls := "Generations", name := "placeFor", desc := "(I)LGenerations$Generation;" } : Jvm.MethodName) prog_1_method_18_code (3 : Nat) (Option.some (Jvm.ClassFile.FieldType.object "Generations$Generation"))) ∈ gw_N0 := gw_in (List.mem_append_right _ (gw_tm (i := 165) rfl))
set_option maxRecDepth 20000 in
theorem mw108 : (Cond.methodLink "Generations" (71 : Nat) ({ cls := "Generations", name := "placeFor", desc := "(I)LGenerations$Generation;" } : Jvm.MethodName)) ∈ gw_N0 := gw_in (List.mem_append_right _ (gw_tm (i := 162) rfl))
set_option maxRecDepth 20000 in
theorem mw109 : (Cond.instanceMethod ({ cls := "Generations", name := "placeFor", desc := "(I)LGenerations$Generation;" } : Jvm.MethodName)) ∈ gw_N0 := gw_in (List.mem_append_right _ (gw_tm (i := 164) rfl))
set_option maxRecDepth 20000 in
theorem mw110 : (Cond.selects "Generations" ⟨"Generations", "placeFor", "(I)LGenerations$Generation;"⟩ ⟨"Generations", "placeFor", "(I)LGenerations$Generation;"⟩) ∈ gw_N0 := gw_in (List.mem_append_left _ (List.mem_of_getElem? (i := 2) rfl))
set_option maxRecDepth 20000 in
theorem mw111 : (Cond.code ({ cls := "Generations$Generation", name := "beginAnew", desc := "(I)V" } : Jvm.MethodName) prog_2_method_2_code (2 : Nat) (Option.none : Option Jvm.ClassFile.FieldType)) ∈ gw_N0 := gw_in (List.mem_append_right _ (gw_tm (i := 219) rfl))
set_option maxRecDepth 20000 in
theorem mw112 : (Cond.methodLinkNest "Generations" (74 : Nat) ({ cls := "Generations$Generation", name := "beginAnew", desc := "(I)V" } : Jvm.MethodName) "Generations") ∈ gw_N0 := gw_in (List.mem_append_right _ (gw_tm (i := 216) rfl))
set_option maxRecDepth 20000 in
theorem mw113 : (Cond.instanceMethod ({ cls := "Generations$Generation", name := "beginAnew", desc := "(I)V" } : Jvm.MethodName)) ∈ gw_N0 := gw_in (List.mem_append_right _ (gw_tm (i := 218) rfl))
set_option maxRecDepth 20000 in
theorem mw114 : (Cond.selects "Generations$Generation" ⟨"Generations$Generation", "beginAnew", "(I)V"⟩ ⟨"Generations$Generation", "beginAnew", "(I)V"⟩) ∈ gw_N0 := gw_in (List.mem_append_left _ (List.mem_of_getElem? (i := 6) rfl))
set_option maxRecDepth 20000 in
theorem mw115 : (Cond.code ({ cls := "Generations", name := "bringIntoRow", desc := "(LGenerations$Generation;)V" } : Jvm.MethodName) prog_1_method_22_code (2 : Nat) (Option.none : Option Jvm.ClassFile.FieldType)) ∈ gw_N0 := gw_in (List.mem_append_right _ (gw_tm (i := 223) rfl))
set_option maxRecDepth 20000 in
theorem mw116 : (Cond.methodLink "Generations" (77 : Nat) ({ cls := "Generations", name := "bringIntoRow", desc := "(LGenerations$Generation;)V" } : Jvm.MethodName)) ∈ gw_N0 := gw_in (List.mem_append_right _ (gw_tm (i := 220) rfl))
set_option maxRecDepth 20000 in
theorem mw117 : (Cond.instanceMethod ({ cls := "Generations", name := "bringIntoRow", desc := "(LGenerations$Generation;)V" } : Jvm.MethodName)) ∈ gw_N0 := gw_in (List.mem_append_right _ (gw_tm (i := 222) rfl))
set_option maxRecDepth 20000 in
theorem mw118 : (Cond.selects "Generations" ⟨"Generations", "bringIntoRow", "(LGenerations$Generation;)V"⟩ ⟨"Generations", "bringIntoRow", "(LGenerations$Generation;)V"⟩) ∈ gw_N0 := gw_in (List.mem_append_left _ (List.mem_of_getElem? (i := 7) rfl))
