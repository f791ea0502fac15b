abbrev b_X_holdToLimit : ByteArray := prog_1_method_23_code
abbrev y_X_holdToLimit : MethodName := ⟨"Generations", "holdToLimit", "()V"⟩
abbrev b_X_bringIntoRow : ByteArray := prog_1_method_22_code
abbrev y_X_bringIntoRow : MethodName := ⟨"Generations", "bringIntoRow", "(LGenerations$Generation;)V"⟩
abbrev b_X_placeFor : ByteArray := prog_1_method_18_code
abbrev y_X_placeFor : MethodName := ⟨"Generations", "placeFor", "(I)LGenerations$Generation;"⟩
abbrev b_X_catalogue : ByteArray := prog_1_method_2_code
abbrev y_X_catalogue : MethodName := ⟨"Generations", "catalogue", "(I)I"⟩
abbrev b_X_reclaim : ByteArray := prog_1_method_10_code
abbrev y_X_reclaim : MethodName := ⟨"Generations", "reclaim", "(I)I"⟩
abbrev b_X_empty : ByteArray := prog_1_method_11_code
abbrev y_X_empty : MethodName := ⟨"Generations", "empty", "(Z)I"⟩
set_option maxRecDepth 20000 in
theorem mw136 : (Cond.fieldLink "Generations" (48 : Nat) "Generations" "limit" "I") ∈ gw_N0 := gw_in (List.mem_append_right _ (gw_tm (i := 101) rfl))
set_option maxRecDepth 20000 in
theorem mw137 : (Cond.fieldLink "Generations" (155 : Nat) "Generations" "emptyRule" "Z") ∈ gw_N0 := gw_in (List.mem_append_right _ (gw_tm (i := 103) rfl))
set_option maxRecDepth 20000 in
theorem mw138 : (Cond.code ({ cls := "Generations$Row", name := "removeOldest", desc := "(I)V" } : Jvm.MethodName) prog_4_method_5_code (3 : Nat) (Option.none : Option Jvm.ClassFile.FieldType)) ∈ gw_N0 := gw_in (List.mem_append_right _ (gw_tm (i := 249) rfl))
set_option maxRecDepth 20000 in
theorem mw139 : (Cond.methodLinkNest "Generations" (178 : Nat) ({ cls := "Generations$Row", name := "removeOldest", desc := "(I)V" } : Jvm.MethodName) "Generations") ∈ gw_N0 := gw_in (List.mem_append_right _ (gw_tm (i := 246) rfl))
set_option maxRecDepth 20000 in
theorem mw140 : (Cond.instanceMethod ({ cls := "Generations$Row", name := "removeOldest", desc := "(I)V" } : Jvm.MethodName)) ∈ gw_N0 := gw_in (List.mem_append_right _ (gw_tm (i := 248) rfl))
set_option maxRecDepth 20000 in
theorem mw141 : (Cond.selects "Generations$Row" ⟨"Generations$Row", "removeOldest", "(I)V"⟩ ⟨"Generations$Row", "removeOldest", "(I)V"⟩) ∈ gw_N0 := gw_in (List.mem_append_left _ (List.mem_of_getElem? (i := 12) rfl))
set_option maxRecDepth 20000 in
theorem mw142 : (Cond.code ({ cls := "Generations", name := "letGo", desc := "(I)V" } : Jvm.MethodName) prog_1_method_24_code (3 : Nat) (Option.none : Option Jvm.ClassFile.FieldType)) ∈ gw_N0 := gw_in (List.mem_append_right _ (gw_tm (i := 245) rfl))
set_option maxRecDepth 20000 in
theorem mw143 : (Cond.methodLink "Generations" (175 : Nat) ({ cls := "Generations", name := "letGo", desc := "(I)V" } : Jvm.MethodName)) ∈ gw_N0 := gw_in (List.mem_append_right _ (gw_tm (i := 242) rfl))
set_option maxRecDepth 20000 in
theorem mw144 : (Cond.instanceMethod ({ cls := "Generations", name := "letGo", desc := "(I)V" } : Jvm.MethodName)) ∈ gw_N0 := gw_in (List.mem_append_right _ (gw_tm (i := 244) rfl))
set_option maxRecDepth 20000 in
theorem mw145 : (Cond.selects "Generations" ⟨"Generations", "letGo", "(I)V"⟩ ⟨"Generations", "letGo", "(I)V"⟩) ∈ gw_N0 := gw_in (List.mem_append_left _ (List.mem_of_getElem? (i := 11) rfl))
set_option maxRecDepth 20000 in
theorem mw146 : (Cond.code ({ cls := "Generations$Row", name := "put", desc := "(I)V" } : Jvm.MethodName) prog_4_method_4_code (3 : Nat) (Option.none : Option Jvm.ClassFile.FieldType)) ∈ gw_N0 := gw_in (List.mem_append_right _ (gw_tm (i := 227) rfl))
set_option maxRecDepth 20000 in
theorem mw147 : (Cond.methodLinkNest "Generations" (169 : Nat) ({ cls := "Generations$Row", name := "put", desc := "(I)V" } : Jvm.MethodName) "Generations") ∈ gw_N0 := gw_in (List.mem_append_right _ (gw_tm (i := 224) rfl))
set_option maxRecDepth 20000 in
theorem mw148 : (Cond.instanceMethod ({ cls := "Generations$Row", name := "put", desc := "(I)V" } : Jvm.MethodName)) ∈ gw_N0 := gw_in (List.mem_append_right _ (gw_tm (i := 226) rfl))
set_option maxRecDepth 20000 in
theorem mw149 : (Cond.selects "Generations$Row" ⟨"Generations$Row", "put", "(I)V"⟩ ⟨"Generations$Row", "put", "(I)V"⟩) ∈ gw_N0 := gw_in (List.mem_append_left _ (List.mem_of_getElem? (i := 8) rfl))
set_option maxRecDepth 20000 in
theorem mw150 : (Cond.code ({ cls := "Generations", name := "holdToLimit", desc := "()V" } : Jvm.MethodName) prog_1_method_23_code (3 : Nat) (Option.none : Option Jvm.ClassFile.FieldType)) ∈ gw_N0 := gw_in (List.mem_append_right _ (gw_tm (i := 237) rfl))
set_option maxRecDepth 20000 in
theorem mw151 : (Cond.methodLink "Generations" (172 : Nat) ({ cls := "Generations", name := "holdToLimit", desc := "()V" } : Jvm.MethodName)) ∈ gw_N0 := gw_in (List.mem_append_right _ (gw_tm (i := 234) rfl))
set_option maxRecDepth 20000 in
theorem mw152 : (Cond.instanceMethod ({ cls := "Generations", name := "holdToLimit", desc := "()V" } : Jvm.MethodName)) ∈ gw_N0 := gw_in (List.mem_append_right _ (gw_tm (i := 236) rfl))
set_option maxRecDepth 20000 in
theorem mw153 : (Cond.selects "Generations" ⟨"Generations", "holdToLimit", "()V"⟩ ⟨"Generations", "holdToLimit", "()V"⟩) ∈ gw_N0 := gw_in (List.mem_append_left _ (List.mem_of_getElem? (i := 9) rfl))
set_option maxRecDepth 20000 in
theorem mw154 : (Cond.instantiable "Generations$Generation" (5 : Nat)) ∈ gw_N0 := gw_in (List.mem_append_right _ (gw_tm (i := 69) rfl))
set_option maxRecDepth 20000 in
theorem mw155 : (Cond.code ({ cls := "Generations$Generation", name := "<init>", desc := "(I)V" } : Jvm.MethodName) prog_2_method_1_code (2 : Nat) (Option.none : Option Jvm.ClassFile.FieldType)) ∈ gw_N0 := gw_in (List.mem_append_right _ (gw_tm (i := 72) rfl))
set_option maxRecDepth 20000 in
theorem mw156 : (Cond.methodLinkNest "Generations" (28 : Nat) ({ cls := "Generations$Generation", name := "<init>", desc := "(I)V" } : Jvm.MethodName) "Generations") ∈ gw_N0 := gw_in (List.mem_append_right _ (gw_tm (i := 70) rfl))
set_option maxRecDepth 20000 in
theorem mw157 : (Cond.instanceMethod ({ cls := "Generations$Generation", name := "<init>", desc := "(I)V" } : Jvm.MethodName)) ∈ gw_N0 := gw_in (List.mem_append_right _ (gw_tm (i := 71) rfl))
set_option maxRecDepth 20000 in
theorem mw158 : (Cond.code ({ cls := "java/util/ArrayList", name := "add", desc := "(Ljava/lang/Object;)Z" } : Jvm.MethodName) prog_19_method_25_code (2 : Nat) (Option.some Jvm.ClassFile.FieldType.boolean)) ∈ gw_N0 := gw_in (List.mem_append_right _ (gw_tm (i := 169) rfl))
set_option maxRecDepth 20000 in
theorem mw159 : (Cond.methodLink "Generations" (96 : Nat) ({ cls := "java/util/ArrayList", name := "add", desc := "(Ljava/lang/Object;)Z" } : Jvm.MethodName)) ∈ gw_N0 := gw_in (List.mem_append_right _ (gw_tm (i := 166) rfl))
set_option maxRecDepth 20000 in
theorem mw160 : (Cond.instanceMethod ({ cls := "java/util/ArrayList", name := "add", desc := "(Ljava/lang/Object;)Z" } : Jvm.MethodName)) ∈ gw_N0 := gw_in (List.mem_append_right _ (gw_tm (i := 167) rfl))
set_option maxRecDepth 20000 in
theorem mw161 : (Cond.selects "java/util/ArrayList" ({ cls := "java/util/ArrayList", name := "add", desc := "(Ljava/lang/Object;)Z" } : Jvm.MethodName) ({ cls := "java/util/ArrayList", name := "add", desc := "(Ljava/lang/Object;)Z" } : Jvm.MethodName)) ∈ gw_N0 := gw_in (List.mem_append_right _ (gw_tm (i := 168) rfl))
set_option maxRecDepth 20000 in
theorem mw162 : (Cond.methodLinkNest "Generations" (67 : Nat) ({ cls := "Generations$Generation", name := "isDeferred", desc := "()Z" } : Jvm.MethodName) "Generations") ∈ gw_N0 := gw_in (List.mem_append_right _ (gw_tm (i := 158) rfl))
set_option maxRecDepth 20000 in
theorem mw163 : (Cond.code ({ cls := "Generations", name := "bringIntoRow", desc := "(LGenerations$Generation;)V" } : Jvm.MethodName) prog_1_method_22_code (2 : Nat) (Option.none : Option Jvm.ClassFile.FieldType)) ∈ gw_N0 := gw_in (List.mem_append_right _ (gw_tm (i := 223) rfl))
set_option maxRecDepth 20000 in
theorem mw164 : (Cond.methodLink "Generations" (77 : Nat) ({ cls := "Generations", name := "bringIntoRow", desc := "(LGenerations$Generation;)V" } : Jvm.MethodName)) ∈ gw_N0 := gw_in (List.mem_append_right _ (gw_tm (i := 220) rfl))
set_option maxRecDepth 20000 in
theorem mw165 : (Cond.instanceMethod ({ cls := "Generations", name := "bringIntoRow", desc := "(LGenerations$Generation;)V" } : Jvm.MethodName)) ∈ gw_N0 := gw_in (List.mem_append_right _ (gw_tm (i := 222) rfl))
set_option maxRecDepth 20000 in
theorem mw166 : (Cond.selects "Generations" ⟨"Generations", "bringIntoRow", "(LGenerations$Generation;)V"⟩ ⟨"Generations", "bringIntoRow", "(LGenerations$Generation;)V"⟩) ∈ gw_N0 := gw_in (List.mem_append_left _ (List.mem_of_getElem? (i := 7) rfl))
set_option maxRecDepth 20000 in
theorem mw167 : (Cond.code ({ cls := "Generations", name := "placeFor", desc := "(I)LGenerations$Generation;" } : Jvm.MethodName) prog_1_method_18_code (3 : Nat) (Option.some (Jvm.ClassFile.FieldType.object "Generations$Generation"))) ∈ gw_N0 := gw_in (List.mem_append_right _ (gw_tm (i := 165) rfl))
set_option maxRecDepth 20000 in
theorem mw168 : (Cond.methodLink "Generations" (71 : Nat) ({ cls := "Generations", name := "placeFor", desc := "(I)LGenerations$Generation;" } : Jvm.MethodName)) ∈ gw_N0 := gw_in (List.mem_append_right _ (gw_tm (i := 162) rfl))
set_option maxRecDepth 20000 in
theorem mw169 : (Cond.instanceMethod ({ cls := "Generations", name := "placeFor", desc := "(I)LGenerations$Generation;" } : Jvm.MethodName)) ∈ gw_N0 := gw_in (List.mem_append_right _ (gw_tm (i := 164) rfl))
set_option maxRecDepth 20000 in
theorem mw170 : (Cond.selects "Generations" ⟨"Generations", "placeFor", "(I)LGenerations$Generation;"⟩ ⟨"Generations", "placeFor", "(I)LGenerations$Generation;"⟩) ∈ gw_N0 := gw_in (List.mem_append_left _ (List.mem_of_getElem? (i := 2) rfl))
set_option maxRecDepth 20000 in
theorem mw171 : (Cond.code ({ cls := "Generations$Generation", name := "beginAnew", desc := "(I)V" } : Jvm.MethodName) prog_2_method_2_code (2 : Nat) (Option.none : Option Jvm.ClassFile.FieldType)) ∈ gw_N0 := gw_in (List.mem_append_right _ (gw_tm (i := 219) rfl))
set_option maxRecDepth 20000 in
theorem mw172 : (Cond.methodLinkNest "Generations" (74 : Nat) ({ cls := "Generations$Generation", name := "beginAnew", desc := "(I)V" } : Jvm.MethodName) "Generations") ∈ gw_N0 := gw_in (List.mem_append_right _ (gw_tm (i := 216) rfl))
set_option maxRecDepth 20000 in
theorem mw173 : (Cond.instanceMethod ({ cls := "Generations$Generation", name := "beginAnew", desc := "(I)V" } : Jvm.MethodName)) ∈ gw_N0 := gw_in (List.mem_append_right _ (gw_tm (i := 218) rfl))
set_option maxRecDepth 20000 in
theorem mw174 : (Cond.selects "Generations$Generation" ⟨"Generations$Generation", "beginAnew", "(I)V"⟩ ⟨"Generations$Generation", "beginAnew", "(I)V"⟩) ∈ gw_N0 := gw_in (List.mem_append_left _ (List.mem_of_getElem? (i := 6) rfl))
