abbrev b_Mo_enter : ByteArray := prog_6_method_11_code
abbrev y_Mo_enter : MethodName := ⟨"GenerationsModel", "enter", "(I)V"⟩
abbrev b_Mo_catalogue : ByteArray := prog_6_method_12_code
abbrev y_Mo_catalogue : MethodName := ⟨"GenerationsModel", "catalogue", "(I)I"⟩
set_option maxRecDepth 20000 in
theorem mw237 : (Cond.fieldLink "GenerationsModel" (53 : Nat) "GenerationsModel" "size" "I") ∈ gw_N0 := gw_in (List.mem_append_right _ (gw_tm (i := 464) rfl))
set_option maxRecDepth 20000 in
theorem mw238 : (Cond.fieldLink "GenerationsModel" (13 : Nat) "GenerationsModel" "row" "[I") ∈ gw_N0 := gw_in (List.mem_append_right _ (gw_tm (i := 463) rfl))
set_option maxRecDepth 20000 in
theorem mw239 : (Cond.code ({ cls := "GenerationsModel", name := "become", desc := "(II)V" } : Jvm.MethodName) prog_6_method_9_code (3 : Nat) (Option.none : Option Jvm.ClassFile.FieldType)) ∈ gw_N0 := gw_in (List.mem_append_right _ (gw_tm (i := 525) rfl))
set_option maxRecDepth 20000 in
theorem mw240 : (Cond.methodLink "GenerationsModel" (60 : Nat) ({ cls := "GenerationsModel", name := "become", desc := "(II)V" } : Jvm.MethodName)) ∈ gw_N0 := gw_in (List.mem_append_right _ (gw_tm (i := 522) rfl))
set_option maxRecDepth 20000 in
theorem mw241 : (Cond.instanceMethod ({ cls := "GenerationsModel", name := "become", desc := "(II)V" } : Jvm.MethodName)) ∈ gw_N0 := gw_in (List.mem_append_right _ (gw_tm (i := 524) rfl))
set_option maxRecDepth 20000 in
theorem mw242 : (Cond.selects "GenerationsModel" ⟨"GenerationsModel", "become", "(II)V"⟩ ⟨"GenerationsModel", "become", "(II)V"⟩) ∈ gw_N0 := gw_in (List.mem_append_left _ (List.mem_of_getElem? (i := 27) rfl))
set_option maxRecDepth 20000 in
theorem mw243 : (Cond.fieldLink "GenerationsModel" (31 : Nat) "GenerationsModel" "limit" "I") ∈ gw_N0 := gw_in (List.mem_append_right _ (gw_tm (i := 459) rfl))
set_option maxRecDepth 20000 in
theorem mw244 : (Cond.fieldLink "GenerationsModel" (64 : Nat) "GenerationsModel" "empties" "Z") ∈ gw_N0 := gw_in (List.mem_append_right _ (gw_tm (i := 461) rfl))
set_option maxRecDepth 20000 in
theorem mw245 : (Cond.fieldLink "GenerationsModel" (35 : Nat) "GenerationsModel" "scratch" "Z") ∈ gw_N0 := gw_in (List.mem_append_right _ (gw_tm (i := 460) rfl))
set_option maxRecDepth 20000 in
theorem mw246 : (Cond.fieldLink "GenerationsModel" (28 : Nat) "GenerationsModel" "drops" "[I") ∈ gw_N0 := gw_in (List.mem_append_right _ (gw_tm (i := 471) rfl))
set_option maxRecDepth 20000 in
theorem mw247 : (Cond.fieldLink "GenerationsModel" (67 : Nat) "GenerationsModel" "dropped" "I") ∈ gw_N0 := gw_in (List.mem_append_right _ (gw_tm (i := 472) rfl))
set_option maxRecDepth 20000 in
theorem mw248 : (Cond.code ({ cls := "GenerationsModel", name := "isAhead", desc := "(II)Z" } : Jvm.MethodName) prog_6_method_10_code (3 : Nat) (Option.some Jvm.ClassFile.FieldType.boolean)) ∈ gw_N0 := gw_in (List.mem_append_right _ (gw_tm (i := 521) rfl))
set_option maxRecDepth 20000 in
theorem mw249 : (Cond.methodLink "GenerationsModel" (56 : Nat) ({ cls := "GenerationsModel", name := "isAhead", desc := "(II)Z" } : Jvm.MethodName)) ∈ gw_N0 := gw_in (List.mem_append_right _ (gw_tm (i := 519) rfl))
set_option maxRecDepth 20000 in
theorem mw250 : (Cond.static ({ cls := "GenerationsModel", name := "isAhead", desc := "(II)Z" } : Jvm.MethodName)) ∈ gw_N0 := gw_in (List.mem_append_right _ (gw_tm (i := 520) rfl))
set_option maxRecDepth 20000 in
theorem mw251 : (Cond.code ({ cls := "GenerationsModel", name := "isNumber", desc := "(I)Z" } : Jvm.MethodName) prog_6_method_4_code (1 : Nat) (Option.some Jvm.ClassFile.FieldType.boolean)) ∈ gw_N0 := gw_in (List.mem_append_right _ (gw_tm (i := 510) rfl))
set_option maxRecDepth 20000 in
theorem mw252 : (Cond.methodLink "GenerationsModel" (70 : Nat) ({ cls := "GenerationsModel", name := "isNumber", desc := "(I)Z" } : Jvm.MethodName)) ∈ gw_N0 := gw_in (List.mem_append_right _ (gw_tm (i := 508) rfl))
set_option maxRecDepth 20000 in
theorem mw253 : (Cond.static ({ cls := "GenerationsModel", name := "isNumber", desc := "(I)Z" } : Jvm.MethodName)) ∈ gw_N0 := gw_in (List.mem_append_right _ (gw_tm (i := 509) rfl))
set_option maxRecDepth 20000 in
theorem mw254 : (Cond.code ({ cls := "GenerationsModel", name := "what", desc := "(I)I" } : Jvm.MethodName) prog_6_method_5_code (2 : Nat) (Option.some Jvm.ClassFile.FieldType.int)) ∈ gw_N0 := gw_in (List.mem_append_right _ (gw_tm (i := 514) rfl))
set_option maxRecDepth 20000 in
theorem mw255 : (Cond.methodLink "GenerationsModel" (74 : Nat) ({ cls := "GenerationsModel", name := "what", desc := "(I)I" } : Jvm.MethodName)) ∈ gw_N0 := gw_in (List.mem_append_right _ (gw_tm (i := 511) rfl))
set_option maxRecDepth 20000 in
theorem mw256 : (Cond.instanceMethod ({ cls := "GenerationsModel", name := "what", desc := "(I)I" } : Jvm.MethodName)) ∈ gw_N0 := gw_in (List.mem_append_right _ (gw_tm (i := 513) rfl))
set_option maxRecDepth 20000 in
theorem mw257 : (Cond.selects "GenerationsModel" ⟨"GenerationsModel", "what", "(I)I"⟩ ⟨"GenerationsModel", "what", "(I)I"⟩) ∈ gw_N0 := gw_in (List.mem_append_left _ (List.mem_of_getElem? (i := 25) rfl))
set_option maxRecDepth 20000 in
theorem mw258 : (Cond.code ({ cls := "GenerationsModel", name := "enter", desc := "(I)V" } : Jvm.MethodName) prog_6_method_11_code (6 : Nat) (Option.none : Option Jvm.ClassFile.FieldType)) ∈ gw_N0 := gw_in (List.mem_append_right _ (gw_tm (i := 518) rfl))
set_option maxRecDepth 20000 in
theorem mw259 : (Cond.methodLink "GenerationsModel" (77 : Nat) ({ cls := "GenerationsModel", name := "enter", desc := "(I)V" } : Jvm.MethodName)) ∈ gw_N0 := gw_in (List.mem_append_right _ (gw_tm (i := 515) rfl))
set_option maxRecDepth 20000 in
theorem mw260 : (Cond.instanceMethod ({ cls := "GenerationsModel", name := "enter", desc := "(I)V" } : Jvm.MethodName)) ∈ gw_N0 := gw_in (List.mem_append_right _ (gw_tm (i := 517) rfl))
set_option maxRecDepth 20000 in
theorem mw261 : (Cond.selects "GenerationsModel" ⟨"GenerationsModel", "enter", "(I)V"⟩ ⟨"GenerationsModel", "enter", "(I)V"⟩) ∈ gw_N0 := gw_in (List.mem_append_left _ (List.mem_of_getElem? (i := 26) rfl))
