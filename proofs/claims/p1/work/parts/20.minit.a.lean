abbrev b_Mo_init : ByteArray := prog_6_method_1_code
abbrev y_Mo_init : MethodName := ⟨"GenerationsModel", "<init>", "(II)V"⟩
abbrev b_Mo_thrown : ByteArray := prog_6_method_2_code
abbrev y_Mo_thrown : MethodName := ⟨"GenerationsModel", "thrown", "()I"⟩
abbrev b_Mo_isNumber : ByteArray := prog_6_method_4_code
abbrev y_Mo_isNumber : MethodName := ⟨"GenerationsModel", "isNumber", "(I)Z"⟩
abbrev b_Mo_what : ByteArray := prog_6_method_5_code
abbrev y_Mo_what : MethodName := ⟨"GenerationsModel", "what", "(I)I"⟩
abbrev b_Mo_owner : ByteArray := prog_6_method_6_code
abbrev y_Mo_owner : MethodName := ⟨"GenerationsModel", "owner", "(I)I"⟩
abbrev b_Mo_versionOf : ByteArray := prog_6_method_7_code
abbrev y_Mo_versionOf : MethodName := ⟨"GenerationsModel", "versionOf", "(I)I"⟩
abbrev b_Mo_be : ByteArray := prog_6_method_8_code
abbrev y_Mo_be : MethodName := ⟨"GenerationsModel", "be", "(IIII)V"⟩
abbrev b_Mo_become : ByteArray := prog_6_method_9_code
abbrev y_Mo_become : MethodName := ⟨"GenerationsModel", "become", "(II)V"⟩
abbrev b_Mo_enter : ByteArray := prog_6_method_11_code
abbrev y_Mo_enter : MethodName := ⟨"GenerationsModel", "enter", "(I)V"⟩
abbrev b_Mo_catalogue : ByteArray := prog_6_method_12_code
abbrev y_Mo_catalogue : MethodName := ⟨"GenerationsModel", "catalogue", "(I)I"⟩
set_option maxRecDepth 20000 in
theorem mw154 : (Cond.methodLink "GenerationsModel" (1 : Nat) ({ cls := "java/lang/Object", name := "<init>", desc := "()V" } : Jvm.MethodName)) ∈ gw_N0 := gw_in (List.mem_append_right _ (gw_tm (i := 457) rfl))
set_option maxRecDepth 20000 in
theorem mw155 : (Cond.fieldLink "GenerationsModel" (7 : Nat) "GenerationsModel" "there" "[I") ∈ gw_N0 := gw_in (List.mem_append_right _ (gw_tm (i := 462) rfl))
set_option maxRecDepth 20000 in
theorem mw156 : (Cond.fieldLink "GenerationsModel" (13 : Nat) "GenerationsModel" "row" "[I") ∈ gw_N0 := gw_in (List.mem_append_right _ (gw_tm (i := 463) rfl))
set_option maxRecDepth 20000 in
theorem mw157 : (Cond.fieldLink "GenerationsModel" (16 : Nat) "GenerationsModel" "found" "[I") ∈ gw_N0 := gw_in (List.mem_append_right _ (gw_tm (i := 465) rfl))
set_option maxRecDepth 20000 in
theorem mw158 : (Cond.fieldLink "GenerationsModel" (19 : Nat) "GenerationsModel" "foundSize" "[I") ∈ gw_N0 := gw_in (List.mem_append_right _ (gw_tm (i := 466) rfl))
set_option maxRecDepth 20000 in
theorem mw159 : (Cond.fieldLink "GenerationsModel" (22 : Nat) "GenerationsModel" "ends" "[I") ∈ gw_N0 := gw_in (List.mem_append_right _ (gw_tm (i := 467) rfl))
set_option maxRecDepth 20000 in
theorem mw160 : (Cond.fieldLink "GenerationsModel" (25 : Nat) "GenerationsModel" "made" "[I") ∈ gw_N0 := gw_in (List.mem_append_right _ (gw_tm (i := 468) rfl))
set_option maxRecDepth 20000 in
theorem mw161 : (Cond.fieldLink "GenerationsModel" (28 : Nat) "GenerationsModel" "drops" "[I") ∈ gw_N0 := gw_in (List.mem_append_right _ (gw_tm (i := 471) rfl))
set_option maxRecDepth 20000 in
theorem mw162 : (Cond.fieldLink "GenerationsModel" (31 : Nat) "GenerationsModel" "limit" "I") ∈ gw_N0 := gw_in (List.mem_append_right _ (gw_tm (i := 459) rfl))
set_option maxRecDepth 20000 in
theorem mw163 : (Cond.fieldLink "GenerationsModel" (35 : Nat) "GenerationsModel" "scratch" "Z") ∈ gw_N0 := gw_in (List.mem_append_right _ (gw_tm (i := 460) rfl))
set_option maxRecDepth 20000 in
theorem mw164 : (Cond.fieldLink "GenerationsModel" (39 : Nat) "GenerationsModel" "code" "I") ∈ gw_N0 := gw_in (List.mem_append_right _ (gw_tm (i := 458) rfl))
set_option maxRecDepth 20000 in
theorem mw165 : (Cond.code ({ cls := "GenerationsModel", name := "owner", desc := "(I)I" } : Jvm.MethodName) prog_6_method_6_code (2 : Nat) (Option.some Jvm.ClassFile.FieldType.int)) ∈ gw_N0 := gw_in (List.mem_append_right _ (gw_tm (i := 533) rfl))
set_option maxRecDepth 20000 in
theorem mw166 : (Cond.methodLink "GenerationsModel" (42 : Nat) ({ cls := "GenerationsModel", name := "owner", desc := "(I)I" } : Jvm.MethodName)) ∈ gw_N0 := gw_in (List.mem_append_right _ (gw_tm (i := 530) rfl))
set_option maxRecDepth 20000 in
theorem mw167 : (Cond.instanceMethod ({ cls := "GenerationsModel", name := "owner", desc := "(I)I" } : Jvm.MethodName)) ∈ gw_N0 := gw_in (List.mem_append_right _ (gw_tm (i := 532) rfl))
set_option maxRecDepth 20000 in
theorem mw168 : (Cond.selects "GenerationsModel" ⟨"GenerationsModel", "owner", "(I)I"⟩ ⟨"GenerationsModel", "owner", "(I)I"⟩) ∈ gw_N0 := gw_in (List.mem_append_left _ (List.mem_of_getElem? (i := 28) rfl))
set_option maxRecDepth 20000 in
theorem mw169 : (Cond.initialized "GenerationsModel") ∈ gw_N0 := gw_in (List.mem_append_right _ (gw_tm (i := 8) rfl))
set_option maxRecDepth 20000 in
theorem mw170 : (Cond.code ({ cls := "GenerationsModel", name := "versionOf", desc := "(I)I" } : Jvm.MethodName) prog_6_method_7_code (2 : Nat) (Option.some Jvm.ClassFile.FieldType.int)) ∈ gw_N0 := gw_in (List.mem_append_right _ (gw_tm (i := 537) rfl))
set_option maxRecDepth 20000 in
theorem mw171 : (Cond.methodLink "GenerationsModel" (46 : Nat) ({ cls := "GenerationsModel", name := "versionOf", desc := "(I)I" } : Jvm.MethodName)) ∈ gw_N0 := gw_in (List.mem_append_right _ (gw_tm (i := 534) rfl))
set_option maxRecDepth 20000 in
theorem mw172 : (Cond.instanceMethod ({ cls := "GenerationsModel", name := "versionOf", desc := "(I)I" } : Jvm.MethodName)) ∈ gw_N0 := gw_in (List.mem_append_right _ (gw_tm (i := 536) rfl))
set_option maxRecDepth 20000 in
theorem mw173 : (Cond.selects "GenerationsModel" ⟨"GenerationsModel", "versionOf", "(I)I"⟩ ⟨"GenerationsModel", "versionOf", "(I)I"⟩) ∈ gw_N0 := gw_in (List.mem_append_left _ (List.mem_of_getElem? (i := 29) rfl))
set_option maxRecDepth 20000 in
theorem mw174 : (Cond.code ({ cls := "GenerationsModel", name := "be", desc := "(IIII)V" } : Jvm.MethodName) prog_6_method_8_code (5 : Nat) (Option.none : Option Jvm.ClassFile.FieldType)) ∈ gw_N0 := gw_in (List.mem_append_right _ (gw_tm (i := 541) rfl))
set_option maxRecDepth 20000 in
theorem mw175 : (Cond.methodLink "GenerationsModel" (49 : Nat) ({ cls := "GenerationsModel", name := "be", desc := "(IIII)V" } : Jvm.MethodName)) ∈ gw_N0 := gw_in (List.mem_append_right _ (gw_tm (i := 538) rfl))
set_option maxRecDepth 20000 in
theorem mw176 : (Cond.instanceMethod ({ cls := "GenerationsModel", name := "be", desc := "(IIII)V" } : Jvm.MethodName)) ∈ gw_N0 := gw_in (List.mem_append_right _ (gw_tm (i := 540) rfl))
set_option maxRecDepth 20000 in
theorem mw177 : (Cond.selects "GenerationsModel" ⟨"GenerationsModel", "be", "(IIII)V"⟩ ⟨"GenerationsModel", "be", "(IIII)V"⟩) ∈ gw_N0 := gw_in (List.mem_append_left _ (List.mem_of_getElem? (i := 30) rfl))
set_option maxRecDepth 20000 in
theorem mw178 : (Cond.fieldLink "GenerationsModel" (53 : Nat) "GenerationsModel" "size" "I") ∈ gw_N0 := gw_in (List.mem_append_right _ (gw_tm (i := 464) rfl))
set_option maxRecDepth 20000 in
theorem mw179 : (Cond.code ({ cls := "GenerationsModel", name := "become", desc := "(II)V" } : Jvm.MethodName) prog_6_method_9_code (3 : Nat) (Option.none : Option Jvm.ClassFile.FieldType)) ∈ gw_N0 := gw_in (List.mem_append_right _ (gw_tm (i := 529) rfl))
set_option maxRecDepth 20000 in
theorem mw180 : (Cond.methodLink "GenerationsModel" (60 : Nat) ({ cls := "GenerationsModel", name := "become", desc := "(II)V" } : Jvm.MethodName)) ∈ gw_N0 := gw_in (List.mem_append_right _ (gw_tm (i := 526) rfl))
set_option maxRecDepth 20000 in
theorem mw181 : (Cond.instanceMethod ({ cls := "GenerationsModel", name := "become", desc := "(II)V" } : Jvm.MethodName)) ∈ gw_N0 := gw_in (List.mem_append_right _ (gw_tm (i := 528) rfl))
set_option maxRecDepth 20000 in
theorem mw182 : (Cond.selects "GenerationsModel" ⟨"GenerationsModel", "become", "(II)V"⟩ ⟨"GenerationsModel", "become", "(II)V"⟩) ∈ gw_N0 := gw_in (List.mem_append_left _ (List.mem_of_getElem? (i := 27) rfl))
set_option maxRecDepth 20000 in
theorem mw183 : (Cond.code ({ cls := "GenerationsModel", name := "isNumber", desc := "(I)Z" } : Jvm.MethodName) prog_6_method_4_code (1 : Nat) (Option.some Jvm.ClassFile.FieldType.boolean)) ∈ gw_N0 := gw_in (List.mem_append_right _ (gw_tm (i := 514) rfl))
set_option maxRecDepth 20000 in
theorem mw184 : (Cond.methodLink "GenerationsModel" (70 : Nat) ({ cls := "GenerationsModel", name := "isNumber", desc := "(I)Z" } : Jvm.MethodName)) ∈ gw_N0 := gw_in (List.mem_append_right _ (gw_tm (i := 512) rfl))
set_option maxRecDepth 20000 in
theorem mw185 : (Cond.static ({ cls := "GenerationsModel", name := "isNumber", desc := "(I)Z" } : Jvm.MethodName)) ∈ gw_N0 := gw_in (List.mem_append_right _ (gw_tm (i := 513) rfl))
set_option maxRecDepth 20000 in
theorem mw186 : (Cond.code ({ cls := "GenerationsModel", name := "what", desc := "(I)I" } : Jvm.MethodName) prog_6_method_5_code (2 : Nat) (Option.some Jvm.ClassFile.FieldType.int)) ∈ gw_N0 := gw_in (List.mem_append_right _ (gw_tm (i := 518) rfl))
set_option maxRecDepth 20000 in
theorem mw187 : (Cond.methodLink "GenerationsModel" (74 : Nat) ({ cls := "GenerationsModel", name := "what", desc := "(I)I" } : Jvm.MethodName)) ∈ gw_N0 := gw_in (List.mem_append_right _ (gw_tm (i := 515) rfl))
set_option maxRecDepth 20000 in
theorem mw188 : (Cond.instanceMethod ({ cls := "GenerationsModel", name := "what", desc := "(I)I" } : Jvm.MethodName)) ∈ gw_N0 := gw_in (List.mem_append_right _ (gw_tm (i := 517) rfl))
set_option maxRecDepth 20000 in
theorem mw189 : (Cond.selects "GenerationsModel" ⟨"GenerationsModel", "what", "(I)I"⟩ ⟨"GenerationsModel", "what", "(I)I"⟩) ∈ gw_N0 := gw_in (List.mem_append_left _ (List.mem_of_getElem? (i := 25) rfl))
set_option maxRecDepth 20000 in
theorem mw190 : (Cond.code ({ cls := "GenerationsModel", name := "enter", desc := "(I)V" } : Jvm.MethodName) prog_6_method_11_code (6 : Nat) (Option.none : Option Jvm.ClassFile.FieldType)) ∈ gw_N0 := gw_in (List.mem_append_right _ (gw_tm (i := 522) rfl))
set_option maxRecDepth 20000 in
theorem mw191 : (Cond.methodLink "GenerationsModel" (77 : Nat) ({ cls := "GenerationsModel", name := "enter", desc := "(I)V" } : Jvm.MethodName)) ∈ gw_N0 := gw_in (List.mem_append_right _ (gw_tm (i := 519) rfl))
set_option maxRecDepth 20000 in
theorem mw192 : (Cond.instanceMethod ({ cls := "GenerationsModel", name := "enter", desc := "(I)V" } : Jvm.MethodName)) ∈ gw_N0 := gw_in (List.mem_append_right _ (gw_tm (i := 521) rfl))
set_option maxRecDepth 20000 in
theorem mw193 : (Cond.selects "GenerationsModel" ⟨"GenerationsModel", "enter", "(I)V"⟩ ⟨"GenerationsModel", "enter", "(I)V"⟩) ∈ gw_N0 := gw_in (List.mem_append_left _ (List.mem_of_getElem? (i := 26) rfl))
