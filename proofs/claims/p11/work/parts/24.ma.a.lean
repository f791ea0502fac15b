abbrev b_Mo_isNumber : ByteArray := prog_6_method_4_code
abbrev y_Mo_isNumber : MethodName := ⟨"GenerationsModel", "isNumber", "(I)Z"⟩
abbrev b_Mo_isAhead : ByteArray := prog_6_method_10_code
abbrev y_Mo_isAhead : MethodName := ⟨"GenerationsModel", "isAhead", "(II)Z"⟩
abbrev b_Mo_fails : ByteArray := prog_6_method_3_code
abbrev y_Mo_fails : MethodName := ⟨"GenerationsModel", "fails", "(Z)Z"⟩
abbrev b_Mo_what : ByteArray := prog_6_method_5_code
abbrev y_Mo_what : MethodName := ⟨"GenerationsModel", "what", "(I)I"⟩
abbrev b_Mo_owner : ByteArray := prog_6_method_6_code
abbrev y_Mo_owner : MethodName := ⟨"GenerationsModel", "owner", "(I)I"⟩
abbrev b_Mo_versionOf : ByteArray := prog_6_method_7_code
abbrev y_Mo_versionOf : MethodName := ⟨"GenerationsModel", "versionOf", "(I)I"⟩
abbrev b_Mo_be : ByteArray := prog_6_method_8_code
abbrev y_Mo_be : MethodName := ⟨"GenerationsModel", "be", "(IIII)V"⟩
abbrev b_Mo_become : ByteArray := prog_6_method_9_code
abbrev y_Mo_become : MethodName := ⟨"GenerationsModel", "become", "(II)V"⟩
set_option maxRecDepth 20000 in
theorem mw222 : (Cond.fieldLink "GenerationsModel" (39 : Nat) "GenerationsModel" "code" "I") ∈ gw_N0 := gw_in (List.mem_append_right _ (gw_tm (i := 458) rfl))
set_option maxRecDepth 20000 in
theorem mw223 : (Cond.fieldLink "GenerationsModel" (7 : Nat) "GenerationsModel" "there" "[I") ∈ gw_N0 := gw_in (List.mem_append_right _ (gw_tm (i := 462) rfl))
set_option maxRecDepth 20000 in
theorem mw224 : (Cond.code ({ cls := "GenerationsModel", name := "owner", desc := "(I)I" } : Jvm.MethodName) prog_6_method_6_code (2 : Nat) (Option.some Jvm.ClassFile.FieldType.int)) ∈ gw_N0 := gw_in (List.mem_append_right _ (gw_tm (i := 529) rfl))
set_option maxRecDepth 20000 in
theorem mw225 : (Cond.methodLink "GenerationsModel" (42 : Nat) ({ cls := "GenerationsModel", name := "owner", desc := "(I)I" } : Jvm.MethodName)) ∈ gw_N0 := gw_in (List.mem_append_right _ (gw_tm (i := 526) rfl))
set_option maxRecDepth 20000 in
theorem mw226 : (Cond.instanceMethod ({ cls := "GenerationsModel", name := "owner", desc := "(I)I" } : Jvm.MethodName)) ∈ gw_N0 := gw_in (List.mem_append_right _ (gw_tm (i := 528) rfl))
set_option maxRecDepth 20000 in
theorem mw227 : (Cond.selects "GenerationsModel" ⟨"GenerationsModel", "owner", "(I)I"⟩ ⟨"GenerationsModel", "owner", "(I)I"⟩) ∈ gw_N0 := gw_in (List.mem_append_left _ (List.mem_of_getElem? (i := 28) rfl))
set_option maxRecDepth 20000 in
theorem mw228 : (Cond.initialized "GenerationsModel") ∈ gw_N0 := gw_in (List.mem_append_right _ (gw_tm (i := 8) rfl))
set_option maxRecDepth 20000 in
theorem mw229 : (Cond.code ({ cls := "GenerationsModel", name := "versionOf", desc := "(I)I" } : Jvm.MethodName) prog_6_method_7_code (2 : Nat) (Option.some Jvm.ClassFile.FieldType.int)) ∈ gw_N0 := gw_in (List.mem_append_right _ (gw_tm (i := 533) rfl))
set_option maxRecDepth 20000 in
theorem mw230 : (Cond.methodLink "GenerationsModel" (46 : Nat) ({ cls := "GenerationsModel", name := "versionOf", desc := "(I)I" } : Jvm.MethodName)) ∈ gw_N0 := gw_in (List.mem_append_right _ (gw_tm (i := 530) rfl))
set_option maxRecDepth 20000 in
theorem mw231 : (Cond.instanceMethod ({ cls := "GenerationsModel", name := "versionOf", desc := "(I)I" } : Jvm.MethodName)) ∈ gw_N0 := gw_in (List.mem_append_right _ (gw_tm (i := 532) rfl))
set_option maxRecDepth 20000 in
theorem mw232 : (Cond.selects "GenerationsModel" ⟨"GenerationsModel", "versionOf", "(I)I"⟩ ⟨"GenerationsModel", "versionOf", "(I)I"⟩) ∈ gw_N0 := gw_in (List.mem_append_left _ (List.mem_of_getElem? (i := 29) rfl))
set_option maxRecDepth 20000 in
theorem mw233 : (Cond.code ({ cls := "GenerationsModel", name := "be", desc := "(IIII)V" } : Jvm.MethodName) prog_6_method_8_code (5 : Nat) (Option.none : Option Jvm.ClassFile.FieldType)) ∈ gw_N0 := gw_in (List.mem_append_right _ (gw_tm (i := 537) rfl))
set_option maxRecDepth 20000 in
theorem mw234 : (Cond.methodLink "GenerationsModel" (49 : Nat) ({ cls := "GenerationsModel", name := "be", desc := "(IIII)V" } : Jvm.MethodName)) ∈ gw_N0 := gw_in (List.mem_append_right _ (gw_tm (i := 534) rfl))
set_option maxRecDepth 20000 in
theorem mw235 : (Cond.instanceMethod ({ cls := "GenerationsModel", name := "be", desc := "(IIII)V" } : Jvm.MethodName)) ∈ gw_N0 := gw_in (List.mem_append_right _ (gw_tm (i := 536) rfl))
set_option maxRecDepth 20000 in
theorem mw236 : (Cond.selects "GenerationsModel" ⟨"GenerationsModel", "be", "(IIII)V"⟩ ⟨"GenerationsModel", "be", "(IIII)V"⟩) ∈ gw_N0 := gw_in (List.mem_append_left _ (List.mem_of_getElem? (i := 30) rfl))
