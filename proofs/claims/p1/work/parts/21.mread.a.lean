abbrev b_Mo_isJob : ByteArray := prog_6_method_13_code
abbrev y_Mo_isJob : MethodName := ⟨"GenerationsModel", "isJob", "(I)Z"⟩
abbrev b_Mo_job : ByteArray := prog_6_method_14_code
abbrev y_Mo_job : MethodName := ⟨"GenerationsModel", "job", "()I"⟩
abbrev b_Mo_fails : ByteArray := prog_6_method_3_code
abbrev y_Mo_fails : MethodName := ⟨"GenerationsModel", "fails", "(Z)Z"⟩
abbrev b_Mo_relative : ByteArray := prog_6_method_17_code
abbrev y_Mo_relative : MethodName := ⟨"GenerationsModel", "relative", "(II)I"⟩
abbrev b_Mo_make : ByteArray := prog_6_method_18_code
abbrev y_Mo_make : MethodName := ⟨"GenerationsModel", "make", "(II)I"⟩
abbrev b_Mo_end : ByteArray := prog_6_method_20_code
abbrev y_Mo_end : MethodName := ⟨"GenerationsModel", "end", "(IIZ)I"⟩
abbrev b_Mo_restart : ByteArray := prog_6_method_21_code
abbrev y_Mo_restart : MethodName := ⟨"GenerationsModel", "restart", "(II)I"⟩
abbrev b_Mo_dropped : ByteArray := prog_6_method_22_code
abbrev y_Mo_dropped : MethodName := ⟨"GenerationsModel", "dropped", "(I)I"⟩
abbrev b_Mo_list : ByteArray := prog_6_method_23_code
abbrev y_Mo_list : MethodName := ⟨"GenerationsModel", "list", "(I)I"⟩
abbrev b_Mo_reclaim : ByteArray := prog_6_method_24_code
abbrev y_Mo_reclaim : MethodName := ⟨"GenerationsModel", "reclaim", "(I)I"⟩
abbrev b_Mo_empty : ByteArray := prog_6_method_25_code
abbrev y_Mo_empty : MethodName := ⟨"GenerationsModel", "empty", "(Z)I"⟩
abbrev b_Mo_version : ByteArray := prog_6_method_26_code
abbrev y_Mo_version : MethodName := ⟨"GenerationsModel", "version", "(I)I"⟩
abbrev b_Mo_state : ByteArray := prog_6_method_27_code
abbrev y_Mo_state : MethodName := ⟨"GenerationsModel", "state", "(I)I"⟩
abbrev b_Mo_count : ByteArray := prog_6_method_28_code
abbrev y_Mo_count : MethodName := ⟨"GenerationsModel", "count", "(I)I"⟩
set_option maxRecDepth 20000 in
theorem mw194 : (Cond.fieldLink "GenerationsModel" (81 : Nat) "GenerationsModel" "jobs" "I") ∈ gw_N0 := gw_in (List.mem_append_right _ (gw_tm (i := 469) rfl))
set_option maxRecDepth 20000 in
theorem mw195 : (Cond.code ({ cls := "GenerationsModel", name := "isJob", desc := "(I)Z" } : Jvm.MethodName) prog_6_method_13_code (2 : Nat) (Option.some Jvm.ClassFile.FieldType.boolean)) ∈ gw_N0 := gw_in (List.mem_append_right _ (gw_tm (i := 553) rfl))
set_option maxRecDepth 20000 in
theorem mw196 : (Cond.methodLink "GenerationsModel" (84 : Nat) ({ cls := "GenerationsModel", name := "isJob", desc := "(I)Z" } : Jvm.MethodName)) ∈ gw_N0 := gw_in (List.mem_append_right _ (gw_tm (i := 550) rfl))
set_option maxRecDepth 20000 in
theorem mw197 : (Cond.instanceMethod ({ cls := "GenerationsModel", name := "isJob", desc := "(I)Z" } : Jvm.MethodName)) ∈ gw_N0 := gw_in (List.mem_append_right _ (gw_tm (i := 552) rfl))
set_option maxRecDepth 20000 in
theorem mw198 : (Cond.selects "GenerationsModel" ⟨"GenerationsModel", "isJob", "(I)Z"⟩ ⟨"GenerationsModel", "isJob", "(I)Z"⟩) ∈ gw_N0 := gw_in (List.mem_append_left _ (List.mem_of_getElem? (i := 31) rfl))
set_option maxRecDepth 20000 in
theorem mw199 : (Cond.code ({ cls := "GenerationsModel", name := "fails", desc := "(Z)Z" } : Jvm.MethodName) prog_6_method_3_code (2 : Nat) (Option.some Jvm.ClassFile.FieldType.boolean)) ∈ gw_N0 := gw_in (List.mem_append_right _ (gw_tm (i := 557) rfl))
set_option maxRecDepth 20000 in
theorem mw200 : (Cond.methodLink "GenerationsModel" (87 : Nat) ({ cls := "GenerationsModel", name := "fails", desc := "(Z)Z" } : Jvm.MethodName)) ∈ gw_N0 := gw_in (List.mem_append_right _ (gw_tm (i := 554) rfl))
set_option maxRecDepth 20000 in
theorem mw201 : (Cond.instanceMethod ({ cls := "GenerationsModel", name := "fails", desc := "(Z)Z" } : Jvm.MethodName)) ∈ gw_N0 := gw_in (List.mem_append_right _ (gw_tm (i := 556) rfl))
set_option maxRecDepth 20000 in
theorem mw202 : (Cond.selects "GenerationsModel" ⟨"GenerationsModel", "fails", "(Z)Z"⟩ ⟨"GenerationsModel", "fails", "(Z)Z"⟩) ∈ gw_N0 := gw_in (List.mem_append_left _ (List.mem_of_getElem? (i := 32) rfl))
set_option maxRecDepth 20000 in
theorem mw203 : (Cond.fieldLink "GenerationsModel" (67 : Nat) "GenerationsModel" "dropped" "I") ∈ gw_N0 := gw_in (List.mem_append_right _ (gw_tm (i := 472) rfl))
set_option maxRecDepth 20000 in
theorem mw204 : (Cond.fieldLink "GenerationsModel" (64 : Nat) "GenerationsModel" "empties" "Z") ∈ gw_N0 := gw_in (List.mem_append_right _ (gw_tm (i := 461) rfl))
set_option maxRecDepth 20000 in
theorem mw205 : (Cond.fieldLink "GenerationsModel" (98 : Nat) "GenerationsModel" "maker" "I") ∈ gw_N0 := gw_in (List.mem_append_right _ (gw_tm (i := 470) rfl))
