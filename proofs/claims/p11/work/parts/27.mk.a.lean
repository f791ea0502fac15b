abbrev b_Mo_relative : ByteArray := prog_6_method_17_code
abbrev y_Mo_relative : MethodName := ⟨"GenerationsModel", "relative", "(II)I"⟩
abbrev b_Mo_make : ByteArray := prog_6_method_18_code
abbrev y_Mo_make : MethodName := ⟨"GenerationsModel", "make", "(II)I"⟩
abbrev b_Mo_settle : ByteArray := prog_6_method_19_code
abbrev y_Mo_settle : MethodName := ⟨"GenerationsModel", "settle", "()V"⟩
abbrev b_Mo_end : ByteArray := prog_6_method_20_code
abbrev y_Mo_end : MethodName := ⟨"GenerationsModel", "end", "(IIZ)I"⟩
abbrev b_Mo_restart : ByteArray := prog_6_method_21_code
abbrev y_Mo_restart : MethodName := ⟨"GenerationsModel", "restart", "(II)I"⟩
set_option maxRecDepth 20000 in
theorem mw265 : (Cond.code ({ cls := "GenerationsModel", name := "isJob", desc := "(I)Z" } : Jvm.MethodName) prog_6_method_13_code (2 : Nat) (Option.some Jvm.ClassFile.FieldType.boolean)) ∈ gw_N0 := gw_in (List.mem_append_right _ (gw_tm (i := 549) rfl))
set_option maxRecDepth 20000 in
theorem mw266 : (Cond.methodLink "GenerationsModel" (84 : Nat) ({ cls := "GenerationsModel", name := "isJob", desc := "(I)Z" } : Jvm.MethodName)) ∈ gw_N0 := gw_in (List.mem_append_right _ (gw_tm (i := 546) rfl))
set_option maxRecDepth 20000 in
theorem mw267 : (Cond.instanceMethod ({ cls := "GenerationsModel", name := "isJob", desc := "(I)Z" } : Jvm.MethodName)) ∈ gw_N0 := gw_in (List.mem_append_right _ (gw_tm (i := 548) rfl))
set_option maxRecDepth 20000 in
theorem mw268 : (Cond.selects "GenerationsModel" ⟨"GenerationsModel", "isJob", "(I)Z"⟩ ⟨"GenerationsModel", "isJob", "(I)Z"⟩) ∈ gw_N0 := gw_in (List.mem_append_left _ (List.mem_of_getElem? (i := 31) rfl))
set_option maxRecDepth 20000 in
theorem mw269 : (Cond.code ({ cls := "GenerationsModel", name := "fails", desc := "(Z)Z" } : Jvm.MethodName) prog_6_method_3_code (2 : Nat) (Option.some Jvm.ClassFile.FieldType.boolean)) ∈ gw_N0 := gw_in (List.mem_append_right _ (gw_tm (i := 553) rfl))
set_option maxRecDepth 20000 in
theorem mw270 : (Cond.methodLink "GenerationsModel" (87 : Nat) ({ cls := "GenerationsModel", name := "fails", desc := "(Z)Z" } : Jvm.MethodName)) ∈ gw_N0 := gw_in (List.mem_append_right _ (gw_tm (i := 550) rfl))
set_option maxRecDepth 20000 in
theorem mw271 : (Cond.instanceMethod ({ cls := "GenerationsModel", name := "fails", desc := "(Z)Z" } : Jvm.MethodName)) ∈ gw_N0 := gw_in (List.mem_append_right _ (gw_tm (i := 552) rfl))
set_option maxRecDepth 20000 in
theorem mw272 : (Cond.selects "GenerationsModel" ⟨"GenerationsModel", "fails", "(Z)Z"⟩ ⟨"GenerationsModel", "fails", "(Z)Z"⟩) ∈ gw_N0 := gw_in (List.mem_append_left _ (List.mem_of_getElem? (i := 32) rfl))
set_option maxRecDepth 20000 in
theorem mw273 : (Cond.fieldLink "GenerationsModel" (25 : Nat) "GenerationsModel" "made" "[I") ∈ gw_N0 := gw_in (List.mem_append_right _ (gw_tm (i := 468) rfl))
set_option maxRecDepth 20000 in
theorem mw274 : (Cond.code ({ cls := "GenerationsModel", name := "numberOf", desc := "(II)I" } : Jvm.MethodName) prog_6_method_15_code (4 : Nat) (Option.some Jvm.ClassFile.FieldType.int)) ∈ gw_N0 := gw_in (List.mem_append_right _ (gw_tm (i := 557) rfl))
set_option maxRecDepth 20000 in
theorem mw275 : (Cond.methodLink "GenerationsModel" (91 : Nat) ({ cls := "GenerationsModel", name := "numberOf", desc := "(II)I" } : Jvm.MethodName)) ∈ gw_N0 := gw_in (List.mem_append_right _ (gw_tm (i := 554) rfl))
set_option maxRecDepth 20000 in
theorem mw276 : (Cond.instanceMethod ({ cls := "GenerationsModel", name := "numberOf", desc := "(II)I" } : Jvm.MethodName)) ∈ gw_N0 := gw_in (List.mem_append_right _ (gw_tm (i := 556) rfl))
set_option maxRecDepth 20000 in
theorem mw277 : (Cond.selects "GenerationsModel" ⟨"GenerationsModel", "numberOf", "(II)I"⟩ ⟨"GenerationsModel", "numberOf", "(II)I"⟩) ∈ gw_N0 := gw_in (List.mem_append_left _ (List.mem_of_getElem? (i := 33) rfl))
set_option maxRecDepth 20000 in
theorem mw278 : (Cond.code ({ cls := "GenerationsModel", name := "isOwn", desc := "(II)Z" } : Jvm.MethodName) prog_6_method_16_code (3 : Nat) (Option.some Jvm.ClassFile.FieldType.boolean)) ∈ gw_N0 := gw_in (List.mem_append_right _ (gw_tm (i := 561) rfl))
set_option maxRecDepth 20000 in
theorem mw279 : (Cond.methodLink "GenerationsModel" (95 : Nat) ({ cls := "GenerationsModel", name := "isOwn", desc := "(II)Z" } : Jvm.MethodName)) ∈ gw_N0 := gw_in (List.mem_append_right _ (gw_tm (i := 558) rfl))
set_option maxRecDepth 20000 in
theorem mw280 : (Cond.instanceMethod ({ cls := "GenerationsModel", name := "isOwn", desc := "(II)Z" } : Jvm.MethodName)) ∈ gw_N0 := gw_in (List.mem_append_right _ (gw_tm (i := 560) rfl))
set_option maxRecDepth 20000 in
theorem mw281 : (Cond.selects "GenerationsModel" ⟨"GenerationsModel", "isOwn", "(II)Z"⟩ ⟨"GenerationsModel", "isOwn", "(II)Z"⟩) ∈ gw_N0 := gw_in (List.mem_append_left _ (List.mem_of_getElem? (i := 34) rfl))
set_option maxRecDepth 20000 in
theorem mw282 : (Cond.fieldLink "GenerationsModel" (98 : Nat) "GenerationsModel" "maker" "I") ∈ gw_N0 := gw_in (List.mem_append_right _ (gw_tm (i := 470) rfl))
set_option maxRecDepth 20000 in
theorem mw283 : (Cond.fieldLink "GenerationsModel" (22 : Nat) "GenerationsModel" "ends" "[I") ∈ gw_N0 := gw_in (List.mem_append_right _ (gw_tm (i := 467) rfl))
set_option maxRecDepth 20000 in
theorem mw284 : (Cond.code ({ cls := "GenerationsModel", name := "settle", desc := "()V" } : Jvm.MethodName) prog_6_method_19_code (3 : Nat) (Option.none : Option Jvm.ClassFile.FieldType)) ∈ gw_N0 := gw_in (List.mem_append_right _ (gw_tm (i := 573) rfl))
set_option maxRecDepth 20000 in
theorem mw285 : (Cond.methodLink "GenerationsModel" (101 : Nat) ({ cls := "GenerationsModel", name := "settle", desc := "()V" } : Jvm.MethodName)) ∈ gw_N0 := gw_in (List.mem_append_right _ (gw_tm (i := 570) rfl))
set_option maxRecDepth 20000 in
theorem mw286 : (Cond.instanceMethod ({ cls := "GenerationsModel", name := "settle", desc := "()V" } : Jvm.MethodName)) ∈ gw_N0 := gw_in (List.mem_append_right _ (gw_tm (i := 572) rfl))
set_option maxRecDepth 20000 in
theorem mw287 : (Cond.selects "GenerationsModel" ⟨"GenerationsModel", "settle", "()V"⟩ ⟨"GenerationsModel", "settle", "()V"⟩) ∈ gw_N0 := gw_in (List.mem_append_left _ (List.mem_of_getElem? (i := 35) rfl))
