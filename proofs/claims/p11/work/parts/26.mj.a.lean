abbrev b_Mo_isJob : ByteArray := prog_6_method_13_code
abbrev y_Mo_isJob : MethodName := ⟨"GenerationsModel", "isJob", "(I)Z"⟩
abbrev b_Mo_job : ByteArray := prog_6_method_14_code
abbrev y_Mo_job : MethodName := ⟨"GenerationsModel", "job", "()I"⟩
abbrev b_Mo_numberOf : ByteArray := prog_6_method_15_code
abbrev y_Mo_numberOf : MethodName := ⟨"GenerationsModel", "numberOf", "(II)I"⟩
abbrev b_Mo_isOwn : ByteArray := prog_6_method_16_code
abbrev y_Mo_isOwn : MethodName := ⟨"GenerationsModel", "isOwn", "(II)Z"⟩
set_option maxRecDepth 20000 in
theorem mw262 : (Cond.fieldLink "GenerationsModel" (81 : Nat) "GenerationsModel" "jobs" "I") ∈ gw_N0 := gw_in (List.mem_append_right _ (gw_tm (i := 469) rfl))
set_option maxRecDepth 20000 in
theorem mw263 : (Cond.fieldLink "GenerationsModel" (19 : Nat) "GenerationsModel" "foundSize" "[I") ∈ gw_N0 := gw_in (List.mem_append_right _ (gw_tm (i := 466) rfl))
set_option maxRecDepth 20000 in
theorem mw264 : (Cond.fieldLink "GenerationsModel" (16 : Nat) "GenerationsModel" "found" "[I") ∈ gw_N0 := gw_in (List.mem_append_right _ (gw_tm (i := 465) rfl))
