abbrev b_Law_cell : ByteArray := method_2_code
abbrev y_Law_cell : MethodName := ⟨"GenerationsLaw", "cell", "([II)I"⟩
abbrev b_Law_law : ByteArray := code
abbrev y_Law_law : MethodName := ⟨"GenerationsLaw", "law", "([I)Z"⟩
set_option maxRecDepth 20000 in
theorem mw331 : (Cond.classLink "GenerationsLaw" (8 : Nat) "Generations") ∈ gw_N0 := gw_in (List.mem_append_right _ (gw_tm (i := 19) rfl))
set_option maxRecDepth 20000 in
theorem mw332 : (Cond.instantiable "Generations" (9 : Nat)) ∈ gw_N0 := gw_in (List.mem_append_right _ (gw_tm (i := 20) rfl))
set_option maxRecDepth 20000 in
theorem mw333 : (Cond.methodLink "GenerationsLaw" (25 : Nat) ({ cls := "GenerationsLaw", name := "cell", desc := "([II)I" } : Jvm.MethodName)) ∈ gw_N0 := gw_in (List.mem_append_right _ (gw_tm (i := 318) rfl))
set_option maxRecDepth 20000 in
theorem mw334 : (Cond.static ({ cls := "GenerationsLaw", name := "cell", desc := "([II)I" } : Jvm.MethodName)) ∈ gw_N0 := gw_in (List.mem_append_right _ (gw_tm (i := 319) rfl))
set_option maxRecDepth 20000 in
theorem mw335 : (Cond.initialized "GenerationsLaw") ∈ gw_N0 := gw_in (List.mem_append_right _ (gw_tm (i := 0) rfl))
set_option maxRecDepth 20000 in
theorem mw336 : (Cond.code ({ cls := "GenerationsLaw", name := "cell", desc := "([II)I" } : Jvm.MethodName) method_2_code (2 : Nat) (Option.some Jvm.ClassFile.FieldType.int)) ∈ gw_N0 := gw_in (List.mem_append_right _ (gw_tm (i := 320) rfl))
set_option maxRecDepth 20000 in
theorem mw337 : (Cond.code ({ cls := "Generations", name := "<init>", desc := "(II)V" } : Jvm.MethodName) prog_1_method_1_code (3 : Nat) (Option.none : Option Jvm.ClassFile.FieldType)) ∈ gw_N0 := gw_in (List.mem_append_right _ (gw_tm (i := 23) rfl))
set_option maxRecDepth 20000 in
theorem mw338 : (Cond.methodLink "GenerationsLaw" (31 : Nat) ({ cls := "Generations", name := "<init>", desc := "(II)V" } : Jvm.MethodName)) ∈ gw_N0 := gw_in (List.mem_append_right _ (gw_tm (i := 21) rfl))
set_option maxRecDepth 20000 in
theorem mw339 : (Cond.instanceMethod ({ cls := "Generations", name := "<init>", desc := "(II)V" } : Jvm.MethodName)) ∈ gw_N0 := gw_in (List.mem_append_right _ (gw_tm (i := 22) rfl))
set_option maxRecDepth 20000 in
theorem mw340 : (Cond.classLink "GenerationsLaw" (34 : Nat) "GenerationsModel") ∈ gw_N0 := gw_in (List.mem_append_right _ (gw_tm (i := 452) rfl))
set_option maxRecDepth 20000 in
theorem mw341 : (Cond.instantiable "GenerationsModel" (15 : Nat)) ∈ gw_N0 := gw_in (List.mem_append_right _ (gw_tm (i := 453) rfl))
set_option maxRecDepth 20000 in
theorem mw342 : (Cond.code ({ cls := "GenerationsModel", name := "<init>", desc := "(II)V" } : Jvm.MethodName) prog_6_method_1_code (3 : Nat) (Option.none : Option Jvm.ClassFile.FieldType)) ∈ gw_N0 := gw_in (List.mem_append_right _ (gw_tm (i := 456) rfl))
set_option maxRecDepth 20000 in
theorem mw343 : (Cond.methodLink "GenerationsLaw" (36 : Nat) ({ cls := "GenerationsModel", name := "<init>", desc := "(II)V" } : Jvm.MethodName)) ∈ gw_N0 := gw_in (List.mem_append_right _ (gw_tm (i := 454) rfl))
set_option maxRecDepth 20000 in
theorem mw344 : (Cond.instanceMethod ({ cls := "GenerationsModel", name := "<init>", desc := "(II)V" } : Jvm.MethodName)) ∈ gw_N0 := gw_in (List.mem_append_right _ (gw_tm (i := 455) rfl))
set_option maxRecDepth 20000 in
theorem mw345 : (Cond.arrayClass Jvm.ClassFile.FieldType.long) ∈ gw_N0 := gw_in (List.mem_append_right _ (gw_tm (i := 606) rfl))
set_option maxRecDepth 20000 in
theorem mw346 : (Cond.code ({ cls := "Generations", name := "catalogue", desc := "(I)I" } : Jvm.MethodName) prog_1_method_2_code (3 : Nat) (Option.some Jvm.ClassFile.FieldType.int)) ∈ gw_N0 := gw_in (List.mem_append_right _ (gw_tm (i := 132) rfl))
set_option maxRecDepth 20000 in
theorem mw347 : (Cond.methodLink "GenerationsLaw" (37 : Nat) ({ cls := "Generations", name := "catalogue", desc := "(I)I" } : Jvm.MethodName)) ∈ gw_N0 := gw_in (List.mem_append_right _ (gw_tm (i := 129) rfl))
set_option maxRecDepth 20000 in
theorem mw348 : (Cond.instanceMethod ({ cls := "Generations", name := "catalogue", desc := "(I)I" } : Jvm.MethodName)) ∈ gw_N0 := gw_in (List.mem_append_right _ (gw_tm (i := 130) rfl))
set_option maxRecDepth 20000 in
theorem mw349 : (Cond.selects "Generations" ({ cls := "Generations", name := "catalogue", desc := "(I)I" } : Jvm.MethodName) ({ cls := "Generations", name := "catalogue", desc := "(I)I" } : Jvm.MethodName)) ∈ gw_N0 := gw_in (List.mem_append_right _ (gw_tm (i := 131) rfl))
set_option maxRecDepth 20000 in
theorem mw350 : (Cond.code ({ cls := "GenerationsModel", name := "catalogue", desc := "(I)I" } : Jvm.MethodName) prog_6_method_12_code (2 : Nat) (Option.some Jvm.ClassFile.FieldType.int)) ∈ gw_N0 := gw_in (List.mem_append_right _ (gw_tm (i := 507) rfl))
set_option maxRecDepth 20000 in
theorem mw351 : (Cond.methodLink "GenerationsLaw" (41 : Nat) ({ cls := "GenerationsModel", name := "catalogue", desc := "(I)I" } : Jvm.MethodName)) ∈ gw_N0 := gw_in (List.mem_append_right _ (gw_tm (i := 504) rfl))
set_option maxRecDepth 20000 in
theorem mw352 : (Cond.instanceMethod ({ cls := "GenerationsModel", name := "catalogue", desc := "(I)I" } : Jvm.MethodName)) ∈ gw_N0 := gw_in (List.mem_append_right _ (gw_tm (i := 505) rfl))
set_option maxRecDepth 20000 in
theorem mw353 : (Cond.selects "GenerationsModel" ({ cls := "GenerationsModel", name := "catalogue", desc := "(I)I" } : Jvm.MethodName) ({ cls := "GenerationsModel", name := "catalogue", desc := "(I)I" } : Jvm.MethodName)) ∈ gw_N0 := gw_in (List.mem_append_right _ (gw_tm (i := 506) rfl))
set_option maxRecDepth 20000 in
theorem mw354 : (Cond.code ({ cls := "Generations", name := "job", desc := "()I" } : Jvm.MethodName) prog_1_method_3_code (1 : Nat) (Option.some Jvm.ClassFile.FieldType.int)) ∈ gw_N0 := gw_in (List.mem_append_right _ (gw_tm (i := 254) rfl))
set_option maxRecDepth 20000 in
theorem mw355 : (Cond.methodLink "GenerationsLaw" (42 : Nat) ({ cls := "Generations", name := "job", desc := "()I" } : Jvm.MethodName)) ∈ gw_N0 := gw_in (List.mem_append_right _ (gw_tm (i := 251) rfl))
set_option maxRecDepth 20000 in
theorem mw356 : (Cond.instanceMethod ({ cls := "Generations", name := "job", desc := "()I" } : Jvm.MethodName)) ∈ gw_N0 := gw_in (List.mem_append_right _ (gw_tm (i := 252) rfl))
set_option maxRecDepth 20000 in
theorem mw357 : (Cond.selects "Generations" ({ cls := "Generations", name := "job", desc := "()I" } : Jvm.MethodName) ({ cls := "Generations", name := "job", desc := "()I" } : Jvm.MethodName)) ∈ gw_N0 := gw_in (List.mem_append_right _ (gw_tm (i := 253) rfl))
set_option maxRecDepth 20000 in
theorem mw358 : (Cond.code ({ cls := "GenerationsModel", name := "job", desc := "()I" } : Jvm.MethodName) prog_6_method_14_code (2 : Nat) (Option.some Jvm.ClassFile.FieldType.int)) ∈ gw_N0 := gw_in (List.mem_append_right _ (gw_tm (i := 541) rfl))
set_option maxRecDepth 20000 in
theorem mw359 : (Cond.methodLink "GenerationsLaw" (46 : Nat) ({ cls := "GenerationsModel", name := "job", desc := "()I" } : Jvm.MethodName)) ∈ gw_N0 := gw_in (List.mem_append_right _ (gw_tm (i := 538) rfl))
set_option maxRecDepth 20000 in
theorem mw360 : (Cond.instanceMethod ({ cls := "GenerationsModel", name := "job", desc := "()I" } : Jvm.MethodName)) ∈ gw_N0 := gw_in (List.mem_append_right _ (gw_tm (i := 539) rfl))
set_option maxRecDepth 20000 in
theorem mw361 : (Cond.selects "GenerationsModel" ({ cls := "GenerationsModel", name := "job", desc := "()I" } : Jvm.MethodName) ({ cls := "GenerationsModel", name := "job", desc := "()I" } : Jvm.MethodName)) ∈ gw_N0 := gw_in (List.mem_append_right _ (gw_tm (i := 540) rfl))
set_option maxRecDepth 20000 in
theorem mw362 : (Cond.methodLink "GenerationsLaw" (47 : Nat) ({ cls := "GenerationsLaw", name := "relative", desc := "(LGenerations;II[J)I" } : Jvm.MethodName)) ∈ gw_N0 := gw_in (List.mem_append_right _ (gw_tm (i := 321) rfl))
set_option maxRecDepth 20000 in
theorem mw363 : (Cond.static ({ cls := "GenerationsLaw", name := "relative", desc := "(LGenerations;II[J)I" } : Jvm.MethodName)) ∈ gw_N0 := gw_in (List.mem_append_right _ (gw_tm (i := 322) rfl))
set_option maxRecDepth 20000 in
theorem mw364 : (Cond.codeWith ({ cls := "GenerationsLaw", name := "relative", desc := "(LGenerations;II[J)I" } : Jvm.MethodName) method_3_code (5 : Nat) (Option.some Jvm.ClassFile.FieldType.int) [((0 : Nat), (10 : Nat), (13 : Nat), (13 : Nat))]) ∈ gw_N0 := gw_in (List.mem_append_right _ (gw_tm (i := 323) rfl))
set_option maxRecDepth 20000 in
theorem mw365 : (Cond.code ({ cls := "GenerationsModel", name := "relative", desc := "(II)I" } : Jvm.MethodName) prog_6_method_17_code (4 : Nat) (Option.some Jvm.ClassFile.FieldType.int)) ∈ gw_N0 := gw_in (List.mem_append_right _ (gw_tm (i := 545) rfl))
set_option maxRecDepth 20000 in
theorem mw366 : (Cond.methodLink "GenerationsLaw" (50 : Nat) ({ cls := "GenerationsModel", name := "relative", desc := "(II)I" } : Jvm.MethodName)) ∈ gw_N0 := gw_in (List.mem_append_right _ (gw_tm (i := 542) rfl))
set_option maxRecDepth 20000 in
theorem mw367 : (Cond.instanceMethod ({ cls := "GenerationsModel", name := "relative", desc := "(II)I" } : Jvm.MethodName)) ∈ gw_N0 := gw_in (List.mem_append_right _ (gw_tm (i := 543) rfl))
set_option maxRecDepth 20000 in
theorem mw368 : (Cond.selects "GenerationsModel" ({ cls := "GenerationsModel", name := "relative", desc := "(II)I" } : Jvm.MethodName) ({ cls := "GenerationsModel", name := "relative", desc := "(II)I" } : Jvm.MethodName)) ∈ gw_N0 := gw_in (List.mem_append_right _ (gw_tm (i := 544) rfl))
set_option maxRecDepth 20000 in
theorem mw369 : (Cond.methodLink "GenerationsLaw" (51 : Nat) ({ cls := "GenerationsLaw", name := "make", desc := "(LGenerations;II[J)I" } : Jvm.MethodName)) ∈ gw_N0 := gw_in (List.mem_append_right _ (gw_tm (i := 418) rfl))
set_option maxRecDepth 20000 in
theorem mw370 : (Cond.static ({ cls := "GenerationsLaw", name := "make", desc := "(LGenerations;II[J)I" } : Jvm.MethodName)) ∈ gw_N0 := gw_in (List.mem_append_right _ (gw_tm (i := 419) rfl))
set_option maxRecDepth 20000 in
theorem mw371 : (Cond.codeWith ({ cls := "GenerationsLaw", name := "make", desc := "(LGenerations;II[J)I" } : Jvm.MethodName) method_4_code (5 : Nat) (Option.some Jvm.ClassFile.FieldType.int) [((0 : Nat), (10 : Nat), (13 : Nat), (13 : Nat))]) ∈ gw_N0 := gw_in (List.mem_append_right _ (gw_tm (i := 420) rfl))
set_option maxRecDepth 20000 in
theorem mw372 : (Cond.code ({ cls := "GenerationsModel", name := "make", desc := "(II)I" } : Jvm.MethodName) prog_6_method_18_code (4 : Nat) (Option.some Jvm.ClassFile.FieldType.int)) ∈ gw_N0 := gw_in (List.mem_append_right _ (gw_tm (i := 565) rfl))
set_option maxRecDepth 20000 in
theorem mw373 : (Cond.methodLink "GenerationsLaw" (53 : Nat) ({ cls := "GenerationsModel", name := "make", desc := "(II)I" } : Jvm.MethodName)) ∈ gw_N0 := gw_in (List.mem_append_right _ (gw_tm (i := 562) rfl))
set_option maxRecDepth 20000 in
theorem mw374 : (Cond.instanceMethod ({ cls := "GenerationsModel", name := "make", desc := "(II)I" } : Jvm.MethodName)) ∈ gw_N0 := gw_in (List.mem_append_right _ (gw_tm (i := 563) rfl))
set_option maxRecDepth 20000 in
theorem mw375 : (Cond.selects "GenerationsModel" ({ cls := "GenerationsModel", name := "make", desc := "(II)I" } : Jvm.MethodName) ({ cls := "GenerationsModel", name := "make", desc := "(II)I" } : Jvm.MethodName)) ∈ gw_N0 := gw_in (List.mem_append_right _ (gw_tm (i := 564) rfl))
set_option maxRecDepth 20000 in
theorem mw376 : (Cond.methodLink "GenerationsLaw" (54 : Nat) ({ cls := "GenerationsLaw", name := "end", desc := "(LGenerations;IIZ[J)I" } : Jvm.MethodName)) ∈ gw_N0 := gw_in (List.mem_append_right _ (gw_tm (i := 434) rfl))
set_option maxRecDepth 20000 in
theorem mw377 : (Cond.static ({ cls := "GenerationsLaw", name := "end", desc := "(LGenerations;IIZ[J)I" } : Jvm.MethodName)) ∈ gw_N0 := gw_in (List.mem_append_right _ (gw_tm (i := 435) rfl))
set_option maxRecDepth 20000 in
theorem mw378 : (Cond.codeWith ({ cls := "GenerationsLaw", name := "end", desc := "(LGenerations;IIZ[J)I" } : Jvm.MethodName) method_5_code (6 : Nat) (Option.some Jvm.ClassFile.FieldType.int) [((0 : Nat), (12 : Nat), (15 : Nat), (13 : Nat))]) ∈ gw_N0 := gw_in (List.mem_append_right _ (gw_tm (i := 436) rfl))
set_option maxRecDepth 20000 in
theorem mw379 : (Cond.code ({ cls := "GenerationsModel", name := "end", desc := "(IIZ)I" } : Jvm.MethodName) prog_6_method_20_code (6 : Nat) (Option.some Jvm.ClassFile.FieldType.int)) ∈ gw_N0 := gw_in (List.mem_append_right _ (gw_tm (i := 569) rfl))
set_option maxRecDepth 20000 in
theorem mw380 : (Cond.methodLink "GenerationsLaw" (57 : Nat) ({ cls := "GenerationsModel", name := "end", desc := "(IIZ)I" } : Jvm.MethodName)) ∈ gw_N0 := gw_in (List.mem_append_right _ (gw_tm (i := 566) rfl))
set_option maxRecDepth 20000 in
theorem mw381 : (Cond.instanceMethod ({ cls := "GenerationsModel", name := "end", desc := "(IIZ)I" } : Jvm.MethodName)) ∈ gw_N0 := gw_in (List.mem_append_right _ (gw_tm (i := 567) rfl))
set_option maxRecDepth 20000 in
theorem mw382 : (Cond.selects "GenerationsModel" ({ cls := "GenerationsModel", name := "end", desc := "(IIZ)I" } : Jvm.MethodName) ({ cls := "GenerationsModel", name := "end", desc := "(IIZ)I" } : Jvm.MethodName)) ∈ gw_N0 := gw_in (List.mem_append_right _ (gw_tm (i := 568) rfl))
set_option maxRecDepth 20000 in
theorem mw383 : (Cond.code ({ cls := "Generations", name := "dropped", desc := "(I)I" } : Jvm.MethodName) prog_1_method_7_code (2 : Nat) (Option.some Jvm.ClassFile.FieldType.int)) ∈ gw_N0 := gw_in (List.mem_append_right _ (gw_tm (i := 285) rfl))
set_option maxRecDepth 20000 in
theorem mw384 : (Cond.methodLink "GenerationsLaw" (58 : Nat) ({ cls := "Generations", name := "dropped", desc := "(I)I" } : Jvm.MethodName)) ∈ gw_N0 := gw_in (List.mem_append_right _ (gw_tm (i := 282) rfl))
set_option maxRecDepth 20000 in
theorem mw385 : (Cond.instanceMethod ({ cls := "Generations", name := "dropped", desc := "(I)I" } : Jvm.MethodName)) ∈ gw_N0 := gw_in (List.mem_append_right _ (gw_tm (i := 283) rfl))
set_option maxRecDepth 20000 in
theorem mw386 : (Cond.selects "Generations" ({ cls := "Generations", name := "dropped", desc := "(I)I" } : Jvm.MethodName) ({ cls := "Generations", name := "dropped", desc := "(I)I" } : Jvm.MethodName)) ∈ gw_N0 := gw_in (List.mem_append_right _ (gw_tm (i := 284) rfl))
set_option maxRecDepth 20000 in
theorem mw387 : (Cond.code ({ cls := "GenerationsModel", name := "dropped", desc := "(I)I" } : Jvm.MethodName) prog_6_method_22_code (2 : Nat) (Option.some Jvm.ClassFile.FieldType.int)) ∈ gw_N0 := gw_in (List.mem_append_right _ (gw_tm (i := 581) rfl))
set_option maxRecDepth 20000 in
theorem mw388 : (Cond.methodLink "GenerationsLaw" (61 : Nat) ({ cls := "GenerationsModel", name := "dropped", desc := "(I)I" } : Jvm.MethodName)) ∈ gw_N0 := gw_in (List.mem_append_right _ (gw_tm (i := 578) rfl))
set_option maxRecDepth 20000 in
theorem mw389 : (Cond.instanceMethod ({ cls := "GenerationsModel", name := "dropped", desc := "(I)I" } : Jvm.MethodName)) ∈ gw_N0 := gw_in (List.mem_append_right _ (gw_tm (i := 579) rfl))
set_option maxRecDepth 20000 in
theorem mw390 : (Cond.selects "GenerationsModel" ({ cls := "GenerationsModel", name := "dropped", desc := "(I)I" } : Jvm.MethodName) ({ cls := "GenerationsModel", name := "dropped", desc := "(I)I" } : Jvm.MethodName)) ∈ gw_N0 := gw_in (List.mem_append_right _ (gw_tm (i := 580) rfl))
set_option maxRecDepth 20000 in
theorem mw391 : (Cond.methodLink "GenerationsLaw" (62 : Nat) ({ cls := "GenerationsLaw", name := "restart", desc := "(LGenerations;II[J)I" } : Jvm.MethodName)) ∈ gw_N0 := gw_in (List.mem_append_right _ (gw_tm (i := 441) rfl))
set_option maxRecDepth 20000 in
theorem mw392 : (Cond.static ({ cls := "GenerationsLaw", name := "restart", desc := "(LGenerations;II[J)I" } : Jvm.MethodName)) ∈ gw_N0 := gw_in (List.mem_append_right _ (gw_tm (i := 442) rfl))
set_option maxRecDepth 20000 in
theorem mw393 : (Cond.codeWith ({ cls := "GenerationsLaw", name := "restart", desc := "(LGenerations;II[J)I" } : Jvm.MethodName) method_6_code (5 : Nat) (Option.some Jvm.ClassFile.FieldType.int) [((0 : Nat), (10 : Nat), (13 : Nat), (13 : Nat))]) ∈ gw_N0 := gw_in (List.mem_append_right _ (gw_tm (i := 443) rfl))
set_option maxRecDepth 20000 in
theorem mw394 : (Cond.code ({ cls := "GenerationsModel", name := "restart", desc := "(II)I" } : Jvm.MethodName) prog_6_method_21_code (6 : Nat) (Option.some Jvm.ClassFile.FieldType.int)) ∈ gw_N0 := gw_in (List.mem_append_right _ (gw_tm (i := 577) rfl))
set_option maxRecDepth 20000 in
theorem mw395 : (Cond.methodLink "GenerationsLaw" (64 : Nat) ({ cls := "GenerationsModel", name := "restart", desc := "(II)I" } : Jvm.MethodName)) ∈ gw_N0 := gw_in (List.mem_append_right _ (gw_tm (i := 574) rfl))
set_option maxRecDepth 20000 in
theorem mw396 : (Cond.instanceMethod ({ cls := "GenerationsModel", name := "restart", desc := "(II)I" } : Jvm.MethodName)) ∈ gw_N0 := gw_in (List.mem_append_right _ (gw_tm (i := 575) rfl))
set_option maxRecDepth 20000 in
theorem mw397 : (Cond.selects "GenerationsModel" ({ cls := "GenerationsModel", name := "restart", desc := "(II)I" } : Jvm.MethodName) ({ cls := "GenerationsModel", name := "restart", desc := "(II)I" } : Jvm.MethodName)) ∈ gw_N0 := gw_in (List.mem_append_right _ (gw_tm (i := 576) rfl))
set_option maxRecDepth 20000 in
theorem mw398 : (Cond.code ({ cls := "Generations", name := "list", desc := "(I)I" } : Jvm.MethodName) prog_1_method_9_code (2 : Nat) (Option.some Jvm.ClassFile.FieldType.int)) ∈ gw_N0 := gw_in (List.mem_append_right _ (gw_tm (i := 289) rfl))
set_option maxRecDepth 20000 in
theorem mw399 : (Cond.methodLink "GenerationsLaw" (65 : Nat) ({ cls := "Generations", name := "list", desc := "(I)I" } : Jvm.MethodName)) ∈ gw_N0 := gw_in (List.mem_append_right _ (gw_tm (i := 286) rfl))
set_option maxRecDepth 20000 in
theorem mw400 : (Cond.instanceMethod ({ cls := "Generations", name := "list", desc := "(I)I" } : Jvm.MethodName)) ∈ gw_N0 := gw_in (List.mem_append_right _ (gw_tm (i := 287) rfl))
set_option maxRecDepth 20000 in
theorem mw401 : (Cond.selects "Generations" ({ cls := "Generations", name := "list", desc := "(I)I" } : Jvm.MethodName) ({ cls := "Generations", name := "list", desc := "(I)I" } : Jvm.MethodName)) ∈ gw_N0 := gw_in (List.mem_append_right _ (gw_tm (i := 288) rfl))
set_option maxRecDepth 20000 in
theorem mw402 : (Cond.code ({ cls := "GenerationsModel", name := "list", desc := "(I)I" } : Jvm.MethodName) prog_6_method_23_code (2 : Nat) (Option.some Jvm.ClassFile.FieldType.int)) ∈ gw_N0 := gw_in (List.mem_append_right _ (gw_tm (i := 585) rfl))
set_option maxRecDepth 20000 in
theorem mw403 : (Cond.methodLink "GenerationsLaw" (68 : Nat) ({ cls := "GenerationsModel", name := "list", desc := "(I)I" } : Jvm.MethodName)) ∈ gw_N0 := gw_in (List.mem_append_right _ (gw_tm (i := 582) rfl))
set_option maxRecDepth 20000 in
theorem mw404 : (Cond.instanceMethod ({ cls := "GenerationsModel", name := "list", desc := "(I)I" } : Jvm.MethodName)) ∈ gw_N0 := gw_in (List.mem_append_right _ (gw_tm (i := 583) rfl))
set_option maxRecDepth 20000 in
theorem mw405 : (Cond.selects "GenerationsModel" ({ cls := "GenerationsModel", name := "list", desc := "(I)I" } : Jvm.MethodName) ({ cls := "GenerationsModel", name := "list", desc := "(I)I" } : Jvm.MethodName)) ∈ gw_N0 := gw_in (List.mem_append_right _ (gw_tm (i := 584) rfl))
set_option maxRecDepth 20000 in
theorem mw406 : (Cond.code ({ cls := "Generations", name := "reclaim", desc := "(I)I" } : Jvm.MethodName) prog_1_method_10_code (3 : Nat) (Option.some Jvm.ClassFile.FieldType.int)) ∈ gw_N0 := gw_in (List.mem_append_right _ (gw_tm (i := 293) rfl))
set_option maxRecDepth 20000 in
theorem mw407 : (Cond.methodLink "GenerationsLaw" (69 : Nat) ({ cls := "Generations", name := "reclaim", desc := "(I)I" } : Jvm.MethodName)) ∈ gw_N0 := gw_in (List.mem_append_right _ (gw_tm (i := 290) rfl))
set_option maxRecDepth 20000 in
theorem mw408 : (Cond.instanceMethod ({ cls := "Generations", name := "reclaim", desc := "(I)I" } : Jvm.MethodName)) ∈ gw_N0 := gw_in (List.mem_append_right _ (gw_tm (i := 291) rfl))
set_option maxRecDepth 20000 in
theorem mw409 : (Cond.selects "Generations" ({ cls := "Generations", name := "reclaim", desc := "(I)I" } : Jvm.MethodName) ({ cls := "Generations", name := "reclaim", desc := "(I)I" } : Jvm.MethodName)) ∈ gw_N0 := gw_in (List.mem_append_right _ (gw_tm (i := 292) rfl))
set_option maxRecDepth 20000 in
theorem mw410 : (Cond.code ({ cls := "GenerationsModel", name := "reclaim", desc := "(I)I" } : Jvm.MethodName) prog_6_method_24_code (2 : Nat) (Option.some Jvm.ClassFile.FieldType.int)) ∈ gw_N0 := gw_in (List.mem_append_right _ (gw_tm (i := 589) rfl))
set_option maxRecDepth 20000 in
theorem mw411 : (Cond.methodLink "GenerationsLaw" (72 : Nat) ({ cls := "GenerationsModel", name := "reclaim", desc := "(I)I" } : Jvm.MethodName)) ∈ gw_N0 := gw_in (List.mem_append_right _ (gw_tm (i := 586) rfl))
set_option maxRecDepth 20000 in
theorem mw412 : (Cond.instanceMethod ({ cls := "GenerationsModel", name := "reclaim", desc := "(I)I" } : Jvm.MethodName)) ∈ gw_N0 := gw_in (List.mem_append_right _ (gw_tm (i := 587) rfl))
set_option maxRecDepth 20000 in
theorem mw413 : (Cond.selects "GenerationsModel" ({ cls := "GenerationsModel", name := "reclaim", desc := "(I)I" } : Jvm.MethodName) ({ cls := "GenerationsModel", name := "reclaim", desc := "(I)I" } : Jvm.MethodName)) ∈ gw_N0 := gw_in (List.mem_append_right _ (gw_tm (i := 588) rfl))
set_option maxRecDepth 20000 in
theorem mw414 : (Cond.code ({ cls := "Generations", name := "empty", desc := "(Z)I" } : Jvm.MethodName) prog_1_method_11_code (3 : Nat) (Option.some Jvm.ClassFile.FieldType.int)) ∈ gw_N0 := gw_in (List.mem_append_right _ (gw_tm (i := 297) rfl))
set_option maxRecDepth 20000 in
theorem mw415 : (Cond.methodLink "GenerationsLaw" (73 : Nat) ({ cls := "Generations", name := "empty", desc := "(Z)I" } : Jvm.MethodName)) ∈ gw_N0 := gw_in (List.mem_append_right _ (gw_tm (i := 294) rfl))
set_option maxRecDepth 20000 in
theorem mw416 : (Cond.instanceMethod ({ cls := "Generations", name := "empty", desc := "(Z)I" } : Jvm.MethodName)) ∈ gw_N0 := gw_in (List.mem_append_right _ (gw_tm (i := 295) rfl))
set_option maxRecDepth 20000 in
theorem mw417 : (Cond.selects "Generations" ({ cls := "Generations", name := "empty", desc := "(Z)I" } : Jvm.MethodName) ({ cls := "Generations", name := "empty", desc := "(Z)I" } : Jvm.MethodName)) ∈ gw_N0 := gw_in (List.mem_append_right _ (gw_tm (i := 296) rfl))
set_option maxRecDepth 20000 in
theorem mw418 : (Cond.code ({ cls := "GenerationsModel", name := "empty", desc := "(Z)I" } : Jvm.MethodName) prog_6_method_25_code (3 : Nat) (Option.some Jvm.ClassFile.FieldType.int)) ∈ gw_N0 := gw_in (List.mem_append_right _ (gw_tm (i := 593) rfl))
set_option maxRecDepth 20000 in
theorem mw419 : (Cond.methodLink "GenerationsLaw" (77 : Nat) ({ cls := "GenerationsModel", name := "empty", desc := "(Z)I" } : Jvm.MethodName)) ∈ gw_N0 := gw_in (List.mem_append_right _ (gw_tm (i := 590) rfl))
set_option maxRecDepth 20000 in
theorem mw420 : (Cond.instanceMethod ({ cls := "GenerationsModel", name := "empty", desc := "(Z)I" } : Jvm.MethodName)) ∈ gw_N0 := gw_in (List.mem_append_right _ (gw_tm (i := 591) rfl))
set_option maxRecDepth 20000 in
theorem mw421 : (Cond.selects "GenerationsModel" ({ cls := "GenerationsModel", name := "empty", desc := "(Z)I" } : Jvm.MethodName) ({ cls := "GenerationsModel", name := "empty", desc := "(Z)I" } : Jvm.MethodName)) ∈ gw_N0 := gw_in (List.mem_append_right _ (gw_tm (i := 592) rfl))
set_option maxRecDepth 20000 in
theorem mw422 : (Cond.code ({ cls := "Generations", name := "version", desc := "(I)I" } : Jvm.MethodName) prog_1_method_12_code (3 : Nat) (Option.some Jvm.ClassFile.FieldType.int)) ∈ gw_N0 := gw_in (List.mem_append_right _ (gw_tm (i := 301) rfl))
set_option maxRecDepth 20000 in
theorem mw423 : (Cond.methodLink "GenerationsLaw" (78 : Nat) ({ cls := "Generations", name := "version", desc := "(I)I" } : Jvm.MethodName)) ∈ gw_N0 := gw_in (List.mem_append_right _ (gw_tm (i := 298) rfl))
set_option maxRecDepth 20000 in
theorem mw424 : (Cond.instanceMethod ({ cls := "Generations", name := "version", desc := "(I)I" } : Jvm.MethodName)) ∈ gw_N0 := gw_in (List.mem_append_right _ (gw_tm (i := 299) rfl))
set_option maxRecDepth 20000 in
theorem mw425 : (Cond.selects "Generations" ({ cls := "Generations", name := "version", desc := "(I)I" } : Jvm.MethodName) ({ cls := "Generations", name := "version", desc := "(I)I" } : Jvm.MethodName)) ∈ gw_N0 := gw_in (List.mem_append_right _ (gw_tm (i := 300) rfl))
set_option maxRecDepth 20000 in
theorem mw426 : (Cond.code ({ cls := "GenerationsModel", name := "version", desc := "(I)I" } : Jvm.MethodName) prog_6_method_26_code (2 : Nat) (Option.some Jvm.ClassFile.FieldType.int)) ∈ gw_N0 := gw_in (List.mem_append_right _ (gw_tm (i := 597) rfl))
set_option maxRecDepth 20000 in
theorem mw427 : (Cond.methodLink "GenerationsLaw" (81 : Nat) ({ cls := "GenerationsModel", name := "version", desc := "(I)I" } : Jvm.MethodName)) ∈ gw_N0 := gw_in (List.mem_append_right _ (gw_tm (i := 594) rfl))
set_option maxRecDepth 20000 in
theorem mw428 : (Cond.instanceMethod ({ cls := "GenerationsModel", name := "version", desc := "(I)I" } : Jvm.MethodName)) ∈ gw_N0 := gw_in (List.mem_append_right _ (gw_tm (i := 595) rfl))
set_option maxRecDepth 20000 in
theorem mw429 : (Cond.selects "GenerationsModel" ({ cls := "GenerationsModel", name := "version", desc := "(I)I" } : Jvm.MethodName) ({ cls := "GenerationsModel", name := "version", desc := "(I)I" } : Jvm.MethodName)) ∈ gw_N0 := gw_in (List.mem_append_right _ (gw_tm (i := 596) rfl))
set_option maxRecDepth 20000 in
theorem mw430 : (Cond.code ({ cls := "Generations", name := "state", desc := "(I)I" } : Jvm.MethodName) prog_1_method_13_code (2 : Nat) (Option.some Jvm.ClassFile.FieldType.int)) ∈ gw_N0 := gw_in (List.mem_append_right _ (gw_tm (i := 305) rfl))
set_option maxRecDepth 20000 in
theorem mw431 : (Cond.methodLink "GenerationsLaw" (82 : Nat) ({ cls := "Generations", name := "state", desc := "(I)I" } : Jvm.MethodName)) ∈ gw_N0 := gw_in (List.mem_append_right _ (gw_tm (i := 302) rfl))
set_option maxRecDepth 20000 in
theorem mw432 : (Cond.instanceMethod ({ cls := "Generations", name := "state", desc := "(I)I" } : Jvm.MethodName)) ∈ gw_N0 := gw_in (List.mem_append_right _ (gw_tm (i := 303) rfl))
set_option maxRecDepth 20000 in
theorem mw433 : (Cond.selects "Generations" ({ cls := "Generations", name := "state", desc := "(I)I" } : Jvm.MethodName) ({ cls := "Generations", name := "state", desc := "(I)I" } : Jvm.MethodName)) ∈ gw_N0 := gw_in (List.mem_append_right _ (gw_tm (i := 304) rfl))
set_option maxRecDepth 20000 in
theorem mw434 : (Cond.code ({ cls := "GenerationsModel", name := "state", desc := "(I)I" } : Jvm.MethodName) prog_6_method_27_code (2 : Nat) (Option.some Jvm.ClassFile.FieldType.int)) ∈ gw_N0 := gw_in (List.mem_append_right _ (gw_tm (i := 601) rfl))
set_option maxRecDepth 20000 in
theorem mw435 : (Cond.methodLink "GenerationsLaw" (85 : Nat) ({ cls := "GenerationsModel", name := "state", desc := "(I)I" } : Jvm.MethodName)) ∈ gw_N0 := gw_in (List.mem_append_right _ (gw_tm (i := 598) rfl))
set_option maxRecDepth 20000 in
theorem mw436 : (Cond.instanceMethod ({ cls := "GenerationsModel", name := "state", desc := "(I)I" } : Jvm.MethodName)) ∈ gw_N0 := gw_in (List.mem_append_right _ (gw_tm (i := 599) rfl))
set_option maxRecDepth 20000 in
theorem mw437 : (Cond.selects "GenerationsModel" ({ cls := "GenerationsModel", name := "state", desc := "(I)I" } : Jvm.MethodName) ({ cls := "GenerationsModel", name := "state", desc := "(I)I" } : Jvm.MethodName)) ∈ gw_N0 := gw_in (List.mem_append_right _ (gw_tm (i := 600) rfl))
set_option maxRecDepth 20000 in
theorem mw438 : (Cond.code ({ cls := "Generations", name := "count", desc := "(I)I" } : Jvm.MethodName) prog_1_method_14_code (2 : Nat) (Option.some Jvm.ClassFile.FieldType.int)) ∈ gw_N0 := gw_in (List.mem_append_right _ (gw_tm (i := 309) rfl))
set_option maxRecDepth 20000 in
theorem mw439 : (Cond.methodLink "GenerationsLaw" (86 : Nat) ({ cls := "Generations", name := "count", desc := "(I)I" } : Jvm.MethodName)) ∈ gw_N0 := gw_in (List.mem_append_right _ (gw_tm (i := 306) rfl))
set_option maxRecDepth 20000 in
theorem mw440 : (Cond.instanceMethod ({ cls := "Generations", name := "count", desc := "(I)I" } : Jvm.MethodName)) ∈ gw_N0 := gw_in (List.mem_append_right _ (gw_tm (i := 307) rfl))
set_option maxRecDepth 20000 in
theorem mw441 : (Cond.selects "Generations" ({ cls := "Generations", name := "count", desc := "(I)I" } : Jvm.MethodName) ({ cls := "Generations", name := "count", desc := "(I)I" } : Jvm.MethodName)) ∈ gw_N0 := gw_in (List.mem_append_right _ (gw_tm (i := 308) rfl))
set_option maxRecDepth 20000 in
theorem mw442 : (Cond.code ({ cls := "GenerationsModel", name := "count", desc := "(I)I" } : Jvm.MethodName) prog_6_method_28_code (4 : Nat) (Option.some Jvm.ClassFile.FieldType.int)) ∈ gw_N0 := gw_in (List.mem_append_right _ (gw_tm (i := 605) rfl))
set_option maxRecDepth 20000 in
theorem mw443 : (Cond.methodLink "GenerationsLaw" (89 : Nat) ({ cls := "GenerationsModel", name := "count", desc := "(I)I" } : Jvm.MethodName)) ∈ gw_N0 := gw_in (List.mem_append_right _ (gw_tm (i := 602) rfl))
set_option maxRecDepth 20000 in
theorem mw444 : (Cond.instanceMethod ({ cls := "GenerationsModel", name := "count", desc := "(I)I" } : Jvm.MethodName)) ∈ gw_N0 := gw_in (List.mem_append_right _ (gw_tm (i := 603) rfl))
set_option maxRecDepth 20000 in
theorem mw445 : (Cond.selects "GenerationsModel" ({ cls := "GenerationsModel", name := "count", desc := "(I)I" } : Jvm.MethodName) ({ cls := "GenerationsModel", name := "count", desc := "(I)I" } : Jvm.MethodName)) ∈ gw_N0 := gw_in (List.mem_append_right _ (gw_tm (i := 604) rfl))
