abbrev b_Law_cell : ByteArray := method_2_code
abbrev y_Law_cell : MethodName := ⟨"GenerationsLaw", "cell", "([II)I"⟩
abbrev b_Law_law : ByteArray := code
abbrev y_Law_law : MethodName := ⟨"GenerationsLaw", "law", "([I)Z"⟩
set_option maxRecDepth 20000 in
theorem mw230 : (Cond.classLink "GenerationsLaw" (8 : Nat) "Generations") ∈ gw_N0 := gw_in (List.mem_append_right _ (gw_tm (i := 19) rfl))
set_option maxRecDepth 20000 in
theorem mw231 : (Cond.instantiable "Generations" (9 : Nat)) ∈ gw_N0 := gw_in (List.mem_append_right _ (gw_tm (i := 20) rfl))
set_option maxRecDepth 20000 in
theorem mw232 : (Cond.methodLink "GenerationsLaw" (25 : Nat) ({ cls := "GenerationsLaw", name := "cell", desc := "([II)I" } : Jvm.MethodName)) ∈ gw_N0 := gw_in (List.mem_append_right _ (gw_tm (i := 318) rfl))
set_option maxRecDepth 20000 in
theorem mw233 : (Cond.static ({ cls := "GenerationsLaw", name := "cell", desc := "([II)I" } : Jvm.MethodName)) ∈ gw_N0 := gw_in (List.mem_append_right _ (gw_tm (i := 319) rfl))
set_option maxRecDepth 20000 in
theorem mw234 : (Cond.initialized "GenerationsLaw") ∈ gw_N0 := gw_in (List.mem_append_right _ (gw_tm (i := 0) rfl))
set_option maxRecDepth 20000 in
theorem mw235 : (Cond.code ({ cls := "GenerationsLaw", name := "cell", desc := "([II)I" } : Jvm.MethodName) method_2_code (2 : Nat) (Option.some Jvm.ClassFile.FieldType.int)) ∈ gw_N0 := gw_in (List.mem_append_right _ (gw_tm (i := 320) rfl))
set_option maxRecDepth 20000 in
theorem mw236 : (Cond.code ({ cls := "Generations", name := "<init>", desc := "(II)V" } : Jvm.MethodName) prog_1_method_1_code (3 : Nat) (Option.none : Option Jvm.ClassFile.FieldType)) ∈ gw_N0 := gw_in (List.mem_append_right _ (gw_tm (i := 23) rfl))
set_option maxRecDepth 20000 in
theorem mw237 : (Cond.methodLink "GenerationsLaw" (31 : Nat) ({ cls := "Generations", name := "<init>", desc := "(II)V" } : Jvm.MethodName)) ∈ gw_N0 := gw_in (List.mem_append_right _ (gw_tm (i := 21) rfl))
set_option maxRecDepth 20000 in
theorem mw238 : (Cond.instanceMethod ({ cls := "Generations", name := "<init>", desc := "(II)V" } : Jvm.MethodName)) ∈ gw_N0 := gw_in (List.mem_append_right _ (gw_tm (i := 22) rfl))
set_option maxRecDepth 20000 in
theorem mw239 : (Cond.classLink "GenerationsLaw" (34 : Nat) "GenerationsModel") ∈ gw_N0 := gw_in (List.mem_append_right _ (gw_tm (i := 452) rfl))
set_option maxRecDepth 20000 in
theorem mw240 : (Cond.instantiable "GenerationsModel" (15 : Nat)) ∈ gw_N0 := gw_in (List.mem_append_right _ (gw_tm (i := 453) rfl))
set_option maxRecDepth 20000 in
theorem mw241 : (Cond.code ({ cls := "GenerationsModel", name := "<init>", desc := "(II)V" } : Jvm.MethodName) prog_6_method_1_code (3 : Nat) (Option.none : Option Jvm.ClassFile.FieldType)) ∈ gw_N0 := gw_in (List.mem_append_right _ (gw_tm (i := 456) rfl))
set_option maxRecDepth 20000 in
theorem mw242 : (Cond.methodLink "GenerationsLaw" (36 : Nat) ({ cls := "GenerationsModel", name := "<init>", desc := "(II)V" } : Jvm.MethodName)) ∈ gw_N0 := gw_in (List.mem_append_right _ (gw_tm (i := 454) rfl))
set_option maxRecDepth 20000 in
theorem mw243 : (Cond.instanceMethod ({ cls := "GenerationsModel", name := "<init>", desc := "(II)V" } : Jvm.MethodName)) ∈ gw_N0 := gw_in (List.mem_append_right _ (gw_tm (i := 455) rfl))
set_option maxRecDepth 20000 in
theorem mw244 : (Cond.arrayClass Jvm.ClassFile.FieldType.long) ∈ gw_N0 := gw_in (List.mem_append_right _ (gw_tm (i := 610) rfl))
set_option maxRecDepth 20000 in
theorem mw245 : (Cond.code ({ cls := "Generations", name := "catalogue", desc := "(I)I" } : Jvm.MethodName) prog_1_method_2_code (3 : Nat) (Option.some Jvm.ClassFile.FieldType.int)) ∈ gw_N0 := gw_in (List.mem_append_right _ (gw_tm (i := 132) rfl))
set_option maxRecDepth 20000 in
theorem mw246 : (Cond.methodLink "GenerationsLaw" (37 : Nat) ({ cls := "Generations", name := "catalogue", desc := "(I)I" } : Jvm.MethodName)) ∈ gw_N0 := gw_in (List.mem_append_right _ (gw_tm (i := 129) rfl))
set_option maxRecDepth 20000 in
theorem mw247 : (Cond.instanceMethod ({ cls := "Generations", name := "catalogue", desc := "(I)I" } : Jvm.MethodName)) ∈ gw_N0 := gw_in (List.mem_append_right _ (gw_tm (i := 130) rfl))
set_option maxRecDepth 20000 in
theorem mw248 : (Cond.selects "Generations" ({ cls := "Generations", name := "catalogue", desc := "(I)I" } : Jvm.MethodName) ({ cls := "Generations", name := "catalogue", desc := "(I)I" } : Jvm.MethodName)) ∈ gw_N0 := gw_in (List.mem_append_right _ (gw_tm (i := 131) rfl))
set_option maxRecDepth 20000 in
theorem mw249 : (Cond.code ({ cls := "GenerationsModel", name := "catalogue", desc := "(I)I" } : Jvm.MethodName) prog_6_method_12_code (2 : Nat) (Option.some Jvm.ClassFile.FieldType.int)) ∈ gw_N0 := gw_in (List.mem_append_right _ (gw_tm (i := 511) rfl))
set_option maxRecDepth 20000 in
theorem mw250 : (Cond.methodLink "GenerationsLaw" (41 : Nat) ({ cls := "GenerationsModel", name := "catalogue", desc := "(I)I" } : Jvm.MethodName)) ∈ gw_N0 := gw_in (List.mem_append_right _ (gw_tm (i := 508) rfl))
set_option maxRecDepth 20000 in
theorem mw251 : (Cond.instanceMethod ({ cls := "GenerationsModel", name := "catalogue", desc := "(I)I" } : Jvm.MethodName)) ∈ gw_N0 := gw_in (List.mem_append_right _ (gw_tm (i := 509) rfl))
set_option maxRecDepth 20000 in
theorem mw252 : (Cond.selects "GenerationsModel" ({ cls := "GenerationsModel", name := "catalogue", desc := "(I)I" } : Jvm.MethodName) ({ cls := "GenerationsModel", name := "catalogue", desc := "(I)I" } : Jvm.MethodName)) ∈ gw_N0 := gw_in (List.mem_append_right _ (gw_tm (i := 510) rfl))
set_option maxRecDepth 20000 in
theorem mw253 : (Cond.code ({ cls := "Generations", name := "job", desc := "()I" } : Jvm.MethodName) prog_1_method_3_code (1 : Nat) (Option.some Jvm.ClassFile.FieldType.int)) ∈ gw_N0 := gw_in (List.mem_append_right _ (gw_tm (i := 254) rfl))
set_option maxRecDepth 20000 in
theorem mw254 : (Cond.methodLink "GenerationsLaw" (42 : Nat) ({ cls := "Generations", name := "job", desc := "()I" } : Jvm.MethodName)) ∈ gw_N0 := gw_in (List.mem_append_right _ (gw_tm (i := 251) rfl))
set_option maxRecDepth 20000 in
theorem mw255 : (Cond.instanceMethod ({ cls := "Generations", name := "job", desc := "()I" } : Jvm.MethodName)) ∈ gw_N0 := gw_in (List.mem_append_right _ (gw_tm (i := 252) rfl))
set_option maxRecDepth 20000 in
theorem mw256 : (Cond.selects "Generations" ({ cls := "Generations", name := "job", desc := "()I" } : Jvm.MethodName) ({ cls := "Generations", name := "job", desc := "()I" } : Jvm.MethodName)) ∈ gw_N0 := gw_in (List.mem_append_right _ (gw_tm (i := 253) rfl))
set_option maxRecDepth 20000 in
theorem mw257 : (Cond.code ({ cls := "GenerationsModel", name := "job", desc := "()I" } : Jvm.MethodName) prog_6_method_14_code (2 : Nat) (Option.some Jvm.ClassFile.FieldType.int)) ∈ gw_N0 := gw_in (List.mem_append_right _ (gw_tm (i := 545) rfl))
set_option maxRecDepth 20000 in
theorem mw258 : (Cond.methodLink "GenerationsLaw" (46 : Nat) ({ cls := "GenerationsModel", name := "job", desc := "()I" } : Jvm.MethodName)) ∈ gw_N0 := gw_in (List.mem_append_right _ (gw_tm (i := 542) rfl))
set_option maxRecDepth 20000 in
theorem mw259 : (Cond.instanceMethod ({ cls := "GenerationsModel", name := "job", desc := "()I" } : Jvm.MethodName)) ∈ gw_N0 := gw_in (List.mem_append_right _ (gw_tm (i := 543) rfl))
set_option maxRecDepth 20000 in
theorem mw260 : (Cond.selects "GenerationsModel" ({ cls := "GenerationsModel", name := "job", desc := "()I" } : Jvm.MethodName) ({ cls := "GenerationsModel", name := "job", desc := "()I" } : Jvm.MethodName)) ∈ gw_N0 := gw_in (List.mem_append_right _ (gw_tm (i := 544) rfl))
set_option maxRecDepth 20000 in
theorem mw261 : (Cond.codeWith ({ cls := "GenerationsLaw", name := "relative", desc := "(LGenerations;II[J)I" } : Jvm.MethodName) method_3_code (5 : Nat) (Option.some Jvm.ClassFile.FieldType.int) [((0 : Nat), (10 : Nat), (13 : Nat), (13 : Nat))]) ∈ gw_N0 := gw_in (List.mem_append_right _ (gw_tm (i := 323) rfl))
set_option maxRecDepth 20000 in
theorem mw262 : (Cond.methodLink "GenerationsLaw" (47 : Nat) ({ cls := "GenerationsLaw", name := "relative", desc := "(LGenerations;II[J)I" } : Jvm.MethodName)) ∈ gw_N0 := gw_in (List.mem_append_right _ (gw_tm (i := 321) rfl))
set_option maxRecDepth 20000 in
theorem mw263 : (Cond.static ({ cls := "GenerationsLaw", name := "relative", desc := "(LGenerations;II[J)I" } : Jvm.MethodName)) ∈ gw_N0 := gw_in (List.mem_append_right _ (gw_tm (i := 322) rfl))
set_option maxRecDepth 20000 in
theorem mw264 : (Cond.code ({ cls := "GenerationsModel", name := "relative", desc := "(II)I" } : Jvm.MethodName) prog_6_method_17_code (4 : Nat) (Option.some Jvm.ClassFile.FieldType.int)) ∈ gw_N0 := gw_in (List.mem_append_right _ (gw_tm (i := 549) rfl))
set_option maxRecDepth 20000 in
theorem mw265 : (Cond.methodLink "GenerationsLaw" (50 : Nat) ({ cls := "GenerationsModel", name := "relative", desc := "(II)I" } : Jvm.MethodName)) ∈ gw_N0 := gw_in (List.mem_append_right _ (gw_tm (i := 546) rfl))
set_option maxRecDepth 20000 in
theorem mw266 : (Cond.instanceMethod ({ cls := "GenerationsModel", name := "relative", desc := "(II)I" } : Jvm.MethodName)) ∈ gw_N0 := gw_in (List.mem_append_right _ (gw_tm (i := 547) rfl))
set_option maxRecDepth 20000 in
theorem mw267 : (Cond.selects "GenerationsModel" ({ cls := "GenerationsModel", name := "relative", desc := "(II)I" } : Jvm.MethodName) ({ cls := "GenerationsModel", name := "relative", desc := "(II)I" } : Jvm.MethodName)) ∈ gw_N0 := gw_in (List.mem_append_right _ (gw_tm (i := 548) rfl))
set_option maxRecDepth 20000 in
theorem mw268 : (Cond.code ({ cls := "GenerationsModel", name := "thrown", desc := "()I" } : Jvm.MethodName) prog_6_method_2_code (1 : Nat) (Option.some Jvm.ClassFile.FieldType.int)) ∈ gw_N0 := gw_in (List.mem_append_right _ (gw_tm (i := 507) rfl))
set_option maxRecDepth 20000 in
theorem mw269 : (Cond.methodLink "GenerationsLaw" (51 : Nat) ({ cls := "GenerationsModel", name := "thrown", desc := "()I" } : Jvm.MethodName)) ∈ gw_N0 := gw_in (List.mem_append_right _ (gw_tm (i := 504) rfl))
set_option maxRecDepth 20000 in
theorem mw270 : (Cond.instanceMethod ({ cls := "GenerationsModel", name := "thrown", desc := "()I" } : Jvm.MethodName)) ∈ gw_N0 := gw_in (List.mem_append_right _ (gw_tm (i := 505) rfl))
set_option maxRecDepth 20000 in
theorem mw271 : (Cond.selects "GenerationsModel" ({ cls := "GenerationsModel", name := "thrown", desc := "()I" } : Jvm.MethodName) ({ cls := "GenerationsModel", name := "thrown", desc := "()I" } : Jvm.MethodName)) ∈ gw_N0 := gw_in (List.mem_append_right _ (gw_tm (i := 506) rfl))
set_option maxRecDepth 20000 in
theorem mw272 : (Cond.codeWith ({ cls := "GenerationsLaw", name := "make", desc := "(LGenerations;II[J)I" } : Jvm.MethodName) method_4_code (5 : Nat) (Option.some Jvm.ClassFile.FieldType.int) [((0 : Nat), (10 : Nat), (13 : Nat), (13 : Nat))]) ∈ gw_N0 := gw_in (List.mem_append_right _ (gw_tm (i := 420) rfl))
set_option maxRecDepth 20000 in
theorem mw273 : (Cond.methodLink "GenerationsLaw" (54 : Nat) ({ cls := "GenerationsLaw", name := "make", desc := "(LGenerations;II[J)I" } : Jvm.MethodName)) ∈ gw_N0 := gw_in (List.mem_append_right _ (gw_tm (i := 418) rfl))
set_option maxRecDepth 20000 in
theorem mw274 : (Cond.static ({ cls := "GenerationsLaw", name := "make", desc := "(LGenerations;II[J)I" } : Jvm.MethodName)) ∈ gw_N0 := gw_in (List.mem_append_right _ (gw_tm (i := 419) rfl))
set_option maxRecDepth 20000 in
theorem mw275 : (Cond.code ({ cls := "GenerationsModel", name := "make", desc := "(II)I" } : Jvm.MethodName) prog_6_method_18_code (4 : Nat) (Option.some Jvm.ClassFile.FieldType.int)) ∈ gw_N0 := gw_in (List.mem_append_right _ (gw_tm (i := 569) rfl))
set_option maxRecDepth 20000 in
theorem mw276 : (Cond.methodLink "GenerationsLaw" (56 : Nat) ({ cls := "GenerationsModel", name := "make", desc := "(II)I" } : Jvm.MethodName)) ∈ gw_N0 := gw_in (List.mem_append_right _ (gw_tm (i := 566) rfl))
set_option maxRecDepth 20000 in
theorem mw277 : (Cond.instanceMethod ({ cls := "GenerationsModel", name := "make", desc := "(II)I" } : Jvm.MethodName)) ∈ gw_N0 := gw_in (List.mem_append_right _ (gw_tm (i := 567) rfl))
set_option maxRecDepth 20000 in
theorem mw278 : (Cond.selects "GenerationsModel" ({ cls := "GenerationsModel", name := "make", desc := "(II)I" } : Jvm.MethodName) ({ cls := "GenerationsModel", name := "make", desc := "(II)I" } : Jvm.MethodName)) ∈ gw_N0 := gw_in (List.mem_append_right _ (gw_tm (i := 568) rfl))
set_option maxRecDepth 20000 in
theorem mw279 : (Cond.codeWith ({ cls := "GenerationsLaw", name := "end", desc := "(LGenerations;IIZ[J)I" } : Jvm.MethodName) method_5_code (6 : Nat) (Option.some Jvm.ClassFile.FieldType.int) [((0 : Nat), (12 : Nat), (15 : Nat), (13 : Nat))]) ∈ gw_N0 := gw_in (List.mem_append_right _ (gw_tm (i := 436) rfl))
set_option maxRecDepth 20000 in
theorem mw280 : (Cond.methodLink "GenerationsLaw" (57 : Nat) ({ cls := "GenerationsLaw", name := "end", desc := "(LGenerations;IIZ[J)I" } : Jvm.MethodName)) ∈ gw_N0 := gw_in (List.mem_append_right _ (gw_tm (i := 434) rfl))
set_option maxRecDepth 20000 in
theorem mw281 : (Cond.static ({ cls := "GenerationsLaw", name := "end", desc := "(LGenerations;IIZ[J)I" } : Jvm.MethodName)) ∈ gw_N0 := gw_in (List.mem_append_right _ (gw_tm (i := 435) rfl))
set_option maxRecDepth 20000 in
theorem mw282 : (Cond.code ({ cls := "GenerationsModel", name := "end", desc := "(IIZ)I" } : Jvm.MethodName) prog_6_method_20_code (6 : Nat) (Option.some Jvm.ClassFile.FieldType.int)) ∈ gw_N0 := gw_in (List.mem_append_right _ (gw_tm (i := 573) rfl))
set_option maxRecDepth 20000 in
theorem mw283 : (Cond.methodLink "GenerationsLaw" (60 : Nat) ({ cls := "GenerationsModel", name := "end", desc := "(IIZ)I" } : Jvm.MethodName)) ∈ gw_N0 := gw_in (List.mem_append_right _ (gw_tm (i := 570) rfl))
set_option maxRecDepth 20000 in
theorem mw284 : (Cond.instanceMethod ({ cls := "GenerationsModel", name := "end", desc := "(IIZ)I" } : Jvm.MethodName)) ∈ gw_N0 := gw_in (List.mem_append_right _ (gw_tm (i := 571) rfl))
set_option maxRecDepth 20000 in
theorem mw285 : (Cond.selects "GenerationsModel" ({ cls := "GenerationsModel", name := "end", desc := "(IIZ)I" } : Jvm.MethodName) ({ cls := "GenerationsModel", name := "end", desc := "(IIZ)I" } : Jvm.MethodName)) ∈ gw_N0 := gw_in (List.mem_append_right _ (gw_tm (i := 572) rfl))
set_option maxRecDepth 20000 in
theorem mw286 : (Cond.code ({ cls := "Generations", name := "dropped", desc := "(I)I" } : Jvm.MethodName) prog_1_method_7_code (2 : Nat) (Option.some Jvm.ClassFile.FieldType.int)) ∈ gw_N0 := gw_in (List.mem_append_right _ (gw_tm (i := 285) rfl))
set_option maxRecDepth 20000 in
theorem mw287 : (Cond.methodLink "GenerationsLaw" (61 : Nat) ({ cls := "Generations", name := "dropped", desc := "(I)I" } : Jvm.MethodName)) ∈ gw_N0 := gw_in (List.mem_append_right _ (gw_tm (i := 282) rfl))
set_option maxRecDepth 20000 in
theorem mw288 : (Cond.instanceMethod ({ cls := "Generations", name := "dropped", desc := "(I)I" } : Jvm.MethodName)) ∈ gw_N0 := gw_in (List.mem_append_right _ (gw_tm (i := 283) rfl))
set_option maxRecDepth 20000 in
theorem mw289 : (Cond.selects "Generations" ({ cls := "Generations", name := "dropped", desc := "(I)I" } : Jvm.MethodName) ({ cls := "Generations", name := "dropped", desc := "(I)I" } : Jvm.MethodName)) ∈ gw_N0 := gw_in (List.mem_append_right _ (gw_tm (i := 284) rfl))
set_option maxRecDepth 20000 in
theorem mw290 : (Cond.code ({ cls := "GenerationsModel", name := "dropped", desc := "(I)I" } : Jvm.MethodName) prog_6_method_22_code (2 : Nat) (Option.some Jvm.ClassFile.FieldType.int)) ∈ gw_N0 := gw_in (List.mem_append_right _ (gw_tm (i := 585) rfl))
set_option maxRecDepth 20000 in
theorem mw291 : (Cond.methodLink "GenerationsLaw" (64 : Nat) ({ cls := "GenerationsModel", name := "dropped", desc := "(I)I" } : Jvm.MethodName)) ∈ gw_N0 := gw_in (List.mem_append_right _ (gw_tm (i := 582) rfl))
set_option maxRecDepth 20000 in
theorem mw292 : (Cond.instanceMethod ({ cls := "GenerationsModel", name := "dropped", desc := "(I)I" } : Jvm.MethodName)) ∈ gw_N0 := gw_in (List.mem_append_right _ (gw_tm (i := 583) rfl))
set_option maxRecDepth 20000 in
theorem mw293 : (Cond.selects "GenerationsModel" ({ cls := "GenerationsModel", name := "dropped", desc := "(I)I" } : Jvm.MethodName) ({ cls := "GenerationsModel", name := "dropped", desc := "(I)I" } : Jvm.MethodName)) ∈ gw_N0 := gw_in (List.mem_append_right _ (gw_tm (i := 584) rfl))
set_option maxRecDepth 20000 in
theorem mw294 : (Cond.codeWith ({ cls := "GenerationsLaw", name := "restart", desc := "(LGenerations;II[J)I" } : Jvm.MethodName) method_6_code (5 : Nat) (Option.some Jvm.ClassFile.FieldType.int) [((0 : Nat), (10 : Nat), (13 : Nat), (13 : Nat))]) ∈ gw_N0 := gw_in (List.mem_append_right _ (gw_tm (i := 443) rfl))
set_option maxRecDepth 20000 in
theorem mw295 : (Cond.methodLink "GenerationsLaw" (65 : Nat) ({ cls := "GenerationsLaw", name := "restart", desc := "(LGenerations;II[J)I" } : Jvm.MethodName)) ∈ gw_N0 := gw_in (List.mem_append_right _ (gw_tm (i := 441) rfl))
set_option maxRecDepth 20000 in
theorem mw296 : (Cond.static ({ cls := "GenerationsLaw", name := "restart", desc := "(LGenerations;II[J)I" } : Jvm.MethodName)) ∈ gw_N0 := gw_in (List.mem_append_right _ (gw_tm (i := 442) rfl))
set_option maxRecDepth 20000 in
theorem mw297 : (Cond.code ({ cls := "GenerationsModel", name := "restart", desc := "(II)I" } : Jvm.MethodName) prog_6_method_21_code (6 : Nat) (Option.some Jvm.ClassFile.FieldType.int)) ∈ gw_N0 := gw_in (List.mem_append_right _ (gw_tm (i := 581) rfl))
set_option maxRecDepth 20000 in
theorem mw298 : (Cond.methodLink "GenerationsLaw" (67 : Nat) ({ cls := "GenerationsModel", name := "restart", desc := "(II)I" } : Jvm.MethodName)) ∈ gw_N0 := gw_in (List.mem_append_right _ (gw_tm (i := 578) rfl))
set_option maxRecDepth 20000 in
theorem mw299 : (Cond.instanceMethod ({ cls := "GenerationsModel", name := "restart", desc := "(II)I" } : Jvm.MethodName)) ∈ gw_N0 := gw_in (List.mem_append_right _ (gw_tm (i := 579) rfl))
set_option maxRecDepth 20000 in
theorem mw300 : (Cond.selects "GenerationsModel" ({ cls := "GenerationsModel", name := "restart", desc := "(II)I" } : Jvm.MethodName) ({ cls := "GenerationsModel", name := "restart", desc := "(II)I" } : Jvm.MethodName)) ∈ gw_N0 := gw_in (List.mem_append_right _ (gw_tm (i := 580) rfl))
set_option maxRecDepth 20000 in
theorem mw301 : (Cond.code ({ cls := "Generations", name := "list", desc := "(I)I" } : Jvm.MethodName) prog_1_method_9_code (2 : Nat) (Option.some Jvm.ClassFile.FieldType.int)) ∈ gw_N0 := gw_in (List.mem_append_right _ (gw_tm (i := 289) rfl))
set_option maxRecDepth 20000 in
theorem mw302 : (Cond.methodLink "GenerationsLaw" (68 : Nat) ({ cls := "Generations", name := "list", desc := "(I)I" } : Jvm.MethodName)) ∈ gw_N0 := gw_in (List.mem_append_right _ (gw_tm (i := 286) rfl))
set_option maxRecDepth 20000 in
theorem mw303 : (Cond.instanceMethod ({ cls := "Generations", name := "list", desc := "(I)I" } : Jvm.MethodName)) ∈ gw_N0 := gw_in (List.mem_append_right _ (gw_tm (i := 287) rfl))
set_option maxRecDepth 20000 in
theorem mw304 : (Cond.selects "Generations" ({ cls := "Generations", name := "list", desc := "(I)I" } : Jvm.MethodName) ({ cls := "Generations", name := "list", desc := "(I)I" } : Jvm.MethodName)) ∈ gw_N0 := gw_in (List.mem_append_right _ (gw_tm (i := 288) rfl))
set_option maxRecDepth 20000 in
theorem mw305 : (Cond.code ({ cls := "GenerationsModel", name := "list", desc := "(I)I" } : Jvm.MethodName) prog_6_method_23_code (2 : Nat) (Option.some Jvm.ClassFile.FieldType.int)) ∈ gw_N0 := gw_in (List.mem_append_right _ (gw_tm (i := 589) rfl))
set_option maxRecDepth 20000 in
theorem mw306 : (Cond.methodLink "GenerationsLaw" (71 : Nat) ({ cls := "GenerationsModel", name := "list", desc := "(I)I" } : Jvm.MethodName)) ∈ gw_N0 := gw_in (List.mem_append_right _ (gw_tm (i := 586) rfl))
set_option maxRecDepth 20000 in
theorem mw307 : (Cond.instanceMethod ({ cls := "GenerationsModel", name := "list", desc := "(I)I" } : Jvm.MethodName)) ∈ gw_N0 := gw_in (List.mem_append_right _ (gw_tm (i := 587) rfl))
set_option maxRecDepth 20000 in
theorem mw308 : (Cond.selects "GenerationsModel" ({ cls := "GenerationsModel", name := "list", desc := "(I)I" } : Jvm.MethodName) ({ cls := "GenerationsModel", name := "list", desc := "(I)I" } : Jvm.MethodName)) ∈ gw_N0 := gw_in (List.mem_append_right _ (gw_tm (i := 588) rfl))
set_option maxRecDepth 20000 in
theorem mw309 : (Cond.code ({ cls := "Generations", name := "reclaim", desc := "(I)I" } : Jvm.MethodName) prog_1_method_10_code (3 : Nat) (Option.some Jvm.ClassFile.FieldType.int)) ∈ gw_N0 := gw_in (List.mem_append_right _ (gw_tm (i := 293) rfl))
set_option maxRecDepth 20000 in
theorem mw310 : (Cond.methodLink "GenerationsLaw" (72 : Nat) ({ cls := "Generations", name := "reclaim", desc := "(I)I" } : Jvm.MethodName)) ∈ gw_N0 := gw_in (List.mem_append_right _ (gw_tm (i := 290) rfl))
set_option maxRecDepth 20000 in
theorem mw311 : (Cond.instanceMethod ({ cls := "Generations", name := "reclaim", desc := "(I)I" } : Jvm.MethodName)) ∈ gw_N0 := gw_in (List.mem_append_right _ (gw_tm (i := 291) rfl))
set_option maxRecDepth 20000 in
theorem mw312 : (Cond.selects "Generations" ({ cls := "Generations", name := "reclaim", desc := "(I)I" } : Jvm.MethodName) ({ cls := "Generations", name := "reclaim", desc := "(I)I" } : Jvm.MethodName)) ∈ gw_N0 := gw_in (List.mem_append_right _ (gw_tm (i := 292) rfl))
set_option maxRecDepth 20000 in
theorem mw313 : (Cond.code ({ cls := "GenerationsModel", name := "reclaim", desc := "(I)I" } : Jvm.MethodName) prog_6_method_24_code (2 : Nat) (Option.some Jvm.ClassFile.FieldType.int)) ∈ gw_N0 := gw_in (List.mem_append_right _ (gw_tm (i := 593) rfl))
set_option maxRecDepth 20000 in
theorem mw314 : (Cond.methodLink "GenerationsLaw" (75 : Nat) ({ cls := "GenerationsModel", name := "reclaim", desc := "(I)I" } : Jvm.MethodName)) ∈ gw_N0 := gw_in (List.mem_append_right _ (gw_tm (i := 590) rfl))
set_option maxRecDepth 20000 in
theorem mw315 : (Cond.instanceMethod ({ cls := "GenerationsModel", name := "reclaim", desc := "(I)I" } : Jvm.MethodName)) ∈ gw_N0 := gw_in (List.mem_append_right _ (gw_tm (i := 591) rfl))
set_option maxRecDepth 20000 in
theorem mw316 : (Cond.selects "GenerationsModel" ({ cls := "GenerationsModel", name := "reclaim", desc := "(I)I" } : Jvm.MethodName) ({ cls := "GenerationsModel", name := "reclaim", desc := "(I)I" } : Jvm.MethodName)) ∈ gw_N0 := gw_in (List.mem_append_right _ (gw_tm (i := 592) rfl))
set_option maxRecDepth 20000 in
theorem mw317 : (Cond.code ({ cls := "Generations", name := "empty", desc := "(Z)I" } : Jvm.MethodName) prog_1_method_11_code (3 : Nat) (Option.some Jvm.ClassFile.FieldType.int)) ∈ gw_N0 := gw_in (List.mem_append_right _ (gw_tm (i := 297) rfl))
set_option maxRecDepth 20000 in
theorem mw318 : (Cond.methodLink "GenerationsLaw" (76 : Nat) ({ cls := "Generations", name := "empty", desc := "(Z)I" } : Jvm.MethodName)) ∈ gw_N0 := gw_in (List.mem_append_right _ (gw_tm (i := 294) rfl))
set_option maxRecDepth 20000 in
theorem mw319 : (Cond.instanceMethod ({ cls := "Generations", name := "empty", desc := "(Z)I" } : Jvm.MethodName)) ∈ gw_N0 := gw_in (List.mem_append_right _ (gw_tm (i := 295) rfl))
set_option maxRecDepth 20000 in
theorem mw320 : (Cond.selects "Generations" ({ cls := "Generations", name := "empty", desc := "(Z)I" } : Jvm.MethodName) ({ cls := "Generations", name := "empty", desc := "(Z)I" } : Jvm.MethodName)) ∈ gw_N0 := gw_in (List.mem_append_right _ (gw_tm (i := 296) rfl))
set_option maxRecDepth 20000 in
theorem mw321 : (Cond.code ({ cls := "GenerationsModel", name := "empty", desc := "(Z)I" } : Jvm.MethodName) prog_6_method_25_code (3 : Nat) (Option.some Jvm.ClassFile.FieldType.int)) ∈ gw_N0 := gw_in (List.mem_append_right _ (gw_tm (i := 597) rfl))
set_option maxRecDepth 20000 in
theorem mw322 : (Cond.methodLink "GenerationsLaw" (80 : Nat) ({ cls := "GenerationsModel", name := "empty", desc := "(Z)I" } : Jvm.MethodName)) ∈ gw_N0 := gw_in (List.mem_append_right _ (gw_tm (i := 594) rfl))
set_option maxRecDepth 20000 in
theorem mw323 : (Cond.instanceMethod ({ cls := "GenerationsModel", name := "empty", desc := "(Z)I" } : Jvm.MethodName)) ∈ gw_N0 := gw_in (List.mem_append_right _ (gw_tm (i := 595) rfl))
set_option maxRecDepth 20000 in
theorem mw324 : (Cond.selects "GenerationsModel" ({ cls := "GenerationsModel", name := "empty", desc := "(Z)I" } : Jvm.MethodName) ({ cls := "GenerationsModel", name := "empty", desc := "(Z)I" } : Jvm.MethodName)) ∈ gw_N0 := gw_in (List.mem_append_right _ (gw_tm (i := 596) rfl))
set_option maxRecDepth 20000 in
theorem mw325 : (Cond.code ({ cls := "Generations", name := "version", desc := "(I)I" } : Jvm.MethodName) prog_1_method_12_code (3 : Nat) (Option.some Jvm.ClassFile.FieldType.int)) ∈ gw_N0 := gw_in (List.mem_append_right _ (gw_tm (i := 301) rfl))
set_option maxRecDepth 20000 in
theorem mw326 : (Cond.methodLink "GenerationsLaw" (81 : Nat) ({ cls := "Generations", name := "version", desc := "(I)I" } : Jvm.MethodName)) ∈ gw_N0 := gw_in (List.mem_append_right _ (gw_tm (i := 298) rfl))
set_option maxRecDepth 20000 in
theorem mw327 : (Cond.instanceMethod ({ cls := "Generations", name := "version", desc := "(I)I" } : Jvm.MethodName)) ∈ gw_N0 := gw_in (List.mem_append_right _ (gw_tm (i := 299) rfl))
set_option maxRecDepth 20000 in
theorem mw328 : (Cond.selects "Generations" ({ cls := "Generations", name := "version", desc := "(I)I" } : Jvm.MethodName) ({ cls := "Generations", name := "version", desc := "(I)I" } : Jvm.MethodName)) ∈ gw_N0 := gw_in (List.mem_append_right _ (gw_tm (i := 300) rfl))
set_option maxRecDepth 20000 in
theorem mw329 : (Cond.code ({ cls := "GenerationsModel", name := "version", desc := "(I)I" } : Jvm.MethodName) prog_6_method_26_code (2 : Nat) (Option.some Jvm.ClassFile.FieldType.int)) ∈ gw_N0 := gw_in (List.mem_append_right _ (gw_tm (i := 601) rfl))
set_option maxRecDepth 20000 in
theorem mw330 : (Cond.methodLink "GenerationsLaw" (84 : Nat) ({ cls := "GenerationsModel", name := "version", desc := "(I)I" } : Jvm.MethodName)) ∈ gw_N0 := gw_in (List.mem_append_right _ (gw_tm (i := 598) rfl))
set_option maxRecDepth 20000 in
theorem mw331 : (Cond.instanceMethod ({ cls := "GenerationsModel", name := "version", desc := "(I)I" } : Jvm.MethodName)) ∈ gw_N0 := gw_in (List.mem_append_right _ (gw_tm (i := 599) rfl))
set_option maxRecDepth 20000 in
theorem mw332 : (Cond.selects "GenerationsModel" ({ cls := "GenerationsModel", name := "version", desc := "(I)I" } : Jvm.MethodName) ({ cls := "GenerationsModel", name := "version", desc := "(I)I" } : Jvm.MethodName)) ∈ gw_N0 := gw_in (List.mem_append_right _ (gw_tm (i := 600) rfl))
set_option maxRecDepth 20000 in
theorem mw333 : (Cond.code ({ cls := "Generations", name := "state", desc := "(I)I" } : Jvm.MethodName) prog_1_method_13_code (2 : Nat) (Option.some Jvm.ClassFile.FieldType.int)) ∈ gw_N0 := gw_in (List.mem_append_right _ (gw_tm (i := 305) rfl))
set_option maxRecDepth 20000 in
theorem mw334 : (Cond.methodLink "GenerationsLaw" (85 : Nat) ({ cls := "Generations", name := "state", desc := "(I)I" } : Jvm.MethodName)) ∈ gw_N0 := gw_in (List.mem_append_right _ (gw_tm (i := 302) rfl))
set_option maxRecDepth 20000 in
theorem mw335 : (Cond.instanceMethod ({ cls := "Generations", name := "state", desc := "(I)I" } : Jvm.MethodName)) ∈ gw_N0 := gw_in (List.mem_append_right _ (gw_tm (i := 303) rfl))
set_option maxRecDepth 20000 in
theorem mw336 : (Cond.selects "Generations" ({ cls := "Generations", name := "state", desc := "(I)I" } : Jvm.MethodName) ({ cls := "Generations", name := "state", desc := "(I)I" } : Jvm.MethodName)) ∈ gw_N0 := gw_in (List.mem_append_right _ (gw_tm (i := 304) rfl))
set_option maxRecDepth 20000 in
theorem mw337 : (Cond.code ({ cls := "GenerationsModel", name := "state", desc := "(I)I" } : Jvm.MethodName) prog_6_method_27_code (2 : Nat) (Option.some Jvm.ClassFile.FieldType.int)) ∈ gw_N0 := gw_in (List.mem_append_right _ (gw_tm (i := 605) rfl))
set_option maxRecDepth 20000 in
theorem mw338 : (Cond.methodLink "GenerationsLaw" (88 : Nat) ({ cls := "GenerationsModel", name := "state", desc := "(I)I" } : Jvm.MethodName)) ∈ gw_N0 := gw_in (List.mem_append_right _ (gw_tm (i := 602) rfl))
set_option maxRecDepth 20000 in
theorem mw339 : (Cond.instanceMethod ({ cls := "GenerationsModel", name := "state", desc := "(I)I" } : Jvm.MethodName)) ∈ gw_N0 := gw_in (List.mem_append_right _ (gw_tm (i := 603) rfl))
set_option maxRecDepth 20000 in
theorem mw340 : (Cond.selects "GenerationsModel" ({ cls := "GenerationsModel", name := "state", desc := "(I)I" } : Jvm.MethodName) ({ cls := "GenerationsModel", name := "state", desc := "(I)I" } : Jvm.MethodName)) ∈ gw_N0 := gw_in (List.mem_append_right _ (gw_tm (i := 604) rfl))
set_option maxRecDepth 20000 in
theorem mw341 : (Cond.code ({ cls := "Generations", name := "count", desc := "(I)I" } : Jvm.MethodName) prog_1_method_14_code (2 : Nat) (Option.some Jvm.ClassFile.FieldType.int)) ∈ gw_N0 := gw_in (List.mem_append_right _ (gw_tm (i := 309) rfl))
set_option maxRecDepth 20000 in
theorem mw342 : (Cond.methodLink "GenerationsLaw" (89 : Nat) ({ cls := "Generations", name := "count", desc := "(I)I" } : Jvm.MethodName)) ∈ gw_N0 := gw_in (List.mem_append_right _ (gw_tm (i := 306) rfl))
set_option maxRecDepth 20000 in
theorem mw343 : (Cond.instanceMethod ({ cls := "Generations", name := "count", desc := "(I)I" } : Jvm.MethodName)) ∈ gw_N0 := gw_in (List.mem_append_right _ (gw_tm (i := 307) rfl))
set_option maxRecDepth 20000 in
theorem mw344 : (Cond.selects "Generations" ({ cls := "Generations", name := "count", desc := "(I)I" } : Jvm.MethodName) ({ cls := "Generations", name := "count", desc := "(I)I" } : Jvm.MethodName)) ∈ gw_N0 := gw_in (List.mem_append_right _ (gw_tm (i := 308) rfl))
set_option maxRecDepth 20000 in
theorem mw345 : (Cond.code ({ cls := "GenerationsModel", name := "count", desc := "(I)I" } : Jvm.MethodName) prog_6_method_28_code (4 : Nat) (Option.some Jvm.ClassFile.FieldType.int)) ∈ gw_N0 := gw_in (List.mem_append_right _ (gw_tm (i := 609) rfl))
set_option maxRecDepth 20000 in
theorem mw346 : (Cond.methodLink "GenerationsLaw" (92 : Nat) ({ cls := "GenerationsModel", name := "count", desc := "(I)I" } : Jvm.MethodName)) ∈ gw_N0 := gw_in (List.mem_append_right _ (gw_tm (i := 606) rfl))
set_option maxRecDepth 20000 in
theorem mw347 : (Cond.instanceMethod ({ cls := "GenerationsModel", name := "count", desc := "(I)I" } : Jvm.MethodName)) ∈ gw_N0 := gw_in (List.mem_append_right _ (gw_tm (i := 607) rfl))
set_option maxRecDepth 20000 in
theorem mw348 : (Cond.selects "GenerationsModel" ({ cls := "GenerationsModel", name := "count", desc := "(I)I" } : Jvm.MethodName) ({ cls := "GenerationsModel", name := "count", desc := "(I)I" } : Jvm.MethodName)) ∈ gw_N0 := gw_in (List.mem_append_right _ (gw_tm (i := 608) rfl))
