section
-- ===== PART A: goes FIRST, ahead of the names: the tables' words, and 'selects' of the private methods out of them =====
/-- a private method of a class that the tables say can be made, by its rows of tables_1 -/
def lw_okq (q : MethodName × Nat) : Prop := (q.1.cls ≠ "java/lang/invoke/MethodHandle" ∧ q.1.cls ≠ "java/lang/invoke/VarHandle") ∧ Cond.instantiable q.1.cls q.2 ∈ tables_1 ∧ Cond.privateMethod q.1 ∈ tables_1 ∧ Cond.instanceMethod q.1 ∈ tables_1
theorem lw_p0 : lw_okq (⟨"Generations", "find", "(I)LGenerations$Generation;"⟩, 9) := ⟨⟨by decide +kernel, by decide +kernel⟩, List.mem_of_getElem? (i := 20) (by decide +kernel), List.mem_of_getElem? (i := 137) (by decide +kernel), List.mem_of_getElem? (i := 138) (by decide +kernel)⟩
theorem lw_p1 : lw_okq (⟨"Generations$Generation", "isDeferred", "()Z"⟩, 5) := ⟨⟨by decide +kernel, by decide +kernel⟩, List.mem_of_getElem? (i := 69) (by decide +kernel), List.mem_of_getElem? (i := 159) (by decide +kernel), List.mem_of_getElem? (i := 160) (by decide +kernel)⟩
theorem lw_p2 : lw_okq (⟨"Generations", "placeFor", "(I)LGenerations$Generation;"⟩, 9) := ⟨⟨by decide +kernel, by decide +kernel⟩, List.mem_of_getElem? (i := 20) (by decide +kernel), List.mem_of_getElem? (i := 163) (by decide +kernel), List.mem_of_getElem? (i := 164) (by decide +kernel)⟩
theorem lw_p3 : lw_okq (⟨"java/util/ArrayList", "add", "(Ljava/lang/Object;[Ljava/lang/Object;I)V"⟩, 3) := ⟨⟨by decide +kernel, by decide +kernel⟩, List.mem_of_getElem? (i := 43) (by decide +kernel), List.mem_of_getElem? (i := 171) (by decide +kernel), List.mem_of_getElem? (i := 172) (by decide +kernel)⟩
theorem lw_p4 : lw_okq (⟨"java/util/ArrayList", "grow", "()[Ljava/lang/Object;"⟩, 3) := ⟨⟨by decide +kernel, by decide +kernel⟩, List.mem_of_getElem? (i := 43) (by decide +kernel), List.mem_of_getElem? (i := 175) (by decide +kernel), List.mem_of_getElem? (i := 176) (by decide +kernel)⟩
theorem lw_p5 : lw_okq (⟨"java/util/ArrayList", "grow", "(I)[Ljava/lang/Object;"⟩, 3) := ⟨⟨by decide +kernel, by decide +kernel⟩, List.mem_of_getElem? (i := 43) (by decide +kernel), List.mem_of_getElem? (i := 179) (by decide +kernel), List.mem_of_getElem? (i := 180) (by decide +kernel)⟩
theorem lw_p6 : lw_okq (⟨"Generations$Generation", "beginAnew", "(I)V"⟩, 5) := ⟨⟨by decide +kernel, by decide +kernel⟩, List.mem_of_getElem? (i := 69) (by decide +kernel), List.mem_of_getElem? (i := 217) (by decide +kernel), List.mem_of_getElem? (i := 218) (by decide +kernel)⟩
theorem lw_p7 : lw_okq (⟨"Generations", "bringIntoRow", "(LGenerations$Generation;)V"⟩, 9) := ⟨⟨by decide +kernel, by decide +kernel⟩, List.mem_of_getElem? (i := 20) (by decide +kernel), List.mem_of_getElem? (i := 221) (by decide +kernel), List.mem_of_getElem? (i := 222) (by decide +kernel)⟩
theorem lw_p8 : lw_okq (⟨"Generations$Row", "put", "(I)V"⟩, 2) := ⟨⟨by decide +kernel, by decide +kernel⟩, List.mem_of_getElem? (i := 28) (by decide +kernel), List.mem_of_getElem? (i := 225) (by decide +kernel), List.mem_of_getElem? (i := 226) (by decide +kernel)⟩
theorem lw_p9 : lw_okq (⟨"Generations", "holdToLimit", "()V"⟩, 9) := ⟨⟨by decide +kernel, by decide +kernel⟩, List.mem_of_getElem? (i := 20) (by decide +kernel), List.mem_of_getElem? (i := 235) (by decide +kernel), List.mem_of_getElem? (i := 236) (by decide +kernel)⟩
theorem lw_p10 : lw_okq (⟨"Generations$Row", "at", "(I)I"⟩, 2) := ⟨⟨by decide +kernel, by decide +kernel⟩, List.mem_of_getElem? (i := 28) (by decide +kernel), List.mem_of_getElem? (i := 239) (by decide +kernel), List.mem_of_getElem? (i := 240) (by decide +kernel)⟩
theorem lw_p11 : lw_okq (⟨"Generations", "letGo", "(I)V"⟩, 9) := ⟨⟨by decide +kernel, by decide +kernel⟩, List.mem_of_getElem? (i := 20) (by decide +kernel), List.mem_of_getElem? (i := 243) (by decide +kernel), List.mem_of_getElem? (i := 244) (by decide +kernel)⟩
theorem lw_p12 : lw_okq (⟨"Generations$Row", "removeOldest", "(I)V"⟩, 2) := ⟨⟨by decide +kernel, by decide +kernel⟩, List.mem_of_getElem? (i := 28) (by decide +kernel), List.mem_of_getElem? (i := 247) (by decide +kernel), List.mem_of_getElem? (i := 248) (by decide +kernel)⟩
theorem lw_p13 : lw_okq (⟨"Generations$Row", "copy", "()[I"⟩, 2) := ⟨⟨by decide +kernel, by decide +kernel⟩, List.mem_of_getElem? (i := 28) (by decide +kernel), List.mem_of_getElem? (i := 258) (by decide +kernel), List.mem_of_getElem? (i := 259) (by decide +kernel)⟩
theorem lw_p14 : lw_okq (⟨"Generations", "howManyAre", "(I)I"⟩, 9) := ⟨⟨by decide +kernel, by decide +kernel⟩, List.mem_of_getElem? (i := 20) (by decide +kernel), List.mem_of_getElem? (i := 311) (by decide +kernel), List.mem_of_getElem? (i := 312) (by decide +kernel)⟩
theorem lw_p15 : lw_okq (⟨"Generations", "jobThatMakes", "()I"⟩, 9) := ⟨⟨by decide +kernel, by decide +kernel⟩, List.mem_of_getElem? (i := 20) (by decide +kernel), List.mem_of_getElem? (i := 315) (by decide +kernel), List.mem_of_getElem? (i := 316) (by decide +kernel)⟩
def lw_privs_1 : List (MethodName × Nat) := [(⟨"Generations", "find", "(I)LGenerations$Generation;"⟩, 9), (⟨"Generations$Generation", "isDeferred", "()Z"⟩, 5), (⟨"Generations", "placeFor", "(I)LGenerations$Generation;"⟩, 9), (⟨"java/util/ArrayList", "add", "(Ljava/lang/Object;[Ljava/lang/Object;I)V"⟩, 3), (⟨"java/util/ArrayList", "grow", "()[Ljava/lang/Object;"⟩, 3), (⟨"java/util/ArrayList", "grow", "(I)[Ljava/lang/Object;"⟩, 3), (⟨"Generations$Generation", "beginAnew", "(I)V"⟩, 5), (⟨"Generations", "bringIntoRow", "(LGenerations$Generation;)V"⟩, 9), (⟨"Generations$Row", "put", "(I)V"⟩, 2), (⟨"Generations", "holdToLimit", "()V"⟩, 9), (⟨"Generations$Row", "at", "(I)I"⟩, 2), (⟨"Generations", "letGo", "(I)V"⟩, 9), (⟨"Generations$Row", "removeOldest", "(I)V"⟩, 2), (⟨"Generations$Row", "copy", "()[I"⟩, 2), (⟨"Generations", "howManyAre", "(I)I"⟩, 9), (⟨"Generations", "jobThatMakes", "()I"⟩, 9)]
theorem lw_r1 : ∀ q ∈ lw_privs_1, lw_okq q := List.forall_mem_cons.mpr ⟨lw_p0, List.forall_mem_cons.mpr ⟨lw_p1, List.forall_mem_cons.mpr ⟨lw_p2, List.forall_mem_cons.mpr ⟨lw_p3, List.forall_mem_cons.mpr ⟨lw_p4, List.forall_mem_cons.mpr ⟨lw_p5, List.forall_mem_cons.mpr ⟨lw_p6, List.forall_mem_cons.mpr ⟨lw_p7, List.forall_mem_cons.mpr ⟨lw_p8, List.forall_mem_cons.mpr ⟨lw_p9, List.forall_mem_cons.mpr ⟨lw_p10, List.forall_mem_cons.mpr ⟨lw_p11, List.forall_mem_cons.mpr ⟨lw_p12, List.forall_mem_cons.mpr ⟨lw_p13, List.forall_mem_cons.mpr ⟨lw_p14, List.forall_mem_cons.mpr ⟨lw_p15, fun _ h => absurd h List.not_mem_nil⟩⟩⟩⟩⟩⟩⟩⟩⟩⟩⟩⟩⟩⟩⟩⟩
theorem lw_p16 : lw_okq (⟨"Generations", "jobCalled", "(I)LGenerations$Job;"⟩, 9) := ⟨⟨by decide +kernel, by decide +kernel⟩, List.mem_of_getElem? (i := 20) (by decide +kernel), List.mem_of_getElem? (i := 330) (by decide +kernel), List.mem_of_getElem? (i := 331) (by decide +kernel)⟩
theorem lw_p17 : lw_okq (⟨"java/lang/Throwable", "fillInStackTrace", "(I)Ljava/lang/Throwable;"⟩, 6) := ⟨⟨by decide +kernel, by decide +kernel⟩, List.mem_of_getElem? (i := 370) (by decide +kernel), List.mem_of_getElem? (i := 368) (by decide +kernel), List.mem_of_getElem? (i := 369) (by decide +kernel)⟩
theorem lw_p18 : lw_okq (⟨"Generations$Job", "plus", "(I)I"⟩, 2) := ⟨⟨by decide +kernel, by decide +kernel⟩, List.mem_of_getElem? (i := 256) (by decide +kernel), List.mem_of_getElem? (i := 401) (by decide +kernel), List.mem_of_getElem? (i := 402) (by decide +kernel)⟩
theorem lw_p19 : lw_okq (⟨"Generations$Job", "base", "()I"⟩, 2) := ⟨⟨by decide +kernel, by decide +kernel⟩, List.mem_of_getElem? (i := 256) (by decide +kernel), List.mem_of_getElem? (i := 405) (by decide +kernel), List.mem_of_getElem? (i := 406) (by decide +kernel)⟩
theorem lw_p20 : lw_okq (⟨"Generations$Generation", "isNewOneOf", "(I)Z"⟩, 5) := ⟨⟨by decide +kernel, by decide +kernel⟩, List.mem_of_getElem? (i := 69) (by decide +kernel), List.mem_of_getElem? (i := 410) (by decide +kernel), List.mem_of_getElem? (i := 411) (by decide +kernel)⟩
theorem lw_p21 : lw_okq (⟨"Generations$Job", "countedFromNewest", "(I)I"⟩, 2) := ⟨⟨by decide +kernel, by decide +kernel⟩, List.mem_of_getElem? (i := 256) (by decide +kernel), List.mem_of_getElem? (i := 415) (by decide +kernel), List.mem_of_getElem? (i := 416) (by decide +kernel)⟩
theorem lw_p22 : lw_okq (⟨"Generations$Generation", "isInTheWayOf", "(I)Z"⟩, 5) := ⟨⟨by decide +kernel, by decide +kernel⟩, List.mem_of_getElem? (i := 69) (by decide +kernel), List.mem_of_getElem? (i := 427) (by decide +kernel), List.mem_of_getElem? (i := 428) (by decide +kernel)⟩
theorem lw_p23 : lw_okq (⟨"Generations", "anotherMakes", "(I)Z"⟩, 9) := ⟨⟨by decide +kernel, by decide +kernel⟩, List.mem_of_getElem? (i := 20) (by decide +kernel), List.mem_of_getElem? (i := 431) (by decide +kernel), List.mem_of_getElem? (i := 432) (by decide +kernel)⟩
theorem lw_p24 : lw_okq (⟨"Generations$Generation", "failedFor", "(II)Z"⟩, 5) := ⟨⟨by decide +kernel, by decide +kernel⟩, List.mem_of_getElem? (i := 69) (by decide +kernel), List.mem_of_getElem? (i := 449) (by decide +kernel), List.mem_of_getElem? (i := 450) (by decide +kernel)⟩
theorem lw_p25 : lw_okq (⟨"GenerationsModel", "what", "(I)I"⟩, 15) := ⟨⟨by decide +kernel, by decide +kernel⟩, List.mem_of_getElem? (i := 453) (by decide +kernel), List.mem_of_getElem? (i := 516) (by decide +kernel), List.mem_of_getElem? (i := 517) (by decide +kernel)⟩
theorem lw_p26 : lw_okq (⟨"GenerationsModel", "enter", "(I)V"⟩, 15) := ⟨⟨by decide +kernel, by decide +kernel⟩, List.mem_of_getElem? (i := 453) (by decide +kernel), List.mem_of_getElem? (i := 520) (by decide +kernel), List.mem_of_getElem? (i := 521) (by decide +kernel)⟩
theorem lw_p27 : lw_okq (⟨"GenerationsModel", "become", "(II)V"⟩, 15) := ⟨⟨by decide +kernel, by decide +kernel⟩, List.mem_of_getElem? (i := 453) (by decide +kernel), List.mem_of_getElem? (i := 527) (by decide +kernel), List.mem_of_getElem? (i := 528) (by decide +kernel)⟩
theorem lw_p28 : lw_okq (⟨"GenerationsModel", "owner", "(I)I"⟩, 15) := ⟨⟨by decide +kernel, by decide +kernel⟩, List.mem_of_getElem? (i := 453) (by decide +kernel), List.mem_of_getElem? (i := 531) (by decide +kernel), List.mem_of_getElem? (i := 532) (by decide +kernel)⟩
theorem lw_p29 : lw_okq (⟨"GenerationsModel", "versionOf", "(I)I"⟩, 15) := ⟨⟨by decide +kernel, by decide +kernel⟩, List.mem_of_getElem? (i := 453) (by decide +kernel), List.mem_of_getElem? (i := 535) (by decide +kernel), List.mem_of_getElem? (i := 536) (by decide +kernel)⟩
theorem lw_p30 : lw_okq (⟨"GenerationsModel", "be", "(IIII)V"⟩, 15) := ⟨⟨by decide +kernel, by decide +kernel⟩, List.mem_of_getElem? (i := 453) (by decide +kernel), List.mem_of_getElem? (i := 539) (by decide +kernel), List.mem_of_getElem? (i := 540) (by decide +kernel)⟩
theorem lw_p31 : lw_okq (⟨"GenerationsModel", "isJob", "(I)Z"⟩, 15) := ⟨⟨by decide +kernel, by decide +kernel⟩, List.mem_of_getElem? (i := 453) (by decide +kernel), List.mem_of_getElem? (i := 551) (by decide +kernel), List.mem_of_getElem? (i := 552) (by decide +kernel)⟩
def lw_privs_2 : List (MethodName × Nat) := [(⟨"Generations", "jobCalled", "(I)LGenerations$Job;"⟩, 9), (⟨"java/lang/Throwable", "fillInStackTrace", "(I)Ljava/lang/Throwable;"⟩, 6), (⟨"Generations$Job", "plus", "(I)I"⟩, 2), (⟨"Generations$Job", "base", "()I"⟩, 2), (⟨"Generations$Generation", "isNewOneOf", "(I)Z"⟩, 5), (⟨"Generations$Job", "countedFromNewest", "(I)I"⟩, 2), (⟨"Generations$Generation", "isInTheWayOf", "(I)Z"⟩, 5), (⟨"Generations", "anotherMakes", "(I)Z"⟩, 9), (⟨"Generations$Generation", "failedFor", "(II)Z"⟩, 5), (⟨"GenerationsModel", "what", "(I)I"⟩, 15), (⟨"GenerationsModel", "enter", "(I)V"⟩, 15), (⟨"GenerationsModel", "become", "(II)V"⟩, 15), (⟨"GenerationsModel", "owner", "(I)I"⟩, 15), (⟨"GenerationsModel", "versionOf", "(I)I"⟩, 15), (⟨"GenerationsModel", "be", "(IIII)V"⟩, 15), (⟨"GenerationsModel", "isJob", "(I)Z"⟩, 15)]
theorem lw_r2 : ∀ q ∈ lw_privs_2, lw_okq q := List.forall_mem_cons.mpr ⟨lw_p16, List.forall_mem_cons.mpr ⟨lw_p17, List.forall_mem_cons.mpr ⟨lw_p18, List.forall_mem_cons.mpr ⟨lw_p19, List.forall_mem_cons.mpr ⟨lw_p20, List.forall_mem_cons.mpr ⟨lw_p21, List.forall_mem_cons.mpr ⟨lw_p22, List.forall_mem_cons.mpr ⟨lw_p23, List.forall_mem_cons.mpr ⟨lw_p24, List.forall_mem_cons.mpr ⟨lw_p25, List.forall_mem_cons.mpr ⟨lw_p26, List.forall_mem_cons.mpr ⟨lw_p27, List.forall_mem_cons.mpr ⟨lw_p28, List.forall_mem_cons.mpr ⟨lw_p29, List.forall_mem_cons.mpr ⟨lw_p30, List.forall_mem_cons.mpr ⟨lw_p31, fun _ h => absurd h List.not_mem_nil⟩⟩⟩⟩⟩⟩⟩⟩⟩⟩⟩⟩⟩⟩⟩⟩
theorem lw_p32 : lw_okq (⟨"GenerationsModel", "fails", "(Z)Z"⟩, 15) := ⟨⟨by decide +kernel, by decide +kernel⟩, List.mem_of_getElem? (i := 453) (by decide +kernel), List.mem_of_getElem? (i := 555) (by decide +kernel), List.mem_of_getElem? (i := 556) (by decide +kernel)⟩
theorem lw_p33 : lw_okq (⟨"GenerationsModel", "numberOf", "(II)I"⟩, 15) := ⟨⟨by decide +kernel, by decide +kernel⟩, List.mem_of_getElem? (i := 453) (by decide +kernel), List.mem_of_getElem? (i := 559) (by decide +kernel), List.mem_of_getElem? (i := 560) (by decide +kernel)⟩
theorem lw_p34 : lw_okq (⟨"GenerationsModel", "isOwn", "(II)Z"⟩, 15) := ⟨⟨by decide +kernel, by decide +kernel⟩, List.mem_of_getElem? (i := 453) (by decide +kernel), List.mem_of_getElem? (i := 563) (by decide +kernel), List.mem_of_getElem? (i := 564) (by decide +kernel)⟩
theorem lw_p35 : lw_okq (⟨"GenerationsModel", "settle", "()V"⟩, 15) := ⟨⟨by decide +kernel, by decide +kernel⟩, List.mem_of_getElem? (i := 453) (by decide +kernel), List.mem_of_getElem? (i := 575) (by decide +kernel), List.mem_of_getElem? (i := 576) (by decide +kernel)⟩
def lw_privs_3 : List (MethodName × Nat) := [(⟨"GenerationsModel", "fails", "(Z)Z"⟩, 15), (⟨"GenerationsModel", "numberOf", "(II)I"⟩, 15), (⟨"GenerationsModel", "isOwn", "(II)Z"⟩, 15), (⟨"GenerationsModel", "settle", "()V"⟩, 15)]
theorem lw_r3 : ∀ q ∈ lw_privs_3, lw_okq q := List.forall_mem_cons.mpr ⟨lw_p32, List.forall_mem_cons.mpr ⟨lw_p33, List.forall_mem_cons.mpr ⟨lw_p34, List.forall_mem_cons.mpr ⟨lw_p35, fun _ h => absurd h List.not_mem_nil⟩⟩⟩⟩
def lw_privs : List (MethodName × Nat) := lw_privs_1 ++ (lw_privs_2 ++ (lw_privs_3))
def lw_tbl : List Cond := k2_sels lw_privs ++ tables_1
theorem lw_privs_ok : ∀ q ∈ lw_privs, lw_okq q := by
  show ∀ q ∈ lw_privs_1 ++ (lw_privs_2 ++ (lw_privs_3)), lw_okq q
  exact List.forall_mem_append.mpr ⟨lw_r1, List.forall_mem_append.mpr ⟨lw_r2, lw_r3⟩⟩
end
section
/-! WORLDS AS MAPS. A world is a map from addresses to (role, entry); the heap holds it (gw_P). Roles are ghost numbers: cells of different roles are apart. Every contract takes the whole map and hands back the whole map: no cutting out, no joining. -/
abbrev gw_M : Type := Nat → Option (Nat × va_E)
def gw_up (M : gw_M) (a r : Nat) (e : va_E) : gw_M := fun j => if j = a then some (r, e) else M j
theorem gw_up_self (M : gw_M) (a r : Nat) (e : va_E) : gw_up M a r e a = some (r, e) := by simp [gw_up]
theorem gw_up_ne {M : gw_M} {a r b : Nat} {e : va_E} (h : b ≠ a) : gw_up M a r e b = M b := by simp [gw_up, h]
theorem gw_role {M : gw_M} {a b ra rb : Nat} {ea eb : va_E} (ha : M a = some (ra, ea)) (hb : M b = some (rb, eb)) (h : ra ≠ rb) : b ≠ a := by
  intro e
  subst e
  rw [ha] at hb
  exact h (congrArg Prod.fst (Option.some.inj hb))
/-- a cell of another role stays -/
theorem gw_keep {M : gw_M} {a b ra rb r : Nat} {ea eb e : va_E} (hb : M b = some (rb, eb)) (ha : M a = some (ra, ea)) (h : ra ≠ rb) : gw_up M a r e b = some (rb, eb) := by
  rw [gw_up_ne (gw_role ha hb h)]
  exact hb
/-- a cell that was there stays when a new one comes -/
theorem gw_keepN {M : gw_M} {a b rb r : Nat} {eb e : va_E} (hb : M b = some (rb, eb)) (ha : M a = none) : gw_up M a r e b = some (rb, eb) := by
  rw [gw_up_ne (fun q => by rw [q, ha] at hb; cases hb)]
  exact hb
theorem gw_newNe {M : gw_M} {a b rb : Nat} {eb : va_E} (hb : M b = some (rb, eb)) (ha : M a = none) : b ≠ a := fun q => by rw [q, ha] at hb; cases hb
def gw_P (D : va_G) (cl : List vw_C) (B0 : Nat) (M : gw_M) (H : Heap) : Prop := ∃ ws : va_W, va_P D cl ws H ∧ va_D (fun q => B0 ≤ q) ws ∧ ∀ (a r : Nat) (e : va_E), M a = some (r, e) → (a, e) ∈ ws
theorem gw_P.at {D : va_G} {cl : List vw_C} {B0 : Nat} {M : gw_M} {H : Heap} (h : gw_P D cl B0 M H) {a r : Nat} {e : va_E} (ha : M a = some (r, e)) : va_at D cl (a, e) H ∧ B0 ≤ a := by
  obtain ⟨ws, hP, hD, hM⟩ := h
  obtain ⟨k, hk⟩ := List.getElem?_of_mem (hM _ _ _ ha)
  exact ⟨hP k _ hk, hD.2 k _ hk⟩
theorem gw_P.lt {D : va_G} {cl : List vw_C} {B0 : Nat} {M : gw_M} {H : Heap} (h : gw_P D cl B0 M H) {a r : Nat} {e : va_E} (ha : M a = some (r, e)) : a < H.size := (h.at ha).1.lt
theorem gw_P.kept {D : va_G} {cl : List vw_C} {B0 : Nat} {M : gw_M} {H H1 : Heap} (h : gw_P D cl B0 M H) (hq : ∀ q : Nat, q < H.size → H1[q]? = H[q]?) : gw_P D cl B0 M H1 := by
  obtain ⟨ws, hP, hD, hM⟩ := h
  exact ⟨ws, hP.kept (fun k q hk => hq _ (hP k q hk).lt), hD, hM⟩
theorem gw_set {ws : va_W} {M : gw_M} {k a r : Nat} {e0 e : va_E} (hk : ws[k]? = some (a, e0)) (hM : ∀ (a r : Nat) (e : va_E), M a = some (r, e) → (a, e) ∈ ws) : ∀ (b r' : Nat) (e' : va_E), gw_up M a r e b = some (r', e') → (b, e') ∈ ws.set k (a, e) := by
  intro b r' e' h
  have hl := (List.getElem?_eq_some_iff.mp hk).1
  by_cases hb : b = a
  · subst hb
    rw [gw_up_self] at h
    have h2 : e = e' := congrArg Prod.snd (Option.some.inj h)
    subst h2
    exact List.mem_of_getElem? (List.getElem?_set_self hl)
  · rw [gw_up_ne hb] at h
    obtain ⟨j, hj⟩ := List.getElem?_of_mem (hM _ _ _ h)
    have hjk : j ≠ k := by
      intro q
      subst q
      rw [hk] at hj
      exact hb (congrArg Prod.fst (Option.some.inj hj)).symm
    exact List.mem_of_getElem? (i := j) (by rw [List.getElem?_set_ne (Ne.symm hjk)]; exact hj)
theorem gw_push {ws : va_W} {M : gw_M} {a r : Nat} {e : va_E} (hM : ∀ (a r : Nat) (e : va_E), M a = some (r, e) → (a, e) ∈ ws) : ∀ (b r' : Nat) (e' : va_E), gw_up M a r e b = some (r', e') → (b, e') ∈ ws ++ [(a, e)] := by
  intro b r' e' h
  by_cases hb : b = a
  · subst hb
    rw [gw_up_self] at h
    have h2 : e = e' := congrArg Prod.snd (Option.some.inj h)
    subst h2
    exact List.mem_append_right _ List.mem_cons_self
  · rw [gw_up_ne hb] at h
    exact List.mem_append_left _ (hM _ _ _ h)
theorem gw_fresh {ws : va_W} {M : gw_M} {A : Nat → Prop} {a : Nat} {e : va_E} (hD : va_D A (ws ++ [(a, e)])) (hM : ∀ (a r : Nat) (e : va_E), M a = some (r, e) → (a, e) ∈ ws) : M a = none := by
  cases h : M a with
  | none => rfl
  | some x =>
    obtain ⟨r, e'⟩ := x
    obtain ⟨j, hj⟩ := List.getElem?_of_mem (hM _ _ _ h)
    have hl := (List.getElem?_eq_some_iff.mp hj).1
    have h1 : (ws ++ [(a, e)])[j]? = some (a, e') := by rw [List.getElem?_append_left hl]; exact hj
    have h2 : (ws ++ [(a, e)])[ws.length]? = some (a, e) := by rw [List.getElem?_append_right (Nat.le_refl _), Nat.sub_self]; rfl
    have := hD.1 _ _ _ _ h1 h2 rfl
    omega
section GWR
variable {p : Program} {l : Launch} {e : Env} {R : Room} {s : State} {m : MethodId} {args : Array Value} {below : List Frame} {meth : Method} {c : Code} {H : Heap} {locs : List Loc} {cells slots : Nat} {Q : State → Prop}
variable {cc : ByteArray} {pc : Nat} {ls : Array Slot} {rest : List Value} {D : va_G} {cl : List vw_C} {B0 a r : Nat} {tys : List (ClassId × FieldType)} {M : gw_M} {H0 : Heap}
theorem gw_get (hexec : p.tables.exec = Jvm.exec) (hb : c.code = cc) {own ref C : String} {T : u_T} {N ci index : Nat} {Ts : List Cond} (hts : ∀ w ∈ Ts, w.before args s = true) (hin : ∀ w ∈ u_ws C T N, w ∈ Ts) (hown : s.vm.findClass own = some m.cls) (hK : va_K D cl tys s) (hW : gw_P D cl B0 M H) {fs : List Value} (he : M a = some (r, .inr (ci, fs))) (hc : cl[ci]? = some (C, T, N)) (k : Nat) (hk : k < N) (hlink : (Cond.fieldLink own index ref (T k).2.1 (T k).2.2.1).before args s = true) (hsame : ∀ x, s.fieldFound? (T k).1 (T k).2.1 (T k).2.2.1 = some x → s.fieldFound? ref (T k).2.1 (T k).2.2.1 = some x) {v : Value} (hv : fs[k]? = some v) (hdg : decode cc pc = .ok (.getfield index, 3))
    (kk : W p l e R s m args below meth c H locs cells slots Q (F0 m (pc + 3) ls (v :: rest))) : W p l e R s m args below meth c H locs cells slots Q (F0 m pc ls (.ref a :: rest)) := by
  obtain ⟨ws, hP, hD, hM⟩ := hW
  obtain ⟨q0, hq⟩ := List.getElem?_of_mem (hM _ _ _ he)
  exact va_get hexec hb hts hin hown hK hP q0 hq hc k hk hlink hsame hv hdg kk
theorem gw_getN (hexec : p.tables.exec = Jvm.exec) (hb : c.code = cc) {own ref C host : String} {T : u_T} {N ci index : Nat} {Ts : List Cond} (hts : ∀ w ∈ Ts, w.before args s = true) (hin : ∀ w ∈ u_ws C T N, w ∈ Ts) (hown : s.vm.findClass own = some m.cls) (hK : va_K D cl tys s) (hW : gw_P D cl B0 M H) {fs : List Value} (he : M a = some (r, .inr (ci, fs))) (hc : cl[ci]? = some (C, T, N)) (k : Nat) (hk : k < N) (hlink : (Cond.fieldLinkNest own index ref (T k).2.1 (T k).2.2.1 host).before args s = true) (hsame : ∀ x, s.fieldFound? (T k).1 (T k).2.1 (T k).2.2.1 = some x → s.fieldFound? ref (T k).2.1 (T k).2.2.1 = some x) {v : Value} (hv : fs[k]? = some v) (hdg : decode cc pc = .ok (.getfield index, 3))
    (kk : W p l e R s m args below meth c H locs cells slots Q (F0 m (pc + 3) ls (v :: rest))) : W p l e R s m args below meth c H locs cells slots Q (F0 m pc ls (.ref a :: rest)) := by
  obtain ⟨ws, hP, hD, hM⟩ := hW
  obtain ⟨q0, hq⟩ := List.getElem?_of_mem (hM _ _ _ he)
  exact va_getN hexec hb hts hin hown hK hP q0 hq hc k hk hlink hsame hv hdg kk
theorem gw_put (hexec : p.tables.exec = Jvm.exec) (hb : c.code = cc) {own ref C : String} {T : u_T} {N ci index : Nat} {Ts : List Cond} (hts : ∀ w ∈ Ts, w.before args s = true) (hin : ∀ w ∈ u_ws C T N, w ∈ Ts) (ty0 : Nat → FieldType) (hty : ∀ k, k < N → parseFieldDescriptor (T k).2.2.1 = some (ty0 k)) (hnm : ∀ a, a < N → ∀ b, b < N → a ≠ b → (T a).2.1 ≠ (T b).2.1) (hown : s.vm.findClass own = some m.cls) (hK : va_K D cl tys s) (hW : gw_P D cl B0 M H) (hS : va_S (fun q => B0 ≤ q) H0 H locs) {fs : List Value} (he : M a = some (r, .inr (ci, fs))) (hc : cl[ci]? = some (C, T, N)) (k : Nat) (hk : k < N) (hlink : (Cond.fieldLink own index ref (T k).2.1 (T k).2.2.1).before args s = true) (hsame : ∀ x, s.fieldFound? (T k).1 (T k).2.1 (T k).2.2.1 = some x → s.fieldFound? ref (T k).2.1 (T k).2.2.1 = some x) (hfin : (T k).2.2.2 = false) {ty : FieldType} {v : Value} (hd : parseFieldDescriptor (T k).2.2.1 = some ty) (hn : narrow ty v = v) (hfit : fits ty v = true) (hl : k < fs.length) (hdg : decode cc pc = .ok (.putfield index, 3))
    (kk : ∀ (H1 : Heap) (locs1 : List Loc), gw_P D cl B0 (gw_up M a r (.inr (ci, fs.set k v))) H1 → va_S (fun q => B0 ≤ q) H0 H1 locs1 → W p l e R s m args below meth c H1 locs1 cells slots Q (F0 m (pc + 3) ls rest)) : W p l e R s m args below meth c H locs cells slots Q (F0 m pc ls (v :: .ref a :: rest)) := by
  obtain ⟨ws, hP, hD, hM⟩ := hW
  obtain ⟨q0, hq⟩ := List.getElem?_of_mem (hM _ _ _ he)
  exact va_put hexec hb hts hin ty0 hty hnm hown hK hP hD hS q0 hq hc k hk hlink hsame hfin hd hn hfit hl hdg (fun H1 locs1 hP1 hD1 hS1 => kk H1 locs1 ⟨_, hP1, hD1, gw_set hq hM⟩ hS1)
theorem gw_putN (hexec : p.tables.exec = Jvm.exec) (hb : c.code = cc) {own ref C host : String} {T : u_T} {N ci index : Nat} {Ts : List Cond} (hts : ∀ w ∈ Ts, w.before args s = true) (hin : ∀ w ∈ u_ws C T N, w ∈ Ts) (ty0 : Nat → FieldType) (hty : ∀ k, k < N → parseFieldDescriptor (T k).2.2.1 = some (ty0 k)) (hnm : ∀ a, a < N → ∀ b, b < N → a ≠ b → (T a).2.1 ≠ (T b).2.1) (hown : s.vm.findClass own = some m.cls) (hK : va_K D cl tys s) (hW : gw_P D cl B0 M H) (hS : va_S (fun q => B0 ≤ q) H0 H locs) {fs : List Value} (he : M a = some (r, .inr (ci, fs))) (hc : cl[ci]? = some (C, T, N)) (k : Nat) (hk : k < N) (hlink : (Cond.fieldLinkNest own index ref (T k).2.1 (T k).2.2.1 host).before args s = true) (hsame : ∀ x, s.fieldFound? (T k).1 (T k).2.1 (T k).2.2.1 = some x → s.fieldFound? ref (T k).2.1 (T k).2.2.1 = some x) (hfin : (T k).2.2.2 = false) {ty : FieldType} {v : Value} (hd : parseFieldDescriptor (T k).2.2.1 = some ty) (hn : narrow ty v = v) (hfit : fits ty v = true) (hl : k < fs.length) (hdg : decode cc pc = .ok (.putfield index, 3))
    (kk : ∀ (H1 : Heap) (locs1 : List Loc), gw_P D cl B0 (gw_up M a r (.inr (ci, fs.set k v))) H1 → va_S (fun q => B0 ≤ q) H0 H1 locs1 → W p l e R s m args below meth c H1 locs1 cells slots Q (F0 m (pc + 3) ls rest)) : W p l e R s m args below meth c H locs cells slots Q (F0 m pc ls (v :: .ref a :: rest)) := by
  obtain ⟨ws, hP, hD, hM⟩ := hW
  obtain ⟨q0, hq⟩ := List.getElem?_of_mem (hM _ _ _ he)
  exact va_putN hexec hb hts hin ty0 hty hnm hown hK hP hD hS q0 hq hc k hk hlink hsame hfin hd hn hfit hl hdg (fun H1 locs1 hP1 hD1 hS1 => kk H1 locs1 ⟨_, hP1, hD1, gw_set hq hM⟩ hS1)
theorem gw_putF (hexec : p.tables.exec = Jvm.exec) (hb : c.code = cc) {own ref C : String} {T : u_T} {N ci index : Nat} {Ts : List Cond} (hts : ∀ w ∈ Ts, w.before args s = true) (hin : ∀ w ∈ u_ws C T N, w ∈ Ts) (ty0 : Nat → FieldType) (hty : ∀ k, k < N → parseFieldDescriptor (T k).2.2.1 = some (ty0 k)) (hnm : ∀ a, a < N → ∀ b, b < N → a ≠ b → (T a).2.1 ≠ (T b).2.1) (hown : s.vm.findClass own = some m.cls) (hK : va_K D cl tys s) (hW : gw_P D cl B0 M H) (hS : va_S (fun q => B0 ≤ q) H0 H locs) {fs : List Value} (he : M a = some (r, .inr (ci, fs))) (hc : cl[ci]? = some (C, T, N)) (k : Nat) (hk : k < N) (hlink : (Cond.fieldLink own index ref (T k).2.1 (T k).2.2.1).before args s = true) (hsame : ∀ x, s.fieldFound? (T k).1 (T k).2.1 (T k).2.2.1 = some x → s.fieldFound? ref (T k).2.1 (T k).2.2.1 = some x) (hfin : (T k).2.2.2 = true) (hin2 : meth.name = "<init>") (hdecl : (T k).1 = own) {ty : FieldType} {v : Value} (hd : parseFieldDescriptor (T k).2.2.1 = some ty) (hn : narrow ty v = v) (hfit : fits ty v = true) (hl : k < fs.length) (hdg : decode cc pc = .ok (.putfield index, 3))
    (kk : ∀ (H1 : Heap) (locs1 : List Loc), gw_P D cl B0 (gw_up M a r (.inr (ci, fs.set k v))) H1 → va_S (fun q => B0 ≤ q) H0 H1 locs1 → W p l e R s m args below meth c H1 locs1 cells slots Q (F0 m (pc + 3) ls rest)) : W p l e R s m args below meth c H locs cells slots Q (F0 m pc ls (v :: .ref a :: rest)) := by
  obtain ⟨ws, hP, hD, hM⟩ := hW
  obtain ⟨q0, hq⟩ := List.getElem?_of_mem (hM _ _ _ he)
  exact va_putF hexec hb hts hin ty0 hty hnm hown hK hP hD hS q0 hq hc k hk hlink hsame hfin hin2 hdecl hd hn hfit hl hdg (fun H1 locs1 hP1 hD1 hS1 => kk H1 locs1 ⟨_, hP1, hD1, gw_set hq hM⟩ hS1)
theorem gw_iald (hexec : p.tables.exec = Jvm.exec) (hb : c.code = cc) (hK : va_K D cl tys s) (hW : gw_P D cl B0 M H) (t0 : Nat) {cA : ClassId} {n : Nat} {f : Nat → Int32} (ha : M a = some (r, .inl (cA, n, .inl f))) (ht : tys[t0]? = some (cA, .int)) {i : Int32} (hin : vp_in i n) (hdg : decode cc pc = .ok (.iaload, 1))
    (kk : W p l e R s m args below meth c H locs cells slots Q (F0 m (pc + 1) ls (.int (f i.toNatClampNeg) :: rest))) : W p l e R s m args below meth c H locs cells slots Q (F0 m pc ls (.int i :: .ref a :: rest)) := by
  obtain ⟨ws, hP, hD, hM⟩ := hW
  obtain ⟨q0, hq⟩ := List.getElem?_of_mem (hM _ _ _ ha)
  exact va_iald hexec hb hK hP q0 t0 hq ht hin hdg kk
theorem gw_zald (hexec : p.tables.exec = Jvm.exec) (hb : c.code = cc) (hK : va_K D cl tys s) (hW : gw_P D cl B0 M H) (t0 : Nat) {cA : ClassId} {n : Nat} {f : Nat → Int32} (ha : M a = some (r, .inl (cA, n, .inl f))) (ht : tys[t0]? = some (cA, .boolean)) {i : Int32} (hin : vp_in i n) (hdg : decode cc pc = .ok (.baload, 1))
    (kk : W p l e R s m args below meth c H locs cells slots Q (F0 m (pc + 1) ls (.int (f i.toNatClampNeg) :: rest))) : W p l e R s m args below meth c H locs cells slots Q (F0 m pc ls (.int i :: .ref a :: rest)) := by
  obtain ⟨ws, hP, hD, hM⟩ := hW
  obtain ⟨q0, hq⟩ := List.getElem?_of_mem (hM _ _ _ ha)
  exact va_zald hexec hb hK hP q0 t0 hq ht hin hdg kk
theorem gw_lald (hexec : p.tables.exec = Jvm.exec) (hb : c.code = cc) (hK : va_K D cl tys s) (hW : gw_P D cl B0 M H) (t0 : Nat) {cA : ClassId} {n : Nat} {f : Nat → Int64} (ha : M a = some (r, .inl (cA, n, .inr (.inl f)))) (ht : tys[t0]? = some (cA, .long)) {i : Int32} (hin : vp_in i n) (hdg : decode cc pc = .ok (.laload, 1))
    (kk : W p l e R s m args below meth c H locs cells slots Q (F0 m (pc + 1) ls (.long (f i.toNatClampNeg) :: rest))) : W p l e R s m args below meth c H locs cells slots Q (F0 m pc ls (.int i :: .ref a :: rest)) := by
  obtain ⟨ws, hP, hD, hM⟩ := hW
  obtain ⟨q0, hq⟩ := List.getElem?_of_mem (hM _ _ _ ha)
  exact va_lald hexec hb hK hP q0 t0 hq ht hin hdg kk
theorem gw_aald (hexec : p.tables.exec = Jvm.exec) (hb : c.code = cc) (hK : va_K D cl tys s) (hW : gw_P D cl B0 M H) (t0 : Nat) {cA : ClassId} {C : String} {n : Nat} {f : Nat → Option Nat} (ha : M a = some (r, .inl (cA, n, .inr (.inr (.inr (.inr f)))))) (ht : tys[t0]? = some (cA, .object C)) {i : Int32} (hin : vp_in i n) (hdg : decode cc pc = .ok (.aaload, 1))
    (kk : W p l e R s m args below meth c H locs cells slots Q (F0 m (pc + 1) ls (va_rf (f i.toNatClampNeg) :: rest))) : W p l e R s m args below meth c H locs cells slots Q (F0 m pc ls (.int i :: .ref a :: rest)) := by
  obtain ⟨ws, hP, hD, hM⟩ := hW
  obtain ⟨q0, hq⟩ := List.getElem?_of_mem (hM _ _ _ ha)
  exact va_aldq hexec hb hK hP q0 t0 hq ht hin hdg kk
theorem gw_alen (hexec : p.tables.exec = Jvm.exec) (hb : c.code = cc) (hK : va_K D cl tys s) (hW : gw_P D cl B0 M H) (t0 : Nat) {cA : ClassId} {x : vp_A} (ha : M a = some (r, .inl (cA, x))) {ty : FieldType} (ht : tys[t0]? = some (cA, ty)) {v : Int32} (hv : Int32.ofNat x.1 = v) (hdg : decode cc pc = .ok (.arraylength, 1))
    (kk : W p l e R s m args below meth c H locs cells slots Q (F0 m (pc + 1) ls (.int v :: rest))) : W p l e R s m args below meth c H locs cells slots Q (F0 m pc ls (.ref a :: rest)) := by
  obtain ⟨ws, hP, hD, hM⟩ := hW
  obtain ⟨q0, hq⟩ := List.getElem?_of_mem (hM _ _ _ ha)
  exact va_alen hexec hb hK hP q0 t0 hq ht hv hdg kk
theorem gw_iast (hexec : p.tables.exec = Jvm.exec) (hb : c.code = cc) (hK : va_K D cl tys s) (hW : gw_P D cl B0 M H) (hS : va_S (fun q => B0 ≤ q) H0 H locs) (t0 : Nat) {cA : ClassId} {n : Nat} {f : Nat → Int32} (ha : M a = some (r, .inl (cA, n, .inl f))) (ht : tys[t0]? = some (cA, .int)) {i : Int32} {x : Int32} (hin : vp_in i n) (hdg : decode cc pc = .ok (.iastore, 1))
    (kk : ∀ (H1 : Heap) (locs1 : List Loc), gw_P D cl B0 (gw_up M a r (.inl (cA, n, .inl (upd f i.toNatClampNeg x)))) H1 → va_S (fun q => B0 ≤ q) H0 H1 locs1 → W p l e R s m args below meth c H1 locs1 cells slots Q (F0 m (pc + 1) ls rest)) : W p l e R s m args below meth c H locs cells slots Q (F0 m pc ls (.int x :: .int i :: .ref a :: rest)) := by
  obtain ⟨ws, hP, hD, hM⟩ := hW
  obtain ⟨q0, hq⟩ := List.getElem?_of_mem (hM _ _ _ ha)
  exact va_iast hexec hb hK hP hD hS q0 t0 hq ht hin hdg (fun H1 locs1 hP1 hD1 hS1 => kk H1 locs1 ⟨_, hP1, hD1, gw_set hq hM⟩ hS1)
theorem gw_last (hexec : p.tables.exec = Jvm.exec) (hb : c.code = cc) (hK : va_K D cl tys s) (hW : gw_P D cl B0 M H) (hS : va_S (fun q => B0 ≤ q) H0 H locs) (t0 : Nat) {cA : ClassId} {n : Nat} {f : Nat → Int64} (ha : M a = some (r, .inl (cA, n, .inr (.inl f)))) (ht : tys[t0]? = some (cA, .long)) {i : Int32} {x : Int64} (hin : vp_in i n) (hdg : decode cc pc = .ok (.lastore, 1))
    (kk : ∀ (H1 : Heap) (locs1 : List Loc), gw_P D cl B0 (gw_up M a r (.inl (cA, n, .inr (.inl (vp_updL f i.toNatClampNeg x))))) H1 → va_S (fun q => B0 ≤ q) H0 H1 locs1 → W p l e R s m args below meth c H1 locs1 cells slots Q (F0 m (pc + 1) ls rest)) : W p l e R s m args below meth c H locs cells slots Q (F0 m pc ls (.long x :: .int i :: .ref a :: rest)) := by
  obtain ⟨ws, hP, hD, hM⟩ := hW
  obtain ⟨q0, hq⟩ := List.getElem?_of_mem (hM _ _ _ ha)
  exact va_last hexec hb hK hP hD hS q0 t0 hq ht hin hdg (fun H1 locs1 hP1 hD1 hS1 => kk H1 locs1 ⟨_, hP1, hD1, gw_set hq hM⟩ hS1)
theorem gw_aastO (hexec : p.tables.exec = Jvm.exec) (hb : c.code = cc) (hK : va_K D cl tys s) (hW : gw_P D cl B0 M H) (hS : va_S (fun q => B0 ≤ q) H0 H locs) (t0 ci : Nat) {E : String} {cA : ClassId} {rr : vw_C} {n v rv : Nat} {vs : List Value} {f : Nat → Option Nat} (ha : M a = some (r, .inl (cA, n, .inr (.inr (.inr (.inr f)))))) (ht : tys[t0]? = some (cA, .object E)) (hca : va_Nw (.castable rr.1 E) s) (hv : M v = some (rv, .inr (ci, vs))) (hc : cl[ci]? = some rr) {i : Int32} (hin : vp_in i n) (hdg : decode cc pc = .ok (.aastore, 1))
    (kk : ∀ (H1 : Heap) (locs1 : List Loc), gw_P D cl B0 (gw_up M a r (.inl (cA, n, .inr (.inr (.inr (.inr (va_up f i.toNatClampNeg (some v)))))))) H1 → va_S (fun q => B0 ≤ q) H0 H1 locs1 → W p l e R s m args below meth c H1 locs1 cells slots Q (F0 m (pc + 1) ls rest)) : W p l e R s m args below meth c H locs cells slots Q (F0 m pc ls (.ref v :: .int i :: .ref a :: rest)) := by
  obtain ⟨ws, hP, hD, hM⟩ := hW
  obtain ⟨q0, hq⟩ := List.getElem?_of_mem (hM _ _ _ ha)
  obtain ⟨qk, hqk⟩ := List.getElem?_of_mem (hM _ _ _ hv)
  exact va_astqO hexec hb hK hP hD hS q0 t0 qk ci hq ht hca hqk hc hin hdg (fun H1 locs1 hP1 hD1 hS1 => kk H1 locs1 ⟨_, hP1, hD1, gw_set hq hM⟩ hS1)
theorem gw_newa (hexec : p.tables.exec = Jvm.exec) (hb : c.code = cc) {atype : ArrayType} (harr : (Cond.arrayClass (newarray.typeOf atype)).before args s = true) {ty : FieldType} (hty : newarray.typeOf atype = ty) (hK : va_K D cl tys s) (hW : gw_P D cl B0 M H) (hS : va_S (fun q => B0 ≤ q) H0 H locs) (hB : B0 ≤ H0.size)
    {n : Int32} {N' : Nat} {a0 : vp_A} (ha : ∀ cA : ClassId, vp_cell cA a0 = arrV cA N' (fun _ => defaultValue ty)) (hn : ¬ n < 0) (hN : n.toNatClampNeg = N') (hbytes : N' * componentBytes ty ≤ 536870912) (hcells : cells + 1 ≤ R.cells) (hslots : slots + N' ≤ R.slots) (hdg : decode cc pc = .ok (.newarray atype, 2)) (t0 : Nat) {cA0 : ClassId} (ht : tys[t0]? = some (cA0, ty)) (hra : ∀ cA : ClassId, va_RA s cA ty → va_RA s cA0 ty → cA = cA0) (r : Nat)
    (kk : ∀ (q : Nat) (H1 : Heap), M q = none → gw_P D cl B0 (gw_up M q r (.inl (cA0, a0))) H1 → va_S (fun q => B0 ≤ q) H0 H1 locs →
      W p l e R s m args below meth c H1 locs (cells + 1) (slots + N') Q (F0 m (pc + 2) ls (.ref q :: rest))) : W p l e R s m args below meth c H locs cells slots Q (F0 m pc ls (.int n :: rest)) := by
  obtain ⟨ws, hP, hD, hM⟩ := hW
  refine va_newa hexec hb harr hty hK hP hD hS (fun q h => Nat.le_trans hB h) ha hn hN hbytes hcells hslots hdg (fun q cA H1 hK1 hP1 hD1 hS1 => ?_)
  have e1 : cA = cA0 := by
    have h1 := (hK1.2 tys.length (cA, ty) (by simp)).2
    exact hra cA h1 (hK.2 t0 _ ht).2
  subst e1
  exact kk q H1 (gw_fresh hD1 hM) ⟨_, hP1, hD1, gw_push hM⟩ hS1
theorem gw_newq (hexec : p.tables.exec = Jvm.exec) (hb : c.code = cc) {own C : String} {index : Nat} (hown : s.vm.findClass own = some m.cls) (hclink : (Cond.classLink own index C).before args s = true) (hover : va_AO C s) (hK : va_K D cl tys s) (hW : gw_P D cl B0 M H) (hS : va_S (fun q => B0 ≤ q) H0 H locs) (hB : B0 ≤ H0.size)
    {n : Int32} {N' : Nat} (hn : ¬ n < 0) (hN : n.toNatClampNeg = N') (hbytes : N' * 4 ≤ 536870912) (hcells : cells + 1 ≤ R.cells) (hslots : slots + N' ≤ R.slots) (hdg : decode cc pc = .ok (.anewarray index, 3)) (t0 : Nat) {cA0 : ClassId} (ht : tys[t0]? = some (cA0, .object C)) (r : Nat)
    (kk : ∀ (q : Nat) (H1 : Heap), M q = none → gw_P D cl B0 (gw_up M q r (.inl (cA0, N', .inr (.inr (.inr (.inr (fun _ => none))))))) H1 → va_S (fun q => B0 ≤ q) H0 H1 locs →
      W p l e R s m args below meth c H1 locs (cells + 1) (slots + N') Q (F0 m (pc + 3) ls (.ref q :: rest))) : W p l e R s m args below meth c H locs cells slots Q (F0 m pc ls (.int n :: rest)) := by
  obtain ⟨ws, hP, hD, hM⟩ := hW
  refine va_newq hexec hb hown hclink hover hK hP hD hS (fun q h => Nat.le_trans hB h) hn hN hbytes hcells hslots hdg (fun q cA H1 hK1 hP1 hD1 hS1 => ?_)
  have e1 : cA = cA0 := by
    obtain ⟨_, _, _, _, _, h1⟩ := (hK1.2 tys.length (cA, .object C) (by simp)).2
    obtain ⟨_, _, _, _, _, h2⟩ := (hK.2 t0 _ ht).2
    exact Option.some.inj (h1.symm.trans h2)
  subst e1
  exact kk q H1 (gw_fresh hD1 hM) ⟨_, hP1, hD1, gw_push hM⟩ hS1
theorem gw_new (hexec : p.tables.exec = Jvm.exec) (hb : c.code = cc) {own C : String} {T : u_T} {N ci index : Nat} {Ts : List Cond} (hts : ∀ w ∈ Ts, w.before args s = true) (hin : ∀ w ∈ u_ws C T N, w ∈ Ts) (ty : Nat → FieldType) (hty : ∀ k, k < N → parseFieldDescriptor (T k).2.2.1 = some (ty k)) (hown : s.vm.findClass own = some m.cls) (hcl : (Cond.classLink own index C).before args s = true) (hinst : (Cond.instantiable C N).before args s = true) (hini : (Cond.initialized C).before args s = true)
    (hK : va_K D cl tys s) (hW : gw_P D cl B0 M H) (hS : va_S (fun q => B0 ≤ q) H0 H locs) (hB : B0 ≤ H0.size) (hc : cl[ci]? = some (C, T, N)) {fs : List Value} (hfs : ∀ j, j < N → defaultValue (ty j) = vp_V fs j) (hcells : cells + 1 ≤ R.cells) (hslots : slots + N ≤ R.slots) (hdg : decode cc pc = .ok (.new index, 3)) (r : Nat)
    (kk : ∀ (q : Nat) (H1 : Heap), M q = none → gw_P D cl B0 (gw_up M q r (.inr (ci, fs))) H1 → va_S (fun q => B0 ≤ q) H0 H1 locs →
      W p l e R s m args below meth c H1 locs (cells + 1) (slots + N) Q (F0 m (pc + 3) ls (.ref q :: rest))) : W p l e R s m args below meth c H locs cells slots Q (F0 m pc ls rest) := by
  obtain ⟨ws, hP, hD, hM⟩ := hW
  exact va_new hexec hb hts hin ty hty hown hcl hinst hini hK hP hD hS (fun q h => Nat.le_trans hB h) hc hfs hcells hslots hdg (fun q H1 hP1 hD1 hS1 => kk q H1 (gw_fresh hD1 hM) ⟨_, hP1, hD1, gw_push hM⟩ hS1)
theorem gw_copyi (hexec : p.tables.exec = Jvm.exec) (hb : c.code = cc) (hml : c.maxLocals = ls.size) {own : String} {index : Nat} (hown : s.vm.findClass own = some m.cls) (hlink : (Cond.methodLink own index arraycopyName).before args s = true) (hnat : (Cond.native arraycopyName).before args s = true) (hstat : (Cond.static arraycopyName).before args s = true) (hini : (Cond.initialized "java/lang/System").before args s = true)
    (hK : va_K D cl tys s) (hW : gw_P D cl B0 M H) (hS : va_S (fun q => B0 ≤ q) H0 H locs) (t0 t1 : Nat) {a0 r0 : Nat} {c0 c1 : ClassId} {n0 n1 : Nat} {f g : Nat → Int32} (ha0 : M a0 = some (r0, .inl (c0, n0, .inl f))) (ha1 : M a = some (r, .inl (c1, n1, .inl g))) (ht0 : tys[t0]? = some (c0, .int)) (ht1 : tys[t1]? = some (c1, .int))
    {sp dp n : Int32} (h1 : ¬ sp < 0) (h2 : ¬ dp < 0) (h3 : ¬ n < 0) (h4 : sp.toNatClampNeg + n.toNatClampNeg ≤ n0) (h5 : dp.toNatClampNeg + n.toNatClampNeg ≤ n1)
    (hframes : 1 ≤ R.frames) (hlocals : (rest.map fun v => v.category).sum + (nativeFrameWords "java/lang/System" "arraycopy" 5 + 11) ≤ R.locals) (hdg : decode cc pc = .ok (.invokestatic index, 3))
    (kk : ∀ (H1 : Heap) (locs1 : List Loc), gw_P D cl B0 (gw_up M a r (.inl (c1, n1, .inl (va_cpy f g sp.toNatClampNeg dp.toNatClampNeg n.toNatClampNeg)))) H1 → va_S (fun q => B0 ≤ q) H0 H1 locs1 → W p l e R s m args below meth c H1 locs1 cells slots Q (F0 m (pc + 3) ls rest)) : W p l e R s m args below meth c H locs cells slots Q (F0 m pc ls (.int n :: .int dp :: .ref a :: .int sp :: .ref a0 :: rest)) := by
  obtain ⟨ws, hP, hD, hM⟩ := hW
  obtain ⟨q0, hq0⟩ := List.getElem?_of_mem (hM _ _ _ ha0)
  obtain ⟨q1, hq1⟩ := List.getElem?_of_mem (hM _ _ _ ha1)
  exact va_copyi hexec hb hml hown hlink hnat hstat hini hK hP hD hS q0 q1 t0 t1 hq0 hq1 ht0 ht1 rfl h1 h2 h3 h4 h5 (fun i _ => rfl) hframes hlocals hdg (fun H1 locs1 hP1 hD1 hS1 => kk H1 locs1 ⟨_, hP1, hD1, gw_set hq1 hM⟩ hS1)
theorem gw_recv {ci : Nat} {q : vw_C} {fs : List Value} (hK : va_K D cl tys s) (hW : gw_P D cl B0 M H) (hc : cl[ci]? = some q) (he : M a = some (r, .inr (ci, fs))) : ∃ cell : Cell, H[a]? = some cell ∧ cell.vm.isStatics = false ∧ s.vm.findClass q.1 = some cell.cls := by
  obtain ⟨ws, hP, hD, hM⟩ := hW
  obtain ⟨q0, hq⟩ := List.getElem?_of_mem (hM _ _ _ he)
  exact va_recv hK hP hc hq
end GWR
theorem gw_zi (n : Nat) : ∀ cA : ClassId, vp_cell cA (n, .inl (fun _ => 0)) = arrV cA n (fun _ => defaultValue .int) := fun _ => rfl
theorem gw_zl (n : Nat) : ∀ cA : ClassId, vp_cell cA (n, .inr (.inl (fun _ => 0))) = arrV cA n (fun _ => defaultValue .long) := fun _ => rfl
theorem gw_ri {s : State} : ∀ cA cB : ClassId, va_RA s cA .int → va_RA s cB .int → cA = cB := fun _ _ h1 h2 => Option.some.inj (h1.symm.trans h2)
theorem gw_rl {s : State} : ∀ cA cB : ClassId, va_RA s cA .long → va_RA s cB .long → cA = cB := fun _ _ h1 h2 => Option.some.inj (h1.symm.trans h2)
end
section
def F_X : u_T := fun k => match k with
  | 0 => ("Generations", "limit", "I", true)
  | 1 => ("Generations", "scratches", "Z", true)
  | 2 => ("Generations", "emptyRule", "Z", false)
  | 3 => ("Generations", "row", "LGenerations$Row;", true)
  | 4 => ("Generations", "jobs", "Ljava/util/ArrayList;", true)
  | 5 => ("Generations", "known", "Ljava/util/ArrayList;", true)
  | 6 => ("Generations", "nowhere", "LGenerations$Generation;", true)
  | 7 => ("Generations", "gone", "[I", true)
  | _ => ("Generations", "goneCount", "I", false)
def t_X : Nat → FieldType := fun k => match k with
  | 0 => .int
  | 1 => .boolean
  | 2 => .boolean
  | 3 => .object "Generations$Row"
  | 4 => .object "java/util/ArrayList"
  | 5 => .object "java/util/ArrayList"
  | 6 => .object "Generations$Generation"
  | 7 => .array .int
  | _ => .int
def F_Row : u_T := fun k => match k with
  | 0 => ("Generations$Row", "numbers", "[I", true)
  | _ => ("Generations$Row", "size", "I", false)
def t_Row : Nat → FieldType := fun k => match k with
  | 0 => .array .int
  | _ => .int
def F_Gen : u_T := fun k => match k with
  | 0 => ("Generations$Generation", "number", "I", true)
  | 1 => ("Generations$Generation", "state", "I", false)
  | 2 => ("Generations$Generation", "version", "I", false)
  | 3 => ("Generations$Generation", "maker", "I", false)
  | _ => ("Generations$Generation", "failedAtEnd", "I", false)
def t_Gen : Nat → FieldType := fun k => match k with
  | 0 => .int
  | 1 => .int
  | 2 => .int
  | 3 => .int
  | _ => .int
def F_Job : u_T := fun k => match k with
  | 0 => ("Generations$Job", "rowThen", "[I", true)
  | _ => ("Generations$Job", "ends", "I", false)
def t_Job : Nat → FieldType := fun k => match k with
  | 0 => .array .int
  | _ => .int
def F_AL : u_T := fun k => match k with
  | 0 => ("java/util/AbstractList", "modCount", "I", false)
  | 1 => ("java/util/ArrayList", "elementData", "[Ljava/lang/Object;", false)
  | _ => ("java/util/ArrayList", "size", "I", false)
def t_AL : Nat → FieldType := fun k => match k with
  | 0 => .int
  | 1 => .array (.object "java/lang/Object")
  | _ => .int
def F_Mo : u_T := fun k => match k with
  | 0 => ("GenerationsModel", "code", "I", false)
  | 1 => ("GenerationsModel", "limit", "I", true)
  | 2 => ("GenerationsModel", "scratch", "Z", true)
  | 3 => ("GenerationsModel", "empties", "Z", false)
  | 4 => ("GenerationsModel", "there", "[I", true)
  | 5 => ("GenerationsModel", "row", "[I", true)
  | 6 => ("GenerationsModel", "size", "I", false)
  | 7 => ("GenerationsModel", "found", "[I", true)
  | 8 => ("GenerationsModel", "foundSize", "[I", true)
  | 9 => ("GenerationsModel", "ends", "[I", true)
  | 10 => ("GenerationsModel", "made", "[I", true)
  | 11 => ("GenerationsModel", "jobs", "I", false)
  | 12 => ("GenerationsModel", "maker", "I", false)
  | 13 => ("GenerationsModel", "drops", "[I", true)
  | _ => ("GenerationsModel", "dropped", "I", false)
def t_Mo : Nat → FieldType := fun k => match k with
  | 0 => .int
  | 1 => .int
  | 2 => .boolean
  | 3 => .boolean
  | 4 => .array .int
  | 5 => .array .int
  | 6 => .int
  | 7 => .array .int
  | 8 => .array .int
  | 9 => .array .int
  | 10 => .array .int
  | 11 => .int
  | 12 => .int
  | 13 => .array .int
  | _ => .int
abbrev vwCl : List vw_C := [("Generations", F_X, 9), ("Generations$Row", F_Row, 2), ("Generations$Generation", F_Gen, 5), ("Generations$Job", F_Job, 2), ("java/util/ArrayList", F_AL, 3), ("GenerationsModel", F_Mo, 15)]
theorem n_X : ∀ a, a < 9 → ∀ b, b < 9 → a ≠ b → (F_X a).2.1 ≠ (F_X b).2.1 := by decide +kernel
theorem t_X_ok : ∀ k, k < 9 → parseFieldDescriptor (F_X k).2.2.1 = some (t_X k) := by decide +kernel
theorem n_Row : ∀ a, a < 2 → ∀ b, b < 2 → a ≠ b → (F_Row a).2.1 ≠ (F_Row b).2.1 := by decide +kernel
theorem t_Row_ok : ∀ k, k < 2 → parseFieldDescriptor (F_Row k).2.2.1 = some (t_Row k) := by decide +kernel
theorem n_Gen : ∀ a, a < 5 → ∀ b, b < 5 → a ≠ b → (F_Gen a).2.1 ≠ (F_Gen b).2.1 := by decide +kernel
theorem t_Gen_ok : ∀ k, k < 5 → parseFieldDescriptor (F_Gen k).2.2.1 = some (t_Gen k) := by decide +kernel
theorem n_Job : ∀ a, a < 2 → ∀ b, b < 2 → a ≠ b → (F_Job a).2.1 ≠ (F_Job b).2.1 := by decide +kernel
theorem t_Job_ok : ∀ k, k < 2 → parseFieldDescriptor (F_Job k).2.2.1 = some (t_Job k) := by decide +kernel
theorem n_AL : ∀ a, a < 3 → ∀ b, b < 3 → a ≠ b → (F_AL a).2.1 ≠ (F_AL b).2.1 := by decide +kernel
theorem t_AL_ok : ∀ k, k < 3 → parseFieldDescriptor (F_AL k).2.2.1 = some (t_AL k) := by decide +kernel
theorem n_Mo : ∀ a, a < 15 → ∀ b, b < 15 → a ≠ b → (F_Mo a).2.1 ≠ (F_Mo b).2.1 := by decide +kernel
theorem t_Mo_ok : ∀ k, k < 15 → parseFieldDescriptor (F_Mo k).2.2.1 = some (t_Mo k) := by decide +kernel
end
section
/-! THE ENVIRONMENT OF EVERY METHOD: the tables' words (gw_N0, all of them hold in every warmed state), the classes, the old cells that are read (statics, texts). G = ((class numbers, slots), array classes, old addresses, the first new address). -/
abbrev gw_G : Type := va_G × (Nat → ClassId) × (Nat → Nat) × Nat
abbrev gw_ty (G : gw_G) : List (ClassId × FieldType) := [(G.2.1 0, .int), (G.2.1 1, .object "java/lang/Object"), (G.2.1 2, .long)]
abbrev gw_A (G : gw_G) : Nat → Prop := fun q => G.2.2.2 ≤ q
def gw_nk (w : Cond) : Bool := match w with
  | .fieldLinkNest _ _ _ _ _ _ => true
  | .methodLinkNest _ _ _ _ => true
  | .castable _ _ => true
  | .declares _ => true
  | _ => false
def gw_gk (w : Cond) : Bool := goodWord w || gw_nk w
theorem gw_nf {w : Cond} (h : gw_nk w = true) : (∃ a i b n d hh, w = .fieldLinkNest a i b n d hh) ∨ (∃ a i x hh, w = .methodLinkNest a i x hh) ∨ (∃ C T, w = .castable C T) ∨ ∃ x, w = .declares x := by
  unfold gw_nk at h
  split at h
  · exact Or.inl ⟨_, _, _, _, _, _, rfl⟩
  · exact Or.inr (Or.inl ⟨_, _, _, _, rfl⟩)
  · exact Or.inr (Or.inr (Or.inl ⟨_, _, rfl⟩))
  · exact Or.inr (Or.inr (Or.inr ⟨_, rfl⟩))
  · cases h
theorem gw_ww {w : Cond} (hg : gw_gk w = true) {s U : State} {a a' : Array Value} (hW : s.WarmedH U.vm) (h : w.before a s = true) : w.before a' U = true := by
  unfold gw_gk at hg
  rcases Bool.or_eq_true _ _ |>.mp hg with h1 | h1
  · exact word_at hW (good_of_word h1) h
  · rcases gw_nf h1 with ⟨_, _, _, _, _, _, rfl⟩ | ⟨_, _, _, _, rfl⟩ | ⟨_, _, rfl⟩ | ⟨_, rfl⟩
    · exact va_Nw.use rfl (va_Nw.warmF hW (va_Nw.of rfl h))
    · exact va_Nw.use rfl (va_Nw.warmM hW (va_Nw.of rfl h))
    · exact va_Nw.use rfl (va_Nw.warmC hW (va_Nw.of rfl h))
    · exact va_Nw.use rfl (va_Nw.warmD hW (va_Nw.of rfl h))
def gw_N0 : List Cond := lw_tbl.filter gw_gk
theorem gw_N0_gk {w : Cond} (h : w ∈ gw_N0) : gw_gk w = true := (List.mem_filter.mp h).2
theorem gw_in {w : Cond} (h : w ∈ lw_tbl) (hg : gw_gk w = true := by rfl) : w ∈ gw_N0 := List.mem_filter.mpr ⟨h, hg⟩
theorem gw_tm {w : Cond} {i : Nat} (h : tables_1[i]? = some w) : w ∈ tables_1 := List.mem_of_getElem? h
/-- where a static of references lies, in the old part of the heap -/
def gt_L (C n d : String) (A : Nat → Prop) (U : State) (H : Heap) : Prop := va_Zq C n d A U H ∧ ∃ (c : ClassId) (k : Class) (i : Nat) (f : Field) (a : Nat) (cell : Cell), U.vm.findClass C = some c ∧ U.fieldFound? C n d = some (c, k, i, f) ∧ f.isStatic = true ∧ k.statics = some a ∧ H[a]? = some cell ∧ cell.vm.isStatics = true ∧ cell.cls = c ∧ f.slot < cell.slots.size ∧ k.staticTypes[f.slot]? = some f.type ∧ ¬ A a
theorem gt_L.kept {C n d : String} {A : Nat → Prop} {U : State} {H H1 : Heap} (h : gt_L C n d A U H) (hq : ∀ a : Nat, a < H.size → ¬ A a → H1[a]? = H[a]?) : gt_L C n d A U H1 := by
  obtain ⟨h0, c, k, i, f, a, cell, h1, h2, h3, h4, h5, h6, h7, h8, h9, h10⟩ := h
  exact ⟨h0.kept hq, c, k, i, f, a, cell, h1, h2, h3, h4, by rw [hq a (Array.getElem?_eq_some_iff.mp h5).1 h10]; exact h5, h6, h7, h8, h9, h10⟩
theorem gt_L.moved {C n d : String} {A : Nat → Prop} {u U : State} {H : Heap} (hvm : u.vm.Alike U.vm) (h : gt_L C n d A u H) : gt_L C n d A U H := by
  obtain ⟨h0, c, k, i, f, a, cell, h1, h2, h3, h4, h5, h6, h7, h8, h9, h10⟩ := h
  obtain ⟨k', hi', he⟩ := State.fieldFound?_setVm hvm h2
  exact ⟨va_Zq.moved hvm h0, c, k', i, f, a, cell, by rw [hvm.findClass]; exact h1, hi', h3, by rw [he]; exact h4, h5, h6, h7, h8, by rw [he]; exact h9, h10⟩
theorem gt_L.lays {C n d : String} {A : Nat → Prop} {U : State} (h : gt_L C n d A U U.heap) (args : Array Value) : (Cond.laysStatic C n d).before args U = true := by
  obtain ⟨-, c, k, i, f, a, cell, h1, h2, h3, h4, h5, h6, h7, h8, h9, -⟩ := h
  show (Cond.laysStatic C n d).holds args U none U [] = true
  exact Cond.laysStatic_of h1 h2 h3 h4 h5 h6 h7 h8 h9
theorem gt_Z.ref {C n d : String} {v : Value} {A : Nat → Prop} {U : State} (h : va_Z C n d v A U U.heap) (hv : v.isRef = true) (args : Array Value) : (Cond.isRef (.static C n d)).before args U = true := by
  obtain ⟨cf, kf, fi, f, a, cell, h1, h2, h3, h4, h5, h6, h7, -⟩ := h
  have he : (Term.static C n d).eval args U none [] U = some v := by simp [Term.eval, State.fieldNamed?, h1, h2, h4, h5, h6, h7]
  simp only [Cond.before, Cond.holds, Cond.value, he]
  cases v <;> simp_all [Value.isRef]
theorem gt_L.ref {C n d : String} {A : Nat → Prop} {U : State} (h : gt_L C n d A U U.heap) (args : Array Value) : (Cond.isRef (.static C n d)).before args U = true := by
  rcases h.1 with h9 | ⟨t, h9⟩
  · exact gt_Z.ref h9 rfl args
  · exact gt_Z.ref h9 rfl args
theorem gt_L.of {args : Array Value} {s : State} {C n d : String} {A : Nat → Prop} (hl : (Cond.laysStatic C n d).before args s = true) (hini : (Cond.initialized C).before args s = true) (h : (Cond.isRef (.static C n d)).before args s = true) (hA : ∀ a : Nat, a < s.heap.size → ¬ A a) : gt_L C n d A s s.heap := by
  obtain ⟨c, k, i, f, a, cell, h1, h2, h3, h4, h5, h6, h7, h8, h9⟩ := Cond.laysStatic_spec hl
  exact ⟨va_Zqof hl hini h hA, c, k, i, f, a, cell, h1, h2, h3, h4, h5, h6, h7, h8, h9, hA a (Array.getElem?_eq_some_iff.mp h5).1⟩
def gw_old (G : gw_G) (U : State) (H : Heap) : Prop := va_Z "java/util/ArrayList" "DEFAULTCAPACITY_EMPTY_ELEMENTDATA" "[Ljava/lang/Object;" (.ref (G.2.2.1 0)) (gw_A G) U H ∧ va_T (.object "java/lang/Object") (G.2.2.1 0) 0 (fun _ => .null) (gw_A G) U H ∧ gt_L "java/lang/Throwable" "UNASSIGNED_STACK" "[Ljava/lang/StackTraceElement;" (gw_A G) U H ∧ gt_L "java/lang/Throwable" "SUPPRESSED_SENTINEL" "Ljava/util/List;" (gw_A G) U H ∧ vk_R "Generations" 164 "there is no such job" (G.2.2.1 1) U ∧ vk_R "Generations" 106 "n is above 99" (G.2.2.1 2) U ∧ vk_R "Generations" 121 "n is not 1 .. 99" (G.2.2.1 3) U ∧ va_AO "java/lang/Object" U
theorem gw_old.keep {G : gw_G} {s : State} {H H1 : Heap} (h : gw_old G s H) (hq : ∀ q : Nat, q < H.size → ¬ gw_A G q → H1[q]? = H[q]?) : gw_old G s H1 := ⟨h.1.kept hq, h.2.1.kept hq, h.2.2.1.kept hq, h.2.2.2.1.kept hq, h.2.2.2.2⟩
theorem gw_old.move {G : gw_G} {s U : State} {H : Heap} (hW : s.WarmedH U.vm) (h : gw_old G s H) : gw_old G U H := ⟨va_Z.moved hW.alike h.1, va_T.moved hW.alike h.2.1, gt_L.moved hW.alike h.2.2.1, gt_L.moved hW.alike h.2.2.2.1, vk_R.warm hW h.2.2.2.2.1, vk_R.warm hW h.2.2.2.2.2.1, vk_R.warm hW h.2.2.2.2.2.2.1, va_AO.moved hW.alike h.2.2.2.2.2.2.2⟩
def gw_E (G : gw_G) (U : State) : Prop := va_K G.1 vwCl (gw_ty G) U ∧ (∀ w ∈ gw_N0, w.before #[] U = true) ∧ gw_old G U U.heap
theorem gw_E.K {G : gw_G} {U : State} (h : gw_E G U) : va_K G.1 vwCl (gw_ty G) U := h.1
theorem gw_E.ts {G : gw_G} {U : State} (h : gw_E G U) (args : Array Value) : ∀ w ∈ gw_N0, w.before args U = true := fun w hw => gw_ww (gw_N0_gk hw) (State.WarmedH.refl U) (h.2.1 w hw)
theorem gw_E.nw {G : gw_G} {U : State} (h : gw_E G U) {w : Cond} (hw : w ∈ gw_N0) : va_Nw w U := h.2.1 w hw
theorem gw_E.call {G : gw_G} {s : State} {H : Heap} {locs : List Loc} (h : gw_E G s) (hS : va_S (gw_A G) s.heap H locs) {U : State} (hU : U.heap = H) (hW : s.WarmedH U.vm) : gw_E G U :=
  ⟨va_K.moved hW.alike h.1, fun w hw => gw_ww (gw_N0_gk hw) hW (h.2.1 w hw), by rw [hU]; exact gw_old.move hW (gw_old.keep h.2.2 hS.2.1)⟩
theorem gw_E.blind {G : gw_G} {U : State} (h : gw_E G U) (g : JFrame) (mk : MethodId) (a : Array Value) : gw_E G (U.calling g mk a) :=
  ⟨va_K.moved (u := U) (U := U.calling g mk a) (Vm.Alike.refl U.vm) h.1, fun w hw => gw_ww (s := U) (gw_N0_gk hw) (State.WarmedH.refl U) (h.2.1 w hw), gw_old.move (s := U) (U := U.calling g mk a) (State.WarmedH.refl U) h.2.2⟩
def gw_Pc (G : gw_G) (M : gw_M) (av : List Value) : Array Value → State → Prop := va_Pc av (fun U => gw_E G U ∧ G.2.2.2 ≤ U.heap.size ∧ gw_P G.1 vwCl G.2.2.2 M U.heap)
theorem gw_blind {G : gw_G} {M : gw_M} {av : List Value} : FrameBlind (gw_Pc G M av) := fun a U g mk q => by
  obtain ⟨q0, q1, q2, q3⟩ := q
  exact ⟨q0, q1.blind g mk a, q2, q3⟩
theorem gw_ps {G : gw_G} {M : gw_M} {As : List Value} {s : State} {H : Heap} {locs : List Loc} (hE : gw_E G s) (hB : G.2.2.2 ≤ s.heap.size) (hS : va_S (gw_A G) s.heap H locs) (hW : gw_P G.1 vwCl G.2.2.2 M H) : PreS s H (gw_Pc G M As) As :=
  ⟨gw_blind, fun _ hU hw => ⟨rfl, hE.call hS hU hw, by rw [hU]; exact Nat.le_trans hB hS.1, by rw [hU]; exact hW⟩⟩
theorem gw_pv {G : gw_G} {M : gw_M} {As : List Value} {s : State} {H : Heap} {locs : List Loc} {b r ci : Nat} {q : vw_C} {fs : List Value} (hE : gw_E G s) (hB : G.2.2.2 ≤ s.heap.size) (hS : va_S (gw_A G) s.heap H locs) (hW : gw_P G.1 vwCl G.2.2.2 M H) (hc : vwCl[ci]? = some q) (he : M b = some (r, .inr (ci, fs))) : PreV s H q.1 b (gw_Pc G M (.ref b :: As)) As :=
  ⟨gw_blind, gw_recv hE.1 hW hc he, fun _ hU hw => ⟨rfl, hE.call hS hU hw, by rw [hU]; exact Nat.le_trans hB hS.1, by rw [hU]; exact hW⟩⟩
abbrev gw_Qi (G : gw_G) (post : Int32 → gw_M → Prop) : Array Value → State → Outcome → State → Prop := va_Qi post (fun M2 t => gw_P G.1 vwCl G.2.2.2 M2 t.heap) (gw_A G)
abbrev gw_Qv (G : gw_G) (post : gw_M → Prop) : Array Value → State → Outcome → State → Prop := va_Qv post (fun M2 t => gw_P G.1 vwCl G.2.2.2 M2 t.heap) (gw_A G)
abbrev gw_Qr (G : gw_G) (post : Nat → gw_M → Prop) : Array Value → State → Outcome → State → Prop := va_Qr (fun u : Nat × gw_M => post u.1 u.2) (fun u a t => a = u.1 ∧ gw_P G.1 vwCl G.2.2.2 u.2 t.heap) (gw_A G)
section GWS
variable {l : Launch} {y : MethodName} {rm : Room} {G : gw_G} {M : gw_M} {av : List Value} {Qc : Array Value → State → Outcome → State → Prop} {mc ms : Nat} {cc : ByteArray} {maxL : Nat} {ret : Option FieldType}
theorem gw_start (hy : plainName y.cls = true) (hn : (lg_sl av).length ≤ maxL)
    (body : ∀ (p : Program) (e : Env) (s : State) (m : MethodId) (below : List Frame) (meth : Method) (c : Code), p.tables.exec = Jvm.exec → c.code = cc → meth.sig.returnType = ret → c.maxLocals = maxL → s.vm.findClass y.cls = some m.cls → meth.locks = false → meth.name = y.name → gw_E G s → G.2.2.2 ≤ s.heap.size → gw_P G.1 vwCl G.2.2.2 M s.heap →
      ∀ ls : Array Slot, lv_has ls maxL (lv_args 0 av) → W p l e rm s m av.toArray below meth c s.heap [] 0 0 (MQ below Qc av.toArray s mc ms (gw_A G)) (F0 m 0 ls [])) :
    Met l y [.code y cc maxL ret] rm (gw_Pc G M av) Qc mc ms (gw_A G) := by
  refine Met.ofW (cc := cc) (maxL := maxL) (ret := ret) hy rfl ?_
  intro p e s m args below meth c s₁ B hml hv
  obtain ⟨rfl, hE, hB, hW⟩ := hv
  have hl := lv_entry av (n := maxL) hn
  rw [lg_entry_eq]
  generalize (lg_sl av ++ List.replicate (maxL - (lg_sl av).length) Slot.unset).toArray = ls at hl ⊢
  exact body p e s m below meth c B.exec B.bytes B.returns hml (findClass_of_methodNamed B.named) B.notSynchronized (name_of_methodNamed B.named B.method).1 hE hB hW ls hl
end GWS
section GWE
variable {p : Program} {l : Launch} {e : Env} {R : Room} {s : State} {m : MethodId} {args : Array Value} {below : List Frame} {meth : Method} {c : Code} {H : Heap} {locs : List Loc} {cells slots : Nat} {Q : State → Prop}
variable {G : gw_G} {M2 : gw_M} {mc ms pc : Nat} {cc : ByteArray} {ls : Array Slot} {st0 rest : List Value} {a : Array Value}
theorem gw_iret {post : Int32 → gw_M → Prop} {v : Int32} (hx : p.tables.exec = Jvm.exec) (hb : c.code = cc) (hr : meth.sig.returnType = some .int) (hlocks : meth.locks = false) (hS : va_S (gw_A G) s.heap H locs) (hW : gw_P G.1 vwCl G.2.2.2 M2 H) (hc : cells ≤ mc) (hs : slots ≤ ms) (hdg : decode cc pc = .ok (.ireturn, 1)) (hp : post v M2) :
    W p l e R s m args below meth c H locs cells slots (MQ below (gw_Qi G post) args s mc ms (gw_A G)) (F0 m pc ls [.int v]) :=
  W.widen hc hs (W.iret hx hb hr (fun t ht _ => ⟨⟨v, M2, rfl, hp, by show gw_P G.1 vwCl G.2.2.2 M2 t.heap; rw [ht]; exact hW⟩, hS.F ht⟩) hS.2.2 hdg hlocks)
theorem gw_zret {post : Int32 → gw_M → Prop} {v : Int32} {ty : FieldType} (hx : p.tables.exec = Jvm.exec) (hb : c.code = cc) (hr : meth.sig.returnType = some ty) (hlocks : meth.locks = false) (hn : narrow ty (.int v) = .int v) (hS : va_S (gw_A G) s.heap H locs) (hW : gw_P G.1 vwCl G.2.2.2 M2 H) (hc : cells ≤ mc) (hs : slots ≤ ms) (hdg : decode cc pc = .ok (.ireturn, 1)) (hp : post v M2) :
    W p l e R s m args below meth c H locs cells slots (MQ below (gw_Qi G post) args s mc ms (gw_A G)) (F0 m pc ls [.int v]) :=
  W.widen hc hs (W.zret hx hb hr hn (fun t ht _ => ⟨⟨v, M2, rfl, hp, by show gw_P G.1 vwCl G.2.2.2 M2 t.heap; rw [ht]; exact hW⟩, hS.F ht⟩) hS.2.2 hdg hlocks)
theorem gw_vret {post : gw_M → Prop} (hx : p.tables.exec = Jvm.exec) (hb : c.code = cc) (hr : meth.sig.returnType = none) (hlocks : meth.locks = false) (hS : va_S (gw_A G) s.heap H locs) (hW : gw_P G.1 vwCl G.2.2.2 M2 H) (hc : cells ≤ mc) (hs : slots ≤ ms) (hdg : decode cc pc = .ok (.return_, 1)) (hp : post M2) :
    W p l e R s m args below meth c H locs cells slots (MQ below (gw_Qv G post) args s mc ms (gw_A G)) (F0 m pc ls []) :=
  W.widen hc hs (W.vret hx hb hr (fun t ht _ => ⟨⟨M2, rfl, hp, by show gw_P G.1 vwCl G.2.2.2 M2 t.heap; rw [ht]; exact hW⟩, hS.F ht⟩) hS.2.2 hdg hlocks)
theorem gw_aret {post : Nat → gw_M → Prop} {v : Nat} {rt : FieldType} (hx : p.tables.exec = Jvm.exec) (hb : c.code = cc) (hr : meth.sig.returnType = some rt) (hlocks : meth.locks = false) (hrt : (∃ n, rt = .object n) ∨ ∃ t, rt = .array t) (hS : va_S (gw_A G) s.heap H locs) (hW : gw_P G.1 vwCl G.2.2.2 M2 H) (hc : cells ≤ mc) (hs : slots ≤ ms) (hdg : decode cc pc = .ok (.areturn, 1)) (hp : post v M2) :
    W p l e R s m args below meth c H locs cells slots (MQ below (gw_Qr G post) args s mc ms (gw_A G)) (F0 m pc ls [.ref v]) :=
  W.widen hc hs (W.aret hx hb hr hrt (Or.inr ⟨v, rfl⟩) (fun t ht _ => ⟨⟨(v, M2), v, rfl, hp, rfl, by rw [ht]; exact hW⟩, hS.F ht⟩) hS.2.2 hdg hlocks)
theorem gw_calli {post : Int32 → gw_M → Prop} (hS : va_S (gw_A G) s.heap H locs) (hr : va_Run p l e R s m args below meth c H locs cells slots mc ms (F0 m pc ls st0) rest (gw_Qi G post a) (gw_A G))
    (kk : ∀ (r : Int32) (M2 : gw_M) (H1 : Heap) (locs1 : List Loc), post r M2 → gw_P G.1 vwCl G.2.2.2 M2 H1 → va_S (gw_A G) s.heap H1 locs1 → W p l e R s m args below meth c H1 locs1 (cells + mc) (slots + ms) Q (F0 m (pc + 3) ls (.int r :: rest))) : W p l e R s m args below meth c H locs cells slots Q (F0 m pc ls st0) :=
  va_calli hr hS (fun _ _ h => h) (fun _ h => h) (fun r u t H1 locs1 ht _ hw hB _ _ hS1 => kk r u H1 locs1 hw (by rw [← ht]; exact hB) hS1)
theorem gw_callv {post : gw_M → Prop} (hS : va_S (gw_A G) s.heap H locs) (hr : va_Run p l e R s m args below meth c H locs cells slots mc ms (F0 m pc ls st0) rest (gw_Qv G post a) (gw_A G))
    (kk : ∀ (M2 : gw_M) (H1 : Heap) (locs1 : List Loc), post M2 → gw_P G.1 vwCl G.2.2.2 M2 H1 → va_S (gw_A G) s.heap H1 locs1 → W p l e R s m args below meth c H1 locs1 (cells + mc) (slots + ms) Q (F0 m (pc + 3) ls rest)) : W p l e R s m args below meth c H locs cells slots Q (F0 m pc ls st0) :=
  va_callv hr hS (fun _ _ h => h) (fun _ h => h) (fun u t H1 locs1 ht _ hw hB _ _ hS1 => kk u H1 locs1 hw (by rw [← ht]; exact hB) hS1)
theorem gw_callr {post : Nat → gw_M → Prop} (hS : va_S (gw_A G) s.heap H locs) (hr : va_Run p l e R s m args below meth c H locs cells slots mc ms (F0 m pc ls st0) rest (gw_Qr G post a) (gw_A G))
    (kk : ∀ (v : Nat) (M2 : gw_M) (H1 : Heap) (locs1 : List Loc), post v M2 → gw_P G.1 vwCl G.2.2.2 M2 H1 → va_S (gw_A G) s.heap H1 locs1 → W p l e R s m args below meth c H1 locs1 (cells + mc) (slots + ms) Q (F0 m (pc + 3) ls (.ref v :: rest))) : W p l e R s m args below meth c H locs cells slots Q (F0 m pc ls st0) := by
  refine va_callr hr hS (fun _ _ h => h) (fun _ h => h) (fun u ra t H1 locs1 ht _ hw hB _ _ hS1 => ?_)
  obtain ⟨e1, hB⟩ := hB
  subst e1
  exact kk u.1 u.2 H1 locs1 hw (by rw [← ht]; exact hB) hS1
end GWE
/-! what stays: the cells of the roles that P names are the same in both maps -/
def gw_fr (P : Nat → Prop) (M M2 : gw_M) : Prop := ∀ (a r : Nat) (e : va_E), P r → (M a = some (r, e) ↔ M2 a = some (r, e))
theorem gw_fr.rf {P : Nat → Prop} {M : gw_M} : gw_fr P M M := fun _ _ _ _ => Iff.rfl
theorem gw_fr.tr {P : Nat → Prop} {M M1 M2 : gw_M} (h1 : gw_fr P M M1) (h2 : gw_fr P M1 M2) : gw_fr P M M2 := fun a r e h => (h1 a r e h).trans (h2 a r e h)
theorem gw_fr.up {P : Nat → Prop} {M M1 : gw_M} {a ra r : Nat} {e0 e : va_E} (h : gw_fr P M M1) (ha : M1 a = some (ra, e0)) (h0 : ¬ P ra) (h1 : ¬ P r) : gw_fr P M (gw_up M1 a r e) := by
  intro b rb eb hb
  rw [h b rb eb hb]
  by_cases q : b = a
  · subst q
    rw [gw_up_self, ha]
    exact Iff.intro (fun z => by cases z; exact absurd hb h0) (fun z => by cases z; exact absurd hb h1)
  · rw [gw_up_ne q]
theorem gw_fr.new {P : Nat → Prop} {M M1 : gw_M} {a r : Nat} {e : va_E} (h : gw_fr P M M1) (ha : M1 a = none) (h1 : ¬ P r) : gw_fr P M (gw_up M1 a r e) := by
  intro b rb eb hb
  rw [h b rb eb hb]
  by_cases q : b = a
  · subst q
    rw [gw_up_self, ha]
    exact Iff.intro (fun z => by cases z) (fun z => by cases z; exact absurd hb h1)
  · rw [gw_up_ne q]
abbrev gw_out (L : List Nat) (r : Nat) : Prop := r ∉ L
theorem gw_fr.wk {L L0 : List Nat} {M M2 : gw_M} (h : gw_fr (gw_out L) M M2) (hs : ∀ x ∈ L, x ∈ L0) : gw_fr (gw_out L0) M M2 := fun a r e hr => h a r e (fun z => hr (hs r z))
theorem gw_good {w : Cond} (h : w ∈ gw_N0) (hg : goodWord w = true) : w ∈ gw_N0 ∧ ((w.onTables && w.keeps) = true ∨ ∃ ty, w = .arrayClass ty) := ⟨h, good_of_word hg⟩
theorem gw_g1 {w : Cond} (h : w ∈ gw_N0) (hg : goodWord w = true := by rfl) : GoodIn gw_N0 [w] := fun x hx => by
  rcases List.mem_cons.mp hx with rfl | hx
  · exact gw_good h hg
  · cases hx
theorem gw_gv {own C : String} {idx : Nat} {y : MethodName} {w : Cond} (h1 : Cond.methodLink own idx y ∈ gw_N0) (h2 : Cond.instanceMethod y ∈ gw_N0) (h3 : Cond.selects C y y ∈ gw_N0) (h4 : Cond.initialized C ∈ gw_N0) (h5 : w ∈ gw_N0) (hg : goodWord w = true := by rfl) : GoodIn gw_N0 (wsV own idx C y [w]) := fun x hx => by
  unfold wsV at hx
  simp only [List.cons_append, List.nil_append, List.mem_cons, List.not_mem_nil, or_false] at hx
  rcases hx with rfl | rfl | rfl | rfl | rfl
  · exact gw_good h1 rfl
  · exact gw_good h2 rfl
  · exact gw_good h3 rfl
  · exact gw_good h4 rfl
  · exact gw_good h5 hg
theorem gw_gs {own : String} {idx : Nat} {y : MethodName} {w : Cond} (h1 : Cond.methodLink own idx y ∈ gw_N0) (h2 : Cond.static y ∈ gw_N0) (h3 : Cond.initialized own ∈ gw_N0) (h5 : w ∈ gw_N0) (hg : goodWord w = true := by rfl) : GoodIn gw_N0 (wsS own idx y [w]) := fun x hx => by
  unfold wsS at hx
  simp only [List.cons_append, List.nil_append, List.mem_cons, List.not_mem_nil, or_false] at hx
  rcases hx with rfl | rfl | rfl | rfl
  · exact gw_good h1 rfl
  · exact gw_good h2 rfl
  · exact gw_good h3 rfl
  · exact gw_good h5 hg
theorem gw_gt {own : String} {idx : Nat} {y : MethodName} {w : Cond} (h1 : Cond.methodLink own idx y ∈ gw_N0) (h2 : Cond.static y ∈ gw_N0) (h3 : Cond.initialized y.cls ∈ gw_N0) (h5 : w ∈ gw_N0) (hg : goodWord w = true := by rfl) : GoodIn gw_N0 (va_wsS own idx y [w]) := fun x hx => by
  unfold va_wsS at hx
  simp only [List.cons_append, List.nil_append, List.mem_cons, List.not_mem_nil, or_false] at hx
  rcases hx with rfl | rfl | rfl | rfl
  · exact gw_good h1 rfl
  · exact gw_good h2 rfl
  · exact gw_good h3 rfl
  · exact gw_good h5 hg
theorem in_X1 : ∀ w ∈ u_ws "Generations" F_X 9, w ∈ lw_tbl := by decide +kernel
theorem in_X : ∀ w ∈ u_ws "Generations" F_X 9, w ∈ gw_N0 := fun w h => gw_in (in_X1 w h) (List.all_eq_true.mp (show (u_ws "Generations" F_X 9).all gw_gk = true by decide +kernel) w h)
theorem in_Row1 : ∀ w ∈ u_ws "Generations$Row" F_Row 2, w ∈ lw_tbl := by decide +kernel
theorem in_Row : ∀ w ∈ u_ws "Generations$Row" F_Row 2, w ∈ gw_N0 := fun w h => gw_in (in_Row1 w h) (List.all_eq_true.mp (show (u_ws "Generations$Row" F_Row 2).all gw_gk = true by decide +kernel) w h)
theorem in_Gen1 : ∀ w ∈ u_ws "Generations$Generation" F_Gen 5, w ∈ lw_tbl := by decide +kernel
theorem in_Gen : ∀ w ∈ u_ws "Generations$Generation" F_Gen 5, w ∈ gw_N0 := fun w h => gw_in (in_Gen1 w h) (List.all_eq_true.mp (show (u_ws "Generations$Generation" F_Gen 5).all gw_gk = true by decide +kernel) w h)
theorem in_Job1 : ∀ w ∈ u_ws "Generations$Job" F_Job 2, w ∈ lw_tbl := by decide +kernel
theorem in_Job : ∀ w ∈ u_ws "Generations$Job" F_Job 2, w ∈ gw_N0 := fun w h => gw_in (in_Job1 w h) (List.all_eq_true.mp (show (u_ws "Generations$Job" F_Job 2).all gw_gk = true by decide +kernel) w h)
theorem in_AL1 : ∀ w ∈ u_ws "java/util/ArrayList" F_AL 3, w ∈ lw_tbl := by decide +kernel
theorem in_AL : ∀ w ∈ u_ws "java/util/ArrayList" F_AL 3, w ∈ gw_N0 := fun w h => gw_in (in_AL1 w h) (List.all_eq_true.mp (show (u_ws "java/util/ArrayList" F_AL 3).all gw_gk = true by decide +kernel) w h)
theorem in_Mo1 : ∀ w ∈ u_ws "GenerationsModel" F_Mo 15, w ∈ lw_tbl := by decide +kernel
theorem in_Mo : ∀ w ∈ u_ws "GenerationsModel" F_Mo 15, w ∈ gw_N0 := fun w h => gw_in (in_Mo1 w h) (List.all_eq_true.mp (show (u_ws "GenerationsModel" F_Mo 15).all gw_gk = true by decide +kernel) w h)
end
section
/-! numbers: what the document's answers on a fresh object are -/
def gx_num (k : Int32) : Int32 := if 1 ≤ k ∧ k ≤ 9999 then 1 else 0
theorem gx_num0 {k : Int32} (h : k < 1) : gx_num k = 0 := if_neg (fun q => by
  have h1 := Int32.lt_iff_toInt_lt.mp h
  have h2 := Int32.le_iff_toInt_le.mp q.1
  omega)
theorem gx_num0' {k : Int32} (h : 9999 < k) : gx_num k = 0 := if_neg (fun q => by
  have h1 := Int32.lt_iff_toInt_lt.mp h
  have h2 := Int32.le_iff_toInt_le.mp q.2
  omega)
theorem gx_num1 {k : Int32} (h : ¬ k < 1) (h2 : ¬ 9999 < k) : gx_num k = 1 := if_pos ⟨by
  rw [Int32.lt_iff_toInt_lt] at h
  rw [Int32.le_iff_toInt_le]
  omega, by
  rw [Int32.lt_iff_toInt_lt] at h2
  rw [Int32.le_iff_toInt_le]
  omega⟩
theorem gx_ne0 {k : Int32} (h : ¬ gx_num k = 0) : ¬ (0 : Int32) = k := fun e => h (by rw [← e]; decide)
def gx_cat (k : Int32) : Int32 := if gx_num k = 0 then -1 else 1
theorem gx_cat0 {k : Int32} (h : gx_num k = 0) : gx_cat k = -1 := if_pos h
theorem gx_cat1 {k : Int32} (h : ¬ gx_num k = 0) : gx_cat k = 1 := if_neg h
def gx_st (k : Int32) : Int32 := if gx_num k = 0 then -1 else 0
theorem gx_st0 {k : Int32} (h : gx_num k = 0) : gx_st k = -1 := if_pos h
theorem gx_st1 {k : Int32} (h : ¬ gx_num k = 0) : gx_st k = 0 := if_neg h
def gx_cnt (k : Int32) : Int32 := if 0 ≤ k ∧ k ≤ 5 then 0 else -1
theorem gx_cntO {k : Int32} (h : k.toInt < 0 ∨ 5 < k.toInt) : gx_cnt k = -1 := if_neg (fun q => by
  have h1 : (0 : Int) ≤ k.toInt := Int32.le_iff_toInt_le.mp q.1
  have h2 : k.toInt ≤ 5 := Int32.le_iff_toInt_le.mp q.2
  omega)
theorem gx_pos {k : Int32} (h : ¬ k < 1) : ¬ k ≤ 0 := fun q => by
  have h1 : k.toInt ≤ 0 := Int32.le_iff_toInt_le.mp q
  have h2 : ¬ k.toInt < 1 := fun z => h (Int32.lt_iff_toInt_lt.mpr z)
  omega
theorem gx_nn {k : Int32} (h : ¬ k < 0) : 0 ≤ k := by
  have h2 : ¬ k.toInt < 0 := fun z => h (Int32.lt_iff_toInt_lt.mpr z)
  exact Int32.le_iff_toInt_le.mpr (by show (0 : Int) ≤ k.toInt; omega)
theorem gx_eqI {k : Int32} (n : Int32) (h : k.toInt = n.toInt) : k = n := Int32.toInt_inj.mp h
theorem gx_sw5 (k : Int32) : (k.toInt < 0 ∨ 5 < k.toInt) ∨ k = 0 ∨ k = 1 ∨ k = 2 ∨ k = 3 ∨ k = 4 ∨ k = 5 := by
  have h : (k.toInt < 0 ∨ 5 < k.toInt) ∨ k.toInt = 0 ∨ k.toInt = 1 ∨ k.toInt = 2 ∨ k.toInt = 3 ∨ k.toInt = 4 ∨ k.toInt = 5 := by omega
  rcases h with h | h | h | h | h | h | h
  · exact Or.inl h
  · exact Or.inr (Or.inl (gx_eqI 0 h))
  · exact Or.inr (Or.inr (Or.inl (gx_eqI 1 h)))
  · exact Or.inr (Or.inr (Or.inr (Or.inl (gx_eqI 2 h))))
  · exact Or.inr (Or.inr (Or.inr (Or.inr (Or.inl (gx_eqI 3 h)))))
  · exact Or.inr (Or.inr (Or.inr (Or.inr (Or.inr (Or.inl (gx_eqI 4 h))))))
  · exact Or.inr (Or.inr (Or.inr (Or.inr (Or.inr (Or.inr (gx_eqI 5 h))))))
/-- the limit that is kept is 1 or more -/
theorem gx_lim (q : Int32) : ¬ (if 1 < q then q else (1 : Int32)) < 0 + 1 := by
  by_cases h : 1 < q
  · rw [if_pos h]
    intro z
    have h1 := Int32.lt_iff_toInt_lt.mp h
    have h2 := Int32.lt_iff_toInt_lt.mp z
    have e1 : (1 : Int32).toInt = 1 := by decide
    have e2 : ((0 : Int32) + 1).toInt = 1 := by decide
    omega
  · rw [if_neg h]
    decide
theorem gm_num0 {k : Int32} (h : k ≤ 0) : gx_num k = 0 := if_neg (fun q => by
  have h1 := Int32.le_iff_toInt_le.mp h
  have h2 := Int32.le_iff_toInt_le.mp q.1
  have e0 : (0 : Int32).toInt = 0 := by decide
  have e1 : (1 : Int32).toInt = 1 := by decide
  omega)
theorem gm_num1 {k : Int32} (h : ¬ k ≤ 0) (h2 : ¬ 9999 < k) : gx_num k = 1 := if_pos ⟨by
  rw [Int32.le_iff_toInt_le] at h
  rw [Int32.le_iff_toInt_le]
  have e0 : (0 : Int32).toInt = 0 := by decide
  have e1 : (1 : Int32).toInt = 1 := by decide
  omega, by
  rw [Int32.lt_iff_toInt_lt] at h2
  rw [Int32.le_iff_toInt_le]
  omega⟩
theorem gm_lim {p : Int32} (h : 1 ≤ p) : ¬ p < 0 + 1 := fun z => by
  have h1 := Int32.le_iff_toInt_le.mp h
  have h2 := Int32.lt_iff_toInt_lt.mp z
  have e1 : (1 : Int32).toInt = 1 := by decide
  have e2 : ((0 : Int32) + 1).toInt = 1 := by decide
  omega
theorem gm_pos {k : Int32} (h : ¬ k ≤ 0) : 0 < k := by
  rw [Int32.le_iff_toInt_le] at h
  rw [Int32.lt_iff_toInt_lt]
  omega
theorem gx_in {k : Int32} (h : ¬ gx_num k = 0) : vp_in k 10000 := by
  have h1 : 1 ≤ k ∧ k ≤ 9999 := Classical.byContradiction (fun q => h (if_neg q))
  have h2 := Int32.le_iff_toInt_le.mp h1.1
  have h3 := Int32.le_iff_toInt_le.mp h1.2
  have e1 : (1 : Int32).toInt = 1 := by decide
  have e2 : (9999 : Int32).toInt = 9999 := by decide
  exact vp_in_iff.mpr ⟨by omega, by omega⟩
theorem gx_le9 {k : Nat} (h : ¬ (9999 : Int32) < nI k) (hk : k ≤ 10000) : k ≤ 9999 := by
  rcases Nat.lt_or_ge 9999 k with q | q
  · exact absurd (show nI 9999 < nI k from nI_lt q (by omega)) h
  · exact q
end
section
/-! METHODS THAT THROW AN IllegalArgumentException (and never return, as these do on a fresh object), and its catching -/
def gt_X (G : gw_G) (px : gw_M → Prop) (st t : State) : Prop := ∃ M2 : gw_M, px M2 ∧ gw_P G.1 vwCl G.2.2.2 M2 t.heap ∧ va_F (gw_A G) st t
def gt_Q (G : gw_G) (px : gw_M → Prop) (mc ms : Nat) : Array Value → State → Outcome → State → Prop := fun _ st o t =>
  ∃ (q : Addr) (ce : Cell) (L : List Loc), o = .threw q ∧ gt_X G px st t ∧ t.heap[q]? = some ce ∧ ce.vm = .none ∧ st.vm.findClass "java/lang/IllegalArgumentException" = some ce.cls ∧ st.WarmedH t.vm ∧ st.sameButNew ({ t with vm := st.vm } : State) L mc ms ∧ ∀ z ∈ L, gw_A G z.base
def gt_Met (l : Launch) (y : MethodName) (ws : List Cond) (rm : Room) (G : gw_G) (M : gw_M) (av : List Value) (px : gw_M → Prop) (mc ms : Nat) : Prop :=
  MetFree l y (headSpec ws rm) (gw_Pc G M av) (fun _ _ _ _ _ => True) (gt_Q G px mc ms)
def gt_MQ (below : List Frame) (G : gw_G) (px : gw_M → Prop) (a : Array Value) (s : State) (mc ms : Nat) : State → Prop := fun t => ∃ o, t.status = .running ∧ Ended t below o ∧ gt_Q G px mc ms a s o t
def gt_W (p : Program) (l : Launch) (e : Env) (R : Room) (s : State) (m : MethodId) (args : Array Value) (below : List Frame) (meth : Method) (c : Code) (H : Heap) (locs : List Loc) (cells slots : Nat) (Q : State → Prop) (g : JFrame) (q : Addr) : Prop :=
  ∀ T : State, T.heap = H → Stand p l e R s m args below meth c T locs cells slots → ∃ t, Steps p.tables e below ((T.setTop g).pushFrame (.throwing q)) t ∧ Q t
section GTS
variable {l : Launch} {y : MethodName} {rm : Room} {G : gw_G} {M : gw_M} {av : List Value} {px : gw_M → Prop} {mc ms : Nat} {cc : ByteArray} {maxL : Nat} {ret : Option FieldType}
theorem gt_start (hy : plainName y.cls = true) (hn : (lg_sl av).length ≤ maxL)
    (body : ∀ (p : Program) (e : Env) (s : State) (m : MethodId) (below : List Frame) (meth : Method) (c : Code), (∀ x ∈ c.exceptionTable.toList, False) → p.tables.exec = Jvm.exec → c.code = cc → meth.sig.returnType = ret → c.maxLocals = maxL → s.vm.findClass y.cls = some m.cls → meth.locks = false → meth.name = y.name → gw_E G s → G.2.2.2 ≤ s.heap.size → gw_P G.1 vwCl G.2.2.2 M s.heap →
      ∀ ls : Array Slot, lv_has ls maxL (lv_args 0 av) → W p l e rm s m av.toArray below meth c s.heap [] 0 0 (gt_MQ below G px av.toArray s mc ms) (F0 m 0 ls [])) :
    gt_Met l y [.code y cc maxL ret] rm G M av px mc ms := by
  refine MetFree.of_bodyS (code := cc) (maxLocals := maxL) (ret := ret) hy ?_ ?_
  · intro args s m h hnm
    obtain ⟨meth, c, h1, h2, h3, h4, h5, h6, -, -⟩ := Cond.code_spec hnm (atoms_spec (ws := [.code y cc maxL ret]) h _ List.mem_cons_self)
    exact ⟨meth, c, h1, h2, h3, h4, h5, h6⟩
  · intro p e s m args below meth c s₁ B hml hv _
    obtain ⟨rfl, hE, hB, hW⟩ := hv
    have htab : ∀ x ∈ c.exceptionTable.toList, False := by
      obtain ⟨meth9, c9, h1, h2, -, -, -, -, h7, -⟩ := Cond.code_spec B.named (atoms_spec (ws := [.code y cc maxL ret]) B.pre _ List.mem_cons_self)
      cases Option.some.inj (h1.symm.trans B.method)
      cases Option.some.inj (h2.symm.trans (Stand.of_body B).code)
      intro x hx
      rw [Array.isEmpty_iff.mp h7] at hx
      cases hx
    have hh0 : s₁.heap = s.heap := by rw [B.state]; rfl
    have hl := lv_entry av (n := maxL) hn
    have K := lg_entry_eq m av maxL
    generalize (lg_sl av ++ List.replicate (maxL - (lg_sl av).length) Slot.unset).toArray = ls at hl K
    obtain ⟨t, a1, o, b1, b2, b3⟩ := body p e s m below meth c htab B.exec B.bytes B.returns hml (findClass_of_methodNamed B.named) B.notSynchronized (name_of_methodNamed B.named B.method).1 hE hB hW ls hl s₁ hh0 (Stand.of_body B)
    rw [K]
    exact ⟨t, o, a1, b1, b2, b3⟩
end GTS
section GTC
variable {p : Program} {l : Launch} {e : Env} {R : Room} {s : State} {m : MethodId} {args : Array Value} {below : List Frame} {meth : Method} {c : Code} {locs : List Loc} {cells slots : Nat}
/-- a callee of any outcome, from the state in which it is invoked -/
theorem gt_core {y : MethodName} {ws : List Cond} {rm : Room} {Pc : Array Value → State → Prop} {Qy : Array Value → State → Outcome → State → Prop} {bytes : ByteArray} {maxL mc ms : Nat} {ret : Option FieldType} (hM : MetFree l y (headSpec ws rm) Pc (fun _ _ _ _ _ => True) Qy) (hbl : FrameBlind Pc) (hrc : rm.cells = mc) (hrs : rm.slots = ms) (hfr : rm.frames + 1 ≤ R.frames) (hlo : 8 + (maxL + 11) + rm.locals ≤ R.locals)
    (hws : ∀ w ∈ ws, ∀ (a' : Array Value) (U : State), s.WarmedH U.vm → w.before a' U = true) (hcode : Cond.code y bytes maxL ret ∈ ws) (hini : ∀ (a' : Array Value) (U : State), s.WarmedH U.vm → (Cond.initialized y.cls).before a' U = true)
    {U : State} (X : Stand p l e R s m args below meth c U locs cells slots) {g : JFrame} (hg : g.method = m) (hsz : g.locals.size = c.maxLocals) {ig : Instr} {len : Nat} (hdg : decode c.code g.pc = .ok (ig, len)) (hw : 2 * g.monitorRoom + (g.stack.map fun v => v.category).sum ≤ 8) {mk : MethodId} (hn : U.methodNamed? y = some mk) {a : Array Value} (hc1 : cells + mc ≤ R.cells) (hc2 : slots + ms ≤ R.slots) (hp : Pc a U) :
    ∃ (o : Outcome) (s₂ : State), Steps p.tables e below (doInvoke e (U.setTop g) [] mk a).1 s₂ ∧ Ended s₂ (.java g :: U.frames.tail) o ∧ Qy a (U.calling g mk a) o s₂ := by
  obtain ⟨methY, cY, hmY, hcY, -, hlY, -, -, -, -⟩ := Cond.code_spec hn (hws _ hcode a U X.warmed)
  obtain ⟨kY, hkY, -⟩ := className_of_methodNamed hn
  have hiY : kY.init = .initialized := Cond.initialized_spec (findClass_of_methodNamed hn) hkY (hini a U X.warmed)
  have hat : At U g.method c below := by rw [hg]; exact X.here
  have hroom := X.room_calling (g := g) (args' := a) (R' := (headSpec ws rm).room) hsz hmY hcY hfr (by rw [hlY]; show _ + rm.locals ≤ R.locals; omega) (by rw [show (headSpec ws rm).room.cells = mc from hrc]; exact hc1) (by rw [show (headSpec ws rm).room.slots = ms from hrs]; exact hc2)
  have happ : (headSpec ws rm).appliesLoose y e.platform (U.calling g mk a) = true := Spec.appliesLoose_calling (g := g) hat hdg hn hkY hiY hroom (atoms_intro fun w hw9 => hws w hw9 _ _ X.warmed)
  obtain ⟨mid, hmid⟩ := hat.above
  have hall : (U.setTop g).frames = (.java g :: mid) ++ below := by rw [State.frames_setTop' g hat.top, hmid]; rfl
  obtain ⟨o, s₂, hst, -, hend, hq⟩ := Steps.callFree hM p X.admits X.cas X.clock (acts := []) hall happ (hbl _ _ _ _ hp) trivial
  rw [State.frames_setTop' g hat.top] at hend
  exact ⟨o, s₂, hst, hend, hq⟩
/-- it threw: the caller stands, with the exception on its way above it -/
theorem gt_thr {U : State} (X : Stand p l e R s m args below meth c U locs cells slots) {g : JFrame} (hg : g.method = m) {q : Addr} {s₂ : State} {mk : MethodId} {a : Array Value} (hend : Ended s₂ (.java g :: U.frames.tail) (.threw q)) (hwm : (U.calling g mk a).WarmedH s₂.vm) {L : List Loc} {mc ms : Nat} (hsm : (U.calling g mk a).sameButNew ({ s₂ with vm := (U.calling g mk a).vm } : State) L mc ms) :
    ∃ T' : State, Stand p l e R s m args below meth c T' (locs ++ L) (cells + mc) (slots + ms) ∧ T'.heap = s₂.heap ∧ T'.vm = s₂.vm ∧ s₂ = (T'.setTop g).pushFrame (.throwing q) := by
  have hat : At U g.method c below := by rw [hg]; exact X.here
  have hwU : U.WarmedH s₂.vm := hwm
  obtain ⟨e2, q2, q3, q4, q5, q6⟩ := id hsm
  obtain ⟨g₀, hg0⟩ := Option.isSome_iff_exists.mp hat.top
  obtain ⟨r, hr⟩ := State.topJava?_eq_some.mp hg0
  have hf₂ : s₂.frames = .throwing q :: .java g :: U.frames.tail := hend
  have e3 : s₂ = ({ (U.calling g mk a).setFrames s₂.frames with heap := s₂.heap, slotsUsed := s₂.slotsUsed } : State).setVm s₂.vm := by
    have h9 : s₂ = ({ s₂ with vm := (U.calling g mk a).vm } : State).setVm s₂.vm := rfl
    rw [e2] at h9
    exact h9
  have hr' : (({ U with heap := s₂.heap, slotsUsed := s₂.slotsUsed } : State).setVm s₂.vm).frames = .java g₀ :: r := hr
  have hsame : U.sameButNew ({ U with heap := s₂.heap, slotsUsed := s₂.slotsUsed } : State) L mc ms := by
    obtain ⟨t, ht, -⟩ := State.frames_cons hr
    refine ⟨?_, q2, q3, q4, q5, q6⟩
    show ({ U with heap := s₂.heap, slotsUsed := s₂.slotsUsed } : State) = { U.setFrames U.frames with heap := s₂.heap, slotsUsed := s₂.slotsUsed }
    rw [State.setFrames_self ht]
  subst hg
  refine ⟨({ U with heap := s₂.heap, slotsUsed := s₂.slotsUsed } : State).setVm s₂.vm, ⟨X.admits, X.cas, X.clock, X.frames, X.room, X.hears, X.method, X.code, (X.here.setHeapUsed s₂.heap s₂.slotsUsed).setVm hwU.alike, X.tail, State.WarmedH.trans X.warmed hwU, X.limits, X.bytes, X.same.trans (hsame.setVm s.vm)⟩, rfl, rfl, ?_⟩
  refine e3.trans ?_
  rw [hf₂, State.calling_eq hat.top, State.setFrames_setFrames, State.pushFrame, State.frames_setTop _ hr', State.setTop_of_frames _ hr', State.setFrames_setFrames, hr]
  rfl
variable {H : Heap} {Q : State → Prop} {G : gw_G} {px : gw_M → Prop} {pc : Nat} {ls : Array Slot} {rest : List Value} {mc ms : Nat} {cc : ByteArray}
/-- a call of an instance method that throws -/
theorem gt_callV {y : MethodName} {bytes : ByteArray} {maxL nL n index : Nat} {ret : Option FieldType} {ws : List Cond} {rm : Room} {Ts : List Cond} {own C : String} {M : gw_M} {b : Addr} {As : List Value} (hS : va_S (gw_A G) s.heap H locs) (S : CallFix p m c cc nL s args Ts own) (hM : gt_Met l y ws rm G M (.ref b :: As) px mc ms) (cw : CallW R s args own C index y bytes maxL ret ws rm mc ms n) (hp : PreV s H C b (gw_Pc G M (.ref b :: As)) As)
    (hn : As.length = n) (hsize : ls.size = nL) {st0 : List Value} (hstack : st0 = As.reverse ++ .ref b :: rest) (hw : 2 * (F0 m pc ls rest).monitorRoom + (rest.map fun v => v.category).sum ≤ 8) (hdg : decode cc pc = .ok (.invokevirtual index, 3)) (hf : cells + mc ≤ R.cells ∧ slots + ms ≤ R.slots)
    (kx : ∀ (ce : Cell) (q : Addr) (M2 : gw_M) (H1 : Heap) (locs1 : List Loc), px M2 → gw_P G.1 vwCl G.2.2.2 M2 H1 → va_S (gw_A G) s.heap H1 locs1 → H1[q]? = some ce → ce.vm = .none → s.vm.findClass "java/lang/IllegalArgumentException" = some ce.cls → gt_W p l e R s m args below meth c H1 locs1 (cells + mc) (slots + ms) Q (F0 m pc ls rest) q) :
    W p l e R s m args below meth c H locs cells slots Q (F0 m pc ls st0) := by
  subst hstack
  obtain ⟨⟨hrc, hrs, hfr, hlo, hws, hcw, hcode, hini, hy, hlen, hl⟩, hin, hse⟩ := cw
  obtain ⟨hx, hb, hml, ho, -⟩ := S
  obtain ⟨hbl, ⟨cellB, hcB, hoB, hclB⟩, hPc⟩ := hp
  obtain ⟨mk, methM, hnamed, hmethM, hstM, habM⟩ := Cond.instanceMethod_spec hin
  obtain ⟨methM', cM, hmethM', -, -, -, -, -, -, hsigM⟩ := Cond.code_spec hnamed hcode
  cases hmethM.symm.trans hmethM'
  obtain ⟨c2, r2, m2, q1, q2, q3, q4, kP, hkP, hkPi⟩ := Cond.selects_spec hse
  cases hclB.symm.trans q1
  cases (State.methodFound?_of_named hnamed hy).symm.trans q2
  cases hnamed.symm.trans q3
  intro T hT X
  have hselP : selectMethod e.platform s.vm cellB.cls mk = .method mk := by rw [Launch.admits_selectMethod X.admits]; exact q4
  obtain ⟨vm₁, X₁, hstep⟩ := X.invokevirtual hx ho hl hnamed hmethM hstM hkP hkPi hy (a := b) (cell := cellB) (by rw [hT]; exact hcB) (fun z h => by rw [h] at hoB; cases hoB) hselP hmethM habM hkP hkPi (g := F0 m pc ls (As.reverse ++ .ref b :: rest)) rfl (argsL := As) (rest := rest) (hn.trans (hlen _ hsigM)) rfl (by rw [hb]; exact hdg)
  have hini9 : ∀ (a' : Array Value) (U : State), s.WarmedH U.vm → (Cond.initialized y.cls).before a' U = true := fun a' U hW => word_at hW (Or.inl (by first | rfl | simp [Cond.onTables, Cond.keeps, Cond.steady])) hini
  obtain ⟨o, s₂, hst, hend, q, ce, L, rfl, ⟨M2, hpx, hW2, hF⟩, hce, hcv, hcl, hwm, hsm, hL⟩ := gt_core hM hbl hrc hrs hfr hlo hws hcw hini9 X₁ (g := { F0 m pc ls (As.reverse ++ .ref b :: rest) with stack := rest }) rfl (hsize.trans hml.symm) (by rw [hb]; exact hdg) hw (X₁.named hnamed) (a := (Value.ref b :: As).toArray) hf.1 hf.2 (hPc (T.setVm vm₁) hT X₁.warmed)
  obtain ⟨T', XT, h1, h2, h3⟩ := gt_thr X₁ (g := { F0 m pc ls (As.reverse ++ .ref b :: rest) with stack := rest }) rfl hend hwm hsm
  have hcl9 : s.vm.findClass "java/lang/IllegalArgumentException" = some ce.cls := by
    have h9 : (T.setVm vm₁).vm.findClass "java/lang/IllegalArgumentException" = some ce.cls := hcl
    rw [X₁.warmed.alike.findClass] at h9
    exact h9
  have hz : H.size ≤ s₂.heap.size := by
    have h9 : T.heap.size ≤ s₂.heap.size := hF.1
    rw [hT] at h9
    exact h9
  have hk : ∀ z : Nat, z < H.size → ¬ gw_A G z → s₂.heap[z]? = H[z]? := fun z z1 z2 => by
    have h9 := hF.2 z (show z < T.heap.size by rw [hT]; exact z1) z2
    have h8 : s₂.heap[z]? = T.heap[z]? := h9
    rw [hT] at h8
    exact h8
  have hS1 : va_S (gw_A G) s.heap s₂.heap (locs ++ L) := ⟨Nat.le_trans hS.1 hz, fun z z1 z2 => (hk z (Nat.lt_of_lt_of_le z1 hS.1) z2).trans (hS.2.1 z z1 z2), fun z hz9 => (List.mem_append.mp hz9).elim (hS.2.2 z) (hL z)⟩
  obtain ⟨t, a1, b1⟩ := kx ce q M2 s₂.heap (locs ++ L) hpx hW2 hS1 hce hcv hcl9 T' h1 XT
  refine ⟨t, ?_, b1⟩
  refine hstep _ fun acts => ?_
  rw [doInvoke_state]
  exact hst.trans (by rw [h3]; exact a1)
/-- not caught here: it goes on -/
theorem gt_out {ce : Cell} {q : Addr} {M2 : gw_M} (hEx : ∀ x ∈ c.exceptionTable.toList, False) (hlocks : meth.locks = false) (hcell : H[q]? = some ce) (hv : ce.vm = .none) (hcl : s.vm.findClass "java/lang/IllegalArgumentException" = some ce.cls) (hS : va_S (gw_A G) s.heap H locs) (hW : gw_P G.1 vwCl G.2.2.2 M2 H) (hp : px M2) (hc : cells ≤ mc) (hs : slots ≤ ms) :
    gt_W p l e R s m args below meth c H locs cells slots (gt_MQ below G px args s mc ms) (F0 m pc ls rest) q := by
  intro T hT X
  obtain ⟨st1, hrun, hend, hWm, hsm⟩ := X.leaveThrown q (g := F0 m pc ls rest) rfl rfl rfl (fun x hx => (hEx x hx).elim) hlocks
  refine ⟨_, st1, .threw q, hrun, hend, q, ce, locs, rfl, ⟨M2, hp, ?_, ?_⟩, ?_, hv, hcl, hWm, hsm.mono hc hs, hS.2.2⟩
  · show gw_P G.1 vwCl G.2.2.2 M2 T.heap
    rw [hT]; exact hW
  · exact hS.F (t := T.setFrames (.throwing q :: below)) hT
  · show T.heap[q]? = some ce
    rw [hT]; exact hcell
/-- 'throw new IllegalArgumentException(text)', nothing made or written before it in this method -/
theorem gt_throwS {own text : String} {names : List String} {ik is ic sa : Nat} {M : gw_M} (hexec : p.tables.exec = Jvm.exec) (hb : c.code = cc) (hl : l.stackTraces = false) (hown : s.vm.findClass own = some m.cls) (hnames : ∀ n ∈ names, Bundle.fit n = true)
    (hk : (Cond.classLink own ik "java/lang/IllegalArgumentException").before args s = true) (hini : (Cond.initialized "java/lang/IllegalArgumentException").before args s = true) (hs1 : (Cond.stringRef own is text).before args s = true) (hs2 : (Term.string own is).eval args s none [] s = some (.ref sa))
    (hat : ∀ w ∈ Bundle.ownAtoms own ic "java/lang/IllegalArgumentException" names, w.before args s = true) (hsize : ls.size = c.maxLocals)
    (d0 : decode cc pc = .ok (.new ik, 3)) (d3 : decode cc (pc + 3) = .ok (.dup, 1)) (d4 : decode cc (pc + 4) = .ok (.ldc is, 2)) (d6 : decode cc (pc + 6) = .ok (.invokespecial ic, 3)) (d9 : decode cc (pc + 9) = .ok (.athrow, 1))
    (hEx : ∀ x ∈ c.exceptionTable.toList, False) (hRf : names.length + 3 < R.frames) (hRl : (rest.map fun v => v.category).sum + (13 * (names.length + 1) + 43) ≤ R.locals) (hRc : 1 ≤ R.cells) (hRs : 6 ≤ R.slots) (hlocks : meth.locks = false) (hW : gw_P G.1 vwCl G.2.2.2 M s.heap) (hp : px M) :
    W p l e R s m args below meth c s.heap [] 0 0 (gt_MQ below G px args s 1 6) (F0 m pc ls rest) := by
  intro T hT X
  have htr : e.platform.stackTraces = false := (show e.platform.stackTraces = l.stackTraces by rw [X.admits.platform]).trans hl
  have hins : (Cond.instantiable "java/lang/IllegalArgumentException" 6).before args s = true := hat _ (by simp [Bundle.ownAtoms])
  obtain ⟨vm₁, cX, kX, hfX, hkX, -, -, X₁, st1⟩ := X.newCold hexec (own := own) (C := "java/lang/IllegalArgumentException") (index := ik) (n := 6) hown hk hins hini (g := F0 m pc ls rest) rfl (by rw [hb]; exact d0) (by omega) (by omega)
  generalize hT1 : (T.setVm vm₁).pushCell { cls := cX, slots := kX.instanceTypes.map defaultValue, vm := .none } = T1 at X₁ st1
  have hcat : (Value.ref T.heap.size).category = 1 := rfl
  have hcellA : T1.heap[T.heap.size]? = some (freshCell cX kX) := by rw [← hT1]; exact State.heap_pushCell_size _ _
  have d3' : decode c.code (pc + 3) = .ok (.dup, 1) := by rw [hb]; exact d3
  have d4' : decode c.code (pc + 4) = .ok (.ldc is, 2) := by rw [hb]; exact d4
  obtain ⟨U, hsteps, hrun, hend, hWm, hsame, ce, hce, hO⟩ := X₁.ctorThrowS hexec htr (own := own) (cls := "java/lang/IllegalArgumentException") (names := names) (ic := ic) hown (by decide +kernel) hnames hat (fun x hx => nomatch hx) hfX hkX hcellA (by rw [hT]; exact Nat.le_refl _) (msg := .ref sa) rfl
    (g := { method := m, pc := pc + 6, locals := ls, stack := .ref sa :: .ref T.heap.size :: .ref T.heap.size :: rest, locked := none }) rfl hsize rfl rfl (rest := rest) rfl
    (by rw [hb]; exact d6) (by rw [hb]; exact d9) (fun x hx => (hEx x hx).elim) hRf (by simp only [List.map_cons, List.sum_cons, hcat]; omega) hlocks
  have hfrm : s.heap.size ≤ U.heap.size ∧ ∀ q : Nat, q < s.heap.size → U.heap[q]? = s.heap[q]? := by
    obtain ⟨-, h2, -, -, -, h6⟩ := id hsame
    refine ⟨h2, fun q hq => ?_⟩
    obtain ⟨c9, e1, e2, e3, e4⟩ := h6 q _ (Array.getElem?_eq_getElem hq)
    have hs : c9.slots = (s.heap[q]).slots := Array.ext_getElem? fun i => e4 i (fun hm => nomatch hm)
    have h9 : c9 = s.heap[q] := by
      rw [hs] at e2
      exact e2
    have e5 : U.heap[q]? = some c9 := e1
    rw [e5, h9, Array.getElem?_eq_getElem hq]
  refine ⟨U, ?_, .threw T.heap.size, hrun, hend, T.heap.size, ce, [], rfl, ⟨M, hp, hW.kept hfrm.2, hfrm.1, fun q hq _ => hfrm.2 q hq⟩, hce, hO.vm, hO.cls, hWm, hsame.mono (by omega) (by omega), fun z hz => nomatch hz⟩
  refine st1 _ ?_
  show Steps p.tables e below (T1.setTop { method := m, pc := pc + 3, locals := ls, stack := .ref T.heap.size :: rest, locked := none }) _
  jvm_step X₁.here [X₁.here.top, hexec, d3', Value.category]
  exact X₁.ldcString hexec (own := own) (text := text) (index := is) (a := sa) hown hs1 hs2 (g := { method := m, pc := pc + 4, locals := ls, stack := .ref T.heap.size :: .ref T.heap.size :: rest, locked := none }) rfl d4' _ hsteps
end GTC
/-- the words of a throw: four of them speak of the heap -/
def gt_no (w : Cond) : Bool := decide (w ≠ .isRef (.static "java/lang/Throwable" "UNASSIGNED_STACK" "[Ljava/lang/StackTraceElement;")) && (decide (w ≠ .isRef (.static "java/lang/Throwable" "SUPPRESSED_SENTINEL" "Ljava/util/List;")) && (decide (w ≠ .laysStatic "java/lang/Throwable" "UNASSIGNED_STACK" "[Ljava/lang/StackTraceElement;") && decide (w ≠ .laysStatic "java/lang/Throwable" "SUPPRESSED_SENTINEL" "Ljava/util/List;")))
theorem gt_hat {G : gw_G} {s : State} {L : List Cond} (hE : gw_E G s) (args : Array Value) (h1 : ∀ w ∈ L.filter gt_no, w ∈ gw_N0) : ∀ w ∈ L, w.before args s = true := by
  intro w hw
  by_cases e0 : gt_no w = true
  · exact hE.ts args w (h1 w (List.mem_filter.mpr ⟨hw, e0⟩))
  · by_cases e1 : w = .isRef (.static "java/lang/Throwable" "UNASSIGNED_STACK" "[Ljava/lang/StackTraceElement;")
    · rw [e1]; exact hE.2.2.2.2.1.ref args
    · by_cases e2 : w = .isRef (.static "java/lang/Throwable" "SUPPRESSED_SENTINEL" "Ljava/util/List;")
      · rw [e2]; exact hE.2.2.2.2.2.1.ref args
      · by_cases e3 : w = .laysStatic "java/lang/Throwable" "UNASSIGNED_STACK" "[Ljava/lang/StackTraceElement;"
        · rw [e3]; exact hE.2.2.2.2.1.lays args
        · by_cases e4 : w = .laysStatic "java/lang/Throwable" "SUPPRESSED_SENTINEL" "Ljava/util/List;"
          · rw [e4]; exact hE.2.2.2.2.2.1.lays args
          · exact absurd (by unfold gt_no; rw [decide_eq_true e1, decide_eq_true e2, decide_eq_true e3, decide_eq_true e4]; rfl) e0
abbrev gt_ws : List Cond := Bundle.ownAtoms "Generations" 108 "java/lang/IllegalArgumentException" ["java/lang/RuntimeException", "java/lang/Exception"]
set_option maxRecDepth 100000 in
theorem gt_ws1 : ∀ w ∈ gt_ws.filter gt_no, w ∈ lw_tbl := by decide +kernel
theorem gt_ws2 : (gt_ws.filter gt_no).all gw_gk = true := by decide +kernel
theorem gt_ws3 : ∀ w ∈ gt_ws.filter gt_no, w ∈ gw_N0 := fun w h => gw_in (gt_ws1 w h) (List.all_eq_true.mp gt_ws2 w h)
theorem gw_startR {l : Launch} {y : MethodName} {rm : Room} {G : gw_G} {M : gw_M} {av : List Value} {Qc : Array Value → State → Outcome → State → Prop} {cc : ByteArray} {maxL : Nat} {ret : Option FieldType} (hy : plainName y.cls = true) (hn : (lg_sl av).length ≤ maxL)
    (body : ∀ (p : Program) (e : Env) (s : State) (m : MethodId) (below : List Frame) (meth : Method) (c : Code), p.tables.exec = Jvm.exec → c.code = cc → meth.sig.returnType = ret → c.maxLocals = maxL → s.vm.findClass y.cls = some m.cls → meth.locks = false → meth.name = y.name → gw_E G s → G.2.2.2 ≤ s.heap.size → gw_P G.1 vwCl G.2.2.2 M s.heap →
      ∀ ls : Array Slot, lv_has ls maxL (lv_args 0 av) → W p l e rm s m av.toArray below meth c s.heap [] 0 0 (MQ below Qc av.toArray s 0 0 (fun _ => False)) (F0 m 0 ls [])) :
    Met l y [.code y cc maxL ret] rm (gw_Pc G M av) Qc 0 0 (fun _ => False) := by
  refine Met.ofW (cc := cc) (maxL := maxL) (ret := ret) hy rfl ?_
  intro p e s m args below meth c s₁ B hml hv
  obtain ⟨rfl, hE, hB, hW⟩ := hv
  have hl := lv_entry av (n := maxL) hn
  rw [lg_entry_eq]
  generalize (lg_sl av ++ List.replicate (maxL - (lg_sl av).length) Slot.unset).toArray = ls at hl ⊢
  exact body p e s m below meth c B.exec B.bytes B.returns hml (findClass_of_methodNamed B.named) B.notSynchronized (name_of_methodNamed B.named B.method).1 hE hB hW ls hl
end
section
/-! CAUGHT: a method whose table has one row, for IllegalArgumentException; and a static call of such a method -/
section GTK
variable {p : Program} {l : Launch} {e : Env} {R : Room} {s : State} {m : MethodId} {args : Array Value} {below : List Frame} {meth : Method} {c : Code} {H : Heap} {locs : List Loc} {cells slots : Nat} {Q : State → Prop} {pc : Nat} {ls : Array Slot} {rest : List Value}
/-- what the search for a handler finds, and the tables behind it -/
def gt_F (e : Env) (u : State) (f : JFrame) (q : Addr) (h : Handler) (vm' : Vm) : Prop := ∀ (Z : Handler → Pre) (E : CtlPost) (d : Bool) (acts : List Action), wp (findHandler f q) Z E e d acts u ↔ Z h d acts (u.setVm vm')
theorem gt_find {u : State} {f : JFrame} {q : Addr} {mt : Method} {cd : Code} {x : ExceptionTableEntry} (hm : u.vm.method? f.method = some mt) (hc : mt.code = some cd) (htab : cd.exceptionTable.toList = [x]) (hx : covers x f.pc = true) (h0 : x.catchType ≠ 0) {cT : ClassId} {ce : Cell}
    (hl : u.vm.ClassLinks e.platform f.method.cls x.catchType cT) (hce : u.heap[q]? = some ce) (hobj : ∀ k, ce.vm ≠ .statics k) (hk : ∃ k, u.vm.classes[ce.cls]? = some k) (hkT : ∃ k, u.vm.classes[cT]? = some k) (hfit : u.vm.assignable ce.cls cT = true) :
    gt_F e u f q (.found x.handlerPc) (u.vm.noted f.method.cls x.catchType (.cls cT)) := by
  intro Z E d acts
  rw [W.findHandler_eq hm hc, htab]
  have hal : u.vm.Alike (u.vm.noted f.method.cls x.catchType (.cls cT)) := (Vm.Alike.refl u.vm).noted _ _ _
  obtain ⟨r1, r2⟩ := (resolveClass_links e.toSetting hl).op (op := VmOp.resolveClass f.method.cls x.catchType) rfl
  obtain ⟨k1, hk1⟩ := hk
  obtain ⟨k2, hk2⟩ := hkT
  obtain ⟨k3, hk3, -⟩ := hal.2.2 _ _ hk1
  obtain ⟨k4, hk4, -⟩ := hal.2.2 _ _ hk2
  have hfit2 : (u.vm.noted f.method.cls x.catchType (.cls cT)).assignable ce.cls cT = true := by rw [hal.assignable]; exact hfit
  simp only [covers] at hx
  simp [findHandler.go, hx, h0, r1, r2, hce, hobj, hk3, hk4, hfit2, VmOp.dirties, VmOp.acts]
theorem gt_step {u : State} {q : Addr} {f : JFrame} {r : List Frame} {hp : Nat} {vm' : Vm} (hfind : gt_F e u f q (.found hp) vm') : (stepThrowing e u q (.java f :: r)).Is ((u.setVm vm').setFrames (.java { f with pc := hp, stack := [.ref q] } :: r)) [] := by
  simp only [stepThrowing, searchFrame, vmDo]
  generalize hr : Sem.go _ e false [] u = res
  obtain ⟨as, rfl, ha⟩ := Sem.eq_ok_of hr (a := Handler.found hp) (s' := u.setVm vm') (acts' := []) (by simp [hfind _ _ _ _])
  exact ⟨rfl, ha⟩
theorem gt_sf (u : State) (vm' : Vm) (A B : List Frame) : ((u.setFrames A).setVm vm').setFrames B = (u.setVm vm').setFrames B := by
  show ((u.setVm vm').setFrames A).setFrames B = _
  rw [State.setFrames_setFrames]
theorem gt_catch {own : String} {x : ExceptionTableEntry} {ce : Cell} {q : Addr} (hTab : c.exceptionTable.toList = [x]) (hx : covers x pc = true) (h0 : x.catchType ≠ 0) (hown : s.vm.findClass own = some m.cls) (hlink : (Cond.classLink own x.catchType "java/lang/IllegalArgumentException").before args s = true) (hcast : (Cond.castable "java/lang/IllegalArgumentException" "java/lang/IllegalArgumentException").before args s = true)
    (hcell : H[q]? = some ce) (hv : ce.vm = .none) (hcl : s.vm.findClass "java/lang/IllegalArgumentException" = some ce.cls) (kk : W p l e R s m args below meth c H locs cells slots Q (F0 m x.handlerPc ls [.ref q])) : gt_W p l e R s m args below meth c H locs cells slots Q (F0 m pc ls rest) q := by
  intro T hT X
  have hpl : e.platform.magicAccessors = ({} : Platform).magicAccessors := by rw [X.admits.platform]
  obtain ⟨cT, hcT, hlk⟩ := Cond.classLink_spec hown hlink e.platform hpl
  obtain ⟨c3, c4, hc3, hc4, hasg⟩ := Cond.castable_spec hcast
  cases Option.some.inj (hc3.symm.trans hcl)
  cases Option.some.inj (hc4.symm.trans hcT)
  obtain ⟨-, hwarm, -⟩ := State.classEntry (e := e) X.warmed hlk
  have hlinkT : (Cond.classLink own x.catchType "java/lang/IllegalArgumentException").before args T = true := gw_ww rfl X.warmed hlink
  obtain ⟨c5, hc5, hlkT⟩ := Cond.classLink_spec (show T.vm.findClass own = some m.cls by rw [X.warmed.alike.findClass]; exact hown) hlinkT e.platform hpl
  rw [X.warmed.alike.findClass] at hc5
  cases Option.some.inj (hc5.symm.trans hcT)
  obtain ⟨k1, hk1, -⟩ := Vm.findClass_spec hcl
  obtain ⟨k2, hk2, -⟩ := Vm.findClass_spec hcT
  obtain ⟨k3, hk3, -⟩ := X.warmed.alike.2.2 _ _ hk1
  obtain ⟨k4, hk4, -⟩ := X.warmed.alike.2.2 _ _ hk2
  have hF : gt_F e ((T.setTop (F0 m pc ls rest)).pushFrame (.throwing q)) (F0 m pc ls rest) q (.found x.handlerPc) (T.vm.noted m.cls x.catchType (.cls cT)) := by
    have h9 := gt_find (e := e) (u := (T.setTop (F0 m pc ls rest)).pushFrame (.throwing q)) (f := F0 m pc ls rest) (q := q) (mt := meth) (cd := c) (x := x) (cT := cT) (ce := ce) (by rw [Stand.throwing_vm]; exact X.method') X.code hTab hx h0 (by rw [Stand.throwing_vm]; exact hlkT) (by rw [Stand.throwing_heap, hT]; exact hcell) (fun k hk => by rw [hv] at hk; cases hk) (by rw [Stand.throwing_vm]; exact ⟨k3, hk3⟩) (by rw [Stand.throwing_vm]; exact ⟨k4, hk4⟩) (by rw [Stand.throwing_vm, X.warmed.alike.assignable]; exact hasg)
    rw [Stand.throwing_vm] at h9
    exact h9
  have X' := X.noted hwarm
  obtain ⟨t, a1, b1⟩ := kk (T.setVm (T.vm.noted m.cls x.catchType (.cls cT))) hT X'
  refine ⟨t, ?_, b1⟩
  have hat : At T (F0 m pc ls rest).method c below := X.here
  obtain ⟨hgo, hw⟩ := hat.throwing q
  refine Steps.head hgo hw ?_
  rw [stepThread_throwing (frames_entered hat.top _), (gt_step (u := (T.setTop (F0 m pc ls rest)).pushFrame (.throwing q)) hF).1]
  obtain ⟨g₀, hg0⟩ := Option.isSome_iff_exists.mp hat.top
  obtain ⟨r, hr⟩ := State.topJava?_eq_some.mp hg0
  have hr' : (T.setVm (T.vm.noted m.cls x.catchType (.cls cT))).frames = .java g₀ :: r := hr
  rw [State.setTop_of_frames _ hr'] at a1
  rw [hr, List.tail_cons, State.pushFrame, gt_sf, State.setTop_of_frames _ hr, gt_sf]
  exact a1
/-- a static call of a method with a table -/
theorem gt_runSW {y : MethodName} {bytes cc : ByteArray} {maxL nL mc ms n index : Nat} {ret : Option FieldType} {hh : List (Nat × Nat × Nat × Nat)} {rm : Room} {Pc : Array Value → State → Prop} {Qc : Array Value → State → Outcome → State → Prop} {free : Addr → Prop} {Ts : List Cond} {own : String} {As : List Value} {g : JFrame} (S : CallFix p m c cc nL s args Ts own) (hM : Met l y [.codeWith y bytes maxL ret hh] rm Pc Qc mc ms free) (hrc : rm.cells = mc) (hrs : rm.slots = ms) (hR : rm.frames + 1 ≤ R.frames ∧ 8 + (maxL + 11) + rm.locals ≤ R.locals) (hG : GoodIn Ts (va_wsS own index y [.codeWith y bytes maxL ret hh]))
    (hd : y.cls ≠ "java/lang/invoke/MethodHandle" ∧ y.cls ≠ "java/lang/invoke/VarHandle" ∧ (parseMethodDescriptor y.desc).map (fun d => d.parameters.length) = some n) (hp : PreS s H Pc As)
    (hg : g.method = m) (hn : As.length = n) (hsize : g.locals.size = nL) (hstack : g.stack = As.reverse ++ rest) (hW : 2 * g.monitorRoom + (rest.map fun v => v.category).sum ≤ 8) (hdg : decode cc g.pc = .ok (.invokestatic index, 3)) (hf : cells + mc ≤ R.cells ∧ slots + ms ≤ R.slots) :
    va_Run p l e R s m args below meth c H locs cells slots mc ms g rest (Qc As.toArray) free := by
  obtain ⟨hx, hb, hml, ho, hts⟩ := S
  have ok : ∀ w ∈ va_wsS own index y [.codeWith y bytes maxL ret hh], w.before args s = true := fun w h => hts w (hG w h).1
  have hini : (Cond.initialized y.cls).before args s = true := ok _ (by simp [va_wsS])
  have hcode : (Cond.codeWith y bytes maxL ret hh).before args s = true := ok _ (by simp [va_wsS])
  have hK : Back l R p e below s args y 3 8 (PreOf R mc ms Pc) (PostOf Qc mc ms free) := va_backW (hh := hh) (bytes := bytes) (maxL := maxL) (ret := ret) hM hp.1 hrc hrs hR.1 hR.2 (fun w hw => pay_in hts hG w (by unfold va_wsS; exact List.mem_append_right _ hw)) List.mem_cons_self (fun a' U hW9 => word_at hW9 (Or.inl (by first | rfl | simp [Cond.onTables, Cond.keeps, Cond.steady])) hini)
  obtain ⟨mk, methM, cM, hnamed, hmethM, -, -, -, -, -, -, hsigM⟩ := Cond.codeWith_spec hcode
  have hstatic : methM.isStatic = true := Cond.static_spec hnamed hmethM (ok _ (by simp [va_wsS]))
  obtain ⟨kP, hkP, -⟩ := className_of_methodNamed hnamed
  have hinitP : kP.init = .initialized := Cond.initialized_spec (findClass_of_methodNamed hnamed) hkP hini
  have hlen : As.length = methM.sig.parameters.length := by
    have h2 := hd.2.2
    rw [hsigM] at h2
    exact hn.trans (Option.some.inj h2).symm
  have hlink9 : (Cond.methodLink own index y).before args s = true := ok _ (by simp [va_wsS])
  intro T hT X
  obtain ⟨vm₁, X₁, hstep⟩ := X.invokestatic hx ho hlink9 hnamed hmethM hstatic hkP hinitP ⟨hd.1, hd.2.1⟩ (g := g) hg (argsL := As) (rest := rest) hlen hstack (by rw [hb]; exact hdg)
  obtain ⟨v, ⟨U', l2, c2, s2⟩, X', ⟨g', mk', t, L, e1, e2, hq, h1, hL, h2, h3⟩, hsteps⟩ := hK m meth c ⟨T.setVm vm₁, locs, cells, slots⟩ { g with stack := rest } (.invokestatic index) mk As.toArray X₁ hg (hsize.trans hml.symm) (by rw [hb]; exact hdg) hW (X₁.named hnamed) ⟨hf.1, hf.2, hp.2 (T.setVm vm₁) hT X₁.warmed⟩
  dsimp only [Pt.U, Pt.locs, Pt.cells, Pt.slots] at X' e1 e2 h1 h2 h3 hsteps
  subst h1; subst h2; subst h3
  exact ⟨v, (T.setVm vm₁).calling g' mk' As.toArray, t, U', L, hT, X', hL, e1, e2, hq, fun target h9 => hstep _ fun acts => by rw [doInvoke_state]; exact hsteps.trans h9⟩
end GTK
section GTH
variable {l : Launch} {y : MethodName} {rm : Room} {G : gw_G} {M : gw_M} {av : List Value} {Qc : Array Value → State → Outcome → State → Prop} {mc ms : Nat} {cc : ByteArray} {maxL : Nat} {ret : Option FieldType}
theorem gt_startH {hh : List (Nat × Nat × Nat × Nat)} (hy : plainName y.cls = true) (hn : (lg_sl av).length ≤ maxL)
    (body : ∀ (p : Program) (e : Env) (s : State) (m : MethodId) (below : List Frame) (meth : Method) (c : Code), c.exceptionTable.toList = tableOf hh → p.tables.exec = Jvm.exec → c.code = cc → meth.sig.returnType = ret → c.maxLocals = maxL → s.vm.findClass y.cls = some m.cls → meth.locks = false → meth.name = y.name → gw_E G s → G.2.2.2 ≤ s.heap.size → gw_P G.1 vwCl G.2.2.2 M s.heap →
      ∀ ls : Array Slot, lv_has ls maxL (lv_args 0 av) → W p l e rm s m av.toArray below meth c s.heap [] 0 0 (MQ below Qc av.toArray s mc ms (gw_A G)) (F0 m 0 ls [])) :
    Met l y [.codeWith y cc maxL ret hh] rm (gw_Pc G M av) Qc mc ms (gw_A G) := by
  refine va_MetW (cc := cc) (maxL := maxL) (ret := ret) (hh := hh) hy rfl ?_
  intro p e s m args below meth c s₁ B hml hv
  obtain ⟨rfl, hE, hB, hW⟩ := hv
  have hTab : c.exceptionTable.toList = tableOf hh := by
    obtain ⟨m9, meth9, c9, hn9, h1, h2, -, -, h6, -⟩ := Cond.codeWith_spec (atoms_spec (ws := [.codeWith y cc maxL ret hh]) B.pre _ List.mem_cons_self)
    cases Option.some.inj (hn9.symm.trans B.named)
    cases Option.some.inj (h1.symm.trans B.method)
    cases Option.some.inj (h2.symm.trans (Stand.of_body B).code)
    rw [← h6, table_eq]
  have hl := lv_entry av (n := maxL) hn
  rw [lg_entry_eq]
  generalize (lg_sl av ++ List.replicate (maxL - (lg_sl av).length) Slot.unset).toArray = ls at hl ⊢
  exact body p e s m below meth c hTab B.exec B.bytes B.returns hml (findClass_of_methodNamed B.named) B.notSynchronized (name_of_methodNamed B.named B.method).1 hE hB hW ls hl
end GTH
end
section
abbrev b_Row_init : ByteArray := prog_4_method_1_code
abbrev y_Row_init : MethodName := ⟨"Generations$Row", "<init>", "()V"⟩
abbrev b_AC_init : ByteArray := prog_17_method_1_code
abbrev y_AC_init : MethodName := ⟨"java/util/AbstractCollection", "<init>", "()V"⟩
abbrev b_AbL_init : ByteArray := prog_18_method_1_code
abbrev y_AbL_init : MethodName := ⟨"java/util/AbstractList", "<init>", "()V"⟩
abbrev b_AL_init : ByteArray := prog_19_method_2_code
abbrev y_AL_init : MethodName := ⟨"java/util/ArrayList", "<init>", "()V"⟩
abbrev b_Gen_init : ByteArray := prog_2_method_1_code
abbrev y_Gen_init : MethodName := ⟨"Generations$Generation", "<init>", "(I)V"⟩
abbrev b_X_init : ByteArray := prog_1_method_1_code
abbrev y_X_init : MethodName := ⟨"Generations", "<init>", "(II)V"⟩
set_option maxRecDepth 20000 in
theorem mw0 : (Cond.methodLink "Generations$Row" (3 : Nat) ({ cls := "java/lang/Object", name := "<init>", desc := "()V" } : Jvm.MethodName)) ∈ gw_N0 := gw_in (List.mem_append_right _ (gw_tm (i := 32) rfl))
set_option maxRecDepth 20000 in
theorem mw1 : (Cond.instanceMethod ({ cls := "java/lang/Object", name := "<init>", desc := "()V" } : Jvm.MethodName)) ∈ gw_N0 := gw_in (List.mem_append_right _ (gw_tm (i := 25) rfl))
set_option maxRecDepth 20000 in
theorem mw2 : (Cond.code ({ cls := "java/lang/Object", name := "<init>", desc := "()V" } : Jvm.MethodName) object_method_1_code (1 : Nat) (Option.none : Option Jvm.ClassFile.FieldType)) ∈ gw_N0 := gw_in (List.mem_append_right _ (gw_tm (i := 26) rfl))
set_option maxRecDepth 20000 in
theorem mw3 : (Cond.arrayClass Jvm.ClassFile.FieldType.int) ∈ gw_N0 := gw_in (List.mem_append_right _ (gw_tm (i := 41) rfl))
set_option maxRecDepth 20000 in
theorem mw4 : (Cond.fieldLink "Generations$Row" (9 : Nat) "Generations$Row" "numbers" "[I") ∈ gw_N0 := gw_in (List.mem_append_right _ (gw_tm (i := 33) rfl))
set_option maxRecDepth 20000 in
theorem mw5 : (Cond.methodLink "java/util/AbstractCollection" (1 : Nat) ({ cls := "java/lang/Object", name := "<init>", desc := "()V" } : Jvm.MethodName)) ∈ gw_N0 := gw_in (List.mem_append_right _ (gw_tm (i := 53) rfl))
set_option maxRecDepth 20000 in
theorem mw6 : (Cond.code ({ cls := "java/util/AbstractCollection", name := "<init>", desc := "()V" } : Jvm.MethodName) prog_17_method_1_code (1 : Nat) (Option.none : Option Jvm.ClassFile.FieldType)) ∈ gw_N0 := gw_in (List.mem_append_right _ (gw_tm (i := 52) rfl))
set_option maxRecDepth 20000 in
theorem mw7 : (Cond.initialized "java/util/AbstractCollection") ∈ gw_N0 := gw_in (List.mem_append_right _ (gw_tm (i := 3) rfl))
set_option maxRecDepth 20000 in
theorem mw8 : (Cond.methodLink "java/util/AbstractList" (1 : Nat) ({ cls := "java/util/AbstractCollection", name := "<init>", desc := "()V" } : Jvm.MethodName)) ∈ gw_N0 := gw_in (List.mem_append_right _ (gw_tm (i := 50) rfl))
set_option maxRecDepth 20000 in
theorem mw9 : (Cond.instanceMethod ({ cls := "java/util/AbstractCollection", name := "<init>", desc := "()V" } : Jvm.MethodName)) ∈ gw_N0 := gw_in (List.mem_append_right _ (gw_tm (i := 51) rfl))
set_option maxRecDepth 20000 in
theorem mw10 : (Cond.fieldLink "java/util/AbstractList" (7 : Nat) "java/util/AbstractList" "modCount" "I") ∈ gw_N0 := gw_in (List.mem_append_right _ (gw_tm (i := 58) rfl))
set_option maxRecDepth 20000 in
theorem mw11 : (Cond.code ({ cls := "java/util/AbstractList", name := "<init>", desc := "()V" } : Jvm.MethodName) prog_18_method_1_code (1 : Nat) (Option.none : Option Jvm.ClassFile.FieldType)) ∈ gw_N0 := gw_in (List.mem_append_right _ (gw_tm (i := 49) rfl))
set_option maxRecDepth 20000 in
theorem mw12 : (Cond.initialized "java/util/AbstractList") ∈ gw_N0 := gw_in (List.mem_append_right _ (gw_tm (i := 4) rfl))
set_option maxRecDepth 20000 in
theorem mw13 : (Cond.methodLink "java/util/ArrayList" (1 : Nat) ({ cls := "java/util/AbstractList", name := "<init>", desc := "()V" } : Jvm.MethodName)) ∈ gw_N0 := gw_in (List.mem_append_right _ (gw_tm (i := 47) rfl))
set_option maxRecDepth 20000 in
theorem mw14 : (Cond.instanceMethod ({ cls := "java/util/AbstractList", name := "<init>", desc := "()V" } : Jvm.MethodName)) ∈ gw_N0 := gw_in (List.mem_append_right _ (gw_tm (i := 48) rfl))
set_option maxRecDepth 20000 in
theorem mw15 : (Cond.fieldLink "java/util/ArrayList" (39 : Nat) "java/util/ArrayList" "DEFAULTCAPACITY_EMPTY_ELEMENTDATA" "[Ljava/lang/Object;") ∈ gw_N0 := gw_in (List.mem_append_right _ (gw_tm (i := 54) rfl))
set_option maxRecDepth 20000 in
theorem mw16 : (Cond.fieldLink "java/util/ArrayList" (9 : Nat) "java/util/ArrayList" "elementData" "[Ljava/lang/Object;") ∈ gw_N0 := gw_in (List.mem_append_right _ (gw_tm (i := 56) rfl))
set_option maxRecDepth 20000 in
theorem mw17 : (Cond.methodLink "Generations$Generation" (3 : Nat) ({ cls := "java/lang/Object", name := "<init>", desc := "()V" } : Jvm.MethodName)) ∈ gw_N0 := gw_in (List.mem_append_right _ (gw_tm (i := 73) rfl))
set_option maxRecDepth 20000 in
theorem mw18 : (Cond.fieldLink "Generations$Generation" (9 : Nat) "Generations$Generation" "state" "I") ∈ gw_N0 := gw_in (List.mem_append_right _ (gw_tm (i := 76) rfl))
set_option maxRecDepth 20000 in
theorem mw19 : (Cond.fieldLink "Generations$Generation" (15 : Nat) "Generations$Generation" "maker" "I") ∈ gw_N0 := gw_in (List.mem_append_right _ (gw_tm (i := 80) rfl))
set_option maxRecDepth 20000 in
theorem mw20 : (Cond.fieldLink "Generations$Generation" (18 : Nat) "Generations$Generation" "number" "I") ∈ gw_N0 := gw_in (List.mem_append_right _ (gw_tm (i := 74) rfl))
set_option maxRecDepth 20000 in
theorem mw21 : (Cond.methodLink "Generations" (1 : Nat) ({ cls := "java/lang/Object", name := "<init>", desc := "()V" } : Jvm.MethodName)) ∈ gw_N0 := gw_in (List.mem_append_right _ (gw_tm (i := 24) rfl))
set_option maxRecDepth 20000 in
theorem mw22 : (Cond.classLink "Generations" (7 : Nat) "Generations$Row") ∈ gw_N0 := gw_in (List.mem_append_right _ (gw_tm (i := 27) rfl))
set_option maxRecDepth 20000 in
theorem mw23 : (Cond.instantiable "Generations$Row" (2 : Nat)) ∈ gw_N0 := gw_in (List.mem_append_right _ (gw_tm (i := 28) rfl))
set_option maxRecDepth 20000 in
theorem mw24 : (Cond.initialized "Generations$Row") ∈ gw_N0 := gw_in (List.mem_append_right _ (gw_tm (i := 2) rfl))
set_option maxRecDepth 20000 in
theorem mw25 : (Cond.code ({ cls := "Generations$Row", name := "<init>", desc := "()V" } : Jvm.MethodName) prog_4_method_1_code (1 : Nat) (Option.none : Option Jvm.ClassFile.FieldType)) ∈ gw_N0 := gw_in (List.mem_append_right _ (gw_tm (i := 31) rfl))
set_option maxRecDepth 20000 in
theorem mw26 : (Cond.methodLinkNest "Generations" (9 : Nat) ({ cls := "Generations$Row", name := "<init>", desc := "()V" } : Jvm.MethodName) "Generations") ∈ gw_N0 := gw_in (List.mem_append_right _ (gw_tm (i := 29) rfl))
set_option maxRecDepth 20000 in
theorem mw27 : (Cond.instanceMethod ({ cls := "Generations$Row", name := "<init>", desc := "()V" } : Jvm.MethodName)) ∈ gw_N0 := gw_in (List.mem_append_right _ (gw_tm (i := 30) rfl))
set_option maxRecDepth 20000 in
theorem mw28 : (Cond.fieldLink "Generations" (10 : Nat) "Generations" "row" "LGenerations$Row;") ∈ gw_N0 := gw_in (List.mem_append_right _ (gw_tm (i := 104) rfl))
set_option maxRecDepth 20000 in
theorem mw29 : (Cond.classLink "Generations" (16 : Nat) "java/util/ArrayList") ∈ gw_N0 := gw_in (List.mem_append_right _ (gw_tm (i := 42) rfl))
set_option maxRecDepth 20000 in
theorem mw30 : (Cond.instantiable "java/util/ArrayList" (3 : Nat)) ∈ gw_N0 := gw_in (List.mem_append_right _ (gw_tm (i := 43) rfl))
set_option maxRecDepth 20000 in
theorem mw31 : (Cond.initialized "java/util/ArrayList") ∈ gw_N0 := gw_in (List.mem_append_right _ (gw_tm (i := 5) rfl))
set_option maxRecDepth 20000 in
theorem mw32 : (Cond.code ({ cls := "java/util/ArrayList", name := "<init>", desc := "()V" } : Jvm.MethodName) prog_19_method_2_code (1 : Nat) (Option.none : Option Jvm.ClassFile.FieldType)) ∈ gw_N0 := gw_in (List.mem_append_right _ (gw_tm (i := 46) rfl))
set_option maxRecDepth 20000 in
theorem mw33 : (Cond.methodLink "Generations" (18 : Nat) ({ cls := "java/util/ArrayList", name := "<init>", desc := "()V" } : Jvm.MethodName)) ∈ gw_N0 := gw_in (List.mem_append_right _ (gw_tm (i := 44) rfl))
set_option maxRecDepth 20000 in
theorem mw34 : (Cond.instanceMethod ({ cls := "java/util/ArrayList", name := "<init>", desc := "()V" } : Jvm.MethodName)) ∈ gw_N0 := gw_in (List.mem_append_right _ (gw_tm (i := 45) rfl))
set_option maxRecDepth 20000 in
theorem mw35 : (Cond.fieldLink "Generations" (19 : Nat) "Generations" "jobs" "Ljava/util/ArrayList;") ∈ gw_N0 := gw_in (List.mem_append_right _ (gw_tm (i := 105) rfl))
set_option maxRecDepth 20000 in
theorem mw36 : (Cond.fieldLink "Generations" (23 : Nat) "Generations" "known" "Ljava/util/ArrayList;") ∈ gw_N0 := gw_in (List.mem_append_right _ (gw_tm (i := 106) rfl))
set_option maxRecDepth 20000 in
theorem mw37 : (Cond.classLink "Generations" (26 : Nat) "Generations$Generation") ∈ gw_N0 := gw_in (List.mem_append_right _ (gw_tm (i := 68) rfl))
set_option maxRecDepth 20000 in
theorem mw38 : (Cond.instantiable "Generations$Generation" (5 : Nat)) ∈ gw_N0 := gw_in (List.mem_append_right _ (gw_tm (i := 69) rfl))
set_option maxRecDepth 20000 in
theorem mw39 : (Cond.initialized "Generations$Generation") ∈ gw_N0 := gw_in (List.mem_append_right _ (gw_tm (i := 6) rfl))
set_option maxRecDepth 20000 in
theorem mw40 : (Cond.code ({ cls := "Generations$Generation", name := "<init>", desc := "(I)V" } : Jvm.MethodName) prog_2_method_1_code (2 : Nat) (Option.none : Option Jvm.ClassFile.FieldType)) ∈ gw_N0 := gw_in (List.mem_append_right _ (gw_tm (i := 72) rfl))
set_option maxRecDepth 20000 in
theorem mw41 : (Cond.methodLinkNest "Generations" (28 : Nat) ({ cls := "Generations$Generation", name := "<init>", desc := "(I)V" } : Jvm.MethodName) "Generations") ∈ gw_N0 := gw_in (List.mem_append_right _ (gw_tm (i := 70) rfl))
set_option maxRecDepth 20000 in
theorem mw42 : (Cond.instanceMethod ({ cls := "Generations$Generation", name := "<init>", desc := "(I)V" } : Jvm.MethodName)) ∈ gw_N0 := gw_in (List.mem_append_right _ (gw_tm (i := 71) rfl))
set_option maxRecDepth 20000 in
theorem mw43 : (Cond.fieldLink "Generations" (31 : Nat) "Generations" "nowhere" "LGenerations$Generation;") ∈ gw_N0 := gw_in (List.mem_append_right _ (gw_tm (i := 107) rfl))
set_option maxRecDepth 20000 in
theorem mw44 : (Cond.fieldLink "Generations" (35 : Nat) "Generations" "gone" "[I") ∈ gw_N0 := gw_in (List.mem_append_right _ (gw_tm (i := 108) rfl))
set_option maxRecDepth 20000 in
theorem mw45 : (Cond.methodLink "Generations" (39 : Nat) ({ cls := "java/lang/Math", name := "min", desc := "(II)I" } : Jvm.MethodName)) ∈ gw_N0 := gw_in (List.mem_append_right _ (gw_tm (i := 95) rfl))
set_option maxRecDepth 20000 in
theorem mw46 : (Cond.static ({ cls := "java/lang/Math", name := "min", desc := "(II)I" } : Jvm.MethodName)) ∈ gw_N0 := gw_in (List.mem_append_right _ (gw_tm (i := 96) rfl))
set_option maxRecDepth 20000 in
theorem mw47 : (Cond.initialized "java/lang/Math") ∈ gw_N0 := gw_in (List.mem_append_right _ (gw_tm (i := 7) rfl))
set_option maxRecDepth 20000 in
theorem mw48 : (Cond.code ({ cls := "java/lang/Math", name := "min", desc := "(II)I" } : Jvm.MethodName) prog_12_method_69_code (2 : Nat) (Option.some Jvm.ClassFile.FieldType.int)) ∈ gw_N0 := gw_in (List.mem_append_right _ (gw_tm (i := 97) rfl))
set_option maxRecDepth 20000 in
theorem mw49 : (Cond.methodLink "Generations" (45 : Nat) ({ cls := "java/lang/Math", name := "max", desc := "(II)I" } : Jvm.MethodName)) ∈ gw_N0 := gw_in (List.mem_append_right _ (gw_tm (i := 98) rfl))
set_option maxRecDepth 20000 in
theorem mw50 : (Cond.static ({ cls := "java/lang/Math", name := "max", desc := "(II)I" } : Jvm.MethodName)) ∈ gw_N0 := gw_in (List.mem_append_right _ (gw_tm (i := 99) rfl))
set_option maxRecDepth 20000 in
theorem mw51 : (Cond.code ({ cls := "java/lang/Math", name := "max", desc := "(II)I" } : Jvm.MethodName) prog_12_method_65_code (2 : Nat) (Option.some Jvm.ClassFile.FieldType.int)) ∈ gw_N0 := gw_in (List.mem_append_right _ (gw_tm (i := 100) rfl))
set_option maxRecDepth 20000 in
theorem mw52 : (Cond.fieldLink "Generations" (48 : Nat) "Generations" "limit" "I") ∈ gw_N0 := gw_in (List.mem_append_right _ (gw_tm (i := 101) rfl))
set_option maxRecDepth 20000 in
theorem mw53 : (Cond.fieldLink "Generations" (52 : Nat) "Generations" "scratches" "Z") ∈ gw_N0 := gw_in (List.mem_append_right _ (gw_tm (i := 102) rfl))
end
section
theorem d_Row_init_0 : decode b_Row_init 0 = .ok (.aload_n 0, 1) := by decide +kernel
theorem d_Row_init_1 : decode b_Row_init 1 = .ok (.invokespecial 3, 3) := by decide +kernel
theorem d_Row_init_4 : decode b_Row_init 4 = .ok (.aload_n 0, 1) := by decide +kernel
theorem d_Row_init_5 : decode b_Row_init 5 = .ok (.sipush 256, 3) := by decide +kernel
theorem d_Row_init_8 : decode b_Row_init 8 = .ok (.newarray .int, 2) := by decide +kernel
theorem d_Row_init_10 : decode b_Row_init 10 = .ok (.putfield 9, 3) := by decide +kernel
theorem d_Row_init_13 : decode b_Row_init 13 = .ok (.return_, 1) := by decide +kernel
theorem d_AC_init_0 : decode b_AC_init 0 = .ok (.aload_n 0, 1) := by decide +kernel
theorem d_AC_init_1 : decode b_AC_init 1 = .ok (.invokespecial 1, 3) := by decide +kernel
theorem d_AC_init_4 : decode b_AC_init 4 = .ok (.return_, 1) := by decide +kernel
theorem d_AbL_init_0 : decode b_AbL_init 0 = .ok (.aload_n 0, 1) := by decide +kernel
theorem d_AbL_init_1 : decode b_AbL_init 1 = .ok (.invokespecial 1, 3) := by decide +kernel
theorem d_AbL_init_4 : decode b_AbL_init 4 = .ok (.aload_n 0, 1) := by decide +kernel
theorem d_AbL_init_5 : decode b_AbL_init 5 = .ok (.iconst 0, 1) := by decide +kernel
theorem d_AbL_init_6 : decode b_AbL_init 6 = .ok (.putfield 7, 3) := by decide +kernel
theorem d_AbL_init_9 : decode b_AbL_init 9 = .ok (.return_, 1) := by decide +kernel
theorem d_AL_init_0 : decode b_AL_init 0 = .ok (.aload_n 0, 1) := by decide +kernel
theorem d_AL_init_1 : decode b_AL_init 1 = .ok (.invokespecial 1, 3) := by decide +kernel
theorem d_AL_init_4 : decode b_AL_init 4 = .ok (.aload_n 0, 1) := by decide +kernel
theorem d_AL_init_5 : decode b_AL_init 5 = .ok (.getstatic 39, 3) := by decide +kernel
theorem d_AL_init_8 : decode b_AL_init 8 = .ok (.putfield 9, 3) := by decide +kernel
theorem d_AL_init_11 : decode b_AL_init 11 = .ok (.return_, 1) := by decide +kernel
theorem d_Gen_init_0 : decode b_Gen_init 0 = .ok (.aload_n 0, 1) := by decide +kernel
theorem d_Gen_init_1 : decode b_Gen_init 1 = .ok (.invokespecial 3, 3) := by decide +kernel
theorem d_Gen_init_4 : decode b_Gen_init 4 = .ok (.aload_n 0, 1) := by decide +kernel
theorem d_Gen_init_5 : decode b_Gen_init 5 = .ok (.iconst 0, 1) := by decide +kernel
theorem d_Gen_init_6 : decode b_Gen_init 6 = .ok (.putfield 9, 3) := by decide +kernel
theorem d_Gen_init_9 : decode b_Gen_init 9 = .ok (.aload_n 0, 1) := by decide +kernel
theorem d_Gen_init_10 : decode b_Gen_init 10 = .ok (.iconst 0, 1) := by decide +kernel
theorem d_Gen_init_11 : decode b_Gen_init 11 = .ok (.putfield 15, 3) := by decide +kernel
theorem d_Gen_init_14 : decode b_Gen_init 14 = .ok (.aload_n 0, 1) := by decide +kernel
theorem d_Gen_init_15 : decode b_Gen_init 15 = .ok (.iload_n 1, 1) := by decide +kernel
theorem d_Gen_init_16 : decode b_Gen_init 16 = .ok (.putfield 18, 3) := by decide +kernel
theorem d_Gen_init_19 : decode b_Gen_init 19 = .ok (.return_, 1) := by decide +kernel
theorem d_X_init_0 : decode b_X_init 0 = .ok (.aload_n 0, 1) := by decide +kernel
theorem d_X_init_1 : decode b_X_init 1 = .ok (.invokespecial 1, 3) := by decide +kernel
theorem d_X_init_4 : decode b_X_init 4 = .ok (.aload_n 0, 1) := by decide +kernel
theorem d_X_init_5 : decode b_X_init 5 = .ok (.new 7, 3) := by decide +kernel
theorem d_X_init_8 : decode b_X_init 8 = .ok (.dup, 1) := by decide +kernel
theorem d_X_init_9 : decode b_X_init 9 = .ok (.invokespecial 9, 3) := by decide +kernel
theorem d_X_init_12 : decode b_X_init 12 = .ok (.putfield 10, 3) := by decide +kernel
theorem d_X_init_15 : decode b_X_init 15 = .ok (.aload_n 0, 1) := by decide +kernel
theorem d_X_init_16 : decode b_X_init 16 = .ok (.new 16, 3) := by decide +kernel
theorem d_X_init_19 : decode b_X_init 19 = .ok (.dup, 1) := by decide +kernel
theorem d_X_init_20 : decode b_X_init 20 = .ok (.invokespecial 18, 3) := by decide +kernel
theorem d_X_init_23 : decode b_X_init 23 = .ok (.putfield 19, 3) := by decide +kernel
theorem d_X_init_26 : decode b_X_init 26 = .ok (.aload_n 0, 1) := by decide +kernel
theorem d_X_init_27 : decode b_X_init 27 = .ok (.new 16, 3) := by decide +kernel
theorem d_X_init_30 : decode b_X_init 30 = .ok (.dup, 1) := by decide +kernel
theorem d_X_init_31 : decode b_X_init 31 = .ok (.invokespecial 18, 3) := by decide +kernel
theorem d_X_init_34 : decode b_X_init 34 = .ok (.putfield 23, 3) := by decide +kernel
theorem d_X_init_37 : decode b_X_init 37 = .ok (.aload_n 0, 1) := by decide +kernel
theorem d_X_init_38 : decode b_X_init 38 = .ok (.new 26, 3) := by decide +kernel
theorem d_X_init_41 : decode b_X_init 41 = .ok (.dup, 1) := by decide +kernel
theorem d_X_init_42 : decode b_X_init 42 = .ok (.iconst 0, 1) := by decide +kernel
theorem d_X_init_43 : decode b_X_init 43 = .ok (.invokespecial 28, 3) := by decide +kernel
theorem d_X_init_46 : decode b_X_init 46 = .ok (.putfield 31, 3) := by decide +kernel
theorem d_X_init_49 : decode b_X_init 49 = .ok (.aload_n 0, 1) := by decide +kernel
theorem d_X_init_50 : decode b_X_init 50 = .ok (.sipush 512, 3) := by decide +kernel
theorem d_X_init_53 : decode b_X_init 53 = .ok (.newarray .int, 2) := by decide +kernel
theorem d_X_init_55 : decode b_X_init 55 = .ok (.putfield 35, 3) := by decide +kernel
theorem d_X_init_58 : decode b_X_init 58 = .ok (.aload_n 0, 1) := by decide +kernel
theorem d_X_init_59 : decode b_X_init 59 = .ok (.iconst 1, 1) := by decide +kernel
theorem d_X_init_60 : decode b_X_init 60 = .ok (.iload_n 1, 1) := by decide +kernel
theorem d_X_init_61 : decode b_X_init 61 = .ok (.sipush 255, 3) := by decide +kernel
theorem d_X_init_64 : decode b_X_init 64 = .ok (.invokestatic 39, 3) := by decide +kernel
theorem d_X_init_67 : decode b_X_init 67 = .ok (.invokestatic 45, 3) := by decide +kernel
theorem d_X_init_70 : decode b_X_init 70 = .ok (.putfield 48, 3) := by decide +kernel
theorem d_X_init_73 : decode b_X_init 73 = .ok (.aload_n 0, 1) := by decide +kernel
theorem d_X_init_74 : decode b_X_init 74 = .ok (.iload_n 2, 1) := by decide +kernel
theorem d_X_init_75 : decode b_X_init 75 = .ok (.ifCond .eq 7, 3) := by decide +kernel
theorem d_X_init_82 : decode b_X_init 82 = .ok (.iconst 0, 1) := by decide +kernel
theorem d_X_init_83 : decode b_X_init 83 = .ok (.putfield 52, 3) := by decide +kernel
theorem d_X_init_86 : decode b_X_init 86 = .ok (.return_, 1) := by decide +kernel
theorem d_X_init_78 : decode b_X_init 78 = .ok (.iconst 1, 1) := by decide +kernel
theorem d_X_init_79 : decode b_X_init 79 = .ok (.goto 4, 3) := by decide +kernel
end
section
set_option maxHeartbeats 4000000 in
set_option maxRecDepth 100000 in
theorem c_Row_init (l : Launch) (G : gw_G) (M : gw_M) (a : Nat) (hf_a : M a = some (2, .inr (1, [.null, .int 0]))) : Met l y_Row_init [.code y_Row_init b_Row_init 1 none] ({ frames := 1, cells := 1, slots := 256, locals := 12 }) (gw_Pc G M [.ref a]) (gw_Qv G (fun M2 => ∃ (n : Nat), M2 a = some (2, .inr (1, [.ref n, .int 0])) ∧ M2 n = some (3, .inl (G.2.1 0, 256, .inl (fun _ => 0))) ∧ gw_fr (gw_out [2, 3]) M M2)) 1 256 (gw_A G) := by
  refine gw_start (by decide) (Nat.le_of_ble_eq_true rfl) (fun p9 e9 s m b9 mt9 c9 hx hb hr hml hown hlocks hin hE hB hW ls hl => ?_)
  have hts := hE.ts ([.ref a] : List Value).toArray
  have hl : lv_has ls 1 [(0, .ref a)] := hl
  have hS : va_S (gw_A G) s.heap s.heap [] := va_S.rf
  have hown : s.vm.findClass "Generations$Row" = some m.cls := hown
  have hin : mt9.name = "<init>" := hin
  refine lv_aload_n hx hb d_Row_init_0 rfl (lv_at hl 0 rfl) ?_
  refine W.objInit hx hb hown (hts _ mw0) (hts _ mw1) (hts _ mw2) rfl (by rw [hml]; exact hl.1) rfl d_Row_init_1 (Nat.le_of_ble_eq_true rfl) (Nat.le_of_ble_eq_true rfl) ?_
  refine W.eq (g2 := F0 m 4 ls []) rfl ?_
  refine lv_aload_n hx hb d_Row_init_4 rfl (lv_at hl 0 rfl) ?_
  refine lv_sipush (v := 256) hx hb d_Row_init_5 (by decide) ?_
  refine gw_newa (atype := .int) (ty := .int) (n := 256) (a0 := (256, .inl (fun _ => 0))) (N' := 256) hx hb (hts (.arrayClass .int) mw3) rfl hE.K hW hS hB (gw_zi 256) (by decide) (by decide) (Nat.le_of_ble_eq_true rfl) (Nat.le_of_ble_eq_true rfl) (Nat.le_of_ble_eq_true rfl) d_Row_init_8 0 rfl (fun cA h1 h2 => gw_ri _ _ h1 h2) 3 (fun q1 H hq2 hW hS => ?_)
  refine W.widen (k := 1) (n := 256) (Nat.le_refl _) (Nat.le_refl _) ?_
  have hF3 : gw_fr (gw_out [2, 3]) M (gw_up M q1 3 (.inl (G.2.1 0, 256, .inl (fun _ => 0)))) := gw_fr.new gw_fr.rf hq2 (show ¬ ((gw_out [2, 3]) 3) by decide)
  obtain ⟨M4, eM4⟩ : ∃ z, z = gw_up M q1 3 (.inl (G.2.1 0, 256, .inl (fun _ => 0))) := ⟨_, rfl⟩
  replace hW : gw_P G.1 vwCl G.2.2.2 M4 H := by rw [eM4]; exact hW
  have hf_a : M4 a = some (2, .inr (1, [.null, .int 0])) := by rw [eM4]; exact gw_keepN hf_a hq2
  have hf_q1 : M4 q1 = some (3, .inl (G.2.1 0, 256, .inl (fun _ => 0))) := by rw [eM4]; exact gw_up_self _ _ _ _
  rw [← eM4] at hF3
  refine gw_putF (ci := 1) (fs := [.null, .int 0]) (v := .ref q1) (ty := .array .int) hx hb hts in_Row t_Row t_Row_ok n_Row hown hE.K hW hS hf_a rfl 0 (by decide) (hts _ mw4) (fun _ h9 => h9) rfl hin rfl (by decide +kernel) rfl rfl (Nat.le_of_ble_eq_true rfl) d_Row_init_10 (fun H locs hW hS => ?_)
  have hF5 : gw_fr (gw_out [2, 3]) M (gw_up M4 a 2 (.inr (1, [.ref q1, .int 0]))) := gw_fr.up hF3 hf_a (show ¬ ((gw_out [2, 3]) 2) by decide) (show ¬ ((gw_out [2, 3]) 2) by decide)
  obtain ⟨M6, eM6⟩ : ∃ z, z = gw_up M4 a 2 (.inr (1, [.ref q1, .int 0])) := ⟨_, rfl⟩
  replace hW : gw_P G.1 vwCl G.2.2.2 M6 H := by rw [eM6]; exact hW
  have hf_q1 : M6 q1 = some (3, .inl (G.2.1 0, 256, .inl (fun _ => 0))) := by rw [eM6]; exact gw_keep hf_q1 hf_a (by decide)
  have hf_a : M6 a = some (2, .inr (1, [.ref q1, .int 0])) := by rw [eM6]; exact gw_up_self _ _ _ _
  rw [← eM6] at hF5
  exact gw_vret hx hb hr hlocks hS hW (Nat.le_of_ble_eq_true rfl) (Nat.le_of_ble_eq_true rfl) d_Row_init_13 (⟨q1, hf_a, hf_q1, hF5⟩)

set_option maxHeartbeats 4000000 in
set_option maxRecDepth 100000 in
theorem c_AC_init (l : Launch) (G : gw_G) (M : gw_M) (a : Nat) : Met l y_AC_init [.code y_AC_init b_AC_init 1 none] ({ frames := 1, cells := 0, slots := 0, locals := 12 }) (gw_Pc G M [.ref a]) (gw_Qv G (fun M2 => M = M2)) 0 0 (gw_A G) := by
  refine gw_start (by decide) (Nat.le_of_ble_eq_true rfl) (fun p9 e9 s m b9 mt9 c9 hx hb hr hml hown hlocks hin hE hB hW ls hl => ?_)
  have hts := hE.ts ([.ref a] : List Value).toArray
  have hl : lv_has ls 1 [(0, .ref a)] := hl
  have hS : va_S (gw_A G) s.heap s.heap [] := va_S.rf
  have hown : s.vm.findClass "java/util/AbstractCollection" = some m.cls := hown
  have hin : mt9.name = "<init>" := hin
  refine lv_aload_n hx hb d_AC_init_0 rfl (lv_at hl 0 rfl) ?_
  refine W.objInit hx hb hown (hts _ mw5) (hts _ mw1) (hts _ mw2) rfl (by rw [hml]; exact hl.1) rfl d_AC_init_1 (Nat.le_of_ble_eq_true rfl) (Nat.le_of_ble_eq_true rfl) ?_
  refine W.eq (g2 := F0 m 4 ls []) rfl ?_
  exact gw_vret hx hb hr hlocks hS hW (Nat.le_of_ble_eq_true rfl) (Nat.le_of_ble_eq_true rfl) d_AC_init_4 rfl

set_option maxHeartbeats 4000000 in
set_option maxRecDepth 100000 in
theorem c_AbL_initJ (l : Launch) (G : gw_G) (M : gw_M) (a : Nat) (hf_a : M a = some (4, .inr (4, [.int 0, .null, .int 0]))) : Met l y_AbL_init [.code y_AbL_init b_AbL_init 1 none] ({ frames := 2, cells := 0, slots := 0, locals := 32 }) (gw_Pc G M [.ref a]) (gw_Qv G (fun M2 => M2 a = some (4, .inr (4, [.int 0, .null, .int 0])) ∧ gw_fr (gw_out [4]) M M2)) 0 0 (gw_A G) := by
  refine gw_start (by decide) (Nat.le_of_ble_eq_true rfl) (fun p9 e9 s m b9 mt9 c9 hx hb hr hml hown hlocks hin hE hB hW ls hl => ?_)
  have hts := hE.ts ([.ref a] : List Value).toArray
  have hl : lv_has ls 1 [(0, .ref a)] := hl
  have hS : va_S (gw_A G) s.heap s.heap [] := va_S.rf
  have hown : s.vm.findClass "java/util/AbstractList" = some m.cls := hown
  have hin : mt9.name = "<init>" := hin
  refine lv_aload_n hx hb d_AbL_init_0 rfl (lv_at hl 0 rfl) ?_
  refine gw_callv hS (va_runI (As := []) (rest := []) ⟨hx, hb, hml, hown, hts⟩ (c_AC_init l G M a  ) (cwI 0 hts (gw_g1 mw6) rfl rfl rfl (hts _ mw7) (hts _ mw8) (hts _ mw9) rfl (by decide +kernel) ⟨Nat.le_of_ble_eq_true rfl, Nat.le_of_ble_eq_true rfl⟩) (gw_ps hE hB hS hW) rfl rfl hl.1 rfl (lv_room (Nat.le_of_ble_eq_true rfl)) d_AbL_init_1 ⟨Nat.le_of_ble_eq_true rfl, Nat.le_of_ble_eq_true rfl⟩) (fun M2 H locs hw3 hW hS => ?_)
  obtain rfl := hw3
  refine lv_aload_n hx hb d_AbL_init_4 rfl (lv_at hl 0 rfl) ?_
  refine lv_iconst (v := 0) hx hb d_AbL_init_5 (by decide) ?_
  refine gw_put (ci := 4) (fs := [.int 0, .null, .int 0]) (v := .int 0) (ty := .int) hx hb hts in_AL t_AL t_AL_ok n_AL hown hE.K hW hS hf_a rfl 0 (by decide) (hts _ mw10) (fun _ h9 => h9) rfl (by decide +kernel) rfl rfl (Nat.le_of_ble_eq_true rfl) d_AbL_init_6 (fun H locs hW hS => ?_)
  have hF4 : gw_fr (gw_out [4]) M (gw_up M a 4 (.inr (4, [.int 0, .null, .int 0]))) := gw_fr.up gw_fr.rf hf_a (show ¬ ((gw_out [4]) 4) by decide) (show ¬ ((gw_out [4]) 4) by decide)
  obtain ⟨M5, eM5⟩ : ∃ z, z = gw_up M a 4 (.inr (4, [.int 0, .null, .int 0])) := ⟨_, rfl⟩
  replace hW : gw_P G.1 vwCl G.2.2.2 M5 H := by rw [eM5]; exact hW
  have hf_a : M5 a = some (4, .inr (4, [.int 0, .null, .int 0])) := by rw [eM5]; exact gw_up_self _ _ _ _
  rw [← eM5] at hF4
  exact gw_vret hx hb hr hlocks hS hW (Nat.le_of_ble_eq_true rfl) (Nat.le_of_ble_eq_true rfl) d_AbL_init_9 (⟨hf_a, hF4⟩)

set_option maxHeartbeats 4000000 in
set_option maxRecDepth 100000 in
theorem c_AbL_initK (l : Launch) (G : gw_G) (M : gw_M) (a : Nat) (hf_a : M a = some (5, .inr (4, [.int 0, .null, .int 0]))) : Met l y_AbL_init [.code y_AbL_init b_AbL_init 1 none] ({ frames := 2, cells := 0, slots := 0, locals := 32 }) (gw_Pc G M [.ref a]) (gw_Qv G (fun M2 => M2 a = some (5, .inr (4, [.int 0, .null, .int 0])) ∧ gw_fr (gw_out [5]) M M2)) 0 0 (gw_A G) := by
  refine gw_start (by decide) (Nat.le_of_ble_eq_true rfl) (fun p9 e9 s m b9 mt9 c9 hx hb hr hml hown hlocks hin hE hB hW ls hl => ?_)
  have hts := hE.ts ([.ref a] : List Value).toArray
  have hl : lv_has ls 1 [(0, .ref a)] := hl
  have hS : va_S (gw_A G) s.heap s.heap [] := va_S.rf
  have hown : s.vm.findClass "java/util/AbstractList" = some m.cls := hown
  have hin : mt9.name = "<init>" := hin
  refine lv_aload_n hx hb d_AbL_init_0 rfl (lv_at hl 0 rfl) ?_
  refine gw_callv hS (va_runI (As := []) (rest := []) ⟨hx, hb, hml, hown, hts⟩ (c_AC_init l G M a  ) (cwI 0 hts (gw_g1 mw6) rfl rfl rfl (hts _ mw7) (hts _ mw8) (hts _ mw9) rfl (by decide +kernel) ⟨Nat.le_of_ble_eq_true rfl, Nat.le_of_ble_eq_true rfl⟩) (gw_ps hE hB hS hW) rfl rfl hl.1 rfl (lv_room (Nat.le_of_ble_eq_true rfl)) d_AbL_init_1 ⟨Nat.le_of_ble_eq_true rfl, Nat.le_of_ble_eq_true rfl⟩) (fun M2 H locs hw3 hW hS => ?_)
  obtain rfl := hw3
  refine lv_aload_n hx hb d_AbL_init_4 rfl (lv_at hl 0 rfl) ?_
  refine lv_iconst (v := 0) hx hb d_AbL_init_5 (by decide) ?_
  refine gw_put (ci := 4) (fs := [.int 0, .null, .int 0]) (v := .int 0) (ty := .int) hx hb hts in_AL t_AL t_AL_ok n_AL hown hE.K hW hS hf_a rfl 0 (by decide) (hts _ mw10) (fun _ h9 => h9) rfl (by decide +kernel) rfl rfl (Nat.le_of_ble_eq_true rfl) d_AbL_init_6 (fun H locs hW hS => ?_)
  have hF4 : gw_fr (gw_out [5]) M (gw_up M a 5 (.inr (4, [.int 0, .null, .int 0]))) := gw_fr.up gw_fr.rf hf_a (show ¬ ((gw_out [5]) 5) by decide) (show ¬ ((gw_out [5]) 5) by decide)
  obtain ⟨M5, eM5⟩ : ∃ z, z = gw_up M a 5 (.inr (4, [.int 0, .null, .int 0])) := ⟨_, rfl⟩
  replace hW : gw_P G.1 vwCl G.2.2.2 M5 H := by rw [eM5]; exact hW
  have hf_a : M5 a = some (5, .inr (4, [.int 0, .null, .int 0])) := by rw [eM5]; exact gw_up_self _ _ _ _
  rw [← eM5] at hF4
  exact gw_vret hx hb hr hlocks hS hW (Nat.le_of_ble_eq_true rfl) (Nat.le_of_ble_eq_true rfl) d_AbL_init_9 (⟨hf_a, hF4⟩)

set_option maxHeartbeats 4000000 in
set_option maxRecDepth 100000 in
theorem c_AL_initJ (l : Launch) (G : gw_G) (M : gw_M) (a : Nat) (hf_a : M a = some (4, .inr (4, [.int 0, .null, .int 0]))) : Met l y_AL_init [.code y_AL_init b_AL_init 1 none] ({ frames := 3, cells := 0, slots := 0, locals := 52 }) (gw_Pc G M [.ref a]) (gw_Qv G (fun M2 => M2 a = some (4, .inr (4, [.int 0, .ref (G.2.2.1 0), .int 0])) ∧ gw_fr (gw_out [4]) M M2)) 0 0 (gw_A G) := by
  refine gw_start (by decide) (Nat.le_of_ble_eq_true rfl) (fun p9 e9 s m b9 mt9 c9 hx hb hr hml hown hlocks hin hE hB hW ls hl => ?_)
  have hts := hE.ts ([.ref a] : List Value).toArray
  have hl : lv_has ls 1 [(0, .ref a)] := hl
  have hS : va_S (gw_A G) s.heap s.heap [] := va_S.rf
  have hown : s.vm.findClass "java/util/ArrayList" = some m.cls := hown
  have hin : mt9.name = "<init>" := hin
  refine lv_aload_n hx hb d_AL_init_0 rfl (lv_at hl 0 rfl) ?_
  refine gw_callv hS (va_runI (As := []) (rest := []) ⟨hx, hb, hml, hown, hts⟩ (c_AbL_initJ l G M a hf_a ) (cwI 0 hts (gw_g1 mw11) rfl rfl rfl (hts _ mw12) (hts _ mw13) (hts _ mw14) rfl (by decide +kernel) ⟨Nat.le_of_ble_eq_true rfl, Nat.le_of_ble_eq_true rfl⟩) (gw_ps hE hB hS hW) rfl rfl hl.1 rfl (lv_room (Nat.le_of_ble_eq_true rfl)) d_AL_init_1 ⟨Nat.le_of_ble_eq_true rfl, Nat.le_of_ble_eq_true rfl⟩) (fun M2 H locs hw3 hW hS => ?_)
  obtain ⟨hf_a', hfr4⟩ := hw3
  have hf_a : M2 a = some (4, .inr (4, [.int 0, .null, .int 0])) := hf_a'
  have hF5 : gw_fr (gw_out [4]) M M2 := gw_fr.tr gw_fr.rf (gw_fr.wk hfr4 (by decide))
  refine lv_aload_n hx hb d_AL_init_4 rfl (lv_at hl 0 rfl) ?_
  refine va_gets hx hb hE.2.2.1 hS hown (hts _ mw15) (fun _ h9 => h9) d_AL_init_5 ?_
  refine gw_put (ci := 4) (fs := [.int 0, .null, .int 0]) (v := .ref (G.2.2.1 0)) (ty := .array (.object "java/lang/Object")) hx hb hts in_AL t_AL t_AL_ok n_AL hown hE.K hW hS hf_a rfl 1 (by decide) (hts _ mw16) (fun _ h9 => h9) rfl (by decide +kernel) rfl rfl (Nat.le_of_ble_eq_true rfl) d_AL_init_8 (fun H locs hW hS => ?_)
  have hF6 : gw_fr (gw_out [4]) M (gw_up M2 a 4 (.inr (4, [.int 0, .ref (G.2.2.1 0), .int 0]))) := gw_fr.up hF5 hf_a (show ¬ ((gw_out [4]) 4) by decide) (show ¬ ((gw_out [4]) 4) by decide)
  obtain ⟨M7, eM7⟩ : ∃ z, z = gw_up M2 a 4 (.inr (4, [.int 0, .ref (G.2.2.1 0), .int 0])) := ⟨_, rfl⟩
  replace hW : gw_P G.1 vwCl G.2.2.2 M7 H := by rw [eM7]; exact hW
  have hf_a : M7 a = some (4, .inr (4, [.int 0, .ref (G.2.2.1 0), .int 0])) := by rw [eM7]; exact gw_up_self _ _ _ _
  rw [← eM7] at hF6
  exact gw_vret hx hb hr hlocks hS hW (Nat.le_of_ble_eq_true rfl) (Nat.le_of_ble_eq_true rfl) d_AL_init_11 (⟨hf_a, hF6⟩)

set_option maxHeartbeats 4000000 in
set_option maxRecDepth 100000 in
theorem c_AL_initK (l : Launch) (G : gw_G) (M : gw_M) (a : Nat) (hf_a : M a = some (5, .inr (4, [.int 0, .null, .int 0]))) : Met l y_AL_init [.code y_AL_init b_AL_init 1 none] ({ frames := 3, cells := 0, slots := 0, locals := 52 }) (gw_Pc G M [.ref a]) (gw_Qv G (fun M2 => M2 a = some (5, .inr (4, [.int 0, .ref (G.2.2.1 0), .int 0])) ∧ gw_fr (gw_out [5]) M M2)) 0 0 (gw_A G) := by
  refine gw_start (by decide) (Nat.le_of_ble_eq_true rfl) (fun p9 e9 s m b9 mt9 c9 hx hb hr hml hown hlocks hin hE hB hW ls hl => ?_)
  have hts := hE.ts ([.ref a] : List Value).toArray
  have hl : lv_has ls 1 [(0, .ref a)] := hl
  have hS : va_S (gw_A G) s.heap s.heap [] := va_S.rf
  have hown : s.vm.findClass "java/util/ArrayList" = some m.cls := hown
  have hin : mt9.name = "<init>" := hin
  refine lv_aload_n hx hb d_AL_init_0 rfl (lv_at hl 0 rfl) ?_
  refine gw_callv hS (va_runI (As := []) (rest := []) ⟨hx, hb, hml, hown, hts⟩ (c_AbL_initK l G M a hf_a ) (cwI 0 hts (gw_g1 mw11) rfl rfl rfl (hts _ mw12) (hts _ mw13) (hts _ mw14) rfl (by decide +kernel) ⟨Nat.le_of_ble_eq_true rfl, Nat.le_of_ble_eq_true rfl⟩) (gw_ps hE hB hS hW) rfl rfl hl.1 rfl (lv_room (Nat.le_of_ble_eq_true rfl)) d_AL_init_1 ⟨Nat.le_of_ble_eq_true rfl, Nat.le_of_ble_eq_true rfl⟩) (fun M2 H locs hw3 hW hS => ?_)
  obtain ⟨hf_a', hfr4⟩ := hw3
  have hf_a : M2 a = some (5, .inr (4, [.int 0, .null, .int 0])) := hf_a'
  have hF5 : gw_fr (gw_out [5]) M M2 := gw_fr.tr gw_fr.rf (gw_fr.wk hfr4 (by decide))
  refine lv_aload_n hx hb d_AL_init_4 rfl (lv_at hl 0 rfl) ?_
  refine va_gets hx hb hE.2.2.1 hS hown (hts _ mw15) (fun _ h9 => h9) d_AL_init_5 ?_
  refine gw_put (ci := 4) (fs := [.int 0, .null, .int 0]) (v := .ref (G.2.2.1 0)) (ty := .array (.object "java/lang/Object")) hx hb hts in_AL t_AL t_AL_ok n_AL hown hE.K hW hS hf_a rfl 1 (by decide) (hts _ mw16) (fun _ h9 => h9) rfl (by decide +kernel) rfl rfl (Nat.le_of_ble_eq_true rfl) d_AL_init_8 (fun H locs hW hS => ?_)
  have hF6 : gw_fr (gw_out [5]) M (gw_up M2 a 5 (.inr (4, [.int 0, .ref (G.2.2.1 0), .int 0]))) := gw_fr.up hF5 hf_a (show ¬ ((gw_out [5]) 5) by decide) (show ¬ ((gw_out [5]) 5) by decide)
  obtain ⟨M7, eM7⟩ : ∃ z, z = gw_up M2 a 5 (.inr (4, [.int 0, .ref (G.2.2.1 0), .int 0])) := ⟨_, rfl⟩
  replace hW : gw_P G.1 vwCl G.2.2.2 M7 H := by rw [eM7]; exact hW
  have hf_a : M7 a = some (5, .inr (4, [.int 0, .ref (G.2.2.1 0), .int 0])) := by rw [eM7]; exact gw_up_self _ _ _ _
  rw [← eM7] at hF6
  exact gw_vret hx hb hr hlocks hS hW (Nat.le_of_ble_eq_true rfl) (Nat.le_of_ble_eq_true rfl) d_AL_init_11 (⟨hf_a, hF6⟩)

set_option maxHeartbeats 4000000 in
set_option maxRecDepth 100000 in
theorem c_Gen_initN (l : Launch) (G : gw_G) (M : gw_M) (a : Nat) (k : Int32) (hf_a : M a = some (12, .inr (2, [.int 0, .int 0, .int 0, .int 0, .int 0]))) : Met l y_Gen_init [.code y_Gen_init b_Gen_init 2 none] ({ frames := 1, cells := 0, slots := 0, locals := 12 }) (gw_Pc G M [.ref a, .int k]) (gw_Qv G (fun M2 => M2 a = some (12, .inr (2, [.int k, .int 0, .int 0, .int 0, .int 0])) ∧ gw_fr (gw_out [12]) M M2)) 0 0 (gw_A G) := by
  refine gw_start (by decide) (Nat.le_of_ble_eq_true rfl) (fun p9 e9 s m b9 mt9 c9 hx hb hr hml hown hlocks hin hE hB hW ls hl => ?_)
  have hts := hE.ts ([.ref a, .int k] : List Value).toArray
  have hl : lv_has ls 2 [(0, .ref a), (1, .int k)] := hl
  have hS : va_S (gw_A G) s.heap s.heap [] := va_S.rf
  have hown : s.vm.findClass "Generations$Generation" = some m.cls := hown
  have hin : mt9.name = "<init>" := hin
  refine lv_aload_n hx hb d_Gen_init_0 rfl (lv_at hl 0 rfl) ?_
  refine W.objInit hx hb hown (hts _ mw17) (hts _ mw1) (hts _ mw2) rfl (by rw [hml]; exact hl.1) rfl d_Gen_init_1 (Nat.le_of_ble_eq_true rfl) (Nat.le_of_ble_eq_true rfl) ?_
  refine W.eq (g2 := F0 m 4 ls []) rfl ?_
  refine lv_aload_n hx hb d_Gen_init_4 rfl (lv_at hl 0 rfl) ?_
  refine lv_iconst (v := 0) hx hb d_Gen_init_5 (by decide) ?_
  refine gw_put (ci := 2) (fs := [.int 0, .int 0, .int 0, .int 0, .int 0]) (v := .int 0) (ty := .int) hx hb hts in_Gen t_Gen t_Gen_ok n_Gen hown hE.K hW hS hf_a rfl 1 (by decide) (hts _ mw18) (fun _ h9 => h9) rfl (by decide +kernel) rfl rfl (Nat.le_of_ble_eq_true rfl) d_Gen_init_6 (fun H locs hW hS => ?_)
  have hF1 : gw_fr (gw_out [12]) M (gw_up M a 12 (.inr (2, [.int 0, .int 0, .int 0, .int 0, .int 0]))) := gw_fr.up gw_fr.rf hf_a (show ¬ ((gw_out [12]) 12) by decide) (show ¬ ((gw_out [12]) 12) by decide)
  obtain ⟨M2, eM2⟩ : ∃ z, z = gw_up M a 12 (.inr (2, [.int 0, .int 0, .int 0, .int 0, .int 0])) := ⟨_, rfl⟩
  replace hW : gw_P G.1 vwCl G.2.2.2 M2 H := by rw [eM2]; exact hW
  have hf_a : M2 a = some (12, .inr (2, [.int 0, .int 0, .int 0, .int 0, .int 0])) := by rw [eM2]; exact gw_up_self _ _ _ _
  rw [← eM2] at hF1
  refine lv_aload_n hx hb d_Gen_init_9 rfl (lv_at hl 0 rfl) ?_
  refine lv_iconst (v := 0) hx hb d_Gen_init_10 (by decide) ?_
  refine gw_put (ci := 2) (fs := [.int 0, .int 0, .int 0, .int 0, .int 0]) (v := .int 0) (ty := .int) hx hb hts in_Gen t_Gen t_Gen_ok n_Gen hown hE.K hW hS hf_a rfl 3 (by decide) (hts _ mw19) (fun _ h9 => h9) rfl (by decide +kernel) rfl rfl (Nat.le_of_ble_eq_true rfl) d_Gen_init_11 (fun H locs hW hS => ?_)
  have hF3 : gw_fr (gw_out [12]) M (gw_up M2 a 12 (.inr (2, [.int 0, .int 0, .int 0, .int 0, .int 0]))) := gw_fr.up hF1 hf_a (show ¬ ((gw_out [12]) 12) by decide) (show ¬ ((gw_out [12]) 12) by decide)
  obtain ⟨M4, eM4⟩ : ∃ z, z = gw_up M2 a 12 (.inr (2, [.int 0, .int 0, .int 0, .int 0, .int 0])) := ⟨_, rfl⟩
  replace hW : gw_P G.1 vwCl G.2.2.2 M4 H := by rw [eM4]; exact hW
  have hf_a : M4 a = some (12, .inr (2, [.int 0, .int 0, .int 0, .int 0, .int 0])) := by rw [eM4]; exact gw_up_self _ _ _ _
  rw [← eM4] at hF3
  refine lv_aload_n hx hb d_Gen_init_14 rfl (lv_at hl 0 rfl) ?_
  refine lv_iload_n hx hb d_Gen_init_15 rfl (lv_at hl 1 rfl) ?_
  refine gw_putF (ci := 2) (fs := [.int 0, .int 0, .int 0, .int 0, .int 0]) (v := .int k) (ty := .int) hx hb hts in_Gen t_Gen t_Gen_ok n_Gen hown hE.K hW hS hf_a rfl 0 (by decide) (hts _ mw20) (fun _ h9 => h9) rfl hin rfl (by decide +kernel) rfl rfl (Nat.le_of_ble_eq_true rfl) d_Gen_init_16 (fun H locs hW hS => ?_)
  have hF5 : gw_fr (gw_out [12]) M (gw_up M4 a 12 (.inr (2, [.int k, .int 0, .int 0, .int 0, .int 0]))) := gw_fr.up hF3 hf_a (show ¬ ((gw_out [12]) 12) by decide) (show ¬ ((gw_out [12]) 12) by decide)
  obtain ⟨M6, eM6⟩ : ∃ z, z = gw_up M4 a 12 (.inr (2, [.int k, .int 0, .int 0, .int 0, .int 0])) := ⟨_, rfl⟩
  replace hW : gw_P G.1 vwCl G.2.2.2 M6 H := by rw [eM6]; exact hW
  have hf_a : M6 a = some (12, .inr (2, [.int k, .int 0, .int 0, .int 0, .int 0])) := by rw [eM6]; exact gw_up_self _ _ _ _
  rw [← eM6] at hF5
  exact gw_vret hx hb hr hlocks hS hW (Nat.le_of_ble_eq_true rfl) (Nat.le_of_ble_eq_true rfl) d_Gen_init_19 (⟨hf_a, hF5⟩)

set_option maxHeartbeats 4000000 in
set_option maxRecDepth 100000 in
theorem c_Gen_initG (l : Launch) (G : gw_G) (M : gw_M) (a : Nat) (k : Int32) (hf_a : M a = some (9, .inr (2, [.int 0, .int 0, .int 0, .int 0, .int 0]))) : Met l y_Gen_init [.code y_Gen_init b_Gen_init 2 none] ({ frames := 1, cells := 0, slots := 0, locals := 12 }) (gw_Pc G M [.ref a, .int k]) (gw_Qv G (fun M2 => M2 a = some (9, .inr (2, [.int k, .int 0, .int 0, .int 0, .int 0])) ∧ gw_fr (gw_out [9]) M M2)) 0 0 (gw_A G) := by
  refine gw_start (by decide) (Nat.le_of_ble_eq_true rfl) (fun p9 e9 s m b9 mt9 c9 hx hb hr hml hown hlocks hin hE hB hW ls hl => ?_)
  have hts := hE.ts ([.ref a, .int k] : List Value).toArray
  have hl : lv_has ls 2 [(0, .ref a), (1, .int k)] := hl
  have hS : va_S (gw_A G) s.heap s.heap [] := va_S.rf
  have hown : s.vm.findClass "Generations$Generation" = some m.cls := hown
  have hin : mt9.name = "<init>" := hin
  refine lv_aload_n hx hb d_Gen_init_0 rfl (lv_at hl 0 rfl) ?_
  refine W.objInit hx hb hown (hts _ mw17) (hts _ mw1) (hts _ mw2) rfl (by rw [hml]; exact hl.1) rfl d_Gen_init_1 (Nat.le_of_ble_eq_true rfl) (Nat.le_of_ble_eq_true rfl) ?_
  refine W.eq (g2 := F0 m 4 ls []) rfl ?_
  refine lv_aload_n hx hb d_Gen_init_4 rfl (lv_at hl 0 rfl) ?_
  refine lv_iconst (v := 0) hx hb d_Gen_init_5 (by decide) ?_
  refine gw_put (ci := 2) (fs := [.int 0, .int 0, .int 0, .int 0, .int 0]) (v := .int 0) (ty := .int) hx hb hts in_Gen t_Gen t_Gen_ok n_Gen hown hE.K hW hS hf_a rfl 1 (by decide) (hts _ mw18) (fun _ h9 => h9) rfl (by decide +kernel) rfl rfl (Nat.le_of_ble_eq_true rfl) d_Gen_init_6 (fun H locs hW hS => ?_)
  have hF1 : gw_fr (gw_out [9]) M (gw_up M a 9 (.inr (2, [.int 0, .int 0, .int 0, .int 0, .int 0]))) := gw_fr.up gw_fr.rf hf_a (show ¬ ((gw_out [9]) 9) by decide) (show ¬ ((gw_out [9]) 9) by decide)
  obtain ⟨M2, eM2⟩ : ∃ z, z = gw_up M a 9 (.inr (2, [.int 0, .int 0, .int 0, .int 0, .int 0])) := ⟨_, rfl⟩
  replace hW : gw_P G.1 vwCl G.2.2.2 M2 H := by rw [eM2]; exact hW
  have hf_a : M2 a = some (9, .inr (2, [.int 0, .int 0, .int 0, .int 0, .int 0])) := by rw [eM2]; exact gw_up_self _ _ _ _
  rw [← eM2] at hF1
  refine lv_aload_n hx hb d_Gen_init_9 rfl (lv_at hl 0 rfl) ?_
  refine lv_iconst (v := 0) hx hb d_Gen_init_10 (by decide) ?_
  refine gw_put (ci := 2) (fs := [.int 0, .int 0, .int 0, .int 0, .int 0]) (v := .int 0) (ty := .int) hx hb hts in_Gen t_Gen t_Gen_ok n_Gen hown hE.K hW hS hf_a rfl 3 (by decide) (hts _ mw19) (fun _ h9 => h9) rfl (by decide +kernel) rfl rfl (Nat.le_of_ble_eq_true rfl) d_Gen_init_11 (fun H locs hW hS => ?_)
  have hF3 : gw_fr (gw_out [9]) M (gw_up M2 a 9 (.inr (2, [.int 0, .int 0, .int 0, .int 0, .int 0]))) := gw_fr.up hF1 hf_a (show ¬ ((gw_out [9]) 9) by decide) (show ¬ ((gw_out [9]) 9) by decide)
  obtain ⟨M4, eM4⟩ : ∃ z, z = gw_up M2 a 9 (.inr (2, [.int 0, .int 0, .int 0, .int 0, .int 0])) := ⟨_, rfl⟩
  replace hW : gw_P G.1 vwCl G.2.2.2 M4 H := by rw [eM4]; exact hW
  have hf_a : M4 a = some (9, .inr (2, [.int 0, .int 0, .int 0, .int 0, .int 0])) := by rw [eM4]; exact gw_up_self _ _ _ _
  rw [← eM4] at hF3
  refine lv_aload_n hx hb d_Gen_init_14 rfl (lv_at hl 0 rfl) ?_
  refine lv_iload_n hx hb d_Gen_init_15 rfl (lv_at hl 1 rfl) ?_
  refine gw_putF (ci := 2) (fs := [.int 0, .int 0, .int 0, .int 0, .int 0]) (v := .int k) (ty := .int) hx hb hts in_Gen t_Gen t_Gen_ok n_Gen hown hE.K hW hS hf_a rfl 0 (by decide) (hts _ mw20) (fun _ h9 => h9) rfl hin rfl (by decide +kernel) rfl rfl (Nat.le_of_ble_eq_true rfl) d_Gen_init_16 (fun H locs hW hS => ?_)
  have hF5 : gw_fr (gw_out [9]) M (gw_up M4 a 9 (.inr (2, [.int k, .int 0, .int 0, .int 0, .int 0]))) := gw_fr.up hF3 hf_a (show ¬ ((gw_out [9]) 9) by decide) (show ¬ ((gw_out [9]) 9) by decide)
  obtain ⟨M6, eM6⟩ : ∃ z, z = gw_up M4 a 9 (.inr (2, [.int k, .int 0, .int 0, .int 0, .int 0])) := ⟨_, rfl⟩
  replace hW : gw_P G.1 vwCl G.2.2.2 M6 H := by rw [eM6]; exact hW
  have hf_a : M6 a = some (9, .inr (2, [.int k, .int 0, .int 0, .int 0, .int 0])) := by rw [eM6]; exact gw_up_self _ _ _ _
  rw [← eM6] at hF5
  exact gw_vret hx hb hr hlocks hS hW (Nat.le_of_ble_eq_true rfl) (Nat.le_of_ble_eq_true rfl) d_Gen_init_19 (⟨hf_a, hF5⟩)

set_option maxHeartbeats 4000000 in
set_option maxRecDepth 100000 in
theorem c_X_init (l : Launch) (G : gw_G) (M : gw_M) (x : Nat) (p0 : Int32) (p1 : Int32) (hf_x : M x = some (1, .inr (0, [.int 0, .int 0, .int 0, .null, .null, .null, .null, .null, .int 0]))) : Met l y_X_init [.code y_X_init b_X_init 3 none] ({ frames := 4, cells := 6, slots := 781, locals := 72 }) (gw_Pc G M [.ref x, .int p0, .int p1]) (gw_Qv G (fun M2 => ∃ (row : Nat) (nums : Nat) (jobs : Nat) (known : Nat) (nowh : Nat) (gone : Nat) (sc : Int32), M2 x = some (1, .inr (0, [.int (if 1 < (if 255 < p0 then 255 else p0) then (if 255 < p0 then 255 else p0) else 1), .int sc, .int 0, .ref row, .ref jobs, .ref known, .ref nowh, .ref gone, .int 0])) ∧ M2 row = some (2, .inr (1, [.ref nums, .int 0])) ∧ M2 nums = some (3, .inl (G.2.1 0, 256, .inl (fun _ => 0))) ∧ M2 jobs = some (4, .inr (4, [.int 0, .ref (G.2.2.1 0), .int 0])) ∧ M2 known = some (5, .inr (4, [.int 0, .ref (G.2.2.1 0), .int 0])) ∧ M2 nowh = some (12, .inr (2, [.int 0, .int 0, .int 0, .int 0, .int 0])) ∧ M2 gone = some (8, .inl (G.2.1 0, 512, .inl (fun _ => 0))) ∧ gw_fr (gw_out [1, 2, 3, 4, 5, 8, 12]) M M2)) 6 781 (gw_A G) := by
  refine gw_start (by decide) (Nat.le_of_ble_eq_true rfl) (fun p9 e9 s m b9 mt9 c9 hx hb hr hml hown hlocks hin hE hB hW ls hl => ?_)
  have hts := hE.ts ([.ref x, .int p0, .int p1] : List Value).toArray
  have hl : lv_has ls 3 [(0, .ref x), (1, .int p0), (2, .int p1)] := hl
  have hS : va_S (gw_A G) s.heap s.heap [] := va_S.rf
  have hown : s.vm.findClass "Generations" = some m.cls := hown
  have hin : mt9.name = "<init>" := hin
  refine lv_aload_n hx hb d_X_init_0 rfl (lv_at hl 0 rfl) ?_
  refine W.objInit hx hb hown (hts _ mw21) (hts _ mw1) (hts _ mw2) rfl (by rw [hml]; exact hl.1) rfl d_X_init_1 (Nat.le_of_ble_eq_true rfl) (Nat.le_of_ble_eq_true rfl) ?_
  refine W.eq (g2 := F0 m 4 ls []) rfl ?_
  refine lv_aload_n hx hb d_X_init_4 rfl (lv_at hl 0 rfl) ?_
  refine gw_new (ci := 1) (fs := [.null, .int 0]) hx hb hts in_Row t_Row t_Row_ok hown (hts _ mw22) (hts _ mw23) (hts _ mw24) hE.K hW hS hB rfl (fun j hj => by rcases (show j = 0 ∨ j = 1 by omega) with rfl | rfl <;> rfl) (Nat.le_of_ble_eq_true rfl) (Nat.le_of_ble_eq_true rfl) d_X_init_5 2 (fun q1 H hq2 hW hS => ?_)
  refine W.widen (k := 1) (n := 2) (Nat.le_refl _) (Nat.le_refl _) ?_
  have hF3 : gw_fr (gw_out [1, 2, 3, 4, 5, 8, 12]) M (gw_up M q1 2 (.inr (1, [.null, .int 0]))) := gw_fr.new gw_fr.rf hq2 (show ¬ ((gw_out [1, 2, 3, 4, 5, 8, 12]) 2) by decide)
  obtain ⟨M4, eM4⟩ : ∃ z, z = gw_up M q1 2 (.inr (1, [.null, .int 0])) := ⟨_, rfl⟩
  replace hW : gw_P G.1 vwCl G.2.2.2 M4 H := by rw [eM4]; exact hW
  have hf_x : M4 x = some (1, .inr (0, [.int 0, .int 0, .int 0, .null, .null, .null, .null, .null, .int 0])) := by rw [eM4]; exact gw_keepN hf_x hq2
  have hf_q1 : M4 q1 = some (2, .inr (1, [.null, .int 0])) := by rw [eM4]; exact gw_up_self _ _ _ _
  rw [← eM4] at hF3
  refine lv_dup hx hb d_X_init_8 rfl ?_
  refine gw_callv hS (va_runIN (As := []) (rest := [.ref q1, .ref x]) ⟨hx, hb, hml, hown, hts⟩ (c_Row_init l G M4 q1 hf_q1 ) ⟨va_cnB 0 hts (gw_g1 mw25) rfl rfl rfl (hE.nw mw26) (hts _ mw24) (by decide +kernel) ⟨Nat.le_of_ble_eq_true rfl, Nat.le_of_ble_eq_true rfl⟩, rfl, hts _ mw27⟩ (gw_ps hE hB hS hW) rfl rfl hl.1 rfl (lv_room (Nat.le_of_ble_eq_true rfl)) d_X_init_9 ⟨Nat.le_of_ble_eq_true rfl, Nat.le_of_ble_eq_true rfl⟩) (fun M6 H locs hw7 hW hS => ?_)
  refine W.widen (k := 2) (n := 258) (Nat.le_refl _) (Nat.le_refl _) ?_
  obtain ⟨n8, hf_q1', hf_n8', hfr9⟩ := hw7
  have hf_x : M6 x = some (1, .inr (0, [.int 0, .int 0, .int 0, .null, .null, .null, .null, .null, .int 0])) := (hfr9 _ _ _ (by decide)).mp hf_x
  have hf_q1 : M6 q1 = some (2, .inr (1, [.ref n8, .int 0])) := hf_q1'
  have hf_n8 : M6 n8 = some (3, .inl (G.2.1 0, 256, .inl (fun _ => 0))) := hf_n8'
  have hF10 : gw_fr (gw_out [1, 2, 3, 4, 5, 8, 12]) M M6 := gw_fr.tr hF3 (gw_fr.wk hfr9 (by decide))
  refine gw_putF (ci := 0) (fs := [.int 0, .int 0, .int 0, .null, .null, .null, .null, .null, .int 0]) (v := .ref q1) (ty := .object "Generations$Row") hx hb hts in_X t_X t_X_ok n_X hown hE.K hW hS hf_x rfl 3 (by decide) (hts _ mw28) (fun _ h9 => h9) rfl hin rfl (by decide +kernel) rfl rfl (Nat.le_of_ble_eq_true rfl) d_X_init_12 (fun H locs hW hS => ?_)
  have hF11 : gw_fr (gw_out [1, 2, 3, 4, 5, 8, 12]) M (gw_up M6 x 1 (.inr (0, [.int 0, .int 0, .int 0, .ref q1, .null, .null, .null, .null, .int 0]))) := gw_fr.up hF10 hf_x (show ¬ ((gw_out [1, 2, 3, 4, 5, 8, 12]) 1) by decide) (show ¬ ((gw_out [1, 2, 3, 4, 5, 8, 12]) 1) by decide)
  obtain ⟨M12, eM12⟩ : ∃ z, z = gw_up M6 x 1 (.inr (0, [.int 0, .int 0, .int 0, .ref q1, .null, .null, .null, .null, .int 0])) := ⟨_, rfl⟩
  replace hW : gw_P G.1 vwCl G.2.2.2 M12 H := by rw [eM12]; exact hW
  have hf_q1 : M12 q1 = some (2, .inr (1, [.ref n8, .int 0])) := by rw [eM12]; exact gw_keep hf_q1 hf_x (by decide)
  have hf_n8 : M12 n8 = some (3, .inl (G.2.1 0, 256, .inl (fun _ => 0))) := by rw [eM12]; exact gw_keep hf_n8 hf_x (by decide)
  have hf_x : M12 x = some (1, .inr (0, [.int 0, .int 0, .int 0, .ref q1, .null, .null, .null, .null, .int 0])) := by rw [eM12]; exact gw_up_self _ _ _ _
  rw [← eM12] at hF11
  refine lv_aload_n hx hb d_X_init_15 rfl (lv_at hl 0 rfl) ?_
  refine gw_new (ci := 4) (fs := [.int 0, .null, .int 0]) hx hb hts in_AL t_AL t_AL_ok hown (hts _ mw29) (hts _ mw30) (hts _ mw31) hE.K hW hS hB rfl (fun j hj => by rcases (show j = 0 ∨ j = 1 ∨ j = 2 by omega) with rfl | rfl | rfl <;> rfl) (Nat.le_of_ble_eq_true rfl) (Nat.le_of_ble_eq_true rfl) d_X_init_16 4 (fun q13 H hq14 hW hS => ?_)
  refine W.widen (k := 3) (n := 261) (Nat.le_refl _) (Nat.le_refl _) ?_
  have hF15 : gw_fr (gw_out [1, 2, 3, 4, 5, 8, 12]) M (gw_up M12 q13 4 (.inr (4, [.int 0, .null, .int 0]))) := gw_fr.new hF11 hq14 (show ¬ ((gw_out [1, 2, 3, 4, 5, 8, 12]) 4) by decide)
  obtain ⟨M16, eM16⟩ : ∃ z, z = gw_up M12 q13 4 (.inr (4, [.int 0, .null, .int 0])) := ⟨_, rfl⟩
  replace hW : gw_P G.1 vwCl G.2.2.2 M16 H := by rw [eM16]; exact hW
  have hf_q1 : M16 q1 = some (2, .inr (1, [.ref n8, .int 0])) := by rw [eM16]; exact gw_keepN hf_q1 hq14
  have hf_n8 : M16 n8 = some (3, .inl (G.2.1 0, 256, .inl (fun _ => 0))) := by rw [eM16]; exact gw_keepN hf_n8 hq14
  have hf_x : M16 x = some (1, .inr (0, [.int 0, .int 0, .int 0, .ref q1, .null, .null, .null, .null, .int 0])) := by rw [eM16]; exact gw_keepN hf_x hq14
  have hf_q13 : M16 q13 = some (4, .inr (4, [.int 0, .null, .int 0])) := by rw [eM16]; exact gw_up_self _ _ _ _
  rw [← eM16] at hF15
  refine lv_dup hx hb d_X_init_19 rfl ?_
  refine gw_callv hS (va_runI (As := []) (rest := [.ref q13, .ref x]) ⟨hx, hb, hml, hown, hts⟩ (c_AL_initJ l G M16 q13 hf_q13 ) (cwI 0 hts (gw_g1 mw32) rfl rfl rfl (hts _ mw31) (hts _ mw33) (hts _ mw34) rfl (by decide +kernel) ⟨Nat.le_of_ble_eq_true rfl, Nat.le_of_ble_eq_true rfl⟩) (gw_ps hE hB hS hW) rfl rfl hl.1 rfl (lv_room (Nat.le_of_ble_eq_true rfl)) d_X_init_20 ⟨Nat.le_of_ble_eq_true rfl, Nat.le_of_ble_eq_true rfl⟩) (fun M18 H locs hw19 hW hS => ?_)
  obtain ⟨hf_q13', hfr20⟩ := hw19
  have hf_q1 : M18 q1 = some (2, .inr (1, [.ref n8, .int 0])) := (hfr20 _ _ _ (by decide)).mp hf_q1
  have hf_n8 : M18 n8 = some (3, .inl (G.2.1 0, 256, .inl (fun _ => 0))) := (hfr20 _ _ _ (by decide)).mp hf_n8
  have hf_x : M18 x = some (1, .inr (0, [.int 0, .int 0, .int 0, .ref q1, .null, .null, .null, .null, .int 0])) := (hfr20 _ _ _ (by decide)).mp hf_x
  have hf_q13 : M18 q13 = some (4, .inr (4, [.int 0, .ref (G.2.2.1 0), .int 0])) := hf_q13'
  have hF21 : gw_fr (gw_out [1, 2, 3, 4, 5, 8, 12]) M M18 := gw_fr.tr hF15 (gw_fr.wk hfr20 (by decide))
  refine gw_putF (ci := 0) (fs := [.int 0, .int 0, .int 0, .ref q1, .null, .null, .null, .null, .int 0]) (v := .ref q13) (ty := .object "java/util/ArrayList") hx hb hts in_X t_X t_X_ok n_X hown hE.K hW hS hf_x rfl 4 (by decide) (hts _ mw35) (fun _ h9 => h9) rfl hin rfl (by decide +kernel) rfl rfl (Nat.le_of_ble_eq_true rfl) d_X_init_23 (fun H locs hW hS => ?_)
  have hF22 : gw_fr (gw_out [1, 2, 3, 4, 5, 8, 12]) M (gw_up M18 x 1 (.inr (0, [.int 0, .int 0, .int 0, .ref q1, .ref q13, .null, .null, .null, .int 0]))) := gw_fr.up hF21 hf_x (show ¬ ((gw_out [1, 2, 3, 4, 5, 8, 12]) 1) by decide) (show ¬ ((gw_out [1, 2, 3, 4, 5, 8, 12]) 1) by decide)
  obtain ⟨M23, eM23⟩ : ∃ z, z = gw_up M18 x 1 (.inr (0, [.int 0, .int 0, .int 0, .ref q1, .ref q13, .null, .null, .null, .int 0])) := ⟨_, rfl⟩
  replace hW : gw_P G.1 vwCl G.2.2.2 M23 H := by rw [eM23]; exact hW
  have hf_q13 : M23 q13 = some (4, .inr (4, [.int 0, .ref (G.2.2.1 0), .int 0])) := by rw [eM23]; exact gw_keep hf_q13 hf_x (by decide)
  have hf_q1 : M23 q1 = some (2, .inr (1, [.ref n8, .int 0])) := by rw [eM23]; exact gw_keep hf_q1 hf_x (by decide)
  have hf_n8 : M23 n8 = some (3, .inl (G.2.1 0, 256, .inl (fun _ => 0))) := by rw [eM23]; exact gw_keep hf_n8 hf_x (by decide)
  have hf_x : M23 x = some (1, .inr (0, [.int 0, .int 0, .int 0, .ref q1, .ref q13, .null, .null, .null, .int 0])) := by rw [eM23]; exact gw_up_self _ _ _ _
  rw [← eM23] at hF22
  refine lv_aload_n hx hb d_X_init_26 rfl (lv_at hl 0 rfl) ?_
  refine gw_new (ci := 4) (fs := [.int 0, .null, .int 0]) hx hb hts in_AL t_AL t_AL_ok hown (hts _ mw29) (hts _ mw30) (hts _ mw31) hE.K hW hS hB rfl (fun j hj => by rcases (show j = 0 ∨ j = 1 ∨ j = 2 by omega) with rfl | rfl | rfl <;> rfl) (Nat.le_of_ble_eq_true rfl) (Nat.le_of_ble_eq_true rfl) d_X_init_27 5 (fun q24 H hq25 hW hS => ?_)
  refine W.widen (k := 4) (n := 264) (Nat.le_refl _) (Nat.le_refl _) ?_
  have hF26 : gw_fr (gw_out [1, 2, 3, 4, 5, 8, 12]) M (gw_up M23 q24 5 (.inr (4, [.int 0, .null, .int 0]))) := gw_fr.new hF22 hq25 (show ¬ ((gw_out [1, 2, 3, 4, 5, 8, 12]) 5) by decide)
  obtain ⟨M27, eM27⟩ : ∃ z, z = gw_up M23 q24 5 (.inr (4, [.int 0, .null, .int 0])) := ⟨_, rfl⟩
  replace hW : gw_P G.1 vwCl G.2.2.2 M27 H := by rw [eM27]; exact hW
  have hf_q13 : M27 q13 = some (4, .inr (4, [.int 0, .ref (G.2.2.1 0), .int 0])) := by rw [eM27]; exact gw_keepN hf_q13 hq25
  have hf_q1 : M27 q1 = some (2, .inr (1, [.ref n8, .int 0])) := by rw [eM27]; exact gw_keepN hf_q1 hq25
  have hf_n8 : M27 n8 = some (3, .inl (G.2.1 0, 256, .inl (fun _ => 0))) := by rw [eM27]; exact gw_keepN hf_n8 hq25
  have hf_x : M27 x = some (1, .inr (0, [.int 0, .int 0, .int 0, .ref q1, .ref q13, .null, .null, .null, .int 0])) := by rw [eM27]; exact gw_keepN hf_x hq25
  have hf_q24 : M27 q24 = some (5, .inr (4, [.int 0, .null, .int 0])) := by rw [eM27]; exact gw_up_self _ _ _ _
  rw [← eM27] at hF26
  refine lv_dup hx hb d_X_init_30 rfl ?_
  refine gw_callv hS (va_runI (As := []) (rest := [.ref q24, .ref x]) ⟨hx, hb, hml, hown, hts⟩ (c_AL_initK l G M27 q24 hf_q24 ) (cwI 0 hts (gw_g1 mw32) rfl rfl rfl (hts _ mw31) (hts _ mw33) (hts _ mw34) rfl (by decide +kernel) ⟨Nat.le_of_ble_eq_true rfl, Nat.le_of_ble_eq_true rfl⟩) (gw_ps hE hB hS hW) rfl rfl hl.1 rfl (lv_room (Nat.le_of_ble_eq_true rfl)) d_X_init_31 ⟨Nat.le_of_ble_eq_true rfl, Nat.le_of_ble_eq_true rfl⟩) (fun M29 H locs hw30 hW hS => ?_)
  obtain ⟨hf_q24', hfr31⟩ := hw30
  have hf_q13 : M29 q13 = some (4, .inr (4, [.int 0, .ref (G.2.2.1 0), .int 0])) := (hfr31 _ _ _ (by decide)).mp hf_q13
  have hf_q1 : M29 q1 = some (2, .inr (1, [.ref n8, .int 0])) := (hfr31 _ _ _ (by decide)).mp hf_q1
  have hf_n8 : M29 n8 = some (3, .inl (G.2.1 0, 256, .inl (fun _ => 0))) := (hfr31 _ _ _ (by decide)).mp hf_n8
  have hf_x : M29 x = some (1, .inr (0, [.int 0, .int 0, .int 0, .ref q1, .ref q13, .null, .null, .null, .int 0])) := (hfr31 _ _ _ (by decide)).mp hf_x
  have hf_q24 : M29 q24 = some (5, .inr (4, [.int 0, .ref (G.2.2.1 0), .int 0])) := hf_q24'
  have hF32 : gw_fr (gw_out [1, 2, 3, 4, 5, 8, 12]) M M29 := gw_fr.tr hF26 (gw_fr.wk hfr31 (by decide))
  refine gw_putF (ci := 0) (fs := [.int 0, .int 0, .int 0, .ref q1, .ref q13, .null, .null, .null, .int 0]) (v := .ref q24) (ty := .object "java/util/ArrayList") hx hb hts in_X t_X t_X_ok n_X hown hE.K hW hS hf_x rfl 5 (by decide) (hts _ mw36) (fun _ h9 => h9) rfl hin rfl (by decide +kernel) rfl rfl (Nat.le_of_ble_eq_true rfl) d_X_init_34 (fun H locs hW hS => ?_)
  have hF33 : gw_fr (gw_out [1, 2, 3, 4, 5, 8, 12]) M (gw_up M29 x 1 (.inr (0, [.int 0, .int 0, .int 0, .ref q1, .ref q13, .ref q24, .null, .null, .int 0]))) := gw_fr.up hF32 hf_x (show ¬ ((gw_out [1, 2, 3, 4, 5, 8, 12]) 1) by decide) (show ¬ ((gw_out [1, 2, 3, 4, 5, 8, 12]) 1) by decide)
  obtain ⟨M34, eM34⟩ : ∃ z, z = gw_up M29 x 1 (.inr (0, [.int 0, .int 0, .int 0, .ref q1, .ref q13, .ref q24, .null, .null, .int 0])) := ⟨_, rfl⟩
  replace hW : gw_P G.1 vwCl G.2.2.2 M34 H := by rw [eM34]; exact hW
  have hf_q24 : M34 q24 = some (5, .inr (4, [.int 0, .ref (G.2.2.1 0), .int 0])) := by rw [eM34]; exact gw_keep hf_q24 hf_x (by decide)
  have hf_q13 : M34 q13 = some (4, .inr (4, [.int 0, .ref (G.2.2.1 0), .int 0])) := by rw [eM34]; exact gw_keep hf_q13 hf_x (by decide)
  have hf_q1 : M34 q1 = some (2, .inr (1, [.ref n8, .int 0])) := by rw [eM34]; exact gw_keep hf_q1 hf_x (by decide)
  have hf_n8 : M34 n8 = some (3, .inl (G.2.1 0, 256, .inl (fun _ => 0))) := by rw [eM34]; exact gw_keep hf_n8 hf_x (by decide)
  have hf_x : M34 x = some (1, .inr (0, [.int 0, .int 0, .int 0, .ref q1, .ref q13, .ref q24, .null, .null, .int 0])) := by rw [eM34]; exact gw_up_self _ _ _ _
  rw [← eM34] at hF33
  refine lv_aload_n hx hb d_X_init_37 rfl (lv_at hl 0 rfl) ?_
  refine gw_new (ci := 2) (fs := [.int 0, .int 0, .int 0, .int 0, .int 0]) hx hb hts in_Gen t_Gen t_Gen_ok hown (hts _ mw37) (hts _ mw38) (hts _ mw39) hE.K hW hS hB rfl (fun j hj => by rcases (show j = 0 ∨ j = 1 ∨ j = 2 ∨ j = 3 ∨ j = 4 by omega) with rfl | rfl | rfl | rfl | rfl <;> rfl) (Nat.le_of_ble_eq_true rfl) (Nat.le_of_ble_eq_true rfl) d_X_init_38 12 (fun q35 H hq36 hW hS => ?_)
  refine W.widen (k := 5) (n := 269) (Nat.le_refl _) (Nat.le_refl _) ?_
  have hF37 : gw_fr (gw_out [1, 2, 3, 4, 5, 8, 12]) M (gw_up M34 q35 12 (.inr (2, [.int 0, .int 0, .int 0, .int 0, .int 0]))) := gw_fr.new hF33 hq36 (show ¬ ((gw_out [1, 2, 3, 4, 5, 8, 12]) 12) by decide)
  obtain ⟨M38, eM38⟩ : ∃ z, z = gw_up M34 q35 12 (.inr (2, [.int 0, .int 0, .int 0, .int 0, .int 0])) := ⟨_, rfl⟩
  replace hW : gw_P G.1 vwCl G.2.2.2 M38 H := by rw [eM38]; exact hW
  have hf_q24 : M38 q24 = some (5, .inr (4, [.int 0, .ref (G.2.2.1 0), .int 0])) := by rw [eM38]; exact gw_keepN hf_q24 hq36
  have hf_q13 : M38 q13 = some (4, .inr (4, [.int 0, .ref (G.2.2.1 0), .int 0])) := by rw [eM38]; exact gw_keepN hf_q13 hq36
  have hf_q1 : M38 q1 = some (2, .inr (1, [.ref n8, .int 0])) := by rw [eM38]; exact gw_keepN hf_q1 hq36
  have hf_n8 : M38 n8 = some (3, .inl (G.2.1 0, 256, .inl (fun _ => 0))) := by rw [eM38]; exact gw_keepN hf_n8 hq36
  have hf_x : M38 x = some (1, .inr (0, [.int 0, .int 0, .int 0, .ref q1, .ref q13, .ref q24, .null, .null, .int 0])) := by rw [eM38]; exact gw_keepN hf_x hq36
  have hf_q35 : M38 q35 = some (12, .inr (2, [.int 0, .int 0, .int 0, .int 0, .int 0])) := by rw [eM38]; exact gw_up_self _ _ _ _
  rw [← eM38] at hF37
  refine lv_dup hx hb d_X_init_41 rfl ?_
  refine lv_iconst (v := 0) hx hb d_X_init_42 (by decide) ?_
  refine gw_callv hS (va_runIN (As := [.int 0]) (rest := [.ref q35, .ref x]) ⟨hx, hb, hml, hown, hts⟩ (c_Gen_initN l G M38 q35 0 hf_q35 ) ⟨va_cnB 1 hts (gw_g1 mw40) rfl rfl rfl (hE.nw mw41) (hts _ mw39) (by decide +kernel) ⟨Nat.le_of_ble_eq_true rfl, Nat.le_of_ble_eq_true rfl⟩, rfl, hts _ mw42⟩ (gw_ps hE hB hS hW) rfl rfl hl.1 rfl (lv_room (Nat.le_of_ble_eq_true rfl)) d_X_init_43 ⟨Nat.le_of_ble_eq_true rfl, Nat.le_of_ble_eq_true rfl⟩) (fun M40 H locs hw41 hW hS => ?_)
  obtain ⟨hf_q35', hfr42⟩ := hw41
  have hf_q24 : M40 q24 = some (5, .inr (4, [.int 0, .ref (G.2.2.1 0), .int 0])) := (hfr42 _ _ _ (by decide)).mp hf_q24
  have hf_q13 : M40 q13 = some (4, .inr (4, [.int 0, .ref (G.2.2.1 0), .int 0])) := (hfr42 _ _ _ (by decide)).mp hf_q13
  have hf_q1 : M40 q1 = some (2, .inr (1, [.ref n8, .int 0])) := (hfr42 _ _ _ (by decide)).mp hf_q1
  have hf_n8 : M40 n8 = some (3, .inl (G.2.1 0, 256, .inl (fun _ => 0))) := (hfr42 _ _ _ (by decide)).mp hf_n8
  have hf_x : M40 x = some (1, .inr (0, [.int 0, .int 0, .int 0, .ref q1, .ref q13, .ref q24, .null, .null, .int 0])) := (hfr42 _ _ _ (by decide)).mp hf_x
  have hf_q35 : M40 q35 = some (12, .inr (2, [.int 0, .int 0, .int 0, .int 0, .int 0])) := hf_q35'
  have hF43 : gw_fr (gw_out [1, 2, 3, 4, 5, 8, 12]) M M40 := gw_fr.tr hF37 (gw_fr.wk hfr42 (by decide))
  refine gw_putF (ci := 0) (fs := [.int 0, .int 0, .int 0, .ref q1, .ref q13, .ref q24, .null, .null, .int 0]) (v := .ref q35) (ty := .object "Generations$Generation") hx hb hts in_X t_X t_X_ok n_X hown hE.K hW hS hf_x rfl 6 (by decide) (hts _ mw43) (fun _ h9 => h9) rfl hin rfl (by decide +kernel) rfl rfl (Nat.le_of_ble_eq_true rfl) d_X_init_46 (fun H locs hW hS => ?_)
  have hF44 : gw_fr (gw_out [1, 2, 3, 4, 5, 8, 12]) M (gw_up M40 x 1 (.inr (0, [.int 0, .int 0, .int 0, .ref q1, .ref q13, .ref q24, .ref q35, .null, .int 0]))) := gw_fr.up hF43 hf_x (show ¬ ((gw_out [1, 2, 3, 4, 5, 8, 12]) 1) by decide) (show ¬ ((gw_out [1, 2, 3, 4, 5, 8, 12]) 1) by decide)
  obtain ⟨M45, eM45⟩ : ∃ z, z = gw_up M40 x 1 (.inr (0, [.int 0, .int 0, .int 0, .ref q1, .ref q13, .ref q24, .ref q35, .null, .int 0])) := ⟨_, rfl⟩
  replace hW : gw_P G.1 vwCl G.2.2.2 M45 H := by rw [eM45]; exact hW
  have hf_q35 : M45 q35 = some (12, .inr (2, [.int 0, .int 0, .int 0, .int 0, .int 0])) := by rw [eM45]; exact gw_keep hf_q35 hf_x (by decide)
  have hf_q24 : M45 q24 = some (5, .inr (4, [.int 0, .ref (G.2.2.1 0), .int 0])) := by rw [eM45]; exact gw_keep hf_q24 hf_x (by decide)
  have hf_q13 : M45 q13 = some (4, .inr (4, [.int 0, .ref (G.2.2.1 0), .int 0])) := by rw [eM45]; exact gw_keep hf_q13 hf_x (by decide)
  have hf_q1 : M45 q1 = some (2, .inr (1, [.ref n8, .int 0])) := by rw [eM45]; exact gw_keep hf_q1 hf_x (by decide)
  have hf_n8 : M45 n8 = some (3, .inl (G.2.1 0, 256, .inl (fun _ => 0))) := by rw [eM45]; exact gw_keep hf_n8 hf_x (by decide)
  have hf_x : M45 x = some (1, .inr (0, [.int 0, .int 0, .int 0, .ref q1, .ref q13, .ref q24, .ref q35, .null, .int 0])) := by rw [eM45]; exact gw_up_self _ _ _ _
  rw [← eM45] at hF44
  refine lv_aload_n hx hb d_X_init_49 rfl (lv_at hl 0 rfl) ?_
  refine lv_sipush (v := 512) hx hb d_X_init_50 (by decide) ?_
  refine gw_newa (atype := .int) (ty := .int) (n := 512) (a0 := (512, .inl (fun _ => 0))) (N' := 512) hx hb (hts (.arrayClass .int) mw3) rfl hE.K hW hS hB (gw_zi 512) (by decide) (by decide) (Nat.le_of_ble_eq_true rfl) (Nat.le_of_ble_eq_true rfl) (Nat.le_of_ble_eq_true rfl) d_X_init_53 0 rfl (fun cA h1 h2 => gw_ri _ _ h1 h2) 8 (fun q46 H hq47 hW hS => ?_)
  refine W.widen (k := 6) (n := 781) (Nat.le_refl _) (Nat.le_refl _) ?_
  have hF48 : gw_fr (gw_out [1, 2, 3, 4, 5, 8, 12]) M (gw_up M45 q46 8 (.inl (G.2.1 0, 512, .inl (fun _ => 0)))) := gw_fr.new hF44 hq47 (show ¬ ((gw_out [1, 2, 3, 4, 5, 8, 12]) 8) by decide)
  obtain ⟨M49, eM49⟩ : ∃ z, z = gw_up M45 q46 8 (.inl (G.2.1 0, 512, .inl (fun _ => 0))) := ⟨_, rfl⟩
  replace hW : gw_P G.1 vwCl G.2.2.2 M49 H := by rw [eM49]; exact hW
  have hf_q35 : M49 q35 = some (12, .inr (2, [.int 0, .int 0, .int 0, .int 0, .int 0])) := by rw [eM49]; exact gw_keepN hf_q35 hq47
  have hf_q24 : M49 q24 = some (5, .inr (4, [.int 0, .ref (G.2.2.1 0), .int 0])) := by rw [eM49]; exact gw_keepN hf_q24 hq47
  have hf_q13 : M49 q13 = some (4, .inr (4, [.int 0, .ref (G.2.2.1 0), .int 0])) := by rw [eM49]; exact gw_keepN hf_q13 hq47
  have hf_q1 : M49 q1 = some (2, .inr (1, [.ref n8, .int 0])) := by rw [eM49]; exact gw_keepN hf_q1 hq47
  have hf_n8 : M49 n8 = some (3, .inl (G.2.1 0, 256, .inl (fun _ => 0))) := by rw [eM49]; exact gw_keepN hf_n8 hq47
  have hf_x : M49 x = some (1, .inr (0, [.int 0, .int 0, .int 0, .ref q1, .ref q13, .ref q24, .ref q35, .null, .int 0])) := by rw [eM49]; exact gw_keepN hf_x hq47
  have hf_q46 : M49 q46 = some (8, .inl (G.2.1 0, 512, .inl (fun _ => 0))) := by rw [eM49]; exact gw_up_self _ _ _ _
  rw [← eM49] at hF48
  refine gw_putF (ci := 0) (fs := [.int 0, .int 0, .int 0, .ref q1, .ref q13, .ref q24, .ref q35, .null, .int 0]) (v := .ref q46) (ty := .array .int) hx hb hts in_X t_X t_X_ok n_X hown hE.K hW hS hf_x rfl 7 (by decide) (hts _ mw44) (fun _ h9 => h9) rfl hin rfl (by decide +kernel) rfl rfl (Nat.le_of_ble_eq_true rfl) d_X_init_55 (fun H locs hW hS => ?_)
  have hF50 : gw_fr (gw_out [1, 2, 3, 4, 5, 8, 12]) M (gw_up M49 x 1 (.inr (0, [.int 0, .int 0, .int 0, .ref q1, .ref q13, .ref q24, .ref q35, .ref q46, .int 0]))) := gw_fr.up hF48 hf_x (show ¬ ((gw_out [1, 2, 3, 4, 5, 8, 12]) 1) by decide) (show ¬ ((gw_out [1, 2, 3, 4, 5, 8, 12]) 1) by decide)
  obtain ⟨M51, eM51⟩ : ∃ z, z = gw_up M49 x 1 (.inr (0, [.int 0, .int 0, .int 0, .ref q1, .ref q13, .ref q24, .ref q35, .ref q46, .int 0])) := ⟨_, rfl⟩
  replace hW : gw_P G.1 vwCl G.2.2.2 M51 H := by rw [eM51]; exact hW
  have hf_q35 : M51 q35 = some (12, .inr (2, [.int 0, .int 0, .int 0, .int 0, .int 0])) := by rw [eM51]; exact gw_keep hf_q35 hf_x (by decide)
  have hf_q24 : M51 q24 = some (5, .inr (4, [.int 0, .ref (G.2.2.1 0), .int 0])) := by rw [eM51]; exact gw_keep hf_q24 hf_x (by decide)
  have hf_q13 : M51 q13 = some (4, .inr (4, [.int 0, .ref (G.2.2.1 0), .int 0])) := by rw [eM51]; exact gw_keep hf_q13 hf_x (by decide)
  have hf_q1 : M51 q1 = some (2, .inr (1, [.ref n8, .int 0])) := by rw [eM51]; exact gw_keep hf_q1 hf_x (by decide)
  have hf_n8 : M51 n8 = some (3, .inl (G.2.1 0, 256, .inl (fun _ => 0))) := by rw [eM51]; exact gw_keep hf_n8 hf_x (by decide)
  have hf_q46 : M51 q46 = some (8, .inl (G.2.1 0, 512, .inl (fun _ => 0))) := by rw [eM51]; exact gw_keep hf_q46 hf_x (by decide)
  have hf_x : M51 x = some (1, .inr (0, [.int 0, .int 0, .int 0, .ref q1, .ref q13, .ref q24, .ref q35, .ref q46, .int 0])) := by rw [eM51]; exact gw_up_self _ _ _ _
  rw [← eM51] at hF50
  refine lv_aload_n hx hb d_X_init_58 rfl (lv_at hl 0 rfl) ?_
  refine lv_iconst (v := 1) hx hb d_X_init_59 (by decide) ?_
  refine lv_iload_n hx hb d_X_init_60 rfl (lv_at hl 1 rfl) ?_
  refine lv_sipush (v := 255) hx hb d_X_init_61 (by decide) ?_
  refine va_mmin (x := p0) (y := 255) hx hb (hml.trans hl.1.symm) hown (hts _ mw45) (hts _ mw46) (hts _ mw47) (hts _ mw48) (Nat.le_of_ble_eq_true rfl) (Nat.le_of_ble_eq_true rfl) (Nat.le_of_ble_eq_true rfl) (Nat.le_of_ble_eq_true rfl) d_X_init_64 ?_
  refine va_mmax (x := 1) (y := if 255 < p0 then 255 else p0) hx hb (hml.trans hl.1.symm) hown (hts _ mw49) (hts _ mw50) (hts _ mw47) (hts _ mw51) (Nat.le_of_ble_eq_true rfl) (Nat.le_of_ble_eq_true rfl) (Nat.le_of_ble_eq_true rfl) (Nat.le_of_ble_eq_true rfl) d_X_init_67 ?_
  refine gw_putF (ci := 0) (fs := [.int 0, .int 0, .int 0, .ref q1, .ref q13, .ref q24, .ref q35, .ref q46, .int 0]) (v := .int (if 1 < (if 255 < p0 then 255 else p0) then (if 255 < p0 then 255 else p0) else 1)) (ty := .int) hx hb hts in_X t_X t_X_ok n_X hown hE.K hW hS hf_x rfl 0 (by decide) (hts _ mw52) (fun _ h9 => h9) rfl hin rfl (by decide +kernel) rfl rfl (Nat.le_of_ble_eq_true rfl) d_X_init_70 (fun H locs hW hS => ?_)
  have hF52 : gw_fr (gw_out [1, 2, 3, 4, 5, 8, 12]) M (gw_up M51 x 1 (.inr (0, [.int (if 1 < (if 255 < p0 then 255 else p0) then (if 255 < p0 then 255 else p0) else 1), .int 0, .int 0, .ref q1, .ref q13, .ref q24, .ref q35, .ref q46, .int 0]))) := gw_fr.up hF50 hf_x (show ¬ ((gw_out [1, 2, 3, 4, 5, 8, 12]) 1) by decide) (show ¬ ((gw_out [1, 2, 3, 4, 5, 8, 12]) 1) by decide)
  obtain ⟨M53, eM53⟩ : ∃ z, z = gw_up M51 x 1 (.inr (0, [.int (if 1 < (if 255 < p0 then 255 else p0) then (if 255 < p0 then 255 else p0) else 1), .int 0, .int 0, .ref q1, .ref q13, .ref q24, .ref q35, .ref q46, .int 0])) := ⟨_, rfl⟩
  replace hW : gw_P G.1 vwCl G.2.2.2 M53 H := by rw [eM53]; exact hW
  have hf_q35 : M53 q35 = some (12, .inr (2, [.int 0, .int 0, .int 0, .int 0, .int 0])) := by rw [eM53]; exact gw_keep hf_q35 hf_x (by decide)
  have hf_q24 : M53 q24 = some (5, .inr (4, [.int 0, .ref (G.2.2.1 0), .int 0])) := by rw [eM53]; exact gw_keep hf_q24 hf_x (by decide)
  have hf_q13 : M53 q13 = some (4, .inr (4, [.int 0, .ref (G.2.2.1 0), .int 0])) := by rw [eM53]; exact gw_keep hf_q13 hf_x (by decide)
  have hf_q1 : M53 q1 = some (2, .inr (1, [.ref n8, .int 0])) := by rw [eM53]; exact gw_keep hf_q1 hf_x (by decide)
  have hf_n8 : M53 n8 = some (3, .inl (G.2.1 0, 256, .inl (fun _ => 0))) := by rw [eM53]; exact gw_keep hf_n8 hf_x (by decide)
  have hf_q46 : M53 q46 = some (8, .inl (G.2.1 0, 512, .inl (fun _ => 0))) := by rw [eM53]; exact gw_keep hf_q46 hf_x (by decide)
  have hf_x : M53 x = some (1, .inr (0, [.int (if 1 < (if 255 < p0 then 255 else p0) then (if 255 < p0 then 255 else p0) else 1), .int 0, .int 0, .ref q1, .ref q13, .ref q24, .ref q35, .ref q46, .int 0])) := by rw [eM53]; exact gw_up_self _ _ _ _
  rw [← eM53] at hF52
  refine lv_aload_n hx hb d_X_init_73 rfl (lv_at hl 0 rfl) ?_
  refine lv_iload_n hx hb d_X_init_74 rfl (lv_at hl 2 rfl) ?_
  refine lv_if_eq (tgt := 82) hx hb d_X_init_75 (by decide) (fun c75 => ?_) (fun c75 => ?_)
  · refine lv_iconst (v := 0) hx hb d_X_init_82 (by decide) ?_
    refine gw_putF (ci := 0) (fs := [.int (if 1 < (if 255 < p0 then 255 else p0) then (if 255 < p0 then 255 else p0) else 1), .int 0, .int 0, .ref q1, .ref q13, .ref q24, .ref q35, .ref q46, .int 0]) (v := .int 0) (ty := .boolean) hx hb hts in_X t_X t_X_ok n_X hown hE.K hW hS hf_x rfl 1 (by decide) (hts _ mw53) (fun _ h9 => h9) rfl hin rfl (by decide +kernel) rfl rfl (Nat.le_of_ble_eq_true rfl) d_X_init_83 (fun H locs hW hS => ?_)
    have hF54 : gw_fr (gw_out [1, 2, 3, 4, 5, 8, 12]) M (gw_up M53 x 1 (.inr (0, [.int (if 1 < (if 255 < p0 then 255 else p0) then (if 255 < p0 then 255 else p0) else 1), .int 0, .int 0, .ref q1, .ref q13, .ref q24, .ref q35, .ref q46, .int 0]))) := gw_fr.up hF52 hf_x (show ¬ ((gw_out [1, 2, 3, 4, 5, 8, 12]) 1) by decide) (show ¬ ((gw_out [1, 2, 3, 4, 5, 8, 12]) 1) by decide)
    obtain ⟨M55, eM55⟩ : ∃ z, z = gw_up M53 x 1 (.inr (0, [.int (if 1 < (if 255 < p0 then 255 else p0) then (if 255 < p0 then 255 else p0) else 1), .int 0, .int 0, .ref q1, .ref q13, .ref q24, .ref q35, .ref q46, .int 0])) := ⟨_, rfl⟩
    replace hW : gw_P G.1 vwCl G.2.2.2 M55 H := by rw [eM55]; exact hW
    have hf_q35 : M55 q35 = some (12, .inr (2, [.int 0, .int 0, .int 0, .int 0, .int 0])) := by rw [eM55]; exact gw_keep hf_q35 hf_x (by decide)
    have hf_q24 : M55 q24 = some (5, .inr (4, [.int 0, .ref (G.2.2.1 0), .int 0])) := by rw [eM55]; exact gw_keep hf_q24 hf_x (by decide)
    have hf_q13 : M55 q13 = some (4, .inr (4, [.int 0, .ref (G.2.2.1 0), .int 0])) := by rw [eM55]; exact gw_keep hf_q13 hf_x (by decide)
    have hf_q1 : M55 q1 = some (2, .inr (1, [.ref n8, .int 0])) := by rw [eM55]; exact gw_keep hf_q1 hf_x (by decide)
    have hf_n8 : M55 n8 = some (3, .inl (G.2.1 0, 256, .inl (fun _ => 0))) := by rw [eM55]; exact gw_keep hf_n8 hf_x (by decide)
    have hf_q46 : M55 q46 = some (8, .inl (G.2.1 0, 512, .inl (fun _ => 0))) := by rw [eM55]; exact gw_keep hf_q46 hf_x (by decide)
    have hf_x : M55 x = some (1, .inr (0, [.int (if 1 < (if 255 < p0 then 255 else p0) then (if 255 < p0 then 255 else p0) else 1), .int 0, .int 0, .ref q1, .ref q13, .ref q24, .ref q35, .ref q46, .int 0])) := by rw [eM55]; exact gw_up_self _ _ _ _
    rw [← eM55] at hF54
    exact gw_vret hx hb hr hlocks hS hW (Nat.le_of_ble_eq_true rfl) (Nat.le_of_ble_eq_true rfl) d_X_init_86 (⟨q1, n8, q13, q24, q35, q46, 0, hf_x, hf_q1, hf_n8, hf_q13, hf_q24, hf_q35, hf_q46, hF54⟩)
  · refine lv_iconst (v := 1) hx hb d_X_init_78 (by decide) ?_
    refine lv_goto (tgt := 83) hx hb d_X_init_79 (by decide) ?_
    refine gw_putF (ci := 0) (fs := [.int (if 1 < (if 255 < p0 then 255 else p0) then (if 255 < p0 then 255 else p0) else 1), .int 0, .int 0, .ref q1, .ref q13, .ref q24, .ref q35, .ref q46, .int 0]) (v := .int 1) (ty := .boolean) hx hb hts in_X t_X t_X_ok n_X hown hE.K hW hS hf_x rfl 1 (by decide) (hts _ mw53) (fun _ h9 => h9) rfl hin rfl (by decide +kernel) rfl rfl (Nat.le_of_ble_eq_true rfl) d_X_init_83 (fun H locs hW hS => ?_)
    have hF56 : gw_fr (gw_out [1, 2, 3, 4, 5, 8, 12]) M (gw_up M53 x 1 (.inr (0, [.int (if 1 < (if 255 < p0 then 255 else p0) then (if 255 < p0 then 255 else p0) else 1), .int 1, .int 0, .ref q1, .ref q13, .ref q24, .ref q35, .ref q46, .int 0]))) := gw_fr.up hF52 hf_x (show ¬ ((gw_out [1, 2, 3, 4, 5, 8, 12]) 1) by decide) (show ¬ ((gw_out [1, 2, 3, 4, 5, 8, 12]) 1) by decide)
    obtain ⟨M57, eM57⟩ : ∃ z, z = gw_up M53 x 1 (.inr (0, [.int (if 1 < (if 255 < p0 then 255 else p0) then (if 255 < p0 then 255 else p0) else 1), .int 1, .int 0, .ref q1, .ref q13, .ref q24, .ref q35, .ref q46, .int 0])) := ⟨_, rfl⟩
    replace hW : gw_P G.1 vwCl G.2.2.2 M57 H := by rw [eM57]; exact hW
    have hf_q35 : M57 q35 = some (12, .inr (2, [.int 0, .int 0, .int 0, .int 0, .int 0])) := by rw [eM57]; exact gw_keep hf_q35 hf_x (by decide)
    have hf_q24 : M57 q24 = some (5, .inr (4, [.int 0, .ref (G.2.2.1 0), .int 0])) := by rw [eM57]; exact gw_keep hf_q24 hf_x (by decide)
    have hf_q13 : M57 q13 = some (4, .inr (4, [.int 0, .ref (G.2.2.1 0), .int 0])) := by rw [eM57]; exact gw_keep hf_q13 hf_x (by decide)
    have hf_q1 : M57 q1 = some (2, .inr (1, [.ref n8, .int 0])) := by rw [eM57]; exact gw_keep hf_q1 hf_x (by decide)
    have hf_n8 : M57 n8 = some (3, .inl (G.2.1 0, 256, .inl (fun _ => 0))) := by rw [eM57]; exact gw_keep hf_n8 hf_x (by decide)
    have hf_q46 : M57 q46 = some (8, .inl (G.2.1 0, 512, .inl (fun _ => 0))) := by rw [eM57]; exact gw_keep hf_q46 hf_x (by decide)
    have hf_x : M57 x = some (1, .inr (0, [.int (if 1 < (if 255 < p0 then 255 else p0) then (if 255 < p0 then 255 else p0) else 1), .int 1, .int 0, .ref q1, .ref q13, .ref q24, .ref q35, .ref q46, .int 0])) := by rw [eM57]; exact gw_up_self _ _ _ _
    rw [← eM57] at hF56
    exact gw_vret hx hb hr hlocks hS hW (Nat.le_of_ble_eq_true rfl) (Nat.le_of_ble_eq_true rfl) d_X_init_86 (⟨q1, n8, q13, q24, q35, q46, 1, hf_x, hf_q1, hf_n8, hf_q13, hf_q24, hf_q35, hf_q46, hF56⟩)
end
section
abbrev b_AL_size : ByteArray := prog_19_method_8_code
abbrev y_AL_size : MethodName := ⟨"java/util/ArrayList", "size", "()I"⟩
abbrev b_X_isNumber : ByteArray := prog_1_method_15_code
abbrev y_X_isNumber : MethodName := ⟨"Generations", "isNumber", "(I)Z"⟩
abbrev b_Gen_isDeferred : ByteArray := prog_2_method_3_code
abbrev y_Gen_isDeferred : MethodName := ⟨"Generations$Generation", "isDeferred", "()Z"⟩
abbrev b_Gen_beginAnew : ByteArray := prog_2_method_2_code
abbrev y_Gen_beginAnew : MethodName := ⟨"Generations$Generation", "beginAnew", "(I)V"⟩
abbrev b_X_find : ByteArray := prog_1_method_17_code
abbrev y_X_find : MethodName := ⟨"Generations", "find", "(I)LGenerations$Generation;"⟩
abbrev b_X_howManyAre : ByteArray := prog_1_method_19_code
abbrev y_X_howManyAre : MethodName := ⟨"Generations", "howManyAre", "(I)I"⟩
abbrev b_X_jobThatMakes : ByteArray := prog_1_method_20_code
abbrev y_X_jobThatMakes : MethodName := ⟨"Generations", "jobThatMakes", "()I"⟩
set_option maxRecDepth 20000 in
theorem mw54 : (Cond.fieldLink "java/util/ArrayList" (48 : Nat) "java/util/ArrayList" "size" "I") ∈ gw_N0 := gw_in (List.mem_append_right _ (gw_tm (i := 57) rfl))
set_option maxRecDepth 20000 in
theorem mw55 : (Cond.fieldLink "Generations$Generation" (21 : Nat) "Generations$Generation" "version" "I") ∈ gw_N0 := gw_in (List.mem_append_right _ (gw_tm (i := 78) rfl))
set_option maxRecDepth 20000 in
theorem mw56 : (Cond.fieldLink "Generations$Generation" (24 : Nat) "Generations$Generation" "failedAtEnd" "I") ∈ gw_N0 := gw_in (List.mem_append_right _ (gw_tm (i := 82) rfl))
set_option maxRecDepth 20000 in
theorem mw57 : (Cond.code ({ cls := "java/util/ArrayList", name := "size", desc := "()I" } : Jvm.MethodName) prog_19_method_8_code (1 : Nat) (Option.some Jvm.ClassFile.FieldType.int)) ∈ gw_N0 := gw_in (List.mem_append_right _ (gw_tm (i := 143) rfl))
set_option maxRecDepth 20000 in
theorem mw58 : (Cond.methodLink "Generations" (84 : Nat) ({ cls := "java/util/ArrayList", name := "size", desc := "()I" } : Jvm.MethodName)) ∈ gw_N0 := gw_in (List.mem_append_right _ (gw_tm (i := 140) rfl))
set_option maxRecDepth 20000 in
theorem mw59 : (Cond.instanceMethod ({ cls := "java/util/ArrayList", name := "size", desc := "()I" } : Jvm.MethodName)) ∈ gw_N0 := gw_in (List.mem_append_right _ (gw_tm (i := 141) rfl))
set_option maxRecDepth 20000 in
theorem mw60 : (Cond.selects "java/util/ArrayList" ({ cls := "java/util/ArrayList", name := "size", desc := "()I" } : Jvm.MethodName) ({ cls := "java/util/ArrayList", name := "size", desc := "()I" } : Jvm.MethodName)) ∈ gw_N0 := gw_in (List.mem_append_right _ (gw_tm (i := 142) rfl))
end
section
theorem d_AL_size_0 : decode b_AL_size 0 = .ok (.aload_n 0, 1) := by decide +kernel
theorem d_AL_size_1 : decode b_AL_size 1 = .ok (.getfield 48, 3) := by decide +kernel
theorem d_AL_size_4 : decode b_AL_size 4 = .ok (.ireturn, 1) := by decide +kernel
theorem d_X_isNumber_0 : decode b_X_isNumber 0 = .ok (.iload_n 0, 1) := by decide +kernel
theorem d_X_isNumber_1 : decode b_X_isNumber 1 = .ok (.iconst 1, 1) := by decide +kernel
theorem d_X_isNumber_2 : decode b_X_isNumber 2 = .ok (.if_icmp .lt 14, 3) := by decide +kernel
theorem d_X_isNumber_16 : decode b_X_isNumber 16 = .ok (.iconst 0, 1) := by decide +kernel
theorem d_X_isNumber_17 : decode b_X_isNumber 17 = .ok (.ireturn, 1) := by decide +kernel
theorem d_X_isNumber_5 : decode b_X_isNumber 5 = .ok (.iload_n 0, 1) := by decide +kernel
theorem d_X_isNumber_6 : decode b_X_isNumber 6 = .ok (.sipush 9999, 3) := by decide +kernel
theorem d_X_isNumber_9 : decode b_X_isNumber 9 = .ok (.if_icmp .gt 7, 3) := by decide +kernel
theorem d_X_isNumber_12 : decode b_X_isNumber 12 = .ok (.iconst 1, 1) := by decide +kernel
theorem d_X_isNumber_13 : decode b_X_isNumber 13 = .ok (.goto 4, 3) := by decide +kernel
theorem d_Gen_isDeferred_0 : decode b_Gen_isDeferred 0 = .ok (.aload_n 0, 1) := by decide +kernel
theorem d_Gen_isDeferred_1 : decode b_Gen_isDeferred 1 = .ok (.getfield 9, 3) := by decide +kernel
theorem d_Gen_isDeferred_4 : decode b_Gen_isDeferred 4 = .ok (.iconst 2, 1) := by decide +kernel
theorem d_Gen_isDeferred_5 : decode b_Gen_isDeferred 5 = .ok (.if_icmp .eq 11, 3) := by decide +kernel
theorem d_Gen_isDeferred_8 : decode b_Gen_isDeferred 8 = .ok (.aload_n 0, 1) := by decide +kernel
theorem d_Gen_isDeferred_9 : decode b_Gen_isDeferred 9 = .ok (.getfield 9, 3) := by decide +kernel
theorem d_Gen_isDeferred_12 : decode b_Gen_isDeferred 12 = .ok (.iconst 3, 1) := by decide +kernel
theorem d_Gen_isDeferred_13 : decode b_Gen_isDeferred 13 = .ok (.if_icmp .ne 7, 3) := by decide +kernel
theorem d_Gen_isDeferred_20 : decode b_Gen_isDeferred 20 = .ok (.iconst 0, 1) := by decide +kernel
theorem d_Gen_isDeferred_21 : decode b_Gen_isDeferred 21 = .ok (.ireturn, 1) := by decide +kernel
theorem d_Gen_beginAnew_0 : decode b_Gen_beginAnew 0 = .ok (.aload_n 0, 1) := by decide +kernel
theorem d_Gen_beginAnew_1 : decode b_Gen_beginAnew 1 = .ok (.iload_n 1, 1) := by decide +kernel
theorem d_Gen_beginAnew_2 : decode b_Gen_beginAnew 2 = .ok (.putfield 15, 3) := by decide +kernel
theorem d_Gen_beginAnew_5 : decode b_Gen_beginAnew 5 = .ok (.aload_n 0, 1) := by decide +kernel
theorem d_Gen_beginAnew_6 : decode b_Gen_beginAnew 6 = .ok (.iconst 0, 1) := by decide +kernel
theorem d_Gen_beginAnew_7 : decode b_Gen_beginAnew 7 = .ok (.putfield 21, 3) := by decide +kernel
theorem d_Gen_beginAnew_10 : decode b_Gen_beginAnew 10 = .ok (.aload_n 0, 1) := by decide +kernel
theorem d_Gen_beginAnew_11 : decode b_Gen_beginAnew 11 = .ok (.iconst 0, 1) := by decide +kernel
theorem d_Gen_beginAnew_12 : decode b_Gen_beginAnew 12 = .ok (.putfield 24, 3) := by decide +kernel
theorem d_Gen_beginAnew_15 : decode b_Gen_beginAnew 15 = .ok (.return_, 1) := by decide +kernel
theorem d_X_find_0 : decode b_X_find 0 = .ok (.iconst 0, 1) := by decide +kernel
theorem d_X_find_1 : decode b_X_find 1 = .ok (.istore_n 2, 1) := by decide +kernel
theorem d_X_find_2 : decode b_X_find 2 = .ok (.iload_n 2, 1) := by decide +kernel
theorem d_X_find_3 : decode b_X_find 3 = .ok (.aload_n 0, 1) := by decide +kernel
theorem d_X_find_4 : decode b_X_find 4 = .ok (.getfield 23, 3) := by decide +kernel
theorem d_X_find_7 : decode b_X_find 7 = .ok (.invokevirtual 84, 3) := by decide +kernel
theorem d_X_find_10 : decode b_X_find 10 = .ok (.if_icmp .ge 31, 3) := by decide +kernel
theorem d_X_find_41 : decode b_X_find 41 = .ok (.aload_n 0, 1) := by decide +kernel
theorem d_X_find_42 : decode b_X_find 42 = .ok (.getfield 31, 3) := by decide +kernel
theorem d_X_find_45 : decode b_X_find 45 = .ok (.areturn, 1) := by decide +kernel
theorem d_X_howManyAre_0 : decode b_X_howManyAre 0 = .ok (.iconst 0, 1) := by decide +kernel
theorem d_X_howManyAre_1 : decode b_X_howManyAre 1 = .ok (.istore_n 2, 1) := by decide +kernel
theorem d_X_howManyAre_2 : decode b_X_howManyAre 2 = .ok (.iconst 0, 1) := by decide +kernel
theorem d_X_howManyAre_3 : decode b_X_howManyAre 3 = .ok (.istore_n 3, 1) := by decide +kernel
theorem d_X_howManyAre_4 : decode b_X_howManyAre 4 = .ok (.iload_n 3, 1) := by decide +kernel
theorem d_X_howManyAre_5 : decode b_X_howManyAre 5 = .ok (.aload_n 0, 1) := by decide +kernel
theorem d_X_howManyAre_6 : decode b_X_howManyAre 6 = .ok (.getfield 23, 3) := by decide +kernel
theorem d_X_howManyAre_9 : decode b_X_howManyAre 9 = .ok (.invokevirtual 84, 3) := by decide +kernel
theorem d_X_howManyAre_12 : decode b_X_howManyAre 12 = .ok (.if_icmp .ge 30, 3) := by decide +kernel
theorem d_X_howManyAre_42 : decode b_X_howManyAre 42 = .ok (.iload_n 2, 1) := by decide +kernel
theorem d_X_howManyAre_43 : decode b_X_howManyAre 43 = .ok (.ireturn, 1) := by decide +kernel
theorem d_X_jobThatMakes_0 : decode b_X_jobThatMakes 0 = .ok (.iconst 0, 1) := by decide +kernel
theorem d_X_jobThatMakes_1 : decode b_X_jobThatMakes 1 = .ok (.istore_n 1, 1) := by decide +kernel
theorem d_X_jobThatMakes_2 : decode b_X_jobThatMakes 2 = .ok (.iload_n 1, 1) := by decide +kernel
theorem d_X_jobThatMakes_3 : decode b_X_jobThatMakes 3 = .ok (.aload_n 0, 1) := by decide +kernel
theorem d_X_jobThatMakes_4 : decode b_X_jobThatMakes 4 = .ok (.getfield 23, 3) := by decide +kernel
theorem d_X_jobThatMakes_7 : decode b_X_jobThatMakes 7 = .ok (.invokevirtual 84, 3) := by decide +kernel
theorem d_X_jobThatMakes_10 : decode b_X_jobThatMakes 10 = .ok (.if_icmp .ge 34, 3) := by decide +kernel
theorem d_X_jobThatMakes_44 : decode b_X_jobThatMakes 44 = .ok (.iconst 0, 1) := by decide +kernel
theorem d_X_jobThatMakes_45 : decode b_X_jobThatMakes 45 = .ok (.ireturn, 1) := by decide +kernel
end
section
set_option maxHeartbeats 4000000 in
set_option maxRecDepth 100000 in
theorem c_AL_size (l : Launch) (G : gw_G) (M : gw_M) (a : Nat) (r : Nat) (k : Int32) (e : Nat) (n : Int32) (hf_a : M a = some (r, .inr (4, [.int k, .ref e, .int n]))) : Met l y_AL_size [.code y_AL_size b_AL_size 1 (some .int)] ({ frames := 0, cells := 0, slots := 0, locals := 0 }) (gw_Pc G M [.ref a]) (gw_Qi G (fun r M2 => n = r ∧ M = M2)) 0 0 (gw_A G) := by
  refine gw_start (by decide) (Nat.le_of_ble_eq_true rfl) (fun p9 e9 s m b9 mt9 c9 hx hb hr hml hown hlocks hin hE hB hW ls hl => ?_)
  have hts := hE.ts ([.ref a] : List Value).toArray
  have hl : lv_has ls 1 [(0, .ref a)] := hl
  have hS : va_S (gw_A G) s.heap s.heap [] := va_S.rf
  have hown : s.vm.findClass "java/util/ArrayList" = some m.cls := hown
  refine lv_aload_n hx hb d_AL_size_0 rfl (lv_at hl 0 rfl) ?_
  refine gw_get (ci := 4) (fs := [.int k, .ref e, .int n]) hx hb hts in_AL hown hE.K hW hf_a rfl 2 (by decide) (hts _ mw54) (fun _ h9 => h9) rfl d_AL_size_1 ?_
  exact gw_iret hx hb hr hlocks hS hW (Nat.le_of_ble_eq_true rfl) (Nat.le_of_ble_eq_true rfl) d_AL_size_4 (⟨rfl, rfl⟩)

set_option maxHeartbeats 4000000 in
set_option maxRecDepth 100000 in
theorem c_isNumber (l : Launch) (G : gw_G) (M : gw_M) (k : Int32) : Met l y_X_isNumber [.code y_X_isNumber b_X_isNumber 1 (some .boolean)] ({ frames := 0, cells := 0, slots := 0, locals := 0 }) (gw_Pc G M [.int k]) (gw_Qi G (fun r M2 => gx_num k = r ∧ M = M2)) 0 0 (gw_A G) := by
  refine gw_start (by decide) (Nat.le_of_ble_eq_true rfl) (fun p9 e9 s m b9 mt9 c9 hx hb hr hml hown hlocks hin hE hB hW ls hl => ?_)
  have hts := hE.ts ([.int k] : List Value).toArray
  have hl : lv_has ls 1 [(0, .int k)] := hl
  have hS : va_S (gw_A G) s.heap s.heap [] := va_S.rf
  have hown : s.vm.findClass "Generations" = some m.cls := hown
  refine lv_iload_n hx hb d_X_isNumber_0 rfl (lv_at hl 0 rfl) ?_
  refine lv_iconst (v := 1) hx hb d_X_isNumber_1 (by decide) ?_
  refine lv_icmp_lt (tgt := 16) hx hb d_X_isNumber_2 (by decide) (fun c2 => ?_) (fun c2 => ?_)
  · refine lv_iconst (v := 0) hx hb d_X_isNumber_16 (by decide) ?_
    exact gw_zret hx hb hr hlocks rfl hS hW (Nat.le_of_ble_eq_true rfl) (Nat.le_of_ble_eq_true rfl) d_X_isNumber_17 (⟨(gx_num0 c2), rfl⟩)
  · refine lv_iload_n hx hb d_X_isNumber_5 rfl (lv_at hl 0 rfl) ?_
    refine lv_sipush (v := 9999) hx hb d_X_isNumber_6 (by decide) ?_
    refine lv_icmp_gt (tgt := 16) hx hb d_X_isNumber_9 (by decide) (fun c9 => ?_) (fun c9 => ?_)
    · refine lv_iconst (v := 0) hx hb d_X_isNumber_16 (by decide) ?_
      exact gw_zret hx hb hr hlocks rfl hS hW (Nat.le_of_ble_eq_true rfl) (Nat.le_of_ble_eq_true rfl) d_X_isNumber_17 (⟨(gx_num0' c9), rfl⟩)
    · refine lv_iconst (v := 1) hx hb d_X_isNumber_12 (by decide) ?_
      refine lv_goto (tgt := 17) hx hb d_X_isNumber_13 (by decide) ?_
      exact gw_zret hx hb hr hlocks rfl hS hW (Nat.le_of_ble_eq_true rfl) (Nat.le_of_ble_eq_true rfl) d_X_isNumber_17 (⟨(gx_num1 c2 c9), rfl⟩)

set_option maxHeartbeats 4000000 in
set_option maxRecDepth 100000 in
theorem c_isDeferred (l : Launch) (G : gw_G) (M : gw_M) (a : Nat) (r : Nat) (hf_a : M a = some (r, .inr (2, [.int 0, .int 0, .int 0, .int 0, .int 0]))) : Met l y_Gen_isDeferred [.code y_Gen_isDeferred b_Gen_isDeferred 1 (some .boolean)] ({ frames := 0, cells := 0, slots := 0, locals := 0 }) (gw_Pc G M [.ref a]) (gw_Qi G (fun r M2 => 0 = r ∧ M = M2)) 0 0 (gw_A G) := by
  refine gw_start (by decide) (Nat.le_of_ble_eq_true rfl) (fun p9 e9 s m b9 mt9 c9 hx hb hr hml hown hlocks hin hE hB hW ls hl => ?_)
  have hts := hE.ts ([.ref a] : List Value).toArray
  have hl : lv_has ls 1 [(0, .ref a)] := hl
  have hS : va_S (gw_A G) s.heap s.heap [] := va_S.rf
  have hown : s.vm.findClass "Generations$Generation" = some m.cls := hown
  refine lv_aload_n hx hb d_Gen_isDeferred_0 rfl (lv_at hl 0 rfl) ?_
  refine gw_get (ci := 2) (fs := [.int 0, .int 0, .int 0, .int 0, .int 0]) hx hb hts in_Gen hown hE.K hW hf_a rfl 1 (by decide) (hts _ mw18) (fun _ h9 => h9) rfl d_Gen_isDeferred_1 ?_
  refine lv_iconst (v := 2) hx hb d_Gen_isDeferred_4 (by decide) ?_
  refine lv_icmp_eq (tgt := 16) hx hb d_Gen_isDeferred_5 (by decide) (fun c5 => ?_) (fun c5 => ?_)
  · exact absurd c5 (by decide)
  · refine lv_aload_n hx hb d_Gen_isDeferred_8 rfl (lv_at hl 0 rfl) ?_
    refine gw_get (ci := 2) (fs := [.int 0, .int 0, .int 0, .int 0, .int 0]) hx hb hts in_Gen hown hE.K hW hf_a rfl 1 (by decide) (hts _ mw18) (fun _ h9 => h9) rfl d_Gen_isDeferred_9 ?_
    refine lv_iconst (v := 3) hx hb d_Gen_isDeferred_12 (by decide) ?_
    refine lv_icmp_ne (tgt := 20) hx hb d_Gen_isDeferred_13 (by decide) (fun c13 => ?_) (fun c13 => ?_)
    · refine lv_iconst (v := 0) hx hb d_Gen_isDeferred_20 (by decide) ?_
      exact gw_zret hx hb hr hlocks rfl hS hW (Nat.le_of_ble_eq_true rfl) (Nat.le_of_ble_eq_true rfl) d_Gen_isDeferred_21 (⟨rfl, rfl⟩)
    · exact absurd c13 (by decide)

set_option maxHeartbeats 4000000 in
set_option maxRecDepth 100000 in
theorem c_beginAnew (l : Launch) (G : gw_G) (M : gw_M) (a : Nat) (k : Int32) (hf_a : M a = some (9, .inr (2, [.int k, .int 0, .int 0, .int 0, .int 0]))) : Met l y_Gen_beginAnew [.code y_Gen_beginAnew b_Gen_beginAnew 2 none] ({ frames := 0, cells := 0, slots := 0, locals := 0 }) (gw_Pc G M [.ref a, .int 0]) (gw_Qv G (fun M2 => M2 a = some (9, .inr (2, [.int k, .int 0, .int 0, .int 0, .int 0])) ∧ gw_fr (gw_out [9]) M M2)) 0 0 (gw_A G) := by
  refine gw_start (by decide) (Nat.le_of_ble_eq_true rfl) (fun p9 e9 s m b9 mt9 c9 hx hb hr hml hown hlocks hin hE hB hW ls hl => ?_)
  have hts := hE.ts ([.ref a, .int 0] : List Value).toArray
  have hl : lv_has ls 2 [(0, .ref a), (1, .int 0)] := hl
  have hS : va_S (gw_A G) s.heap s.heap [] := va_S.rf
  have hown : s.vm.findClass "Generations$Generation" = some m.cls := hown
  refine lv_aload_n hx hb d_Gen_beginAnew_0 rfl (lv_at hl 0 rfl) ?_
  refine lv_iload_n hx hb d_Gen_beginAnew_1 rfl (lv_at hl 1 rfl) ?_
  refine gw_put (ci := 2) (fs := [.int k, .int 0, .int 0, .int 0, .int 0]) (v := .int 0) (ty := .int) hx hb hts in_Gen t_Gen t_Gen_ok n_Gen hown hE.K hW hS hf_a rfl 3 (by decide) (hts _ mw19) (fun _ h9 => h9) rfl (by decide +kernel) rfl rfl (Nat.le_of_ble_eq_true rfl) d_Gen_beginAnew_2 (fun H locs hW hS => ?_)
  have hF1 : gw_fr (gw_out [9]) M (gw_up M a 9 (.inr (2, [.int k, .int 0, .int 0, .int 0, .int 0]))) := gw_fr.up gw_fr.rf hf_a (show ¬ ((gw_out [9]) 9) by decide) (show ¬ ((gw_out [9]) 9) by decide)
  obtain ⟨M2, eM2⟩ : ∃ z, z = gw_up M a 9 (.inr (2, [.int k, .int 0, .int 0, .int 0, .int 0])) := ⟨_, rfl⟩
  replace hW : gw_P G.1 vwCl G.2.2.2 M2 H := by rw [eM2]; exact hW
  have hf_a : M2 a = some (9, .inr (2, [.int k, .int 0, .int 0, .int 0, .int 0])) := by rw [eM2]; exact gw_up_self _ _ _ _
  rw [← eM2] at hF1
  refine lv_aload_n hx hb d_Gen_beginAnew_5 rfl (lv_at hl 0 rfl) ?_
  refine lv_iconst (v := 0) hx hb d_Gen_beginAnew_6 (by decide) ?_
  refine gw_put (ci := 2) (fs := [.int k, .int 0, .int 0, .int 0, .int 0]) (v := .int 0) (ty := .int) hx hb hts in_Gen t_Gen t_Gen_ok n_Gen hown hE.K hW hS hf_a rfl 2 (by decide) (hts _ mw55) (fun _ h9 => h9) rfl (by decide +kernel) rfl rfl (Nat.le_of_ble_eq_true rfl) d_Gen_beginAnew_7 (fun H locs hW hS => ?_)
  have hF3 : gw_fr (gw_out [9]) M (gw_up M2 a 9 (.inr (2, [.int k, .int 0, .int 0, .int 0, .int 0]))) := gw_fr.up hF1 hf_a (show ¬ ((gw_out [9]) 9) by decide) (show ¬ ((gw_out [9]) 9) by decide)
  obtain ⟨M4, eM4⟩ : ∃ z, z = gw_up M2 a 9 (.inr (2, [.int k, .int 0, .int 0, .int 0, .int 0])) := ⟨_, rfl⟩
  replace hW : gw_P G.1 vwCl G.2.2.2 M4 H := by rw [eM4]; exact hW
  have hf_a : M4 a = some (9, .inr (2, [.int k, .int 0, .int 0, .int 0, .int 0])) := by rw [eM4]; exact gw_up_self _ _ _ _
  rw [← eM4] at hF3
  refine lv_aload_n hx hb d_Gen_beginAnew_10 rfl (lv_at hl 0 rfl) ?_
  refine lv_iconst (v := 0) hx hb d_Gen_beginAnew_11 (by decide) ?_
  refine gw_put (ci := 2) (fs := [.int k, .int 0, .int 0, .int 0, .int 0]) (v := .int 0) (ty := .int) hx hb hts in_Gen t_Gen t_Gen_ok n_Gen hown hE.K hW hS hf_a rfl 4 (by decide) (hts _ mw56) (fun _ h9 => h9) rfl (by decide +kernel) rfl rfl (Nat.le_of_ble_eq_true rfl) d_Gen_beginAnew_12 (fun H locs hW hS => ?_)
  have hF5 : gw_fr (gw_out [9]) M (gw_up M4 a 9 (.inr (2, [.int k, .int 0, .int 0, .int 0, .int 0]))) := gw_fr.up hF3 hf_a (show ¬ ((gw_out [9]) 9) by decide) (show ¬ ((gw_out [9]) 9) by decide)
  obtain ⟨M6, eM6⟩ : ∃ z, z = gw_up M4 a 9 (.inr (2, [.int k, .int 0, .int 0, .int 0, .int 0])) := ⟨_, rfl⟩
  replace hW : gw_P G.1 vwCl G.2.2.2 M6 H := by rw [eM6]; exact hW
  have hf_a : M6 a = some (9, .inr (2, [.int k, .int 0, .int 0, .int 0, .int 0])) := by rw [eM6]; exact gw_up_self _ _ _ _
  rw [← eM6] at hF5
  exact gw_vret hx hb hr hlocks hS hW (Nat.le_of_ble_eq_true rfl) (Nat.le_of_ble_eq_true rfl) d_Gen_beginAnew_15 (⟨hf_a, hF5⟩)

set_option maxHeartbeats 4000000 in
set_option maxRecDepth 100000 in
theorem c_find (l : Launch) (G : gw_G) (M : gw_M) (x : Nat) (row : Nat) (jobs : Nat) (known : Nat) (nowh : Nat) (gone : Nat) (lim : Int32) (sc : Int32) (k : Int32) (hf_x : M x = some (1, .inr (0, [.int lim, .int sc, .int 0, .ref row, .ref jobs, .ref known, .ref nowh, .ref gone, .int 0]))) (hf_known : M known = some (5, .inr (4, [.int 0, .ref (G.2.2.1 0), .int 0]))) : Met l y_X_find [.code y_X_find b_X_find 4 (some (.object "Generations$Generation"))] ({ frames := 1, cells := 0, slots := 0, locals := 20 }) (gw_Pc G M [.ref x, .int k]) (gw_Qr G (fun r M2 => nowh = r ∧ M = M2)) 0 0 (gw_A G) := by
  refine gw_start (by decide) (Nat.le_of_ble_eq_true rfl) (fun p9 e9 s m b9 mt9 c9 hx hb hr hml hown hlocks hin hE hB hW ls hl => ?_)
  have hts := hE.ts ([.ref x, .int k] : List Value).toArray
  have hl : lv_has ls 4 [(0, .ref x), (1, .int k)] := hl
  have hS : va_S (gw_A G) s.heap s.heap [] := va_S.rf
  have hown : s.vm.findClass "Generations" = some m.cls := hown
  refine lv_iconst (v := 0) hx hb d_X_find_0 (by decide) ?_
  refine lv_istore_n (lv' := [(2, .int 0), (0, .ref x), (1, .int k)]) hx hb d_X_find_1 rfl hl (by decide) rfl (fun ls hl => ?_)
  refine lv_iload_n hx hb d_X_find_2 rfl (lv_at hl 0 rfl) ?_
  refine lv_aload_n hx hb d_X_find_3 rfl (lv_at hl 1 rfl) ?_
  refine gw_get (ci := 0) (fs := [.int lim, .int sc, .int 0, .ref row, .ref jobs, .ref known, .ref nowh, .ref gone, .int 0]) hx hb hts in_X hown hE.K hW hf_x rfl 5 (by decide) (hts _ mw36) (fun _ h9 => h9) rfl d_X_find_4 ?_
  refine gw_calli hS (va_runV (As := []) (rest := [.int 0]) ⟨hx, hb, hml, hown, hts⟩ (c_AL_size l G M known 5 0 (G.2.2.1 0) 0 hf_known ) (cwV 0 hts (gw_gv mw58 mw59 mw60 mw31 mw57) rfl rfl rfl (by decide +kernel) ⟨Nat.le_of_ble_eq_true rfl, Nat.le_of_ble_eq_true rfl⟩) (gw_pv hE hB hS hW rfl hf_known) rfl rfl hl.1 rfl (lv_room (Nat.le_of_ble_eq_true rfl)) d_X_find_7 ⟨Nat.le_of_ble_eq_true rfl, Nat.le_of_ble_eq_true rfl⟩) (fun r1 M2 H locs hw3 hW hS => ?_)
  obtain ⟨rfl, rfl⟩ := hw3
  refine lv_icmp_ge (tgt := 41) hx hb d_X_find_10 (by decide) (fun c10 => ?_) (fun c10 => ?_)
  · refine lv_aload_n hx hb d_X_find_41 rfl (lv_at hl 1 rfl) ?_
    refine gw_get (ci := 0) (fs := [.int lim, .int sc, .int 0, .ref row, .ref jobs, .ref known, .ref nowh, .ref gone, .int 0]) hx hb hts in_X hown hE.K hW hf_x rfl 6 (by decide) (hts _ mw43) (fun _ h9 => h9) rfl d_X_find_42 ?_
    exact gw_aret hx hb hr hlocks (Or.inl ⟨_, rfl⟩) hS hW (Nat.le_of_ble_eq_true rfl) (Nat.le_of_ble_eq_true rfl) d_X_find_45 (⟨rfl, rfl⟩)
  · exact absurd c10 (by decide)

set_option maxHeartbeats 4000000 in
set_option maxRecDepth 100000 in
theorem c_howMany (l : Launch) (G : gw_G) (M : gw_M) (x : Nat) (row : Nat) (jobs : Nat) (known : Nat) (nowh : Nat) (gone : Nat) (lim : Int32) (sc : Int32) (k : Int32) (hf_x : M x = some (1, .inr (0, [.int lim, .int sc, .int 0, .ref row, .ref jobs, .ref known, .ref nowh, .ref gone, .int 0]))) (hf_known : M known = some (5, .inr (4, [.int 0, .ref (G.2.2.1 0), .int 0]))) : Met l y_X_howManyAre [.code y_X_howManyAre b_X_howManyAre 4 (some .int)] ({ frames := 1, cells := 0, slots := 0, locals := 20 }) (gw_Pc G M [.ref x, .int k]) (gw_Qi G (fun r M2 => 0 = r ∧ M = M2)) 0 0 (gw_A G) := by
  refine gw_start (by decide) (Nat.le_of_ble_eq_true rfl) (fun p9 e9 s m b9 mt9 c9 hx hb hr hml hown hlocks hin hE hB hW ls hl => ?_)
  have hts := hE.ts ([.ref x, .int k] : List Value).toArray
  have hl : lv_has ls 4 [(0, .ref x), (1, .int k)] := hl
  have hS : va_S (gw_A G) s.heap s.heap [] := va_S.rf
  have hown : s.vm.findClass "Generations" = some m.cls := hown
  refine lv_iconst (v := 0) hx hb d_X_howManyAre_0 (by decide) ?_
  refine lv_istore_n (lv' := [(2, .int 0), (0, .ref x), (1, .int k)]) hx hb d_X_howManyAre_1 rfl hl (by decide) rfl (fun ls hl => ?_)
  refine lv_iconst (v := 0) hx hb d_X_howManyAre_2 (by decide) ?_
  refine lv_istore_n (lv' := [(3, .int 0), (2, .int 0), (0, .ref x), (1, .int k)]) hx hb d_X_howManyAre_3 rfl hl (by decide) rfl (fun ls hl => ?_)
  refine lv_iload_n hx hb d_X_howManyAre_4 rfl (lv_at hl 0 rfl) ?_
  refine lv_aload_n hx hb d_X_howManyAre_5 rfl (lv_at hl 2 rfl) ?_
  refine gw_get (ci := 0) (fs := [.int lim, .int sc, .int 0, .ref row, .ref jobs, .ref known, .ref nowh, .ref gone, .int 0]) hx hb hts in_X hown hE.K hW hf_x rfl 5 (by decide) (hts _ mw36) (fun _ h9 => h9) rfl d_X_howManyAre_6 ?_
  refine gw_calli hS (va_runV (As := []) (rest := [.int 0]) ⟨hx, hb, hml, hown, hts⟩ (c_AL_size l G M known 5 0 (G.2.2.1 0) 0 hf_known ) (cwV 0 hts (gw_gv mw58 mw59 mw60 mw31 mw57) rfl rfl rfl (by decide +kernel) ⟨Nat.le_of_ble_eq_true rfl, Nat.le_of_ble_eq_true rfl⟩) (gw_pv hE hB hS hW rfl hf_known) rfl rfl hl.1 rfl (lv_room (Nat.le_of_ble_eq_true rfl)) d_X_howManyAre_9 ⟨Nat.le_of_ble_eq_true rfl, Nat.le_of_ble_eq_true rfl⟩) (fun r1 M2 H locs hw3 hW hS => ?_)
  obtain ⟨rfl, rfl⟩ := hw3
  refine lv_icmp_ge (tgt := 42) hx hb d_X_howManyAre_12 (by decide) (fun c12 => ?_) (fun c12 => ?_)
  · refine lv_iload_n hx hb d_X_howManyAre_42 rfl (lv_at hl 1 rfl) ?_
    exact gw_iret hx hb hr hlocks hS hW (Nat.le_of_ble_eq_true rfl) (Nat.le_of_ble_eq_true rfl) d_X_howManyAre_43 (⟨rfl, rfl⟩)
  · exact absurd c12 (by decide)

set_option maxHeartbeats 4000000 in
set_option maxRecDepth 100000 in
theorem c_jobThatMakes (l : Launch) (G : gw_G) (M : gw_M) (x : Nat) (row : Nat) (jobs : Nat) (known : Nat) (nowh : Nat) (gone : Nat) (lim : Int32) (sc : Int32) (hf_x : M x = some (1, .inr (0, [.int lim, .int sc, .int 0, .ref row, .ref jobs, .ref known, .ref nowh, .ref gone, .int 0]))) (hf_known : M known = some (5, .inr (4, [.int 0, .ref (G.2.2.1 0), .int 0]))) : Met l y_X_jobThatMakes [.code y_X_jobThatMakes b_X_jobThatMakes 3 (some .int)] ({ frames := 1, cells := 0, slots := 0, locals := 20 }) (gw_Pc G M [.ref x]) (gw_Qi G (fun r M2 => 0 = r ∧ M = M2)) 0 0 (gw_A G) := by
  refine gw_start (by decide) (Nat.le_of_ble_eq_true rfl) (fun p9 e9 s m b9 mt9 c9 hx hb hr hml hown hlocks hin hE hB hW ls hl => ?_)
  have hts := hE.ts ([.ref x] : List Value).toArray
  have hl : lv_has ls 3 [(0, .ref x)] := hl
  have hS : va_S (gw_A G) s.heap s.heap [] := va_S.rf
  have hown : s.vm.findClass "Generations" = some m.cls := hown
  refine lv_iconst (v := 0) hx hb d_X_jobThatMakes_0 (by decide) ?_
  refine lv_istore_n (lv' := [(1, .int 0), (0, .ref x)]) hx hb d_X_jobThatMakes_1 rfl hl (by decide) rfl (fun ls hl => ?_)
  refine lv_iload_n hx hb d_X_jobThatMakes_2 rfl (lv_at hl 0 rfl) ?_
  refine lv_aload_n hx hb d_X_jobThatMakes_3 rfl (lv_at hl 1 rfl) ?_
  refine gw_get (ci := 0) (fs := [.int lim, .int sc, .int 0, .ref row, .ref jobs, .ref known, .ref nowh, .ref gone, .int 0]) hx hb hts in_X hown hE.K hW hf_x rfl 5 (by decide) (hts _ mw36) (fun _ h9 => h9) rfl d_X_jobThatMakes_4 ?_
  refine gw_calli hS (va_runV (As := []) (rest := [.int 0]) ⟨hx, hb, hml, hown, hts⟩ (c_AL_size l G M known 5 0 (G.2.2.1 0) 0 hf_known ) (cwV 0 hts (gw_gv mw58 mw59 mw60 mw31 mw57) rfl rfl rfl (by decide +kernel) ⟨Nat.le_of_ble_eq_true rfl, Nat.le_of_ble_eq_true rfl⟩) (gw_pv hE hB hS hW rfl hf_known) rfl rfl hl.1 rfl (lv_room (Nat.le_of_ble_eq_true rfl)) d_X_jobThatMakes_7 ⟨Nat.le_of_ble_eq_true rfl, Nat.le_of_ble_eq_true rfl⟩) (fun r1 M2 H locs hw3 hW hS => ?_)
  obtain ⟨rfl, rfl⟩ := hw3
  refine lv_icmp_ge (tgt := 44) hx hb d_X_jobThatMakes_10 (by decide) (fun c10 => ?_) (fun c10 => ?_)
  · refine lv_iconst (v := 0) hx hb d_X_jobThatMakes_44 (by decide) ?_
    exact gw_iret hx hb hr hlocks hS hW (Nat.le_of_ble_eq_true rfl) (Nat.le_of_ble_eq_true rfl) d_X_jobThatMakes_45 (⟨rfl, rfl⟩)
  · exact absurd c10 (by decide)
end
section
abbrev b_AL_grow : ByteArray := prog_19_method_6_code
abbrev y_AL_grow : MethodName := ⟨"java/util/ArrayList", "grow", "(I)[Ljava/lang/Object;"⟩
abbrev b_AL_grow2 : ByteArray := prog_19_method_7_code
abbrev y_AL_grow2 : MethodName := ⟨"java/util/ArrayList", "grow", "()[Ljava/lang/Object;"⟩
abbrev b_AL_add : ByteArray := prog_19_method_24_code
abbrev y_AL_add : MethodName := ⟨"java/util/ArrayList", "add", "(Ljava/lang/Object;[Ljava/lang/Object;I)V"⟩
abbrev b_AL_add2 : ByteArray := prog_19_method_25_code
abbrev y_AL_add2 : MethodName := ⟨"java/util/ArrayList", "add", "(Ljava/lang/Object;)Z"⟩
set_option maxRecDepth 20000 in
theorem mw61 : (Cond.methodLink "java/util/ArrayList" (79 : Nat) ({ cls := "java/lang/Math", name := "max", desc := "(II)I" } : Jvm.MethodName)) ∈ gw_N0 := gw_in (List.mem_append_right _ (gw_tm (i := 214) rfl))
set_option maxRecDepth 20000 in
theorem mw62 : (Cond.classLink "java/util/ArrayList" (7 : Nat) "java/lang/Object") ∈ gw_N0 := gw_in (List.mem_append_right _ (gw_tm (i := 215) rfl))
set_option maxRecDepth 20000 in
theorem mw63 : (Cond.code ({ cls := "java/util/ArrayList", name := "grow", desc := "(I)[Ljava/lang/Object;" } : Jvm.MethodName) prog_19_method_6_code (4 : Nat) (Option.some (Jvm.ClassFile.FieldType.array (Jvm.ClassFile.FieldType.object "java/lang/Object")))) ∈ gw_N0 := gw_in (List.mem_append_right _ (gw_tm (i := 181) rfl))
set_option maxRecDepth 20000 in
theorem mw64 : (Cond.methodLink "java/util/ArrayList" (69 : Nat) ({ cls := "java/util/ArrayList", name := "grow", desc := "(I)[Ljava/lang/Object;" } : Jvm.MethodName)) ∈ gw_N0 := gw_in (List.mem_append_right _ (gw_tm (i := 178) rfl))
set_option maxRecDepth 20000 in
theorem mw65 : (Cond.instanceMethod ({ cls := "java/util/ArrayList", name := "grow", desc := "(I)[Ljava/lang/Object;" } : Jvm.MethodName)) ∈ gw_N0 := gw_in (List.mem_append_right _ (gw_tm (i := 180) rfl))
set_option maxRecDepth 20000 in
theorem mw66 : (Cond.selects "java/util/ArrayList" ⟨"java/util/ArrayList", "grow", "(I)[Ljava/lang/Object;"⟩ ⟨"java/util/ArrayList", "grow", "(I)[Ljava/lang/Object;"⟩) ∈ gw_N0 := gw_in (List.mem_append_left _ (List.mem_of_getElem? (i := 5) rfl))
set_option maxRecDepth 20000 in
theorem mw67 : (Cond.code ({ cls := "java/util/ArrayList", name := "grow", desc := "()[Ljava/lang/Object;" } : Jvm.MethodName) prog_19_method_7_code (1 : Nat) (Option.some (Jvm.ClassFile.FieldType.array (Jvm.ClassFile.FieldType.object "java/lang/Object")))) ∈ gw_N0 := gw_in (List.mem_append_right _ (gw_tm (i := 177) rfl))
set_option maxRecDepth 20000 in
theorem mw68 : (Cond.methodLink "java/util/ArrayList" (129 : Nat) ({ cls := "java/util/ArrayList", name := "grow", desc := "()[Ljava/lang/Object;" } : Jvm.MethodName)) ∈ gw_N0 := gw_in (List.mem_append_right _ (gw_tm (i := 174) rfl))
set_option maxRecDepth 20000 in
theorem mw69 : (Cond.instanceMethod ({ cls := "java/util/ArrayList", name := "grow", desc := "()[Ljava/lang/Object;" } : Jvm.MethodName)) ∈ gw_N0 := gw_in (List.mem_append_right _ (gw_tm (i := 176) rfl))
set_option maxRecDepth 20000 in
theorem mw70 : (Cond.selects "java/util/ArrayList" ⟨"java/util/ArrayList", "grow", "()[Ljava/lang/Object;"⟩ ⟨"java/util/ArrayList", "grow", "()[Ljava/lang/Object;"⟩) ∈ gw_N0 := gw_in (List.mem_append_left _ (List.mem_of_getElem? (i := 4) rfl))
set_option maxRecDepth 20000 in
theorem mw71 : (Cond.castable "Generations$Generation" "java/lang/Object") ∈ gw_N0 := gw_in (List.mem_append_right _ (gw_tm (i := 619) rfl))
set_option maxRecDepth 20000 in
theorem mw72 : (Cond.sameField "java/util/ArrayList" "java/util/AbstractList" "modCount" "I") ∈ gw_N0 := gw_in (List.mem_append_right _ (gw_tm (i := 60) rfl))
set_option maxRecDepth 20000 in
theorem mw73 : (Cond.fieldLink "java/util/ArrayList" (63 : Nat) "java/util/ArrayList" "modCount" "I") ∈ gw_N0 := gw_in (List.mem_append_right _ (gw_tm (i := 59) rfl))
set_option maxRecDepth 20000 in
theorem mw74 : (Cond.code ({ cls := "java/util/ArrayList", name := "add", desc := "(Ljava/lang/Object;[Ljava/lang/Object;I)V" } : Jvm.MethodName) prog_19_method_24_code (4 : Nat) (Option.none : Option Jvm.ClassFile.FieldType)) ∈ gw_N0 := gw_in (List.mem_append_right _ (gw_tm (i := 173) rfl))
set_option maxRecDepth 20000 in
theorem mw75 : (Cond.methodLink "java/util/ArrayList" (131 : Nat) ({ cls := "java/util/ArrayList", name := "add", desc := "(Ljava/lang/Object;[Ljava/lang/Object;I)V" } : Jvm.MethodName)) ∈ gw_N0 := gw_in (List.mem_append_right _ (gw_tm (i := 170) rfl))
set_option maxRecDepth 20000 in
theorem mw76 : (Cond.instanceMethod ({ cls := "java/util/ArrayList", name := "add", desc := "(Ljava/lang/Object;[Ljava/lang/Object;I)V" } : Jvm.MethodName)) ∈ gw_N0 := gw_in (List.mem_append_right _ (gw_tm (i := 172) rfl))
set_option maxRecDepth 20000 in
theorem mw77 : (Cond.selects "java/util/ArrayList" ⟨"java/util/ArrayList", "add", "(Ljava/lang/Object;[Ljava/lang/Object;I)V"⟩ ⟨"java/util/ArrayList", "add", "(Ljava/lang/Object;[Ljava/lang/Object;I)V"⟩) ∈ gw_N0 := gw_in (List.mem_append_left _ (List.mem_of_getElem? (i := 3) rfl))
set_option maxRecDepth 20000 in
theorem mw78 : (Cond.castable "Generations$Job" "java/lang/Object") ∈ gw_N0 := gw_in (List.mem_append_right _ (gw_tm (i := 621) rfl))
end
section
theorem d_AL_grow_0 : decode b_AL_grow 0 = .ok (.aload_n 0, 1) := by decide +kernel
theorem d_AL_grow_1 : decode b_AL_grow 1 = .ok (.getfield 9, 3) := by decide +kernel
theorem d_AL_grow_4 : decode b_AL_grow 4 = .ok (.arraylength, 1) := by decide +kernel
theorem d_AL_grow_5 : decode b_AL_grow 5 = .ok (.istore_n 2, 1) := by decide +kernel
theorem d_AL_grow_6 : decode b_AL_grow 6 = .ok (.iload_n 2, 1) := by decide +kernel
theorem d_AL_grow_7 : decode b_AL_grow 7 = .ok (.ifCond .gt 13, 3) := by decide +kernel
theorem d_AL_grow_10 : decode b_AL_grow 10 = .ok (.aload_n 0, 1) := by decide +kernel
theorem d_AL_grow_11 : decode b_AL_grow 11 = .ok (.getfield 9, 3) := by decide +kernel
theorem d_AL_grow_14 : decode b_AL_grow 14 = .ok (.getstatic 39, 3) := by decide +kernel
theorem d_AL_grow_17 : decode b_AL_grow 17 = .ok (.if_acmp .eq 28, 3) := by decide +kernel
theorem d_AL_grow_45 : decode b_AL_grow 45 = .ok (.aload_n 0, 1) := by decide +kernel
theorem d_AL_grow_46 : decode b_AL_grow 46 = .ok (.bipush 10, 2) := by decide +kernel
theorem d_AL_grow_48 : decode b_AL_grow 48 = .ok (.iload_n 1, 1) := by decide +kernel
theorem d_AL_grow_49 : decode b_AL_grow 49 = .ok (.invokestatic 79, 3) := by decide +kernel
theorem d_AL_grow_52 : decode b_AL_grow 52 = .ok (.anewarray 7, 3) := by decide +kernel
theorem d_AL_grow_55 : decode b_AL_grow 55 = .ok (.dup_x1, 1) := by decide +kernel
theorem d_AL_grow_56 : decode b_AL_grow 56 = .ok (.putfield 9, 3) := by decide +kernel
theorem d_AL_grow_59 : decode b_AL_grow 59 = .ok (.areturn, 1) := by decide +kernel
theorem d_AL_grow2_0 : decode b_AL_grow2 0 = .ok (.aload_n 0, 1) := by decide +kernel
theorem d_AL_grow2_1 : decode b_AL_grow2 1 = .ok (.aload_n 0, 1) := by decide +kernel
theorem d_AL_grow2_2 : decode b_AL_grow2 2 = .ok (.getfield 48, 3) := by decide +kernel
theorem d_AL_grow2_5 : decode b_AL_grow2 5 = .ok (.iconst 1, 1) := by decide +kernel
theorem d_AL_grow2_6 : decode b_AL_grow2 6 = .ok (.iadd, 1) := by decide +kernel
theorem d_AL_grow2_7 : decode b_AL_grow2 7 = .ok (.invokevirtual 69, 3) := by decide +kernel
theorem d_AL_grow2_10 : decode b_AL_grow2 10 = .ok (.areturn, 1) := by decide +kernel
theorem d_AL_add_0 : decode b_AL_add 0 = .ok (.iload_n 3, 1) := by decide +kernel
theorem d_AL_add_1 : decode b_AL_add 1 = .ok (.aload_n 2, 1) := by decide +kernel
theorem d_AL_add_2 : decode b_AL_add 2 = .ok (.arraylength, 1) := by decide +kernel
theorem d_AL_add_3 : decode b_AL_add 3 = .ok (.if_icmp .ne 8, 3) := by decide +kernel
theorem d_AL_add_6 : decode b_AL_add 6 = .ok (.aload_n 0, 1) := by decide +kernel
theorem d_AL_add_7 : decode b_AL_add 7 = .ok (.invokevirtual 129, 3) := by decide +kernel
theorem d_AL_add_10 : decode b_AL_add 10 = .ok (.astore_n 2, 1) := by decide +kernel
theorem d_AL_add_11 : decode b_AL_add 11 = .ok (.aload_n 2, 1) := by decide +kernel
theorem d_AL_add_12 : decode b_AL_add 12 = .ok (.iload_n 3, 1) := by decide +kernel
theorem d_AL_add_13 : decode b_AL_add 13 = .ok (.aload_n 1, 1) := by decide +kernel
theorem d_AL_add_14 : decode b_AL_add 14 = .ok (.aastore, 1) := by decide +kernel
theorem d_AL_add_15 : decode b_AL_add 15 = .ok (.aload_n 0, 1) := by decide +kernel
theorem d_AL_add_16 : decode b_AL_add 16 = .ok (.iload_n 3, 1) := by decide +kernel
theorem d_AL_add_17 : decode b_AL_add 17 = .ok (.iconst 1, 1) := by decide +kernel
theorem d_AL_add_18 : decode b_AL_add 18 = .ok (.iadd, 1) := by decide +kernel
theorem d_AL_add_19 : decode b_AL_add 19 = .ok (.putfield 48, 3) := by decide +kernel
theorem d_AL_add_22 : decode b_AL_add 22 = .ok (.return_, 1) := by decide +kernel
theorem d_AL_add2_0 : decode b_AL_add2 0 = .ok (.aload_n 0, 1) := by decide +kernel
theorem d_AL_add2_1 : decode b_AL_add2 1 = .ok (.dup, 1) := by decide +kernel
theorem d_AL_add2_2 : decode b_AL_add2 2 = .ok (.getfield 63, 3) := by decide +kernel
theorem d_AL_add2_5 : decode b_AL_add2 5 = .ok (.iconst 1, 1) := by decide +kernel
theorem d_AL_add2_6 : decode b_AL_add2 6 = .ok (.iadd, 1) := by decide +kernel
theorem d_AL_add2_7 : decode b_AL_add2 7 = .ok (.putfield 63, 3) := by decide +kernel
theorem d_AL_add2_10 : decode b_AL_add2 10 = .ok (.aload_n 0, 1) := by decide +kernel
theorem d_AL_add2_11 : decode b_AL_add2 11 = .ok (.aload_n 1, 1) := by decide +kernel
theorem d_AL_add2_12 : decode b_AL_add2 12 = .ok (.aload_n 0, 1) := by decide +kernel
theorem d_AL_add2_13 : decode b_AL_add2 13 = .ok (.getfield 9, 3) := by decide +kernel
theorem d_AL_add2_16 : decode b_AL_add2 16 = .ok (.aload_n 0, 1) := by decide +kernel
theorem d_AL_add2_17 : decode b_AL_add2 17 = .ok (.getfield 48, 3) := by decide +kernel
theorem d_AL_add2_20 : decode b_AL_add2 20 = .ok (.invokevirtual 131, 3) := by decide +kernel
theorem d_AL_add2_23 : decode b_AL_add2 23 = .ok (.iconst 1, 1) := by decide +kernel
theorem d_AL_add2_24 : decode b_AL_add2 24 = .ok (.ireturn, 1) := by decide +kernel
end
section
set_option maxHeartbeats 4000000 in
set_option maxRecDepth 100000 in
theorem c_AL_growIK (l : Launch) (G : gw_G) (M : gw_M) (a : Nat) (hf_a : M a = some (5, .inr (4, [.int (0 + 1), .ref (G.2.2.1 0), .int 0]))) : Met l y_AL_grow [.code y_AL_grow b_AL_grow 4 (some (.array (.object "java/lang/Object")))] ({ frames := 1, cells := 1, slots := 10, locals := 14 }) (gw_Pc G M [.ref a, .int (0 + 1)]) (gw_Qr G (fun r M2 => ∃ (ar : Nat), ar = r ∧ M2 a = some (5, .inr (4, [.int (0 + 1), .ref ar, .int 0])) ∧ M2 ar = some (7, .inl (G.2.1 1, 10, .inr (.inr (.inr (.inr (fun _ => none)))))) ∧ gw_fr (gw_out [5, 7]) M M2)) 1 10 (gw_A G) := by
  refine gw_start (by decide) (Nat.le_of_ble_eq_true rfl) (fun p9 e9 s m b9 mt9 c9 hx hb hr hml hown hlocks hin hE hB hW ls hl => ?_)
  have hts := hE.ts ([.ref a, .int (0 + 1)] : List Value).toArray
  have hl : lv_has ls 4 [(0, .ref a), (1, .int (0 + 1))] := hl
  have hS : va_S (gw_A G) s.heap s.heap [] := va_S.rf
  have hown : s.vm.findClass "java/util/ArrayList" = some m.cls := hown
  refine lv_aload_n hx hb d_AL_grow_0 rfl (lv_at hl 0 rfl) ?_
  refine gw_get (ci := 4) (fs := [.int (0 + 1), .ref (G.2.2.1 0), .int 0]) hx hb hts in_AL hown hE.K hW hf_a rfl 1 (by decide) (hts _ mw16) (fun _ h9 => h9) rfl d_AL_grow_1 ?_
  refine va_tlen (v := 0) hx hb hE.2.2.2.1 hS rfl d_AL_grow_4 ?_
  refine lv_istore_n (lv' := [(2, .int 0), (0, .ref a), (1, .int (0 + 1))]) hx hb d_AL_grow_5 rfl hl (by decide) rfl (fun ls hl => ?_)
  refine lv_iload_n hx hb d_AL_grow_6 rfl (lv_at hl 0 rfl) ?_
  refine lv_if_gt (tgt := 20) hx hb d_AL_grow_7 (by decide) (fun c7 => ?_) (fun c7 => ?_)
  · exact absurd c7 (by decide)
  · refine lv_aload_n hx hb d_AL_grow_10 rfl (lv_at hl 1 rfl) ?_
    refine gw_get (ci := 4) (fs := [.int (0 + 1), .ref (G.2.2.1 0), .int 0]) hx hb hts in_AL hown hE.K hW hf_a rfl 1 (by decide) (hts _ mw16) (fun _ h9 => h9) rfl d_AL_grow_11 ?_
    refine va_gets hx hb hE.2.2.1 hS hown (hts _ mw15) (fun _ h9 => h9) d_AL_grow_14 ?_
    refine lv_acmp_eq (rx := some (G.2.2.1 0)) (ry := some (G.2.2.1 0)) (tgt := 45) hx hb d_AL_grow_17 (by decide) (fun c17 => ?_) (fun c17 => ?_)
    · refine lv_aload_n hx hb d_AL_grow_45 rfl (lv_at hl 1 rfl) ?_
      refine lv_bipush (v := 10) hx hb d_AL_grow_46 (by decide) ?_
      refine lv_iload_n hx hb d_AL_grow_48 rfl (lv_at hl 2 rfl) ?_
      refine va_mmax (x := 10) (y := 0 + 1) hx hb (hml.trans hl.1.symm) hown (hts _ mw61) (hts _ mw50) (hts _ mw47) (hts _ mw51) (Nat.le_of_ble_eq_true rfl) (Nat.le_of_ble_eq_true rfl) (Nat.le_of_ble_eq_true rfl) (Nat.le_of_ble_eq_true rfl) d_AL_grow_49 ?_
      refine gw_newq (N' := 10) hx hb hown (hts _ mw62) hE.2.2.2.2.2.2.2.2.2 hE.K hW hS hB (by decide) (by decide) (Nat.le_of_ble_eq_true rfl) (Nat.le_of_ble_eq_true rfl) (Nat.le_of_ble_eq_true rfl) d_AL_grow_52 1 rfl 7 (fun q1 H hq2 hW hS => ?_)
      refine W.widen (k := 1) (n := 10) (Nat.le_refl _) (Nat.le_refl _) ?_
      have hF3 : gw_fr (gw_out [5, 7]) M (gw_up M q1 7 (.inl (G.2.1 1, 10, .inr (.inr (.inr (.inr (fun _ => none))))))) := gw_fr.new gw_fr.rf hq2 (show ¬ ((gw_out [5, 7]) 7) by decide)
      obtain ⟨M4, eM4⟩ : ∃ z, z = gw_up M q1 7 (.inl (G.2.1 1, 10, .inr (.inr (.inr (.inr (fun _ => none)))))) := ⟨_, rfl⟩
      replace hW : gw_P G.1 vwCl G.2.2.2 M4 H := by rw [eM4]; exact hW
      have hf_a : M4 a = some (5, .inr (4, [.int (0 + 1), .ref (G.2.2.1 0), .int 0])) := by rw [eM4]; exact gw_keepN hf_a hq2
      have hf_q1 : M4 q1 = some (7, .inl (G.2.1 1, 10, .inr (.inr (.inr (.inr (fun _ => none)))))) := by rw [eM4]; exact gw_up_self _ _ _ _
      rw [← eM4] at hF3
      refine lv_dup_x1 hx hb d_AL_grow_55 rfl rfl ?_
      refine gw_put (ci := 4) (fs := [.int (0 + 1), .ref (G.2.2.1 0), .int 0]) (v := .ref q1) (ty := .array (.object "java/lang/Object")) hx hb hts in_AL t_AL t_AL_ok n_AL hown hE.K hW hS hf_a rfl 1 (by decide) (hts _ mw16) (fun _ h9 => h9) rfl (by decide +kernel) rfl rfl (Nat.le_of_ble_eq_true rfl) d_AL_grow_56 (fun H locs hW hS => ?_)
      have hF5 : gw_fr (gw_out [5, 7]) M (gw_up M4 a 5 (.inr (4, [.int (0 + 1), .ref q1, .int 0]))) := gw_fr.up hF3 hf_a (show ¬ ((gw_out [5, 7]) 5) by decide) (show ¬ ((gw_out [5, 7]) 5) by decide)
      obtain ⟨M6, eM6⟩ : ∃ z, z = gw_up M4 a 5 (.inr (4, [.int (0 + 1), .ref q1, .int 0])) := ⟨_, rfl⟩
      replace hW : gw_P G.1 vwCl G.2.2.2 M6 H := by rw [eM6]; exact hW
      have hf_q1 : M6 q1 = some (7, .inl (G.2.1 1, 10, .inr (.inr (.inr (.inr (fun _ => none)))))) := by rw [eM6]; exact gw_keep hf_q1 hf_a (by decide)
      have hf_a : M6 a = some (5, .inr (4, [.int (0 + 1), .ref q1, .int 0])) := by rw [eM6]; exact gw_up_self _ _ _ _
      rw [← eM6] at hF5
      exact gw_aret hx hb hr hlocks (Or.inr ⟨_, rfl⟩) hS hW (Nat.le_of_ble_eq_true rfl) (Nat.le_of_ble_eq_true rfl) d_AL_grow_59 (⟨q1, rfl, hf_a, hf_q1, hF5⟩)
    · exact absurd rfl c17

set_option maxHeartbeats 4000000 in
set_option maxRecDepth 100000 in
theorem c_AL_growK (l : Launch) (G : gw_G) (M : gw_M) (a : Nat) (hf_a : M a = some (5, .inr (4, [.int (0 + 1), .ref (G.2.2.1 0), .int 0]))) : Met l y_AL_grow2 [.code y_AL_grow2 b_AL_grow2 1 (some (.array (.object "java/lang/Object")))] ({ frames := 2, cells := 1, slots := 10, locals := 37 }) (gw_Pc G M [.ref a]) (gw_Qr G (fun r M2 => ∃ (ar : Nat), ar = r ∧ M2 a = some (5, .inr (4, [.int (0 + 1), .ref ar, .int 0])) ∧ M2 ar = some (7, .inl (G.2.1 1, 10, .inr (.inr (.inr (.inr (fun _ => none)))))) ∧ gw_fr (gw_out [5, 7]) M M2)) 1 10 (gw_A G) := by
  refine gw_start (by decide) (Nat.le_of_ble_eq_true rfl) (fun p9 e9 s m b9 mt9 c9 hx hb hr hml hown hlocks hin hE hB hW ls hl => ?_)
  have hts := hE.ts ([.ref a] : List Value).toArray
  have hl : lv_has ls 1 [(0, .ref a)] := hl
  have hS : va_S (gw_A G) s.heap s.heap [] := va_S.rf
  have hown : s.vm.findClass "java/util/ArrayList" = some m.cls := hown
  refine lv_aload_n hx hb d_AL_grow2_0 rfl (lv_at hl 0 rfl) ?_
  refine lv_aload_n hx hb d_AL_grow2_1 rfl (lv_at hl 0 rfl) ?_
  refine gw_get (ci := 4) (fs := [.int (0 + 1), .ref (G.2.2.1 0), .int 0]) hx hb hts in_AL hown hE.K hW hf_a rfl 2 (by decide) (hts _ mw54) (fun _ h9 => h9) rfl d_AL_grow2_2 ?_
  refine lv_iconst (v := 1) hx hb d_AL_grow2_5 (by decide) ?_
  refine lv_iadd hx hb d_AL_grow2_6 ?_
  refine gw_callr hS (va_runV (As := [.int (0 + 1)]) (rest := []) ⟨hx, hb, hml, hown, hts⟩ (c_AL_growIK l G M a hf_a ) (cwV 1 hts (gw_gv mw64 mw65 mw66 mw31 mw63) rfl rfl rfl (by decide +kernel) ⟨Nat.le_of_ble_eq_true rfl, Nat.le_of_ble_eq_true rfl⟩) (gw_pv hE hB hS hW rfl hf_a) rfl rfl hl.1 rfl (lv_room (Nat.le_of_ble_eq_true rfl)) d_AL_grow2_7 ⟨Nat.le_of_ble_eq_true rfl, Nat.le_of_ble_eq_true rfl⟩) (fun r1 M2 H locs hw3 hW hS => ?_)
  refine W.widen (k := 1) (n := 10) (Nat.le_refl _) (Nat.le_refl _) ?_
  obtain ⟨ar4, rfl, hf_a', hf_ar4', hfr5⟩ := hw3
  have hf_a : M2 a = some (5, .inr (4, [.int (0 + 1), .ref ar4, .int 0])) := hf_a'
  have hf_ar4 : M2 ar4 = some (7, .inl (G.2.1 1, 10, .inr (.inr (.inr (.inr (fun _ => none)))))) := hf_ar4'
  have hF6 : gw_fr (gw_out [5, 7]) M M2 := gw_fr.tr gw_fr.rf (gw_fr.wk hfr5 (by decide))
  exact gw_aret hx hb hr hlocks (Or.inr ⟨_, rfl⟩) hS hW (Nat.le_of_ble_eq_true rfl) (Nat.le_of_ble_eq_true rfl) d_AL_grow2_10 (⟨ar4, rfl, hf_a, hf_ar4, hF6⟩)

set_option maxHeartbeats 4000000 in
set_option maxRecDepth 100000 in
theorem c_AL_add3K (l : Launch) (G : gw_G) (M : gw_M) (a : Nat) (g : Nat) (k : Int32) (hf_a : M a = some (5, .inr (4, [.int (0 + 1), .ref (G.2.2.1 0), .int 0]))) (hf_g : M g = some (9, .inr (2, [.int k, .int 0, .int 0, .int 0, .int 0]))) : Met l y_AL_add [.code y_AL_add b_AL_add 4 none] ({ frames := 3, cells := 1, slots := 10, locals := 57 }) (gw_Pc G M [.ref a, .ref g, .ref (G.2.2.1 0), .int 0]) (gw_Qv G (fun M2 => ∃ (ar : Nat), M2 a = some (5, .inr (4, [.int (0 + 1), .ref ar, .int (0 + 1)])) ∧ M2 ar = some (7, .inl (G.2.1 1, 10, .inr (.inr (.inr (.inr (va_up (fun _ => none) (0 : Int32).toNatClampNeg (some g))))))) ∧ gw_fr (gw_out [5, 7]) M M2)) 1 10 (gw_A G) := by
  refine gw_start (by decide) (Nat.le_of_ble_eq_true rfl) (fun p9 e9 s m b9 mt9 c9 hx hb hr hml hown hlocks hin hE hB hW ls hl => ?_)
  have hts := hE.ts ([.ref a, .ref g, .ref (G.2.2.1 0), .int 0] : List Value).toArray
  have hl : lv_has ls 4 [(0, .ref a), (1, .ref g), (2, .ref (G.2.2.1 0)), (3, .int 0)] := hl
  have hS : va_S (gw_A G) s.heap s.heap [] := va_S.rf
  have hown : s.vm.findClass "java/util/ArrayList" = some m.cls := hown
  refine lv_iload_n hx hb d_AL_add_0 rfl (lv_at hl 3 rfl) ?_
  refine lv_aload_n hx hb d_AL_add_1 rfl (lv_at hl 2 rfl) ?_
  refine va_tlen (v := 0) hx hb hE.2.2.2.1 hS rfl d_AL_add_2 ?_
  refine lv_icmp_ne (tgt := 11) hx hb d_AL_add_3 (by decide) (fun c3 => ?_) (fun c3 => ?_)
  · exact absurd c3 (by decide)
  · refine lv_aload_n hx hb d_AL_add_6 rfl (lv_at hl 0 rfl) ?_
    refine gw_callr hS (va_runV (As := []) (rest := []) ⟨hx, hb, hml, hown, hts⟩ (c_AL_growK l G M a hf_a ) (cwV 0 hts (gw_gv mw68 mw69 mw70 mw31 mw67) rfl rfl rfl (by decide +kernel) ⟨Nat.le_of_ble_eq_true rfl, Nat.le_of_ble_eq_true rfl⟩) (gw_pv hE hB hS hW rfl hf_a) rfl rfl hl.1 rfl (lv_room (Nat.le_of_ble_eq_true rfl)) d_AL_add_7 ⟨Nat.le_of_ble_eq_true rfl, Nat.le_of_ble_eq_true rfl⟩) (fun r1 M2 H locs hw3 hW hS => ?_)
    refine W.widen (k := 1) (n := 10) (Nat.le_refl _) (Nat.le_refl _) ?_
    obtain ⟨ar4, rfl, hf_a', hf_ar4', hfr5⟩ := hw3
    have hf_g : M2 g = some (9, .inr (2, [.int k, .int 0, .int 0, .int 0, .int 0])) := (hfr5 _ _ _ (by decide)).mp hf_g
    have hf_a : M2 a = some (5, .inr (4, [.int (0 + 1), .ref ar4, .int 0])) := hf_a'
    have hf_ar4 : M2 ar4 = some (7, .inl (G.2.1 1, 10, .inr (.inr (.inr (.inr (fun _ => none)))))) := hf_ar4'
    have hF6 : gw_fr (gw_out [5, 7]) M M2 := gw_fr.tr gw_fr.rf (gw_fr.wk hfr5 (by decide))
    refine lv_astore_n (lv' := [(2, .ref ar4), (0, .ref a), (1, .ref g), (3, .int 0)]) hx hb d_AL_add_10 rfl hl (by decide) rfl (fun ls hl => ?_)
    refine lv_aload_n hx hb d_AL_add_11 rfl (lv_at hl 0 rfl) ?_
    refine lv_iload_n hx hb d_AL_add_12 rfl (lv_at hl 3 rfl) ?_
    refine lv_aload_n hx hb d_AL_add_13 rfl (lv_at hl 2 rfl) ?_
    refine gw_aastO (i := 0) (v := g) hx hb hE.K hW hS 1 2 hf_ar4 rfl (hE.nw mw71) hf_g rfl (show ¬ ((0 : Int32) < 0 ∨ 10 ≤ (0 : Int32).toNatClampNeg) by decide) d_AL_add_14 (fun H locs hW hS => ?_)
    have hF7 : gw_fr (gw_out [5, 7]) M (gw_up M2 ar4 7 (.inl (G.2.1 1, 10, .inr (.inr (.inr (.inr (va_up (fun _ => none) (0 : Int32).toNatClampNeg (some g)))))))) := gw_fr.up hF6 hf_ar4 (show ¬ ((gw_out [5, 7]) 7) by decide) (show ¬ ((gw_out [5, 7]) 7) by decide)
    obtain ⟨M8, eM8⟩ : ∃ z, z = gw_up M2 ar4 7 (.inl (G.2.1 1, 10, .inr (.inr (.inr (.inr (va_up (fun _ => none) (0 : Int32).toNatClampNeg (some g))))))) := ⟨_, rfl⟩
    replace hW : gw_P G.1 vwCl G.2.2.2 M8 H := by rw [eM8]; exact hW
    have hf_a : M8 a = some (5, .inr (4, [.int (0 + 1), .ref ar4, .int 0])) := by rw [eM8]; exact gw_keep hf_a hf_ar4 (by decide)
    have hf_g : M8 g = some (9, .inr (2, [.int k, .int 0, .int 0, .int 0, .int 0])) := by rw [eM8]; exact gw_keep hf_g hf_ar4 (by decide)
    have hf_ar4 : M8 ar4 = some (7, .inl (G.2.1 1, 10, .inr (.inr (.inr (.inr (va_up (fun _ => none) (0 : Int32).toNatClampNeg (some g))))))) := by rw [eM8]; exact gw_up_self _ _ _ _
    rw [← eM8] at hF7
    refine lv_aload_n hx hb d_AL_add_15 rfl (lv_at hl 1 rfl) ?_
    refine lv_iload_n hx hb d_AL_add_16 rfl (lv_at hl 3 rfl) ?_
    refine lv_iconst (v := 1) hx hb d_AL_add_17 (by decide) ?_
    refine lv_iadd hx hb d_AL_add_18 ?_
    refine gw_put (ci := 4) (fs := [.int (0 + 1), .ref ar4, .int 0]) (v := .int (0 + 1)) (ty := .int) hx hb hts in_AL t_AL t_AL_ok n_AL hown hE.K hW hS hf_a rfl 2 (by decide) (hts _ mw54) (fun _ h9 => h9) rfl (by decide +kernel) rfl rfl (Nat.le_of_ble_eq_true rfl) d_AL_add_19 (fun H locs hW hS => ?_)
    have hF9 : gw_fr (gw_out [5, 7]) M (gw_up M8 a 5 (.inr (4, [.int (0 + 1), .ref ar4, .int (0 + 1)]))) := gw_fr.up hF7 hf_a (show ¬ ((gw_out [5, 7]) 5) by decide) (show ¬ ((gw_out [5, 7]) 5) by decide)
    obtain ⟨M10, eM10⟩ : ∃ z, z = gw_up M8 a 5 (.inr (4, [.int (0 + 1), .ref ar4, .int (0 + 1)])) := ⟨_, rfl⟩
    replace hW : gw_P G.1 vwCl G.2.2.2 M10 H := by rw [eM10]; exact hW
    have hf_g : M10 g = some (9, .inr (2, [.int k, .int 0, .int 0, .int 0, .int 0])) := by rw [eM10]; exact gw_keep hf_g hf_a (by decide)
    have hf_ar4 : M10 ar4 = some (7, .inl (G.2.1 1, 10, .inr (.inr (.inr (.inr (va_up (fun _ => none) (0 : Int32).toNatClampNeg (some g))))))) := by rw [eM10]; exact gw_keep hf_ar4 hf_a (by decide)
    have hf_a : M10 a = some (5, .inr (4, [.int (0 + 1), .ref ar4, .int (0 + 1)])) := by rw [eM10]; exact gw_up_self _ _ _ _
    rw [← eM10] at hF9
    exact gw_vret hx hb hr hlocks hS hW (Nat.le_of_ble_eq_true rfl) (Nat.le_of_ble_eq_true rfl) d_AL_add_22 (⟨ar4, hf_a, hf_ar4, hF9⟩)

set_option maxHeartbeats 4000000 in
set_option maxRecDepth 100000 in
theorem c_AL_addK (l : Launch) (G : gw_G) (M : gw_M) (a : Nat) (g : Nat) (k : Int32) (hf_a : M a = some (5, .inr (4, [.int 0, .ref (G.2.2.1 0), .int 0]))) (hf_g : M g = some (9, .inr (2, [.int k, .int 0, .int 0, .int 0, .int 0]))) : Met l y_AL_add2 [.code y_AL_add2 b_AL_add2 2 (some .boolean)] ({ frames := 4, cells := 1, slots := 10, locals := 80 }) (gw_Pc G M [.ref a, .ref g]) (gw_Qi G (fun r M2 => ∃ (ar : Nat), 1 = r ∧ M2 a = some (5, .inr (4, [.int (0 + 1), .ref ar, .int (0 + 1)])) ∧ M2 ar = some (7, .inl (G.2.1 1, 10, .inr (.inr (.inr (.inr (va_up (fun _ => none) (0 : Int32).toNatClampNeg (some g))))))) ∧ gw_fr (gw_out [5, 7]) M M2)) 1 10 (gw_A G) := by
  refine gw_start (by decide) (Nat.le_of_ble_eq_true rfl) (fun p9 e9 s m b9 mt9 c9 hx hb hr hml hown hlocks hin hE hB hW ls hl => ?_)
  have hts := hE.ts ([.ref a, .ref g] : List Value).toArray
  have hl : lv_has ls 2 [(0, .ref a), (1, .ref g)] := hl
  have hS : va_S (gw_A G) s.heap s.heap [] := va_S.rf
  have hown : s.vm.findClass "java/util/ArrayList" = some m.cls := hown
  refine lv_aload_n hx hb d_AL_add2_0 rfl (lv_at hl 0 rfl) ?_
  refine lv_dup hx hb d_AL_add2_1 rfl ?_
  refine gw_get (ci := 4) (fs := [.int 0, .ref (G.2.2.1 0), .int 0]) hx hb hts in_AL hown hE.K hW hf_a rfl 0 (by decide) (hts _ mw73) (fun x h9 => u_same (hts _ mw72) x h9) rfl d_AL_add2_2 ?_
  refine lv_iconst (v := 1) hx hb d_AL_add2_5 (by decide) ?_
  refine lv_iadd hx hb d_AL_add2_6 ?_
  refine gw_put (ci := 4) (fs := [.int 0, .ref (G.2.2.1 0), .int 0]) (v := .int (0 + 1)) (ty := .int) hx hb hts in_AL t_AL t_AL_ok n_AL hown hE.K hW hS hf_a rfl 0 (by decide) (hts _ mw73) (fun x h9 => u_same (hts _ mw72) x h9) rfl (by decide +kernel) rfl rfl (Nat.le_of_ble_eq_true rfl) d_AL_add2_7 (fun H locs hW hS => ?_)
  have hF1 : gw_fr (gw_out [5, 7]) M (gw_up M a 5 (.inr (4, [.int (0 + 1), .ref (G.2.2.1 0), .int 0]))) := gw_fr.up gw_fr.rf hf_a (show ¬ ((gw_out [5, 7]) 5) by decide) (show ¬ ((gw_out [5, 7]) 5) by decide)
  obtain ⟨M2, eM2⟩ : ∃ z, z = gw_up M a 5 (.inr (4, [.int (0 + 1), .ref (G.2.2.1 0), .int 0])) := ⟨_, rfl⟩
  replace hW : gw_P G.1 vwCl G.2.2.2 M2 H := by rw [eM2]; exact hW
  have hf_g : M2 g = some (9, .inr (2, [.int k, .int 0, .int 0, .int 0, .int 0])) := by rw [eM2]; exact gw_keep hf_g hf_a (by decide)
  have hf_a : M2 a = some (5, .inr (4, [.int (0 + 1), .ref (G.2.2.1 0), .int 0])) := by rw [eM2]; exact gw_up_self _ _ _ _
  rw [← eM2] at hF1
  refine lv_aload_n hx hb d_AL_add2_10 rfl (lv_at hl 0 rfl) ?_
  refine lv_aload_n hx hb d_AL_add2_11 rfl (lv_at hl 1 rfl) ?_
  refine lv_aload_n hx hb d_AL_add2_12 rfl (lv_at hl 0 rfl) ?_
  refine gw_get (ci := 4) (fs := [.int (0 + 1), .ref (G.2.2.1 0), .int 0]) hx hb hts in_AL hown hE.K hW hf_a rfl 1 (by decide) (hts _ mw16) (fun _ h9 => h9) rfl d_AL_add2_13 ?_
  refine lv_aload_n hx hb d_AL_add2_16 rfl (lv_at hl 0 rfl) ?_
  refine gw_get (ci := 4) (fs := [.int (0 + 1), .ref (G.2.2.1 0), .int 0]) hx hb hts in_AL hown hE.K hW hf_a rfl 2 (by decide) (hts _ mw54) (fun _ h9 => h9) rfl d_AL_add2_17 ?_
  refine gw_callv hS (va_runV (As := [.ref g, .ref (G.2.2.1 0), .int 0]) (rest := []) ⟨hx, hb, hml, hown, hts⟩ (c_AL_add3K l G M2 a g k hf_a hf_g ) (cwV 3 hts (gw_gv mw75 mw76 mw77 mw31 mw74) rfl rfl rfl (by decide +kernel) ⟨Nat.le_of_ble_eq_true rfl, Nat.le_of_ble_eq_true rfl⟩) (gw_pv hE hB hS hW rfl hf_a) rfl rfl hl.1 rfl (lv_room (Nat.le_of_ble_eq_true rfl)) d_AL_add2_20 ⟨Nat.le_of_ble_eq_true rfl, Nat.le_of_ble_eq_true rfl⟩) (fun M4 H locs hw5 hW hS => ?_)
  refine W.widen (k := 1) (n := 10) (Nat.le_refl _) (Nat.le_refl _) ?_
  obtain ⟨ar6, hf_a', hf_ar6', hfr7⟩ := hw5
  have hf_g : M4 g = some (9, .inr (2, [.int k, .int 0, .int 0, .int 0, .int 0])) := (hfr7 _ _ _ (by decide)).mp hf_g
  have hf_a : M4 a = some (5, .inr (4, [.int (0 + 1), .ref ar6, .int (0 + 1)])) := hf_a'
  have hf_ar6 : M4 ar6 = some (7, .inl (G.2.1 1, 10, .inr (.inr (.inr (.inr (va_up (fun _ => none) (0 : Int32).toNatClampNeg (some g))))))) := hf_ar6'
  have hF8 : gw_fr (gw_out [5, 7]) M M4 := gw_fr.tr hF1 (gw_fr.wk hfr7 (by decide))
  refine lv_iconst (v := 1) hx hb d_AL_add2_23 (by decide) ?_
  exact gw_zret hx hb hr hlocks rfl hS hW (Nat.le_of_ble_eq_true rfl) (Nat.le_of_ble_eq_true rfl) d_AL_add2_24 (⟨ar6, rfl, hf_a, hf_ar6, hF8⟩)

set_option maxHeartbeats 4000000 in
set_option maxRecDepth 100000 in
theorem c_AL_growIJ (l : Launch) (G : gw_G) (M : gw_M) (a : Nat) (hf_a : M a = some (4, .inr (4, [.int (0 + 1), .ref (G.2.2.1 0), .int 0]))) : Met l y_AL_grow [.code y_AL_grow b_AL_grow 4 (some (.array (.object "java/lang/Object")))] ({ frames := 1, cells := 1, slots := 10, locals := 14 }) (gw_Pc G M [.ref a, .int (0 + 1)]) (gw_Qr G (fun r M2 => ∃ (ar : Nat), ar = r ∧ M2 a = some (4, .inr (4, [.int (0 + 1), .ref ar, .int 0])) ∧ M2 ar = some (6, .inl (G.2.1 1, 10, .inr (.inr (.inr (.inr (fun _ => none)))))) ∧ gw_fr (gw_out [4, 6]) M M2)) 1 10 (gw_A G) := by
  refine gw_start (by decide) (Nat.le_of_ble_eq_true rfl) (fun p9 e9 s m b9 mt9 c9 hx hb hr hml hown hlocks hin hE hB hW ls hl => ?_)
  have hts := hE.ts ([.ref a, .int (0 + 1)] : List Value).toArray
  have hl : lv_has ls 4 [(0, .ref a), (1, .int (0 + 1))] := hl
  have hS : va_S (gw_A G) s.heap s.heap [] := va_S.rf
  have hown : s.vm.findClass "java/util/ArrayList" = some m.cls := hown
  refine lv_aload_n hx hb d_AL_grow_0 rfl (lv_at hl 0 rfl) ?_
  refine gw_get (ci := 4) (fs := [.int (0 + 1), .ref (G.2.2.1 0), .int 0]) hx hb hts in_AL hown hE.K hW hf_a rfl 1 (by decide) (hts _ mw16) (fun _ h9 => h9) rfl d_AL_grow_1 ?_
  refine va_tlen (v := 0) hx hb hE.2.2.2.1 hS rfl d_AL_grow_4 ?_
  refine lv_istore_n (lv' := [(2, .int 0), (0, .ref a), (1, .int (0 + 1))]) hx hb d_AL_grow_5 rfl hl (by decide) rfl (fun ls hl => ?_)
  refine lv_iload_n hx hb d_AL_grow_6 rfl (lv_at hl 0 rfl) ?_
  refine lv_if_gt (tgt := 20) hx hb d_AL_grow_7 (by decide) (fun c7 => ?_) (fun c7 => ?_)
  · exact absurd c7 (by decide)
  · refine lv_aload_n hx hb d_AL_grow_10 rfl (lv_at hl 1 rfl) ?_
    refine gw_get (ci := 4) (fs := [.int (0 + 1), .ref (G.2.2.1 0), .int 0]) hx hb hts in_AL hown hE.K hW hf_a rfl 1 (by decide) (hts _ mw16) (fun _ h9 => h9) rfl d_AL_grow_11 ?_
    refine va_gets hx hb hE.2.2.1 hS hown (hts _ mw15) (fun _ h9 => h9) d_AL_grow_14 ?_
    refine lv_acmp_eq (rx := some (G.2.2.1 0)) (ry := some (G.2.2.1 0)) (tgt := 45) hx hb d_AL_grow_17 (by decide) (fun c17 => ?_) (fun c17 => ?_)
    · refine lv_aload_n hx hb d_AL_grow_45 rfl (lv_at hl 1 rfl) ?_
      refine lv_bipush (v := 10) hx hb d_AL_grow_46 (by decide) ?_
      refine lv_iload_n hx hb d_AL_grow_48 rfl (lv_at hl 2 rfl) ?_
      refine va_mmax (x := 10) (y := 0 + 1) hx hb (hml.trans hl.1.symm) hown (hts _ mw61) (hts _ mw50) (hts _ mw47) (hts _ mw51) (Nat.le_of_ble_eq_true rfl) (Nat.le_of_ble_eq_true rfl) (Nat.le_of_ble_eq_true rfl) (Nat.le_of_ble_eq_true rfl) d_AL_grow_49 ?_
      refine gw_newq (N' := 10) hx hb hown (hts _ mw62) hE.2.2.2.2.2.2.2.2.2 hE.K hW hS hB (by decide) (by decide) (Nat.le_of_ble_eq_true rfl) (Nat.le_of_ble_eq_true rfl) (Nat.le_of_ble_eq_true rfl) d_AL_grow_52 1 rfl 6 (fun q1 H hq2 hW hS => ?_)
      refine W.widen (k := 1) (n := 10) (Nat.le_refl _) (Nat.le_refl _) ?_
      have hF3 : gw_fr (gw_out [4, 6]) M (gw_up M q1 6 (.inl (G.2.1 1, 10, .inr (.inr (.inr (.inr (fun _ => none))))))) := gw_fr.new gw_fr.rf hq2 (show ¬ ((gw_out [4, 6]) 6) by decide)
      obtain ⟨M4, eM4⟩ : ∃ z, z = gw_up M q1 6 (.inl (G.2.1 1, 10, .inr (.inr (.inr (.inr (fun _ => none)))))) := ⟨_, rfl⟩
      replace hW : gw_P G.1 vwCl G.2.2.2 M4 H := by rw [eM4]; exact hW
      have hf_a : M4 a = some (4, .inr (4, [.int (0 + 1), .ref (G.2.2.1 0), .int 0])) := by rw [eM4]; exact gw_keepN hf_a hq2
      have hf_q1 : M4 q1 = some (6, .inl (G.2.1 1, 10, .inr (.inr (.inr (.inr (fun _ => none)))))) := by rw [eM4]; exact gw_up_self _ _ _ _
      rw [← eM4] at hF3
      refine lv_dup_x1 hx hb d_AL_grow_55 rfl rfl ?_
      refine gw_put (ci := 4) (fs := [.int (0 + 1), .ref (G.2.2.1 0), .int 0]) (v := .ref q1) (ty := .array (.object "java/lang/Object")) hx hb hts in_AL t_AL t_AL_ok n_AL hown hE.K hW hS hf_a rfl 1 (by decide) (hts _ mw16) (fun _ h9 => h9) rfl (by decide +kernel) rfl rfl (Nat.le_of_ble_eq_true rfl) d_AL_grow_56 (fun H locs hW hS => ?_)
      have hF5 : gw_fr (gw_out [4, 6]) M (gw_up M4 a 4 (.inr (4, [.int (0 + 1), .ref q1, .int 0]))) := gw_fr.up hF3 hf_a (show ¬ ((gw_out [4, 6]) 4) by decide) (show ¬ ((gw_out [4, 6]) 4) by decide)
      obtain ⟨M6, eM6⟩ : ∃ z, z = gw_up M4 a 4 (.inr (4, [.int (0 + 1), .ref q1, .int 0])) := ⟨_, rfl⟩
      replace hW : gw_P G.1 vwCl G.2.2.2 M6 H := by rw [eM6]; exact hW
      have hf_q1 : M6 q1 = some (6, .inl (G.2.1 1, 10, .inr (.inr (.inr (.inr (fun _ => none)))))) := by rw [eM6]; exact gw_keep hf_q1 hf_a (by decide)
      have hf_a : M6 a = some (4, .inr (4, [.int (0 + 1), .ref q1, .int 0])) := by rw [eM6]; exact gw_up_self _ _ _ _
      rw [← eM6] at hF5
      exact gw_aret hx hb hr hlocks (Or.inr ⟨_, rfl⟩) hS hW (Nat.le_of_ble_eq_true rfl) (Nat.le_of_ble_eq_true rfl) d_AL_grow_59 (⟨q1, rfl, hf_a, hf_q1, hF5⟩)
    · exact absurd rfl c17

set_option maxHeartbeats 4000000 in
set_option maxRecDepth 100000 in
theorem c_AL_growJ (l : Launch) (G : gw_G) (M : gw_M) (a : Nat) (hf_a : M a = some (4, .inr (4, [.int (0 + 1), .ref (G.2.2.1 0), .int 0]))) : Met l y_AL_grow2 [.code y_AL_grow2 b_AL_grow2 1 (some (.array (.object "java/lang/Object")))] ({ frames := 2, cells := 1, slots := 10, locals := 37 }) (gw_Pc G M [.ref a]) (gw_Qr G (fun r M2 => ∃ (ar : Nat), ar = r ∧ M2 a = some (4, .inr (4, [.int (0 + 1), .ref ar, .int 0])) ∧ M2 ar = some (6, .inl (G.2.1 1, 10, .inr (.inr (.inr (.inr (fun _ => none)))))) ∧ gw_fr (gw_out [4, 6]) M M2)) 1 10 (gw_A G) := by
  refine gw_start (by decide) (Nat.le_of_ble_eq_true rfl) (fun p9 e9 s m b9 mt9 c9 hx hb hr hml hown hlocks hin hE hB hW ls hl => ?_)
  have hts := hE.ts ([.ref a] : List Value).toArray
  have hl : lv_has ls 1 [(0, .ref a)] := hl
  have hS : va_S (gw_A G) s.heap s.heap [] := va_S.rf
  have hown : s.vm.findClass "java/util/ArrayList" = some m.cls := hown
  refine lv_aload_n hx hb d_AL_grow2_0 rfl (lv_at hl 0 rfl) ?_
  refine lv_aload_n hx hb d_AL_grow2_1 rfl (lv_at hl 0 rfl) ?_
  refine gw_get (ci := 4) (fs := [.int (0 + 1), .ref (G.2.2.1 0), .int 0]) hx hb hts in_AL hown hE.K hW hf_a rfl 2 (by decide) (hts _ mw54) (fun _ h9 => h9) rfl d_AL_grow2_2 ?_
  refine lv_iconst (v := 1) hx hb d_AL_grow2_5 (by decide) ?_
  refine lv_iadd hx hb d_AL_grow2_6 ?_
  refine gw_callr hS (va_runV (As := [.int (0 + 1)]) (rest := []) ⟨hx, hb, hml, hown, hts⟩ (c_AL_growIJ l G M a hf_a ) (cwV 1 hts (gw_gv mw64 mw65 mw66 mw31 mw63) rfl rfl rfl (by decide +kernel) ⟨Nat.le_of_ble_eq_true rfl, Nat.le_of_ble_eq_true rfl⟩) (gw_pv hE hB hS hW rfl hf_a) rfl rfl hl.1 rfl (lv_room (Nat.le_of_ble_eq_true rfl)) d_AL_grow2_7 ⟨Nat.le_of_ble_eq_true rfl, Nat.le_of_ble_eq_true rfl⟩) (fun r1 M2 H locs hw3 hW hS => ?_)
  refine W.widen (k := 1) (n := 10) (Nat.le_refl _) (Nat.le_refl _) ?_
  obtain ⟨ar4, rfl, hf_a', hf_ar4', hfr5⟩ := hw3
  have hf_a : M2 a = some (4, .inr (4, [.int (0 + 1), .ref ar4, .int 0])) := hf_a'
  have hf_ar4 : M2 ar4 = some (6, .inl (G.2.1 1, 10, .inr (.inr (.inr (.inr (fun _ => none)))))) := hf_ar4'
  have hF6 : gw_fr (gw_out [4, 6]) M M2 := gw_fr.tr gw_fr.rf (gw_fr.wk hfr5 (by decide))
  exact gw_aret hx hb hr hlocks (Or.inr ⟨_, rfl⟩) hS hW (Nat.le_of_ble_eq_true rfl) (Nat.le_of_ble_eq_true rfl) d_AL_grow2_10 (⟨ar4, rfl, hf_a, hf_ar4, hF6⟩)

set_option maxHeartbeats 4000000 in
set_option maxRecDepth 100000 in
theorem c_AL_add3J (l : Launch) (G : gw_G) (M : gw_M) (a : Nat) (g : Nat) (k : Nat) (hf_a : M a = some (4, .inr (4, [.int (0 + 1), .ref (G.2.2.1 0), .int 0]))) (hf_g : M g = some (10, .inr (3, [.ref k, .int 0]))) : Met l y_AL_add [.code y_AL_add b_AL_add 4 none] ({ frames := 3, cells := 1, slots := 10, locals := 57 }) (gw_Pc G M [.ref a, .ref g, .ref (G.2.2.1 0), .int 0]) (gw_Qv G (fun M2 => ∃ (ar : Nat), M2 a = some (4, .inr (4, [.int (0 + 1), .ref ar, .int (0 + 1)])) ∧ M2 ar = some (6, .inl (G.2.1 1, 10, .inr (.inr (.inr (.inr (va_up (fun _ => none) (0 : Int32).toNatClampNeg (some g))))))) ∧ gw_fr (gw_out [4, 6]) M M2)) 1 10 (gw_A G) := by
  refine gw_start (by decide) (Nat.le_of_ble_eq_true rfl) (fun p9 e9 s m b9 mt9 c9 hx hb hr hml hown hlocks hin hE hB hW ls hl => ?_)
  have hts := hE.ts ([.ref a, .ref g, .ref (G.2.2.1 0), .int 0] : List Value).toArray
  have hl : lv_has ls 4 [(0, .ref a), (1, .ref g), (2, .ref (G.2.2.1 0)), (3, .int 0)] := hl
  have hS : va_S (gw_A G) s.heap s.heap [] := va_S.rf
  have hown : s.vm.findClass "java/util/ArrayList" = some m.cls := hown
  refine lv_iload_n hx hb d_AL_add_0 rfl (lv_at hl 3 rfl) ?_
  refine lv_aload_n hx hb d_AL_add_1 rfl (lv_at hl 2 rfl) ?_
  refine va_tlen (v := 0) hx hb hE.2.2.2.1 hS rfl d_AL_add_2 ?_
  refine lv_icmp_ne (tgt := 11) hx hb d_AL_add_3 (by decide) (fun c3 => ?_) (fun c3 => ?_)
  · exact absurd c3 (by decide)
  · refine lv_aload_n hx hb d_AL_add_6 rfl (lv_at hl 0 rfl) ?_
    refine gw_callr hS (va_runV (As := []) (rest := []) ⟨hx, hb, hml, hown, hts⟩ (c_AL_growJ l G M a hf_a ) (cwV 0 hts (gw_gv mw68 mw69 mw70 mw31 mw67) rfl rfl rfl (by decide +kernel) ⟨Nat.le_of_ble_eq_true rfl, Nat.le_of_ble_eq_true rfl⟩) (gw_pv hE hB hS hW rfl hf_a) rfl rfl hl.1 rfl (lv_room (Nat.le_of_ble_eq_true rfl)) d_AL_add_7 ⟨Nat.le_of_ble_eq_true rfl, Nat.le_of_ble_eq_true rfl⟩) (fun r1 M2 H locs hw3 hW hS => ?_)
    refine W.widen (k := 1) (n := 10) (Nat.le_refl _) (Nat.le_refl _) ?_
    obtain ⟨ar4, rfl, hf_a', hf_ar4', hfr5⟩ := hw3
    have hf_g : M2 g = some (10, .inr (3, [.ref k, .int 0])) := (hfr5 _ _ _ (by decide)).mp hf_g
    have hf_a : M2 a = some (4, .inr (4, [.int (0 + 1), .ref ar4, .int 0])) := hf_a'
    have hf_ar4 : M2 ar4 = some (6, .inl (G.2.1 1, 10, .inr (.inr (.inr (.inr (fun _ => none)))))) := hf_ar4'
    have hF6 : gw_fr (gw_out [4, 6]) M M2 := gw_fr.tr gw_fr.rf (gw_fr.wk hfr5 (by decide))
    refine lv_astore_n (lv' := [(2, .ref ar4), (0, .ref a), (1, .ref g), (3, .int 0)]) hx hb d_AL_add_10 rfl hl (by decide) rfl (fun ls hl => ?_)
    refine lv_aload_n hx hb d_AL_add_11 rfl (lv_at hl 0 rfl) ?_
    refine lv_iload_n hx hb d_AL_add_12 rfl (lv_at hl 3 rfl) ?_
    refine lv_aload_n hx hb d_AL_add_13 rfl (lv_at hl 2 rfl) ?_
    refine gw_aastO (i := 0) (v := g) hx hb hE.K hW hS 1 3 hf_ar4 rfl (hE.nw mw78) hf_g rfl (show ¬ ((0 : Int32) < 0 ∨ 10 ≤ (0 : Int32).toNatClampNeg) by decide) d_AL_add_14 (fun H locs hW hS => ?_)
    have hF7 : gw_fr (gw_out [4, 6]) M (gw_up M2 ar4 6 (.inl (G.2.1 1, 10, .inr (.inr (.inr (.inr (va_up (fun _ => none) (0 : Int32).toNatClampNeg (some g)))))))) := gw_fr.up hF6 hf_ar4 (show ¬ ((gw_out [4, 6]) 6) by decide) (show ¬ ((gw_out [4, 6]) 6) by decide)
    obtain ⟨M8, eM8⟩ : ∃ z, z = gw_up M2 ar4 6 (.inl (G.2.1 1, 10, .inr (.inr (.inr (.inr (va_up (fun _ => none) (0 : Int32).toNatClampNeg (some g))))))) := ⟨_, rfl⟩
    replace hW : gw_P G.1 vwCl G.2.2.2 M8 H := by rw [eM8]; exact hW
    have hf_a : M8 a = some (4, .inr (4, [.int (0 + 1), .ref ar4, .int 0])) := by rw [eM8]; exact gw_keep hf_a hf_ar4 (by decide)
    have hf_g : M8 g = some (10, .inr (3, [.ref k, .int 0])) := by rw [eM8]; exact gw_keep hf_g hf_ar4 (by decide)
    have hf_ar4 : M8 ar4 = some (6, .inl (G.2.1 1, 10, .inr (.inr (.inr (.inr (va_up (fun _ => none) (0 : Int32).toNatClampNeg (some g))))))) := by rw [eM8]; exact gw_up_self _ _ _ _
    rw [← eM8] at hF7
    refine lv_aload_n hx hb d_AL_add_15 rfl (lv_at hl 1 rfl) ?_
    refine lv_iload_n hx hb d_AL_add_16 rfl (lv_at hl 3 rfl) ?_
    refine lv_iconst (v := 1) hx hb d_AL_add_17 (by decide) ?_
    refine lv_iadd hx hb d_AL_add_18 ?_
    refine gw_put (ci := 4) (fs := [.int (0 + 1), .ref ar4, .int 0]) (v := .int (0 + 1)) (ty := .int) hx hb hts in_AL t_AL t_AL_ok n_AL hown hE.K hW hS hf_a rfl 2 (by decide) (hts _ mw54) (fun _ h9 => h9) rfl (by decide +kernel) rfl rfl (Nat.le_of_ble_eq_true rfl) d_AL_add_19 (fun H locs hW hS => ?_)
    have hF9 : gw_fr (gw_out [4, 6]) M (gw_up M8 a 4 (.inr (4, [.int (0 + 1), .ref ar4, .int (0 + 1)]))) := gw_fr.up hF7 hf_a (show ¬ ((gw_out [4, 6]) 4) by decide) (show ¬ ((gw_out [4, 6]) 4) by decide)
    obtain ⟨M10, eM10⟩ : ∃ z, z = gw_up M8 a 4 (.inr (4, [.int (0 + 1), .ref ar4, .int (0 + 1)])) := ⟨_, rfl⟩
    replace hW : gw_P G.1 vwCl G.2.2.2 M10 H := by rw [eM10]; exact hW
    have hf_g : M10 g = some (10, .inr (3, [.ref k, .int 0])) := by rw [eM10]; exact gw_keep hf_g hf_a (by decide)
    have hf_ar4 : M10 ar4 = some (6, .inl (G.2.1 1, 10, .inr (.inr (.inr (.inr (va_up (fun _ => none) (0 : Int32).toNatClampNeg (some g))))))) := by rw [eM10]; exact gw_keep hf_ar4 hf_a (by decide)
    have hf_a : M10 a = some (4, .inr (4, [.int (0 + 1), .ref ar4, .int (0 + 1)])) := by rw [eM10]; exact gw_up_self _ _ _ _
    rw [← eM10] at hF9
    exact gw_vret hx hb hr hlocks hS hW (Nat.le_of_ble_eq_true rfl) (Nat.le_of_ble_eq_true rfl) d_AL_add_22 (⟨ar4, hf_a, hf_ar4, hF9⟩)

set_option maxHeartbeats 4000000 in
set_option maxRecDepth 100000 in
theorem c_AL_addJ (l : Launch) (G : gw_G) (M : gw_M) (a : Nat) (g : Nat) (k : Nat) (hf_a : M a = some (4, .inr (4, [.int 0, .ref (G.2.2.1 0), .int 0]))) (hf_g : M g = some (10, .inr (3, [.ref k, .int 0]))) : Met l y_AL_add2 [.code y_AL_add2 b_AL_add2 2 (some .boolean)] ({ frames := 4, cells := 1, slots := 10, locals := 80 }) (gw_Pc G M [.ref a, .ref g]) (gw_Qi G (fun r M2 => ∃ (ar : Nat), 1 = r ∧ M2 a = some (4, .inr (4, [.int (0 + 1), .ref ar, .int (0 + 1)])) ∧ M2 ar = some (6, .inl (G.2.1 1, 10, .inr (.inr (.inr (.inr (va_up (fun _ => none) (0 : Int32).toNatClampNeg (some g))))))) ∧ gw_fr (gw_out [4, 6]) M M2)) 1 10 (gw_A G) := by
  refine gw_start (by decide) (Nat.le_of_ble_eq_true rfl) (fun p9 e9 s m b9 mt9 c9 hx hb hr hml hown hlocks hin hE hB hW ls hl => ?_)
  have hts := hE.ts ([.ref a, .ref g] : List Value).toArray
  have hl : lv_has ls 2 [(0, .ref a), (1, .ref g)] := hl
  have hS : va_S (gw_A G) s.heap s.heap [] := va_S.rf
  have hown : s.vm.findClass "java/util/ArrayList" = some m.cls := hown
  refine lv_aload_n hx hb d_AL_add2_0 rfl (lv_at hl 0 rfl) ?_
  refine lv_dup hx hb d_AL_add2_1 rfl ?_
  refine gw_get (ci := 4) (fs := [.int 0, .ref (G.2.2.1 0), .int 0]) hx hb hts in_AL hown hE.K hW hf_a rfl 0 (by decide) (hts _ mw73) (fun x h9 => u_same (hts _ mw72) x h9) rfl d_AL_add2_2 ?_
  refine lv_iconst (v := 1) hx hb d_AL_add2_5 (by decide) ?_
  refine lv_iadd hx hb d_AL_add2_6 ?_
  refine gw_put (ci := 4) (fs := [.int 0, .ref (G.2.2.1 0), .int 0]) (v := .int (0 + 1)) (ty := .int) hx hb hts in_AL t_AL t_AL_ok n_AL hown hE.K hW hS hf_a rfl 0 (by decide) (hts _ mw73) (fun x h9 => u_same (hts _ mw72) x h9) rfl (by decide +kernel) rfl rfl (Nat.le_of_ble_eq_true rfl) d_AL_add2_7 (fun H locs hW hS => ?_)
  have hF1 : gw_fr (gw_out [4, 6]) M (gw_up M a 4 (.inr (4, [.int (0 + 1), .ref (G.2.2.1 0), .int 0]))) := gw_fr.up gw_fr.rf hf_a (show ¬ ((gw_out [4, 6]) 4) by decide) (show ¬ ((gw_out [4, 6]) 4) by decide)
  obtain ⟨M2, eM2⟩ : ∃ z, z = gw_up M a 4 (.inr (4, [.int (0 + 1), .ref (G.2.2.1 0), .int 0])) := ⟨_, rfl⟩
  replace hW : gw_P G.1 vwCl G.2.2.2 M2 H := by rw [eM2]; exact hW
  have hf_g : M2 g = some (10, .inr (3, [.ref k, .int 0])) := by rw [eM2]; exact gw_keep hf_g hf_a (by decide)
  have hf_a : M2 a = some (4, .inr (4, [.int (0 + 1), .ref (G.2.2.1 0), .int 0])) := by rw [eM2]; exact gw_up_self _ _ _ _
  rw [← eM2] at hF1
  refine lv_aload_n hx hb d_AL_add2_10 rfl (lv_at hl 0 rfl) ?_
  refine lv_aload_n hx hb d_AL_add2_11 rfl (lv_at hl 1 rfl) ?_
  refine lv_aload_n hx hb d_AL_add2_12 rfl (lv_at hl 0 rfl) ?_
  refine gw_get (ci := 4) (fs := [.int (0 + 1), .ref (G.2.2.1 0), .int 0]) hx hb hts in_AL hown hE.K hW hf_a rfl 1 (by decide) (hts _ mw16) (fun _ h9 => h9) rfl d_AL_add2_13 ?_
  refine lv_aload_n hx hb d_AL_add2_16 rfl (lv_at hl 0 rfl) ?_
  refine gw_get (ci := 4) (fs := [.int (0 + 1), .ref (G.2.2.1 0), .int 0]) hx hb hts in_AL hown hE.K hW hf_a rfl 2 (by decide) (hts _ mw54) (fun _ h9 => h9) rfl d_AL_add2_17 ?_
  refine gw_callv hS (va_runV (As := [.ref g, .ref (G.2.2.1 0), .int 0]) (rest := []) ⟨hx, hb, hml, hown, hts⟩ (c_AL_add3J l G M2 a g k hf_a hf_g ) (cwV 3 hts (gw_gv mw75 mw76 mw77 mw31 mw74) rfl rfl rfl (by decide +kernel) ⟨Nat.le_of_ble_eq_true rfl, Nat.le_of_ble_eq_true rfl⟩) (gw_pv hE hB hS hW rfl hf_a) rfl rfl hl.1 rfl (lv_room (Nat.le_of_ble_eq_true rfl)) d_AL_add2_20 ⟨Nat.le_of_ble_eq_true rfl, Nat.le_of_ble_eq_true rfl⟩) (fun M4 H locs hw5 hW hS => ?_)
  refine W.widen (k := 1) (n := 10) (Nat.le_refl _) (Nat.le_refl _) ?_
  obtain ⟨ar6, hf_a', hf_ar6', hfr7⟩ := hw5
  have hf_g : M4 g = some (10, .inr (3, [.ref k, .int 0])) := (hfr7 _ _ _ (by decide)).mp hf_g
  have hf_a : M4 a = some (4, .inr (4, [.int (0 + 1), .ref ar6, .int (0 + 1)])) := hf_a'
  have hf_ar6 : M4 ar6 = some (6, .inl (G.2.1 1, 10, .inr (.inr (.inr (.inr (va_up (fun _ => none) (0 : Int32).toNatClampNeg (some g))))))) := hf_ar6'
  have hF8 : gw_fr (gw_out [4, 6]) M M4 := gw_fr.tr hF1 (gw_fr.wk hfr7 (by decide))
  refine lv_iconst (v := 1) hx hb d_AL_add2_23 (by decide) ?_
  exact gw_zret hx hb hr hlocks rfl hS hW (Nat.le_of_ble_eq_true rfl) (Nat.le_of_ble_eq_true rfl) d_AL_add2_24 (⟨ar6, rfl, hf_a, hf_ar6, hF8⟩)
end
section
abbrev b_X_placeFor : ByteArray := prog_1_method_18_code
abbrev y_X_placeFor : MethodName := ⟨"Generations", "placeFor", "(I)LGenerations$Generation;"⟩
abbrev b_Row_put : ByteArray := prog_4_method_4_code
abbrev y_Row_put : MethodName := ⟨"Generations$Row", "put", "(I)V"⟩
abbrev b_X_holdToLimit : ByteArray := prog_1_method_23_code
abbrev y_X_holdToLimit : MethodName := ⟨"Generations", "holdToLimit", "()V"⟩
abbrev b_X_bringIntoRow : ByteArray := prog_1_method_22_code
abbrev y_X_bringIntoRow : MethodName := ⟨"Generations", "bringIntoRow", "(LGenerations$Generation;)V"⟩
abbrev b_X_catalogue : ByteArray := prog_1_method_2_code
abbrev y_X_catalogue : MethodName := ⟨"Generations", "catalogue", "(I)I"⟩
set_option maxRecDepth 20000 in
theorem mw79 : (Cond.code ({ cls := "Generations", name := "find", desc := "(I)LGenerations$Generation;" } : Jvm.MethodName) prog_1_method_17_code (4 : Nat) (Option.some (Jvm.ClassFile.FieldType.object "Generations$Generation"))) ∈ gw_N0 := gw_in (List.mem_append_right _ (gw_tm (i := 139) rfl))
set_option maxRecDepth 20000 in
theorem mw80 : (Cond.methodLink "Generations" (60 : Nat) ({ cls := "Generations", name := "find", desc := "(I)LGenerations$Generation;" } : Jvm.MethodName)) ∈ gw_N0 := gw_in (List.mem_append_right _ (gw_tm (i := 136) rfl))
set_option maxRecDepth 20000 in
theorem mw81 : (Cond.instanceMethod ({ cls := "Generations", name := "find", desc := "(I)LGenerations$Generation;" } : Jvm.MethodName)) ∈ gw_N0 := gw_in (List.mem_append_right _ (gw_tm (i := 138) rfl))
set_option maxRecDepth 20000 in
theorem mw82 : (Cond.selects "Generations" ⟨"Generations", "find", "(I)LGenerations$Generation;"⟩ ⟨"Generations", "find", "(I)LGenerations$Generation;"⟩) ∈ gw_N0 := gw_in (List.mem_append_left _ (List.mem_of_getElem? (i := 0) rfl))
set_option maxRecDepth 20000 in
theorem mw83 : (Cond.initialized "Generations") ∈ gw_N0 := gw_in (List.mem_append_right _ (gw_tm (i := 1) rfl))
set_option maxRecDepth 20000 in
theorem mw84 : (Cond.fieldLinkNest "Generations" (166 : Nat) "Generations$Generation" "number" "I" "Generations") ∈ gw_N0 := gw_in (List.mem_append_right _ (gw_tm (i := 75) rfl))
set_option maxRecDepth 20000 in
theorem mw85 : (Cond.code ({ cls := "java/util/ArrayList", name := "add", desc := "(Ljava/lang/Object;)Z" } : Jvm.MethodName) prog_19_method_25_code (2 : Nat) (Option.some Jvm.ClassFile.FieldType.boolean)) ∈ gw_N0 := gw_in (List.mem_append_right _ (gw_tm (i := 169) rfl))
set_option maxRecDepth 20000 in
theorem mw86 : (Cond.methodLink "Generations" (96 : Nat) ({ cls := "java/util/ArrayList", name := "add", desc := "(Ljava/lang/Object;)Z" } : Jvm.MethodName)) ∈ gw_N0 := gw_in (List.mem_append_right _ (gw_tm (i := 166) rfl))
set_option maxRecDepth 20000 in
theorem mw87 : (Cond.instanceMethod ({ cls := "java/util/ArrayList", name := "add", desc := "(Ljava/lang/Object;)Z" } : Jvm.MethodName)) ∈ gw_N0 := gw_in (List.mem_append_right _ (gw_tm (i := 167) rfl))
set_option maxRecDepth 20000 in
theorem mw88 : (Cond.selects "java/util/ArrayList" ({ cls := "java/util/ArrayList", name := "add", desc := "(Ljava/lang/Object;)Z" } : Jvm.MethodName) ({ cls := "java/util/ArrayList", name := "add", desc := "(Ljava/lang/Object;)Z" } : Jvm.MethodName)) ∈ gw_N0 := gw_in (List.mem_append_right _ (gw_tm (i := 168) rfl))
set_option maxRecDepth 20000 in
theorem mw89 : (Cond.fieldLink "Generations$Row" (15 : Nat) "Generations$Row" "size" "I") ∈ gw_N0 := gw_in (List.mem_append_right _ (gw_tm (i := 34) rfl))
set_option maxRecDepth 20000 in
theorem mw90 : (Cond.fieldLinkNest "Generations" (81 : Nat) "Generations$Row" "size" "I" "Generations") ∈ gw_N0 := gw_in (List.mem_append_right _ (gw_tm (i := 35) rfl))
set_option maxRecDepth 20000 in
theorem mw91 : (Cond.fieldLinkNest "Generations" (64 : Nat) "Generations$Generation" "state" "I" "Generations") ∈ gw_N0 := gw_in (List.mem_append_right _ (gw_tm (i := 77) rfl))
set_option maxRecDepth 20000 in
theorem mw92 : (Cond.code ({ cls := "Generations$Row", name := "put", desc := "(I)V" } : Jvm.MethodName) prog_4_method_4_code (3 : Nat) (Option.none : Option Jvm.ClassFile.FieldType)) ∈ gw_N0 := gw_in (List.mem_append_right _ (gw_tm (i := 227) rfl))
set_option maxRecDepth 20000 in
theorem mw93 : (Cond.methodLinkNest "Generations" (169 : Nat) ({ cls := "Generations$Row", name := "put", desc := "(I)V" } : Jvm.MethodName) "Generations") ∈ gw_N0 := gw_in (List.mem_append_right _ (gw_tm (i := 224) rfl))
set_option maxRecDepth 20000 in
theorem mw94 : (Cond.instanceMethod ({ cls := "Generations$Row", name := "put", desc := "(I)V" } : Jvm.MethodName)) ∈ gw_N0 := gw_in (List.mem_append_right _ (gw_tm (i := 226) rfl))
set_option maxRecDepth 20000 in
theorem mw95 : (Cond.selects "Generations$Row" ⟨"Generations$Row", "put", "(I)V"⟩ ⟨"Generations$Row", "put", "(I)V"⟩) ∈ gw_N0 := gw_in (List.mem_append_left _ (List.mem_of_getElem? (i := 8) rfl))
set_option maxRecDepth 20000 in
theorem mw96 : (Cond.code ({ cls := "Generations", name := "holdToLimit", desc := "()V" } : Jvm.MethodName) prog_1_method_23_code (3 : Nat) (Option.none : Option Jvm.ClassFile.FieldType)) ∈ gw_N0 := gw_in (List.mem_append_right _ (gw_tm (i := 237) rfl))
set_option maxRecDepth 20000 in
theorem mw97 : (Cond.methodLink "Generations" (172 : Nat) ({ cls := "Generations", name := "holdToLimit", desc := "()V" } : Jvm.MethodName)) ∈ gw_N0 := gw_in (List.mem_append_right _ (gw_tm (i := 234) rfl))
set_option maxRecDepth 20000 in
theorem mw98 : (Cond.instanceMethod ({ cls := "Generations", name := "holdToLimit", desc := "()V" } : Jvm.MethodName)) ∈ gw_N0 := gw_in (List.mem_append_right _ (gw_tm (i := 236) rfl))
set_option maxRecDepth 20000 in
theorem mw99 : (Cond.selects "Generations" ⟨"Generations", "holdToLimit", "()V"⟩ ⟨"Generations", "holdToLimit", "()V"⟩) ∈ gw_N0 := gw_in (List.mem_append_left _ (List.mem_of_getElem? (i := 9) rfl))
set_option maxRecDepth 20000 in
theorem mw100 : (Cond.code ({ cls := "Generations", name := "isNumber", desc := "(I)Z" } : Jvm.MethodName) prog_1_method_15_code (1 : Nat) (Option.some Jvm.ClassFile.FieldType.boolean)) ∈ gw_N0 := gw_in (List.mem_append_right _ (gw_tm (i := 135) rfl))
set_option maxRecDepth 20000 in
theorem mw101 : (Cond.methodLink "Generations" (56 : Nat) ({ cls := "Generations", name := "isNumber", desc := "(I)Z" } : Jvm.MethodName)) ∈ gw_N0 := gw_in (List.mem_append_right _ (gw_tm (i := 133) rfl))
set_option maxRecDepth 20000 in
theorem mw102 : (Cond.static ({ cls := "Generations", name := "isNumber", desc := "(I)Z" } : Jvm.MethodName)) ∈ gw_N0 := gw_in (List.mem_append_right _ (gw_tm (i := 134) rfl))
set_option maxRecDepth 20000 in
theorem mw103 : (Cond.code ({ cls := "Generations$Generation", name := "isDeferred", desc := "()Z" } : Jvm.MethodName) prog_2_method_3_code (1 : Nat) (Option.some Jvm.ClassFile.FieldType.boolean)) ∈ gw_N0 := gw_in (List.mem_append_right _ (gw_tm (i := 161) rfl))
set_option maxRecDepth 20000 in
theorem mw104 : (Cond.methodLinkNest "Generations" (67 : Nat) ({ cls := "Generations$Generation", name := "isDeferred", desc := "()Z" } : Jvm.MethodName) "Generations") ∈ gw_N0 := gw_in (List.mem_append_right _ (gw_tm (i := 158) rfl))
set_option maxRecDepth 20000 in
theorem mw105 : (Cond.instanceMethod ({ cls := "Generations$Generation", name := "isDeferred", desc := "()Z" } : Jvm.MethodName)) ∈ gw_N0 := gw_in (List.mem_append_right _ (gw_tm (i := 160) rfl))
set_option maxRecDepth 20000 in
theorem mw106 : (Cond.selects "Generations$Generation" ⟨"Generations$Generation", "isDeferred", "()Z"⟩ ⟨"Generations$Generation", "isDeferred", "()Z"⟩) ∈ gw_N0 := gw_in (List.mem_append_left _ (List.mem_of_getElem? (i := 1) rfl))
set_option maxRecDepth 20000 in
theorem mw107 : (Cond.code ({ cls := "Generations", name := "placeFor", desc := "(I)LGenerations$Generation;" } : Jvm.MethodName) prog_1_method_18_code (3 : Nat) (Option.some (Jvm.ClassFile.FieldType.object "Generations$Generation"))) ∈ gw_N0 := gw_in (List.mem_append_right _ (gw_tm (i := 165) rfl))
set_option maxRecDepth 20000 in
theorem mw108 : (Cond.methodLink "Generations" (71 : Nat) ({ cls := "Generations", name := "placeFor", desc := "(I)LGenerations$Generation;" } : Jvm.MethodName)) ∈ gw_N0 := gw_in (List.mem_append_right _ (gw_tm (i := 162) rfl))
set_option maxRecDepth 20000 in
theorem mw109 : (Cond.instanceMethod ({ cls := "Generations", name := "placeFor", desc := "(I)LGenerations$Generation;" } : Jvm.MethodName)) ∈ gw_N0 := gw_in (List.mem_append_right _ (gw_tm (i := 164) rfl))
set_option maxRecDepth 20000 in
theorem mw110 : (Cond.selects "Generations" ⟨"Generations", "placeFor", "(I)LGenerations$Generation;"⟩ ⟨"Generations", "placeFor", "(I)LGenerations$Generation;"⟩) ∈ gw_N0 := gw_in (List.mem_append_left _ (List.mem_of_getElem? (i := 2) rfl))
set_option maxRecDepth 20000 in
theorem mw111 : (Cond.code ({ cls := "Generations$Generation", name := "beginAnew", desc := "(I)V" } : Jvm.MethodName) prog_2_method_2_code (2 : Nat) (Option.none : Option Jvm.ClassFile.FieldType)) ∈ gw_N0 := gw_in (List.mem_append_right _ (gw_tm (i := 219) rfl))
set_option maxRecDepth 20000 in
theorem mw112 : (Cond.methodLinkNest "Generations" (74 : Nat) ({ cls := "Generations$Generation", name := "beginAnew", desc := "(I)V" } : Jvm.MethodName) "Generations") ∈ gw_N0 := gw_in (List.mem_append_right _ (gw_tm (i := 216) rfl))
set_option maxRecDepth 20000 in
theorem mw113 : (Cond.instanceMethod ({ cls := "Generations$Generation", name := "beginAnew", desc := "(I)V" } : Jvm.MethodName)) ∈ gw_N0 := gw_in (List.mem_append_right _ (gw_tm (i := 218) rfl))
set_option maxRecDepth 20000 in
theorem mw114 : (Cond.selects "Generations$Generation" ⟨"Generations$Generation", "beginAnew", "(I)V"⟩ ⟨"Generations$Generation", "beginAnew", "(I)V"⟩) ∈ gw_N0 := gw_in (List.mem_append_left _ (List.mem_of_getElem? (i := 6) rfl))
set_option maxRecDepth 20000 in
theorem mw115 : (Cond.code ({ cls := "Generations", name := "bringIntoRow", desc := "(LGenerations$Generation;)V" } : Jvm.MethodName) prog_1_method_22_code (2 : Nat) (Option.none : Option Jvm.ClassFile.FieldType)) ∈ gw_N0 := gw_in (List.mem_append_right _ (gw_tm (i := 223) rfl))
set_option maxRecDepth 20000 in
theorem mw116 : (Cond.methodLink "Generations" (77 : Nat) ({ cls := "Generations", name := "bringIntoRow", desc := "(LGenerations$Generation;)V" } : Jvm.MethodName)) ∈ gw_N0 := gw_in (List.mem_append_right _ (gw_tm (i := 220) rfl))
set_option maxRecDepth 20000 in
theorem mw117 : (Cond.instanceMethod ({ cls := "Generations", name := "bringIntoRow", desc := "(LGenerations$Generation;)V" } : Jvm.MethodName)) ∈ gw_N0 := gw_in (List.mem_append_right _ (gw_tm (i := 222) rfl))
set_option maxRecDepth 20000 in
theorem mw118 : (Cond.selects "Generations" ⟨"Generations", "bringIntoRow", "(LGenerations$Generation;)V"⟩ ⟨"Generations", "bringIntoRow", "(LGenerations$Generation;)V"⟩) ∈ gw_N0 := gw_in (List.mem_append_left _ (List.mem_of_getElem? (i := 7) rfl))
end
section
theorem d_X_placeFor_0 : decode b_X_placeFor 0 = .ok (.aload_n 0, 1) := by decide +kernel
theorem d_X_placeFor_1 : decode b_X_placeFor 1 = .ok (.iload_n 1, 1) := by decide +kernel
theorem d_X_placeFor_2 : decode b_X_placeFor 2 = .ok (.invokevirtual 60, 3) := by decide +kernel
theorem d_X_placeFor_5 : decode b_X_placeFor 5 = .ok (.astore_n 2, 1) := by decide +kernel
theorem d_X_placeFor_6 : decode b_X_placeFor 6 = .ok (.aload_n 2, 1) := by decide +kernel
theorem d_X_placeFor_7 : decode b_X_placeFor 7 = .ok (.getfield 166, 3) := by decide +kernel
theorem d_X_placeFor_10 : decode b_X_placeFor 10 = .ok (.iload_n 1, 1) := by decide +kernel
theorem d_X_placeFor_11 : decode b_X_placeFor 11 = .ok (.if_icmp .eq 21, 3) := by decide +kernel
theorem d_X_placeFor_14 : decode b_X_placeFor 14 = .ok (.new 26, 3) := by decide +kernel
theorem d_X_placeFor_17 : decode b_X_placeFor 17 = .ok (.dup, 1) := by decide +kernel
theorem d_X_placeFor_18 : decode b_X_placeFor 18 = .ok (.iload_n 1, 1) := by decide +kernel
theorem d_X_placeFor_19 : decode b_X_placeFor 19 = .ok (.invokespecial 28, 3) := by decide +kernel
theorem d_X_placeFor_22 : decode b_X_placeFor 22 = .ok (.astore_n 2, 1) := by decide +kernel
theorem d_X_placeFor_23 : decode b_X_placeFor 23 = .ok (.aload_n 0, 1) := by decide +kernel
theorem d_X_placeFor_24 : decode b_X_placeFor 24 = .ok (.getfield 23, 3) := by decide +kernel
theorem d_X_placeFor_27 : decode b_X_placeFor 27 = .ok (.aload_n 2, 1) := by decide +kernel
theorem d_X_placeFor_28 : decode b_X_placeFor 28 = .ok (.invokevirtual 96, 3) := by decide +kernel
theorem d_X_placeFor_31 : decode b_X_placeFor 31 = .ok (.pop, 1) := by decide +kernel
theorem d_X_placeFor_32 : decode b_X_placeFor 32 = .ok (.aload_n 2, 1) := by decide +kernel
theorem d_X_placeFor_33 : decode b_X_placeFor 33 = .ok (.areturn, 1) := by decide +kernel
theorem d_Row_put_0 : decode b_Row_put 0 = .ok (.aload_n 0, 1) := by decide +kernel
theorem d_Row_put_1 : decode b_Row_put 1 = .ok (.getfield 15, 3) := by decide +kernel
theorem d_Row_put_4 : decode b_Row_put 4 = .ok (.aload_n 0, 1) := by decide +kernel
theorem d_Row_put_5 : decode b_Row_put 5 = .ok (.getfield 9, 3) := by decide +kernel
theorem d_Row_put_8 : decode b_Row_put 8 = .ok (.arraylength, 1) := by decide +kernel
theorem d_Row_put_9 : decode b_Row_put 9 = .ok (.if_icmp .lt 4, 3) := by decide +kernel
theorem d_Row_put_13 : decode b_Row_put 13 = .ok (.aload_n 0, 1) := by decide +kernel
theorem d_Row_put_14 : decode b_Row_put 14 = .ok (.getfield 15, 3) := by decide +kernel
theorem d_Row_put_17 : decode b_Row_put 17 = .ok (.istore_n 2, 1) := by decide +kernel
theorem d_Row_put_18 : decode b_Row_put 18 = .ok (.iload_n 2, 1) := by decide +kernel
theorem d_Row_put_19 : decode b_Row_put 19 = .ok (.ifCond .le 38, 3) := by decide +kernel
theorem d_Row_put_57 : decode b_Row_put 57 = .ok (.aload_n 0, 1) := by decide +kernel
theorem d_Row_put_58 : decode b_Row_put 58 = .ok (.getfield 9, 3) := by decide +kernel
theorem d_Row_put_61 : decode b_Row_put 61 = .ok (.iload_n 2, 1) := by decide +kernel
theorem d_Row_put_62 : decode b_Row_put 62 = .ok (.iload_n 1, 1) := by decide +kernel
theorem d_Row_put_63 : decode b_Row_put 63 = .ok (.iastore, 1) := by decide +kernel
theorem d_Row_put_64 : decode b_Row_put 64 = .ok (.aload_n 0, 1) := by decide +kernel
theorem d_Row_put_65 : decode b_Row_put 65 = .ok (.dup, 1) := by decide +kernel
theorem d_Row_put_66 : decode b_Row_put 66 = .ok (.getfield 15, 3) := by decide +kernel
theorem d_Row_put_69 : decode b_Row_put 69 = .ok (.iconst 1, 1) := by decide +kernel
theorem d_Row_put_70 : decode b_Row_put 70 = .ok (.iadd, 1) := by decide +kernel
theorem d_Row_put_71 : decode b_Row_put 71 = .ok (.putfield 15, 3) := by decide +kernel
theorem d_Row_put_74 : decode b_Row_put 74 = .ok (.return_, 1) := by decide +kernel
theorem d_X_holdToLimit_0 : decode b_X_holdToLimit 0 = .ok (.aload_n 0, 1) := by decide +kernel
theorem d_X_holdToLimit_1 : decode b_X_holdToLimit 1 = .ok (.getfield 10, 3) := by decide +kernel
theorem d_X_holdToLimit_4 : decode b_X_holdToLimit 4 = .ok (.getfield 81, 3) := by decide +kernel
theorem d_X_holdToLimit_7 : decode b_X_holdToLimit 7 = .ok (.aload_n 0, 1) := by decide +kernel
theorem d_X_holdToLimit_8 : decode b_X_holdToLimit 8 = .ok (.getfield 48, 3) := by decide +kernel
theorem d_X_holdToLimit_11 : decode b_X_holdToLimit 11 = .ok (.if_icmp .gt 4, 3) := by decide +kernel
theorem d_X_holdToLimit_14 : decode b_X_holdToLimit 14 = .ok (.return_, 1) := by decide +kernel
theorem d_X_bringIntoRow_0 : decode b_X_bringIntoRow 0 = .ok (.aload_n 1, 1) := by decide +kernel
theorem d_X_bringIntoRow_1 : decode b_X_bringIntoRow 1 = .ok (.iconst 1, 1) := by decide +kernel
theorem d_X_bringIntoRow_2 : decode b_X_bringIntoRow 2 = .ok (.putfield 64, 3) := by decide +kernel
theorem d_X_bringIntoRow_5 : decode b_X_bringIntoRow 5 = .ok (.aload_n 0, 1) := by decide +kernel
theorem d_X_bringIntoRow_6 : decode b_X_bringIntoRow 6 = .ok (.getfield 10, 3) := by decide +kernel
theorem d_X_bringIntoRow_9 : decode b_X_bringIntoRow 9 = .ok (.aload_n 1, 1) := by decide +kernel
theorem d_X_bringIntoRow_10 : decode b_X_bringIntoRow 10 = .ok (.getfield 166, 3) := by decide +kernel
theorem d_X_bringIntoRow_13 : decode b_X_bringIntoRow 13 = .ok (.invokevirtual 169, 3) := by decide +kernel
theorem d_X_bringIntoRow_16 : decode b_X_bringIntoRow 16 = .ok (.aload_n 0, 1) := by decide +kernel
theorem d_X_bringIntoRow_17 : decode b_X_bringIntoRow 17 = .ok (.invokevirtual 172, 3) := by decide +kernel
theorem d_X_bringIntoRow_20 : decode b_X_bringIntoRow 20 = .ok (.return_, 1) := by decide +kernel
theorem d_X_catalogue_0 : decode b_X_catalogue 0 = .ok (.iload_n 1, 1) := by decide +kernel
theorem d_X_catalogue_1 : decode b_X_catalogue 1 = .ok (.invokestatic 56, 3) := by decide +kernel
theorem d_X_catalogue_4 : decode b_X_catalogue 4 = .ok (.ifCond .ne 5, 3) := by decide +kernel
theorem d_X_catalogue_9 : decode b_X_catalogue 9 = .ok (.aload_n 0, 1) := by decide +kernel
theorem d_X_catalogue_10 : decode b_X_catalogue 10 = .ok (.iload_n 1, 1) := by decide +kernel
theorem d_X_catalogue_11 : decode b_X_catalogue 11 = .ok (.invokevirtual 60, 3) := by decide +kernel
theorem d_X_catalogue_14 : decode b_X_catalogue 14 = .ok (.astore_n 2, 1) := by decide +kernel
theorem d_X_catalogue_15 : decode b_X_catalogue 15 = .ok (.aload_n 2, 1) := by decide +kernel
theorem d_X_catalogue_16 : decode b_X_catalogue 16 = .ok (.getfield 64, 3) := by decide +kernel
theorem d_X_catalogue_19 : decode b_X_catalogue 19 = .ok (.iconst 1, 1) := by decide +kernel
theorem d_X_catalogue_20 : decode b_X_catalogue 20 = .ok (.if_icmp .eq 10, 3) := by decide +kernel
theorem d_X_catalogue_23 : decode b_X_catalogue 23 = .ok (.aload_n 2, 1) := by decide +kernel
theorem d_X_catalogue_24 : decode b_X_catalogue 24 = .ok (.invokevirtual 67, 3) := by decide +kernel
theorem d_X_catalogue_27 : decode b_X_catalogue 27 = .ok (.ifCond .eq 5, 3) := by decide +kernel
theorem d_X_catalogue_32 : decode b_X_catalogue 32 = .ok (.aload_n 2, 1) := by decide +kernel
theorem d_X_catalogue_33 : decode b_X_catalogue 33 = .ok (.getfield 64, 3) := by decide +kernel
theorem d_X_catalogue_36 : decode b_X_catalogue 36 = .ok (.ifCond .ne 14, 3) := by decide +kernel
theorem d_X_catalogue_39 : decode b_X_catalogue 39 = .ok (.aload_n 0, 1) := by decide +kernel
theorem d_X_catalogue_40 : decode b_X_catalogue 40 = .ok (.iload_n 1, 1) := by decide +kernel
theorem d_X_catalogue_41 : decode b_X_catalogue 41 = .ok (.invokevirtual 71, 3) := by decide +kernel
theorem d_X_catalogue_44 : decode b_X_catalogue 44 = .ok (.astore_n 2, 1) := by decide +kernel
theorem d_X_catalogue_45 : decode b_X_catalogue 45 = .ok (.aload_n 2, 1) := by decide +kernel
theorem d_X_catalogue_46 : decode b_X_catalogue 46 = .ok (.iconst 0, 1) := by decide +kernel
theorem d_X_catalogue_47 : decode b_X_catalogue 47 = .ok (.invokevirtual 74, 3) := by decide +kernel
theorem d_X_catalogue_50 : decode b_X_catalogue 50 = .ok (.aload_n 0, 1) := by decide +kernel
theorem d_X_catalogue_51 : decode b_X_catalogue 51 = .ok (.aload_n 2, 1) := by decide +kernel
theorem d_X_catalogue_52 : decode b_X_catalogue 52 = .ok (.invokevirtual 77, 3) := by decide +kernel
theorem d_X_catalogue_55 : decode b_X_catalogue 55 = .ok (.aload_n 0, 1) := by decide +kernel
theorem d_X_catalogue_56 : decode b_X_catalogue 56 = .ok (.getfield 10, 3) := by decide +kernel
theorem d_X_catalogue_59 : decode b_X_catalogue 59 = .ok (.getfield 81, 3) := by decide +kernel
theorem d_X_catalogue_62 : decode b_X_catalogue 62 = .ok (.ireturn, 1) := by decide +kernel
theorem d_X_catalogue_7 : decode b_X_catalogue 7 = .ok (.iconst (-1), 1) := by decide +kernel
theorem d_X_catalogue_8 : decode b_X_catalogue 8 = .ok (.ireturn, 1) := by decide +kernel
end
section
set_option maxHeartbeats 4000000 in
set_option maxRecDepth 100000 in
theorem c_placeFor (l : Launch) (G : gw_G) (M : gw_M) (x : Nat) (row : Nat) (jobs : Nat) (known : Nat) (nowh : Nat) (gone : Nat) (lim : Int32) (sc : Int32) (k : Int32) (hf_x : M x = some (1, .inr (0, [.int lim, .int sc, .int 0, .ref row, .ref jobs, .ref known, .ref nowh, .ref gone, .int 0]))) (hf_known : M known = some (5, .inr (4, [.int 0, .ref (G.2.2.1 0), .int 0]))) (hf_nowh : M nowh = some (12, .inr (2, [.int 0, .int 0, .int 0, .int 0, .int 0]))) (hk : ¬ (0 : Int32) = k) : Met l y_X_placeFor [.code y_X_placeFor b_X_placeFor 3 (some (.object "Generations$Generation"))] ({ frames := 5, cells := 2, slots := 15, locals := 101 }) (gw_Pc G M [.ref x, .int k]) (gw_Qr G (fun r M2 => ∃ (g : Nat), g = r ∧ M2 g = some (9, .inr (2, [.int k, .int 0, .int 0, .int 0, .int 0])) ∧ gw_fr (gw_out [5, 7, 9]) M M2)) 2 15 (gw_A G) := by
  refine gw_start (by decide) (Nat.le_of_ble_eq_true rfl) (fun p9 e9 s m b9 mt9 c9 hx hb hr hml hown hlocks hin hE hB hW ls hl => ?_)
  have hts := hE.ts ([.ref x, .int k] : List Value).toArray
  have hl : lv_has ls 3 [(0, .ref x), (1, .int k)] := hl
  have hS : va_S (gw_A G) s.heap s.heap [] := va_S.rf
  have hown : s.vm.findClass "Generations" = some m.cls := hown
  refine lv_aload_n hx hb d_X_placeFor_0 rfl (lv_at hl 0 rfl) ?_
  refine lv_iload_n hx hb d_X_placeFor_1 rfl (lv_at hl 1 rfl) ?_
  refine gw_callr hS (va_runV (As := [.int k]) (rest := []) ⟨hx, hb, hml, hown, hts⟩ (c_find l G M x row jobs known nowh gone lim sc k hf_x hf_known ) (cwV 1 hts (gw_gv mw80 mw81 mw82 mw83 mw79) rfl rfl rfl (by decide +kernel) ⟨Nat.le_of_ble_eq_true rfl, Nat.le_of_ble_eq_true rfl⟩) (gw_pv hE hB hS hW rfl hf_x) rfl rfl hl.1 rfl (lv_room (Nat.le_of_ble_eq_true rfl)) d_X_placeFor_2 ⟨Nat.le_of_ble_eq_true rfl, Nat.le_of_ble_eq_true rfl⟩) (fun r1 M2 H locs hw3 hW hS => ?_)
  obtain ⟨rfl, rfl⟩ := hw3
  refine lv_astore_n (lv' := [(2, .ref nowh), (0, .ref x), (1, .int k)]) hx hb d_X_placeFor_5 rfl hl (by decide) rfl (fun ls hl => ?_)
  refine lv_aload_n hx hb d_X_placeFor_6 rfl (lv_at hl 0 rfl) ?_
  refine gw_getN (ci := 2) (fs := [.int 0, .int 0, .int 0, .int 0, .int 0]) hx hb hts in_Gen hown hE.K hW hf_nowh rfl 0 (by decide) (hts _ mw84) (fun _ h9 => h9) rfl d_X_placeFor_7 ?_
  refine lv_iload_n hx hb d_X_placeFor_10 rfl (lv_at hl 2 rfl) ?_
  refine lv_icmp_eq (tgt := 32) hx hb d_X_placeFor_11 (by decide) (fun c11 => ?_) (fun c11 => ?_)
  · exact absurd c11 hk
  · refine gw_new (ci := 2) (fs := [.int 0, .int 0, .int 0, .int 0, .int 0]) hx hb hts in_Gen t_Gen t_Gen_ok hown (hts _ mw37) (hts _ mw38) (hts _ mw39) hE.K hW hS hB rfl (fun j hj => by rcases (show j = 0 ∨ j = 1 ∨ j = 2 ∨ j = 3 ∨ j = 4 by omega) with rfl | rfl | rfl | rfl | rfl <;> rfl) (Nat.le_of_ble_eq_true rfl) (Nat.le_of_ble_eq_true rfl) d_X_placeFor_14 9 (fun q4 H hq5 hW hS => ?_)
    refine W.widen (k := 1) (n := 5) (Nat.le_refl _) (Nat.le_refl _) ?_
    have hF6 : gw_fr (gw_out [5, 7, 9]) M (gw_up M q4 9 (.inr (2, [.int 0, .int 0, .int 0, .int 0, .int 0]))) := gw_fr.new gw_fr.rf hq5 (show ¬ ((gw_out [5, 7, 9]) 9) by decide)
    obtain ⟨M7, eM7⟩ : ∃ z, z = gw_up M q4 9 (.inr (2, [.int 0, .int 0, .int 0, .int 0, .int 0])) := ⟨_, rfl⟩
    replace hW : gw_P G.1 vwCl G.2.2.2 M7 H := by rw [eM7]; exact hW
    have hf_x : M7 x = some (1, .inr (0, [.int lim, .int sc, .int 0, .ref row, .ref jobs, .ref known, .ref nowh, .ref gone, .int 0])) := by rw [eM7]; exact gw_keepN hf_x hq5
    have hf_known : M7 known = some (5, .inr (4, [.int 0, .ref (G.2.2.1 0), .int 0])) := by rw [eM7]; exact gw_keepN hf_known hq5
    have hf_nowh : M7 nowh = some (12, .inr (2, [.int 0, .int 0, .int 0, .int 0, .int 0])) := by rw [eM7]; exact gw_keepN hf_nowh hq5
    have hf_q4 : M7 q4 = some (9, .inr (2, [.int 0, .int 0, .int 0, .int 0, .int 0])) := by rw [eM7]; exact gw_up_self _ _ _ _
    rw [← eM7] at hF6
    refine lv_dup hx hb d_X_placeFor_17 rfl ?_
    refine lv_iload_n hx hb d_X_placeFor_18 rfl (lv_at hl 2 rfl) ?_
    refine gw_callv hS (va_runIN (As := [.int k]) (rest := [.ref q4]) ⟨hx, hb, hml, hown, hts⟩ (c_Gen_initG l G M7 q4 k hf_q4 ) ⟨va_cnB 1 hts (gw_g1 mw40) rfl rfl rfl (hE.nw mw41) (hts _ mw39) (by decide +kernel) ⟨Nat.le_of_ble_eq_true rfl, Nat.le_of_ble_eq_true rfl⟩, rfl, hts _ mw42⟩ (gw_ps hE hB hS hW) rfl rfl hl.1 rfl (lv_room (Nat.le_of_ble_eq_true rfl)) d_X_placeFor_19 ⟨Nat.le_of_ble_eq_true rfl, Nat.le_of_ble_eq_true rfl⟩) (fun M9 H locs hw10 hW hS => ?_)
    obtain ⟨hf_q4', hfr11⟩ := hw10
    have hf_x : M9 x = some (1, .inr (0, [.int lim, .int sc, .int 0, .ref row, .ref jobs, .ref known, .ref nowh, .ref gone, .int 0])) := (hfr11 _ _ _ (by decide)).mp hf_x
    have hf_known : M9 known = some (5, .inr (4, [.int 0, .ref (G.2.2.1 0), .int 0])) := (hfr11 _ _ _ (by decide)).mp hf_known
    have hf_nowh : M9 nowh = some (12, .inr (2, [.int 0, .int 0, .int 0, .int 0, .int 0])) := (hfr11 _ _ _ (by decide)).mp hf_nowh
    have hf_q4 : M9 q4 = some (9, .inr (2, [.int k, .int 0, .int 0, .int 0, .int 0])) := hf_q4'
    have hF12 : gw_fr (gw_out [5, 7, 9]) M M9 := gw_fr.tr hF6 (gw_fr.wk hfr11 (by decide))
    refine lv_astore_n (lv' := [(2, .ref q4), (0, .ref x), (1, .int k)]) hx hb d_X_placeFor_22 rfl hl (by decide) rfl (fun ls hl => ?_)
    refine lv_aload_n hx hb d_X_placeFor_23 rfl (lv_at hl 1 rfl) ?_
    refine gw_get (ci := 0) (fs := [.int lim, .int sc, .int 0, .ref row, .ref jobs, .ref known, .ref nowh, .ref gone, .int 0]) hx hb hts in_X hown hE.K hW hf_x rfl 5 (by decide) (hts _ mw36) (fun _ h9 => h9) rfl d_X_placeFor_24 ?_
    refine lv_aload_n hx hb d_X_placeFor_27 rfl (lv_at hl 0 rfl) ?_
    refine gw_calli hS (va_runV (As := [.ref q4]) (rest := []) ⟨hx, hb, hml, hown, hts⟩ (c_AL_addK l G M9 known q4 k hf_known hf_q4 ) (cwV 1 hts (gw_gv mw86 mw87 mw88 mw31 mw85) rfl rfl rfl (by decide +kernel) ⟨Nat.le_of_ble_eq_true rfl, Nat.le_of_ble_eq_true rfl⟩) (gw_pv hE hB hS hW rfl hf_known) rfl rfl hl.1 rfl (lv_room (Nat.le_of_ble_eq_true rfl)) d_X_placeFor_28 ⟨Nat.le_of_ble_eq_true rfl, Nat.le_of_ble_eq_true rfl⟩) (fun r13 M14 H locs hw15 hW hS => ?_)
    refine W.widen (k := 2) (n := 15) (Nat.le_refl _) (Nat.le_refl _) ?_
    obtain ⟨ar16, rfl, hf_known', hf_ar16', hfr17⟩ := hw15
    have hf_q4 : M14 q4 = some (9, .inr (2, [.int k, .int 0, .int 0, .int 0, .int 0])) := (hfr17 _ _ _ (by decide)).mp hf_q4
    have hf_x : M14 x = some (1, .inr (0, [.int lim, .int sc, .int 0, .ref row, .ref jobs, .ref known, .ref nowh, .ref gone, .int 0])) := (hfr17 _ _ _ (by decide)).mp hf_x
    have hf_nowh : M14 nowh = some (12, .inr (2, [.int 0, .int 0, .int 0, .int 0, .int 0])) := (hfr17 _ _ _ (by decide)).mp hf_nowh
    have hf_known : M14 known = some (5, .inr (4, [.int (0 + 1), .ref ar16, .int (0 + 1)])) := hf_known'
    have hf_ar16 : M14 ar16 = some (7, .inl (G.2.1 1, 10, .inr (.inr (.inr (.inr (va_up (fun _ => none) (0 : Int32).toNatClampNeg (some q4))))))) := hf_ar16'
    have hF18 : gw_fr (gw_out [5, 7, 9]) M M14 := gw_fr.tr hF12 (gw_fr.wk hfr17 (by decide))
    refine lv_pop hx hb d_X_placeFor_31 rfl ?_
    refine lv_aload_n hx hb d_X_placeFor_32 rfl (lv_at hl 0 rfl) ?_
    exact gw_aret hx hb hr hlocks (Or.inl ⟨_, rfl⟩) hS hW (Nat.le_of_ble_eq_true rfl) (Nat.le_of_ble_eq_true rfl) d_X_placeFor_33 (⟨q4, rfl, hf_q4, hF18⟩)

set_option maxHeartbeats 4000000 in
set_option maxRecDepth 100000 in
theorem c_Row_put (l : Launch) (G : gw_G) (M : gw_M) (row : Nat) (nums : Nat) (k : Int32) (hf_row : M row = some (2, .inr (1, [.ref nums, .int 0]))) (hf_nums : M nums = some (3, .inl (G.2.1 0, 256, .inl (fun _ => 0)))) : Met l y_Row_put [.code y_Row_put b_Row_put 3 none] ({ frames := 0, cells := 0, slots := 0, locals := 0 }) (gw_Pc G M [.ref row, .int k]) (gw_Qv G (fun M2 => M2 row = some (2, .inr (1, [.ref nums, .int (0 + 1)])) ∧ M2 nums = some (3, .inl (G.2.1 0, 256, .inl (upd (fun _ => 0) (0 : Int32).toNatClampNeg k))) ∧ gw_fr (gw_out [2, 3]) M M2)) 0 0 (gw_A G) := by
  refine gw_start (by decide) (Nat.le_of_ble_eq_true rfl) (fun p9 e9 s m b9 mt9 c9 hx hb hr hml hown hlocks hin hE hB hW ls hl => ?_)
  have hts := hE.ts ([.ref row, .int k] : List Value).toArray
  have hl : lv_has ls 3 [(0, .ref row), (1, .int k)] := hl
  have hS : va_S (gw_A G) s.heap s.heap [] := va_S.rf
  have hown : s.vm.findClass "Generations$Row" = some m.cls := hown
  refine lv_aload_n hx hb d_Row_put_0 rfl (lv_at hl 0 rfl) ?_
  refine gw_get (ci := 1) (fs := [.ref nums, .int 0]) hx hb hts in_Row hown hE.K hW hf_row rfl 1 (by decide) (hts _ mw89) (fun _ h9 => h9) rfl d_Row_put_1 ?_
  refine lv_aload_n hx hb d_Row_put_4 rfl (lv_at hl 0 rfl) ?_
  refine gw_get (ci := 1) (fs := [.ref nums, .int 0]) hx hb hts in_Row hown hE.K hW hf_row rfl 0 (by decide) (hts _ mw4) (fun _ h9 => h9) rfl d_Row_put_5 ?_
  refine gw_alen (v := 256) hx hb hE.K hW 0 hf_nums rfl rfl d_Row_put_8 ?_
  refine lv_icmp_lt (tgt := 13) hx hb d_Row_put_9 (by decide) (fun c9 => ?_) (fun c9 => ?_)
  · refine lv_aload_n hx hb d_Row_put_13 rfl (lv_at hl 0 rfl) ?_
    refine gw_get (ci := 1) (fs := [.ref nums, .int 0]) hx hb hts in_Row hown hE.K hW hf_row rfl 1 (by decide) (hts _ mw89) (fun _ h9 => h9) rfl d_Row_put_14 ?_
    refine lv_istore_n (lv' := [(2, .int 0), (0, .ref row), (1, .int k)]) hx hb d_Row_put_17 rfl hl (by decide) rfl (fun ls hl => ?_)
    refine lv_iload_n hx hb d_Row_put_18 rfl (lv_at hl 0 rfl) ?_
    refine lv_if_le (tgt := 57) hx hb d_Row_put_19 (by decide) (fun c19 => ?_) (fun c19 => ?_)
    · refine lv_aload_n hx hb d_Row_put_57 rfl (lv_at hl 1 rfl) ?_
      refine gw_get (ci := 1) (fs := [.ref nums, .int 0]) hx hb hts in_Row hown hE.K hW hf_row rfl 0 (by decide) (hts _ mw4) (fun _ h9 => h9) rfl d_Row_put_58 ?_
      refine lv_iload_n hx hb d_Row_put_61 rfl (lv_at hl 0 rfl) ?_
      refine lv_iload_n hx hb d_Row_put_62 rfl (lv_at hl 2 rfl) ?_
      refine gw_iast (i := 0) (x := k) hx hb hE.K hW hS 0 hf_nums rfl (show ¬ ((0 : Int32) < 0 ∨ 256 ≤ (0 : Int32).toNatClampNeg) by decide) d_Row_put_63 (fun H locs hW hS => ?_)
      have hF1 : gw_fr (gw_out [2, 3]) M (gw_up M nums 3 (.inl (G.2.1 0, 256, .inl (upd (fun _ => 0) (0 : Int32).toNatClampNeg k)))) := gw_fr.up gw_fr.rf hf_nums (show ¬ ((gw_out [2, 3]) 3) by decide) (show ¬ ((gw_out [2, 3]) 3) by decide)
      obtain ⟨M2, eM2⟩ : ∃ z, z = gw_up M nums 3 (.inl (G.2.1 0, 256, .inl (upd (fun _ => 0) (0 : Int32).toNatClampNeg k))) := ⟨_, rfl⟩
      replace hW : gw_P G.1 vwCl G.2.2.2 M2 H := by rw [eM2]; exact hW
      have hf_row : M2 row = some (2, .inr (1, [.ref nums, .int 0])) := by rw [eM2]; exact gw_keep hf_row hf_nums (by decide)
      have hf_nums : M2 nums = some (3, .inl (G.2.1 0, 256, .inl (upd (fun _ => 0) (0 : Int32).toNatClampNeg k))) := by rw [eM2]; exact gw_up_self _ _ _ _
      rw [← eM2] at hF1
      refine lv_aload_n hx hb d_Row_put_64 rfl (lv_at hl 1 rfl) ?_
      refine lv_dup hx hb d_Row_put_65 rfl ?_
      refine gw_get (ci := 1) (fs := [.ref nums, .int 0]) hx hb hts in_Row hown hE.K hW hf_row rfl 1 (by decide) (hts _ mw89) (fun _ h9 => h9) rfl d_Row_put_66 ?_
      refine lv_iconst (v := 1) hx hb d_Row_put_69 (by decide) ?_
      refine lv_iadd hx hb d_Row_put_70 ?_
      refine gw_put (ci := 1) (fs := [.ref nums, .int 0]) (v := .int (0 + 1)) (ty := .int) hx hb hts in_Row t_Row t_Row_ok n_Row hown hE.K hW hS hf_row rfl 1 (by decide) (hts _ mw89) (fun _ h9 => h9) rfl (by decide +kernel) rfl rfl (Nat.le_of_ble_eq_true rfl) d_Row_put_71 (fun H locs hW hS => ?_)
      have hF3 : gw_fr (gw_out [2, 3]) M (gw_up M2 row 2 (.inr (1, [.ref nums, .int (0 + 1)]))) := gw_fr.up hF1 hf_row (show ¬ ((gw_out [2, 3]) 2) by decide) (show ¬ ((gw_out [2, 3]) 2) by decide)
      obtain ⟨M4, eM4⟩ : ∃ z, z = gw_up M2 row 2 (.inr (1, [.ref nums, .int (0 + 1)])) := ⟨_, rfl⟩
      replace hW : gw_P G.1 vwCl G.2.2.2 M4 H := by rw [eM4]; exact hW
      have hf_nums : M4 nums = some (3, .inl (G.2.1 0, 256, .inl (upd (fun _ => 0) (0 : Int32).toNatClampNeg k))) := by rw [eM4]; exact gw_keep hf_nums hf_row (by decide)
      have hf_row : M4 row = some (2, .inr (1, [.ref nums, .int (0 + 1)])) := by rw [eM4]; exact gw_up_self _ _ _ _
      rw [← eM4] at hF3
      exact gw_vret hx hb hr hlocks hS hW (Nat.le_of_ble_eq_true rfl) (Nat.le_of_ble_eq_true rfl) d_Row_put_74 (⟨hf_row, hf_nums, hF3⟩)
    · exact absurd c19 (by decide)
  · exact absurd c9 (by decide)

set_option maxHeartbeats 4000000 in
set_option maxRecDepth 100000 in
theorem c_hold (l : Launch) (G : gw_G) (M : gw_M) (x : Nat) (row : Nat) (nums : Nat) (jobs : Nat) (known : Nat) (nowh : Nat) (gone : Nat) (lim : Int32) (sc : Int32) (hf_x : M x = some (1, .inr (0, [.int lim, .int sc, .int 0, .ref row, .ref jobs, .ref known, .ref nowh, .ref gone, .int 0]))) (hf_row : M row = some (2, .inr (1, [.ref nums, .int (0 + 1)]))) (hlim : ¬ lim < 0 + 1) : Met l y_X_holdToLimit [.code y_X_holdToLimit b_X_holdToLimit 3 none] ({ frames := 0, cells := 0, slots := 0, locals := 0 }) (gw_Pc G M [.ref x]) (gw_Qv G (fun M2 => M = M2)) 0 0 (gw_A G) := by
  refine gw_start (by decide) (Nat.le_of_ble_eq_true rfl) (fun p9 e9 s m b9 mt9 c9 hx hb hr hml hown hlocks hin hE hB hW ls hl => ?_)
  have hts := hE.ts ([.ref x] : List Value).toArray
  have hl : lv_has ls 3 [(0, .ref x)] := hl
  have hS : va_S (gw_A G) s.heap s.heap [] := va_S.rf
  have hown : s.vm.findClass "Generations" = some m.cls := hown
  refine lv_aload_n hx hb d_X_holdToLimit_0 rfl (lv_at hl 0 rfl) ?_
  refine gw_get (ci := 0) (fs := [.int lim, .int sc, .int 0, .ref row, .ref jobs, .ref known, .ref nowh, .ref gone, .int 0]) hx hb hts in_X hown hE.K hW hf_x rfl 3 (by decide) (hts _ mw28) (fun _ h9 => h9) rfl d_X_holdToLimit_1 ?_
  refine gw_getN (ci := 1) (fs := [.ref nums, .int (0 + 1)]) hx hb hts in_Row hown hE.K hW hf_row rfl 1 (by decide) (hts _ mw90) (fun _ h9 => h9) rfl d_X_holdToLimit_4 ?_
  refine lv_aload_n hx hb d_X_holdToLimit_7 rfl (lv_at hl 0 rfl) ?_
  refine gw_get (ci := 0) (fs := [.int lim, .int sc, .int 0, .ref row, .ref jobs, .ref known, .ref nowh, .ref gone, .int 0]) hx hb hts in_X hown hE.K hW hf_x rfl 0 (by decide) (hts _ mw52) (fun _ h9 => h9) rfl d_X_holdToLimit_8 ?_
  refine lv_icmp_gt (tgt := 15) hx hb d_X_holdToLimit_11 (by decide) (fun c11 => ?_) (fun c11 => ?_)
  · exact absurd c11 hlim
  · exact gw_vret hx hb hr hlocks hS hW (Nat.le_of_ble_eq_true rfl) (Nat.le_of_ble_eq_true rfl) d_X_holdToLimit_14 rfl

set_option maxHeartbeats 4000000 in
set_option maxRecDepth 100000 in
theorem c_bring (l : Launch) (G : gw_G) (M : gw_M) (x : Nat) (row : Nat) (nums : Nat) (jobs : Nat) (known : Nat) (nowh : Nat) (gone : Nat) (lim : Int32) (sc : Int32) (g : Nat) (k : Int32) (hf_x : M x = some (1, .inr (0, [.int lim, .int sc, .int 0, .ref row, .ref jobs, .ref known, .ref nowh, .ref gone, .int 0]))) (hf_row : M row = some (2, .inr (1, [.ref nums, .int 0]))) (hf_nums : M nums = some (3, .inl (G.2.1 0, 256, .inl (fun _ => 0)))) (hf_g : M g = some (9, .inr (2, [.int k, .int 0, .int 0, .int 0, .int 0]))) (hlim : ¬ lim < 0 + 1) : Met l y_X_bringIntoRow [.code y_X_bringIntoRow b_X_bringIntoRow 2 none] ({ frames := 1, cells := 0, slots := 0, locals := 22 }) (gw_Pc G M [.ref x, .ref g]) (gw_Qv G (fun M2 => M2 row = some (2, .inr (1, [.ref nums, .int (0 + 1)])) ∧ gw_fr (gw_out [2, 3, 9]) M M2)) 0 0 (gw_A G) := by
  refine gw_start (by decide) (Nat.le_of_ble_eq_true rfl) (fun p9 e9 s m b9 mt9 c9 hx hb hr hml hown hlocks hin hE hB hW ls hl => ?_)
  have hts := hE.ts ([.ref x, .ref g] : List Value).toArray
  have hl : lv_has ls 2 [(0, .ref x), (1, .ref g)] := hl
  have hS : va_S (gw_A G) s.heap s.heap [] := va_S.rf
  have hown : s.vm.findClass "Generations" = some m.cls := hown
  refine lv_aload_n hx hb d_X_bringIntoRow_0 rfl (lv_at hl 1 rfl) ?_
  refine lv_iconst (v := 1) hx hb d_X_bringIntoRow_1 (by decide) ?_
  refine gw_putN (ci := 2) (fs := [.int k, .int 0, .int 0, .int 0, .int 0]) (v := .int 1) (ty := .int) hx hb hts in_Gen t_Gen t_Gen_ok n_Gen hown hE.K hW hS hf_g rfl 1 (by decide) (hts _ mw91) (fun _ h9 => h9) rfl (by decide +kernel) rfl rfl (Nat.le_of_ble_eq_true rfl) d_X_bringIntoRow_2 (fun H locs hW hS => ?_)
  have hF1 : gw_fr (gw_out [2, 3, 9]) M (gw_up M g 9 (.inr (2, [.int k, .int 1, .int 0, .int 0, .int 0]))) := gw_fr.up gw_fr.rf hf_g (show ¬ ((gw_out [2, 3, 9]) 9) by decide) (show ¬ ((gw_out [2, 3, 9]) 9) by decide)
  obtain ⟨M2, eM2⟩ : ∃ z, z = gw_up M g 9 (.inr (2, [.int k, .int 1, .int 0, .int 0, .int 0])) := ⟨_, rfl⟩
  replace hW : gw_P G.1 vwCl G.2.2.2 M2 H := by rw [eM2]; exact hW
  have hf_x : M2 x = some (1, .inr (0, [.int lim, .int sc, .int 0, .ref row, .ref jobs, .ref known, .ref nowh, .ref gone, .int 0])) := by rw [eM2]; exact gw_keep hf_x hf_g (by decide)
  have hf_row : M2 row = some (2, .inr (1, [.ref nums, .int 0])) := by rw [eM2]; exact gw_keep hf_row hf_g (by decide)
  have hf_nums : M2 nums = some (3, .inl (G.2.1 0, 256, .inl (fun _ => 0))) := by rw [eM2]; exact gw_keep hf_nums hf_g (by decide)
  have hf_g : M2 g = some (9, .inr (2, [.int k, .int 1, .int 0, .int 0, .int 0])) := by rw [eM2]; exact gw_up_self _ _ _ _
  rw [← eM2] at hF1
  refine lv_aload_n hx hb d_X_bringIntoRow_5 rfl (lv_at hl 0 rfl) ?_
  refine gw_get (ci := 0) (fs := [.int lim, .int sc, .int 0, .ref row, .ref jobs, .ref known, .ref nowh, .ref gone, .int 0]) hx hb hts in_X hown hE.K hW hf_x rfl 3 (by decide) (hts _ mw28) (fun _ h9 => h9) rfl d_X_bringIntoRow_6 ?_
  refine lv_aload_n hx hb d_X_bringIntoRow_9 rfl (lv_at hl 1 rfl) ?_
  refine gw_getN (ci := 2) (fs := [.int k, .int 1, .int 0, .int 0, .int 0]) hx hb hts in_Gen hown hE.K hW hf_g rfl 0 (by decide) (hts _ mw84) (fun _ h9 => h9) rfl d_X_bringIntoRow_10 ?_
  refine gw_callv hS (va_runVN (As := [.int k]) (rest := []) ⟨hx, hb, hml, hown, hts⟩ (c_Row_put l G M2 row nums k hf_row hf_nums ) ⟨va_cnB 1 hts (gw_g1 mw92) rfl rfl rfl (hE.nw mw93) (hts _ mw24) (by decide +kernel) ⟨Nat.le_of_ble_eq_true rfl, Nat.le_of_ble_eq_true rfl⟩, hts _ mw94, hts _ mw95⟩ (gw_pv hE hB hS hW rfl hf_row) rfl rfl hl.1 rfl (lv_room (Nat.le_of_ble_eq_true rfl)) d_X_bringIntoRow_13 ⟨Nat.le_of_ble_eq_true rfl, Nat.le_of_ble_eq_true rfl⟩) (fun M4 H locs hw5 hW hS => ?_)
  obtain ⟨hf_row', hf_nums', hfr6⟩ := hw5
  have hf_x : M4 x = some (1, .inr (0, [.int lim, .int sc, .int 0, .ref row, .ref jobs, .ref known, .ref nowh, .ref gone, .int 0])) := (hfr6 _ _ _ (by decide)).mp hf_x
  have hf_g : M4 g = some (9, .inr (2, [.int k, .int 1, .int 0, .int 0, .int 0])) := (hfr6 _ _ _ (by decide)).mp hf_g
  have hf_row : M4 row = some (2, .inr (1, [.ref nums, .int (0 + 1)])) := hf_row'
  have hf_nums : M4 nums = some (3, .inl (G.2.1 0, 256, .inl (upd (fun _ => 0) (0 : Int32).toNatClampNeg k))) := hf_nums'
  have hF7 : gw_fr (gw_out [2, 3, 9]) M M4 := gw_fr.tr hF1 (gw_fr.wk hfr6 (by decide))
  refine lv_aload_n hx hb d_X_bringIntoRow_16 rfl (lv_at hl 0 rfl) ?_
  refine gw_callv hS (va_runV (As := []) (rest := []) ⟨hx, hb, hml, hown, hts⟩ (c_hold l G M4 x row nums jobs known nowh gone lim sc hf_x hf_row (by assumption)) (cwV 0 hts (gw_gv mw97 mw98 mw99 mw83 mw96) rfl rfl rfl (by decide +kernel) ⟨Nat.le_of_ble_eq_true rfl, Nat.le_of_ble_eq_true rfl⟩) (gw_pv hE hB hS hW rfl hf_x) rfl rfl hl.1 rfl (lv_room (Nat.le_of_ble_eq_true rfl)) d_X_bringIntoRow_17 ⟨Nat.le_of_ble_eq_true rfl, Nat.le_of_ble_eq_true rfl⟩) (fun M9 H locs hw10 hW hS => ?_)
  obtain rfl := hw10
  exact gw_vret hx hb hr hlocks hS hW (Nat.le_of_ble_eq_true rfl) (Nat.le_of_ble_eq_true rfl) d_X_bringIntoRow_20 (⟨hf_row, hF7⟩)

set_option maxHeartbeats 4000000 in
set_option maxRecDepth 100000 in
theorem c_catalogue (l : Launch) (G : gw_G) (M : gw_M) (x : Nat) (row : Nat) (nums : Nat) (jobs : Nat) (known : Nat) (nowh : Nat) (gone : Nat) (lim : Int32) (sc : Int32) (k : Int32) (hf_x : M x = some (1, .inr (0, [.int lim, .int sc, .int 0, .ref row, .ref jobs, .ref known, .ref nowh, .ref gone, .int 0]))) (hf_row : M row = some (2, .inr (1, [.ref nums, .int 0]))) (hf_nums : M nums = some (3, .inl (G.2.1 0, 256, .inl (fun _ => 0)))) (hf_known : M known = some (5, .inr (4, [.int 0, .ref (G.2.2.1 0), .int 0]))) (hf_nowh : M nowh = some (12, .inr (2, [.int 0, .int 0, .int 0, .int 0, .int 0]))) (hlim : ¬ lim < 0 + 1) : Met l y_X_catalogue [.code y_X_catalogue b_X_catalogue 3 (some .int)] ({ frames := 6, cells := 2, slots := 15, locals := 123 }) (gw_Pc G M [.ref x, .int k]) (gw_Qi G (fun r M2 => gx_cat k = r ∧ gw_fr (gw_out [2, 3, 5, 7, 9]) M M2)) 2 15 (gw_A G) := by
  refine gw_start (by decide) (Nat.le_of_ble_eq_true rfl) (fun p9 e9 s m b9 mt9 c9 hx hb hr hml hown hlocks hin hE hB hW ls hl => ?_)
  have hts := hE.ts ([.ref x, .int k] : List Value).toArray
  have hl : lv_has ls 3 [(0, .ref x), (1, .int k)] := hl
  have hS : va_S (gw_A G) s.heap s.heap [] := va_S.rf
  have hown : s.vm.findClass "Generations" = some m.cls := hown
  refine lv_iload_n hx hb d_X_catalogue_0 rfl (lv_at hl 1 rfl) ?_
  refine gw_calli hS (va_runS (As := [.int k]) (rest := []) ⟨hx, hb, hml, hown, hts⟩ (c_isNumber l G M k  ) (cwS 1 hts (gw_gs mw101 mw102 mw83 mw100) rfl rfl rfl (by decide +kernel) ⟨Nat.le_of_ble_eq_true rfl, Nat.le_of_ble_eq_true rfl⟩) (gw_ps hE hB hS hW) rfl rfl hl.1 rfl (lv_room (Nat.le_of_ble_eq_true rfl)) d_X_catalogue_1 ⟨Nat.le_of_ble_eq_true rfl, Nat.le_of_ble_eq_true rfl⟩) (fun r1 M2 H locs hw3 hW hS => ?_)
  obtain ⟨rfl, rfl⟩ := hw3
  refine lv_if_ne (tgt := 9) hx hb d_X_catalogue_4 (by decide) (fun c4 => ?_) (fun c4 => ?_)
  · refine lv_aload_n hx hb d_X_catalogue_9 rfl (lv_at hl 0 rfl) ?_
    refine lv_iload_n hx hb d_X_catalogue_10 rfl (lv_at hl 1 rfl) ?_
    refine gw_callr hS (va_runV (As := [.int k]) (rest := []) ⟨hx, hb, hml, hown, hts⟩ (c_find l G M x row jobs known nowh gone lim sc k hf_x hf_known ) (cwV 1 hts (gw_gv mw80 mw81 mw82 mw83 mw79) rfl rfl rfl (by decide +kernel) ⟨Nat.le_of_ble_eq_true rfl, Nat.le_of_ble_eq_true rfl⟩) (gw_pv hE hB hS hW rfl hf_x) rfl rfl hl.1 rfl (lv_room (Nat.le_of_ble_eq_true rfl)) d_X_catalogue_11 ⟨Nat.le_of_ble_eq_true rfl, Nat.le_of_ble_eq_true rfl⟩) (fun r4 M5 H locs hw6 hW hS => ?_)
    obtain ⟨rfl, rfl⟩ := hw6
    refine lv_astore_n (lv' := [(2, .ref nowh), (0, .ref x), (1, .int k)]) hx hb d_X_catalogue_14 rfl hl (by decide) rfl (fun ls hl => ?_)
    refine lv_aload_n hx hb d_X_catalogue_15 rfl (lv_at hl 0 rfl) ?_
    refine gw_getN (ci := 2) (fs := [.int 0, .int 0, .int 0, .int 0, .int 0]) hx hb hts in_Gen hown hE.K hW hf_nowh rfl 1 (by decide) (hts _ mw91) (fun _ h9 => h9) rfl d_X_catalogue_16 ?_
    refine lv_iconst (v := 1) hx hb d_X_catalogue_19 (by decide) ?_
    refine lv_icmp_eq (tgt := 30) hx hb d_X_catalogue_20 (by decide) (fun c20 => ?_) (fun c20 => ?_)
    · exact absurd c20 (by decide)
    · refine lv_aload_n hx hb d_X_catalogue_23 rfl (lv_at hl 0 rfl) ?_
      refine gw_calli hS (va_runVN (As := []) (rest := []) ⟨hx, hb, hml, hown, hts⟩ (c_isDeferred l G M nowh 12 hf_nowh ) ⟨va_cnB 0 hts (gw_g1 mw103) rfl rfl rfl (hE.nw mw104) (hts _ mw39) (by decide +kernel) ⟨Nat.le_of_ble_eq_true rfl, Nat.le_of_ble_eq_true rfl⟩, hts _ mw105, hts _ mw106⟩ (gw_pv hE hB hS hW rfl hf_nowh) rfl rfl hl.1 rfl (lv_room (Nat.le_of_ble_eq_true rfl)) d_X_catalogue_24 ⟨Nat.le_of_ble_eq_true rfl, Nat.le_of_ble_eq_true rfl⟩) (fun r7 M8 H locs hw9 hW hS => ?_)
      obtain ⟨rfl, rfl⟩ := hw9
      refine lv_if_eq (tgt := 32) hx hb d_X_catalogue_27 (by decide) (fun c27 => ?_) (fun c27 => ?_)
      · refine lv_aload_n hx hb d_X_catalogue_32 rfl (lv_at hl 0 rfl) ?_
        refine gw_getN (ci := 2) (fs := [.int 0, .int 0, .int 0, .int 0, .int 0]) hx hb hts in_Gen hown hE.K hW hf_nowh rfl 1 (by decide) (hts _ mw91) (fun _ h9 => h9) rfl d_X_catalogue_33 ?_
        refine lv_if_ne (tgt := 50) hx hb d_X_catalogue_36 (by decide) (fun c36 => ?_) (fun c36 => ?_)
        · exact absurd c36 (by decide)
        · refine lv_aload_n hx hb d_X_catalogue_39 rfl (lv_at hl 1 rfl) ?_
          refine lv_iload_n hx hb d_X_catalogue_40 rfl (lv_at hl 2 rfl) ?_
          refine gw_callr hS (va_runV (As := [.int k]) (rest := []) ⟨hx, hb, hml, hown, hts⟩ (c_placeFor l G M x row jobs known nowh gone lim sc k hf_x hf_known hf_nowh (gx_ne0 c4)) (cwV 1 hts (gw_gv mw108 mw109 mw110 mw83 mw107) rfl rfl rfl (by decide +kernel) ⟨Nat.le_of_ble_eq_true rfl, Nat.le_of_ble_eq_true rfl⟩) (gw_pv hE hB hS hW rfl hf_x) rfl rfl hl.1 rfl (lv_room (Nat.le_of_ble_eq_true rfl)) d_X_catalogue_41 ⟨Nat.le_of_ble_eq_true rfl, Nat.le_of_ble_eq_true rfl⟩) (fun r10 M11 H locs hw12 hW hS => ?_)
          refine W.widen (k := 2) (n := 15) (Nat.le_refl _) (Nat.le_refl _) ?_
          obtain ⟨g13, rfl, hf_g13', hfr14⟩ := hw12
          have hf_x : M11 x = some (1, .inr (0, [.int lim, .int sc, .int 0, .ref row, .ref jobs, .ref known, .ref nowh, .ref gone, .int 0])) := (hfr14 _ _ _ (by decide)).mp hf_x
          have hf_row : M11 row = some (2, .inr (1, [.ref nums, .int 0])) := (hfr14 _ _ _ (by decide)).mp hf_row
          have hf_nums : M11 nums = some (3, .inl (G.2.1 0, 256, .inl (fun _ => 0))) := (hfr14 _ _ _ (by decide)).mp hf_nums
          have hf_nowh : M11 nowh = some (12, .inr (2, [.int 0, .int 0, .int 0, .int 0, .int 0])) := (hfr14 _ _ _ (by decide)).mp hf_nowh
          have hf_g13 : M11 g13 = some (9, .inr (2, [.int k, .int 0, .int 0, .int 0, .int 0])) := hf_g13'
          have hF15 : gw_fr (gw_out [2, 3, 5, 7, 9]) M M11 := gw_fr.tr gw_fr.rf (gw_fr.wk hfr14 (by decide))
          refine lv_astore_n (lv' := [(2, .ref g13), (0, .ref x), (1, .int k)]) hx hb d_X_catalogue_44 rfl hl (by decide) rfl (fun ls hl => ?_)
          refine lv_aload_n hx hb d_X_catalogue_45 rfl (lv_at hl 0 rfl) ?_
          refine lv_iconst (v := 0) hx hb d_X_catalogue_46 (by decide) ?_
          refine gw_callv hS (va_runVN (As := [.int 0]) (rest := []) ⟨hx, hb, hml, hown, hts⟩ (c_beginAnew l G M11 g13 k hf_g13 ) ⟨va_cnB 1 hts (gw_g1 mw111) rfl rfl rfl (hE.nw mw112) (hts _ mw39) (by decide +kernel) ⟨Nat.le_of_ble_eq_true rfl, Nat.le_of_ble_eq_true rfl⟩, hts _ mw113, hts _ mw114⟩ (gw_pv hE hB hS hW rfl hf_g13) rfl rfl hl.1 rfl (lv_room (Nat.le_of_ble_eq_true rfl)) d_X_catalogue_47 ⟨Nat.le_of_ble_eq_true rfl, Nat.le_of_ble_eq_true rfl⟩) (fun M17 H locs hw18 hW hS => ?_)
          obtain ⟨hf_g13', hfr19⟩ := hw18
          have hf_x : M17 x = some (1, .inr (0, [.int lim, .int sc, .int 0, .ref row, .ref jobs, .ref known, .ref nowh, .ref gone, .int 0])) := (hfr19 _ _ _ (by decide)).mp hf_x
          have hf_row : M17 row = some (2, .inr (1, [.ref nums, .int 0])) := (hfr19 _ _ _ (by decide)).mp hf_row
          have hf_nums : M17 nums = some (3, .inl (G.2.1 0, 256, .inl (fun _ => 0))) := (hfr19 _ _ _ (by decide)).mp hf_nums
          have hf_nowh : M17 nowh = some (12, .inr (2, [.int 0, .int 0, .int 0, .int 0, .int 0])) := (hfr19 _ _ _ (by decide)).mp hf_nowh
          have hf_g13 : M17 g13 = some (9, .inr (2, [.int k, .int 0, .int 0, .int 0, .int 0])) := hf_g13'
          have hF20 : gw_fr (gw_out [2, 3, 5, 7, 9]) M M17 := gw_fr.tr hF15 (gw_fr.wk hfr19 (by decide))
          refine lv_aload_n hx hb d_X_catalogue_50 rfl (lv_at hl 1 rfl) ?_
          refine lv_aload_n hx hb d_X_catalogue_51 rfl (lv_at hl 0 rfl) ?_
          refine gw_callv hS (va_runV (As := [.ref g13]) (rest := []) ⟨hx, hb, hml, hown, hts⟩ (c_bring l G M17 x row nums jobs known nowh gone lim sc g13 k hf_x hf_row hf_nums hf_g13 (by assumption)) (cwV 1 hts (gw_gv mw116 mw117 mw118 mw83 mw115) rfl rfl rfl (by decide +kernel) ⟨Nat.le_of_ble_eq_true rfl, Nat.le_of_ble_eq_true rfl⟩) (gw_pv hE hB hS hW rfl hf_x) rfl rfl hl.1 rfl (lv_room (Nat.le_of_ble_eq_true rfl)) d_X_catalogue_52 ⟨Nat.le_of_ble_eq_true rfl, Nat.le_of_ble_eq_true rfl⟩) (fun M22 H locs hw23 hW hS => ?_)
          obtain ⟨hf_row', hfr24⟩ := hw23
          have hf_x : M22 x = some (1, .inr (0, [.int lim, .int sc, .int 0, .ref row, .ref jobs, .ref known, .ref nowh, .ref gone, .int 0])) := (hfr24 _ _ _ (by decide)).mp hf_x
          have hf_nowh : M22 nowh = some (12, .inr (2, [.int 0, .int 0, .int 0, .int 0, .int 0])) := (hfr24 _ _ _ (by decide)).mp hf_nowh
          have hf_row : M22 row = some (2, .inr (1, [.ref nums, .int (0 + 1)])) := hf_row'
          have hF25 : gw_fr (gw_out [2, 3, 5, 7, 9]) M M22 := gw_fr.tr hF20 (gw_fr.wk hfr24 (by decide))
          refine lv_aload_n hx hb d_X_catalogue_55 rfl (lv_at hl 1 rfl) ?_
          refine gw_get (ci := 0) (fs := [.int lim, .int sc, .int 0, .ref row, .ref jobs, .ref known, .ref nowh, .ref gone, .int 0]) hx hb hts in_X hown hE.K hW hf_x rfl 3 (by decide) (hts _ mw28) (fun _ h9 => h9) rfl d_X_catalogue_56 ?_
          refine gw_getN (ci := 1) (fs := [.ref nums, .int (0 + 1)]) hx hb hts in_Row hown hE.K hW hf_row rfl 1 (by decide) (hts _ mw90) (fun _ h9 => h9) rfl d_X_catalogue_59 ?_
          exact gw_iret hx hb hr hlocks hS hW (Nat.le_of_ble_eq_true rfl) (Nat.le_of_ble_eq_true rfl) d_X_catalogue_62 (⟨((gx_cat1 c4).trans (by decide)), hF25⟩)
      · exact absurd c27 (by decide)
  · refine lv_iconst (v := -1) hx hb d_X_catalogue_7 (by decide) ?_
    exact gw_iret hx hb hr hlocks hS hW (Nat.le_of_ble_eq_true rfl) (Nat.le_of_ble_eq_true rfl) d_X_catalogue_8 (⟨(gx_cat0 c4), gw_fr.rf⟩)
end
section
abbrev b_Ars_copyOf : ByteArray := prog_20_method_123_code
abbrev y_Ars_copyOf : MethodName := ⟨"java/util/Arrays", "copyOf", "([II)[I"⟩
abbrev b_Row_copy : ByteArray := prog_4_method_3_code
abbrev y_Row_copy : MethodName := ⟨"Generations$Row", "copy", "()[I"⟩
abbrev b_Job_init : ByteArray := prog_3_method_1_code
abbrev y_Job_init : MethodName := ⟨"Generations$Job", "<init>", "([I)V"⟩
abbrev b_X_job : ByteArray := prog_1_method_3_code
abbrev y_X_job : MethodName := ⟨"Generations", "job", "()I"⟩
set_option maxRecDepth 20000 in
theorem mw119 : (Cond.methodLink "java/util/Arrays" (304 : Nat) ({ cls := "java/lang/Math", name := "min", desc := "(II)I" } : Jvm.MethodName)) ∈ gw_N0 := gw_in (List.mem_append_right _ (gw_tm (i := 210) rfl))
set_option maxRecDepth 20000 in
theorem mw120 : (Cond.methodLink "java/util/Arrays" (150 : Nat) ({ cls := "java/lang/System", name := "arraycopy", desc := "(Ljava/lang/Object;ILjava/lang/Object;II)V" } : Jvm.MethodName)) ∈ gw_N0 := gw_in (List.mem_append_right _ (gw_tm (i := 211) rfl))
set_option maxRecDepth 20000 in
theorem mw121 : (Cond.native ({ cls := "java/lang/System", name := "arraycopy", desc := "(Ljava/lang/Object;ILjava/lang/Object;II)V" } : Jvm.MethodName)) ∈ gw_N0 := gw_in (List.mem_append_right _ (gw_tm (i := 213) rfl))
set_option maxRecDepth 20000 in
theorem mw122 : (Cond.static ({ cls := "java/lang/System", name := "arraycopy", desc := "(Ljava/lang/Object;ILjava/lang/Object;II)V" } : Jvm.MethodName)) ∈ gw_N0 := gw_in (List.mem_append_right _ (gw_tm (i := 212) rfl))
set_option maxRecDepth 20000 in
theorem mw123 : (Cond.initialized "java/lang/System") ∈ gw_N0 := gw_in (List.mem_append_right _ (gw_tm (i := 13) rfl))
set_option maxRecDepth 20000 in
theorem mw124 : (Cond.code ({ cls := "java/util/Arrays", name := "copyOf", desc := "([II)[I" } : Jvm.MethodName) prog_20_method_123_code (3 : Nat) (Option.some (Jvm.ClassFile.FieldType.array Jvm.ClassFile.FieldType.int))) ∈ gw_N0 := gw_in (List.mem_append_right _ (gw_tm (i := 263) rfl))
set_option maxRecDepth 20000 in
theorem mw125 : (Cond.methodLink "Generations$Row" (19 : Nat) ({ cls := "java/util/Arrays", name := "copyOf", desc := "([II)[I" } : Jvm.MethodName)) ∈ gw_N0 := gw_in (List.mem_append_right _ (gw_tm (i := 261) rfl))
set_option maxRecDepth 20000 in
theorem mw126 : (Cond.static ({ cls := "java/util/Arrays", name := "copyOf", desc := "([II)[I" } : Jvm.MethodName)) ∈ gw_N0 := gw_in (List.mem_append_right _ (gw_tm (i := 262) rfl))
set_option maxRecDepth 20000 in
theorem mw127 : (Cond.initialized "java/util/Arrays") ∈ gw_N0 := gw_in (List.mem_append_right _ (gw_tm (i := 12) rfl))
set_option maxRecDepth 20000 in
theorem mw128 : (Cond.methodLink "Generations$Job" (3 : Nat) ({ cls := "java/lang/Object", name := "<init>", desc := "()V" } : Jvm.MethodName)) ∈ gw_N0 := gw_in (List.mem_append_right _ (gw_tm (i := 274) rfl))
set_option maxRecDepth 20000 in
theorem mw129 : (Cond.fieldLink "Generations$Job" (9 : Nat) "Generations$Job" "rowThen" "[I") ∈ gw_N0 := gw_in (List.mem_append_right _ (gw_tm (i := 275) rfl))
set_option maxRecDepth 20000 in
theorem mw130 : (Cond.classLink "Generations" (87 : Nat) "Generations$Job") ∈ gw_N0 := gw_in (List.mem_append_right _ (gw_tm (i := 255) rfl))
set_option maxRecDepth 20000 in
theorem mw131 : (Cond.instantiable "Generations$Job" (2 : Nat)) ∈ gw_N0 := gw_in (List.mem_append_right _ (gw_tm (i := 256) rfl))
set_option maxRecDepth 20000 in
theorem mw132 : (Cond.initialized "Generations$Job") ∈ gw_N0 := gw_in (List.mem_append_right _ (gw_tm (i := 14) rfl))
set_option maxRecDepth 20000 in
theorem mw133 : (Cond.code ({ cls := "Generations$Row", name := "copy", desc := "()[I" } : Jvm.MethodName) prog_4_method_3_code (1 : Nat) (Option.some (Jvm.ClassFile.FieldType.array Jvm.ClassFile.FieldType.int))) ∈ gw_N0 := gw_in (List.mem_append_right _ (gw_tm (i := 260) rfl))
set_option maxRecDepth 20000 in
theorem mw134 : (Cond.methodLinkNest "Generations" (89 : Nat) ({ cls := "Generations$Row", name := "copy", desc := "()[I" } : Jvm.MethodName) "Generations") ∈ gw_N0 := gw_in (List.mem_append_right _ (gw_tm (i := 257) rfl))
set_option maxRecDepth 20000 in
theorem mw135 : (Cond.instanceMethod ({ cls := "Generations$Row", name := "copy", desc := "()[I" } : Jvm.MethodName)) ∈ gw_N0 := gw_in (List.mem_append_right _ (gw_tm (i := 259) rfl))
set_option maxRecDepth 20000 in
theorem mw136 : (Cond.selects "Generations$Row" ⟨"Generations$Row", "copy", "()[I"⟩ ⟨"Generations$Row", "copy", "()[I"⟩) ∈ gw_N0 := gw_in (List.mem_append_left _ (List.mem_of_getElem? (i := 13) rfl))
set_option maxRecDepth 20000 in
theorem mw137 : (Cond.code ({ cls := "Generations$Job", name := "<init>", desc := "([I)V" } : Jvm.MethodName) prog_3_method_1_code (2 : Nat) (Option.none : Option Jvm.ClassFile.FieldType)) ∈ gw_N0 := gw_in (List.mem_append_right _ (gw_tm (i := 273) rfl))
set_option maxRecDepth 20000 in
theorem mw138 : (Cond.methodLinkNest "Generations" (93 : Nat) ({ cls := "Generations$Job", name := "<init>", desc := "([I)V" } : Jvm.MethodName) "Generations") ∈ gw_N0 := gw_in (List.mem_append_right _ (gw_tm (i := 271) rfl))
set_option maxRecDepth 20000 in
theorem mw139 : (Cond.instanceMethod ({ cls := "Generations$Job", name := "<init>", desc := "([I)V" } : Jvm.MethodName)) ∈ gw_N0 := gw_in (List.mem_append_right _ (gw_tm (i := 272) rfl))
end
section
theorem d_Ars_copyOf_0 : decode b_Ars_copyOf 0 = .ok (.iload_n 1, 1) := by decide +kernel
theorem d_Ars_copyOf_1 : decode b_Ars_copyOf 1 = .ok (.aload_n 0, 1) := by decide +kernel
theorem d_Ars_copyOf_2 : decode b_Ars_copyOf 2 = .ok (.arraylength, 1) := by decide +kernel
theorem d_Ars_copyOf_3 : decode b_Ars_copyOf 3 = .ok (.if_icmp .ne 11, 3) := by decide +kernel
theorem d_Ars_copyOf_14 : decode b_Ars_copyOf 14 = .ok (.iload_n 1, 1) := by decide +kernel
theorem d_Ars_copyOf_15 : decode b_Ars_copyOf 15 = .ok (.newarray .int, 2) := by decide +kernel
theorem d_Ars_copyOf_17 : decode b_Ars_copyOf 17 = .ok (.astore_n 2, 1) := by decide +kernel
theorem d_Ars_copyOf_18 : decode b_Ars_copyOf 18 = .ok (.aload_n 0, 1) := by decide +kernel
theorem d_Ars_copyOf_19 : decode b_Ars_copyOf 19 = .ok (.iconst 0, 1) := by decide +kernel
theorem d_Ars_copyOf_20 : decode b_Ars_copyOf 20 = .ok (.aload_n 2, 1) := by decide +kernel
theorem d_Ars_copyOf_21 : decode b_Ars_copyOf 21 = .ok (.iconst 0, 1) := by decide +kernel
theorem d_Ars_copyOf_22 : decode b_Ars_copyOf 22 = .ok (.aload_n 0, 1) := by decide +kernel
theorem d_Ars_copyOf_23 : decode b_Ars_copyOf 23 = .ok (.arraylength, 1) := by decide +kernel
theorem d_Ars_copyOf_24 : decode b_Ars_copyOf 24 = .ok (.iload_n 1, 1) := by decide +kernel
theorem d_Ars_copyOf_25 : decode b_Ars_copyOf 25 = .ok (.invokestatic 304, 3) := by decide +kernel
theorem d_Ars_copyOf_28 : decode b_Ars_copyOf 28 = .ok (.invokestatic 150, 3) := by decide +kernel
theorem d_Ars_copyOf_31 : decode b_Ars_copyOf 31 = .ok (.aload_n 2, 1) := by decide +kernel
theorem d_Ars_copyOf_32 : decode b_Ars_copyOf 32 = .ok (.areturn, 1) := by decide +kernel
theorem d_Row_copy_0 : decode b_Row_copy 0 = .ok (.aload_n 0, 1) := by decide +kernel
theorem d_Row_copy_1 : decode b_Row_copy 1 = .ok (.getfield 9, 3) := by decide +kernel
theorem d_Row_copy_4 : decode b_Row_copy 4 = .ok (.aload_n 0, 1) := by decide +kernel
theorem d_Row_copy_5 : decode b_Row_copy 5 = .ok (.getfield 15, 3) := by decide +kernel
theorem d_Row_copy_8 : decode b_Row_copy 8 = .ok (.invokestatic 19, 3) := by decide +kernel
theorem d_Row_copy_11 : decode b_Row_copy 11 = .ok (.areturn, 1) := by decide +kernel
theorem d_Job_init_0 : decode b_Job_init 0 = .ok (.aload_n 0, 1) := by decide +kernel
theorem d_Job_init_1 : decode b_Job_init 1 = .ok (.invokespecial 3, 3) := by decide +kernel
theorem d_Job_init_4 : decode b_Job_init 4 = .ok (.aload_n 0, 1) := by decide +kernel
theorem d_Job_init_5 : decode b_Job_init 5 = .ok (.aload_n 1, 1) := by decide +kernel
theorem d_Job_init_6 : decode b_Job_init 6 = .ok (.putfield 9, 3) := by decide +kernel
theorem d_Job_init_9 : decode b_Job_init 9 = .ok (.return_, 1) := by decide +kernel
theorem d_X_job_0 : decode b_X_job 0 = .ok (.aload_n 0, 1) := by decide +kernel
theorem d_X_job_1 : decode b_X_job 1 = .ok (.getfield 19, 3) := by decide +kernel
theorem d_X_job_4 : decode b_X_job 4 = .ok (.invokevirtual 84, 3) := by decide +kernel
theorem d_X_job_7 : decode b_X_job 7 = .ok (.bipush 40, 2) := by decide +kernel
theorem d_X_job_9 : decode b_X_job 9 = .ok (.if_icmp .lt 5, 3) := by decide +kernel
theorem d_X_job_14 : decode b_X_job 14 = .ok (.aload_n 0, 1) := by decide +kernel
theorem d_X_job_15 : decode b_X_job 15 = .ok (.getfield 19, 3) := by decide +kernel
theorem d_X_job_18 : decode b_X_job 18 = .ok (.new 87, 3) := by decide +kernel
theorem d_X_job_21 : decode b_X_job 21 = .ok (.dup, 1) := by decide +kernel
theorem d_X_job_22 : decode b_X_job 22 = .ok (.aload_n 0, 1) := by decide +kernel
theorem d_X_job_23 : decode b_X_job 23 = .ok (.getfield 10, 3) := by decide +kernel
theorem d_X_job_26 : decode b_X_job 26 = .ok (.invokevirtual 89, 3) := by decide +kernel
theorem d_X_job_29 : decode b_X_job 29 = .ok (.invokespecial 93, 3) := by decide +kernel
theorem d_X_job_32 : decode b_X_job 32 = .ok (.invokevirtual 96, 3) := by decide +kernel
theorem d_X_job_35 : decode b_X_job 35 = .ok (.pop, 1) := by decide +kernel
theorem d_X_job_36 : decode b_X_job 36 = .ok (.aload_n 0, 1) := by decide +kernel
theorem d_X_job_37 : decode b_X_job 37 = .ok (.getfield 19, 3) := by decide +kernel
theorem d_X_job_40 : decode b_X_job 40 = .ok (.invokevirtual 84, 3) := by decide +kernel
theorem d_X_job_43 : decode b_X_job 43 = .ok (.ireturn, 1) := by decide +kernel
end
section
set_option maxHeartbeats 4000000 in
set_option maxRecDepth 100000 in
theorem c_copyOf (l : Launch) (G : gw_G) (M : gw_M) (nums : Nat) (hf_nums : M nums = some (3, .inl (G.2.1 0, 256, .inl (fun _ => 0)))) : Met l y_Ars_copyOf [.code y_Ars_copyOf b_Ars_copyOf 3 (some (.array .int))] ({ frames := 1, cells := 1, slots := 0, locals := 40 }) (gw_Pc G M [.ref nums, .int 0]) (gw_Qr G (fun r M2 => ∃ (c : Nat) (cf : Nat → Int32), c = r ∧ M2 c = some (11, .inl (G.2.1 0, 0, .inl cf)) ∧ gw_fr (gw_out [11]) M M2)) 1 0 (gw_A G) := by
  refine gw_start (by decide) (Nat.le_of_ble_eq_true rfl) (fun p9 e9 s m b9 mt9 c9 hx hb hr hml hown hlocks hin hE hB hW ls hl => ?_)
  have hts := hE.ts ([.ref nums, .int 0] : List Value).toArray
  have hl : lv_has ls 3 [(0, .ref nums), (1, .int 0)] := hl
  have hS : va_S (gw_A G) s.heap s.heap [] := va_S.rf
  have hown : s.vm.findClass "java/util/Arrays" = some m.cls := hown
  refine lv_iload_n hx hb d_Ars_copyOf_0 rfl (lv_at hl 1 rfl) ?_
  refine lv_aload_n hx hb d_Ars_copyOf_1 rfl (lv_at hl 0 rfl) ?_
  refine gw_alen (v := 256) hx hb hE.K hW 0 hf_nums rfl rfl d_Ars_copyOf_2 ?_
  refine lv_icmp_ne (tgt := 14) hx hb d_Ars_copyOf_3 (by decide) (fun c3 => ?_) (fun c3 => ?_)
  · refine lv_iload_n hx hb d_Ars_copyOf_14 rfl (lv_at hl 1 rfl) ?_
    refine gw_newa (atype := .int) (ty := .int) (n := 0) (a0 := (0, .inl (fun _ => 0))) (N' := 0) hx hb (hts (.arrayClass .int) mw3) rfl hE.K hW hS hB (gw_zi 0) (by decide) (by decide) (Nat.le_of_ble_eq_true rfl) (Nat.le_of_ble_eq_true rfl) (Nat.le_of_ble_eq_true rfl) d_Ars_copyOf_15 0 rfl (fun cA h1 h2 => gw_ri _ _ h1 h2) 11 (fun q1 H hq2 hW hS => ?_)
    refine W.widen (k := 1) (n := 0) (Nat.le_refl _) (Nat.le_refl _) ?_
    have hF3 : gw_fr (gw_out [11]) M (gw_up M q1 11 (.inl (G.2.1 0, 0, .inl (fun _ => 0)))) := gw_fr.new gw_fr.rf hq2 (show ¬ ((gw_out [11]) 11) by decide)
    obtain ⟨M4, eM4⟩ : ∃ z, z = gw_up M q1 11 (.inl (G.2.1 0, 0, .inl (fun _ => 0))) := ⟨_, rfl⟩
    replace hW : gw_P G.1 vwCl G.2.2.2 M4 H := by rw [eM4]; exact hW
    have hf_nums : M4 nums = some (3, .inl (G.2.1 0, 256, .inl (fun _ => 0))) := by rw [eM4]; exact gw_keepN hf_nums hq2
    have hf_q1 : M4 q1 = some (11, .inl (G.2.1 0, 0, .inl (fun _ => 0))) := by rw [eM4]; exact gw_up_self _ _ _ _
    rw [← eM4] at hF3
    refine lv_astore_n (lv' := [(2, .ref q1), (0, .ref nums), (1, .int 0)]) hx hb d_Ars_copyOf_17 rfl hl (by decide) rfl (fun ls hl => ?_)
    refine lv_aload_n hx hb d_Ars_copyOf_18 rfl (lv_at hl 1 rfl) ?_
    refine lv_iconst (v := 0) hx hb d_Ars_copyOf_19 (by decide) ?_
    refine lv_aload_n hx hb d_Ars_copyOf_20 rfl (lv_at hl 0 rfl) ?_
    refine lv_iconst (v := 0) hx hb d_Ars_copyOf_21 (by decide) ?_
    refine lv_aload_n hx hb d_Ars_copyOf_22 rfl (lv_at hl 1 rfl) ?_
    refine gw_alen (v := 256) hx hb hE.K hW 0 hf_nums rfl rfl d_Ars_copyOf_23 ?_
    refine lv_iload_n hx hb d_Ars_copyOf_24 rfl (lv_at hl 2 rfl) ?_
    refine va_mmin (x := 256) (y := 0) hx hb (hml.trans hl.1.symm) hown (hts _ mw119) (hts _ mw46) (hts _ mw47) (hts _ mw48) (Nat.le_of_ble_eq_true rfl) (Nat.le_of_ble_eq_true rfl) (Nat.le_of_ble_eq_true rfl) (Nat.le_of_ble_eq_true rfl) d_Ars_copyOf_25 ?_
    refine gw_copyi (sp := 0) (dp := 0) (n := if 0 < 256 then 0 else 256) hx hb (hml.trans hl.1.symm) hown (hts _ mw120) (hts _ mw121) (hts _ mw122) (hts _ mw123) hE.K hW hS 0 0 hf_nums hf_q1 rfl rfl (by decide) (by decide) (by decide) (by decide) (by decide) (Nat.le_of_ble_eq_true rfl) (Nat.le_of_ble_eq_true rfl) d_Ars_copyOf_28 (fun H locs hW hS => ?_)
    have hF5 : gw_fr (gw_out [11]) M (gw_up M4 q1 11 (.inl (G.2.1 0, 0, .inl (va_cpy (fun _ => 0) (fun _ => 0) (0 : Int32).toNatClampNeg (0 : Int32).toNatClampNeg (if 0 < 256 then 0 else 256 : Int32).toNatClampNeg)))) := gw_fr.up hF3 hf_q1 (show ¬ ((gw_out [11]) 11) by decide) (show ¬ ((gw_out [11]) 11) by decide)
    obtain ⟨M6, eM6⟩ : ∃ z, z = gw_up M4 q1 11 (.inl (G.2.1 0, 0, .inl (va_cpy (fun _ => 0) (fun _ => 0) (0 : Int32).toNatClampNeg (0 : Int32).toNatClampNeg (if 0 < 256 then 0 else 256 : Int32).toNatClampNeg))) := ⟨_, rfl⟩
    replace hW : gw_P G.1 vwCl G.2.2.2 M6 H := by rw [eM6]; exact hW
    have hf_nums : M6 nums = some (3, .inl (G.2.1 0, 256, .inl (fun _ => 0))) := by rw [eM6]; exact gw_keep hf_nums hf_q1 (by decide)
    have hf_q1 : M6 q1 = some (11, .inl (G.2.1 0, 0, .inl (va_cpy (fun _ => 0) (fun _ => 0) (0 : Int32).toNatClampNeg (0 : Int32).toNatClampNeg (if 0 < 256 then 0 else 256 : Int32).toNatClampNeg))) := by rw [eM6]; exact gw_up_self _ _ _ _
    rw [← eM6] at hF5
    refine lv_aload_n hx hb d_Ars_copyOf_31 rfl (lv_at hl 0 rfl) ?_
    exact gw_aret hx hb hr hlocks (Or.inr ⟨_, rfl⟩) hS hW (Nat.le_of_ble_eq_true rfl) (Nat.le_of_ble_eq_true rfl) d_Ars_copyOf_32 (⟨q1, va_cpy (fun _ => 0) (fun _ => 0) (0 : Int32).toNatClampNeg (0 : Int32).toNatClampNeg (if 0 < 256 then 0 else 256 : Int32).toNatClampNeg, rfl, hf_q1, hF5⟩)
  · exact absurd c3 (by decide)

set_option maxHeartbeats 4000000 in
set_option maxRecDepth 100000 in
theorem c_Row_copy (l : Launch) (G : gw_G) (M : gw_M) (row : Nat) (nums : Nat) (hf_row : M row = some (2, .inr (1, [.ref nums, .int 0]))) (hf_nums : M nums = some (3, .inl (G.2.1 0, 256, .inl (fun _ => 0)))) : Met l y_Row_copy [.code y_Row_copy b_Row_copy 1 (some (.array .int))] ({ frames := 2, cells := 1, slots := 0, locals := 62 }) (gw_Pc G M [.ref row]) (gw_Qr G (fun r M2 => ∃ (c : Nat) (cf : Nat → Int32), c = r ∧ M2 c = some (11, .inl (G.2.1 0, 0, .inl cf)) ∧ gw_fr (gw_out [11]) M M2)) 1 0 (gw_A G) := by
  refine gw_start (by decide) (Nat.le_of_ble_eq_true rfl) (fun p9 e9 s m b9 mt9 c9 hx hb hr hml hown hlocks hin hE hB hW ls hl => ?_)
  have hts := hE.ts ([.ref row] : List Value).toArray
  have hl : lv_has ls 1 [(0, .ref row)] := hl
  have hS : va_S (gw_A G) s.heap s.heap [] := va_S.rf
  have hown : s.vm.findClass "Generations$Row" = some m.cls := hown
  refine lv_aload_n hx hb d_Row_copy_0 rfl (lv_at hl 0 rfl) ?_
  refine gw_get (ci := 1) (fs := [.ref nums, .int 0]) hx hb hts in_Row hown hE.K hW hf_row rfl 0 (by decide) (hts _ mw4) (fun _ h9 => h9) rfl d_Row_copy_1 ?_
  refine lv_aload_n hx hb d_Row_copy_4 rfl (lv_at hl 0 rfl) ?_
  refine gw_get (ci := 1) (fs := [.ref nums, .int 0]) hx hb hts in_Row hown hE.K hW hf_row rfl 1 (by decide) (hts _ mw89) (fun _ h9 => h9) rfl d_Row_copy_5 ?_
  refine gw_callr hS (va_runS (As := [.ref nums, .int 0]) (rest := []) ⟨hx, hb, hml, hown, hts⟩ (c_copyOf l G M nums hf_nums ) (va_cwS 2 hts (gw_gt mw125 mw126 mw127 mw124) rfl rfl rfl (by decide +kernel) ⟨Nat.le_of_ble_eq_true rfl, Nat.le_of_ble_eq_true rfl⟩) (gw_ps hE hB hS hW) rfl rfl hl.1 rfl (lv_room (Nat.le_of_ble_eq_true rfl)) d_Row_copy_8 ⟨Nat.le_of_ble_eq_true rfl, Nat.le_of_ble_eq_true rfl⟩) (fun r1 M2 H locs hw3 hW hS => ?_)
  refine W.widen (k := 1) (n := 0) (Nat.le_refl _) (Nat.le_refl _) ?_
  obtain ⟨c4, cf5, rfl, hf_c4', hfr6⟩ := hw3
  have hf_row : M2 row = some (2, .inr (1, [.ref nums, .int 0])) := (hfr6 _ _ _ (by decide)).mp hf_row
  have hf_nums : M2 nums = some (3, .inl (G.2.1 0, 256, .inl (fun _ => 0))) := (hfr6 _ _ _ (by decide)).mp hf_nums
  have hf_c4 : M2 c4 = some (11, .inl (G.2.1 0, 0, .inl cf5)) := hf_c4'
  have hF7 : gw_fr (gw_out [11]) M M2 := gw_fr.tr gw_fr.rf (gw_fr.wk hfr6 (by decide))
  exact gw_aret hx hb hr hlocks (Or.inr ⟨_, rfl⟩) hS hW (Nat.le_of_ble_eq_true rfl) (Nat.le_of_ble_eq_true rfl) d_Row_copy_11 (⟨c4, cf5, rfl, hf_c4, hF7⟩)

set_option maxHeartbeats 4000000 in
set_option maxRecDepth 100000 in
theorem c_Job_init (l : Launch) (G : gw_G) (M : gw_M) (a : Nat) (k : Nat) (hf_a : M a = some (10, .inr (3, [.null, .int 0]))) : Met l y_Job_init [.code y_Job_init b_Job_init 2 none] ({ frames := 1, cells := 0, slots := 0, locals := 12 }) (gw_Pc G M [.ref a, .ref k]) (gw_Qv G (fun M2 => M2 a = some (10, .inr (3, [.ref k, .int 0])) ∧ gw_fr (gw_out [10]) M M2)) 0 0 (gw_A G) := by
  refine gw_start (by decide) (Nat.le_of_ble_eq_true rfl) (fun p9 e9 s m b9 mt9 c9 hx hb hr hml hown hlocks hin hE hB hW ls hl => ?_)
  have hts := hE.ts ([.ref a, .ref k] : List Value).toArray
  have hl : lv_has ls 2 [(0, .ref a), (1, .ref k)] := hl
  have hS : va_S (gw_A G) s.heap s.heap [] := va_S.rf
  have hown : s.vm.findClass "Generations$Job" = some m.cls := hown
  have hin : mt9.name = "<init>" := hin
  refine lv_aload_n hx hb d_Job_init_0 rfl (lv_at hl 0 rfl) ?_
  refine W.objInit hx hb hown (hts _ mw128) (hts _ mw1) (hts _ mw2) rfl (by rw [hml]; exact hl.1) rfl d_Job_init_1 (Nat.le_of_ble_eq_true rfl) (Nat.le_of_ble_eq_true rfl) ?_
  refine W.eq (g2 := F0 m 4 ls []) rfl ?_
  refine lv_aload_n hx hb d_Job_init_4 rfl (lv_at hl 0 rfl) ?_
  refine lv_aload_n hx hb d_Job_init_5 rfl (lv_at hl 1 rfl) ?_
  refine gw_putF (ci := 3) (fs := [.null, .int 0]) (v := .ref k) (ty := .array .int) hx hb hts in_Job t_Job t_Job_ok n_Job hown hE.K hW hS hf_a rfl 0 (by decide) (hts _ mw129) (fun _ h9 => h9) rfl hin rfl (by decide +kernel) rfl rfl (Nat.le_of_ble_eq_true rfl) d_Job_init_6 (fun H locs hW hS => ?_)
  have hF1 : gw_fr (gw_out [10]) M (gw_up M a 10 (.inr (3, [.ref k, .int 0]))) := gw_fr.up gw_fr.rf hf_a (show ¬ ((gw_out [10]) 10) by decide) (show ¬ ((gw_out [10]) 10) by decide)
  obtain ⟨M2, eM2⟩ : ∃ z, z = gw_up M a 10 (.inr (3, [.ref k, .int 0])) := ⟨_, rfl⟩
  replace hW : gw_P G.1 vwCl G.2.2.2 M2 H := by rw [eM2]; exact hW
  have hf_a : M2 a = some (10, .inr (3, [.ref k, .int 0])) := by rw [eM2]; exact gw_up_self _ _ _ _
  rw [← eM2] at hF1
  exact gw_vret hx hb hr hlocks hS hW (Nat.le_of_ble_eq_true rfl) (Nat.le_of_ble_eq_true rfl) d_Job_init_9 (⟨hf_a, hF1⟩)

set_option maxHeartbeats 4000000 in
set_option maxRecDepth 100000 in
theorem c_job (l : Launch) (G : gw_G) (M : gw_M) (x : Nat) (row : Nat) (nums : Nat) (jobs : Nat) (known : Nat) (nowh : Nat) (gone : Nat) (lim : Int32) (sc : Int32) (hf_x : M x = some (1, .inr (0, [.int lim, .int sc, .int 0, .ref row, .ref jobs, .ref known, .ref nowh, .ref gone, .int 0]))) (hf_row : M row = some (2, .inr (1, [.ref nums, .int 0]))) (hf_nums : M nums = some (3, .inl (G.2.1 0, 256, .inl (fun _ => 0)))) (hf_jobs : M jobs = some (4, .inr (4, [.int 0, .ref (G.2.2.1 0), .int 0]))) : Met l y_X_job [.code y_X_job b_X_job 1 (some .int)] ({ frames := 5, cells := 3, slots := 12, locals := 101 }) (gw_Pc G M [.ref x]) (gw_Qi G (fun r M2 => 1 = r ∧ gw_fr (gw_out [4, 6, 10, 11]) M M2)) 3 12 (gw_A G) := by
  refine gw_start (by decide) (Nat.le_of_ble_eq_true rfl) (fun p9 e9 s m b9 mt9 c9 hx hb hr hml hown hlocks hin hE hB hW ls hl => ?_)
  have hts := hE.ts ([.ref x] : List Value).toArray
  have hl : lv_has ls 1 [(0, .ref x)] := hl
  have hS : va_S (gw_A G) s.heap s.heap [] := va_S.rf
  have hown : s.vm.findClass "Generations" = some m.cls := hown
  refine lv_aload_n hx hb d_X_job_0 rfl (lv_at hl 0 rfl) ?_
  refine gw_get (ci := 0) (fs := [.int lim, .int sc, .int 0, .ref row, .ref jobs, .ref known, .ref nowh, .ref gone, .int 0]) hx hb hts in_X hown hE.K hW hf_x rfl 4 (by decide) (hts _ mw35) (fun _ h9 => h9) rfl d_X_job_1 ?_
  refine gw_calli hS (va_runV (As := []) (rest := []) ⟨hx, hb, hml, hown, hts⟩ (c_AL_size l G M jobs 4 0 (G.2.2.1 0) 0 hf_jobs ) (cwV 0 hts (gw_gv mw58 mw59 mw60 mw31 mw57) rfl rfl rfl (by decide +kernel) ⟨Nat.le_of_ble_eq_true rfl, Nat.le_of_ble_eq_true rfl⟩) (gw_pv hE hB hS hW rfl hf_jobs) rfl rfl hl.1 rfl (lv_room (Nat.le_of_ble_eq_true rfl)) d_X_job_4 ⟨Nat.le_of_ble_eq_true rfl, Nat.le_of_ble_eq_true rfl⟩) (fun r1 M2 H locs hw3 hW hS => ?_)
  obtain ⟨rfl, rfl⟩ := hw3
  refine lv_bipush (v := 40) hx hb d_X_job_7 (by decide) ?_
  refine lv_icmp_lt (tgt := 14) hx hb d_X_job_9 (by decide) (fun c9 => ?_) (fun c9 => ?_)
  · refine lv_aload_n hx hb d_X_job_14 rfl (lv_at hl 0 rfl) ?_
    refine gw_get (ci := 0) (fs := [.int lim, .int sc, .int 0, .ref row, .ref jobs, .ref known, .ref nowh, .ref gone, .int 0]) hx hb hts in_X hown hE.K hW hf_x rfl 4 (by decide) (hts _ mw35) (fun _ h9 => h9) rfl d_X_job_15 ?_
    refine gw_new (ci := 3) (fs := [.null, .int 0]) hx hb hts in_Job t_Job t_Job_ok hown (hts _ mw130) (hts _ mw131) (hts _ mw132) hE.K hW hS hB rfl (fun j hj => by rcases (show j = 0 ∨ j = 1 by omega) with rfl | rfl <;> rfl) (Nat.le_of_ble_eq_true rfl) (Nat.le_of_ble_eq_true rfl) d_X_job_18 10 (fun q4 H hq5 hW hS => ?_)
    refine W.widen (k := 1) (n := 2) (Nat.le_refl _) (Nat.le_refl _) ?_
    have hF6 : gw_fr (gw_out [4, 6, 10, 11]) M (gw_up M q4 10 (.inr (3, [.null, .int 0]))) := gw_fr.new gw_fr.rf hq5 (show ¬ ((gw_out [4, 6, 10, 11]) 10) by decide)
    obtain ⟨M7, eM7⟩ : ∃ z, z = gw_up M q4 10 (.inr (3, [.null, .int 0])) := ⟨_, rfl⟩
    replace hW : gw_P G.1 vwCl G.2.2.2 M7 H := by rw [eM7]; exact hW
    have hf_x : M7 x = some (1, .inr (0, [.int lim, .int sc, .int 0, .ref row, .ref jobs, .ref known, .ref nowh, .ref gone, .int 0])) := by rw [eM7]; exact gw_keepN hf_x hq5
    have hf_row : M7 row = some (2, .inr (1, [.ref nums, .int 0])) := by rw [eM7]; exact gw_keepN hf_row hq5
    have hf_nums : M7 nums = some (3, .inl (G.2.1 0, 256, .inl (fun _ => 0))) := by rw [eM7]; exact gw_keepN hf_nums hq5
    have hf_jobs : M7 jobs = some (4, .inr (4, [.int 0, .ref (G.2.2.1 0), .int 0])) := by rw [eM7]; exact gw_keepN hf_jobs hq5
    have hf_q4 : M7 q4 = some (10, .inr (3, [.null, .int 0])) := by rw [eM7]; exact gw_up_self _ _ _ _
    rw [← eM7] at hF6
    refine lv_dup hx hb d_X_job_21 rfl ?_
    refine lv_aload_n hx hb d_X_job_22 rfl (lv_at hl 0 rfl) ?_
    refine gw_get (ci := 0) (fs := [.int lim, .int sc, .int 0, .ref row, .ref jobs, .ref known, .ref nowh, .ref gone, .int 0]) hx hb hts in_X hown hE.K hW hf_x rfl 3 (by decide) (hts _ mw28) (fun _ h9 => h9) rfl d_X_job_23 ?_
    refine gw_callr hS (va_runVN (As := []) (rest := [.ref q4, .ref q4, .ref jobs]) ⟨hx, hb, hml, hown, hts⟩ (c_Row_copy l G M7 row nums hf_row hf_nums ) ⟨va_cnB 0 hts (gw_g1 mw133) rfl rfl rfl (hE.nw mw134) (hts _ mw24) (by decide +kernel) ⟨Nat.le_of_ble_eq_true rfl, Nat.le_of_ble_eq_true rfl⟩, hts _ mw135, hts _ mw136⟩ (gw_pv hE hB hS hW rfl hf_row) rfl rfl hl.1 rfl (lv_room (Nat.le_of_ble_eq_true rfl)) d_X_job_26 ⟨Nat.le_of_ble_eq_true rfl, Nat.le_of_ble_eq_true rfl⟩) (fun r8 M9 H locs hw10 hW hS => ?_)
    refine W.widen (k := 2) (n := 2) (Nat.le_refl _) (Nat.le_refl _) ?_
    obtain ⟨c11, cf12, rfl, hf_c11', hfr13⟩ := hw10
    have hf_x : M9 x = some (1, .inr (0, [.int lim, .int sc, .int 0, .ref row, .ref jobs, .ref known, .ref nowh, .ref gone, .int 0])) := (hfr13 _ _ _ (by decide)).mp hf_x
    have hf_row : M9 row = some (2, .inr (1, [.ref nums, .int 0])) := (hfr13 _ _ _ (by decide)).mp hf_row
    have hf_nums : M9 nums = some (3, .inl (G.2.1 0, 256, .inl (fun _ => 0))) := (hfr13 _ _ _ (by decide)).mp hf_nums
    have hf_jobs : M9 jobs = some (4, .inr (4, [.int 0, .ref (G.2.2.1 0), .int 0])) := (hfr13 _ _ _ (by decide)).mp hf_jobs
    have hf_q4 : M9 q4 = some (10, .inr (3, [.null, .int 0])) := (hfr13 _ _ _ (by decide)).mp hf_q4
    have hf_c11 : M9 c11 = some (11, .inl (G.2.1 0, 0, .inl cf12)) := hf_c11'
    have hF14 : gw_fr (gw_out [4, 6, 10, 11]) M M9 := gw_fr.tr hF6 (gw_fr.wk hfr13 (by decide))
    refine gw_callv hS (va_runIN (As := [.ref c11]) (rest := [.ref q4, .ref jobs]) ⟨hx, hb, hml, hown, hts⟩ (c_Job_init l G M9 q4 c11 hf_q4 ) ⟨va_cnB 1 hts (gw_g1 mw137) rfl rfl rfl (hE.nw mw138) (hts _ mw132) (by decide +kernel) ⟨Nat.le_of_ble_eq_true rfl, Nat.le_of_ble_eq_true rfl⟩, rfl, hts _ mw139⟩ (gw_ps hE hB hS hW) rfl rfl hl.1 rfl (lv_room (Nat.le_of_ble_eq_true rfl)) d_X_job_29 ⟨Nat.le_of_ble_eq_true rfl, Nat.le_of_ble_eq_true rfl⟩) (fun M16 H locs hw17 hW hS => ?_)
    obtain ⟨hf_q4', hfr18⟩ := hw17
    have hf_c11 : M16 c11 = some (11, .inl (G.2.1 0, 0, .inl cf12)) := (hfr18 _ _ _ (by decide)).mp hf_c11
    have hf_x : M16 x = some (1, .inr (0, [.int lim, .int sc, .int 0, .ref row, .ref jobs, .ref known, .ref nowh, .ref gone, .int 0])) := (hfr18 _ _ _ (by decide)).mp hf_x
    have hf_row : M16 row = some (2, .inr (1, [.ref nums, .int 0])) := (hfr18 _ _ _ (by decide)).mp hf_row
    have hf_nums : M16 nums = some (3, .inl (G.2.1 0, 256, .inl (fun _ => 0))) := (hfr18 _ _ _ (by decide)).mp hf_nums
    have hf_jobs : M16 jobs = some (4, .inr (4, [.int 0, .ref (G.2.2.1 0), .int 0])) := (hfr18 _ _ _ (by decide)).mp hf_jobs
    have hf_q4 : M16 q4 = some (10, .inr (3, [.ref c11, .int 0])) := hf_q4'
    have hF19 : gw_fr (gw_out [4, 6, 10, 11]) M M16 := gw_fr.tr hF14 (gw_fr.wk hfr18 (by decide))
    refine gw_calli hS (va_runV (As := [.ref q4]) (rest := []) ⟨hx, hb, hml, hown, hts⟩ (c_AL_addJ l G M16 jobs q4 c11 hf_jobs hf_q4 ) (cwV 1 hts (gw_gv mw86 mw87 mw88 mw31 mw85) rfl rfl rfl (by decide +kernel) ⟨Nat.le_of_ble_eq_true rfl, Nat.le_of_ble_eq_true rfl⟩) (gw_pv hE hB hS hW rfl hf_jobs) rfl rfl hl.1 rfl (lv_room (Nat.le_of_ble_eq_true rfl)) d_X_job_32 ⟨Nat.le_of_ble_eq_true rfl, Nat.le_of_ble_eq_true rfl⟩) (fun r20 M21 H locs hw22 hW hS => ?_)
    refine W.widen (k := 3) (n := 12) (Nat.le_refl _) (Nat.le_refl _) ?_
    obtain ⟨ar23, rfl, hf_jobs', hf_ar23', hfr24⟩ := hw22
    have hf_q4 : M21 q4 = some (10, .inr (3, [.ref c11, .int 0])) := (hfr24 _ _ _ (by decide)).mp hf_q4
    have hf_c11 : M21 c11 = some (11, .inl (G.2.1 0, 0, .inl cf12)) := (hfr24 _ _ _ (by decide)).mp hf_c11
    have hf_x : M21 x = some (1, .inr (0, [.int lim, .int sc, .int 0, .ref row, .ref jobs, .ref known, .ref nowh, .ref gone, .int 0])) := (hfr24 _ _ _ (by decide)).mp hf_x
    have hf_row : M21 row = some (2, .inr (1, [.ref nums, .int 0])) := (hfr24 _ _ _ (by decide)).mp hf_row
    have hf_nums : M21 nums = some (3, .inl (G.2.1 0, 256, .inl (fun _ => 0))) := (hfr24 _ _ _ (by decide)).mp hf_nums
    have hf_jobs : M21 jobs = some (4, .inr (4, [.int (0 + 1), .ref ar23, .int (0 + 1)])) := hf_jobs'
    have hf_ar23 : M21 ar23 = some (6, .inl (G.2.1 1, 10, .inr (.inr (.inr (.inr (va_up (fun _ => none) (0 : Int32).toNatClampNeg (some q4))))))) := hf_ar23'
    have hF25 : gw_fr (gw_out [4, 6, 10, 11]) M M21 := gw_fr.tr hF19 (gw_fr.wk hfr24 (by decide))
    refine lv_pop hx hb d_X_job_35 rfl ?_
    refine lv_aload_n hx hb d_X_job_36 rfl (lv_at hl 0 rfl) ?_
    refine gw_get (ci := 0) (fs := [.int lim, .int sc, .int 0, .ref row, .ref jobs, .ref known, .ref nowh, .ref gone, .int 0]) hx hb hts in_X hown hE.K hW hf_x rfl 4 (by decide) (hts _ mw35) (fun _ h9 => h9) rfl d_X_job_37 ?_
    refine gw_calli hS (va_runV (As := []) (rest := []) ⟨hx, hb, hml, hown, hts⟩ (c_AL_size l G M21 jobs 4 (0 + 1) ar23 (0 + 1) hf_jobs ) (cwV 0 hts (gw_gv mw58 mw59 mw60 mw31 mw57) rfl rfl rfl (by decide +kernel) ⟨Nat.le_of_ble_eq_true rfl, Nat.le_of_ble_eq_true rfl⟩) (gw_pv hE hB hS hW rfl hf_jobs) rfl rfl hl.1 rfl (lv_room (Nat.le_of_ble_eq_true rfl)) d_X_job_40 ⟨Nat.le_of_ble_eq_true rfl, Nat.le_of_ble_eq_true rfl⟩) (fun r26 M27 H locs hw28 hW hS => ?_)
    obtain ⟨rfl, rfl⟩ := hw28
    exact gw_iret hx hb hr hlocks hS hW (Nat.le_of_ble_eq_true rfl) (Nat.le_of_ble_eq_true rfl) d_X_job_43 (⟨(by decide), hF25⟩)
  · exact absurd c9 (by decide)
end
section
abbrev b_X_dropped : ByteArray := prog_1_method_7_code
abbrev y_X_dropped : MethodName := ⟨"Generations", "dropped", "(I)I"⟩
abbrev b_Row_at : ByteArray := prog_4_method_2_code
abbrev y_Row_at : MethodName := ⟨"Generations$Row", "at", "(I)I"⟩
abbrev b_X_list : ByteArray := prog_1_method_9_code
abbrev y_X_list : MethodName := ⟨"Generations", "list", "(I)I"⟩
abbrev b_X_reclaim : ByteArray := prog_1_method_10_code
abbrev y_X_reclaim : MethodName := ⟨"Generations", "reclaim", "(I)I"⟩
abbrev b_X_empty : ByteArray := prog_1_method_11_code
abbrev y_X_empty : MethodName := ⟨"Generations", "empty", "(Z)I"⟩
abbrev b_X_version : ByteArray := prog_1_method_12_code
abbrev y_X_version : MethodName := ⟨"Generations", "version", "(I)I"⟩
abbrev b_X_state : ByteArray := prog_1_method_13_code
abbrev y_X_state : MethodName := ⟨"Generations", "state", "(I)I"⟩
abbrev b_X_count : ByteArray := prog_1_method_14_code
abbrev y_X_count : MethodName := ⟨"Generations", "count", "(I)I"⟩
set_option maxRecDepth 20000 in
theorem mw140 : (Cond.fieldLink "Generations" (138 : Nat) "Generations" "goneCount" "I") ∈ gw_N0 := gw_in (List.mem_append_right _ (gw_tm (i := 109) rfl))
set_option maxRecDepth 20000 in
theorem mw141 : (Cond.code ({ cls := "Generations$Row", name := "at", desc := "(I)I" } : Jvm.MethodName) prog_4_method_2_code (2 : Nat) (Option.some Jvm.ClassFile.FieldType.int)) ∈ gw_N0 := gw_in (List.mem_append_right _ (gw_tm (i := 241) rfl))
set_option maxRecDepth 20000 in
theorem mw142 : (Cond.methodLinkNest "Generations" (149 : Nat) ({ cls := "Generations$Row", name := "at", desc := "(I)I" } : Jvm.MethodName) "Generations") ∈ gw_N0 := gw_in (List.mem_append_right _ (gw_tm (i := 238) rfl))
set_option maxRecDepth 20000 in
theorem mw143 : (Cond.instanceMethod ({ cls := "Generations$Row", name := "at", desc := "(I)I" } : Jvm.MethodName)) ∈ gw_N0 := gw_in (List.mem_append_right _ (gw_tm (i := 240) rfl))
set_option maxRecDepth 20000 in
theorem mw144 : (Cond.selects "Generations$Row" ⟨"Generations$Row", "at", "(I)I"⟩ ⟨"Generations$Row", "at", "(I)I"⟩) ∈ gw_N0 := gw_in (List.mem_append_left _ (List.mem_of_getElem? (i := 10) rfl))
set_option maxRecDepth 20000 in
theorem mw145 : (Cond.fieldLink "Generations" (155 : Nat) "Generations" "emptyRule" "Z") ∈ gw_N0 := gw_in (List.mem_append_right _ (gw_tm (i := 103) rfl))
set_option maxRecDepth 20000 in
theorem mw146 : (Cond.code ({ cls := "Generations", name := "howManyAre", desc := "(I)I" } : Jvm.MethodName) prog_1_method_19_code (4 : Nat) (Option.some Jvm.ClassFile.FieldType.int)) ∈ gw_N0 := gw_in (List.mem_append_right _ (gw_tm (i := 313) rfl))
set_option maxRecDepth 20000 in
theorem mw147 : (Cond.methodLink "Generations" (158 : Nat) ({ cls := "Generations", name := "howManyAre", desc := "(I)I" } : Jvm.MethodName)) ∈ gw_N0 := gw_in (List.mem_append_right _ (gw_tm (i := 310) rfl))
set_option maxRecDepth 20000 in
theorem mw148 : (Cond.instanceMethod ({ cls := "Generations", name := "howManyAre", desc := "(I)I" } : Jvm.MethodName)) ∈ gw_N0 := gw_in (List.mem_append_right _ (gw_tm (i := 312) rfl))
set_option maxRecDepth 20000 in
theorem mw149 : (Cond.selects "Generations" ⟨"Generations", "howManyAre", "(I)I"⟩ ⟨"Generations", "howManyAre", "(I)I"⟩) ∈ gw_N0 := gw_in (List.mem_append_left _ (List.mem_of_getElem? (i := 14) rfl))
set_option maxRecDepth 20000 in
theorem mw150 : (Cond.code ({ cls := "Generations", name := "jobThatMakes", desc := "()I" } : Jvm.MethodName) prog_1_method_20_code (3 : Nat) (Option.some Jvm.ClassFile.FieldType.int)) ∈ gw_N0 := gw_in (List.mem_append_right _ (gw_tm (i := 317) rfl))
set_option maxRecDepth 20000 in
theorem mw151 : (Cond.methodLink "Generations" (161 : Nat) ({ cls := "Generations", name := "jobThatMakes", desc := "()I" } : Jvm.MethodName)) ∈ gw_N0 := gw_in (List.mem_append_right _ (gw_tm (i := 314) rfl))
set_option maxRecDepth 20000 in
theorem mw152 : (Cond.instanceMethod ({ cls := "Generations", name := "jobThatMakes", desc := "()I" } : Jvm.MethodName)) ∈ gw_N0 := gw_in (List.mem_append_right _ (gw_tm (i := 316) rfl))
set_option maxRecDepth 20000 in
theorem mw153 : (Cond.selects "Generations" ⟨"Generations", "jobThatMakes", "()I"⟩ ⟨"Generations", "jobThatMakes", "()I"⟩) ∈ gw_N0 := gw_in (List.mem_append_left _ (List.mem_of_getElem? (i := 15) rfl))
end
section
theorem d_X_dropped_0 : decode b_X_dropped 0 = .ok (.iload_n 1, 1) := by decide +kernel
theorem d_X_dropped_1 : decode b_X_dropped 1 = .ok (.ifCond .lt 20, 3) := by decide +kernel
theorem d_X_dropped_21 : decode b_X_dropped 21 = .ok (.iconst (-1), 1) := by decide +kernel
theorem d_X_dropped_22 : decode b_X_dropped 22 = .ok (.ireturn, 1) := by decide +kernel
theorem d_X_dropped_4 : decode b_X_dropped 4 = .ok (.iload_n 1, 1) := by decide +kernel
theorem d_X_dropped_5 : decode b_X_dropped 5 = .ok (.aload_n 0, 1) := by decide +kernel
theorem d_X_dropped_6 : decode b_X_dropped 6 = .ok (.getfield 138, 3) := by decide +kernel
theorem d_X_dropped_9 : decode b_X_dropped 9 = .ok (.if_icmp .ge 12, 3) := by decide +kernel
theorem d_Row_at_0 : decode b_Row_at 0 = .ok (.iload_n 1, 1) := by decide +kernel
theorem d_Row_at_1 : decode b_Row_at 1 = .ok (.ifCond .lt 20, 3) := by decide +kernel
theorem d_Row_at_21 : decode b_Row_at 21 = .ok (.iconst (-1), 1) := by decide +kernel
theorem d_Row_at_22 : decode b_Row_at 22 = .ok (.ireturn, 1) := by decide +kernel
theorem d_Row_at_4 : decode b_Row_at 4 = .ok (.iload_n 1, 1) := by decide +kernel
theorem d_Row_at_5 : decode b_Row_at 5 = .ok (.aload_n 0, 1) := by decide +kernel
theorem d_Row_at_6 : decode b_Row_at 6 = .ok (.getfield 15, 3) := by decide +kernel
theorem d_Row_at_9 : decode b_Row_at 9 = .ok (.if_icmp .ge 12, 3) := by decide +kernel
theorem d_X_list_0 : decode b_X_list 0 = .ok (.aload_n 0, 1) := by decide +kernel
theorem d_X_list_1 : decode b_X_list 1 = .ok (.getfield 10, 3) := by decide +kernel
theorem d_X_list_4 : decode b_X_list 4 = .ok (.iload_n 1, 1) := by decide +kernel
theorem d_X_list_5 : decode b_X_list 5 = .ok (.invokevirtual 149, 3) := by decide +kernel
theorem d_X_list_8 : decode b_X_list 8 = .ok (.ireturn, 1) := by decide +kernel
theorem d_X_reclaim_0 : decode b_X_reclaim 0 = .ok (.aload_n 0, 1) := by decide +kernel
theorem d_X_reclaim_1 : decode b_X_reclaim 1 = .ok (.iload_n 1, 1) := by decide +kernel
theorem d_X_reclaim_2 : decode b_X_reclaim 2 = .ok (.invokevirtual 60, 3) := by decide +kernel
theorem d_X_reclaim_5 : decode b_X_reclaim 5 = .ok (.astore_n 2, 1) := by decide +kernel
theorem d_X_reclaim_6 : decode b_X_reclaim 6 = .ok (.aload_n 2, 1) := by decide +kernel
theorem d_X_reclaim_7 : decode b_X_reclaim 7 = .ok (.getfield 64, 3) := by decide +kernel
theorem d_X_reclaim_10 : decode b_X_reclaim 10 = .ok (.iconst 3, 1) := by decide +kernel
theorem d_X_reclaim_11 : decode b_X_reclaim 11 = .ok (.if_icmp .eq 13, 3) := by decide +kernel
theorem d_X_reclaim_14 : decode b_X_reclaim 14 = .ok (.aload_n 2, 1) := by decide +kernel
theorem d_X_reclaim_15 : decode b_X_reclaim 15 = .ok (.getfield 64, 3) := by decide +kernel
theorem d_X_reclaim_18 : decode b_X_reclaim 18 = .ok (.iconst 4, 1) := by decide +kernel
theorem d_X_reclaim_19 : decode b_X_reclaim 19 = .ok (.if_icmp .eq 5, 3) := by decide +kernel
theorem d_X_reclaim_22 : decode b_X_reclaim 22 = .ok (.iconst 0, 1) := by decide +kernel
theorem d_X_reclaim_23 : decode b_X_reclaim 23 = .ok (.ireturn, 1) := by decide +kernel
theorem d_X_empty_0 : decode b_X_empty 0 = .ok (.aload_n 0, 1) := by decide +kernel
theorem d_X_empty_1 : decode b_X_empty 1 = .ok (.getfield 155, 3) := by decide +kernel
theorem d_X_empty_4 : decode b_X_empty 4 = .ok (.ifCond .eq 7, 3) := by decide +kernel
theorem d_X_empty_11 : decode b_X_empty 11 = .ok (.iconst 0, 1) := by decide +kernel
theorem d_X_empty_12 : decode b_X_empty 12 = .ok (.istore_n 2, 1) := by decide +kernel
theorem d_X_empty_13 : decode b_X_empty 13 = .ok (.aload_n 0, 1) := by decide +kernel
theorem d_X_empty_14 : decode b_X_empty 14 = .ok (.iload_n 1, 1) := by decide +kernel
theorem d_X_empty_15 : decode b_X_empty 15 = .ok (.putfield 155, 3) := by decide +kernel
theorem d_X_empty_18 : decode b_X_empty 18 = .ok (.iload_n 2, 1) := by decide +kernel
theorem d_X_empty_19 : decode b_X_empty 19 = .ok (.ireturn, 1) := by decide +kernel
theorem d_X_version_0 : decode b_X_version 0 = .ok (.aload_n 0, 1) := by decide +kernel
theorem d_X_version_1 : decode b_X_version 1 = .ok (.iload_n 1, 1) := by decide +kernel
theorem d_X_version_2 : decode b_X_version 2 = .ok (.invokevirtual 60, 3) := by decide +kernel
theorem d_X_version_5 : decode b_X_version 5 = .ok (.astore_n 2, 1) := by decide +kernel
theorem d_X_version_6 : decode b_X_version 6 = .ok (.aload_n 2, 1) := by decide +kernel
theorem d_X_version_7 : decode b_X_version 7 = .ok (.getfield 64, 3) := by decide +kernel
theorem d_X_version_10 : decode b_X_version 10 = .ok (.ifCond .ne 7, 3) := by decide +kernel
theorem d_X_version_13 : decode b_X_version 13 = .ok (.iconst (-1), 1) := by decide +kernel
theorem d_X_version_14 : decode b_X_version 14 = .ok (.goto 7, 3) := by decide +kernel
theorem d_X_version_21 : decode b_X_version 21 = .ok (.ireturn, 1) := by decide +kernel
theorem d_X_state_0 : decode b_X_state 0 = .ok (.iload_n 1, 1) := by decide +kernel
theorem d_X_state_1 : decode b_X_state 1 = .ok (.invokestatic 56, 3) := by decide +kernel
theorem d_X_state_4 : decode b_X_state 4 = .ok (.ifCond .eq 14, 3) := by decide +kernel
theorem d_X_state_18 : decode b_X_state 18 = .ok (.iconst (-1), 1) := by decide +kernel
theorem d_X_state_19 : decode b_X_state 19 = .ok (.ireturn, 1) := by decide +kernel
theorem d_X_state_7 : decode b_X_state 7 = .ok (.aload_n 0, 1) := by decide +kernel
theorem d_X_state_8 : decode b_X_state 8 = .ok (.iload_n 1, 1) := by decide +kernel
theorem d_X_state_9 : decode b_X_state 9 = .ok (.invokevirtual 60, 3) := by decide +kernel
theorem d_X_state_12 : decode b_X_state 12 = .ok (.getfield 64, 3) := by decide +kernel
theorem d_X_state_15 : decode b_X_state 15 = .ok (.goto 4, 3) := by decide +kernel
theorem d_X_count_0 : decode b_X_count 0 = .ok (.iload_n 1, 1) := by decide +kernel
theorem d_X_count_1 : decode b_X_count 1 = .ok (.tableswitch 83 0 5 #[39, 47, 59, 65, 73, 78], 39) := by decide +kernel
theorem d_X_count_84 : decode b_X_count 84 = .ok (.iconst (-1), 1) := by decide +kernel
theorem d_X_count_85 : decode b_X_count 85 = .ok (.ireturn, 1) := by decide +kernel
theorem d_X_count_40 : decode b_X_count 40 = .ok (.aload_n 0, 1) := by decide +kernel
theorem d_X_count_41 : decode b_X_count 41 = .ok (.getfield 10, 3) := by decide +kernel
theorem d_X_count_44 : decode b_X_count 44 = .ok (.getfield 81, 3) := by decide +kernel
theorem d_X_count_47 : decode b_X_count 47 = .ok (.ireturn, 1) := by decide +kernel
theorem d_X_count_48 : decode b_X_count 48 = .ok (.aload_n 0, 1) := by decide +kernel
theorem d_X_count_49 : decode b_X_count 49 = .ok (.iconst 2, 1) := by decide +kernel
theorem d_X_count_50 : decode b_X_count 50 = .ok (.invokevirtual 158, 3) := by decide +kernel
theorem d_X_count_53 : decode b_X_count 53 = .ok (.aload_n 0, 1) := by decide +kernel
theorem d_X_count_54 : decode b_X_count 54 = .ok (.iconst 3, 1) := by decide +kernel
theorem d_X_count_55 : decode b_X_count 55 = .ok (.invokevirtual 158, 3) := by decide +kernel
theorem d_X_count_58 : decode b_X_count 58 = .ok (.iadd, 1) := by decide +kernel
theorem d_X_count_59 : decode b_X_count 59 = .ok (.ireturn, 1) := by decide +kernel
theorem d_X_count_60 : decode b_X_count 60 = .ok (.aload_n 0, 1) := by decide +kernel
theorem d_X_count_61 : decode b_X_count 61 = .ok (.iconst 4, 1) := by decide +kernel
theorem d_X_count_62 : decode b_X_count 62 = .ok (.invokevirtual 158, 3) := by decide +kernel
theorem d_X_count_65 : decode b_X_count 65 = .ok (.ireturn, 1) := by decide +kernel
theorem d_X_count_66 : decode b_X_count 66 = .ok (.aload_n 0, 1) := by decide +kernel
theorem d_X_count_67 : decode b_X_count 67 = .ok (.getfield 19, 3) := by decide +kernel
theorem d_X_count_70 : decode b_X_count 70 = .ok (.invokevirtual 84, 3) := by decide +kernel
theorem d_X_count_73 : decode b_X_count 73 = .ok (.ireturn, 1) := by decide +kernel
theorem d_X_count_74 : decode b_X_count 74 = .ok (.aload_n 0, 1) := by decide +kernel
theorem d_X_count_75 : decode b_X_count 75 = .ok (.invokevirtual 161, 3) := by decide +kernel
theorem d_X_count_78 : decode b_X_count 78 = .ok (.ireturn, 1) := by decide +kernel
theorem d_X_count_79 : decode b_X_count 79 = .ok (.aload_n 0, 1) := by decide +kernel
theorem d_X_count_80 : decode b_X_count 80 = .ok (.getfield 138, 3) := by decide +kernel
theorem d_X_count_83 : decode b_X_count 83 = .ok (.ireturn, 1) := by decide +kernel
end
section
set_option maxHeartbeats 4000000 in
set_option maxRecDepth 100000 in
theorem c_dropped (l : Launch) (G : gw_G) (M : gw_M) (x : Nat) (row : Nat) (jobs : Nat) (known : Nat) (nowh : Nat) (gone : Nat) (lim : Int32) (sc : Int32) (k : Int32) (hf_x : M x = some (1, .inr (0, [.int lim, .int sc, .int 0, .ref row, .ref jobs, .ref known, .ref nowh, .ref gone, .int 0]))) : Met l y_X_dropped [.code y_X_dropped b_X_dropped 2 (some .int)] ({ frames := 0, cells := 0, slots := 0, locals := 0 }) (gw_Pc G M [.ref x, .int k]) (gw_Qi G (fun r M2 => (-1) = r ∧ M = M2)) 0 0 (gw_A G) := by
  refine gw_start (by decide) (Nat.le_of_ble_eq_true rfl) (fun p9 e9 s m b9 mt9 c9 hx hb hr hml hown hlocks hin hE hB hW ls hl => ?_)
  have hts := hE.ts ([.ref x, .int k] : List Value).toArray
  have hl : lv_has ls 2 [(0, .ref x), (1, .int k)] := hl
  have hS : va_S (gw_A G) s.heap s.heap [] := va_S.rf
  have hown : s.vm.findClass "Generations" = some m.cls := hown
  refine lv_iload_n hx hb d_X_dropped_0 rfl (lv_at hl 1 rfl) ?_
  refine lv_if_lt (tgt := 21) hx hb d_X_dropped_1 (by decide) (fun c1 => ?_) (fun c1 => ?_)
  · refine lv_iconst (v := -1) hx hb d_X_dropped_21 (by decide) ?_
    exact gw_iret hx hb hr hlocks hS hW (Nat.le_of_ble_eq_true rfl) (Nat.le_of_ble_eq_true rfl) d_X_dropped_22 (⟨rfl, rfl⟩)
  · refine lv_iload_n hx hb d_X_dropped_4 rfl (lv_at hl 1 rfl) ?_
    refine lv_aload_n hx hb d_X_dropped_5 rfl (lv_at hl 0 rfl) ?_
    refine gw_get (ci := 0) (fs := [.int lim, .int sc, .int 0, .ref row, .ref jobs, .ref known, .ref nowh, .ref gone, .int 0]) hx hb hts in_X hown hE.K hW hf_x rfl 8 (by decide) (hts _ mw140) (fun _ h9 => h9) rfl d_X_dropped_6 ?_
    refine lv_icmp_ge (tgt := 21) hx hb d_X_dropped_9 (by decide) (fun c9 => ?_) (fun c9 => ?_)
    · refine lv_iconst (v := -1) hx hb d_X_dropped_21 (by decide) ?_
      exact gw_iret hx hb hr hlocks hS hW (Nat.le_of_ble_eq_true rfl) (Nat.le_of_ble_eq_true rfl) d_X_dropped_22 (⟨rfl, rfl⟩)
    · exact absurd (gx_nn c1) c9

set_option maxHeartbeats 4000000 in
set_option maxRecDepth 100000 in
theorem c_Row_at (l : Launch) (G : gw_G) (M : gw_M) (row : Nat) (nums : Nat) (k : Int32) (hf_row : M row = some (2, .inr (1, [.ref nums, .int 0]))) : Met l y_Row_at [.code y_Row_at b_Row_at 2 (some .int)] ({ frames := 0, cells := 0, slots := 0, locals := 0 }) (gw_Pc G M [.ref row, .int k]) (gw_Qi G (fun r M2 => (-1) = r ∧ M = M2)) 0 0 (gw_A G) := by
  refine gw_start (by decide) (Nat.le_of_ble_eq_true rfl) (fun p9 e9 s m b9 mt9 c9 hx hb hr hml hown hlocks hin hE hB hW ls hl => ?_)
  have hts := hE.ts ([.ref row, .int k] : List Value).toArray
  have hl : lv_has ls 2 [(0, .ref row), (1, .int k)] := hl
  have hS : va_S (gw_A G) s.heap s.heap [] := va_S.rf
  have hown : s.vm.findClass "Generations$Row" = some m.cls := hown
  refine lv_iload_n hx hb d_Row_at_0 rfl (lv_at hl 1 rfl) ?_
  refine lv_if_lt (tgt := 21) hx hb d_Row_at_1 (by decide) (fun c1 => ?_) (fun c1 => ?_)
  · refine lv_iconst (v := -1) hx hb d_Row_at_21 (by decide) ?_
    exact gw_iret hx hb hr hlocks hS hW (Nat.le_of_ble_eq_true rfl) (Nat.le_of_ble_eq_true rfl) d_Row_at_22 (⟨rfl, rfl⟩)
  · refine lv_iload_n hx hb d_Row_at_4 rfl (lv_at hl 1 rfl) ?_
    refine lv_aload_n hx hb d_Row_at_5 rfl (lv_at hl 0 rfl) ?_
    refine gw_get (ci := 1) (fs := [.ref nums, .int 0]) hx hb hts in_Row hown hE.K hW hf_row rfl 1 (by decide) (hts _ mw89) (fun _ h9 => h9) rfl d_Row_at_6 ?_
    refine lv_icmp_ge (tgt := 21) hx hb d_Row_at_9 (by decide) (fun c9 => ?_) (fun c9 => ?_)
    · refine lv_iconst (v := -1) hx hb d_Row_at_21 (by decide) ?_
      exact gw_iret hx hb hr hlocks hS hW (Nat.le_of_ble_eq_true rfl) (Nat.le_of_ble_eq_true rfl) d_Row_at_22 (⟨rfl, rfl⟩)
    · exact absurd (gx_nn c1) c9

set_option maxHeartbeats 4000000 in
set_option maxRecDepth 100000 in
theorem c_list (l : Launch) (G : gw_G) (M : gw_M) (x : Nat) (row : Nat) (nums : Nat) (jobs : Nat) (known : Nat) (nowh : Nat) (gone : Nat) (lim : Int32) (sc : Int32) (k : Int32) (hf_x : M x = some (1, .inr (0, [.int lim, .int sc, .int 0, .ref row, .ref jobs, .ref known, .ref nowh, .ref gone, .int 0]))) (hf_row : M row = some (2, .inr (1, [.ref nums, .int 0]))) : Met l y_X_list [.code y_X_list b_X_list 2 (some .int)] ({ frames := 1, cells := 0, slots := 0, locals := 21 }) (gw_Pc G M [.ref x, .int k]) (gw_Qi G (fun r M2 => (-1) = r ∧ M = M2)) 0 0 (gw_A G) := by
  refine gw_start (by decide) (Nat.le_of_ble_eq_true rfl) (fun p9 e9 s m b9 mt9 c9 hx hb hr hml hown hlocks hin hE hB hW ls hl => ?_)
  have hts := hE.ts ([.ref x, .int k] : List Value).toArray
  have hl : lv_has ls 2 [(0, .ref x), (1, .int k)] := hl
  have hS : va_S (gw_A G) s.heap s.heap [] := va_S.rf
  have hown : s.vm.findClass "Generations" = some m.cls := hown
  refine lv_aload_n hx hb d_X_list_0 rfl (lv_at hl 0 rfl) ?_
  refine gw_get (ci := 0) (fs := [.int lim, .int sc, .int 0, .ref row, .ref jobs, .ref known, .ref nowh, .ref gone, .int 0]) hx hb hts in_X hown hE.K hW hf_x rfl 3 (by decide) (hts _ mw28) (fun _ h9 => h9) rfl d_X_list_1 ?_
  refine lv_iload_n hx hb d_X_list_4 rfl (lv_at hl 1 rfl) ?_
  refine gw_calli hS (va_runVN (As := [.int k]) (rest := []) ⟨hx, hb, hml, hown, hts⟩ (c_Row_at l G M row nums k hf_row ) ⟨va_cnB 1 hts (gw_g1 mw141) rfl rfl rfl (hE.nw mw142) (hts _ mw24) (by decide +kernel) ⟨Nat.le_of_ble_eq_true rfl, Nat.le_of_ble_eq_true rfl⟩, hts _ mw143, hts _ mw144⟩ (gw_pv hE hB hS hW rfl hf_row) rfl rfl hl.1 rfl (lv_room (Nat.le_of_ble_eq_true rfl)) d_X_list_5 ⟨Nat.le_of_ble_eq_true rfl, Nat.le_of_ble_eq_true rfl⟩) (fun r1 M2 H locs hw3 hW hS => ?_)
  obtain ⟨rfl, rfl⟩ := hw3
  exact gw_iret hx hb hr hlocks hS hW (Nat.le_of_ble_eq_true rfl) (Nat.le_of_ble_eq_true rfl) d_X_list_8 (⟨rfl, rfl⟩)

set_option maxHeartbeats 4000000 in
set_option maxRecDepth 100000 in
theorem c_reclaim (l : Launch) (G : gw_G) (M : gw_M) (x : Nat) (row : Nat) (jobs : Nat) (known : Nat) (nowh : Nat) (gone : Nat) (lim : Int32) (sc : Int32) (k : Int32) (hf_x : M x = some (1, .inr (0, [.int lim, .int sc, .int 0, .ref row, .ref jobs, .ref known, .ref nowh, .ref gone, .int 0]))) (hf_known : M known = some (5, .inr (4, [.int 0, .ref (G.2.2.1 0), .int 0]))) (hf_nowh : M nowh = some (12, .inr (2, [.int 0, .int 0, .int 0, .int 0, .int 0]))) : Met l y_X_reclaim [.code y_X_reclaim b_X_reclaim 3 (some .int)] ({ frames := 2, cells := 0, slots := 0, locals := 43 }) (gw_Pc G M [.ref x, .int k]) (gw_Qi G (fun r M2 => 0 = r ∧ M = M2)) 0 0 (gw_A G) := by
  refine gw_start (by decide) (Nat.le_of_ble_eq_true rfl) (fun p9 e9 s m b9 mt9 c9 hx hb hr hml hown hlocks hin hE hB hW ls hl => ?_)
  have hts := hE.ts ([.ref x, .int k] : List Value).toArray
  have hl : lv_has ls 3 [(0, .ref x), (1, .int k)] := hl
  have hS : va_S (gw_A G) s.heap s.heap [] := va_S.rf
  have hown : s.vm.findClass "Generations" = some m.cls := hown
  refine lv_aload_n hx hb d_X_reclaim_0 rfl (lv_at hl 0 rfl) ?_
  refine lv_iload_n hx hb d_X_reclaim_1 rfl (lv_at hl 1 rfl) ?_
  refine gw_callr hS (va_runV (As := [.int k]) (rest := []) ⟨hx, hb, hml, hown, hts⟩ (c_find l G M x row jobs known nowh gone lim sc k hf_x hf_known ) (cwV 1 hts (gw_gv mw80 mw81 mw82 mw83 mw79) rfl rfl rfl (by decide +kernel) ⟨Nat.le_of_ble_eq_true rfl, Nat.le_of_ble_eq_true rfl⟩) (gw_pv hE hB hS hW rfl hf_x) rfl rfl hl.1 rfl (lv_room (Nat.le_of_ble_eq_true rfl)) d_X_reclaim_2 ⟨Nat.le_of_ble_eq_true rfl, Nat.le_of_ble_eq_true rfl⟩) (fun r1 M2 H locs hw3 hW hS => ?_)
  obtain ⟨rfl, rfl⟩ := hw3
  refine lv_astore_n (lv' := [(2, .ref nowh), (0, .ref x), (1, .int k)]) hx hb d_X_reclaim_5 rfl hl (by decide) rfl (fun ls hl => ?_)
  refine lv_aload_n hx hb d_X_reclaim_6 rfl (lv_at hl 0 rfl) ?_
  refine gw_getN (ci := 2) (fs := [.int 0, .int 0, .int 0, .int 0, .int 0]) hx hb hts in_Gen hown hE.K hW hf_nowh rfl 1 (by decide) (hts _ mw91) (fun _ h9 => h9) rfl d_X_reclaim_7 ?_
  refine lv_iconst (v := 3) hx hb d_X_reclaim_10 (by decide) ?_
  refine lv_icmp_eq (tgt := 24) hx hb d_X_reclaim_11 (by decide) (fun c11 => ?_) (fun c11 => ?_)
  · exact absurd c11 (by decide)
  · refine lv_aload_n hx hb d_X_reclaim_14 rfl (lv_at hl 0 rfl) ?_
    refine gw_getN (ci := 2) (fs := [.int 0, .int 0, .int 0, .int 0, .int 0]) hx hb hts in_Gen hown hE.K hW hf_nowh rfl 1 (by decide) (hts _ mw91) (fun _ h9 => h9) rfl d_X_reclaim_15 ?_
    refine lv_iconst (v := 4) hx hb d_X_reclaim_18 (by decide) ?_
    refine lv_icmp_eq (tgt := 24) hx hb d_X_reclaim_19 (by decide) (fun c19 => ?_) (fun c19 => ?_)
    · exact absurd c19 (by decide)
    · refine lv_iconst (v := 0) hx hb d_X_reclaim_22 (by decide) ?_
      exact gw_iret hx hb hr hlocks hS hW (Nat.le_of_ble_eq_true rfl) (Nat.le_of_ble_eq_true rfl) d_X_reclaim_23 (⟨rfl, rfl⟩)

set_option maxHeartbeats 4000000 in
set_option maxRecDepth 100000 in
theorem c_empty (l : Launch) (G : gw_G) (M : gw_M) (x : Nat) (row : Nat) (jobs : Nat) (known : Nat) (nowh : Nat) (gone : Nat) (lim : Int32) (sc : Int32) (on : Int32) (hf_x : M x = some (1, .inr (0, [.int lim, .int sc, .int 0, .ref row, .ref jobs, .ref known, .ref nowh, .ref gone, .int 0]))) (hn_z : narrow .boolean (.int on) = .int on) (hf_z : fits .boolean (.int on) = true) : Met l y_X_empty [.code y_X_empty b_X_empty 3 (some .int)] ({ frames := 0, cells := 0, slots := 0, locals := 0 }) (gw_Pc G M [.ref x, .int on]) (gw_Qi G (fun r M2 => 0 = r ∧ gw_fr (gw_out [1]) M M2)) 0 0 (gw_A G) := by
  refine gw_start (by decide) (Nat.le_of_ble_eq_true rfl) (fun p9 e9 s m b9 mt9 c9 hx hb hr hml hown hlocks hin hE hB hW ls hl => ?_)
  have hts := hE.ts ([.ref x, .int on] : List Value).toArray
  have hl : lv_has ls 3 [(0, .ref x), (1, .int on)] := hl
  have hS : va_S (gw_A G) s.heap s.heap [] := va_S.rf
  have hown : s.vm.findClass "Generations" = some m.cls := hown
  refine lv_aload_n hx hb d_X_empty_0 rfl (lv_at hl 0 rfl) ?_
  refine gw_get (ci := 0) (fs := [.int lim, .int sc, .int 0, .ref row, .ref jobs, .ref known, .ref nowh, .ref gone, .int 0]) hx hb hts in_X hown hE.K hW hf_x rfl 2 (by decide) (hts _ mw145) (fun _ h9 => h9) rfl d_X_empty_1 ?_
  refine lv_if_eq (tgt := 11) hx hb d_X_empty_4 (by decide) (fun c4 => ?_) (fun c4 => ?_)
  · refine lv_iconst (v := 0) hx hb d_X_empty_11 (by decide) ?_
    refine lv_istore_n (lv' := [(2, .int 0), (0, .ref x), (1, .int on)]) hx hb d_X_empty_12 rfl hl (by decide) rfl (fun ls hl => ?_)
    refine lv_aload_n hx hb d_X_empty_13 rfl (lv_at hl 1 rfl) ?_
    refine lv_iload_n hx hb d_X_empty_14 rfl (lv_at hl 2 rfl) ?_
    refine gw_put (ci := 0) (fs := [.int lim, .int sc, .int 0, .ref row, .ref jobs, .ref known, .ref nowh, .ref gone, .int 0]) (v := .int on) (ty := .boolean) hx hb hts in_X t_X t_X_ok n_X hown hE.K hW hS hf_x rfl 2 (by decide) (hts _ mw145) (fun _ h9 => h9) rfl (by decide +kernel) hn_z hf_z (Nat.le_of_ble_eq_true rfl) d_X_empty_15 (fun H locs hW hS => ?_)
    have hF1 : gw_fr (gw_out [1]) M (gw_up M x 1 (.inr (0, [.int lim, .int sc, .int on, .ref row, .ref jobs, .ref known, .ref nowh, .ref gone, .int 0]))) := gw_fr.up gw_fr.rf hf_x (show ¬ ((gw_out [1]) 1) by decide) (show ¬ ((gw_out [1]) 1) by decide)
    obtain ⟨M2, eM2⟩ : ∃ z, z = gw_up M x 1 (.inr (0, [.int lim, .int sc, .int on, .ref row, .ref jobs, .ref known, .ref nowh, .ref gone, .int 0])) := ⟨_, rfl⟩
    replace hW : gw_P G.1 vwCl G.2.2.2 M2 H := by rw [eM2]; exact hW
    have hf_x : M2 x = some (1, .inr (0, [.int lim, .int sc, .int on, .ref row, .ref jobs, .ref known, .ref nowh, .ref gone, .int 0])) := by rw [eM2]; exact gw_up_self _ _ _ _
    rw [← eM2] at hF1
    refine lv_iload_n hx hb d_X_empty_18 rfl (lv_at hl 0 rfl) ?_
    exact gw_iret hx hb hr hlocks hS hW (Nat.le_of_ble_eq_true rfl) (Nat.le_of_ble_eq_true rfl) d_X_empty_19 (⟨rfl, hF1⟩)
  · exact absurd c4 (by decide)

set_option maxHeartbeats 4000000 in
set_option maxRecDepth 100000 in
theorem c_version (l : Launch) (G : gw_G) (M : gw_M) (x : Nat) (row : Nat) (jobs : Nat) (known : Nat) (nowh : Nat) (gone : Nat) (lim : Int32) (sc : Int32) (k : Int32) (hf_x : M x = some (1, .inr (0, [.int lim, .int sc, .int 0, .ref row, .ref jobs, .ref known, .ref nowh, .ref gone, .int 0]))) (hf_known : M known = some (5, .inr (4, [.int 0, .ref (G.2.2.1 0), .int 0]))) (hf_nowh : M nowh = some (12, .inr (2, [.int 0, .int 0, .int 0, .int 0, .int 0]))) : Met l y_X_version [.code y_X_version b_X_version 3 (some .int)] ({ frames := 2, cells := 0, slots := 0, locals := 43 }) (gw_Pc G M [.ref x, .int k]) (gw_Qi G (fun r M2 => (-1) = r ∧ M = M2)) 0 0 (gw_A G) := by
  refine gw_start (by decide) (Nat.le_of_ble_eq_true rfl) (fun p9 e9 s m b9 mt9 c9 hx hb hr hml hown hlocks hin hE hB hW ls hl => ?_)
  have hts := hE.ts ([.ref x, .int k] : List Value).toArray
  have hl : lv_has ls 3 [(0, .ref x), (1, .int k)] := hl
  have hS : va_S (gw_A G) s.heap s.heap [] := va_S.rf
  have hown : s.vm.findClass "Generations" = some m.cls := hown
  refine lv_aload_n hx hb d_X_version_0 rfl (lv_at hl 0 rfl) ?_
  refine lv_iload_n hx hb d_X_version_1 rfl (lv_at hl 1 rfl) ?_
  refine gw_callr hS (va_runV (As := [.int k]) (rest := []) ⟨hx, hb, hml, hown, hts⟩ (c_find l G M x row jobs known nowh gone lim sc k hf_x hf_known ) (cwV 1 hts (gw_gv mw80 mw81 mw82 mw83 mw79) rfl rfl rfl (by decide +kernel) ⟨Nat.le_of_ble_eq_true rfl, Nat.le_of_ble_eq_true rfl⟩) (gw_pv hE hB hS hW rfl hf_x) rfl rfl hl.1 rfl (lv_room (Nat.le_of_ble_eq_true rfl)) d_X_version_2 ⟨Nat.le_of_ble_eq_true rfl, Nat.le_of_ble_eq_true rfl⟩) (fun r1 M2 H locs hw3 hW hS => ?_)
  obtain ⟨rfl, rfl⟩ := hw3
  refine lv_astore_n (lv' := [(2, .ref nowh), (0, .ref x), (1, .int k)]) hx hb d_X_version_5 rfl hl (by decide) rfl (fun ls hl => ?_)
  refine lv_aload_n hx hb d_X_version_6 rfl (lv_at hl 0 rfl) ?_
  refine gw_getN (ci := 2) (fs := [.int 0, .int 0, .int 0, .int 0, .int 0]) hx hb hts in_Gen hown hE.K hW hf_nowh rfl 1 (by decide) (hts _ mw91) (fun _ h9 => h9) rfl d_X_version_7 ?_
  refine lv_if_ne (tgt := 17) hx hb d_X_version_10 (by decide) (fun c10 => ?_) (fun c10 => ?_)
  · exact absurd c10 (by decide)
  · refine lv_iconst (v := -1) hx hb d_X_version_13 (by decide) ?_
    refine lv_goto (tgt := 21) hx hb d_X_version_14 (by decide) ?_
    exact gw_iret hx hb hr hlocks hS hW (Nat.le_of_ble_eq_true rfl) (Nat.le_of_ble_eq_true rfl) d_X_version_21 (⟨rfl, rfl⟩)

set_option maxHeartbeats 4000000 in
set_option maxRecDepth 100000 in
theorem c_state (l : Launch) (G : gw_G) (M : gw_M) (x : Nat) (row : Nat) (jobs : Nat) (known : Nat) (nowh : Nat) (gone : Nat) (lim : Int32) (sc : Int32) (k : Int32) (hf_x : M x = some (1, .inr (0, [.int lim, .int sc, .int 0, .ref row, .ref jobs, .ref known, .ref nowh, .ref gone, .int 0]))) (hf_known : M known = some (5, .inr (4, [.int 0, .ref (G.2.2.1 0), .int 0]))) (hf_nowh : M nowh = some (12, .inr (2, [.int 0, .int 0, .int 0, .int 0, .int 0]))) : Met l y_X_state [.code y_X_state b_X_state 2 (some .int)] ({ frames := 2, cells := 0, slots := 0, locals := 43 }) (gw_Pc G M [.ref x, .int k]) (gw_Qi G (fun r M2 => gx_st k = r ∧ M = M2)) 0 0 (gw_A G) := by
  refine gw_start (by decide) (Nat.le_of_ble_eq_true rfl) (fun p9 e9 s m b9 mt9 c9 hx hb hr hml hown hlocks hin hE hB hW ls hl => ?_)
  have hts := hE.ts ([.ref x, .int k] : List Value).toArray
  have hl : lv_has ls 2 [(0, .ref x), (1, .int k)] := hl
  have hS : va_S (gw_A G) s.heap s.heap [] := va_S.rf
  have hown : s.vm.findClass "Generations" = some m.cls := hown
  refine lv_iload_n hx hb d_X_state_0 rfl (lv_at hl 1 rfl) ?_
  refine gw_calli hS (va_runS (As := [.int k]) (rest := []) ⟨hx, hb, hml, hown, hts⟩ (c_isNumber l G M k  ) (cwS 1 hts (gw_gs mw101 mw102 mw83 mw100) rfl rfl rfl (by decide +kernel) ⟨Nat.le_of_ble_eq_true rfl, Nat.le_of_ble_eq_true rfl⟩) (gw_ps hE hB hS hW) rfl rfl hl.1 rfl (lv_room (Nat.le_of_ble_eq_true rfl)) d_X_state_1 ⟨Nat.le_of_ble_eq_true rfl, Nat.le_of_ble_eq_true rfl⟩) (fun r1 M2 H locs hw3 hW hS => ?_)
  obtain ⟨rfl, rfl⟩ := hw3
  refine lv_if_eq (tgt := 18) hx hb d_X_state_4 (by decide) (fun c4 => ?_) (fun c4 => ?_)
  · refine lv_iconst (v := -1) hx hb d_X_state_18 (by decide) ?_
    exact gw_iret hx hb hr hlocks hS hW (Nat.le_of_ble_eq_true rfl) (Nat.le_of_ble_eq_true rfl) d_X_state_19 (⟨(gx_st0 c4), rfl⟩)
  · refine lv_aload_n hx hb d_X_state_7 rfl (lv_at hl 0 rfl) ?_
    refine lv_iload_n hx hb d_X_state_8 rfl (lv_at hl 1 rfl) ?_
    refine gw_callr hS (va_runV (As := [.int k]) (rest := []) ⟨hx, hb, hml, hown, hts⟩ (c_find l G M x row jobs known nowh gone lim sc k hf_x hf_known ) (cwV 1 hts (gw_gv mw80 mw81 mw82 mw83 mw79) rfl rfl rfl (by decide +kernel) ⟨Nat.le_of_ble_eq_true rfl, Nat.le_of_ble_eq_true rfl⟩) (gw_pv hE hB hS hW rfl hf_x) rfl rfl hl.1 rfl (lv_room (Nat.le_of_ble_eq_true rfl)) d_X_state_9 ⟨Nat.le_of_ble_eq_true rfl, Nat.le_of_ble_eq_true rfl⟩) (fun r4 M5 H locs hw6 hW hS => ?_)
    obtain ⟨rfl, rfl⟩ := hw6
    refine gw_getN (ci := 2) (fs := [.int 0, .int 0, .int 0, .int 0, .int 0]) hx hb hts in_Gen hown hE.K hW hf_nowh rfl 1 (by decide) (hts _ mw91) (fun _ h9 => h9) rfl d_X_state_12 ?_
    refine lv_goto (tgt := 19) hx hb d_X_state_15 (by decide) ?_
    exact gw_iret hx hb hr hlocks hS hW (Nat.le_of_ble_eq_true rfl) (Nat.le_of_ble_eq_true rfl) d_X_state_19 (⟨(gx_st1 c4), rfl⟩)

set_option maxHeartbeats 4000000 in
set_option maxRecDepth 100000 in
theorem c_count (l : Launch) (G : gw_G) (M : gw_M) (x : Nat) (row : Nat) (nums : Nat) (jobs : Nat) (known : Nat) (nowh : Nat) (gone : Nat) (lim : Int32) (sc : Int32) (k : Int32) (hf_x : M x = some (1, .inr (0, [.int lim, .int sc, .int 0, .ref row, .ref jobs, .ref known, .ref nowh, .ref gone, .int 0]))) (hf_row : M row = some (2, .inr (1, [.ref nums, .int 0]))) (hf_jobs : M jobs = some (4, .inr (4, [.int 0, .ref (G.2.2.1 0), .int 0]))) (hf_known : M known = some (5, .inr (4, [.int 0, .ref (G.2.2.1 0), .int 0]))) : Met l y_X_count [.code y_X_count b_X_count 2 (some .int)] ({ frames := 2, cells := 0, slots := 0, locals := 43 }) (gw_Pc G M [.ref x, .int k]) (gw_Qi G (fun r M2 => gx_cnt k = r ∧ M = M2)) 0 0 (gw_A G) := by
  refine gw_start (by decide) (Nat.le_of_ble_eq_true rfl) (fun p9 e9 s m b9 mt9 c9 hx hb hr hml hown hlocks hin hE hB hW ls hl => ?_)
  have hts := hE.ts ([.ref x, .int k] : List Value).toArray
  have hl : lv_has ls 2 [(0, .ref x), (1, .int k)] := hl
  have hS : va_S (gw_A G) s.heap s.heap [] := va_S.rf
  have hown : s.vm.findClass "Generations" = some m.cls := hown
  refine lv_iload_n hx hb d_X_count_0 rfl (lv_at hl 1 rfl) ?_
  rcases gx_sw5 k with h9 | h9 | h9 | h9 | h9 | h9 | h9
  · refine lv_tableOut (tgt := 84) hx hb d_X_count_1 h9 (by decide) ?_
    refine lv_iconst (v := -1) hx hb d_X_count_84 (by decide) ?_
    exact gw_iret hx hb hr hlocks hS hW (Nat.le_of_ble_eq_true rfl) (Nat.le_of_ble_eq_true rfl) d_X_count_85 (⟨(gx_cntO h9), rfl⟩)
  · refine lv_tableIn (tgt := 40) hx hb d_X_count_1 (by rw [h9]; decide) (by rw [h9]; decide) (by rw [h9]; rfl) (by decide) ?_
    refine lv_aload_n hx hb d_X_count_40 rfl (lv_at hl 0 rfl) ?_
    refine gw_get (ci := 0) (fs := [.int lim, .int sc, .int 0, .ref row, .ref jobs, .ref known, .ref nowh, .ref gone, .int 0]) hx hb hts in_X hown hE.K hW hf_x rfl 3 (by decide) (hts _ mw28) (fun _ h9 => h9) rfl d_X_count_41 ?_
    refine gw_getN (ci := 1) (fs := [.ref nums, .int 0]) hx hb hts in_Row hown hE.K hW hf_row rfl 1 (by decide) (hts _ mw90) (fun _ h9 => h9) rfl d_X_count_44 ?_
    exact gw_iret hx hb hr hlocks hS hW (Nat.le_of_ble_eq_true rfl) (Nat.le_of_ble_eq_true rfl) d_X_count_47 (⟨(by rw [h9]; decide), rfl⟩)
  · refine lv_tableIn (tgt := 48) hx hb d_X_count_1 (by rw [h9]; decide) (by rw [h9]; decide) (by rw [h9]; rfl) (by decide) ?_
    refine lv_aload_n hx hb d_X_count_48 rfl (lv_at hl 0 rfl) ?_
    refine lv_iconst (v := 2) hx hb d_X_count_49 (by decide) ?_
    refine gw_calli hS (va_runV (As := [.int 2]) (rest := []) ⟨hx, hb, hml, hown, hts⟩ (c_howMany l G M x row jobs known nowh gone lim sc 2 hf_x hf_known ) (cwV 1 hts (gw_gv mw147 mw148 mw149 mw83 mw146) rfl rfl rfl (by decide +kernel) ⟨Nat.le_of_ble_eq_true rfl, Nat.le_of_ble_eq_true rfl⟩) (gw_pv hE hB hS hW rfl hf_x) rfl rfl hl.1 rfl (lv_room (Nat.le_of_ble_eq_true rfl)) d_X_count_50 ⟨Nat.le_of_ble_eq_true rfl, Nat.le_of_ble_eq_true rfl⟩) (fun r1 M2 H locs hw3 hW hS => ?_)
    obtain ⟨rfl, rfl⟩ := hw3
    refine lv_aload_n hx hb d_X_count_53 rfl (lv_at hl 0 rfl) ?_
    refine lv_iconst (v := 3) hx hb d_X_count_54 (by decide) ?_
    refine gw_calli hS (va_runV (As := [.int 3]) (rest := [.int 0]) ⟨hx, hb, hml, hown, hts⟩ (c_howMany l G M x row jobs known nowh gone lim sc 3 hf_x hf_known ) (cwV 1 hts (gw_gv mw147 mw148 mw149 mw83 mw146) rfl rfl rfl (by decide +kernel) ⟨Nat.le_of_ble_eq_true rfl, Nat.le_of_ble_eq_true rfl⟩) (gw_pv hE hB hS hW rfl hf_x) rfl rfl hl.1 rfl (lv_room (Nat.le_of_ble_eq_true rfl)) d_X_count_55 ⟨Nat.le_of_ble_eq_true rfl, Nat.le_of_ble_eq_true rfl⟩) (fun r4 M5 H locs hw6 hW hS => ?_)
    obtain ⟨rfl, rfl⟩ := hw6
    refine lv_iadd hx hb d_X_count_58 ?_
    exact gw_iret hx hb hr hlocks hS hW (Nat.le_of_ble_eq_true rfl) (Nat.le_of_ble_eq_true rfl) d_X_count_59 (⟨(by rw [h9]; decide), rfl⟩)
  · refine lv_tableIn (tgt := 60) hx hb d_X_count_1 (by rw [h9]; decide) (by rw [h9]; decide) (by rw [h9]; rfl) (by decide) ?_
    refine lv_aload_n hx hb d_X_count_60 rfl (lv_at hl 0 rfl) ?_
    refine lv_iconst (v := 4) hx hb d_X_count_61 (by decide) ?_
    refine gw_calli hS (va_runV (As := [.int 4]) (rest := []) ⟨hx, hb, hml, hown, hts⟩ (c_howMany l G M x row jobs known nowh gone lim sc 4 hf_x hf_known ) (cwV 1 hts (gw_gv mw147 mw148 mw149 mw83 mw146) rfl rfl rfl (by decide +kernel) ⟨Nat.le_of_ble_eq_true rfl, Nat.le_of_ble_eq_true rfl⟩) (gw_pv hE hB hS hW rfl hf_x) rfl rfl hl.1 rfl (lv_room (Nat.le_of_ble_eq_true rfl)) d_X_count_62 ⟨Nat.le_of_ble_eq_true rfl, Nat.le_of_ble_eq_true rfl⟩) (fun r7 M8 H locs hw9 hW hS => ?_)
    obtain ⟨rfl, rfl⟩ := hw9
    exact gw_iret hx hb hr hlocks hS hW (Nat.le_of_ble_eq_true rfl) (Nat.le_of_ble_eq_true rfl) d_X_count_65 (⟨(by rw [h9]; decide), rfl⟩)
  · refine lv_tableIn (tgt := 66) hx hb d_X_count_1 (by rw [h9]; decide) (by rw [h9]; decide) (by rw [h9]; rfl) (by decide) ?_
    refine lv_aload_n hx hb d_X_count_66 rfl (lv_at hl 0 rfl) ?_
    refine gw_get (ci := 0) (fs := [.int lim, .int sc, .int 0, .ref row, .ref jobs, .ref known, .ref nowh, .ref gone, .int 0]) hx hb hts in_X hown hE.K hW hf_x rfl 4 (by decide) (hts _ mw35) (fun _ h9 => h9) rfl d_X_count_67 ?_
    refine gw_calli hS (va_runV (As := []) (rest := []) ⟨hx, hb, hml, hown, hts⟩ (c_AL_size l G M jobs 4 0 (G.2.2.1 0) 0 hf_jobs ) (cwV 0 hts (gw_gv mw58 mw59 mw60 mw31 mw57) rfl rfl rfl (by decide +kernel) ⟨Nat.le_of_ble_eq_true rfl, Nat.le_of_ble_eq_true rfl⟩) (gw_pv hE hB hS hW rfl hf_jobs) rfl rfl hl.1 rfl (lv_room (Nat.le_of_ble_eq_true rfl)) d_X_count_70 ⟨Nat.le_of_ble_eq_true rfl, Nat.le_of_ble_eq_true rfl⟩) (fun r10 M11 H locs hw12 hW hS => ?_)
    obtain ⟨rfl, rfl⟩ := hw12
    exact gw_iret hx hb hr hlocks hS hW (Nat.le_of_ble_eq_true rfl) (Nat.le_of_ble_eq_true rfl) d_X_count_73 (⟨(by rw [h9]; decide), rfl⟩)
  · refine lv_tableIn (tgt := 74) hx hb d_X_count_1 (by rw [h9]; decide) (by rw [h9]; decide) (by rw [h9]; rfl) (by decide) ?_
    refine lv_aload_n hx hb d_X_count_74 rfl (lv_at hl 0 rfl) ?_
    refine gw_calli hS (va_runV (As := []) (rest := []) ⟨hx, hb, hml, hown, hts⟩ (c_jobThatMakes l G M x row jobs known nowh gone lim sc hf_x hf_known ) (cwV 0 hts (gw_gv mw151 mw152 mw153 mw83 mw150) rfl rfl rfl (by decide +kernel) ⟨Nat.le_of_ble_eq_true rfl, Nat.le_of_ble_eq_true rfl⟩) (gw_pv hE hB hS hW rfl hf_x) rfl rfl hl.1 rfl (lv_room (Nat.le_of_ble_eq_true rfl)) d_X_count_75 ⟨Nat.le_of_ble_eq_true rfl, Nat.le_of_ble_eq_true rfl⟩) (fun r13 M14 H locs hw15 hW hS => ?_)
    obtain ⟨rfl, rfl⟩ := hw15
    exact gw_iret hx hb hr hlocks hS hW (Nat.le_of_ble_eq_true rfl) (Nat.le_of_ble_eq_true rfl) d_X_count_78 (⟨(by rw [h9]; decide), rfl⟩)
  · refine lv_tableIn (tgt := 79) hx hb d_X_count_1 (by rw [h9]; decide) (by rw [h9]; decide) (by rw [h9]; rfl) (by decide) ?_
    refine lv_aload_n hx hb d_X_count_79 rfl (lv_at hl 0 rfl) ?_
    refine gw_get (ci := 0) (fs := [.int lim, .int sc, .int 0, .ref row, .ref jobs, .ref known, .ref nowh, .ref gone, .int 0]) hx hb hts in_X hown hE.K hW hf_x rfl 8 (by decide) (hts _ mw140) (fun _ h9 => h9) rfl d_X_count_80 ?_
    exact gw_iret hx hb hr hlocks hS hW (Nat.le_of_ble_eq_true rfl) (Nat.le_of_ble_eq_true rfl) d_X_count_83 (⟨(by rw [h9]; decide), rfl⟩)
end
section
abbrev b_Mo_init : ByteArray := prog_6_method_1_code
abbrev y_Mo_init : MethodName := ⟨"GenerationsModel", "<init>", "(II)V"⟩
abbrev b_Mo_thrown : ByteArray := prog_6_method_2_code
abbrev y_Mo_thrown : MethodName := ⟨"GenerationsModel", "thrown", "()I"⟩
abbrev b_Mo_isNumber : ByteArray := prog_6_method_4_code
abbrev y_Mo_isNumber : MethodName := ⟨"GenerationsModel", "isNumber", "(I)Z"⟩
abbrev b_Mo_what : ByteArray := prog_6_method_5_code
abbrev y_Mo_what : MethodName := ⟨"GenerationsModel", "what", "(I)I"⟩
abbrev b_Mo_owner : ByteArray := prog_6_method_6_code
abbrev y_Mo_owner : MethodName := ⟨"GenerationsModel", "owner", "(I)I"⟩
abbrev b_Mo_versionOf : ByteArray := prog_6_method_7_code
abbrev y_Mo_versionOf : MethodName := ⟨"GenerationsModel", "versionOf", "(I)I"⟩
abbrev b_Mo_be : ByteArray := prog_6_method_8_code
abbrev y_Mo_be : MethodName := ⟨"GenerationsModel", "be", "(IIII)V"⟩
abbrev b_Mo_become : ByteArray := prog_6_method_9_code
abbrev y_Mo_become : MethodName := ⟨"GenerationsModel", "become", "(II)V"⟩
abbrev b_Mo_enter : ByteArray := prog_6_method_11_code
abbrev y_Mo_enter : MethodName := ⟨"GenerationsModel", "enter", "(I)V"⟩
abbrev b_Mo_catalogue : ByteArray := prog_6_method_12_code
abbrev y_Mo_catalogue : MethodName := ⟨"GenerationsModel", "catalogue", "(I)I"⟩
set_option maxRecDepth 20000 in
theorem mw154 : (Cond.methodLink "GenerationsModel" (1 : Nat) ({ cls := "java/lang/Object", name := "<init>", desc := "()V" } : Jvm.MethodName)) ∈ gw_N0 := gw_in (List.mem_append_right _ (gw_tm (i := 457) rfl))
set_option maxRecDepth 20000 in
theorem mw155 : (Cond.fieldLink "GenerationsModel" (7 : Nat) "GenerationsModel" "there" "[I") ∈ gw_N0 := gw_in (List.mem_append_right _ (gw_tm (i := 462) rfl))
set_option maxRecDepth 20000 in
theorem mw156 : (Cond.fieldLink "GenerationsModel" (13 : Nat) "GenerationsModel" "row" "[I") ∈ gw_N0 := gw_in (List.mem_append_right _ (gw_tm (i := 463) rfl))
set_option maxRecDepth 20000 in
theorem mw157 : (Cond.fieldLink "GenerationsModel" (16 : Nat) "GenerationsModel" "found" "[I") ∈ gw_N0 := gw_in (List.mem_append_right _ (gw_tm (i := 465) rfl))
set_option maxRecDepth 20000 in
theorem mw158 : (Cond.fieldLink "GenerationsModel" (19 : Nat) "GenerationsModel" "foundSize" "[I") ∈ gw_N0 := gw_in (List.mem_append_right _ (gw_tm (i := 466) rfl))
set_option maxRecDepth 20000 in
theorem mw159 : (Cond.fieldLink "GenerationsModel" (22 : Nat) "GenerationsModel" "ends" "[I") ∈ gw_N0 := gw_in (List.mem_append_right _ (gw_tm (i := 467) rfl))
set_option maxRecDepth 20000 in
theorem mw160 : (Cond.fieldLink "GenerationsModel" (25 : Nat) "GenerationsModel" "made" "[I") ∈ gw_N0 := gw_in (List.mem_append_right _ (gw_tm (i := 468) rfl))
set_option maxRecDepth 20000 in
theorem mw161 : (Cond.fieldLink "GenerationsModel" (28 : Nat) "GenerationsModel" "drops" "[I") ∈ gw_N0 := gw_in (List.mem_append_right _ (gw_tm (i := 471) rfl))
set_option maxRecDepth 20000 in
theorem mw162 : (Cond.fieldLink "GenerationsModel" (31 : Nat) "GenerationsModel" "limit" "I") ∈ gw_N0 := gw_in (List.mem_append_right _ (gw_tm (i := 459) rfl))
set_option maxRecDepth 20000 in
theorem mw163 : (Cond.fieldLink "GenerationsModel" (35 : Nat) "GenerationsModel" "scratch" "Z") ∈ gw_N0 := gw_in (List.mem_append_right _ (gw_tm (i := 460) rfl))
set_option maxRecDepth 20000 in
theorem mw164 : (Cond.fieldLink "GenerationsModel" (39 : Nat) "GenerationsModel" "code" "I") ∈ gw_N0 := gw_in (List.mem_append_right _ (gw_tm (i := 458) rfl))
set_option maxRecDepth 20000 in
theorem mw165 : (Cond.code ({ cls := "GenerationsModel", name := "owner", desc := "(I)I" } : Jvm.MethodName) prog_6_method_6_code (2 : Nat) (Option.some Jvm.ClassFile.FieldType.int)) ∈ gw_N0 := gw_in (List.mem_append_right _ (gw_tm (i := 533) rfl))
set_option maxRecDepth 20000 in
theorem mw166 : (Cond.methodLink "GenerationsModel" (42 : Nat) ({ cls := "GenerationsModel", name := "owner", desc := "(I)I" } : Jvm.MethodName)) ∈ gw_N0 := gw_in (List.mem_append_right _ (gw_tm (i := 530) rfl))
set_option maxRecDepth 20000 in
theorem mw167 : (Cond.instanceMethod ({ cls := "GenerationsModel", name := "owner", desc := "(I)I" } : Jvm.MethodName)) ∈ gw_N0 := gw_in (List.mem_append_right _ (gw_tm (i := 532) rfl))
set_option maxRecDepth 20000 in
theorem mw168 : (Cond.selects "GenerationsModel" ⟨"GenerationsModel", "owner", "(I)I"⟩ ⟨"GenerationsModel", "owner", "(I)I"⟩) ∈ gw_N0 := gw_in (List.mem_append_left _ (List.mem_of_getElem? (i := 28) rfl))
set_option maxRecDepth 20000 in
theorem mw169 : (Cond.initialized "GenerationsModel") ∈ gw_N0 := gw_in (List.mem_append_right _ (gw_tm (i := 8) rfl))
set_option maxRecDepth 20000 in
theorem mw170 : (Cond.code ({ cls := "GenerationsModel", name := "versionOf", desc := "(I)I" } : Jvm.MethodName) prog_6_method_7_code (2 : Nat) (Option.some Jvm.ClassFile.FieldType.int)) ∈ gw_N0 := gw_in (List.mem_append_right _ (gw_tm (i := 537) rfl))
set_option maxRecDepth 20000 in
theorem mw171 : (Cond.methodLink "GenerationsModel" (46 : Nat) ({ cls := "GenerationsModel", name := "versionOf", desc := "(I)I" } : Jvm.MethodName)) ∈ gw_N0 := gw_in (List.mem_append_right _ (gw_tm (i := 534) rfl))
set_option maxRecDepth 20000 in
theorem mw172 : (Cond.instanceMethod ({ cls := "GenerationsModel", name := "versionOf", desc := "(I)I" } : Jvm.MethodName)) ∈ gw_N0 := gw_in (List.mem_append_right _ (gw_tm (i := 536) rfl))
set_option maxRecDepth 20000 in
theorem mw173 : (Cond.selects "GenerationsModel" ⟨"GenerationsModel", "versionOf", "(I)I"⟩ ⟨"GenerationsModel", "versionOf", "(I)I"⟩) ∈ gw_N0 := gw_in (List.mem_append_left _ (List.mem_of_getElem? (i := 29) rfl))
set_option maxRecDepth 20000 in
theorem mw174 : (Cond.code ({ cls := "GenerationsModel", name := "be", desc := "(IIII)V" } : Jvm.MethodName) prog_6_method_8_code (5 : Nat) (Option.none : Option Jvm.ClassFile.FieldType)) ∈ gw_N0 := gw_in (List.mem_append_right _ (gw_tm (i := 541) rfl))
set_option maxRecDepth 20000 in
theorem mw175 : (Cond.methodLink "GenerationsModel" (49 : Nat) ({ cls := "GenerationsModel", name := "be", desc := "(IIII)V" } : Jvm.MethodName)) ∈ gw_N0 := gw_in (List.mem_append_right _ (gw_tm (i := 538) rfl))
set_option maxRecDepth 20000 in
theorem mw176 : (Cond.instanceMethod ({ cls := "GenerationsModel", name := "be", desc := "(IIII)V" } : Jvm.MethodName)) ∈ gw_N0 := gw_in (List.mem_append_right _ (gw_tm (i := 540) rfl))
set_option maxRecDepth 20000 in
theorem mw177 : (Cond.selects "GenerationsModel" ⟨"GenerationsModel", "be", "(IIII)V"⟩ ⟨"GenerationsModel", "be", "(IIII)V"⟩) ∈ gw_N0 := gw_in (List.mem_append_left _ (List.mem_of_getElem? (i := 30) rfl))
set_option maxRecDepth 20000 in
theorem mw178 : (Cond.fieldLink "GenerationsModel" (53 : Nat) "GenerationsModel" "size" "I") ∈ gw_N0 := gw_in (List.mem_append_right _ (gw_tm (i := 464) rfl))
set_option maxRecDepth 20000 in
theorem mw179 : (Cond.code ({ cls := "GenerationsModel", name := "become", desc := "(II)V" } : Jvm.MethodName) prog_6_method_9_code (3 : Nat) (Option.none : Option Jvm.ClassFile.FieldType)) ∈ gw_N0 := gw_in (List.mem_append_right _ (gw_tm (i := 529) rfl))
set_option maxRecDepth 20000 in
theorem mw180 : (Cond.methodLink "GenerationsModel" (60 : Nat) ({ cls := "GenerationsModel", name := "become", desc := "(II)V" } : Jvm.MethodName)) ∈ gw_N0 := gw_in (List.mem_append_right _ (gw_tm (i := 526) rfl))
set_option maxRecDepth 20000 in
theorem mw181 : (Cond.instanceMethod ({ cls := "GenerationsModel", name := "become", desc := "(II)V" } : Jvm.MethodName)) ∈ gw_N0 := gw_in (List.mem_append_right _ (gw_tm (i := 528) rfl))
set_option maxRecDepth 20000 in
theorem mw182 : (Cond.selects "GenerationsModel" ⟨"GenerationsModel", "become", "(II)V"⟩ ⟨"GenerationsModel", "become", "(II)V"⟩) ∈ gw_N0 := gw_in (List.mem_append_left _ (List.mem_of_getElem? (i := 27) rfl))
set_option maxRecDepth 20000 in
theorem mw183 : (Cond.code ({ cls := "GenerationsModel", name := "isNumber", desc := "(I)Z" } : Jvm.MethodName) prog_6_method_4_code (1 : Nat) (Option.some Jvm.ClassFile.FieldType.boolean)) ∈ gw_N0 := gw_in (List.mem_append_right _ (gw_tm (i := 514) rfl))
set_option maxRecDepth 20000 in
theorem mw184 : (Cond.methodLink "GenerationsModel" (70 : Nat) ({ cls := "GenerationsModel", name := "isNumber", desc := "(I)Z" } : Jvm.MethodName)) ∈ gw_N0 := gw_in (List.mem_append_right _ (gw_tm (i := 512) rfl))
set_option maxRecDepth 20000 in
theorem mw185 : (Cond.static ({ cls := "GenerationsModel", name := "isNumber", desc := "(I)Z" } : Jvm.MethodName)) ∈ gw_N0 := gw_in (List.mem_append_right _ (gw_tm (i := 513) rfl))
set_option maxRecDepth 20000 in
theorem mw186 : (Cond.code ({ cls := "GenerationsModel", name := "what", desc := "(I)I" } : Jvm.MethodName) prog_6_method_5_code (2 : Nat) (Option.some Jvm.ClassFile.FieldType.int)) ∈ gw_N0 := gw_in (List.mem_append_right _ (gw_tm (i := 518) rfl))
set_option maxRecDepth 20000 in
theorem mw187 : (Cond.methodLink "GenerationsModel" (74 : Nat) ({ cls := "GenerationsModel", name := "what", desc := "(I)I" } : Jvm.MethodName)) ∈ gw_N0 := gw_in (List.mem_append_right _ (gw_tm (i := 515) rfl))
set_option maxRecDepth 20000 in
theorem mw188 : (Cond.instanceMethod ({ cls := "GenerationsModel", name := "what", desc := "(I)I" } : Jvm.MethodName)) ∈ gw_N0 := gw_in (List.mem_append_right _ (gw_tm (i := 517) rfl))
set_option maxRecDepth 20000 in
theorem mw189 : (Cond.selects "GenerationsModel" ⟨"GenerationsModel", "what", "(I)I"⟩ ⟨"GenerationsModel", "what", "(I)I"⟩) ∈ gw_N0 := gw_in (List.mem_append_left _ (List.mem_of_getElem? (i := 25) rfl))
set_option maxRecDepth 20000 in
theorem mw190 : (Cond.code ({ cls := "GenerationsModel", name := "enter", desc := "(I)V" } : Jvm.MethodName) prog_6_method_11_code (6 : Nat) (Option.none : Option Jvm.ClassFile.FieldType)) ∈ gw_N0 := gw_in (List.mem_append_right _ (gw_tm (i := 522) rfl))
set_option maxRecDepth 20000 in
theorem mw191 : (Cond.methodLink "GenerationsModel" (77 : Nat) ({ cls := "GenerationsModel", name := "enter", desc := "(I)V" } : Jvm.MethodName)) ∈ gw_N0 := gw_in (List.mem_append_right _ (gw_tm (i := 519) rfl))
set_option maxRecDepth 20000 in
theorem mw192 : (Cond.instanceMethod ({ cls := "GenerationsModel", name := "enter", desc := "(I)V" } : Jvm.MethodName)) ∈ gw_N0 := gw_in (List.mem_append_right _ (gw_tm (i := 521) rfl))
set_option maxRecDepth 20000 in
theorem mw193 : (Cond.selects "GenerationsModel" ⟨"GenerationsModel", "enter", "(I)V"⟩ ⟨"GenerationsModel", "enter", "(I)V"⟩) ∈ gw_N0 := gw_in (List.mem_append_left _ (List.mem_of_getElem? (i := 26) rfl))
end
section
theorem d_Mo_init_0 : decode b_Mo_init 0 = .ok (.aload_n 0, 1) := by decide +kernel
theorem d_Mo_init_1 : decode b_Mo_init 1 = .ok (.invokespecial 1, 3) := by decide +kernel
theorem d_Mo_init_4 : decode b_Mo_init 4 = .ok (.aload_n 0, 1) := by decide +kernel
theorem d_Mo_init_5 : decode b_Mo_init 5 = .ok (.sipush 10000, 3) := by decide +kernel
theorem d_Mo_init_8 : decode b_Mo_init 8 = .ok (.newarray .int, 2) := by decide +kernel
theorem d_Mo_init_10 : decode b_Mo_init 10 = .ok (.putfield 7, 3) := by decide +kernel
theorem d_Mo_init_13 : decode b_Mo_init 13 = .ok (.aload_n 0, 1) := by decide +kernel
theorem d_Mo_init_14 : decode b_Mo_init 14 = .ok (.sipush 300, 3) := by decide +kernel
theorem d_Mo_init_17 : decode b_Mo_init 17 = .ok (.newarray .int, 2) := by decide +kernel
theorem d_Mo_init_19 : decode b_Mo_init 19 = .ok (.putfield 13, 3) := by decide +kernel
theorem d_Mo_init_22 : decode b_Mo_init 22 = .ok (.aload_n 0, 1) := by decide +kernel
theorem d_Mo_init_23 : decode b_Mo_init 23 = .ok (.sipush 10240, 3) := by decide +kernel
theorem d_Mo_init_26 : decode b_Mo_init 26 = .ok (.newarray .int, 2) := by decide +kernel
theorem d_Mo_init_28 : decode b_Mo_init 28 = .ok (.putfield 16, 3) := by decide +kernel
theorem d_Mo_init_31 : decode b_Mo_init 31 = .ok (.aload_n 0, 1) := by decide +kernel
theorem d_Mo_init_32 : decode b_Mo_init 32 = .ok (.bipush 41, 2) := by decide +kernel
theorem d_Mo_init_34 : decode b_Mo_init 34 = .ok (.newarray .int, 2) := by decide +kernel
theorem d_Mo_init_36 : decode b_Mo_init 36 = .ok (.putfield 19, 3) := by decide +kernel
theorem d_Mo_init_39 : decode b_Mo_init 39 = .ok (.aload_n 0, 1) := by decide +kernel
theorem d_Mo_init_40 : decode b_Mo_init 40 = .ok (.bipush 41, 2) := by decide +kernel
theorem d_Mo_init_42 : decode b_Mo_init 42 = .ok (.newarray .int, 2) := by decide +kernel
theorem d_Mo_init_44 : decode b_Mo_init 44 = .ok (.putfield 22, 3) := by decide +kernel
theorem d_Mo_init_47 : decode b_Mo_init 47 = .ok (.aload_n 0, 1) := by decide +kernel
theorem d_Mo_init_48 : decode b_Mo_init 48 = .ok (.sipush 4100, 3) := by decide +kernel
theorem d_Mo_init_51 : decode b_Mo_init 51 = .ok (.newarray .int, 2) := by decide +kernel
theorem d_Mo_init_53 : decode b_Mo_init 53 = .ok (.putfield 25, 3) := by decide +kernel
theorem d_Mo_init_56 : decode b_Mo_init 56 = .ok (.aload_n 0, 1) := by decide +kernel
theorem d_Mo_init_57 : decode b_Mo_init 57 = .ok (.sipush 2048, 3) := by decide +kernel
theorem d_Mo_init_60 : decode b_Mo_init 60 = .ok (.newarray .int, 2) := by decide +kernel
theorem d_Mo_init_62 : decode b_Mo_init 62 = .ok (.putfield 28, 3) := by decide +kernel
theorem d_Mo_init_65 : decode b_Mo_init 65 = .ok (.aload_n 0, 1) := by decide +kernel
theorem d_Mo_init_66 : decode b_Mo_init 66 = .ok (.iload_n 1, 1) := by decide +kernel
theorem d_Mo_init_67 : decode b_Mo_init 67 = .ok (.iconst 1, 1) := by decide +kernel
theorem d_Mo_init_68 : decode b_Mo_init 68 = .ok (.if_icmp .ge 7, 3) := by decide +kernel
theorem d_Mo_init_75 : decode b_Mo_init 75 = .ok (.iload_n 1, 1) := by decide +kernel
theorem d_Mo_init_76 : decode b_Mo_init 76 = .ok (.sipush 255, 3) := by decide +kernel
theorem d_Mo_init_79 : decode b_Mo_init 79 = .ok (.if_icmp .le 9, 3) := by decide +kernel
theorem d_Mo_init_88 : decode b_Mo_init 88 = .ok (.iload_n 1, 1) := by decide +kernel
theorem d_Mo_init_89 : decode b_Mo_init 89 = .ok (.putfield 31, 3) := by decide +kernel
theorem d_Mo_init_92 : decode b_Mo_init 92 = .ok (.aload_n 0, 1) := by decide +kernel
theorem d_Mo_init_93 : decode b_Mo_init 93 = .ok (.iload_n 2, 1) := by decide +kernel
theorem d_Mo_init_94 : decode b_Mo_init 94 = .ok (.ifCond .eq 7, 3) := by decide +kernel
theorem d_Mo_init_101 : decode b_Mo_init 101 = .ok (.iconst 0, 1) := by decide +kernel
theorem d_Mo_init_102 : decode b_Mo_init 102 = .ok (.putfield 35, 3) := by decide +kernel
theorem d_Mo_init_105 : decode b_Mo_init 105 = .ok (.return_, 1) := by decide +kernel
theorem d_Mo_init_97 : decode b_Mo_init 97 = .ok (.iconst 1, 1) := by decide +kernel
theorem d_Mo_init_98 : decode b_Mo_init 98 = .ok (.goto 4, 3) := by decide +kernel
theorem d_Mo_init_82 : decode b_Mo_init 82 = .ok (.sipush 255, 3) := by decide +kernel
theorem d_Mo_init_85 : decode b_Mo_init 85 = .ok (.goto 4, 3) := by decide +kernel
theorem d_Mo_init_71 : decode b_Mo_init 71 = .ok (.iconst 1, 1) := by decide +kernel
theorem d_Mo_init_72 : decode b_Mo_init 72 = .ok (.goto 17, 3) := by decide +kernel
theorem d_Mo_thrown_0 : decode b_Mo_thrown 0 = .ok (.aload_n 0, 1) := by decide +kernel
theorem d_Mo_thrown_1 : decode b_Mo_thrown 1 = .ok (.getfield 39, 3) := by decide +kernel
theorem d_Mo_thrown_4 : decode b_Mo_thrown 4 = .ok (.ireturn, 1) := by decide +kernel
theorem d_Mo_isNumber_0 : decode b_Mo_isNumber 0 = .ok (.iload_n 0, 1) := by decide +kernel
theorem d_Mo_isNumber_1 : decode b_Mo_isNumber 1 = .ok (.ifCond .le 14, 3) := by decide +kernel
theorem d_Mo_isNumber_15 : decode b_Mo_isNumber 15 = .ok (.iconst 0, 1) := by decide +kernel
theorem d_Mo_isNumber_16 : decode b_Mo_isNumber 16 = .ok (.ireturn, 1) := by decide +kernel
theorem d_Mo_isNumber_4 : decode b_Mo_isNumber 4 = .ok (.iload_n 0, 1) := by decide +kernel
theorem d_Mo_isNumber_5 : decode b_Mo_isNumber 5 = .ok (.sipush 9999, 3) := by decide +kernel
theorem d_Mo_isNumber_8 : decode b_Mo_isNumber 8 = .ok (.if_icmp .gt 7, 3) := by decide +kernel
theorem d_Mo_isNumber_11 : decode b_Mo_isNumber 11 = .ok (.iconst 1, 1) := by decide +kernel
theorem d_Mo_isNumber_12 : decode b_Mo_isNumber 12 = .ok (.goto 4, 3) := by decide +kernel
theorem d_Mo_what_0 : decode b_Mo_what 0 = .ok (.aload_n 0, 1) := by decide +kernel
theorem d_Mo_what_1 : decode b_Mo_what 1 = .ok (.getfield 7, 3) := by decide +kernel
theorem d_Mo_what_4 : decode b_Mo_what 4 = .ok (.iload_n 1, 1) := by decide +kernel
theorem d_Mo_what_5 : decode b_Mo_what 5 = .ok (.iaload, 1) := by decide +kernel
theorem d_Mo_what_6 : decode b_Mo_what 6 = .ok (.bipush 7, 2) := by decide +kernel
theorem d_Mo_what_8 : decode b_Mo_what 8 = .ok (.iand, 1) := by decide +kernel
theorem d_Mo_what_9 : decode b_Mo_what 9 = .ok (.ireturn, 1) := by decide +kernel
theorem d_Mo_owner_0 : decode b_Mo_owner 0 = .ok (.aload_n 0, 1) := by decide +kernel
theorem d_Mo_owner_1 : decode b_Mo_owner 1 = .ok (.getfield 7, 3) := by decide +kernel
theorem d_Mo_owner_4 : decode b_Mo_owner 4 = .ok (.iload_n 1, 1) := by decide +kernel
theorem d_Mo_owner_5 : decode b_Mo_owner 5 = .ok (.iaload, 1) := by decide +kernel
theorem d_Mo_owner_6 : decode b_Mo_owner 6 = .ok (.iconst 3, 1) := by decide +kernel
theorem d_Mo_owner_7 : decode b_Mo_owner 7 = .ok (.ishr, 1) := by decide +kernel
theorem d_Mo_owner_8 : decode b_Mo_owner 8 = .ok (.bipush 63, 2) := by decide +kernel
theorem d_Mo_owner_10 : decode b_Mo_owner 10 = .ok (.iand, 1) := by decide +kernel
theorem d_Mo_owner_11 : decode b_Mo_owner 11 = .ok (.ireturn, 1) := by decide +kernel
theorem d_Mo_versionOf_0 : decode b_Mo_versionOf 0 = .ok (.aload_n 0, 1) := by decide +kernel
theorem d_Mo_versionOf_1 : decode b_Mo_versionOf 1 = .ok (.getfield 7, 3) := by decide +kernel
theorem d_Mo_versionOf_4 : decode b_Mo_versionOf 4 = .ok (.iload_n 1, 1) := by decide +kernel
theorem d_Mo_versionOf_5 : decode b_Mo_versionOf 5 = .ok (.iaload, 1) := by decide +kernel
theorem d_Mo_versionOf_6 : decode b_Mo_versionOf 6 = .ok (.bipush 9, 2) := by decide +kernel
theorem d_Mo_versionOf_8 : decode b_Mo_versionOf 8 = .ok (.ishr, 1) := by decide +kernel
theorem d_Mo_versionOf_9 : decode b_Mo_versionOf 9 = .ok (.ireturn, 1) := by decide +kernel
theorem d_Mo_be_0 : decode b_Mo_be 0 = .ok (.aload_n 0, 1) := by decide +kernel
theorem d_Mo_be_1 : decode b_Mo_be 1 = .ok (.getfield 7, 3) := by decide +kernel
theorem d_Mo_be_4 : decode b_Mo_be 4 = .ok (.iload_n 1, 1) := by decide +kernel
theorem d_Mo_be_5 : decode b_Mo_be 5 = .ok (.iload_n 2, 1) := by decide +kernel
theorem d_Mo_be_6 : decode b_Mo_be 6 = .ok (.iload_n 3, 1) := by decide +kernel
theorem d_Mo_be_7 : decode b_Mo_be 7 = .ok (.iconst 3, 1) := by decide +kernel
theorem d_Mo_be_8 : decode b_Mo_be 8 = .ok (.ishl, 1) := by decide +kernel
theorem d_Mo_be_9 : decode b_Mo_be 9 = .ok (.ior, 1) := by decide +kernel
theorem d_Mo_be_10 : decode b_Mo_be 10 = .ok (.iload 4, 2) := by decide +kernel
theorem d_Mo_be_12 : decode b_Mo_be 12 = .ok (.bipush 9, 2) := by decide +kernel
theorem d_Mo_be_14 : decode b_Mo_be 14 = .ok (.ishl, 1) := by decide +kernel
theorem d_Mo_be_15 : decode b_Mo_be 15 = .ok (.ior, 1) := by decide +kernel
theorem d_Mo_be_16 : decode b_Mo_be 16 = .ok (.iastore, 1) := by decide +kernel
theorem d_Mo_be_17 : decode b_Mo_be 17 = .ok (.return_, 1) := by decide +kernel
theorem d_Mo_become_0 : decode b_Mo_become 0 = .ok (.aload_n 0, 1) := by decide +kernel
theorem d_Mo_become_1 : decode b_Mo_become 1 = .ok (.iload_n 1, 1) := by decide +kernel
theorem d_Mo_become_2 : decode b_Mo_become 2 = .ok (.iload_n 2, 1) := by decide +kernel
theorem d_Mo_become_3 : decode b_Mo_become 3 = .ok (.aload_n 0, 1) := by decide +kernel
theorem d_Mo_become_4 : decode b_Mo_become 4 = .ok (.iload_n 1, 1) := by decide +kernel
theorem d_Mo_become_5 : decode b_Mo_become 5 = .ok (.invokevirtual 42, 3) := by decide +kernel
theorem d_Mo_become_8 : decode b_Mo_become 8 = .ok (.aload_n 0, 1) := by decide +kernel
theorem d_Mo_become_9 : decode b_Mo_become 9 = .ok (.iload_n 1, 1) := by decide +kernel
theorem d_Mo_become_10 : decode b_Mo_become 10 = .ok (.invokevirtual 46, 3) := by decide +kernel
theorem d_Mo_become_13 : decode b_Mo_become 13 = .ok (.invokevirtual 49, 3) := by decide +kernel
theorem d_Mo_become_16 : decode b_Mo_become 16 = .ok (.return_, 1) := by decide +kernel
theorem d_Mo_enter_0 : decode b_Mo_enter 0 = .ok (.iconst 0, 1) := by decide +kernel
theorem d_Mo_enter_1 : decode b_Mo_enter 1 = .ok (.istore_n 2, 1) := by decide +kernel
theorem d_Mo_enter_2 : decode b_Mo_enter 2 = .ok (.iconst 0, 1) := by decide +kernel
theorem d_Mo_enter_3 : decode b_Mo_enter 3 = .ok (.istore_n 3, 1) := by decide +kernel
theorem d_Mo_enter_4 : decode b_Mo_enter 4 = .ok (.iload_n 3, 1) := by decide +kernel
theorem d_Mo_enter_5 : decode b_Mo_enter 5 = .ok (.aload_n 0, 1) := by decide +kernel
theorem d_Mo_enter_6 : decode b_Mo_enter 6 = .ok (.getfield 53, 3) := by decide +kernel
theorem d_Mo_enter_9 : decode b_Mo_enter 9 = .ok (.if_icmp .ge 30, 3) := by decide +kernel
theorem d_Mo_enter_39 : decode b_Mo_enter 39 = .ok (.aload_n 0, 1) := by decide +kernel
end
section
theorem d_Mo_enter_40 : decode b_Mo_enter 40 = .ok (.getfield 53, 3) := by decide +kernel
theorem d_Mo_enter_43 : decode b_Mo_enter 43 = .ok (.istore_n 3, 1) := by decide +kernel
theorem d_Mo_enter_44 : decode b_Mo_enter 44 = .ok (.iload_n 3, 1) := by decide +kernel
theorem d_Mo_enter_45 : decode b_Mo_enter 45 = .ok (.iload_n 2, 1) := by decide +kernel
theorem d_Mo_enter_46 : decode b_Mo_enter 46 = .ok (.if_icmp .le 23, 3) := by decide +kernel
theorem d_Mo_enter_69 : decode b_Mo_enter 69 = .ok (.aload_n 0, 1) := by decide +kernel
theorem d_Mo_enter_70 : decode b_Mo_enter 70 = .ok (.getfield 13, 3) := by decide +kernel
theorem d_Mo_enter_73 : decode b_Mo_enter 73 = .ok (.iload_n 2, 1) := by decide +kernel
theorem d_Mo_enter_74 : decode b_Mo_enter 74 = .ok (.iload_n 1, 1) := by decide +kernel
theorem d_Mo_enter_75 : decode b_Mo_enter 75 = .ok (.iastore, 1) := by decide +kernel
theorem d_Mo_enter_76 : decode b_Mo_enter 76 = .ok (.aload_n 0, 1) := by decide +kernel
theorem d_Mo_enter_77 : decode b_Mo_enter 77 = .ok (.dup, 1) := by decide +kernel
theorem d_Mo_enter_78 : decode b_Mo_enter 78 = .ok (.getfield 53, 3) := by decide +kernel
theorem d_Mo_enter_81 : decode b_Mo_enter 81 = .ok (.iconst 1, 1) := by decide +kernel
theorem d_Mo_enter_82 : decode b_Mo_enter 82 = .ok (.iadd, 1) := by decide +kernel
theorem d_Mo_enter_83 : decode b_Mo_enter 83 = .ok (.putfield 53, 3) := by decide +kernel
theorem d_Mo_enter_86 : decode b_Mo_enter 86 = .ok (.aload_n 0, 1) := by decide +kernel
theorem d_Mo_enter_87 : decode b_Mo_enter 87 = .ok (.iload_n 1, 1) := by decide +kernel
theorem d_Mo_enter_88 : decode b_Mo_enter 88 = .ok (.iconst 1, 1) := by decide +kernel
theorem d_Mo_enter_89 : decode b_Mo_enter 89 = .ok (.invokevirtual 60, 3) := by decide +kernel
theorem d_Mo_enter_92 : decode b_Mo_enter 92 = .ok (.aload_n 0, 1) := by decide +kernel
theorem d_Mo_enter_93 : decode b_Mo_enter 93 = .ok (.getfield 53, 3) := by decide +kernel
theorem d_Mo_enter_96 : decode b_Mo_enter 96 = .ok (.aload_n 0, 1) := by decide +kernel
theorem d_Mo_enter_97 : decode b_Mo_enter 97 = .ok (.getfield 31, 3) := by decide +kernel
theorem d_Mo_enter_100 : decode b_Mo_enter 100 = .ok (.if_icmp .gt 4, 3) := by decide +kernel
theorem d_Mo_enter_103 : decode b_Mo_enter 103 = .ok (.return_, 1) := by decide +kernel
theorem d_Mo_catalogue_0 : decode b_Mo_catalogue 0 = .ok (.aload_n 0, 1) := by decide +kernel
theorem d_Mo_catalogue_1 : decode b_Mo_catalogue 1 = .ok (.iconst 0, 1) := by decide +kernel
theorem d_Mo_catalogue_2 : decode b_Mo_catalogue 2 = .ok (.putfield 39, 3) := by decide +kernel
theorem d_Mo_catalogue_5 : decode b_Mo_catalogue 5 = .ok (.iload_n 1, 1) := by decide +kernel
theorem d_Mo_catalogue_6 : decode b_Mo_catalogue 6 = .ok (.invokestatic 70, 3) := by decide +kernel
theorem d_Mo_catalogue_9 : decode b_Mo_catalogue 9 = .ok (.ifCond .eq 20, 3) := by decide +kernel
theorem d_Mo_catalogue_29 : decode b_Mo_catalogue 29 = .ok (.iconst (-1), 1) := by decide +kernel
theorem d_Mo_catalogue_30 : decode b_Mo_catalogue 30 = .ok (.ireturn, 1) := by decide +kernel
theorem d_Mo_catalogue_12 : decode b_Mo_catalogue 12 = .ok (.aload_n 0, 1) := by decide +kernel
theorem d_Mo_catalogue_13 : decode b_Mo_catalogue 13 = .ok (.iload_n 1, 1) := by decide +kernel
theorem d_Mo_catalogue_14 : decode b_Mo_catalogue 14 = .ok (.invokevirtual 74, 3) := by decide +kernel
theorem d_Mo_catalogue_17 : decode b_Mo_catalogue 17 = .ok (.ifCond .eq 14, 3) := by decide +kernel
theorem d_Mo_catalogue_31 : decode b_Mo_catalogue 31 = .ok (.aload_n 0, 1) := by decide +kernel
theorem d_Mo_catalogue_32 : decode b_Mo_catalogue 32 = .ok (.iload_n 1, 1) := by decide +kernel
theorem d_Mo_catalogue_33 : decode b_Mo_catalogue 33 = .ok (.invokevirtual 77, 3) := by decide +kernel
theorem d_Mo_catalogue_36 : decode b_Mo_catalogue 36 = .ok (.aload_n 0, 1) := by decide +kernel
theorem d_Mo_catalogue_37 : decode b_Mo_catalogue 37 = .ok (.getfield 53, 3) := by decide +kernel
theorem d_Mo_catalogue_40 : decode b_Mo_catalogue 40 = .ok (.ireturn, 1) := by decide +kernel
end
section
set_option maxHeartbeats 4000000 in
set_option maxRecDepth 100000 in
theorem m_init (l : Launch) (G : gw_G) (M : gw_M) (mo : Nat) (p0 : Int32) (p1 : Int32) (hf_mo : M mo = some (100, .inr (5, [.int 0, .int 0, .int 0, .int 0, .null, .null, .int 0, .null, .null, .null, .null, .int 0, .int 0, .null, .int 0]))) : Met l y_Mo_init [.code y_Mo_init b_Mo_init 3 none] ({ frames := 1, cells := 7, slots := 26770, locals := 12 }) (gw_Pc G M [.ref mo, .int p0, .int p1]) (gw_Qv G (fun M2 => ∃ (there : Nat) (mrow : Nat) (found : Nat) (fsz : Nat) (ends : Nat) (made : Nat) (drops : Nat) (lm : Int32) (sm : Int32), M2 mo = some (100, .inr (5, [.int 0, .int lm, .int sm, .int 0, .ref there, .ref mrow, .int 0, .ref found, .ref fsz, .ref ends, .ref made, .int 0, .int 0, .ref drops, .int 0])) ∧ M2 there = some (101, .inl (G.2.1 0, 10000, .inl (fun _ => 0))) ∧ M2 mrow = some (102, .inl (G.2.1 0, 300, .inl (fun _ => 0))) ∧ M2 found = some (103, .inl (G.2.1 0, 10240, .inl (fun _ => 0))) ∧ M2 fsz = some (104, .inl (G.2.1 0, 41, .inl (fun _ => 0))) ∧ M2 ends = some (105, .inl (G.2.1 0, 41, .inl (fun _ => 0))) ∧ M2 made = some (106, .inl (G.2.1 0, 4100, .inl (fun _ => 0))) ∧ M2 drops = some (107, .inl (G.2.1 0, 2048, .inl (fun _ => 0))) ∧ ¬ lm < 0 + 1 ∧ gw_fr (gw_out [100, 101, 102, 103, 104, 105, 106, 107]) M M2)) 7 26770 (gw_A G) := by
  refine gw_start (by decide) (Nat.le_of_ble_eq_true rfl) (fun p9 e9 s m b9 mt9 c9 hx hb hr hml hown hlocks hin hE hB hW ls hl => ?_)
  have hts := hE.ts ([.ref mo, .int p0, .int p1] : List Value).toArray
  have hl : lv_has ls 3 [(0, .ref mo), (1, .int p0), (2, .int p1)] := hl
  have hS : va_S (gw_A G) s.heap s.heap [] := va_S.rf
  have hown : s.vm.findClass "GenerationsModel" = some m.cls := hown
  have hin : mt9.name = "<init>" := hin
  refine lv_aload_n hx hb d_Mo_init_0 rfl (lv_at hl 0 rfl) ?_
  refine W.objInit hx hb hown (hts _ mw154) (hts _ mw1) (hts _ mw2) rfl (by rw [hml]; exact hl.1) rfl d_Mo_init_1 (Nat.le_of_ble_eq_true rfl) (Nat.le_of_ble_eq_true rfl) ?_
  refine W.eq (g2 := F0 m 4 ls []) rfl ?_
  refine lv_aload_n hx hb d_Mo_init_4 rfl (lv_at hl 0 rfl) ?_
  refine lv_sipush (v := 10000) hx hb d_Mo_init_5 (by decide) ?_
  refine gw_newa (atype := .int) (ty := .int) (n := 10000) (a0 := (10000, .inl (fun _ => 0))) (N' := 10000) hx hb (hts (.arrayClass .int) mw3) rfl hE.K hW hS hB (gw_zi 10000) (by decide) (by decide) (Nat.le_of_ble_eq_true rfl) (Nat.le_of_ble_eq_true rfl) (Nat.le_of_ble_eq_true rfl) d_Mo_init_8 0 rfl (fun cA h1 h2 => gw_ri _ _ h1 h2) 101 (fun q1 H hq2 hW hS => ?_)
  refine W.widen (k := 1) (n := 10000) (Nat.le_refl _) (Nat.le_refl _) ?_
  have hF3 : gw_fr (gw_out [100, 101, 102, 103, 104, 105, 106, 107]) M (gw_up M q1 101 (.inl (G.2.1 0, 10000, .inl (fun _ => 0)))) := gw_fr.new gw_fr.rf hq2 (show ¬ ((gw_out [100, 101, 102, 103, 104, 105, 106, 107]) 101) by decide)
  obtain ⟨M4, eM4⟩ : ∃ z, z = gw_up M q1 101 (.inl (G.2.1 0, 10000, .inl (fun _ => 0))) := ⟨_, rfl⟩
  replace hW : gw_P G.1 vwCl G.2.2.2 M4 H := by rw [eM4]; exact hW
  have hf_mo : M4 mo = some (100, .inr (5, [.int 0, .int 0, .int 0, .int 0, .null, .null, .int 0, .null, .null, .null, .null, .int 0, .int 0, .null, .int 0])) := by rw [eM4]; exact gw_keepN hf_mo hq2
  have hf_q1 : M4 q1 = some (101, .inl (G.2.1 0, 10000, .inl (fun _ => 0))) := by rw [eM4]; exact gw_up_self _ _ _ _
  rw [← eM4] at hF3
  refine gw_putF (ci := 5) (fs := [.int 0, .int 0, .int 0, .int 0, .null, .null, .int 0, .null, .null, .null, .null, .int 0, .int 0, .null, .int 0]) (v := .ref q1) (ty := .array .int) hx hb hts in_Mo t_Mo t_Mo_ok n_Mo hown hE.K hW hS hf_mo rfl 4 (by decide) (hts _ mw155) (fun _ h9 => h9) rfl hin rfl (by decide +kernel) rfl rfl (Nat.le_of_ble_eq_true rfl) d_Mo_init_10 (fun H locs hW hS => ?_)
  have hF5 : gw_fr (gw_out [100, 101, 102, 103, 104, 105, 106, 107]) M (gw_up M4 mo 100 (.inr (5, [.int 0, .int 0, .int 0, .int 0, .ref q1, .null, .int 0, .null, .null, .null, .null, .int 0, .int 0, .null, .int 0]))) := gw_fr.up hF3 hf_mo (show ¬ ((gw_out [100, 101, 102, 103, 104, 105, 106, 107]) 100) by decide) (show ¬ ((gw_out [100, 101, 102, 103, 104, 105, 106, 107]) 100) by decide)
  obtain ⟨M6, eM6⟩ : ∃ z, z = gw_up M4 mo 100 (.inr (5, [.int 0, .int 0, .int 0, .int 0, .ref q1, .null, .int 0, .null, .null, .null, .null, .int 0, .int 0, .null, .int 0])) := ⟨_, rfl⟩
  replace hW : gw_P G.1 vwCl G.2.2.2 M6 H := by rw [eM6]; exact hW
  have hf_q1 : M6 q1 = some (101, .inl (G.2.1 0, 10000, .inl (fun _ => 0))) := by rw [eM6]; exact gw_keep hf_q1 hf_mo (by decide)
  have hf_mo : M6 mo = some (100, .inr (5, [.int 0, .int 0, .int 0, .int 0, .ref q1, .null, .int 0, .null, .null, .null, .null, .int 0, .int 0, .null, .int 0])) := by rw [eM6]; exact gw_up_self _ _ _ _
  rw [← eM6] at hF5
  refine lv_aload_n hx hb d_Mo_init_13 rfl (lv_at hl 0 rfl) ?_
  refine lv_sipush (v := 300) hx hb d_Mo_init_14 (by decide) ?_
  refine gw_newa (atype := .int) (ty := .int) (n := 300) (a0 := (300, .inl (fun _ => 0))) (N' := 300) hx hb (hts (.arrayClass .int) mw3) rfl hE.K hW hS hB (gw_zi 300) (by decide) (by decide) (Nat.le_of_ble_eq_true rfl) (Nat.le_of_ble_eq_true rfl) (Nat.le_of_ble_eq_true rfl) d_Mo_init_17 0 rfl (fun cA h1 h2 => gw_ri _ _ h1 h2) 102 (fun q7 H hq8 hW hS => ?_)
  refine W.widen (k := 2) (n := 10300) (Nat.le_refl _) (Nat.le_refl _) ?_
  have hF9 : gw_fr (gw_out [100, 101, 102, 103, 104, 105, 106, 107]) M (gw_up M6 q7 102 (.inl (G.2.1 0, 300, .inl (fun _ => 0)))) := gw_fr.new hF5 hq8 (show ¬ ((gw_out [100, 101, 102, 103, 104, 105, 106, 107]) 102) by decide)
  obtain ⟨M10, eM10⟩ : ∃ z, z = gw_up M6 q7 102 (.inl (G.2.1 0, 300, .inl (fun _ => 0))) := ⟨_, rfl⟩
  replace hW : gw_P G.1 vwCl G.2.2.2 M10 H := by rw [eM10]; exact hW
  have hf_q1 : M10 q1 = some (101, .inl (G.2.1 0, 10000, .inl (fun _ => 0))) := by rw [eM10]; exact gw_keepN hf_q1 hq8
  have hf_mo : M10 mo = some (100, .inr (5, [.int 0, .int 0, .int 0, .int 0, .ref q1, .null, .int 0, .null, .null, .null, .null, .int 0, .int 0, .null, .int 0])) := by rw [eM10]; exact gw_keepN hf_mo hq8
  have hf_q7 : M10 q7 = some (102, .inl (G.2.1 0, 300, .inl (fun _ => 0))) := by rw [eM10]; exact gw_up_self _ _ _ _
  rw [← eM10] at hF9
  refine gw_putF (ci := 5) (fs := [.int 0, .int 0, .int 0, .int 0, .ref q1, .null, .int 0, .null, .null, .null, .null, .int 0, .int 0, .null, .int 0]) (v := .ref q7) (ty := .array .int) hx hb hts in_Mo t_Mo t_Mo_ok n_Mo hown hE.K hW hS hf_mo rfl 5 (by decide) (hts _ mw156) (fun _ h9 => h9) rfl hin rfl (by decide +kernel) rfl rfl (Nat.le_of_ble_eq_true rfl) d_Mo_init_19 (fun H locs hW hS => ?_)
  have hF11 : gw_fr (gw_out [100, 101, 102, 103, 104, 105, 106, 107]) M (gw_up M10 mo 100 (.inr (5, [.int 0, .int 0, .int 0, .int 0, .ref q1, .ref q7, .int 0, .null, .null, .null, .null, .int 0, .int 0, .null, .int 0]))) := gw_fr.up hF9 hf_mo (show ¬ ((gw_out [100, 101, 102, 103, 104, 105, 106, 107]) 100) by decide) (show ¬ ((gw_out [100, 101, 102, 103, 104, 105, 106, 107]) 100) by decide)
  obtain ⟨M12, eM12⟩ : ∃ z, z = gw_up M10 mo 100 (.inr (5, [.int 0, .int 0, .int 0, .int 0, .ref q1, .ref q7, .int 0, .null, .null, .null, .null, .int 0, .int 0, .null, .int 0])) := ⟨_, rfl⟩
  replace hW : gw_P G.1 vwCl G.2.2.2 M12 H := by rw [eM12]; exact hW
  have hf_q1 : M12 q1 = some (101, .inl (G.2.1 0, 10000, .inl (fun _ => 0))) := by rw [eM12]; exact gw_keep hf_q1 hf_mo (by decide)
  have hf_q7 : M12 q7 = some (102, .inl (G.2.1 0, 300, .inl (fun _ => 0))) := by rw [eM12]; exact gw_keep hf_q7 hf_mo (by decide)
  have hf_mo : M12 mo = some (100, .inr (5, [.int 0, .int 0, .int 0, .int 0, .ref q1, .ref q7, .int 0, .null, .null, .null, .null, .int 0, .int 0, .null, .int 0])) := by rw [eM12]; exact gw_up_self _ _ _ _
  rw [← eM12] at hF11
  refine lv_aload_n hx hb d_Mo_init_22 rfl (lv_at hl 0 rfl) ?_
  refine lv_sipush (v := 10240) hx hb d_Mo_init_23 (by decide) ?_
  refine gw_newa (atype := .int) (ty := .int) (n := 10240) (a0 := (10240, .inl (fun _ => 0))) (N' := 10240) hx hb (hts (.arrayClass .int) mw3) rfl hE.K hW hS hB (gw_zi 10240) (by decide) (by decide) (Nat.le_of_ble_eq_true rfl) (Nat.le_of_ble_eq_true rfl) (Nat.le_of_ble_eq_true rfl) d_Mo_init_26 0 rfl (fun cA h1 h2 => gw_ri _ _ h1 h2) 103 (fun q13 H hq14 hW hS => ?_)
  refine W.widen (k := 3) (n := 20540) (Nat.le_refl _) (Nat.le_refl _) ?_
  have hF15 : gw_fr (gw_out [100, 101, 102, 103, 104, 105, 106, 107]) M (gw_up M12 q13 103 (.inl (G.2.1 0, 10240, .inl (fun _ => 0)))) := gw_fr.new hF11 hq14 (show ¬ ((gw_out [100, 101, 102, 103, 104, 105, 106, 107]) 103) by decide)
  obtain ⟨M16, eM16⟩ : ∃ z, z = gw_up M12 q13 103 (.inl (G.2.1 0, 10240, .inl (fun _ => 0))) := ⟨_, rfl⟩
  replace hW : gw_P G.1 vwCl G.2.2.2 M16 H := by rw [eM16]; exact hW
  have hf_q1 : M16 q1 = some (101, .inl (G.2.1 0, 10000, .inl (fun _ => 0))) := by rw [eM16]; exact gw_keepN hf_q1 hq14
  have hf_q7 : M16 q7 = some (102, .inl (G.2.1 0, 300, .inl (fun _ => 0))) := by rw [eM16]; exact gw_keepN hf_q7 hq14
  have hf_mo : M16 mo = some (100, .inr (5, [.int 0, .int 0, .int 0, .int 0, .ref q1, .ref q7, .int 0, .null, .null, .null, .null, .int 0, .int 0, .null, .int 0])) := by rw [eM16]; exact gw_keepN hf_mo hq14
  have hf_q13 : M16 q13 = some (103, .inl (G.2.1 0, 10240, .inl (fun _ => 0))) := by rw [eM16]; exact gw_up_self _ _ _ _
  rw [← eM16] at hF15
  refine gw_putF (ci := 5) (fs := [.int 0, .int 0, .int 0, .int 0, .ref q1, .ref q7, .int 0, .null, .null, .null, .null, .int 0, .int 0, .null, .int 0]) (v := .ref q13) (ty := .array .int) hx hb hts in_Mo t_Mo t_Mo_ok n_Mo hown hE.K hW hS hf_mo rfl 7 (by decide) (hts _ mw157) (fun _ h9 => h9) rfl hin rfl (by decide +kernel) rfl rfl (Nat.le_of_ble_eq_true rfl) d_Mo_init_28 (fun H locs hW hS => ?_)
  have hF17 : gw_fr (gw_out [100, 101, 102, 103, 104, 105, 106, 107]) M (gw_up M16 mo 100 (.inr (5, [.int 0, .int 0, .int 0, .int 0, .ref q1, .ref q7, .int 0, .ref q13, .null, .null, .null, .int 0, .int 0, .null, .int 0]))) := gw_fr.up hF15 hf_mo (show ¬ ((gw_out [100, 101, 102, 103, 104, 105, 106, 107]) 100) by decide) (show ¬ ((gw_out [100, 101, 102, 103, 104, 105, 106, 107]) 100) by decide)
  obtain ⟨M18, eM18⟩ : ∃ z, z = gw_up M16 mo 100 (.inr (5, [.int 0, .int 0, .int 0, .int 0, .ref q1, .ref q7, .int 0, .ref q13, .null, .null, .null, .int 0, .int 0, .null, .int 0])) := ⟨_, rfl⟩
  replace hW : gw_P G.1 vwCl G.2.2.2 M18 H := by rw [eM18]; exact hW
  have hf_q1 : M18 q1 = some (101, .inl (G.2.1 0, 10000, .inl (fun _ => 0))) := by rw [eM18]; exact gw_keep hf_q1 hf_mo (by decide)
  have hf_q7 : M18 q7 = some (102, .inl (G.2.1 0, 300, .inl (fun _ => 0))) := by rw [eM18]; exact gw_keep hf_q7 hf_mo (by decide)
  have hf_q13 : M18 q13 = some (103, .inl (G.2.1 0, 10240, .inl (fun _ => 0))) := by rw [eM18]; exact gw_keep hf_q13 hf_mo (by decide)
  have hf_mo : M18 mo = some (100, .inr (5, [.int 0, .int 0, .int 0, .int 0, .ref q1, .ref q7, .int 0, .ref q13, .null, .null, .null, .int 0, .int 0, .null, .int 0])) := by rw [eM18]; exact gw_up_self _ _ _ _
  rw [← eM18] at hF17
  refine lv_aload_n hx hb d_Mo_init_31 rfl (lv_at hl 0 rfl) ?_
  refine lv_bipush (v := 41) hx hb d_Mo_init_32 (by decide) ?_
  refine gw_newa (atype := .int) (ty := .int) (n := 41) (a0 := (41, .inl (fun _ => 0))) (N' := 41) hx hb (hts (.arrayClass .int) mw3) rfl hE.K hW hS hB (gw_zi 41) (by decide) (by decide) (Nat.le_of_ble_eq_true rfl) (Nat.le_of_ble_eq_true rfl) (Nat.le_of_ble_eq_true rfl) d_Mo_init_34 0 rfl (fun cA h1 h2 => gw_ri _ _ h1 h2) 104 (fun q19 H hq20 hW hS => ?_)
  refine W.widen (k := 4) (n := 20581) (Nat.le_refl _) (Nat.le_refl _) ?_
  have hF21 : gw_fr (gw_out [100, 101, 102, 103, 104, 105, 106, 107]) M (gw_up M18 q19 104 (.inl (G.2.1 0, 41, .inl (fun _ => 0)))) := gw_fr.new hF17 hq20 (show ¬ ((gw_out [100, 101, 102, 103, 104, 105, 106, 107]) 104) by decide)
  obtain ⟨M22, eM22⟩ : ∃ z, z = gw_up M18 q19 104 (.inl (G.2.1 0, 41, .inl (fun _ => 0))) := ⟨_, rfl⟩
  replace hW : gw_P G.1 vwCl G.2.2.2 M22 H := by rw [eM22]; exact hW
  have hf_q1 : M22 q1 = some (101, .inl (G.2.1 0, 10000, .inl (fun _ => 0))) := by rw [eM22]; exact gw_keepN hf_q1 hq20
  have hf_q7 : M22 q7 = some (102, .inl (G.2.1 0, 300, .inl (fun _ => 0))) := by rw [eM22]; exact gw_keepN hf_q7 hq20
  have hf_q13 : M22 q13 = some (103, .inl (G.2.1 0, 10240, .inl (fun _ => 0))) := by rw [eM22]; exact gw_keepN hf_q13 hq20
  have hf_mo : M22 mo = some (100, .inr (5, [.int 0, .int 0, .int 0, .int 0, .ref q1, .ref q7, .int 0, .ref q13, .null, .null, .null, .int 0, .int 0, .null, .int 0])) := by rw [eM22]; exact gw_keepN hf_mo hq20
  have hf_q19 : M22 q19 = some (104, .inl (G.2.1 0, 41, .inl (fun _ => 0))) := by rw [eM22]; exact gw_up_self _ _ _ _
  rw [← eM22] at hF21
  refine gw_putF (ci := 5) (fs := [.int 0, .int 0, .int 0, .int 0, .ref q1, .ref q7, .int 0, .ref q13, .null, .null, .null, .int 0, .int 0, .null, .int 0]) (v := .ref q19) (ty := .array .int) hx hb hts in_Mo t_Mo t_Mo_ok n_Mo hown hE.K hW hS hf_mo rfl 8 (by decide) (hts _ mw158) (fun _ h9 => h9) rfl hin rfl (by decide +kernel) rfl rfl (Nat.le_of_ble_eq_true rfl) d_Mo_init_36 (fun H locs hW hS => ?_)
  have hF23 : gw_fr (gw_out [100, 101, 102, 103, 104, 105, 106, 107]) M (gw_up M22 mo 100 (.inr (5, [.int 0, .int 0, .int 0, .int 0, .ref q1, .ref q7, .int 0, .ref q13, .ref q19, .null, .null, .int 0, .int 0, .null, .int 0]))) := gw_fr.up hF21 hf_mo (show ¬ ((gw_out [100, 101, 102, 103, 104, 105, 106, 107]) 100) by decide) (show ¬ ((gw_out [100, 101, 102, 103, 104, 105, 106, 107]) 100) by decide)
  obtain ⟨M24, eM24⟩ : ∃ z, z = gw_up M22 mo 100 (.inr (5, [.int 0, .int 0, .int 0, .int 0, .ref q1, .ref q7, .int 0, .ref q13, .ref q19, .null, .null, .int 0, .int 0, .null, .int 0])) := ⟨_, rfl⟩
  replace hW : gw_P G.1 vwCl G.2.2.2 M24 H := by rw [eM24]; exact hW
  have hf_q1 : M24 q1 = some (101, .inl (G.2.1 0, 10000, .inl (fun _ => 0))) := by rw [eM24]; exact gw_keep hf_q1 hf_mo (by decide)
  have hf_q7 : M24 q7 = some (102, .inl (G.2.1 0, 300, .inl (fun _ => 0))) := by rw [eM24]; exact gw_keep hf_q7 hf_mo (by decide)
  have hf_q13 : M24 q13 = some (103, .inl (G.2.1 0, 10240, .inl (fun _ => 0))) := by rw [eM24]; exact gw_keep hf_q13 hf_mo (by decide)
  have hf_q19 : M24 q19 = some (104, .inl (G.2.1 0, 41, .inl (fun _ => 0))) := by rw [eM24]; exact gw_keep hf_q19 hf_mo (by decide)
  have hf_mo : M24 mo = some (100, .inr (5, [.int 0, .int 0, .int 0, .int 0, .ref q1, .ref q7, .int 0, .ref q13, .ref q19, .null, .null, .int 0, .int 0, .null, .int 0])) := by rw [eM24]; exact gw_up_self _ _ _ _
  rw [← eM24] at hF23
  refine lv_aload_n hx hb d_Mo_init_39 rfl (lv_at hl 0 rfl) ?_
  refine lv_bipush (v := 41) hx hb d_Mo_init_40 (by decide) ?_
  refine gw_newa (atype := .int) (ty := .int) (n := 41) (a0 := (41, .inl (fun _ => 0))) (N' := 41) hx hb (hts (.arrayClass .int) mw3) rfl hE.K hW hS hB (gw_zi 41) (by decide) (by decide) (Nat.le_of_ble_eq_true rfl) (Nat.le_of_ble_eq_true rfl) (Nat.le_of_ble_eq_true rfl) d_Mo_init_42 0 rfl (fun cA h1 h2 => gw_ri _ _ h1 h2) 105 (fun q25 H hq26 hW hS => ?_)
  refine W.widen (k := 5) (n := 20622) (Nat.le_refl _) (Nat.le_refl _) ?_
  have hF27 : gw_fr (gw_out [100, 101, 102, 103, 104, 105, 106, 107]) M (gw_up M24 q25 105 (.inl (G.2.1 0, 41, .inl (fun _ => 0)))) := gw_fr.new hF23 hq26 (show ¬ ((gw_out [100, 101, 102, 103, 104, 105, 106, 107]) 105) by decide)
  obtain ⟨M28, eM28⟩ : ∃ z, z = gw_up M24 q25 105 (.inl (G.2.1 0, 41, .inl (fun _ => 0))) := ⟨_, rfl⟩
  replace hW : gw_P G.1 vwCl G.2.2.2 M28 H := by rw [eM28]; exact hW
  have hf_q1 : M28 q1 = some (101, .inl (G.2.1 0, 10000, .inl (fun _ => 0))) := by rw [eM28]; exact gw_keepN hf_q1 hq26
  have hf_q7 : M28 q7 = some (102, .inl (G.2.1 0, 300, .inl (fun _ => 0))) := by rw [eM28]; exact gw_keepN hf_q7 hq26
  have hf_q13 : M28 q13 = some (103, .inl (G.2.1 0, 10240, .inl (fun _ => 0))) := by rw [eM28]; exact gw_keepN hf_q13 hq26
  have hf_q19 : M28 q19 = some (104, .inl (G.2.1 0, 41, .inl (fun _ => 0))) := by rw [eM28]; exact gw_keepN hf_q19 hq26
  have hf_mo : M28 mo = some (100, .inr (5, [.int 0, .int 0, .int 0, .int 0, .ref q1, .ref q7, .int 0, .ref q13, .ref q19, .null, .null, .int 0, .int 0, .null, .int 0])) := by rw [eM28]; exact gw_keepN hf_mo hq26
  have hf_q25 : M28 q25 = some (105, .inl (G.2.1 0, 41, .inl (fun _ => 0))) := by rw [eM28]; exact gw_up_self _ _ _ _
  rw [← eM28] at hF27
  refine gw_putF (ci := 5) (fs := [.int 0, .int 0, .int 0, .int 0, .ref q1, .ref q7, .int 0, .ref q13, .ref q19, .null, .null, .int 0, .int 0, .null, .int 0]) (v := .ref q25) (ty := .array .int) hx hb hts in_Mo t_Mo t_Mo_ok n_Mo hown hE.K hW hS hf_mo rfl 9 (by decide) (hts _ mw159) (fun _ h9 => h9) rfl hin rfl (by decide +kernel) rfl rfl (Nat.le_of_ble_eq_true rfl) d_Mo_init_44 (fun H locs hW hS => ?_)
  have hF29 : gw_fr (gw_out [100, 101, 102, 103, 104, 105, 106, 107]) M (gw_up M28 mo 100 (.inr (5, [.int 0, .int 0, .int 0, .int 0, .ref q1, .ref q7, .int 0, .ref q13, .ref q19, .ref q25, .null, .int 0, .int 0, .null, .int 0]))) := gw_fr.up hF27 hf_mo (show ¬ ((gw_out [100, 101, 102, 103, 104, 105, 106, 107]) 100) by decide) (show ¬ ((gw_out [100, 101, 102, 103, 104, 105, 106, 107]) 100) by decide)
  obtain ⟨M30, eM30⟩ : ∃ z, z = gw_up M28 mo 100 (.inr (5, [.int 0, .int 0, .int 0, .int 0, .ref q1, .ref q7, .int 0, .ref q13, .ref q19, .ref q25, .null, .int 0, .int 0, .null, .int 0])) := ⟨_, rfl⟩
  replace hW : gw_P G.1 vwCl G.2.2.2 M30 H := by rw [eM30]; exact hW
  have hf_q1 : M30 q1 = some (101, .inl (G.2.1 0, 10000, .inl (fun _ => 0))) := by rw [eM30]; exact gw_keep hf_q1 hf_mo (by decide)
  have hf_q7 : M30 q7 = some (102, .inl (G.2.1 0, 300, .inl (fun _ => 0))) := by rw [eM30]; exact gw_keep hf_q7 hf_mo (by decide)
  have hf_q13 : M30 q13 = some (103, .inl (G.2.1 0, 10240, .inl (fun _ => 0))) := by rw [eM30]; exact gw_keep hf_q13 hf_mo (by decide)
  have hf_q19 : M30 q19 = some (104, .inl (G.2.1 0, 41, .inl (fun _ => 0))) := by rw [eM30]; exact gw_keep hf_q19 hf_mo (by decide)
  have hf_q25 : M30 q25 = some (105, .inl (G.2.1 0, 41, .inl (fun _ => 0))) := by rw [eM30]; exact gw_keep hf_q25 hf_mo (by decide)
  have hf_mo : M30 mo = some (100, .inr (5, [.int 0, .int 0, .int 0, .int 0, .ref q1, .ref q7, .int 0, .ref q13, .ref q19, .ref q25, .null, .int 0, .int 0, .null, .int 0])) := by rw [eM30]; exact gw_up_self _ _ _ _
  rw [← eM30] at hF29
  refine lv_aload_n hx hb d_Mo_init_47 rfl (lv_at hl 0 rfl) ?_
  refine lv_sipush (v := 4100) hx hb d_Mo_init_48 (by decide) ?_
  refine gw_newa (atype := .int) (ty := .int) (n := 4100) (a0 := (4100, .inl (fun _ => 0))) (N' := 4100) hx hb (hts (.arrayClass .int) mw3) rfl hE.K hW hS hB (gw_zi 4100) (by decide) (by decide) (Nat.le_of_ble_eq_true rfl) (Nat.le_of_ble_eq_true rfl) (Nat.le_of_ble_eq_true rfl) d_Mo_init_51 0 rfl (fun cA h1 h2 => gw_ri _ _ h1 h2) 106 (fun q31 H hq32 hW hS => ?_)
  refine W.widen (k := 6) (n := 24722) (Nat.le_refl _) (Nat.le_refl _) ?_
  have hF33 : gw_fr (gw_out [100, 101, 102, 103, 104, 105, 106, 107]) M (gw_up M30 q31 106 (.inl (G.2.1 0, 4100, .inl (fun _ => 0)))) := gw_fr.new hF29 hq32 (show ¬ ((gw_out [100, 101, 102, 103, 104, 105, 106, 107]) 106) by decide)
  obtain ⟨M34, eM34⟩ : ∃ z, z = gw_up M30 q31 106 (.inl (G.2.1 0, 4100, .inl (fun _ => 0))) := ⟨_, rfl⟩
  replace hW : gw_P G.1 vwCl G.2.2.2 M34 H := by rw [eM34]; exact hW
  have hf_q1 : M34 q1 = some (101, .inl (G.2.1 0, 10000, .inl (fun _ => 0))) := by rw [eM34]; exact gw_keepN hf_q1 hq32
  have hf_q7 : M34 q7 = some (102, .inl (G.2.1 0, 300, .inl (fun _ => 0))) := by rw [eM34]; exact gw_keepN hf_q7 hq32
  have hf_q13 : M34 q13 = some (103, .inl (G.2.1 0, 10240, .inl (fun _ => 0))) := by rw [eM34]; exact gw_keepN hf_q13 hq32
  have hf_q19 : M34 q19 = some (104, .inl (G.2.1 0, 41, .inl (fun _ => 0))) := by rw [eM34]; exact gw_keepN hf_q19 hq32
  have hf_q25 : M34 q25 = some (105, .inl (G.2.1 0, 41, .inl (fun _ => 0))) := by rw [eM34]; exact gw_keepN hf_q25 hq32
  have hf_mo : M34 mo = some (100, .inr (5, [.int 0, .int 0, .int 0, .int 0, .ref q1, .ref q7, .int 0, .ref q13, .ref q19, .ref q25, .null, .int 0, .int 0, .null, .int 0])) := by rw [eM34]; exact gw_keepN hf_mo hq32
  have hf_q31 : M34 q31 = some (106, .inl (G.2.1 0, 4100, .inl (fun _ => 0))) := by rw [eM34]; exact gw_up_self _ _ _ _
  rw [← eM34] at hF33
  refine gw_putF (ci := 5) (fs := [.int 0, .int 0, .int 0, .int 0, .ref q1, .ref q7, .int 0, .ref q13, .ref q19, .ref q25, .null, .int 0, .int 0, .null, .int 0]) (v := .ref q31) (ty := .array .int) hx hb hts in_Mo t_Mo t_Mo_ok n_Mo hown hE.K hW hS hf_mo rfl 10 (by decide) (hts _ mw160) (fun _ h9 => h9) rfl hin rfl (by decide +kernel) rfl rfl (Nat.le_of_ble_eq_true rfl) d_Mo_init_53 (fun H locs hW hS => ?_)
  have hF35 : gw_fr (gw_out [100, 101, 102, 103, 104, 105, 106, 107]) M (gw_up M34 mo 100 (.inr (5, [.int 0, .int 0, .int 0, .int 0, .ref q1, .ref q7, .int 0, .ref q13, .ref q19, .ref q25, .ref q31, .int 0, .int 0, .null, .int 0]))) := gw_fr.up hF33 hf_mo (show ¬ ((gw_out [100, 101, 102, 103, 104, 105, 106, 107]) 100) by decide) (show ¬ ((gw_out [100, 101, 102, 103, 104, 105, 106, 107]) 100) by decide)
  obtain ⟨M36, eM36⟩ : ∃ z, z = gw_up M34 mo 100 (.inr (5, [.int 0, .int 0, .int 0, .int 0, .ref q1, .ref q7, .int 0, .ref q13, .ref q19, .ref q25, .ref q31, .int 0, .int 0, .null, .int 0])) := ⟨_, rfl⟩
  replace hW : gw_P G.1 vwCl G.2.2.2 M36 H := by rw [eM36]; exact hW
  have hf_q1 : M36 q1 = some (101, .inl (G.2.1 0, 10000, .inl (fun _ => 0))) := by rw [eM36]; exact gw_keep hf_q1 hf_mo (by decide)
  have hf_q7 : M36 q7 = some (102, .inl (G.2.1 0, 300, .inl (fun _ => 0))) := by rw [eM36]; exact gw_keep hf_q7 hf_mo (by decide)
  have hf_q13 : M36 q13 = some (103, .inl (G.2.1 0, 10240, .inl (fun _ => 0))) := by rw [eM36]; exact gw_keep hf_q13 hf_mo (by decide)
  have hf_q19 : M36 q19 = some (104, .inl (G.2.1 0, 41, .inl (fun _ => 0))) := by rw [eM36]; exact gw_keep hf_q19 hf_mo (by decide)
  have hf_q25 : M36 q25 = some (105, .inl (G.2.1 0, 41, .inl (fun _ => 0))) := by rw [eM36]; exact gw_keep hf_q25 hf_mo (by decide)
  have hf_q31 : M36 q31 = some (106, .inl (G.2.1 0, 4100, .inl (fun _ => 0))) := by rw [eM36]; exact gw_keep hf_q31 hf_mo (by decide)
  have hf_mo : M36 mo = some (100, .inr (5, [.int 0, .int 0, .int 0, .int 0, .ref q1, .ref q7, .int 0, .ref q13, .ref q19, .ref q25, .ref q31, .int 0, .int 0, .null, .int 0])) := by rw [eM36]; exact gw_up_self _ _ _ _
  rw [← eM36] at hF35
  refine lv_aload_n hx hb d_Mo_init_56 rfl (lv_at hl 0 rfl) ?_
  refine lv_sipush (v := 2048) hx hb d_Mo_init_57 (by decide) ?_
  refine gw_newa (atype := .int) (ty := .int) (n := 2048) (a0 := (2048, .inl (fun _ => 0))) (N' := 2048) hx hb (hts (.arrayClass .int) mw3) rfl hE.K hW hS hB (gw_zi 2048) (by decide) (by decide) (Nat.le_of_ble_eq_true rfl) (Nat.le_of_ble_eq_true rfl) (Nat.le_of_ble_eq_true rfl) d_Mo_init_60 0 rfl (fun cA h1 h2 => gw_ri _ _ h1 h2) 107 (fun q37 H hq38 hW hS => ?_)
  refine W.widen (k := 7) (n := 26770) (Nat.le_refl _) (Nat.le_refl _) ?_
  have hF39 : gw_fr (gw_out [100, 101, 102, 103, 104, 105, 106, 107]) M (gw_up M36 q37 107 (.inl (G.2.1 0, 2048, .inl (fun _ => 0)))) := gw_fr.new hF35 hq38 (show ¬ ((gw_out [100, 101, 102, 103, 104, 105, 106, 107]) 107) by decide)
  obtain ⟨M40, eM40⟩ : ∃ z, z = gw_up M36 q37 107 (.inl (G.2.1 0, 2048, .inl (fun _ => 0))) := ⟨_, rfl⟩
  replace hW : gw_P G.1 vwCl G.2.2.2 M40 H := by rw [eM40]; exact hW
  have hf_q1 : M40 q1 = some (101, .inl (G.2.1 0, 10000, .inl (fun _ => 0))) := by rw [eM40]; exact gw_keepN hf_q1 hq38
  have hf_q7 : M40 q7 = some (102, .inl (G.2.1 0, 300, .inl (fun _ => 0))) := by rw [eM40]; exact gw_keepN hf_q7 hq38
  have hf_q13 : M40 q13 = some (103, .inl (G.2.1 0, 10240, .inl (fun _ => 0))) := by rw [eM40]; exact gw_keepN hf_q13 hq38
  have hf_q19 : M40 q19 = some (104, .inl (G.2.1 0, 41, .inl (fun _ => 0))) := by rw [eM40]; exact gw_keepN hf_q19 hq38
  have hf_q25 : M40 q25 = some (105, .inl (G.2.1 0, 41, .inl (fun _ => 0))) := by rw [eM40]; exact gw_keepN hf_q25 hq38
  have hf_q31 : M40 q31 = some (106, .inl (G.2.1 0, 4100, .inl (fun _ => 0))) := by rw [eM40]; exact gw_keepN hf_q31 hq38
  have hf_mo : M40 mo = some (100, .inr (5, [.int 0, .int 0, .int 0, .int 0, .ref q1, .ref q7, .int 0, .ref q13, .ref q19, .ref q25, .ref q31, .int 0, .int 0, .null, .int 0])) := by rw [eM40]; exact gw_keepN hf_mo hq38
  have hf_q37 : M40 q37 = some (107, .inl (G.2.1 0, 2048, .inl (fun _ => 0))) := by rw [eM40]; exact gw_up_self _ _ _ _
  rw [← eM40] at hF39
  refine gw_putF (ci := 5) (fs := [.int 0, .int 0, .int 0, .int 0, .ref q1, .ref q7, .int 0, .ref q13, .ref q19, .ref q25, .ref q31, .int 0, .int 0, .null, .int 0]) (v := .ref q37) (ty := .array .int) hx hb hts in_Mo t_Mo t_Mo_ok n_Mo hown hE.K hW hS hf_mo rfl 13 (by decide) (hts _ mw161) (fun _ h9 => h9) rfl hin rfl (by decide +kernel) rfl rfl (Nat.le_of_ble_eq_true rfl) d_Mo_init_62 (fun H locs hW hS => ?_)
  have hF41 : gw_fr (gw_out [100, 101, 102, 103, 104, 105, 106, 107]) M (gw_up M40 mo 100 (.inr (5, [.int 0, .int 0, .int 0, .int 0, .ref q1, .ref q7, .int 0, .ref q13, .ref q19, .ref q25, .ref q31, .int 0, .int 0, .ref q37, .int 0]))) := gw_fr.up hF39 hf_mo (show ¬ ((gw_out [100, 101, 102, 103, 104, 105, 106, 107]) 100) by decide) (show ¬ ((gw_out [100, 101, 102, 103, 104, 105, 106, 107]) 100) by decide)
  obtain ⟨M42, eM42⟩ : ∃ z, z = gw_up M40 mo 100 (.inr (5, [.int 0, .int 0, .int 0, .int 0, .ref q1, .ref q7, .int 0, .ref q13, .ref q19, .ref q25, .ref q31, .int 0, .int 0, .ref q37, .int 0])) := ⟨_, rfl⟩
  replace hW : gw_P G.1 vwCl G.2.2.2 M42 H := by rw [eM42]; exact hW
  have hf_q1 : M42 q1 = some (101, .inl (G.2.1 0, 10000, .inl (fun _ => 0))) := by rw [eM42]; exact gw_keep hf_q1 hf_mo (by decide)
  have hf_q7 : M42 q7 = some (102, .inl (G.2.1 0, 300, .inl (fun _ => 0))) := by rw [eM42]; exact gw_keep hf_q7 hf_mo (by decide)
  have hf_q13 : M42 q13 = some (103, .inl (G.2.1 0, 10240, .inl (fun _ => 0))) := by rw [eM42]; exact gw_keep hf_q13 hf_mo (by decide)
  have hf_q19 : M42 q19 = some (104, .inl (G.2.1 0, 41, .inl (fun _ => 0))) := by rw [eM42]; exact gw_keep hf_q19 hf_mo (by decide)
  have hf_q25 : M42 q25 = some (105, .inl (G.2.1 0, 41, .inl (fun _ => 0))) := by rw [eM42]; exact gw_keep hf_q25 hf_mo (by decide)
  have hf_q31 : M42 q31 = some (106, .inl (G.2.1 0, 4100, .inl (fun _ => 0))) := by rw [eM42]; exact gw_keep hf_q31 hf_mo (by decide)
  have hf_q37 : M42 q37 = some (107, .inl (G.2.1 0, 2048, .inl (fun _ => 0))) := by rw [eM42]; exact gw_keep hf_q37 hf_mo (by decide)
  have hf_mo : M42 mo = some (100, .inr (5, [.int 0, .int 0, .int 0, .int 0, .ref q1, .ref q7, .int 0, .ref q13, .ref q19, .ref q25, .ref q31, .int 0, .int 0, .ref q37, .int 0])) := by rw [eM42]; exact gw_up_self _ _ _ _
  rw [← eM42] at hF41
  refine lv_aload_n hx hb d_Mo_init_65 rfl (lv_at hl 0 rfl) ?_
  refine lv_iload_n hx hb d_Mo_init_66 rfl (lv_at hl 1 rfl) ?_
  refine lv_iconst (v := 1) hx hb d_Mo_init_67 (by decide) ?_
  refine lv_icmp_ge (tgt := 75) hx hb d_Mo_init_68 (by decide) (fun c68 => ?_) (fun c68 => ?_)
  · refine lv_iload_n hx hb d_Mo_init_75 rfl (lv_at hl 1 rfl) ?_
    refine lv_sipush (v := 255) hx hb d_Mo_init_76 (by decide) ?_
    refine lv_icmp_le (tgt := 88) hx hb d_Mo_init_79 (by decide) (fun c79 => ?_) (fun c79 => ?_)
    · refine lv_iload_n hx hb d_Mo_init_88 rfl (lv_at hl 1 rfl) ?_
      refine gw_putF (ci := 5) (fs := [.int 0, .int 0, .int 0, .int 0, .ref q1, .ref q7, .int 0, .ref q13, .ref q19, .ref q25, .ref q31, .int 0, .int 0, .ref q37, .int 0]) (v := .int p0) (ty := .int) hx hb hts in_Mo t_Mo t_Mo_ok n_Mo hown hE.K hW hS hf_mo rfl 1 (by decide) (hts _ mw162) (fun _ h9 => h9) rfl hin rfl (by decide +kernel) rfl rfl (Nat.le_of_ble_eq_true rfl) d_Mo_init_89 (fun H locs hW hS => ?_)
      have hF43 : gw_fr (gw_out [100, 101, 102, 103, 104, 105, 106, 107]) M (gw_up M42 mo 100 (.inr (5, [.int 0, .int p0, .int 0, .int 0, .ref q1, .ref q7, .int 0, .ref q13, .ref q19, .ref q25, .ref q31, .int 0, .int 0, .ref q37, .int 0]))) := gw_fr.up hF41 hf_mo (show ¬ ((gw_out [100, 101, 102, 103, 104, 105, 106, 107]) 100) by decide) (show ¬ ((gw_out [100, 101, 102, 103, 104, 105, 106, 107]) 100) by decide)
      obtain ⟨M44, eM44⟩ : ∃ z, z = gw_up M42 mo 100 (.inr (5, [.int 0, .int p0, .int 0, .int 0, .ref q1, .ref q7, .int 0, .ref q13, .ref q19, .ref q25, .ref q31, .int 0, .int 0, .ref q37, .int 0])) := ⟨_, rfl⟩
      replace hW : gw_P G.1 vwCl G.2.2.2 M44 H := by rw [eM44]; exact hW
      have hf_q1 : M44 q1 = some (101, .inl (G.2.1 0, 10000, .inl (fun _ => 0))) := by rw [eM44]; exact gw_keep hf_q1 hf_mo (by decide)
      have hf_q7 : M44 q7 = some (102, .inl (G.2.1 0, 300, .inl (fun _ => 0))) := by rw [eM44]; exact gw_keep hf_q7 hf_mo (by decide)
      have hf_q13 : M44 q13 = some (103, .inl (G.2.1 0, 10240, .inl (fun _ => 0))) := by rw [eM44]; exact gw_keep hf_q13 hf_mo (by decide)
      have hf_q19 : M44 q19 = some (104, .inl (G.2.1 0, 41, .inl (fun _ => 0))) := by rw [eM44]; exact gw_keep hf_q19 hf_mo (by decide)
      have hf_q25 : M44 q25 = some (105, .inl (G.2.1 0, 41, .inl (fun _ => 0))) := by rw [eM44]; exact gw_keep hf_q25 hf_mo (by decide)
      have hf_q31 : M44 q31 = some (106, .inl (G.2.1 0, 4100, .inl (fun _ => 0))) := by rw [eM44]; exact gw_keep hf_q31 hf_mo (by decide)
      have hf_q37 : M44 q37 = some (107, .inl (G.2.1 0, 2048, .inl (fun _ => 0))) := by rw [eM44]; exact gw_keep hf_q37 hf_mo (by decide)
      have hf_mo : M44 mo = some (100, .inr (5, [.int 0, .int p0, .int 0, .int 0, .ref q1, .ref q7, .int 0, .ref q13, .ref q19, .ref q25, .ref q31, .int 0, .int 0, .ref q37, .int 0])) := by rw [eM44]; exact gw_up_self _ _ _ _
      rw [← eM44] at hF43
      refine lv_aload_n hx hb d_Mo_init_92 rfl (lv_at hl 0 rfl) ?_
      refine lv_iload_n hx hb d_Mo_init_93 rfl (lv_at hl 2 rfl) ?_
      refine lv_if_eq (tgt := 101) hx hb d_Mo_init_94 (by decide) (fun c94 => ?_) (fun c94 => ?_)
      · refine lv_iconst (v := 0) hx hb d_Mo_init_101 (by decide) ?_
        refine gw_putF (ci := 5) (fs := [.int 0, .int p0, .int 0, .int 0, .ref q1, .ref q7, .int 0, .ref q13, .ref q19, .ref q25, .ref q31, .int 0, .int 0, .ref q37, .int 0]) (v := .int 0) (ty := .boolean) hx hb hts in_Mo t_Mo t_Mo_ok n_Mo hown hE.K hW hS hf_mo rfl 2 (by decide) (hts _ mw163) (fun _ h9 => h9) rfl hin rfl (by decide +kernel) rfl rfl (Nat.le_of_ble_eq_true rfl) d_Mo_init_102 (fun H locs hW hS => ?_)
        have hF45 : gw_fr (gw_out [100, 101, 102, 103, 104, 105, 106, 107]) M (gw_up M44 mo 100 (.inr (5, [.int 0, .int p0, .int 0, .int 0, .ref q1, .ref q7, .int 0, .ref q13, .ref q19, .ref q25, .ref q31, .int 0, .int 0, .ref q37, .int 0]))) := gw_fr.up hF43 hf_mo (show ¬ ((gw_out [100, 101, 102, 103, 104, 105, 106, 107]) 100) by decide) (show ¬ ((gw_out [100, 101, 102, 103, 104, 105, 106, 107]) 100) by decide)
        obtain ⟨M46, eM46⟩ : ∃ z, z = gw_up M44 mo 100 (.inr (5, [.int 0, .int p0, .int 0, .int 0, .ref q1, .ref q7, .int 0, .ref q13, .ref q19, .ref q25, .ref q31, .int 0, .int 0, .ref q37, .int 0])) := ⟨_, rfl⟩
        replace hW : gw_P G.1 vwCl G.2.2.2 M46 H := by rw [eM46]; exact hW
        have hf_q1 : M46 q1 = some (101, .inl (G.2.1 0, 10000, .inl (fun _ => 0))) := by rw [eM46]; exact gw_keep hf_q1 hf_mo (by decide)
        have hf_q7 : M46 q7 = some (102, .inl (G.2.1 0, 300, .inl (fun _ => 0))) := by rw [eM46]; exact gw_keep hf_q7 hf_mo (by decide)
        have hf_q13 : M46 q13 = some (103, .inl (G.2.1 0, 10240, .inl (fun _ => 0))) := by rw [eM46]; exact gw_keep hf_q13 hf_mo (by decide)
        have hf_q19 : M46 q19 = some (104, .inl (G.2.1 0, 41, .inl (fun _ => 0))) := by rw [eM46]; exact gw_keep hf_q19 hf_mo (by decide)
        have hf_q25 : M46 q25 = some (105, .inl (G.2.1 0, 41, .inl (fun _ => 0))) := by rw [eM46]; exact gw_keep hf_q25 hf_mo (by decide)
        have hf_q31 : M46 q31 = some (106, .inl (G.2.1 0, 4100, .inl (fun _ => 0))) := by rw [eM46]; exact gw_keep hf_q31 hf_mo (by decide)
        have hf_q37 : M46 q37 = some (107, .inl (G.2.1 0, 2048, .inl (fun _ => 0))) := by rw [eM46]; exact gw_keep hf_q37 hf_mo (by decide)
        have hf_mo : M46 mo = some (100, .inr (5, [.int 0, .int p0, .int 0, .int 0, .ref q1, .ref q7, .int 0, .ref q13, .ref q19, .ref q25, .ref q31, .int 0, .int 0, .ref q37, .int 0])) := by rw [eM46]; exact gw_up_self _ _ _ _
        rw [← eM46] at hF45
        exact gw_vret hx hb hr hlocks hS hW (Nat.le_of_ble_eq_true rfl) (Nat.le_of_ble_eq_true rfl) d_Mo_init_105 (⟨q1, q7, q13, q19, q25, q31, q37, p0, 0, hf_mo, hf_q1, hf_q7, hf_q13, hf_q19, hf_q25, hf_q31, hf_q37, (gm_lim c68), hF45⟩)
      · refine lv_iconst (v := 1) hx hb d_Mo_init_97 (by decide) ?_
        refine lv_goto (tgt := 102) hx hb d_Mo_init_98 (by decide) ?_
        refine gw_putF (ci := 5) (fs := [.int 0, .int p0, .int 0, .int 0, .ref q1, .ref q7, .int 0, .ref q13, .ref q19, .ref q25, .ref q31, .int 0, .int 0, .ref q37, .int 0]) (v := .int 1) (ty := .boolean) hx hb hts in_Mo t_Mo t_Mo_ok n_Mo hown hE.K hW hS hf_mo rfl 2 (by decide) (hts _ mw163) (fun _ h9 => h9) rfl hin rfl (by decide +kernel) rfl rfl (Nat.le_of_ble_eq_true rfl) d_Mo_init_102 (fun H locs hW hS => ?_)
        have hF47 : gw_fr (gw_out [100, 101, 102, 103, 104, 105, 106, 107]) M (gw_up M44 mo 100 (.inr (5, [.int 0, .int p0, .int 1, .int 0, .ref q1, .ref q7, .int 0, .ref q13, .ref q19, .ref q25, .ref q31, .int 0, .int 0, .ref q37, .int 0]))) := gw_fr.up hF43 hf_mo (show ¬ ((gw_out [100, 101, 102, 103, 104, 105, 106, 107]) 100) by decide) (show ¬ ((gw_out [100, 101, 102, 103, 104, 105, 106, 107]) 100) by decide)
        obtain ⟨M48, eM48⟩ : ∃ z, z = gw_up M44 mo 100 (.inr (5, [.int 0, .int p0, .int 1, .int 0, .ref q1, .ref q7, .int 0, .ref q13, .ref q19, .ref q25, .ref q31, .int 0, .int 0, .ref q37, .int 0])) := ⟨_, rfl⟩
        replace hW : gw_P G.1 vwCl G.2.2.2 M48 H := by rw [eM48]; exact hW
        have hf_q1 : M48 q1 = some (101, .inl (G.2.1 0, 10000, .inl (fun _ => 0))) := by rw [eM48]; exact gw_keep hf_q1 hf_mo (by decide)
        have hf_q7 : M48 q7 = some (102, .inl (G.2.1 0, 300, .inl (fun _ => 0))) := by rw [eM48]; exact gw_keep hf_q7 hf_mo (by decide)
        have hf_q13 : M48 q13 = some (103, .inl (G.2.1 0, 10240, .inl (fun _ => 0))) := by rw [eM48]; exact gw_keep hf_q13 hf_mo (by decide)
        have hf_q19 : M48 q19 = some (104, .inl (G.2.1 0, 41, .inl (fun _ => 0))) := by rw [eM48]; exact gw_keep hf_q19 hf_mo (by decide)
        have hf_q25 : M48 q25 = some (105, .inl (G.2.1 0, 41, .inl (fun _ => 0))) := by rw [eM48]; exact gw_keep hf_q25 hf_mo (by decide)
        have hf_q31 : M48 q31 = some (106, .inl (G.2.1 0, 4100, .inl (fun _ => 0))) := by rw [eM48]; exact gw_keep hf_q31 hf_mo (by decide)
        have hf_q37 : M48 q37 = some (107, .inl (G.2.1 0, 2048, .inl (fun _ => 0))) := by rw [eM48]; exact gw_keep hf_q37 hf_mo (by decide)
        have hf_mo : M48 mo = some (100, .inr (5, [.int 0, .int p0, .int 1, .int 0, .ref q1, .ref q7, .int 0, .ref q13, .ref q19, .ref q25, .ref q31, .int 0, .int 0, .ref q37, .int 0])) := by rw [eM48]; exact gw_up_self _ _ _ _
        rw [← eM48] at hF47
        exact gw_vret hx hb hr hlocks hS hW (Nat.le_of_ble_eq_true rfl) (Nat.le_of_ble_eq_true rfl) d_Mo_init_105 (⟨q1, q7, q13, q19, q25, q31, q37, p0, 1, hf_mo, hf_q1, hf_q7, hf_q13, hf_q19, hf_q25, hf_q31, hf_q37, (gm_lim c68), hF47⟩)
    · refine lv_sipush (v := 255) hx hb d_Mo_init_82 (by decide) ?_
      refine lv_goto (tgt := 89) hx hb d_Mo_init_85 (by decide) ?_
      refine gw_putF (ci := 5) (fs := [.int 0, .int 0, .int 0, .int 0, .ref q1, .ref q7, .int 0, .ref q13, .ref q19, .ref q25, .ref q31, .int 0, .int 0, .ref q37, .int 0]) (v := .int 255) (ty := .int) hx hb hts in_Mo t_Mo t_Mo_ok n_Mo hown hE.K hW hS hf_mo rfl 1 (by decide) (hts _ mw162) (fun _ h9 => h9) rfl hin rfl (by decide +kernel) rfl rfl (Nat.le_of_ble_eq_true rfl) d_Mo_init_89 (fun H locs hW hS => ?_)
      have hF49 : gw_fr (gw_out [100, 101, 102, 103, 104, 105, 106, 107]) M (gw_up M42 mo 100 (.inr (5, [.int 0, .int 255, .int 0, .int 0, .ref q1, .ref q7, .int 0, .ref q13, .ref q19, .ref q25, .ref q31, .int 0, .int 0, .ref q37, .int 0]))) := gw_fr.up hF41 hf_mo (show ¬ ((gw_out [100, 101, 102, 103, 104, 105, 106, 107]) 100) by decide) (show ¬ ((gw_out [100, 101, 102, 103, 104, 105, 106, 107]) 100) by decide)
      obtain ⟨M50, eM50⟩ : ∃ z, z = gw_up M42 mo 100 (.inr (5, [.int 0, .int 255, .int 0, .int 0, .ref q1, .ref q7, .int 0, .ref q13, .ref q19, .ref q25, .ref q31, .int 0, .int 0, .ref q37, .int 0])) := ⟨_, rfl⟩
      replace hW : gw_P G.1 vwCl G.2.2.2 M50 H := by rw [eM50]; exact hW
      have hf_q1 : M50 q1 = some (101, .inl (G.2.1 0, 10000, .inl (fun _ => 0))) := by rw [eM50]; exact gw_keep hf_q1 hf_mo (by decide)
      have hf_q7 : M50 q7 = some (102, .inl (G.2.1 0, 300, .inl (fun _ => 0))) := by rw [eM50]; exact gw_keep hf_q7 hf_mo (by decide)
      have hf_q13 : M50 q13 = some (103, .inl (G.2.1 0, 10240, .inl (fun _ => 0))) := by rw [eM50]; exact gw_keep hf_q13 hf_mo (by decide)
      have hf_q19 : M50 q19 = some (104, .inl (G.2.1 0, 41, .inl (fun _ => 0))) := by rw [eM50]; exact gw_keep hf_q19 hf_mo (by decide)
      have hf_q25 : M50 q25 = some (105, .inl (G.2.1 0, 41, .inl (fun _ => 0))) := by rw [eM50]; exact gw_keep hf_q25 hf_mo (by decide)
      have hf_q31 : M50 q31 = some (106, .inl (G.2.1 0, 4100, .inl (fun _ => 0))) := by rw [eM50]; exact gw_keep hf_q31 hf_mo (by decide)
      have hf_q37 : M50 q37 = some (107, .inl (G.2.1 0, 2048, .inl (fun _ => 0))) := by rw [eM50]; exact gw_keep hf_q37 hf_mo (by decide)
      have hf_mo : M50 mo = some (100, .inr (5, [.int 0, .int 255, .int 0, .int 0, .ref q1, .ref q7, .int 0, .ref q13, .ref q19, .ref q25, .ref q31, .int 0, .int 0, .ref q37, .int 0])) := by rw [eM50]; exact gw_up_self _ _ _ _
      rw [← eM50] at hF49
      refine lv_aload_n hx hb d_Mo_init_92 rfl (lv_at hl 0 rfl) ?_
      refine lv_iload_n hx hb d_Mo_init_93 rfl (lv_at hl 2 rfl) ?_
      refine lv_if_eq (tgt := 101) hx hb d_Mo_init_94 (by decide) (fun c94 => ?_) (fun c94 => ?_)
      · refine lv_iconst (v := 0) hx hb d_Mo_init_101 (by decide) ?_
        refine gw_putF (ci := 5) (fs := [.int 0, .int 255, .int 0, .int 0, .ref q1, .ref q7, .int 0, .ref q13, .ref q19, .ref q25, .ref q31, .int 0, .int 0, .ref q37, .int 0]) (v := .int 0) (ty := .boolean) hx hb hts in_Mo t_Mo t_Mo_ok n_Mo hown hE.K hW hS hf_mo rfl 2 (by decide) (hts _ mw163) (fun _ h9 => h9) rfl hin rfl (by decide +kernel) rfl rfl (Nat.le_of_ble_eq_true rfl) d_Mo_init_102 (fun H locs hW hS => ?_)
        have hF51 : gw_fr (gw_out [100, 101, 102, 103, 104, 105, 106, 107]) M (gw_up M50 mo 100 (.inr (5, [.int 0, .int 255, .int 0, .int 0, .ref q1, .ref q7, .int 0, .ref q13, .ref q19, .ref q25, .ref q31, .int 0, .int 0, .ref q37, .int 0]))) := gw_fr.up hF49 hf_mo (show ¬ ((gw_out [100, 101, 102, 103, 104, 105, 106, 107]) 100) by decide) (show ¬ ((gw_out [100, 101, 102, 103, 104, 105, 106, 107]) 100) by decide)
        obtain ⟨M52, eM52⟩ : ∃ z, z = gw_up M50 mo 100 (.inr (5, [.int 0, .int 255, .int 0, .int 0, .ref q1, .ref q7, .int 0, .ref q13, .ref q19, .ref q25, .ref q31, .int 0, .int 0, .ref q37, .int 0])) := ⟨_, rfl⟩
        replace hW : gw_P G.1 vwCl G.2.2.2 M52 H := by rw [eM52]; exact hW
        have hf_q1 : M52 q1 = some (101, .inl (G.2.1 0, 10000, .inl (fun _ => 0))) := by rw [eM52]; exact gw_keep hf_q1 hf_mo (by decide)
        have hf_q7 : M52 q7 = some (102, .inl (G.2.1 0, 300, .inl (fun _ => 0))) := by rw [eM52]; exact gw_keep hf_q7 hf_mo (by decide)
        have hf_q13 : M52 q13 = some (103, .inl (G.2.1 0, 10240, .inl (fun _ => 0))) := by rw [eM52]; exact gw_keep hf_q13 hf_mo (by decide)
        have hf_q19 : M52 q19 = some (104, .inl (G.2.1 0, 41, .inl (fun _ => 0))) := by rw [eM52]; exact gw_keep hf_q19 hf_mo (by decide)
        have hf_q25 : M52 q25 = some (105, .inl (G.2.1 0, 41, .inl (fun _ => 0))) := by rw [eM52]; exact gw_keep hf_q25 hf_mo (by decide)
        have hf_q31 : M52 q31 = some (106, .inl (G.2.1 0, 4100, .inl (fun _ => 0))) := by rw [eM52]; exact gw_keep hf_q31 hf_mo (by decide)
        have hf_q37 : M52 q37 = some (107, .inl (G.2.1 0, 2048, .inl (fun _ => 0))) := by rw [eM52]; exact gw_keep hf_q37 hf_mo (by decide)
        have hf_mo : M52 mo = some (100, .inr (5, [.int 0, .int 255, .int 0, .int 0, .ref q1, .ref q7, .int 0, .ref q13, .ref q19, .ref q25, .ref q31, .int 0, .int 0, .ref q37, .int 0])) := by rw [eM52]; exact gw_up_self _ _ _ _
        rw [← eM52] at hF51
        exact gw_vret hx hb hr hlocks hS hW (Nat.le_of_ble_eq_true rfl) (Nat.le_of_ble_eq_true rfl) d_Mo_init_105 (⟨q1, q7, q13, q19, q25, q31, q37, 255, 0, hf_mo, hf_q1, hf_q7, hf_q13, hf_q19, hf_q25, hf_q31, hf_q37, (by decide), hF51⟩)
      · refine lv_iconst (v := 1) hx hb d_Mo_init_97 (by decide) ?_
        refine lv_goto (tgt := 102) hx hb d_Mo_init_98 (by decide) ?_
        refine gw_putF (ci := 5) (fs := [.int 0, .int 255, .int 0, .int 0, .ref q1, .ref q7, .int 0, .ref q13, .ref q19, .ref q25, .ref q31, .int 0, .int 0, .ref q37, .int 0]) (v := .int 1) (ty := .boolean) hx hb hts in_Mo t_Mo t_Mo_ok n_Mo hown hE.K hW hS hf_mo rfl 2 (by decide) (hts _ mw163) (fun _ h9 => h9) rfl hin rfl (by decide +kernel) rfl rfl (Nat.le_of_ble_eq_true rfl) d_Mo_init_102 (fun H locs hW hS => ?_)
        have hF53 : gw_fr (gw_out [100, 101, 102, 103, 104, 105, 106, 107]) M (gw_up M50 mo 100 (.inr (5, [.int 0, .int 255, .int 1, .int 0, .ref q1, .ref q7, .int 0, .ref q13, .ref q19, .ref q25, .ref q31, .int 0, .int 0, .ref q37, .int 0]))) := gw_fr.up hF49 hf_mo (show ¬ ((gw_out [100, 101, 102, 103, 104, 105, 106, 107]) 100) by decide) (show ¬ ((gw_out [100, 101, 102, 103, 104, 105, 106, 107]) 100) by decide)
        obtain ⟨M54, eM54⟩ : ∃ z, z = gw_up M50 mo 100 (.inr (5, [.int 0, .int 255, .int 1, .int 0, .ref q1, .ref q7, .int 0, .ref q13, .ref q19, .ref q25, .ref q31, .int 0, .int 0, .ref q37, .int 0])) := ⟨_, rfl⟩
        replace hW : gw_P G.1 vwCl G.2.2.2 M54 H := by rw [eM54]; exact hW
        have hf_q1 : M54 q1 = some (101, .inl (G.2.1 0, 10000, .inl (fun _ => 0))) := by rw [eM54]; exact gw_keep hf_q1 hf_mo (by decide)
        have hf_q7 : M54 q7 = some (102, .inl (G.2.1 0, 300, .inl (fun _ => 0))) := by rw [eM54]; exact gw_keep hf_q7 hf_mo (by decide)
        have hf_q13 : M54 q13 = some (103, .inl (G.2.1 0, 10240, .inl (fun _ => 0))) := by rw [eM54]; exact gw_keep hf_q13 hf_mo (by decide)
        have hf_q19 : M54 q19 = some (104, .inl (G.2.1 0, 41, .inl (fun _ => 0))) := by rw [eM54]; exact gw_keep hf_q19 hf_mo (by decide)
        have hf_q25 : M54 q25 = some (105, .inl (G.2.1 0, 41, .inl (fun _ => 0))) := by rw [eM54]; exact gw_keep hf_q25 hf_mo (by decide)
        have hf_q31 : M54 q31 = some (106, .inl (G.2.1 0, 4100, .inl (fun _ => 0))) := by rw [eM54]; exact gw_keep hf_q31 hf_mo (by decide)
        have hf_q37 : M54 q37 = some (107, .inl (G.2.1 0, 2048, .inl (fun _ => 0))) := by rw [eM54]; exact gw_keep hf_q37 hf_mo (by decide)
        have hf_mo : M54 mo = some (100, .inr (5, [.int 0, .int 255, .int 1, .int 0, .ref q1, .ref q7, .int 0, .ref q13, .ref q19, .ref q25, .ref q31, .int 0, .int 0, .ref q37, .int 0])) := by rw [eM54]; exact gw_up_self _ _ _ _
        rw [← eM54] at hF53
        exact gw_vret hx hb hr hlocks hS hW (Nat.le_of_ble_eq_true rfl) (Nat.le_of_ble_eq_true rfl) d_Mo_init_105 (⟨q1, q7, q13, q19, q25, q31, q37, 255, 1, hf_mo, hf_q1, hf_q7, hf_q13, hf_q19, hf_q25, hf_q31, hf_q37, (by decide), hF53⟩)
  · refine lv_iconst (v := 1) hx hb d_Mo_init_71 (by decide) ?_
    refine lv_goto (tgt := 89) hx hb d_Mo_init_72 (by decide) ?_
    refine gw_putF (ci := 5) (fs := [.int 0, .int 0, .int 0, .int 0, .ref q1, .ref q7, .int 0, .ref q13, .ref q19, .ref q25, .ref q31, .int 0, .int 0, .ref q37, .int 0]) (v := .int 1) (ty := .int) hx hb hts in_Mo t_Mo t_Mo_ok n_Mo hown hE.K hW hS hf_mo rfl 1 (by decide) (hts _ mw162) (fun _ h9 => h9) rfl hin rfl (by decide +kernel) rfl rfl (Nat.le_of_ble_eq_true rfl) d_Mo_init_89 (fun H locs hW hS => ?_)
    have hF55 : gw_fr (gw_out [100, 101, 102, 103, 104, 105, 106, 107]) M (gw_up M42 mo 100 (.inr (5, [.int 0, .int 1, .int 0, .int 0, .ref q1, .ref q7, .int 0, .ref q13, .ref q19, .ref q25, .ref q31, .int 0, .int 0, .ref q37, .int 0]))) := gw_fr.up hF41 hf_mo (show ¬ ((gw_out [100, 101, 102, 103, 104, 105, 106, 107]) 100) by decide) (show ¬ ((gw_out [100, 101, 102, 103, 104, 105, 106, 107]) 100) by decide)
    obtain ⟨M56, eM56⟩ : ∃ z, z = gw_up M42 mo 100 (.inr (5, [.int 0, .int 1, .int 0, .int 0, .ref q1, .ref q7, .int 0, .ref q13, .ref q19, .ref q25, .ref q31, .int 0, .int 0, .ref q37, .int 0])) := ⟨_, rfl⟩
    replace hW : gw_P G.1 vwCl G.2.2.2 M56 H := by rw [eM56]; exact hW
    have hf_q1 : M56 q1 = some (101, .inl (G.2.1 0, 10000, .inl (fun _ => 0))) := by rw [eM56]; exact gw_keep hf_q1 hf_mo (by decide)
    have hf_q7 : M56 q7 = some (102, .inl (G.2.1 0, 300, .inl (fun _ => 0))) := by rw [eM56]; exact gw_keep hf_q7 hf_mo (by decide)
    have hf_q13 : M56 q13 = some (103, .inl (G.2.1 0, 10240, .inl (fun _ => 0))) := by rw [eM56]; exact gw_keep hf_q13 hf_mo (by decide)
    have hf_q19 : M56 q19 = some (104, .inl (G.2.1 0, 41, .inl (fun _ => 0))) := by rw [eM56]; exact gw_keep hf_q19 hf_mo (by decide)
    have hf_q25 : M56 q25 = some (105, .inl (G.2.1 0, 41, .inl (fun _ => 0))) := by rw [eM56]; exact gw_keep hf_q25 hf_mo (by decide)
    have hf_q31 : M56 q31 = some (106, .inl (G.2.1 0, 4100, .inl (fun _ => 0))) := by rw [eM56]; exact gw_keep hf_q31 hf_mo (by decide)
    have hf_q37 : M56 q37 = some (107, .inl (G.2.1 0, 2048, .inl (fun _ => 0))) := by rw [eM56]; exact gw_keep hf_q37 hf_mo (by decide)
    have hf_mo : M56 mo = some (100, .inr (5, [.int 0, .int 1, .int 0, .int 0, .ref q1, .ref q7, .int 0, .ref q13, .ref q19, .ref q25, .ref q31, .int 0, .int 0, .ref q37, .int 0])) := by rw [eM56]; exact gw_up_self _ _ _ _
    rw [← eM56] at hF55
    refine lv_aload_n hx hb d_Mo_init_92 rfl (lv_at hl 0 rfl) ?_
    refine lv_iload_n hx hb d_Mo_init_93 rfl (lv_at hl 2 rfl) ?_
    refine lv_if_eq (tgt := 101) hx hb d_Mo_init_94 (by decide) (fun c94 => ?_) (fun c94 => ?_)
    · refine lv_iconst (v := 0) hx hb d_Mo_init_101 (by decide) ?_
      refine gw_putF (ci := 5) (fs := [.int 0, .int 1, .int 0, .int 0, .ref q1, .ref q7, .int 0, .ref q13, .ref q19, .ref q25, .ref q31, .int 0, .int 0, .ref q37, .int 0]) (v := .int 0) (ty := .boolean) hx hb hts in_Mo t_Mo t_Mo_ok n_Mo hown hE.K hW hS hf_mo rfl 2 (by decide) (hts _ mw163) (fun _ h9 => h9) rfl hin rfl (by decide +kernel) rfl rfl (Nat.le_of_ble_eq_true rfl) d_Mo_init_102 (fun H locs hW hS => ?_)
      have hF57 : gw_fr (gw_out [100, 101, 102, 103, 104, 105, 106, 107]) M (gw_up M56 mo 100 (.inr (5, [.int 0, .int 1, .int 0, .int 0, .ref q1, .ref q7, .int 0, .ref q13, .ref q19, .ref q25, .ref q31, .int 0, .int 0, .ref q37, .int 0]))) := gw_fr.up hF55 hf_mo (show ¬ ((gw_out [100, 101, 102, 103, 104, 105, 106, 107]) 100) by decide) (show ¬ ((gw_out [100, 101, 102, 103, 104, 105, 106, 107]) 100) by decide)
      obtain ⟨M58, eM58⟩ : ∃ z, z = gw_up M56 mo 100 (.inr (5, [.int 0, .int 1, .int 0, .int 0, .ref q1, .ref q7, .int 0, .ref q13, .ref q19, .ref q25, .ref q31, .int 0, .int 0, .ref q37, .int 0])) := ⟨_, rfl⟩
      replace hW : gw_P G.1 vwCl G.2.2.2 M58 H := by rw [eM58]; exact hW
      have hf_q1 : M58 q1 = some (101, .inl (G.2.1 0, 10000, .inl (fun _ => 0))) := by rw [eM58]; exact gw_keep hf_q1 hf_mo (by decide)
      have hf_q7 : M58 q7 = some (102, .inl (G.2.1 0, 300, .inl (fun _ => 0))) := by rw [eM58]; exact gw_keep hf_q7 hf_mo (by decide)
      have hf_q13 : M58 q13 = some (103, .inl (G.2.1 0, 10240, .inl (fun _ => 0))) := by rw [eM58]; exact gw_keep hf_q13 hf_mo (by decide)
      have hf_q19 : M58 q19 = some (104, .inl (G.2.1 0, 41, .inl (fun _ => 0))) := by rw [eM58]; exact gw_keep hf_q19 hf_mo (by decide)
      have hf_q25 : M58 q25 = some (105, .inl (G.2.1 0, 41, .inl (fun _ => 0))) := by rw [eM58]; exact gw_keep hf_q25 hf_mo (by decide)
      have hf_q31 : M58 q31 = some (106, .inl (G.2.1 0, 4100, .inl (fun _ => 0))) := by rw [eM58]; exact gw_keep hf_q31 hf_mo (by decide)
      have hf_q37 : M58 q37 = some (107, .inl (G.2.1 0, 2048, .inl (fun _ => 0))) := by rw [eM58]; exact gw_keep hf_q37 hf_mo (by decide)
      have hf_mo : M58 mo = some (100, .inr (5, [.int 0, .int 1, .int 0, .int 0, .ref q1, .ref q7, .int 0, .ref q13, .ref q19, .ref q25, .ref q31, .int 0, .int 0, .ref q37, .int 0])) := by rw [eM58]; exact gw_up_self _ _ _ _
      rw [← eM58] at hF57
      exact gw_vret hx hb hr hlocks hS hW (Nat.le_of_ble_eq_true rfl) (Nat.le_of_ble_eq_true rfl) d_Mo_init_105 (⟨q1, q7, q13, q19, q25, q31, q37, 1, 0, hf_mo, hf_q1, hf_q7, hf_q13, hf_q19, hf_q25, hf_q31, hf_q37, (by decide), hF57⟩)
    · refine lv_iconst (v := 1) hx hb d_Mo_init_97 (by decide) ?_
      refine lv_goto (tgt := 102) hx hb d_Mo_init_98 (by decide) ?_
      refine gw_putF (ci := 5) (fs := [.int 0, .int 1, .int 0, .int 0, .ref q1, .ref q7, .int 0, .ref q13, .ref q19, .ref q25, .ref q31, .int 0, .int 0, .ref q37, .int 0]) (v := .int 1) (ty := .boolean) hx hb hts in_Mo t_Mo t_Mo_ok n_Mo hown hE.K hW hS hf_mo rfl 2 (by decide) (hts _ mw163) (fun _ h9 => h9) rfl hin rfl (by decide +kernel) rfl rfl (Nat.le_of_ble_eq_true rfl) d_Mo_init_102 (fun H locs hW hS => ?_)
      have hF59 : gw_fr (gw_out [100, 101, 102, 103, 104, 105, 106, 107]) M (gw_up M56 mo 100 (.inr (5, [.int 0, .int 1, .int 1, .int 0, .ref q1, .ref q7, .int 0, .ref q13, .ref q19, .ref q25, .ref q31, .int 0, .int 0, .ref q37, .int 0]))) := gw_fr.up hF55 hf_mo (show ¬ ((gw_out [100, 101, 102, 103, 104, 105, 106, 107]) 100) by decide) (show ¬ ((gw_out [100, 101, 102, 103, 104, 105, 106, 107]) 100) by decide)
      obtain ⟨M60, eM60⟩ : ∃ z, z = gw_up M56 mo 100 (.inr (5, [.int 0, .int 1, .int 1, .int 0, .ref q1, .ref q7, .int 0, .ref q13, .ref q19, .ref q25, .ref q31, .int 0, .int 0, .ref q37, .int 0])) := ⟨_, rfl⟩
      replace hW : gw_P G.1 vwCl G.2.2.2 M60 H := by rw [eM60]; exact hW
      have hf_q1 : M60 q1 = some (101, .inl (G.2.1 0, 10000, .inl (fun _ => 0))) := by rw [eM60]; exact gw_keep hf_q1 hf_mo (by decide)
      have hf_q7 : M60 q7 = some (102, .inl (G.2.1 0, 300, .inl (fun _ => 0))) := by rw [eM60]; exact gw_keep hf_q7 hf_mo (by decide)
      have hf_q13 : M60 q13 = some (103, .inl (G.2.1 0, 10240, .inl (fun _ => 0))) := by rw [eM60]; exact gw_keep hf_q13 hf_mo (by decide)
      have hf_q19 : M60 q19 = some (104, .inl (G.2.1 0, 41, .inl (fun _ => 0))) := by rw [eM60]; exact gw_keep hf_q19 hf_mo (by decide)
      have hf_q25 : M60 q25 = some (105, .inl (G.2.1 0, 41, .inl (fun _ => 0))) := by rw [eM60]; exact gw_keep hf_q25 hf_mo (by decide)
      have hf_q31 : M60 q31 = some (106, .inl (G.2.1 0, 4100, .inl (fun _ => 0))) := by rw [eM60]; exact gw_keep hf_q31 hf_mo (by decide)
      have hf_q37 : M60 q37 = some (107, .inl (G.2.1 0, 2048, .inl (fun _ => 0))) := by rw [eM60]; exact gw_keep hf_q37 hf_mo (by decide)
      have hf_mo : M60 mo = some (100, .inr (5, [.int 0, .int 1, .int 1, .int 0, .ref q1, .ref q7, .int 0, .ref q13, .ref q19, .ref q25, .ref q31, .int 0, .int 0, .ref q37, .int 0])) := by rw [eM60]; exact gw_up_self _ _ _ _
      rw [← eM60] at hF59
      exact gw_vret hx hb hr hlocks hS hW (Nat.le_of_ble_eq_true rfl) (Nat.le_of_ble_eq_true rfl) d_Mo_init_105 (⟨q1, q7, q13, q19, q25, q31, q37, 1, 1, hf_mo, hf_q1, hf_q7, hf_q13, hf_q19, hf_q25, hf_q31, hf_q37, (by decide), hF59⟩)

set_option maxHeartbeats 4000000 in
set_option maxRecDepth 100000 in
theorem m_thrown (l : Launch) (G : gw_G) (M : gw_M) (mo : Nat) (there : Nat) (mrow : Nat) (found : Nat) (fsz : Nat) (ends : Nat) (made : Nat) (drops : Nat) (cd : Int32) (lm : Int32) (sm : Int32) (hf_mo : M mo = some (100, .inr (5, [.int cd, .int lm, .int sm, .int 0, .ref there, .ref mrow, .int 0, .ref found, .ref fsz, .ref ends, .ref made, .int 0, .int 0, .ref drops, .int 0]))) : Met l y_Mo_thrown [.code y_Mo_thrown b_Mo_thrown 1 (some .int)] ({ frames := 0, cells := 0, slots := 0, locals := 0 }) (gw_Pc G M [.ref mo]) (gw_Qi G (fun r M2 => cd = r ∧ M = M2)) 0 0 (gw_A G) := by
  refine gw_start (by decide) (Nat.le_of_ble_eq_true rfl) (fun p9 e9 s m b9 mt9 c9 hx hb hr hml hown hlocks hin hE hB hW ls hl => ?_)
  have hts := hE.ts ([.ref mo] : List Value).toArray
  have hl : lv_has ls 1 [(0, .ref mo)] := hl
  have hS : va_S (gw_A G) s.heap s.heap [] := va_S.rf
  have hown : s.vm.findClass "GenerationsModel" = some m.cls := hown
  refine lv_aload_n hx hb d_Mo_thrown_0 rfl (lv_at hl 0 rfl) ?_
  refine gw_get (ci := 5) (fs := [.int cd, .int lm, .int sm, .int 0, .ref there, .ref mrow, .int 0, .ref found, .ref fsz, .ref ends, .ref made, .int 0, .int 0, .ref drops, .int 0]) hx hb hts in_Mo hown hE.K hW hf_mo rfl 0 (by decide) (hts _ mw164) (fun _ h9 => h9) rfl d_Mo_thrown_1 ?_
  exact gw_iret hx hb hr hlocks hS hW (Nat.le_of_ble_eq_true rfl) (Nat.le_of_ble_eq_true rfl) d_Mo_thrown_4 (⟨rfl, rfl⟩)

set_option maxHeartbeats 4000000 in
set_option maxRecDepth 100000 in
theorem m_isNumber (l : Launch) (G : gw_G) (M : gw_M) (k : Int32) : Met l y_Mo_isNumber [.code y_Mo_isNumber b_Mo_isNumber 1 (some .boolean)] ({ frames := 0, cells := 0, slots := 0, locals := 0 }) (gw_Pc G M [.int k]) (gw_Qi G (fun r M2 => gx_num k = r ∧ M = M2)) 0 0 (gw_A G) := by
  refine gw_start (by decide) (Nat.le_of_ble_eq_true rfl) (fun p9 e9 s m b9 mt9 c9 hx hb hr hml hown hlocks hin hE hB hW ls hl => ?_)
  have hts := hE.ts ([.int k] : List Value).toArray
  have hl : lv_has ls 1 [(0, .int k)] := hl
  have hS : va_S (gw_A G) s.heap s.heap [] := va_S.rf
  have hown : s.vm.findClass "GenerationsModel" = some m.cls := hown
  refine lv_iload_n hx hb d_Mo_isNumber_0 rfl (lv_at hl 0 rfl) ?_
  refine lv_if_le (tgt := 15) hx hb d_Mo_isNumber_1 (by decide) (fun c1 => ?_) (fun c1 => ?_)
  · refine lv_iconst (v := 0) hx hb d_Mo_isNumber_15 (by decide) ?_
    exact gw_zret hx hb hr hlocks rfl hS hW (Nat.le_of_ble_eq_true rfl) (Nat.le_of_ble_eq_true rfl) d_Mo_isNumber_16 (⟨(gm_num0 c1), rfl⟩)
  · refine lv_iload_n hx hb d_Mo_isNumber_4 rfl (lv_at hl 0 rfl) ?_
    refine lv_sipush (v := 9999) hx hb d_Mo_isNumber_5 (by decide) ?_
    refine lv_icmp_gt (tgt := 15) hx hb d_Mo_isNumber_8 (by decide) (fun c8 => ?_) (fun c8 => ?_)
    · refine lv_iconst (v := 0) hx hb d_Mo_isNumber_15 (by decide) ?_
      exact gw_zret hx hb hr hlocks rfl hS hW (Nat.le_of_ble_eq_true rfl) (Nat.le_of_ble_eq_true rfl) d_Mo_isNumber_16 (⟨(gx_num0' c8), rfl⟩)
    · refine lv_iconst (v := 1) hx hb d_Mo_isNumber_11 (by decide) ?_
      refine lv_goto (tgt := 16) hx hb d_Mo_isNumber_12 (by decide) ?_
      exact gw_zret hx hb hr hlocks rfl hS hW (Nat.le_of_ble_eq_true rfl) (Nat.le_of_ble_eq_true rfl) d_Mo_isNumber_16 (⟨(gm_num1 c1 c8), rfl⟩)

set_option maxHeartbeats 4000000 in
set_option maxRecDepth 100000 in
theorem m_what (l : Launch) (G : gw_G) (M : gw_M) (mo : Nat) (there : Nat) (mrow : Nat) (found : Nat) (fsz : Nat) (ends : Nat) (made : Nat) (drops : Nat) (cd : Int32) (lm : Int32) (sm : Int32) (k : Int32) (hf_mo : M mo = some (100, .inr (5, [.int cd, .int lm, .int sm, .int 0, .ref there, .ref mrow, .int 0, .ref found, .ref fsz, .ref ends, .ref made, .int 0, .int 0, .ref drops, .int 0]))) (hf_there : M there = some (101, .inl (G.2.1 0, 10000, .inl (fun _ => 0)))) (hin9 : vp_in k 10000) : Met l y_Mo_what [.code y_Mo_what b_Mo_what 2 (some .int)] ({ frames := 0, cells := 0, slots := 0, locals := 0 }) (gw_Pc G M [.ref mo, .int k]) (gw_Qi G (fun r M2 => 0 = r ∧ M = M2)) 0 0 (gw_A G) := by
  refine gw_start (by decide) (Nat.le_of_ble_eq_true rfl) (fun p9 e9 s m b9 mt9 c9 hx hb hr hml hown hlocks hin hE hB hW ls hl => ?_)
  have hts := hE.ts ([.ref mo, .int k] : List Value).toArray
  have hl : lv_has ls 2 [(0, .ref mo), (1, .int k)] := hl
  have hS : va_S (gw_A G) s.heap s.heap [] := va_S.rf
  have hown : s.vm.findClass "GenerationsModel" = some m.cls := hown
  refine lv_aload_n hx hb d_Mo_what_0 rfl (lv_at hl 0 rfl) ?_
  refine gw_get (ci := 5) (fs := [.int cd, .int lm, .int sm, .int 0, .ref there, .ref mrow, .int 0, .ref found, .ref fsz, .ref ends, .ref made, .int 0, .int 0, .ref drops, .int 0]) hx hb hts in_Mo hown hE.K hW hf_mo rfl 4 (by decide) (hts _ mw155) (fun _ h9 => h9) rfl d_Mo_what_1 ?_
  refine lv_iload_n hx hb d_Mo_what_4 rfl (lv_at hl 1 rfl) ?_
  refine gw_iald (i := k) hx hb hE.K hW 0 hf_there rfl hin9 d_Mo_what_5 ?_
  refine lv_bipush (v := 7) hx hb d_Mo_what_6 (by decide) ?_
  refine lv_iand hx hb d_Mo_what_8 ?_
  exact gw_iret hx hb hr hlocks hS hW (Nat.le_of_ble_eq_true rfl) (Nat.le_of_ble_eq_true rfl) d_Mo_what_9 (⟨(show (0 : Int32) = 0 &&& 7 by decide), rfl⟩)

set_option maxHeartbeats 4000000 in
set_option maxRecDepth 100000 in
theorem m_owner (l : Launch) (G : gw_G) (M : gw_M) (mo : Nat) (there : Nat) (mrow : Nat) (found : Nat) (fsz : Nat) (ends : Nat) (made : Nat) (drops : Nat) (cd : Int32) (lm : Int32) (sm : Int32) (k : Int32) (hf_mo : M mo = some (100, .inr (5, [.int cd, .int lm, .int sm, .int 0, .ref there, .ref mrow, .int 0, .ref found, .ref fsz, .ref ends, .ref made, .int 0, .int 0, .ref drops, .int 0]))) (hf_there : M there = some (101, .inl (G.2.1 0, 10000, .inl (fun _ => 0)))) (hin9 : vp_in k 10000) : Met l y_Mo_owner [.code y_Mo_owner b_Mo_owner 2 (some .int)] ({ frames := 0, cells := 0, slots := 0, locals := 0 }) (gw_Pc G M [.ref mo, .int k]) (gw_Qi G (fun r M2 => 0 = r ∧ M = M2)) 0 0 (gw_A G) := by
  refine gw_start (by decide) (Nat.le_of_ble_eq_true rfl) (fun p9 e9 s m b9 mt9 c9 hx hb hr hml hown hlocks hin hE hB hW ls hl => ?_)
  have hts := hE.ts ([.ref mo, .int k] : List Value).toArray
  have hl : lv_has ls 2 [(0, .ref mo), (1, .int k)] := hl
  have hS : va_S (gw_A G) s.heap s.heap [] := va_S.rf
  have hown : s.vm.findClass "GenerationsModel" = some m.cls := hown
  refine lv_aload_n hx hb d_Mo_owner_0 rfl (lv_at hl 0 rfl) ?_
  refine gw_get (ci := 5) (fs := [.int cd, .int lm, .int sm, .int 0, .ref there, .ref mrow, .int 0, .ref found, .ref fsz, .ref ends, .ref made, .int 0, .int 0, .ref drops, .int 0]) hx hb hts in_Mo hown hE.K hW hf_mo rfl 4 (by decide) (hts _ mw155) (fun _ h9 => h9) rfl d_Mo_owner_1 ?_
  refine lv_iload_n hx hb d_Mo_owner_4 rfl (lv_at hl 1 rfl) ?_
  refine gw_iald (i := k) hx hb hE.K hW 0 hf_there rfl hin9 d_Mo_owner_5 ?_
  refine lv_iconst (v := 3) hx hb d_Mo_owner_6 (by decide) ?_
  refine lv_ishr hx hb d_Mo_owner_7 ?_
  refine lv_bipush (v := 63) hx hb d_Mo_owner_8 (by decide) ?_
  refine lv_iand hx hb d_Mo_owner_10 ?_
  exact gw_iret hx hb hr hlocks hS hW (Nat.le_of_ble_eq_true rfl) (Nat.le_of_ble_eq_true rfl) d_Mo_owner_11 (⟨(show (0 : Int32) = (0 : Int32) >>> ((3 : Int32) &&& 31) &&& 63 by decide), rfl⟩)

set_option maxHeartbeats 4000000 in
set_option maxRecDepth 100000 in
theorem m_versionOf (l : Launch) (G : gw_G) (M : gw_M) (mo : Nat) (there : Nat) (mrow : Nat) (found : Nat) (fsz : Nat) (ends : Nat) (made : Nat) (drops : Nat) (cd : Int32) (lm : Int32) (sm : Int32) (k : Int32) (hf_mo : M mo = some (100, .inr (5, [.int cd, .int lm, .int sm, .int 0, .ref there, .ref mrow, .int 0, .ref found, .ref fsz, .ref ends, .ref made, .int 0, .int 0, .ref drops, .int 0]))) (hf_there : M there = some (101, .inl (G.2.1 0, 10000, .inl (fun _ => 0)))) (hin9 : vp_in k 10000) : Met l y_Mo_versionOf [.code y_Mo_versionOf b_Mo_versionOf 2 (some .int)] ({ frames := 0, cells := 0, slots := 0, locals := 0 }) (gw_Pc G M [.ref mo, .int k]) (gw_Qi G (fun r M2 => 0 = r ∧ M = M2)) 0 0 (gw_A G) := by
  refine gw_start (by decide) (Nat.le_of_ble_eq_true rfl) (fun p9 e9 s m b9 mt9 c9 hx hb hr hml hown hlocks hin hE hB hW ls hl => ?_)
  have hts := hE.ts ([.ref mo, .int k] : List Value).toArray
  have hl : lv_has ls 2 [(0, .ref mo), (1, .int k)] := hl
  have hS : va_S (gw_A G) s.heap s.heap [] := va_S.rf
  have hown : s.vm.findClass "GenerationsModel" = some m.cls := hown
  refine lv_aload_n hx hb d_Mo_versionOf_0 rfl (lv_at hl 0 rfl) ?_
  refine gw_get (ci := 5) (fs := [.int cd, .int lm, .int sm, .int 0, .ref there, .ref mrow, .int 0, .ref found, .ref fsz, .ref ends, .ref made, .int 0, .int 0, .ref drops, .int 0]) hx hb hts in_Mo hown hE.K hW hf_mo rfl 4 (by decide) (hts _ mw155) (fun _ h9 => h9) rfl d_Mo_versionOf_1 ?_
  refine lv_iload_n hx hb d_Mo_versionOf_4 rfl (lv_at hl 1 rfl) ?_
  refine gw_iald (i := k) hx hb hE.K hW 0 hf_there rfl hin9 d_Mo_versionOf_5 ?_
  refine lv_bipush (v := 9) hx hb d_Mo_versionOf_6 (by decide) ?_
  refine lv_ishr hx hb d_Mo_versionOf_8 ?_
  exact gw_iret hx hb hr hlocks hS hW (Nat.le_of_ble_eq_true rfl) (Nat.le_of_ble_eq_true rfl) d_Mo_versionOf_9 (⟨(show (0 : Int32) = (0 : Int32) >>> ((9 : Int32) &&& 31) by decide), rfl⟩)

set_option maxHeartbeats 4000000 in
set_option maxRecDepth 100000 in
theorem m_owner1 (l : Launch) (G : gw_G) (M : gw_M) (mo : Nat) (there : Nat) (mrow : Nat) (found : Nat) (fsz : Nat) (ends : Nat) (made : Nat) (drops : Nat) (cd : Int32) (lm : Int32) (sm : Int32) (k : Int32) (hf_mo : M mo = some (100, .inr (5, [.int cd, .int lm, .int sm, .int 0, .ref there, .ref mrow, .int (0 + 1), .ref found, .ref fsz, .ref ends, .ref made, .int 0, .int 0, .ref drops, .int 0]))) (hf_there : M there = some (101, .inl (G.2.1 0, 10000, .inl (fun _ => 0)))) (hin9 : vp_in k 10000) : Met l y_Mo_owner [.code y_Mo_owner b_Mo_owner 2 (some .int)] ({ frames := 0, cells := 0, slots := 0, locals := 0 }) (gw_Pc G M [.ref mo, .int k]) (gw_Qi G (fun r M2 => 0 = r ∧ M = M2)) 0 0 (gw_A G) := by
  refine gw_start (by decide) (Nat.le_of_ble_eq_true rfl) (fun p9 e9 s m b9 mt9 c9 hx hb hr hml hown hlocks hin hE hB hW ls hl => ?_)
  have hts := hE.ts ([.ref mo, .int k] : List Value).toArray
  have hl : lv_has ls 2 [(0, .ref mo), (1, .int k)] := hl
  have hS : va_S (gw_A G) s.heap s.heap [] := va_S.rf
  have hown : s.vm.findClass "GenerationsModel" = some m.cls := hown
  refine lv_aload_n hx hb d_Mo_owner_0 rfl (lv_at hl 0 rfl) ?_
  refine gw_get (ci := 5) (fs := [.int cd, .int lm, .int sm, .int 0, .ref there, .ref mrow, .int (0 + 1), .ref found, .ref fsz, .ref ends, .ref made, .int 0, .int 0, .ref drops, .int 0]) hx hb hts in_Mo hown hE.K hW hf_mo rfl 4 (by decide) (hts _ mw155) (fun _ h9 => h9) rfl d_Mo_owner_1 ?_
  refine lv_iload_n hx hb d_Mo_owner_4 rfl (lv_at hl 1 rfl) ?_
  refine gw_iald (i := k) hx hb hE.K hW 0 hf_there rfl hin9 d_Mo_owner_5 ?_
  refine lv_iconst (v := 3) hx hb d_Mo_owner_6 (by decide) ?_
  refine lv_ishr hx hb d_Mo_owner_7 ?_
  refine lv_bipush (v := 63) hx hb d_Mo_owner_8 (by decide) ?_
  refine lv_iand hx hb d_Mo_owner_10 ?_
  exact gw_iret hx hb hr hlocks hS hW (Nat.le_of_ble_eq_true rfl) (Nat.le_of_ble_eq_true rfl) d_Mo_owner_11 (⟨(show (0 : Int32) = (0 : Int32) >>> ((3 : Int32) &&& 31) &&& 63 by decide), rfl⟩)

set_option maxHeartbeats 4000000 in
set_option maxRecDepth 100000 in
theorem m_versionOf1 (l : Launch) (G : gw_G) (M : gw_M) (mo : Nat) (there : Nat) (mrow : Nat) (found : Nat) (fsz : Nat) (ends : Nat) (made : Nat) (drops : Nat) (cd : Int32) (lm : Int32) (sm : Int32) (k : Int32) (hf_mo : M mo = some (100, .inr (5, [.int cd, .int lm, .int sm, .int 0, .ref there, .ref mrow, .int (0 + 1), .ref found, .ref fsz, .ref ends, .ref made, .int 0, .int 0, .ref drops, .int 0]))) (hf_there : M there = some (101, .inl (G.2.1 0, 10000, .inl (fun _ => 0)))) (hin9 : vp_in k 10000) : Met l y_Mo_versionOf [.code y_Mo_versionOf b_Mo_versionOf 2 (some .int)] ({ frames := 0, cells := 0, slots := 0, locals := 0 }) (gw_Pc G M [.ref mo, .int k]) (gw_Qi G (fun r M2 => 0 = r ∧ M = M2)) 0 0 (gw_A G) := by
  refine gw_start (by decide) (Nat.le_of_ble_eq_true rfl) (fun p9 e9 s m b9 mt9 c9 hx hb hr hml hown hlocks hin hE hB hW ls hl => ?_)
  have hts := hE.ts ([.ref mo, .int k] : List Value).toArray
  have hl : lv_has ls 2 [(0, .ref mo), (1, .int k)] := hl
  have hS : va_S (gw_A G) s.heap s.heap [] := va_S.rf
  have hown : s.vm.findClass "GenerationsModel" = some m.cls := hown
  refine lv_aload_n hx hb d_Mo_versionOf_0 rfl (lv_at hl 0 rfl) ?_
  refine gw_get (ci := 5) (fs := [.int cd, .int lm, .int sm, .int 0, .ref there, .ref mrow, .int (0 + 1), .ref found, .ref fsz, .ref ends, .ref made, .int 0, .int 0, .ref drops, .int 0]) hx hb hts in_Mo hown hE.K hW hf_mo rfl 4 (by decide) (hts _ mw155) (fun _ h9 => h9) rfl d_Mo_versionOf_1 ?_
  refine lv_iload_n hx hb d_Mo_versionOf_4 rfl (lv_at hl 1 rfl) ?_
  refine gw_iald (i := k) hx hb hE.K hW 0 hf_there rfl hin9 d_Mo_versionOf_5 ?_
  refine lv_bipush (v := 9) hx hb d_Mo_versionOf_6 (by decide) ?_
  refine lv_ishr hx hb d_Mo_versionOf_8 ?_
  exact gw_iret hx hb hr hlocks hS hW (Nat.le_of_ble_eq_true rfl) (Nat.le_of_ble_eq_true rfl) d_Mo_versionOf_9 (⟨(show (0 : Int32) = (0 : Int32) >>> ((9 : Int32) &&& 31) by decide), rfl⟩)

set_option maxHeartbeats 4000000 in
set_option maxRecDepth 100000 in
theorem m_be (l : Launch) (G : gw_G) (M : gw_M) (mo : Nat) (there : Nat) (mrow : Nat) (found : Nat) (fsz : Nat) (ends : Nat) (made : Nat) (drops : Nat) (cd : Int32) (lm : Int32) (sm : Int32) (k : Int32) (ps : Int32) (po : Int32) (pv : Int32) (t0 : Nat → Int32) (hf_mo : M mo = some (100, .inr (5, [.int cd, .int lm, .int sm, .int 0, .ref there, .ref mrow, .int (0 + 1), .ref found, .ref fsz, .ref ends, .ref made, .int 0, .int 0, .ref drops, .int 0]))) (hf_there : M there = some (101, .inl (G.2.1 0, 10000, .inl t0))) (hin9 : vp_in k 10000) : Met l y_Mo_be [.code y_Mo_be b_Mo_be 5 none] ({ frames := 0, cells := 0, slots := 0, locals := 0 }) (gw_Pc G M [.ref mo, .int k, .int ps, .int po, .int pv]) (gw_Qv G (fun M2 => ∃ (tf : Nat → Int32), M2 there = some (101, .inl (G.2.1 0, 10000, .inl tf)) ∧ gw_fr (gw_out [101]) M M2)) 0 0 (gw_A G) := by
  refine gw_start (by decide) (Nat.le_of_ble_eq_true rfl) (fun p9 e9 s m b9 mt9 c9 hx hb hr hml hown hlocks hin hE hB hW ls hl => ?_)
  have hts := hE.ts ([.ref mo, .int k, .int ps, .int po, .int pv] : List Value).toArray
  have hl : lv_has ls 5 [(0, .ref mo), (1, .int k), (2, .int ps), (3, .int po), (4, .int pv)] := hl
  have hS : va_S (gw_A G) s.heap s.heap [] := va_S.rf
  have hown : s.vm.findClass "GenerationsModel" = some m.cls := hown
  refine lv_aload_n hx hb d_Mo_be_0 rfl (lv_at hl 0 rfl) ?_
  refine gw_get (ci := 5) (fs := [.int cd, .int lm, .int sm, .int 0, .ref there, .ref mrow, .int (0 + 1), .ref found, .ref fsz, .ref ends, .ref made, .int 0, .int 0, .ref drops, .int 0]) hx hb hts in_Mo hown hE.K hW hf_mo rfl 4 (by decide) (hts _ mw155) (fun _ h9 => h9) rfl d_Mo_be_1 ?_
  refine lv_iload_n hx hb d_Mo_be_4 rfl (lv_at hl 1 rfl) ?_
  refine lv_iload_n hx hb d_Mo_be_5 rfl (lv_at hl 2 rfl) ?_
  refine lv_iload_n hx hb d_Mo_be_6 rfl (lv_at hl 3 rfl) ?_
  refine lv_iconst (v := 3) hx hb d_Mo_be_7 (by decide) ?_
  refine lv_ishl hx hb d_Mo_be_8 ?_
  refine lv_ior hx hb d_Mo_be_9 ?_
  refine lv_iload hx hb d_Mo_be_10 (lv_at hl 4 rfl) ?_
  refine lv_bipush (v := 9) hx hb d_Mo_be_12 (by decide) ?_
  refine lv_ishl hx hb d_Mo_be_14 ?_
  refine lv_ior hx hb d_Mo_be_15 ?_
  refine gw_iast (i := k) (x := (ps ||| (po <<< (3 &&& 31))) ||| (pv <<< (9 &&& 31))) hx hb hE.K hW hS 0 hf_there rfl hin9 d_Mo_be_16 (fun H locs hW hS => ?_)
  have hF1 : gw_fr (gw_out [101]) M (gw_up M there 101 (.inl (G.2.1 0, 10000, .inl (upd t0 (k : Int32).toNatClampNeg ((ps ||| (po <<< (3 &&& 31))) ||| (pv <<< (9 &&& 31))))))) := gw_fr.up gw_fr.rf hf_there (show ¬ ((gw_out [101]) 101) by decide) (show ¬ ((gw_out [101]) 101) by decide)
  obtain ⟨M2, eM2⟩ : ∃ z, z = gw_up M there 101 (.inl (G.2.1 0, 10000, .inl (upd t0 (k : Int32).toNatClampNeg ((ps ||| (po <<< (3 &&& 31))) ||| (pv <<< (9 &&& 31)))))) := ⟨_, rfl⟩
  replace hW : gw_P G.1 vwCl G.2.2.2 M2 H := by rw [eM2]; exact hW
  have hf_mo : M2 mo = some (100, .inr (5, [.int cd, .int lm, .int sm, .int 0, .ref there, .ref mrow, .int (0 + 1), .ref found, .ref fsz, .ref ends, .ref made, .int 0, .int 0, .ref drops, .int 0])) := by rw [eM2]; exact gw_keep hf_mo hf_there (by decide)
  have hf_there : M2 there = some (101, .inl (G.2.1 0, 10000, .inl (upd t0 (k : Int32).toNatClampNeg ((ps ||| (po <<< (3 &&& 31))) ||| (pv <<< (9 &&& 31)))))) := by rw [eM2]; exact gw_up_self _ _ _ _
  rw [← eM2] at hF1
  exact gw_vret hx hb hr hlocks hS hW (Nat.le_of_ble_eq_true rfl) (Nat.le_of_ble_eq_true rfl) d_Mo_be_17 (⟨upd t0 (k : Int32).toNatClampNeg ((ps ||| (po <<< (3 &&& 31))) ||| (pv <<< (9 &&& 31))), hf_there, hF1⟩)

set_option maxHeartbeats 4000000 in
set_option maxRecDepth 100000 in
theorem m_become (l : Launch) (G : gw_G) (M : gw_M) (mo : Nat) (there : Nat) (mrow : Nat) (found : Nat) (fsz : Nat) (ends : Nat) (made : Nat) (drops : Nat) (cd : Int32) (lm : Int32) (sm : Int32) (k : Int32) (ps : Int32) (hf_mo : M mo = some (100, .inr (5, [.int cd, .int lm, .int sm, .int 0, .ref there, .ref mrow, .int (0 + 1), .ref found, .ref fsz, .ref ends, .ref made, .int 0, .int 0, .ref drops, .int 0]))) (hf_there : M there = some (101, .inl (G.2.1 0, 10000, .inl (fun _ => 0)))) (hin9 : vp_in k 10000) : Met l y_Mo_become [.code y_Mo_become b_Mo_become 3 none] ({ frames := 1, cells := 0, slots := 0, locals := 24 }) (gw_Pc G M [.ref mo, .int k, .int ps]) (gw_Qv G (fun M2 => ∃ (tf : Nat → Int32), M2 there = some (101, .inl (G.2.1 0, 10000, .inl tf)) ∧ gw_fr (gw_out [101]) M M2)) 0 0 (gw_A G) := by
  refine gw_start (by decide) (Nat.le_of_ble_eq_true rfl) (fun p9 e9 s m b9 mt9 c9 hx hb hr hml hown hlocks hin hE hB hW ls hl => ?_)
  have hts := hE.ts ([.ref mo, .int k, .int ps] : List Value).toArray
  have hl : lv_has ls 3 [(0, .ref mo), (1, .int k), (2, .int ps)] := hl
  have hS : va_S (gw_A G) s.heap s.heap [] := va_S.rf
  have hown : s.vm.findClass "GenerationsModel" = some m.cls := hown
  refine lv_aload_n hx hb d_Mo_become_0 rfl (lv_at hl 0 rfl) ?_
  refine lv_iload_n hx hb d_Mo_become_1 rfl (lv_at hl 1 rfl) ?_
  refine lv_iload_n hx hb d_Mo_become_2 rfl (lv_at hl 2 rfl) ?_
  refine lv_aload_n hx hb d_Mo_become_3 rfl (lv_at hl 0 rfl) ?_
  refine lv_iload_n hx hb d_Mo_become_4 rfl (lv_at hl 1 rfl) ?_
  refine gw_calli hS (va_runV (As := [.int k]) (rest := [.int ps, .int k, .ref mo]) ⟨hx, hb, hml, hown, hts⟩ (m_owner1 l G M mo there mrow found fsz ends made drops cd lm sm k hf_mo hf_there (by assumption)) (cwV 1 hts (gw_gv mw166 mw167 mw168 mw169 mw165) rfl rfl rfl (by decide +kernel) ⟨Nat.le_of_ble_eq_true rfl, Nat.le_of_ble_eq_true rfl⟩) (gw_pv hE hB hS hW rfl hf_mo) rfl rfl hl.1 rfl (lv_room (Nat.le_of_ble_eq_true rfl)) d_Mo_become_5 ⟨Nat.le_of_ble_eq_true rfl, Nat.le_of_ble_eq_true rfl⟩) (fun r1 M2 H locs hw3 hW hS => ?_)
  obtain ⟨rfl, rfl⟩ := hw3
  refine lv_aload_n hx hb d_Mo_become_8 rfl (lv_at hl 0 rfl) ?_
  refine lv_iload_n hx hb d_Mo_become_9 rfl (lv_at hl 1 rfl) ?_
  refine gw_calli hS (va_runV (As := [.int k]) (rest := [.int 0, .int ps, .int k, .ref mo]) ⟨hx, hb, hml, hown, hts⟩ (m_versionOf1 l G M mo there mrow found fsz ends made drops cd lm sm k hf_mo hf_there (by assumption)) (cwV 1 hts (gw_gv mw171 mw172 mw173 mw169 mw170) rfl rfl rfl (by decide +kernel) ⟨Nat.le_of_ble_eq_true rfl, Nat.le_of_ble_eq_true rfl⟩) (gw_pv hE hB hS hW rfl hf_mo) rfl rfl hl.1 rfl (lv_room (Nat.le_of_ble_eq_true rfl)) d_Mo_become_10 ⟨Nat.le_of_ble_eq_true rfl, Nat.le_of_ble_eq_true rfl⟩) (fun r4 M5 H locs hw6 hW hS => ?_)
  obtain ⟨rfl, rfl⟩ := hw6
  refine gw_callv hS (va_runV (As := [.int k, .int ps, .int 0, .int 0]) (rest := []) ⟨hx, hb, hml, hown, hts⟩ (m_be l G M mo there mrow found fsz ends made drops cd lm sm k ps 0 0 (fun _ => 0) hf_mo hf_there (by assumption)) (cwV 4 hts (gw_gv mw175 mw176 mw177 mw169 mw174) rfl rfl rfl (by decide +kernel) ⟨Nat.le_of_ble_eq_true rfl, Nat.le_of_ble_eq_true rfl⟩) (gw_pv hE hB hS hW rfl hf_mo) rfl rfl hl.1 rfl (lv_room (Nat.le_of_ble_eq_true rfl)) d_Mo_become_13 ⟨Nat.le_of_ble_eq_true rfl, Nat.le_of_ble_eq_true rfl⟩) (fun M8 H locs hw9 hW hS => ?_)
  obtain ⟨tf10, hf_there', hfr11⟩ := hw9
  have hf_mo : M8 mo = some (100, .inr (5, [.int cd, .int lm, .int sm, .int 0, .ref there, .ref mrow, .int (0 + 1), .ref found, .ref fsz, .ref ends, .ref made, .int 0, .int 0, .ref drops, .int 0])) := (hfr11 _ _ _ (by decide)).mp hf_mo
  have hf_there : M8 there = some (101, .inl (G.2.1 0, 10000, .inl tf10)) := hf_there'
  have hF12 : gw_fr (gw_out [101]) M M8 := gw_fr.tr gw_fr.rf (gw_fr.wk hfr11 (by decide))
  exact gw_vret hx hb hr hlocks hS hW (Nat.le_of_ble_eq_true rfl) (Nat.le_of_ble_eq_true rfl) d_Mo_become_16 (⟨tf10, hf_there, hF12⟩)

set_option maxHeartbeats 4000000 in
set_option maxRecDepth 100000 in
theorem m_enter (l : Launch) (G : gw_G) (M : gw_M) (mo : Nat) (there : Nat) (mrow : Nat) (found : Nat) (fsz : Nat) (ends : Nat) (made : Nat) (drops : Nat) (cd : Int32) (lm : Int32) (sm : Int32) (k : Int32) (hf_mo : M mo = some (100, .inr (5, [.int cd, .int lm, .int sm, .int 0, .ref there, .ref mrow, .int 0, .ref found, .ref fsz, .ref ends, .ref made, .int 0, .int 0, .ref drops, .int 0]))) (hf_there : M there = some (101, .inl (G.2.1 0, 10000, .inl (fun _ => 0)))) (hf_mrow : M mrow = some (102, .inl (G.2.1 0, 300, .inl (fun _ => 0)))) (hin9 : vp_in k 10000) (hlm : ¬ lm < 0 + 1) : Met l y_Mo_enter [.code y_Mo_enter b_Mo_enter 6 none] ({ frames := 2, cells := 0, slots := 0, locals := 46 }) (gw_Pc G M [.ref mo, .int k]) (gw_Qv G (fun M2 => M2 mo = some (100, .inr (5, [.int cd, .int lm, .int sm, .int 0, .ref there, .ref mrow, .int (0 + 1), .ref found, .ref fsz, .ref ends, .ref made, .int 0, .int 0, .ref drops, .int 0])) ∧ gw_fr (gw_out [100, 101, 102]) M M2)) 0 0 (gw_A G) := by
  refine gw_start (by decide) (Nat.le_of_ble_eq_true rfl) (fun p9 e9 s m b9 mt9 c9 hx hb hr hml hown hlocks hin hE hB hW ls hl => ?_)
  have hts := hE.ts ([.ref mo, .int k] : List Value).toArray
  have hl : lv_has ls 6 [(0, .ref mo), (1, .int k)] := hl
  have hS : va_S (gw_A G) s.heap s.heap [] := va_S.rf
  have hown : s.vm.findClass "GenerationsModel" = some m.cls := hown
  refine lv_iconst (v := 0) hx hb d_Mo_enter_0 (by decide) ?_
  refine lv_istore_n (lv' := [(2, .int 0), (0, .ref mo), (1, .int k)]) hx hb d_Mo_enter_1 rfl hl (by decide) rfl (fun ls hl => ?_)
  refine lv_iconst (v := 0) hx hb d_Mo_enter_2 (by decide) ?_
  refine lv_istore_n (lv' := [(3, .int 0), (2, .int 0), (0, .ref mo), (1, .int k)]) hx hb d_Mo_enter_3 rfl hl (by decide) rfl (fun ls hl => ?_)
  refine lv_iload_n hx hb d_Mo_enter_4 rfl (lv_at hl 0 rfl) ?_
  refine lv_aload_n hx hb d_Mo_enter_5 rfl (lv_at hl 2 rfl) ?_
  refine gw_get (ci := 5) (fs := [.int cd, .int lm, .int sm, .int 0, .ref there, .ref mrow, .int 0, .ref found, .ref fsz, .ref ends, .ref made, .int 0, .int 0, .ref drops, .int 0]) hx hb hts in_Mo hown hE.K hW hf_mo rfl 6 (by decide) (hts _ mw178) (fun _ h9 => h9) rfl d_Mo_enter_6 ?_
  refine lv_icmp_ge (tgt := 39) hx hb d_Mo_enter_9 (by decide) (fun c9 => ?_) (fun c9 => ?_)
  · refine lv_aload_n hx hb d_Mo_enter_39 rfl (lv_at hl 2 rfl) ?_
    refine gw_get (ci := 5) (fs := [.int cd, .int lm, .int sm, .int 0, .ref there, .ref mrow, .int 0, .ref found, .ref fsz, .ref ends, .ref made, .int 0, .int 0, .ref drops, .int 0]) hx hb hts in_Mo hown hE.K hW hf_mo rfl 6 (by decide) (hts _ mw178) (fun _ h9 => h9) rfl d_Mo_enter_40 ?_
    refine lv_istore_n (lv' := [(3, .int 0), (2, .int 0), (0, .ref mo), (1, .int k)]) hx hb d_Mo_enter_43 rfl hl (by decide) rfl (fun ls hl => ?_)
    refine lv_iload_n hx hb d_Mo_enter_44 rfl (lv_at hl 0 rfl) ?_
    refine lv_iload_n hx hb d_Mo_enter_45 rfl (lv_at hl 1 rfl) ?_
    refine lv_icmp_le (tgt := 69) hx hb d_Mo_enter_46 (by decide) (fun c46 => ?_) (fun c46 => ?_)
    · refine lv_aload_n hx hb d_Mo_enter_69 rfl (lv_at hl 2 rfl) ?_
      refine gw_get (ci := 5) (fs := [.int cd, .int lm, .int sm, .int 0, .ref there, .ref mrow, .int 0, .ref found, .ref fsz, .ref ends, .ref made, .int 0, .int 0, .ref drops, .int 0]) hx hb hts in_Mo hown hE.K hW hf_mo rfl 5 (by decide) (hts _ mw156) (fun _ h9 => h9) rfl d_Mo_enter_70 ?_
      refine lv_iload_n hx hb d_Mo_enter_73 rfl (lv_at hl 1 rfl) ?_
      refine lv_iload_n hx hb d_Mo_enter_74 rfl (lv_at hl 3 rfl) ?_
      refine gw_iast (i := 0) (x := k) hx hb hE.K hW hS 0 hf_mrow rfl (show ¬ ((0 : Int32) < 0 ∨ 300 ≤ (0 : Int32).toNatClampNeg) by decide) d_Mo_enter_75 (fun H locs hW hS => ?_)
      have hF1 : gw_fr (gw_out [100, 101, 102]) M (gw_up M mrow 102 (.inl (G.2.1 0, 300, .inl (upd (fun _ => 0) (0 : Int32).toNatClampNeg k)))) := gw_fr.up gw_fr.rf hf_mrow (show ¬ ((gw_out [100, 101, 102]) 102) by decide) (show ¬ ((gw_out [100, 101, 102]) 102) by decide)
      obtain ⟨M2, eM2⟩ : ∃ z, z = gw_up M mrow 102 (.inl (G.2.1 0, 300, .inl (upd (fun _ => 0) (0 : Int32).toNatClampNeg k))) := ⟨_, rfl⟩
      replace hW : gw_P G.1 vwCl G.2.2.2 M2 H := by rw [eM2]; exact hW
      have hf_mo : M2 mo = some (100, .inr (5, [.int cd, .int lm, .int sm, .int 0, .ref there, .ref mrow, .int 0, .ref found, .ref fsz, .ref ends, .ref made, .int 0, .int 0, .ref drops, .int 0])) := by rw [eM2]; exact gw_keep hf_mo hf_mrow (by decide)
      have hf_there : M2 there = some (101, .inl (G.2.1 0, 10000, .inl (fun _ => 0))) := by rw [eM2]; exact gw_keep hf_there hf_mrow (by decide)
      have hf_mrow : M2 mrow = some (102, .inl (G.2.1 0, 300, .inl (upd (fun _ => 0) (0 : Int32).toNatClampNeg k))) := by rw [eM2]; exact gw_up_self _ _ _ _
      rw [← eM2] at hF1
      refine lv_aload_n hx hb d_Mo_enter_76 rfl (lv_at hl 2 rfl) ?_
      refine lv_dup hx hb d_Mo_enter_77 rfl ?_
      refine gw_get (ci := 5) (fs := [.int cd, .int lm, .int sm, .int 0, .ref there, .ref mrow, .int 0, .ref found, .ref fsz, .ref ends, .ref made, .int 0, .int 0, .ref drops, .int 0]) hx hb hts in_Mo hown hE.K hW hf_mo rfl 6 (by decide) (hts _ mw178) (fun _ h9 => h9) rfl d_Mo_enter_78 ?_
      refine lv_iconst (v := 1) hx hb d_Mo_enter_81 (by decide) ?_
      refine lv_iadd hx hb d_Mo_enter_82 ?_
      refine gw_put (ci := 5) (fs := [.int cd, .int lm, .int sm, .int 0, .ref there, .ref mrow, .int 0, .ref found, .ref fsz, .ref ends, .ref made, .int 0, .int 0, .ref drops, .int 0]) (v := .int (0 + 1)) (ty := .int) hx hb hts in_Mo t_Mo t_Mo_ok n_Mo hown hE.K hW hS hf_mo rfl 6 (by decide) (hts _ mw178) (fun _ h9 => h9) rfl (by decide +kernel) rfl rfl (Nat.le_of_ble_eq_true rfl) d_Mo_enter_83 (fun H locs hW hS => ?_)
      have hF3 : gw_fr (gw_out [100, 101, 102]) M (gw_up M2 mo 100 (.inr (5, [.int cd, .int lm, .int sm, .int 0, .ref there, .ref mrow, .int (0 + 1), .ref found, .ref fsz, .ref ends, .ref made, .int 0, .int 0, .ref drops, .int 0]))) := gw_fr.up hF1 hf_mo (show ¬ ((gw_out [100, 101, 102]) 100) by decide) (show ¬ ((gw_out [100, 101, 102]) 100) by decide)
      obtain ⟨M4, eM4⟩ : ∃ z, z = gw_up M2 mo 100 (.inr (5, [.int cd, .int lm, .int sm, .int 0, .ref there, .ref mrow, .int (0 + 1), .ref found, .ref fsz, .ref ends, .ref made, .int 0, .int 0, .ref drops, .int 0])) := ⟨_, rfl⟩
      replace hW : gw_P G.1 vwCl G.2.2.2 M4 H := by rw [eM4]; exact hW
      have hf_there : M4 there = some (101, .inl (G.2.1 0, 10000, .inl (fun _ => 0))) := by rw [eM4]; exact gw_keep hf_there hf_mo (by decide)
      have hf_mrow : M4 mrow = some (102, .inl (G.2.1 0, 300, .inl (upd (fun _ => 0) (0 : Int32).toNatClampNeg k))) := by rw [eM4]; exact gw_keep hf_mrow hf_mo (by decide)
      have hf_mo : M4 mo = some (100, .inr (5, [.int cd, .int lm, .int sm, .int 0, .ref there, .ref mrow, .int (0 + 1), .ref found, .ref fsz, .ref ends, .ref made, .int 0, .int 0, .ref drops, .int 0])) := by rw [eM4]; exact gw_up_self _ _ _ _
      rw [← eM4] at hF3
      refine lv_aload_n hx hb d_Mo_enter_86 rfl (lv_at hl 2 rfl) ?_
      refine lv_iload_n hx hb d_Mo_enter_87 rfl (lv_at hl 3 rfl) ?_
      refine lv_iconst (v := 1) hx hb d_Mo_enter_88 (by decide) ?_
      refine gw_callv hS (va_runV (As := [.int k, .int 1]) (rest := []) ⟨hx, hb, hml, hown, hts⟩ (m_become l G M4 mo there mrow found fsz ends made drops cd lm sm k 1 hf_mo hf_there (by assumption)) (cwV 2 hts (gw_gv mw180 mw181 mw182 mw169 mw179) rfl rfl rfl (by decide +kernel) ⟨Nat.le_of_ble_eq_true rfl, Nat.le_of_ble_eq_true rfl⟩) (gw_pv hE hB hS hW rfl hf_mo) rfl rfl hl.1 rfl (lv_room (Nat.le_of_ble_eq_true rfl)) d_Mo_enter_89 ⟨Nat.le_of_ble_eq_true rfl, Nat.le_of_ble_eq_true rfl⟩) (fun M6 H locs hw7 hW hS => ?_)
      obtain ⟨tf8, hf_there', hfr9⟩ := hw7
      have hf_mrow : M6 mrow = some (102, .inl (G.2.1 0, 300, .inl (upd (fun _ => 0) (0 : Int32).toNatClampNeg k))) := (hfr9 _ _ _ (by decide)).mp hf_mrow
      have hf_mo : M6 mo = some (100, .inr (5, [.int cd, .int lm, .int sm, .int 0, .ref there, .ref mrow, .int (0 + 1), .ref found, .ref fsz, .ref ends, .ref made, .int 0, .int 0, .ref drops, .int 0])) := (hfr9 _ _ _ (by decide)).mp hf_mo
      have hf_there : M6 there = some (101, .inl (G.2.1 0, 10000, .inl tf8)) := hf_there'
      have hF10 : gw_fr (gw_out [100, 101, 102]) M M6 := gw_fr.tr hF3 (gw_fr.wk hfr9 (by decide))
      refine lv_aload_n hx hb d_Mo_enter_92 rfl (lv_at hl 2 rfl) ?_
      refine gw_get (ci := 5) (fs := [.int cd, .int lm, .int sm, .int 0, .ref there, .ref mrow, .int (0 + 1), .ref found, .ref fsz, .ref ends, .ref made, .int 0, .int 0, .ref drops, .int 0]) hx hb hts in_Mo hown hE.K hW hf_mo rfl 6 (by decide) (hts _ mw178) (fun _ h9 => h9) rfl d_Mo_enter_93 ?_
      refine lv_aload_n hx hb d_Mo_enter_96 rfl (lv_at hl 2 rfl) ?_
      refine gw_get (ci := 5) (fs := [.int cd, .int lm, .int sm, .int 0, .ref there, .ref mrow, .int (0 + 1), .ref found, .ref fsz, .ref ends, .ref made, .int 0, .int 0, .ref drops, .int 0]) hx hb hts in_Mo hown hE.K hW hf_mo rfl 1 (by decide) (hts _ mw162) (fun _ h9 => h9) rfl d_Mo_enter_97 ?_
      refine lv_icmp_gt (tgt := 104) hx hb d_Mo_enter_100 (by decide) (fun c100 => ?_) (fun c100 => ?_)
      · exact absurd c100 hlm
      · exact gw_vret hx hb hr hlocks hS hW (Nat.le_of_ble_eq_true rfl) (Nat.le_of_ble_eq_true rfl) d_Mo_enter_103 (⟨hf_mo, hF10⟩)
    · exact absurd c46 (by decide)
  · exact absurd c9 (by decide)

set_option maxHeartbeats 4000000 in
set_option maxRecDepth 100000 in
theorem m_catalogue (l : Launch) (G : gw_G) (M : gw_M) (mo : Nat) (there : Nat) (mrow : Nat) (found : Nat) (fsz : Nat) (ends : Nat) (made : Nat) (drops : Nat) (cd : Int32) (lm : Int32) (sm : Int32) (k : Int32) (hf_mo : M mo = some (100, .inr (5, [.int cd, .int lm, .int sm, .int 0, .ref there, .ref mrow, .int 0, .ref found, .ref fsz, .ref ends, .ref made, .int 0, .int 0, .ref drops, .int 0]))) (hf_there : M there = some (101, .inl (G.2.1 0, 10000, .inl (fun _ => 0)))) (hf_mrow : M mrow = some (102, .inl (G.2.1 0, 300, .inl (fun _ => 0)))) (hlm : ¬ lm < 0 + 1) : Met l y_Mo_catalogue [.code y_Mo_catalogue b_Mo_catalogue 2 (some .int)] ({ frames := 3, cells := 0, slots := 0, locals := 71 }) (gw_Pc G M [.ref mo, .int k]) (gw_Qi G (fun r M2 => gx_cat k = r ∧ gw_fr (gw_out [100, 101, 102]) M M2)) 0 0 (gw_A G) := by
  refine gw_start (by decide) (Nat.le_of_ble_eq_true rfl) (fun p9 e9 s m b9 mt9 c9 hx hb hr hml hown hlocks hin hE hB hW ls hl => ?_)
  have hts := hE.ts ([.ref mo, .int k] : List Value).toArray
  have hl : lv_has ls 2 [(0, .ref mo), (1, .int k)] := hl
  have hS : va_S (gw_A G) s.heap s.heap [] := va_S.rf
  have hown : s.vm.findClass "GenerationsModel" = some m.cls := hown
  refine lv_aload_n hx hb d_Mo_catalogue_0 rfl (lv_at hl 0 rfl) ?_
  refine lv_iconst (v := 0) hx hb d_Mo_catalogue_1 (by decide) ?_
  refine gw_put (ci := 5) (fs := [.int cd, .int lm, .int sm, .int 0, .ref there, .ref mrow, .int 0, .ref found, .ref fsz, .ref ends, .ref made, .int 0, .int 0, .ref drops, .int 0]) (v := .int 0) (ty := .int) hx hb hts in_Mo t_Mo t_Mo_ok n_Mo hown hE.K hW hS hf_mo rfl 0 (by decide) (hts _ mw164) (fun _ h9 => h9) rfl (by decide +kernel) rfl rfl (Nat.le_of_ble_eq_true rfl) d_Mo_catalogue_2 (fun H locs hW hS => ?_)
  have hF1 : gw_fr (gw_out [100, 101, 102]) M (gw_up M mo 100 (.inr (5, [.int 0, .int lm, .int sm, .int 0, .ref there, .ref mrow, .int 0, .ref found, .ref fsz, .ref ends, .ref made, .int 0, .int 0, .ref drops, .int 0]))) := gw_fr.up gw_fr.rf hf_mo (show ¬ ((gw_out [100, 101, 102]) 100) by decide) (show ¬ ((gw_out [100, 101, 102]) 100) by decide)
  obtain ⟨M2, eM2⟩ : ∃ z, z = gw_up M mo 100 (.inr (5, [.int 0, .int lm, .int sm, .int 0, .ref there, .ref mrow, .int 0, .ref found, .ref fsz, .ref ends, .ref made, .int 0, .int 0, .ref drops, .int 0])) := ⟨_, rfl⟩
  replace hW : gw_P G.1 vwCl G.2.2.2 M2 H := by rw [eM2]; exact hW
  have hf_there : M2 there = some (101, .inl (G.2.1 0, 10000, .inl (fun _ => 0))) := by rw [eM2]; exact gw_keep hf_there hf_mo (by decide)
  have hf_mrow : M2 mrow = some (102, .inl (G.2.1 0, 300, .inl (fun _ => 0))) := by rw [eM2]; exact gw_keep hf_mrow hf_mo (by decide)
  have hf_mo : M2 mo = some (100, .inr (5, [.int 0, .int lm, .int sm, .int 0, .ref there, .ref mrow, .int 0, .ref found, .ref fsz, .ref ends, .ref made, .int 0, .int 0, .ref drops, .int 0])) := by rw [eM2]; exact gw_up_self _ _ _ _
  rw [← eM2] at hF1
  refine lv_iload_n hx hb d_Mo_catalogue_5 rfl (lv_at hl 1 rfl) ?_
  refine gw_calli hS (va_runS (As := [.int k]) (rest := []) ⟨hx, hb, hml, hown, hts⟩ (m_isNumber l G M2 k  ) (cwS 1 hts (gw_gs mw184 mw185 mw169 mw183) rfl rfl rfl (by decide +kernel) ⟨Nat.le_of_ble_eq_true rfl, Nat.le_of_ble_eq_true rfl⟩) (gw_ps hE hB hS hW) rfl rfl hl.1 rfl (lv_room (Nat.le_of_ble_eq_true rfl)) d_Mo_catalogue_6 ⟨Nat.le_of_ble_eq_true rfl, Nat.le_of_ble_eq_true rfl⟩) (fun r3 M4 H locs hw5 hW hS => ?_)
  obtain ⟨rfl, rfl⟩ := hw5
  refine lv_if_eq (tgt := 29) hx hb d_Mo_catalogue_9 (by decide) (fun c9 => ?_) (fun c9 => ?_)
  · refine lv_iconst (v := -1) hx hb d_Mo_catalogue_29 (by decide) ?_
    exact gw_iret hx hb hr hlocks hS hW (Nat.le_of_ble_eq_true rfl) (Nat.le_of_ble_eq_true rfl) d_Mo_catalogue_30 (⟨(gx_cat0 c9), hF1⟩)
  · refine lv_aload_n hx hb d_Mo_catalogue_12 rfl (lv_at hl 0 rfl) ?_
    refine lv_iload_n hx hb d_Mo_catalogue_13 rfl (lv_at hl 1 rfl) ?_
    refine gw_calli hS (va_runV (As := [.int k]) (rest := []) ⟨hx, hb, hml, hown, hts⟩ (m_what l G M2 mo there mrow found fsz ends made drops 0 lm sm k hf_mo hf_there (gx_in c9)) (cwV 1 hts (gw_gv mw187 mw188 mw189 mw169 mw186) rfl rfl rfl (by decide +kernel) ⟨Nat.le_of_ble_eq_true rfl, Nat.le_of_ble_eq_true rfl⟩) (gw_pv hE hB hS hW rfl hf_mo) rfl rfl hl.1 rfl (lv_room (Nat.le_of_ble_eq_true rfl)) d_Mo_catalogue_14 ⟨Nat.le_of_ble_eq_true rfl, Nat.le_of_ble_eq_true rfl⟩) (fun r6 M7 H locs hw8 hW hS => ?_)
    obtain ⟨rfl, rfl⟩ := hw8
    refine lv_if_eq (tgt := 31) hx hb d_Mo_catalogue_17 (by decide) (fun c17 => ?_) (fun c17 => ?_)
    · refine lv_aload_n hx hb d_Mo_catalogue_31 rfl (lv_at hl 0 rfl) ?_
      refine lv_iload_n hx hb d_Mo_catalogue_32 rfl (lv_at hl 1 rfl) ?_
      refine gw_callv hS (va_runV (As := [.int k]) (rest := []) ⟨hx, hb, hml, hown, hts⟩ (m_enter l G M2 mo there mrow found fsz ends made drops 0 lm sm k hf_mo hf_there hf_mrow (gx_in c9) hlm) (cwV 1 hts (gw_gv mw191 mw192 mw193 mw169 mw190) rfl rfl rfl (by decide +kernel) ⟨Nat.le_of_ble_eq_true rfl, Nat.le_of_ble_eq_true rfl⟩) (gw_pv hE hB hS hW rfl hf_mo) rfl rfl hl.1 rfl (lv_room (Nat.le_of_ble_eq_true rfl)) d_Mo_catalogue_33 ⟨Nat.le_of_ble_eq_true rfl, Nat.le_of_ble_eq_true rfl⟩) (fun M10 H locs hw11 hW hS => ?_)
      obtain ⟨hf_mo', hfr12⟩ := hw11
      have hf_mo : M10 mo = some (100, .inr (5, [.int 0, .int lm, .int sm, .int 0, .ref there, .ref mrow, .int (0 + 1), .ref found, .ref fsz, .ref ends, .ref made, .int 0, .int 0, .ref drops, .int 0])) := hf_mo'
      have hF13 : gw_fr (gw_out [100, 101, 102]) M M10 := gw_fr.tr hF1 (gw_fr.wk hfr12 (by decide))
      refine lv_aload_n hx hb d_Mo_catalogue_36 rfl (lv_at hl 0 rfl) ?_
      refine gw_get (ci := 5) (fs := [.int 0, .int lm, .int sm, .int 0, .ref there, .ref mrow, .int (0 + 1), .ref found, .ref fsz, .ref ends, .ref made, .int 0, .int 0, .ref drops, .int 0]) hx hb hts in_Mo hown hE.K hW hf_mo rfl 6 (by decide) (hts _ mw178) (fun _ h9 => h9) rfl d_Mo_catalogue_37 ?_
      exact gw_iret hx hb hr hlocks hS hW (Nat.le_of_ble_eq_true rfl) (Nat.le_of_ble_eq_true rfl) d_Mo_catalogue_40 (⟨((gx_cat1 c9).trans (by decide)), hF13⟩)
    · exact absurd c17 (by decide)
end
section
abbrev b_Mo_isJob : ByteArray := prog_6_method_13_code
abbrev y_Mo_isJob : MethodName := ⟨"GenerationsModel", "isJob", "(I)Z"⟩
abbrev b_Mo_job : ByteArray := prog_6_method_14_code
abbrev y_Mo_job : MethodName := ⟨"GenerationsModel", "job", "()I"⟩
abbrev b_Mo_fails : ByteArray := prog_6_method_3_code
abbrev y_Mo_fails : MethodName := ⟨"GenerationsModel", "fails", "(Z)Z"⟩
abbrev b_Mo_relative : ByteArray := prog_6_method_17_code
abbrev y_Mo_relative : MethodName := ⟨"GenerationsModel", "relative", "(II)I"⟩
abbrev b_Mo_make : ByteArray := prog_6_method_18_code
abbrev y_Mo_make : MethodName := ⟨"GenerationsModel", "make", "(II)I"⟩
abbrev b_Mo_end : ByteArray := prog_6_method_20_code
abbrev y_Mo_end : MethodName := ⟨"GenerationsModel", "end", "(IIZ)I"⟩
abbrev b_Mo_restart : ByteArray := prog_6_method_21_code
abbrev y_Mo_restart : MethodName := ⟨"GenerationsModel", "restart", "(II)I"⟩
abbrev b_Mo_dropped : ByteArray := prog_6_method_22_code
abbrev y_Mo_dropped : MethodName := ⟨"GenerationsModel", "dropped", "(I)I"⟩
abbrev b_Mo_list : ByteArray := prog_6_method_23_code
abbrev y_Mo_list : MethodName := ⟨"GenerationsModel", "list", "(I)I"⟩
abbrev b_Mo_reclaim : ByteArray := prog_6_method_24_code
abbrev y_Mo_reclaim : MethodName := ⟨"GenerationsModel", "reclaim", "(I)I"⟩
abbrev b_Mo_empty : ByteArray := prog_6_method_25_code
abbrev y_Mo_empty : MethodName := ⟨"GenerationsModel", "empty", "(Z)I"⟩
abbrev b_Mo_version : ByteArray := prog_6_method_26_code
abbrev y_Mo_version : MethodName := ⟨"GenerationsModel", "version", "(I)I"⟩
abbrev b_Mo_state : ByteArray := prog_6_method_27_code
abbrev y_Mo_state : MethodName := ⟨"GenerationsModel", "state", "(I)I"⟩
abbrev b_Mo_count : ByteArray := prog_6_method_28_code
abbrev y_Mo_count : MethodName := ⟨"GenerationsModel", "count", "(I)I"⟩
set_option maxRecDepth 20000 in
theorem mw194 : (Cond.fieldLink "GenerationsModel" (81 : Nat) "GenerationsModel" "jobs" "I") ∈ gw_N0 := gw_in (List.mem_append_right _ (gw_tm (i := 469) rfl))
set_option maxRecDepth 20000 in
theorem mw195 : (Cond.code ({ cls := "GenerationsModel", name := "isJob", desc := "(I)Z" } : Jvm.MethodName) prog_6_method_13_code (2 : Nat) (Option.some Jvm.ClassFile.FieldType.boolean)) ∈ gw_N0 := gw_in (List.mem_append_right _ (gw_tm (i := 553) rfl))
set_option maxRecDepth 20000 in
theorem mw196 : (Cond.methodLink "GenerationsModel" (84 : Nat) ({ cls := "GenerationsModel", name := "isJob", desc := "(I)Z" } : Jvm.MethodName)) ∈ gw_N0 := gw_in (List.mem_append_right _ (gw_tm (i := 550) rfl))
set_option maxRecDepth 20000 in
theorem mw197 : (Cond.instanceMethod ({ cls := "GenerationsModel", name := "isJob", desc := "(I)Z" } : Jvm.MethodName)) ∈ gw_N0 := gw_in (List.mem_append_right _ (gw_tm (i := 552) rfl))
set_option maxRecDepth 20000 in
theorem mw198 : (Cond.selects "GenerationsModel" ⟨"GenerationsModel", "isJob", "(I)Z"⟩ ⟨"GenerationsModel", "isJob", "(I)Z"⟩) ∈ gw_N0 := gw_in (List.mem_append_left _ (List.mem_of_getElem? (i := 31) rfl))
set_option maxRecDepth 20000 in
theorem mw199 : (Cond.code ({ cls := "GenerationsModel", name := "fails", desc := "(Z)Z" } : Jvm.MethodName) prog_6_method_3_code (2 : Nat) (Option.some Jvm.ClassFile.FieldType.boolean)) ∈ gw_N0 := gw_in (List.mem_append_right _ (gw_tm (i := 557) rfl))
set_option maxRecDepth 20000 in
theorem mw200 : (Cond.methodLink "GenerationsModel" (87 : Nat) ({ cls := "GenerationsModel", name := "fails", desc := "(Z)Z" } : Jvm.MethodName)) ∈ gw_N0 := gw_in (List.mem_append_right _ (gw_tm (i := 554) rfl))
set_option maxRecDepth 20000 in
theorem mw201 : (Cond.instanceMethod ({ cls := "GenerationsModel", name := "fails", desc := "(Z)Z" } : Jvm.MethodName)) ∈ gw_N0 := gw_in (List.mem_append_right _ (gw_tm (i := 556) rfl))
set_option maxRecDepth 20000 in
theorem mw202 : (Cond.selects "GenerationsModel" ⟨"GenerationsModel", "fails", "(Z)Z"⟩ ⟨"GenerationsModel", "fails", "(Z)Z"⟩) ∈ gw_N0 := gw_in (List.mem_append_left _ (List.mem_of_getElem? (i := 32) rfl))
set_option maxRecDepth 20000 in
theorem mw203 : (Cond.fieldLink "GenerationsModel" (67 : Nat) "GenerationsModel" "dropped" "I") ∈ gw_N0 := gw_in (List.mem_append_right _ (gw_tm (i := 472) rfl))
set_option maxRecDepth 20000 in
theorem mw204 : (Cond.fieldLink "GenerationsModel" (64 : Nat) "GenerationsModel" "empties" "Z") ∈ gw_N0 := gw_in (List.mem_append_right _ (gw_tm (i := 461) rfl))
set_option maxRecDepth 20000 in
theorem mw205 : (Cond.fieldLink "GenerationsModel" (98 : Nat) "GenerationsModel" "maker" "I") ∈ gw_N0 := gw_in (List.mem_append_right _ (gw_tm (i := 470) rfl))
end
section
theorem d_Mo_isJob_0 : decode b_Mo_isJob 0 = .ok (.iload_n 1, 1) := by decide +kernel
theorem d_Mo_isJob_1 : decode b_Mo_isJob 1 = .ok (.ifCond .le 15, 3) := by decide +kernel
theorem d_Mo_isJob_16 : decode b_Mo_isJob 16 = .ok (.iconst 0, 1) := by decide +kernel
theorem d_Mo_isJob_17 : decode b_Mo_isJob 17 = .ok (.ireturn, 1) := by decide +kernel
theorem d_Mo_isJob_4 : decode b_Mo_isJob 4 = .ok (.iload_n 1, 1) := by decide +kernel
theorem d_Mo_isJob_5 : decode b_Mo_isJob 5 = .ok (.aload_n 0, 1) := by decide +kernel
theorem d_Mo_isJob_6 : decode b_Mo_isJob 6 = .ok (.getfield 81, 3) := by decide +kernel
theorem d_Mo_isJob_9 : decode b_Mo_isJob 9 = .ok (.if_icmp .gt 7, 3) := by decide +kernel
theorem d_Mo_job_0 : decode b_Mo_job 0 = .ok (.aload_n 0, 1) := by decide +kernel
theorem d_Mo_job_1 : decode b_Mo_job 1 = .ok (.iconst 0, 1) := by decide +kernel
theorem d_Mo_job_2 : decode b_Mo_job 2 = .ok (.putfield 39, 3) := by decide +kernel
theorem d_Mo_job_5 : decode b_Mo_job 5 = .ok (.aload_n 0, 1) := by decide +kernel
theorem d_Mo_job_6 : decode b_Mo_job 6 = .ok (.getfield 81, 3) := by decide +kernel
theorem d_Mo_job_9 : decode b_Mo_job 9 = .ok (.bipush 40, 2) := by decide +kernel
theorem d_Mo_job_11 : decode b_Mo_job 11 = .ok (.if_icmp .ne 5, 3) := by decide +kernel
theorem d_Mo_job_16 : decode b_Mo_job 16 = .ok (.aload_n 0, 1) := by decide +kernel
theorem d_Mo_job_17 : decode b_Mo_job 17 = .ok (.dup, 1) := by decide +kernel
theorem d_Mo_job_18 : decode b_Mo_job 18 = .ok (.getfield 81, 3) := by decide +kernel
theorem d_Mo_job_21 : decode b_Mo_job 21 = .ok (.iconst 1, 1) := by decide +kernel
theorem d_Mo_job_22 : decode b_Mo_job 22 = .ok (.iadd, 1) := by decide +kernel
theorem d_Mo_job_23 : decode b_Mo_job 23 = .ok (.putfield 81, 3) := by decide +kernel
theorem d_Mo_job_26 : decode b_Mo_job 26 = .ok (.aload_n 0, 1) := by decide +kernel
theorem d_Mo_job_27 : decode b_Mo_job 27 = .ok (.getfield 19, 3) := by decide +kernel
theorem d_Mo_job_30 : decode b_Mo_job 30 = .ok (.aload_n 0, 1) := by decide +kernel
theorem d_Mo_job_31 : decode b_Mo_job 31 = .ok (.getfield 81, 3) := by decide +kernel
theorem d_Mo_job_34 : decode b_Mo_job 34 = .ok (.aload_n 0, 1) := by decide +kernel
theorem d_Mo_job_35 : decode b_Mo_job 35 = .ok (.getfield 53, 3) := by decide +kernel
theorem d_Mo_job_38 : decode b_Mo_job 38 = .ok (.iastore, 1) := by decide +kernel
theorem d_Mo_job_39 : decode b_Mo_job 39 = .ok (.iconst 0, 1) := by decide +kernel
theorem d_Mo_job_40 : decode b_Mo_job 40 = .ok (.istore_n 1, 1) := by decide +kernel
theorem d_Mo_job_41 : decode b_Mo_job 41 = .ok (.iload_n 1, 1) := by decide +kernel
theorem d_Mo_job_42 : decode b_Mo_job 42 = .ok (.aload_n 0, 1) := by decide +kernel
theorem d_Mo_job_43 : decode b_Mo_job 43 = .ok (.getfield 53, 3) := by decide +kernel
theorem d_Mo_job_46 : decode b_Mo_job 46 = .ok (.if_icmp .ge 32, 3) := by decide +kernel
theorem d_Mo_job_78 : decode b_Mo_job 78 = .ok (.aload_n 0, 1) := by decide +kernel
theorem d_Mo_job_79 : decode b_Mo_job 79 = .ok (.getfield 81, 3) := by decide +kernel
theorem d_Mo_job_82 : decode b_Mo_job 82 = .ok (.ireturn, 1) := by decide +kernel
theorem d_Mo_fails_0 : decode b_Mo_fails 0 = .ok (.aload_n 0, 1) := by decide +kernel
theorem d_Mo_fails_1 : decode b_Mo_fails 1 = .ok (.iload_n 1, 1) := by decide +kernel
theorem d_Mo_fails_2 : decode b_Mo_fails 2 = .ok (.ifCond .eq 7, 3) := by decide +kernel
theorem d_Mo_fails_5 : decode b_Mo_fails 5 = .ok (.iconst 1, 1) := by decide +kernel
theorem d_Mo_fails_6 : decode b_Mo_fails 6 = .ok (.goto 4, 3) := by decide +kernel
theorem d_Mo_fails_10 : decode b_Mo_fails 10 = .ok (.putfield 39, 3) := by decide +kernel
theorem d_Mo_fails_13 : decode b_Mo_fails 13 = .ok (.iload_n 1, 1) := by decide +kernel
theorem d_Mo_fails_14 : decode b_Mo_fails 14 = .ok (.ireturn, 1) := by decide +kernel
theorem d_Mo_relative_0 : decode b_Mo_relative 0 = .ok (.aload_n 0, 1) := by decide +kernel
theorem d_Mo_relative_1 : decode b_Mo_relative 1 = .ok (.aload_n 0, 1) := by decide +kernel
theorem d_Mo_relative_2 : decode b_Mo_relative 2 = .ok (.iload_n 1, 1) := by decide +kernel
theorem d_Mo_relative_3 : decode b_Mo_relative 3 = .ok (.invokevirtual 84, 3) := by decide +kernel
theorem d_Mo_relative_6 : decode b_Mo_relative 6 = .ok (.ifCond .eq 9, 3) := by decide +kernel
theorem d_Mo_relative_15 : decode b_Mo_relative 15 = .ok (.iconst 1, 1) := by decide +kernel
theorem d_Mo_relative_16 : decode b_Mo_relative 16 = .ok (.goto 4, 3) := by decide +kernel
theorem d_Mo_relative_20 : decode b_Mo_relative 20 = .ok (.invokevirtual 87, 3) := by decide +kernel
theorem d_Mo_relative_23 : decode b_Mo_relative 23 = .ok (.ifCond .eq 5, 3) := by decide +kernel
theorem d_Mo_relative_26 : decode b_Mo_relative 26 = .ok (.iconst 0, 1) := by decide +kernel
theorem d_Mo_relative_27 : decode b_Mo_relative 27 = .ok (.ireturn, 1) := by decide +kernel
theorem d_Mo_make_0 : decode b_Mo_make 0 = .ok (.aload_n 0, 1) := by decide +kernel
theorem d_Mo_make_1 : decode b_Mo_make 1 = .ok (.aload_n 0, 1) := by decide +kernel
theorem d_Mo_make_2 : decode b_Mo_make 2 = .ok (.iload_n 1, 1) := by decide +kernel
theorem d_Mo_make_3 : decode b_Mo_make 3 = .ok (.invokevirtual 84, 3) := by decide +kernel
theorem d_Mo_make_6 : decode b_Mo_make 6 = .ok (.ifCond .eq 14, 3) := by decide +kernel
theorem d_Mo_make_20 : decode b_Mo_make 20 = .ok (.iconst 1, 1) := by decide +kernel
theorem d_Mo_make_21 : decode b_Mo_make 21 = .ok (.goto 4, 3) := by decide +kernel
theorem d_Mo_make_25 : decode b_Mo_make 25 = .ok (.invokevirtual 87, 3) := by decide +kernel
theorem d_Mo_make_28 : decode b_Mo_make 28 = .ok (.ifCond .eq 5, 3) := by decide +kernel
theorem d_Mo_make_31 : decode b_Mo_make 31 = .ok (.iconst 0, 1) := by decide +kernel
theorem d_Mo_make_32 : decode b_Mo_make 32 = .ok (.ireturn, 1) := by decide +kernel
theorem d_Mo_end_0 : decode b_Mo_end 0 = .ok (.aload_n 0, 1) := by decide +kernel
theorem d_Mo_end_1 : decode b_Mo_end 1 = .ok (.aload_n 0, 1) := by decide +kernel
theorem d_Mo_end_2 : decode b_Mo_end 2 = .ok (.iload_n 1, 1) := by decide +kernel
theorem d_Mo_end_3 : decode b_Mo_end 3 = .ok (.invokevirtual 84, 3) := by decide +kernel
theorem d_Mo_end_6 : decode b_Mo_end 6 = .ok (.ifCond .ne 7, 3) := by decide +kernel
theorem d_Mo_end_9 : decode b_Mo_end 9 = .ok (.iconst 1, 1) := by decide +kernel
theorem d_Mo_end_10 : decode b_Mo_end 10 = .ok (.goto 4, 3) := by decide +kernel
theorem d_Mo_end_14 : decode b_Mo_end 14 = .ok (.invokevirtual 87, 3) := by decide +kernel
theorem d_Mo_end_17 : decode b_Mo_end 17 = .ok (.ifCond .eq 5, 3) := by decide +kernel
theorem d_Mo_end_20 : decode b_Mo_end 20 = .ok (.iconst 0, 1) := by decide +kernel
theorem d_Mo_end_21 : decode b_Mo_end 21 = .ok (.ireturn, 1) := by decide +kernel
theorem d_Mo_restart_0 : decode b_Mo_restart 0 = .ok (.aload_n 0, 1) := by decide +kernel
theorem d_Mo_restart_1 : decode b_Mo_restart 1 = .ok (.aload_n 0, 1) := by decide +kernel
theorem d_Mo_restart_2 : decode b_Mo_restart 2 = .ok (.iload_n 1, 1) := by decide +kernel
theorem d_Mo_restart_3 : decode b_Mo_restart 3 = .ok (.invokevirtual 84, 3) := by decide +kernel
theorem d_Mo_restart_6 : decode b_Mo_restart 6 = .ok (.ifCond .ne 7, 3) := by decide +kernel
theorem d_Mo_restart_9 : decode b_Mo_restart 9 = .ok (.iconst 1, 1) := by decide +kernel
theorem d_Mo_restart_10 : decode b_Mo_restart 10 = .ok (.goto 4, 3) := by decide +kernel
theorem d_Mo_restart_14 : decode b_Mo_restart 14 = .ok (.invokevirtual 87, 3) := by decide +kernel
theorem d_Mo_restart_17 : decode b_Mo_restart 17 = .ok (.ifCond .eq 5, 3) := by decide +kernel
theorem d_Mo_restart_20 : decode b_Mo_restart 20 = .ok (.iconst 0, 1) := by decide +kernel
theorem d_Mo_restart_21 : decode b_Mo_restart 21 = .ok (.ireturn, 1) := by decide +kernel
theorem d_Mo_dropped_0 : decode b_Mo_dropped 0 = .ok (.aload_n 0, 1) := by decide +kernel
theorem d_Mo_dropped_1 : decode b_Mo_dropped 1 = .ok (.iconst 0, 1) := by decide +kernel
theorem d_Mo_dropped_2 : decode b_Mo_dropped 2 = .ok (.putfield 39, 3) := by decide +kernel
theorem d_Mo_dropped_5 : decode b_Mo_dropped 5 = .ok (.iload_n 1, 1) := by decide +kernel
theorem d_Mo_dropped_6 : decode b_Mo_dropped 6 = .ok (.ifCond .lt 20, 3) := by decide +kernel
theorem d_Mo_dropped_26 : decode b_Mo_dropped 26 = .ok (.iconst (-1), 1) := by decide +kernel
theorem d_Mo_dropped_27 : decode b_Mo_dropped 27 = .ok (.ireturn, 1) := by decide +kernel
theorem d_Mo_dropped_9 : decode b_Mo_dropped 9 = .ok (.iload_n 1, 1) := by decide +kernel
theorem d_Mo_dropped_10 : decode b_Mo_dropped 10 = .ok (.aload_n 0, 1) := by decide +kernel
theorem d_Mo_dropped_11 : decode b_Mo_dropped 11 = .ok (.getfield 67, 3) := by decide +kernel
theorem d_Mo_dropped_14 : decode b_Mo_dropped 14 = .ok (.if_icmp .ge 12, 3) := by decide +kernel
theorem d_Mo_list_0 : decode b_Mo_list 0 = .ok (.aload_n 0, 1) := by decide +kernel
theorem d_Mo_list_1 : decode b_Mo_list 1 = .ok (.iconst 0, 1) := by decide +kernel
theorem d_Mo_list_2 : decode b_Mo_list 2 = .ok (.putfield 39, 3) := by decide +kernel
theorem d_Mo_list_5 : decode b_Mo_list 5 = .ok (.iload_n 1, 1) := by decide +kernel
theorem d_Mo_list_6 : decode b_Mo_list 6 = .ok (.ifCond .lt 20, 3) := by decide +kernel
theorem d_Mo_list_26 : decode b_Mo_list 26 = .ok (.iconst (-1), 1) := by decide +kernel
theorem d_Mo_list_27 : decode b_Mo_list 27 = .ok (.ireturn, 1) := by decide +kernel
theorem d_Mo_list_9 : decode b_Mo_list 9 = .ok (.iload_n 1, 1) := by decide +kernel
theorem d_Mo_list_10 : decode b_Mo_list 10 = .ok (.aload_n 0, 1) := by decide +kernel
theorem d_Mo_list_11 : decode b_Mo_list 11 = .ok (.getfield 53, 3) := by decide +kernel
theorem d_Mo_list_14 : decode b_Mo_list 14 = .ok (.if_icmp .ge 12, 3) := by decide +kernel
theorem d_Mo_reclaim_0 : decode b_Mo_reclaim 0 = .ok (.aload_n 0, 1) := by decide +kernel
theorem d_Mo_reclaim_1 : decode b_Mo_reclaim 1 = .ok (.iconst 0, 1) := by decide +kernel
theorem d_Mo_reclaim_2 : decode b_Mo_reclaim 2 = .ok (.putfield 39, 3) := by decide +kernel
theorem d_Mo_reclaim_5 : decode b_Mo_reclaim 5 = .ok (.iload_n 1, 1) := by decide +kernel
theorem d_Mo_reclaim_6 : decode b_Mo_reclaim 6 = .ok (.invokestatic 70, 3) := by decide +kernel
theorem d_Mo_reclaim_9 : decode b_Mo_reclaim 9 = .ok (.ifCond .eq 12, 3) := by decide +kernel
theorem d_Mo_reclaim_21 : decode b_Mo_reclaim 21 = .ok (.iconst 0, 1) := by decide +kernel
theorem d_Mo_reclaim_22 : decode b_Mo_reclaim 22 = .ok (.ireturn, 1) := by decide +kernel
theorem d_Mo_reclaim_12 : decode b_Mo_reclaim 12 = .ok (.aload_n 0, 1) := by decide +kernel
end
section
theorem d_Mo_reclaim_13 : decode b_Mo_reclaim 13 = .ok (.iload_n 1, 1) := by decide +kernel
theorem d_Mo_reclaim_14 : decode b_Mo_reclaim 14 = .ok (.invokevirtual 74, 3) := by decide +kernel
theorem d_Mo_reclaim_17 : decode b_Mo_reclaim 17 = .ok (.iconst 3, 1) := by decide +kernel
theorem d_Mo_reclaim_18 : decode b_Mo_reclaim 18 = .ok (.if_icmp .ge 5, 3) := by decide +kernel
theorem d_Mo_empty_0 : decode b_Mo_empty 0 = .ok (.aload_n 0, 1) := by decide +kernel
theorem d_Mo_empty_1 : decode b_Mo_empty 1 = .ok (.iconst 0, 1) := by decide +kernel
theorem d_Mo_empty_2 : decode b_Mo_empty 2 = .ok (.putfield 39, 3) := by decide +kernel
theorem d_Mo_empty_5 : decode b_Mo_empty 5 = .ok (.aload_n 0, 1) := by decide +kernel
theorem d_Mo_empty_6 : decode b_Mo_empty 6 = .ok (.getfield 64, 3) := by decide +kernel
theorem d_Mo_empty_9 : decode b_Mo_empty 9 = .ok (.ifCond .eq 7, 3) := by decide +kernel
theorem d_Mo_empty_16 : decode b_Mo_empty 16 = .ok (.iconst 0, 1) := by decide +kernel
theorem d_Mo_empty_17 : decode b_Mo_empty 17 = .ok (.istore_n 2, 1) := by decide +kernel
theorem d_Mo_empty_18 : decode b_Mo_empty 18 = .ok (.aload_n 0, 1) := by decide +kernel
theorem d_Mo_empty_19 : decode b_Mo_empty 19 = .ok (.iload_n 1, 1) := by decide +kernel
theorem d_Mo_empty_20 : decode b_Mo_empty 20 = .ok (.putfield 64, 3) := by decide +kernel
theorem d_Mo_empty_23 : decode b_Mo_empty 23 = .ok (.iload_n 2, 1) := by decide +kernel
theorem d_Mo_empty_24 : decode b_Mo_empty 24 = .ok (.ireturn, 1) := by decide +kernel
theorem d_Mo_version_0 : decode b_Mo_version 0 = .ok (.aload_n 0, 1) := by decide +kernel
theorem d_Mo_version_1 : decode b_Mo_version 1 = .ok (.iconst 0, 1) := by decide +kernel
theorem d_Mo_version_2 : decode b_Mo_version 2 = .ok (.putfield 39, 3) := by decide +kernel
theorem d_Mo_version_5 : decode b_Mo_version 5 = .ok (.iload_n 1, 1) := by decide +kernel
theorem d_Mo_version_6 : decode b_Mo_version 6 = .ok (.invokestatic 70, 3) := by decide +kernel
theorem d_Mo_version_9 : decode b_Mo_version 9 = .ok (.ifCond .eq 19, 3) := by decide +kernel
theorem d_Mo_version_28 : decode b_Mo_version 28 = .ok (.iconst (-1), 1) := by decide +kernel
theorem d_Mo_version_29 : decode b_Mo_version 29 = .ok (.ireturn, 1) := by decide +kernel
theorem d_Mo_version_12 : decode b_Mo_version 12 = .ok (.aload_n 0, 1) := by decide +kernel
theorem d_Mo_version_13 : decode b_Mo_version 13 = .ok (.iload_n 1, 1) := by decide +kernel
theorem d_Mo_version_14 : decode b_Mo_version 14 = .ok (.invokevirtual 74, 3) := by decide +kernel
theorem d_Mo_version_17 : decode b_Mo_version 17 = .ok (.ifCond .eq 11, 3) := by decide +kernel
theorem d_Mo_state_0 : decode b_Mo_state 0 = .ok (.aload_n 0, 1) := by decide +kernel
theorem d_Mo_state_1 : decode b_Mo_state 1 = .ok (.iconst 0, 1) := by decide +kernel
theorem d_Mo_state_2 : decode b_Mo_state 2 = .ok (.putfield 39, 3) := by decide +kernel
theorem d_Mo_state_5 : decode b_Mo_state 5 = .ok (.iload_n 1, 1) := by decide +kernel
theorem d_Mo_state_6 : decode b_Mo_state 6 = .ok (.invokestatic 70, 3) := by decide +kernel
theorem d_Mo_state_9 : decode b_Mo_state 9 = .ok (.ifCond .eq 11, 3) := by decide +kernel
theorem d_Mo_state_20 : decode b_Mo_state 20 = .ok (.iconst (-1), 1) := by decide +kernel
theorem d_Mo_state_21 : decode b_Mo_state 21 = .ok (.ireturn, 1) := by decide +kernel
theorem d_Mo_state_12 : decode b_Mo_state 12 = .ok (.aload_n 0, 1) := by decide +kernel
theorem d_Mo_state_13 : decode b_Mo_state 13 = .ok (.iload_n 1, 1) := by decide +kernel
theorem d_Mo_state_14 : decode b_Mo_state 14 = .ok (.invokevirtual 74, 3) := by decide +kernel
theorem d_Mo_state_17 : decode b_Mo_state 17 = .ok (.goto 4, 3) := by decide +kernel
theorem d_Mo_count_0 : decode b_Mo_count 0 = .ok (.aload_n 0, 1) := by decide +kernel
theorem d_Mo_count_1 : decode b_Mo_count 1 = .ok (.iconst 0, 1) := by decide +kernel
theorem d_Mo_count_2 : decode b_Mo_count 2 = .ok (.putfield 39, 3) := by decide +kernel
theorem d_Mo_count_5 : decode b_Mo_count 5 = .ok (.iconst 0, 1) := by decide +kernel
theorem d_Mo_count_6 : decode b_Mo_count 6 = .ok (.istore_n 2, 1) := by decide +kernel
theorem d_Mo_count_7 : decode b_Mo_count 7 = .ok (.iconst 1, 1) := by decide +kernel
theorem d_Mo_count_8 : decode b_Mo_count 8 = .ok (.istore_n 3, 1) := by decide +kernel
theorem d_Mo_count_9 : decode b_Mo_count 9 = .ok (.iload_n 3, 1) := by decide +kernel
theorem d_Mo_count_10 : decode b_Mo_count 10 = .ok (.sipush 9999, 3) := by decide +kernel
theorem d_Mo_count_13 : decode b_Mo_count 13 = .ok (.if_icmp .gt 66, 3) := by decide +kernel
theorem d_Mo_count_79 : decode b_Mo_count 79 = .ok (.iload_n 1, 1) := by decide +kernel
theorem d_Mo_count_80 : decode b_Mo_count 80 = .ok (.tableswitch 62 0 5 #[40, 45, 45, 47, 52, 57], 40) := by decide +kernel
theorem d_Mo_count_142 : decode b_Mo_count 142 = .ok (.iconst (-1), 1) := by decide +kernel
theorem d_Mo_count_143 : decode b_Mo_count 143 = .ok (.ireturn, 1) := by decide +kernel
theorem d_Mo_count_120 : decode b_Mo_count 120 = .ok (.aload_n 0, 1) := by decide +kernel
theorem d_Mo_count_121 : decode b_Mo_count 121 = .ok (.getfield 53, 3) := by decide +kernel
theorem d_Mo_count_124 : decode b_Mo_count 124 = .ok (.ireturn, 1) := by decide +kernel
theorem d_Mo_count_125 : decode b_Mo_count 125 = .ok (.iload_n 2, 1) := by decide +kernel
theorem d_Mo_count_126 : decode b_Mo_count 126 = .ok (.ireturn, 1) := by decide +kernel
theorem d_Mo_count_127 : decode b_Mo_count 127 = .ok (.aload_n 0, 1) := by decide +kernel
theorem d_Mo_count_128 : decode b_Mo_count 128 = .ok (.getfield 81, 3) := by decide +kernel
theorem d_Mo_count_131 : decode b_Mo_count 131 = .ok (.ireturn, 1) := by decide +kernel
theorem d_Mo_count_132 : decode b_Mo_count 132 = .ok (.aload_n 0, 1) := by decide +kernel
theorem d_Mo_count_133 : decode b_Mo_count 133 = .ok (.getfield 98, 3) := by decide +kernel
theorem d_Mo_count_136 : decode b_Mo_count 136 = .ok (.ireturn, 1) := by decide +kernel
theorem d_Mo_count_137 : decode b_Mo_count 137 = .ok (.aload_n 0, 1) := by decide +kernel
theorem d_Mo_count_138 : decode b_Mo_count 138 = .ok (.getfield 67, 3) := by decide +kernel
theorem d_Mo_count_141 : decode b_Mo_count 141 = .ok (.ireturn, 1) := by decide +kernel
theorem d_Mo_count_16 : decode b_Mo_count 16 = .ok (.iload_n 1, 1) := by decide +kernel
theorem d_Mo_count_17 : decode b_Mo_count 17 = .ok (.ifCond .le 62, 3) := by decide +kernel
theorem d_Mo_count_20 : decode b_Mo_count 20 = .ok (.iload_n 1, 1) := by decide +kernel
theorem d_Mo_count_21 : decode b_Mo_count 21 = .ok (.iconst 3, 1) := by decide +kernel
theorem d_Mo_count_22 : decode b_Mo_count 22 = .ok (.if_icmp .ge 57, 3) := by decide +kernel
theorem d_Mo_count_25 : decode b_Mo_count 25 = .ok (.iload_n 2, 1) := by decide +kernel
theorem d_Mo_count_26 : decode b_Mo_count 26 = .ok (.iload_n 1, 1) := by decide +kernel
theorem d_Mo_count_27 : decode b_Mo_count 27 = .ok (.iconst 2, 1) := by decide +kernel
theorem d_Mo_count_28 : decode b_Mo_count 28 = .ok (.if_icmp .ne 20, 3) := by decide +kernel
theorem d_Mo_count_48 : decode b_Mo_count 48 = .ok (.aload_n 0, 1) := by decide +kernel
theorem d_Mo_count_49 : decode b_Mo_count 49 = .ok (.iload_n 3, 1) := by decide +kernel
theorem d_Mo_count_50 : decode b_Mo_count 50 = .ok (.invokevirtual 74, 3) := by decide +kernel
theorem d_Mo_count_53 : decode b_Mo_count 53 = .ok (.iconst 2, 1) := by decide +kernel
theorem d_Mo_count_54 : decode b_Mo_count 54 = .ok (.if_icmp .eq 12, 3) := by decide +kernel
theorem d_Mo_count_57 : decode b_Mo_count 57 = .ok (.aload_n 0, 1) := by decide +kernel
theorem d_Mo_count_58 : decode b_Mo_count 58 = .ok (.iload_n 3, 1) := by decide +kernel
theorem d_Mo_count_59 : decode b_Mo_count 59 = .ok (.invokevirtual 74, 3) := by decide +kernel
theorem d_Mo_count_62 : decode b_Mo_count 62 = .ok (.iconst 3, 1) := by decide +kernel
theorem d_Mo_count_63 : decode b_Mo_count 63 = .ok (.if_icmp .ne 7, 3) := by decide +kernel
theorem d_Mo_count_70 : decode b_Mo_count 70 = .ok (.iconst 0, 1) := by decide +kernel
theorem d_Mo_count_71 : decode b_Mo_count 71 = .ok (.iadd, 1) := by decide +kernel
theorem d_Mo_count_72 : decode b_Mo_count 72 = .ok (.istore_n 2, 1) := by decide +kernel
theorem d_Mo_count_73 : decode b_Mo_count 73 = .ok (.iinc 3 1, 3) := by decide +kernel
theorem d_Mo_count_76 : decode b_Mo_count 76 = .ok (.goto (-67), 3) := by decide +kernel
theorem d_Mo_count_31 : decode b_Mo_count 31 = .ok (.aload_n 0, 1) := by decide +kernel
theorem d_Mo_count_32 : decode b_Mo_count 32 = .ok (.iload_n 3, 1) := by decide +kernel
theorem d_Mo_count_33 : decode b_Mo_count 33 = .ok (.invokevirtual 74, 3) := by decide +kernel
theorem d_Mo_count_36 : decode b_Mo_count 36 = .ok (.iconst 4, 1) := by decide +kernel
theorem d_Mo_count_37 : decode b_Mo_count 37 = .ok (.if_icmp .ne 7, 3) := by decide +kernel
theorem d_Mo_count_44 : decode b_Mo_count 44 = .ok (.iconst 0, 1) := by decide +kernel
theorem d_Mo_count_45 : decode b_Mo_count 45 = .ok (.goto 26, 3) := by decide +kernel
end
section
set_option maxHeartbeats 4000000 in
set_option maxRecDepth 100000 in
theorem m_isJob (l : Launch) (G : gw_G) (M : gw_M) (mo : Nat) (there : Nat) (mrow : Nat) (found : Nat) (fsz : Nat) (ends : Nat) (made : Nat) (drops : Nat) (cd : Int32) (lm : Int32) (sm : Int32) (k : Int32) (hf_mo : M mo = some (100, .inr (5, [.int cd, .int lm, .int sm, .int 0, .ref there, .ref mrow, .int 0, .ref found, .ref fsz, .ref ends, .ref made, .int 0, .int 0, .ref drops, .int 0]))) : Met l y_Mo_isJob [.code y_Mo_isJob b_Mo_isJob 2 (some .boolean)] ({ frames := 0, cells := 0, slots := 0, locals := 0 }) (gw_Pc G M [.ref mo, .int k]) (gw_Qi G (fun r M2 => 0 = r ∧ M = M2)) 0 0 (gw_A G) := by
  refine gw_start (by decide) (Nat.le_of_ble_eq_true rfl) (fun p9 e9 s m b9 mt9 c9 hx hb hr hml hown hlocks hin hE hB hW ls hl => ?_)
  have hts := hE.ts ([.ref mo, .int k] : List Value).toArray
  have hl : lv_has ls 2 [(0, .ref mo), (1, .int k)] := hl
  have hS : va_S (gw_A G) s.heap s.heap [] := va_S.rf
  have hown : s.vm.findClass "GenerationsModel" = some m.cls := hown
  refine lv_iload_n hx hb d_Mo_isJob_0 rfl (lv_at hl 1 rfl) ?_
  refine lv_if_le (tgt := 16) hx hb d_Mo_isJob_1 (by decide) (fun c1 => ?_) (fun c1 => ?_)
  · refine lv_iconst (v := 0) hx hb d_Mo_isJob_16 (by decide) ?_
    exact gw_zret hx hb hr hlocks rfl hS hW (Nat.le_of_ble_eq_true rfl) (Nat.le_of_ble_eq_true rfl) d_Mo_isJob_17 (⟨rfl, rfl⟩)
  · refine lv_iload_n hx hb d_Mo_isJob_4 rfl (lv_at hl 1 rfl) ?_
    refine lv_aload_n hx hb d_Mo_isJob_5 rfl (lv_at hl 0 rfl) ?_
    refine gw_get (ci := 5) (fs := [.int cd, .int lm, .int sm, .int 0, .ref there, .ref mrow, .int 0, .ref found, .ref fsz, .ref ends, .ref made, .int 0, .int 0, .ref drops, .int 0]) hx hb hts in_Mo hown hE.K hW hf_mo rfl 11 (by decide) (hts _ mw194) (fun _ h9 => h9) rfl d_Mo_isJob_6 ?_
    refine lv_icmp_gt (tgt := 16) hx hb d_Mo_isJob_9 (by decide) (fun c9 => ?_) (fun c9 => ?_)
    · refine lv_iconst (v := 0) hx hb d_Mo_isJob_16 (by decide) ?_
      exact gw_zret hx hb hr hlocks rfl hS hW (Nat.le_of_ble_eq_true rfl) (Nat.le_of_ble_eq_true rfl) d_Mo_isJob_17 (⟨rfl, rfl⟩)
    · exact absurd (gm_pos c1) c9

set_option maxHeartbeats 4000000 in
set_option maxRecDepth 100000 in
theorem m_job (l : Launch) (G : gw_G) (M : gw_M) (mo : Nat) (there : Nat) (mrow : Nat) (found : Nat) (fsz : Nat) (ends : Nat) (made : Nat) (drops : Nat) (cd : Int32) (lm : Int32) (sm : Int32) (hf_mo : M mo = some (100, .inr (5, [.int cd, .int lm, .int sm, .int 0, .ref there, .ref mrow, .int 0, .ref found, .ref fsz, .ref ends, .ref made, .int 0, .int 0, .ref drops, .int 0]))) (hf_fsz : M fsz = some (104, .inl (G.2.1 0, 41, .inl (fun _ => 0)))) : Met l y_Mo_job [.code y_Mo_job b_Mo_job 2 (some .int)] ({ frames := 0, cells := 0, slots := 0, locals := 0 }) (gw_Pc G M [.ref mo]) (gw_Qi G (fun r M2 => 1 = r ∧ gw_fr (gw_out [100, 104]) M M2)) 0 0 (gw_A G) := by
  refine gw_start (by decide) (Nat.le_of_ble_eq_true rfl) (fun p9 e9 s m b9 mt9 c9 hx hb hr hml hown hlocks hin hE hB hW ls hl => ?_)
  have hts := hE.ts ([.ref mo] : List Value).toArray
  have hl : lv_has ls 2 [(0, .ref mo)] := hl
  have hS : va_S (gw_A G) s.heap s.heap [] := va_S.rf
  have hown : s.vm.findClass "GenerationsModel" = some m.cls := hown
  refine lv_aload_n hx hb d_Mo_job_0 rfl (lv_at hl 0 rfl) ?_
  refine lv_iconst (v := 0) hx hb d_Mo_job_1 (by decide) ?_
  refine gw_put (ci := 5) (fs := [.int cd, .int lm, .int sm, .int 0, .ref there, .ref mrow, .int 0, .ref found, .ref fsz, .ref ends, .ref made, .int 0, .int 0, .ref drops, .int 0]) (v := .int 0) (ty := .int) hx hb hts in_Mo t_Mo t_Mo_ok n_Mo hown hE.K hW hS hf_mo rfl 0 (by decide) (hts _ mw164) (fun _ h9 => h9) rfl (by decide +kernel) rfl rfl (Nat.le_of_ble_eq_true rfl) d_Mo_job_2 (fun H locs hW hS => ?_)
  have hF1 : gw_fr (gw_out [100, 104]) M (gw_up M mo 100 (.inr (5, [.int 0, .int lm, .int sm, .int 0, .ref there, .ref mrow, .int 0, .ref found, .ref fsz, .ref ends, .ref made, .int 0, .int 0, .ref drops, .int 0]))) := gw_fr.up gw_fr.rf hf_mo (show ¬ ((gw_out [100, 104]) 100) by decide) (show ¬ ((gw_out [100, 104]) 100) by decide)
  obtain ⟨M2, eM2⟩ : ∃ z, z = gw_up M mo 100 (.inr (5, [.int 0, .int lm, .int sm, .int 0, .ref there, .ref mrow, .int 0, .ref found, .ref fsz, .ref ends, .ref made, .int 0, .int 0, .ref drops, .int 0])) := ⟨_, rfl⟩
  replace hW : gw_P G.1 vwCl G.2.2.2 M2 H := by rw [eM2]; exact hW
  have hf_fsz : M2 fsz = some (104, .inl (G.2.1 0, 41, .inl (fun _ => 0))) := by rw [eM2]; exact gw_keep hf_fsz hf_mo (by decide)
  have hf_mo : M2 mo = some (100, .inr (5, [.int 0, .int lm, .int sm, .int 0, .ref there, .ref mrow, .int 0, .ref found, .ref fsz, .ref ends, .ref made, .int 0, .int 0, .ref drops, .int 0])) := by rw [eM2]; exact gw_up_self _ _ _ _
  rw [← eM2] at hF1
  refine lv_aload_n hx hb d_Mo_job_5 rfl (lv_at hl 0 rfl) ?_
  refine gw_get (ci := 5) (fs := [.int 0, .int lm, .int sm, .int 0, .ref there, .ref mrow, .int 0, .ref found, .ref fsz, .ref ends, .ref made, .int 0, .int 0, .ref drops, .int 0]) hx hb hts in_Mo hown hE.K hW hf_mo rfl 11 (by decide) (hts _ mw194) (fun _ h9 => h9) rfl d_Mo_job_6 ?_
  refine lv_bipush (v := 40) hx hb d_Mo_job_9 (by decide) ?_
  refine lv_icmp_ne (tgt := 16) hx hb d_Mo_job_11 (by decide) (fun c11 => ?_) (fun c11 => ?_)
  · refine lv_aload_n hx hb d_Mo_job_16 rfl (lv_at hl 0 rfl) ?_
    refine lv_dup hx hb d_Mo_job_17 rfl ?_
    refine gw_get (ci := 5) (fs := [.int 0, .int lm, .int sm, .int 0, .ref there, .ref mrow, .int 0, .ref found, .ref fsz, .ref ends, .ref made, .int 0, .int 0, .ref drops, .int 0]) hx hb hts in_Mo hown hE.K hW hf_mo rfl 11 (by decide) (hts _ mw194) (fun _ h9 => h9) rfl d_Mo_job_18 ?_
    refine lv_iconst (v := 1) hx hb d_Mo_job_21 (by decide) ?_
    refine lv_iadd hx hb d_Mo_job_22 ?_
    refine gw_put (ci := 5) (fs := [.int 0, .int lm, .int sm, .int 0, .ref there, .ref mrow, .int 0, .ref found, .ref fsz, .ref ends, .ref made, .int 0, .int 0, .ref drops, .int 0]) (v := .int (0 + 1)) (ty := .int) hx hb hts in_Mo t_Mo t_Mo_ok n_Mo hown hE.K hW hS hf_mo rfl 11 (by decide) (hts _ mw194) (fun _ h9 => h9) rfl (by decide +kernel) rfl rfl (Nat.le_of_ble_eq_true rfl) d_Mo_job_23 (fun H locs hW hS => ?_)
    have hF3 : gw_fr (gw_out [100, 104]) M (gw_up M2 mo 100 (.inr (5, [.int 0, .int lm, .int sm, .int 0, .ref there, .ref mrow, .int 0, .ref found, .ref fsz, .ref ends, .ref made, .int (0 + 1), .int 0, .ref drops, .int 0]))) := gw_fr.up hF1 hf_mo (show ¬ ((gw_out [100, 104]) 100) by decide) (show ¬ ((gw_out [100, 104]) 100) by decide)
    obtain ⟨M4, eM4⟩ : ∃ z, z = gw_up M2 mo 100 (.inr (5, [.int 0, .int lm, .int sm, .int 0, .ref there, .ref mrow, .int 0, .ref found, .ref fsz, .ref ends, .ref made, .int (0 + 1), .int 0, .ref drops, .int 0])) := ⟨_, rfl⟩
    replace hW : gw_P G.1 vwCl G.2.2.2 M4 H := by rw [eM4]; exact hW
    have hf_fsz : M4 fsz = some (104, .inl (G.2.1 0, 41, .inl (fun _ => 0))) := by rw [eM4]; exact gw_keep hf_fsz hf_mo (by decide)
    have hf_mo : M4 mo = some (100, .inr (5, [.int 0, .int lm, .int sm, .int 0, .ref there, .ref mrow, .int 0, .ref found, .ref fsz, .ref ends, .ref made, .int (0 + 1), .int 0, .ref drops, .int 0])) := by rw [eM4]; exact gw_up_self _ _ _ _
    rw [← eM4] at hF3
    refine lv_aload_n hx hb d_Mo_job_26 rfl (lv_at hl 0 rfl) ?_
    refine gw_get (ci := 5) (fs := [.int 0, .int lm, .int sm, .int 0, .ref there, .ref mrow, .int 0, .ref found, .ref fsz, .ref ends, .ref made, .int (0 + 1), .int 0, .ref drops, .int 0]) hx hb hts in_Mo hown hE.K hW hf_mo rfl 8 (by decide) (hts _ mw158) (fun _ h9 => h9) rfl d_Mo_job_27 ?_
    refine lv_aload_n hx hb d_Mo_job_30 rfl (lv_at hl 0 rfl) ?_
    refine gw_get (ci := 5) (fs := [.int 0, .int lm, .int sm, .int 0, .ref there, .ref mrow, .int 0, .ref found, .ref fsz, .ref ends, .ref made, .int (0 + 1), .int 0, .ref drops, .int 0]) hx hb hts in_Mo hown hE.K hW hf_mo rfl 11 (by decide) (hts _ mw194) (fun _ h9 => h9) rfl d_Mo_job_31 ?_
    refine lv_aload_n hx hb d_Mo_job_34 rfl (lv_at hl 0 rfl) ?_
    refine gw_get (ci := 5) (fs := [.int 0, .int lm, .int sm, .int 0, .ref there, .ref mrow, .int 0, .ref found, .ref fsz, .ref ends, .ref made, .int (0 + 1), .int 0, .ref drops, .int 0]) hx hb hts in_Mo hown hE.K hW hf_mo rfl 6 (by decide) (hts _ mw178) (fun _ h9 => h9) rfl d_Mo_job_35 ?_
    refine gw_iast (i := 0 + 1) (x := 0) hx hb hE.K hW hS 0 hf_fsz rfl (show ¬ ((0 + 1 : Int32) < 0 ∨ 41 ≤ (0 + 1 : Int32).toNatClampNeg) by decide) d_Mo_job_38 (fun H locs hW hS => ?_)
    have hF5 : gw_fr (gw_out [100, 104]) M (gw_up M4 fsz 104 (.inl (G.2.1 0, 41, .inl (upd (fun _ => 0) (0 + 1 : Int32).toNatClampNeg 0)))) := gw_fr.up hF3 hf_fsz (show ¬ ((gw_out [100, 104]) 104) by decide) (show ¬ ((gw_out [100, 104]) 104) by decide)
    obtain ⟨M6, eM6⟩ : ∃ z, z = gw_up M4 fsz 104 (.inl (G.2.1 0, 41, .inl (upd (fun _ => 0) (0 + 1 : Int32).toNatClampNeg 0))) := ⟨_, rfl⟩
    replace hW : gw_P G.1 vwCl G.2.2.2 M6 H := by rw [eM6]; exact hW
    have hf_mo : M6 mo = some (100, .inr (5, [.int 0, .int lm, .int sm, .int 0, .ref there, .ref mrow, .int 0, .ref found, .ref fsz, .ref ends, .ref made, .int (0 + 1), .int 0, .ref drops, .int 0])) := by rw [eM6]; exact gw_keep hf_mo hf_fsz (by decide)
    have hf_fsz : M6 fsz = some (104, .inl (G.2.1 0, 41, .inl (upd (fun _ => 0) (0 + 1 : Int32).toNatClampNeg 0))) := by rw [eM6]; exact gw_up_self _ _ _ _
    rw [← eM6] at hF5
    refine lv_iconst (v := 0) hx hb d_Mo_job_39 (by decide) ?_
    refine lv_istore_n (lv' := [(1, .int 0), (0, .ref mo)]) hx hb d_Mo_job_40 rfl hl (by decide) rfl (fun ls hl => ?_)
    refine lv_iload_n hx hb d_Mo_job_41 rfl (lv_at hl 0 rfl) ?_
    refine lv_aload_n hx hb d_Mo_job_42 rfl (lv_at hl 1 rfl) ?_
    refine gw_get (ci := 5) (fs := [.int 0, .int lm, .int sm, .int 0, .ref there, .ref mrow, .int 0, .ref found, .ref fsz, .ref ends, .ref made, .int (0 + 1), .int 0, .ref drops, .int 0]) hx hb hts in_Mo hown hE.K hW hf_mo rfl 6 (by decide) (hts _ mw178) (fun _ h9 => h9) rfl d_Mo_job_43 ?_
    refine lv_icmp_ge (tgt := 78) hx hb d_Mo_job_46 (by decide) (fun c46 => ?_) (fun c46 => ?_)
    · refine lv_aload_n hx hb d_Mo_job_78 rfl (lv_at hl 1 rfl) ?_
      refine gw_get (ci := 5) (fs := [.int 0, .int lm, .int sm, .int 0, .ref there, .ref mrow, .int 0, .ref found, .ref fsz, .ref ends, .ref made, .int (0 + 1), .int 0, .ref drops, .int 0]) hx hb hts in_Mo hown hE.K hW hf_mo rfl 11 (by decide) (hts _ mw194) (fun _ h9 => h9) rfl d_Mo_job_79 ?_
      exact gw_iret hx hb hr hlocks hS hW (Nat.le_of_ble_eq_true rfl) (Nat.le_of_ble_eq_true rfl) d_Mo_job_82 (⟨(by decide), hF5⟩)
    · exact absurd c46 (by decide)
  · exact absurd c11 (by decide)

set_option maxHeartbeats 4000000 in
set_option maxRecDepth 100000 in
theorem m_fails (l : Launch) (G : gw_G) (M : gw_M) (mo : Nat) (there : Nat) (mrow : Nat) (found : Nat) (fsz : Nat) (ends : Nat) (made : Nat) (drops : Nat) (cd : Int32) (lm : Int32) (sm : Int32) (hf_mo : M mo = some (100, .inr (5, [.int cd, .int lm, .int sm, .int 0, .ref there, .ref mrow, .int 0, .ref found, .ref fsz, .ref ends, .ref made, .int 0, .int 0, .ref drops, .int 0]))) : Met l y_Mo_fails [.code y_Mo_fails b_Mo_fails 2 (some .boolean)] ({ frames := 0, cells := 0, slots := 0, locals := 0 }) (gw_Pc G M [.ref mo, .int 1]) (gw_Qi G (fun r M2 => 1 = r ∧ M2 mo = some (100, .inr (5, [.int 1, .int lm, .int sm, .int 0, .ref there, .ref mrow, .int 0, .ref found, .ref fsz, .ref ends, .ref made, .int 0, .int 0, .ref drops, .int 0])) ∧ gw_fr (gw_out [100]) M M2)) 0 0 (gw_A G) := by
  refine gw_start (by decide) (Nat.le_of_ble_eq_true rfl) (fun p9 e9 s m b9 mt9 c9 hx hb hr hml hown hlocks hin hE hB hW ls hl => ?_)
  have hts := hE.ts ([.ref mo, .int 1] : List Value).toArray
  have hl : lv_has ls 2 [(0, .ref mo), (1, .int 1)] := hl
  have hS : va_S (gw_A G) s.heap s.heap [] := va_S.rf
  have hown : s.vm.findClass "GenerationsModel" = some m.cls := hown
  refine lv_aload_n hx hb d_Mo_fails_0 rfl (lv_at hl 0 rfl) ?_
  refine lv_iload_n hx hb d_Mo_fails_1 rfl (lv_at hl 1 rfl) ?_
  refine lv_if_eq (tgt := 9) hx hb d_Mo_fails_2 (by decide) (fun c2 => ?_) (fun c2 => ?_)
  · exact absurd c2 (by decide)
  · refine lv_iconst (v := 1) hx hb d_Mo_fails_5 (by decide) ?_
    refine lv_goto (tgt := 10) hx hb d_Mo_fails_6 (by decide) ?_
    refine gw_put (ci := 5) (fs := [.int cd, .int lm, .int sm, .int 0, .ref there, .ref mrow, .int 0, .ref found, .ref fsz, .ref ends, .ref made, .int 0, .int 0, .ref drops, .int 0]) (v := .int 1) (ty := .int) hx hb hts in_Mo t_Mo t_Mo_ok n_Mo hown hE.K hW hS hf_mo rfl 0 (by decide) (hts _ mw164) (fun _ h9 => h9) rfl (by decide +kernel) rfl rfl (Nat.le_of_ble_eq_true rfl) d_Mo_fails_10 (fun H locs hW hS => ?_)
    have hF1 : gw_fr (gw_out [100]) M (gw_up M mo 100 (.inr (5, [.int 1, .int lm, .int sm, .int 0, .ref there, .ref mrow, .int 0, .ref found, .ref fsz, .ref ends, .ref made, .int 0, .int 0, .ref drops, .int 0]))) := gw_fr.up gw_fr.rf hf_mo (show ¬ ((gw_out [100]) 100) by decide) (show ¬ ((gw_out [100]) 100) by decide)
    obtain ⟨M2, eM2⟩ : ∃ z, z = gw_up M mo 100 (.inr (5, [.int 1, .int lm, .int sm, .int 0, .ref there, .ref mrow, .int 0, .ref found, .ref fsz, .ref ends, .ref made, .int 0, .int 0, .ref drops, .int 0])) := ⟨_, rfl⟩
    replace hW : gw_P G.1 vwCl G.2.2.2 M2 H := by rw [eM2]; exact hW
    have hf_mo : M2 mo = some (100, .inr (5, [.int 1, .int lm, .int sm, .int 0, .ref there, .ref mrow, .int 0, .ref found, .ref fsz, .ref ends, .ref made, .int 0, .int 0, .ref drops, .int 0])) := by rw [eM2]; exact gw_up_self _ _ _ _
    rw [← eM2] at hF1
    refine lv_iload_n hx hb d_Mo_fails_13 rfl (lv_at hl 1 rfl) ?_
    exact gw_zret hx hb hr hlocks rfl hS hW (Nat.le_of_ble_eq_true rfl) (Nat.le_of_ble_eq_true rfl) d_Mo_fails_14 (⟨rfl, hf_mo, hF1⟩)

set_option maxHeartbeats 4000000 in
set_option maxRecDepth 100000 in
theorem m_relative (l : Launch) (G : gw_G) (M : gw_M) (mo : Nat) (there : Nat) (mrow : Nat) (found : Nat) (fsz : Nat) (ends : Nat) (made : Nat) (drops : Nat) (cd : Int32) (lm : Int32) (sm : Int32) (k : Int32) (n : Int32) (hf_mo : M mo = some (100, .inr (5, [.int cd, .int lm, .int sm, .int 0, .ref there, .ref mrow, .int 0, .ref found, .ref fsz, .ref ends, .ref made, .int 0, .int 0, .ref drops, .int 0]))) : Met l y_Mo_relative [.code y_Mo_relative b_Mo_relative 4 (some .int)] ({ frames := 1, cells := 0, slots := 0, locals := 21 }) (gw_Pc G M [.ref mo, .int k, .int n]) (gw_Qi G (fun r M2 => 0 = r ∧ M2 mo = some (100, .inr (5, [.int 1, .int lm, .int sm, .int 0, .ref there, .ref mrow, .int 0, .ref found, .ref fsz, .ref ends, .ref made, .int 0, .int 0, .ref drops, .int 0])) ∧ gw_fr (gw_out [100]) M M2)) 0 0 (gw_A G) := by
  refine gw_start (by decide) (Nat.le_of_ble_eq_true rfl) (fun p9 e9 s m b9 mt9 c9 hx hb hr hml hown hlocks hin hE hB hW ls hl => ?_)
  have hts := hE.ts ([.ref mo, .int k, .int n] : List Value).toArray
  have hl : lv_has ls 4 [(0, .ref mo), (1, .int k), (2, .int n)] := hl
  have hS : va_S (gw_A G) s.heap s.heap [] := va_S.rf
  have hown : s.vm.findClass "GenerationsModel" = some m.cls := hown
  refine lv_aload_n hx hb d_Mo_relative_0 rfl (lv_at hl 0 rfl) ?_
  refine lv_aload_n hx hb d_Mo_relative_1 rfl (lv_at hl 0 rfl) ?_
  refine lv_iload_n hx hb d_Mo_relative_2 rfl (lv_at hl 1 rfl) ?_
  refine gw_calli hS (va_runV (As := [.int k]) (rest := [.ref mo]) ⟨hx, hb, hml, hown, hts⟩ (m_isJob l G M mo there mrow found fsz ends made drops cd lm sm k hf_mo ) (cwV 1 hts (gw_gv mw196 mw197 mw198 mw169 mw195) rfl rfl rfl (by decide +kernel) ⟨Nat.le_of_ble_eq_true rfl, Nat.le_of_ble_eq_true rfl⟩) (gw_pv hE hB hS hW rfl hf_mo) rfl rfl hl.1 rfl (lv_room (Nat.le_of_ble_eq_true rfl)) d_Mo_relative_3 ⟨Nat.le_of_ble_eq_true rfl, Nat.le_of_ble_eq_true rfl⟩) (fun r1 M2 H locs hw3 hW hS => ?_)
  obtain ⟨rfl, rfl⟩ := hw3
  refine lv_if_eq (tgt := 15) hx hb d_Mo_relative_6 (by decide) (fun c6 => ?_) (fun c6 => ?_)
  · refine lv_iconst (v := 1) hx hb d_Mo_relative_15 (by decide) ?_
    refine lv_goto (tgt := 20) hx hb d_Mo_relative_16 (by decide) ?_
    refine gw_calli hS (va_runV (As := [.int 1]) (rest := []) ⟨hx, hb, hml, hown, hts⟩ (m_fails l G M mo there mrow found fsz ends made drops cd lm sm hf_mo ) (cwV 1 hts (gw_gv mw200 mw201 mw202 mw169 mw199) rfl rfl rfl (by decide +kernel) ⟨Nat.le_of_ble_eq_true rfl, Nat.le_of_ble_eq_true rfl⟩) (gw_pv hE hB hS hW rfl hf_mo) rfl rfl hl.1 rfl (lv_room (Nat.le_of_ble_eq_true rfl)) d_Mo_relative_20 ⟨Nat.le_of_ble_eq_true rfl, Nat.le_of_ble_eq_true rfl⟩) (fun r4 M5 H locs hw6 hW hS => ?_)
    obtain ⟨rfl, hf_mo', hfr7⟩ := hw6
    have hf_mo : M5 mo = some (100, .inr (5, [.int 1, .int lm, .int sm, .int 0, .ref there, .ref mrow, .int 0, .ref found, .ref fsz, .ref ends, .ref made, .int 0, .int 0, .ref drops, .int 0])) := hf_mo'
    have hF8 : gw_fr (gw_out [100]) M M5 := gw_fr.tr gw_fr.rf (gw_fr.wk hfr7 (by decide))
    refine lv_if_eq (tgt := 28) hx hb d_Mo_relative_23 (by decide) (fun c23 => ?_) (fun c23 => ?_)
    · exact absurd c23 (by decide)
    · refine lv_iconst (v := 0) hx hb d_Mo_relative_26 (by decide) ?_
      exact gw_iret hx hb hr hlocks hS hW (Nat.le_of_ble_eq_true rfl) (Nat.le_of_ble_eq_true rfl) d_Mo_relative_27 (⟨rfl, hf_mo, hF8⟩)
  · exact absurd c6 (by decide)

set_option maxHeartbeats 4000000 in
set_option maxRecDepth 100000 in
theorem m_make (l : Launch) (G : gw_G) (M : gw_M) (mo : Nat) (there : Nat) (mrow : Nat) (found : Nat) (fsz : Nat) (ends : Nat) (made : Nat) (drops : Nat) (cd : Int32) (lm : Int32) (sm : Int32) (k : Int32) (n : Int32) (hf_mo : M mo = some (100, .inr (5, [.int cd, .int lm, .int sm, .int 0, .ref there, .ref mrow, .int 0, .ref found, .ref fsz, .ref ends, .ref made, .int 0, .int 0, .ref drops, .int 0]))) : Met l y_Mo_make [.code y_Mo_make b_Mo_make 4 (some .int)] ({ frames := 1, cells := 0, slots := 0, locals := 21 }) (gw_Pc G M [.ref mo, .int k, .int n]) (gw_Qi G (fun r M2 => 0 = r ∧ M2 mo = some (100, .inr (5, [.int 1, .int lm, .int sm, .int 0, .ref there, .ref mrow, .int 0, .ref found, .ref fsz, .ref ends, .ref made, .int 0, .int 0, .ref drops, .int 0])) ∧ gw_fr (gw_out [100]) M M2)) 0 0 (gw_A G) := by
  refine gw_start (by decide) (Nat.le_of_ble_eq_true rfl) (fun p9 e9 s m b9 mt9 c9 hx hb hr hml hown hlocks hin hE hB hW ls hl => ?_)
  have hts := hE.ts ([.ref mo, .int k, .int n] : List Value).toArray
  have hl : lv_has ls 4 [(0, .ref mo), (1, .int k), (2, .int n)] := hl
  have hS : va_S (gw_A G) s.heap s.heap [] := va_S.rf
  have hown : s.vm.findClass "GenerationsModel" = some m.cls := hown
  refine lv_aload_n hx hb d_Mo_make_0 rfl (lv_at hl 0 rfl) ?_
  refine lv_aload_n hx hb d_Mo_make_1 rfl (lv_at hl 0 rfl) ?_
  refine lv_iload_n hx hb d_Mo_make_2 rfl (lv_at hl 1 rfl) ?_
  refine gw_calli hS (va_runV (As := [.int k]) (rest := [.ref mo]) ⟨hx, hb, hml, hown, hts⟩ (m_isJob l G M mo there mrow found fsz ends made drops cd lm sm k hf_mo ) (cwV 1 hts (gw_gv mw196 mw197 mw198 mw169 mw195) rfl rfl rfl (by decide +kernel) ⟨Nat.le_of_ble_eq_true rfl, Nat.le_of_ble_eq_true rfl⟩) (gw_pv hE hB hS hW rfl hf_mo) rfl rfl hl.1 rfl (lv_room (Nat.le_of_ble_eq_true rfl)) d_Mo_make_3 ⟨Nat.le_of_ble_eq_true rfl, Nat.le_of_ble_eq_true rfl⟩) (fun r1 M2 H locs hw3 hW hS => ?_)
  obtain ⟨rfl, rfl⟩ := hw3
  refine lv_if_eq (tgt := 20) hx hb d_Mo_make_6 (by decide) (fun c6 => ?_) (fun c6 => ?_)
  · refine lv_iconst (v := 1) hx hb d_Mo_make_20 (by decide) ?_
    refine lv_goto (tgt := 25) hx hb d_Mo_make_21 (by decide) ?_
    refine gw_calli hS (va_runV (As := [.int 1]) (rest := []) ⟨hx, hb, hml, hown, hts⟩ (m_fails l G M mo there mrow found fsz ends made drops cd lm sm hf_mo ) (cwV 1 hts (gw_gv mw200 mw201 mw202 mw169 mw199) rfl rfl rfl (by decide +kernel) ⟨Nat.le_of_ble_eq_true rfl, Nat.le_of_ble_eq_true rfl⟩) (gw_pv hE hB hS hW rfl hf_mo) rfl rfl hl.1 rfl (lv_room (Nat.le_of_ble_eq_true rfl)) d_Mo_make_25 ⟨Nat.le_of_ble_eq_true rfl, Nat.le_of_ble_eq_true rfl⟩) (fun r4 M5 H locs hw6 hW hS => ?_)
    obtain ⟨rfl, hf_mo', hfr7⟩ := hw6
    have hf_mo : M5 mo = some (100, .inr (5, [.int 1, .int lm, .int sm, .int 0, .ref there, .ref mrow, .int 0, .ref found, .ref fsz, .ref ends, .ref made, .int 0, .int 0, .ref drops, .int 0])) := hf_mo'
    have hF8 : gw_fr (gw_out [100]) M M5 := gw_fr.tr gw_fr.rf (gw_fr.wk hfr7 (by decide))
    refine lv_if_eq (tgt := 33) hx hb d_Mo_make_28 (by decide) (fun c28 => ?_) (fun c28 => ?_)
    · exact absurd c28 (by decide)
    · refine lv_iconst (v := 0) hx hb d_Mo_make_31 (by decide) ?_
      exact gw_iret hx hb hr hlocks hS hW (Nat.le_of_ble_eq_true rfl) (Nat.le_of_ble_eq_true rfl) d_Mo_make_32 (⟨rfl, hf_mo, hF8⟩)
  · exact absurd c6 (by decide)

set_option maxHeartbeats 4000000 in
set_option maxRecDepth 100000 in
theorem m_end (l : Launch) (G : gw_G) (M : gw_M) (mo : Nat) (there : Nat) (mrow : Nat) (found : Nat) (fsz : Nat) (ends : Nat) (made : Nat) (drops : Nat) (cd : Int32) (lm : Int32) (sm : Int32) (k : Int32) (n : Int32) (f : Int32) (hf_mo : M mo = some (100, .inr (5, [.int cd, .int lm, .int sm, .int 0, .ref there, .ref mrow, .int 0, .ref found, .ref fsz, .ref ends, .ref made, .int 0, .int 0, .ref drops, .int 0]))) : Met l y_Mo_end [.code y_Mo_end b_Mo_end 6 (some .int)] ({ frames := 1, cells := 0, slots := 0, locals := 21 }) (gw_Pc G M [.ref mo, .int k, .int n, .int f]) (gw_Qi G (fun r M2 => 0 = r ∧ M2 mo = some (100, .inr (5, [.int 1, .int lm, .int sm, .int 0, .ref there, .ref mrow, .int 0, .ref found, .ref fsz, .ref ends, .ref made, .int 0, .int 0, .ref drops, .int 0])) ∧ gw_fr (gw_out [100]) M M2)) 0 0 (gw_A G) := by
  refine gw_start (by decide) (Nat.le_of_ble_eq_true rfl) (fun p9 e9 s m b9 mt9 c9 hx hb hr hml hown hlocks hin hE hB hW ls hl => ?_)
  have hts := hE.ts ([.ref mo, .int k, .int n, .int f] : List Value).toArray
  have hl : lv_has ls 6 [(0, .ref mo), (1, .int k), (2, .int n), (3, .int f)] := hl
  have hS : va_S (gw_A G) s.heap s.heap [] := va_S.rf
  have hown : s.vm.findClass "GenerationsModel" = some m.cls := hown
  refine lv_aload_n hx hb d_Mo_end_0 rfl (lv_at hl 0 rfl) ?_
  refine lv_aload_n hx hb d_Mo_end_1 rfl (lv_at hl 0 rfl) ?_
  refine lv_iload_n hx hb d_Mo_end_2 rfl (lv_at hl 1 rfl) ?_
  refine gw_calli hS (va_runV (As := [.int k]) (rest := [.ref mo]) ⟨hx, hb, hml, hown, hts⟩ (m_isJob l G M mo there mrow found fsz ends made drops cd lm sm k hf_mo ) (cwV 1 hts (gw_gv mw196 mw197 mw198 mw169 mw195) rfl rfl rfl (by decide +kernel) ⟨Nat.le_of_ble_eq_true rfl, Nat.le_of_ble_eq_true rfl⟩) (gw_pv hE hB hS hW rfl hf_mo) rfl rfl hl.1 rfl (lv_room (Nat.le_of_ble_eq_true rfl)) d_Mo_end_3 ⟨Nat.le_of_ble_eq_true rfl, Nat.le_of_ble_eq_true rfl⟩) (fun r1 M2 H locs hw3 hW hS => ?_)
  obtain ⟨rfl, rfl⟩ := hw3
  refine lv_if_ne (tgt := 13) hx hb d_Mo_end_6 (by decide) (fun c6 => ?_) (fun c6 => ?_)
  · exact absurd c6 (by decide)
  · refine lv_iconst (v := 1) hx hb d_Mo_end_9 (by decide) ?_
    refine lv_goto (tgt := 14) hx hb d_Mo_end_10 (by decide) ?_
    refine gw_calli hS (va_runV (As := [.int 1]) (rest := []) ⟨hx, hb, hml, hown, hts⟩ (m_fails l G M mo there mrow found fsz ends made drops cd lm sm hf_mo ) (cwV 1 hts (gw_gv mw200 mw201 mw202 mw169 mw199) rfl rfl rfl (by decide +kernel) ⟨Nat.le_of_ble_eq_true rfl, Nat.le_of_ble_eq_true rfl⟩) (gw_pv hE hB hS hW rfl hf_mo) rfl rfl hl.1 rfl (lv_room (Nat.le_of_ble_eq_true rfl)) d_Mo_end_14 ⟨Nat.le_of_ble_eq_true rfl, Nat.le_of_ble_eq_true rfl⟩) (fun r4 M5 H locs hw6 hW hS => ?_)
    obtain ⟨rfl, hf_mo', hfr7⟩ := hw6
    have hf_mo : M5 mo = some (100, .inr (5, [.int 1, .int lm, .int sm, .int 0, .ref there, .ref mrow, .int 0, .ref found, .ref fsz, .ref ends, .ref made, .int 0, .int 0, .ref drops, .int 0])) := hf_mo'
    have hF8 : gw_fr (gw_out [100]) M M5 := gw_fr.tr gw_fr.rf (gw_fr.wk hfr7 (by decide))
    refine lv_if_eq (tgt := 22) hx hb d_Mo_end_17 (by decide) (fun c17 => ?_) (fun c17 => ?_)
    · exact absurd c17 (by decide)
    · refine lv_iconst (v := 0) hx hb d_Mo_end_20 (by decide) ?_
      exact gw_iret hx hb hr hlocks hS hW (Nat.le_of_ble_eq_true rfl) (Nat.le_of_ble_eq_true rfl) d_Mo_end_21 (⟨rfl, hf_mo, hF8⟩)

set_option maxHeartbeats 4000000 in
set_option maxRecDepth 100000 in
theorem m_restart (l : Launch) (G : gw_G) (M : gw_M) (mo : Nat) (there : Nat) (mrow : Nat) (found : Nat) (fsz : Nat) (ends : Nat) (made : Nat) (drops : Nat) (cd : Int32) (lm : Int32) (sm : Int32) (k : Int32) (n : Int32) (hf_mo : M mo = some (100, .inr (5, [.int cd, .int lm, .int sm, .int 0, .ref there, .ref mrow, .int 0, .ref found, .ref fsz, .ref ends, .ref made, .int 0, .int 0, .ref drops, .int 0]))) : Met l y_Mo_restart [.code y_Mo_restart b_Mo_restart 6 (some .int)] ({ frames := 1, cells := 0, slots := 0, locals := 21 }) (gw_Pc G M [.ref mo, .int k, .int n]) (gw_Qi G (fun r M2 => 0 = r ∧ M2 mo = some (100, .inr (5, [.int 1, .int lm, .int sm, .int 0, .ref there, .ref mrow, .int 0, .ref found, .ref fsz, .ref ends, .ref made, .int 0, .int 0, .ref drops, .int 0])) ∧ gw_fr (gw_out [100]) M M2)) 0 0 (gw_A G) := by
  refine gw_start (by decide) (Nat.le_of_ble_eq_true rfl) (fun p9 e9 s m b9 mt9 c9 hx hb hr hml hown hlocks hin hE hB hW ls hl => ?_)
  have hts := hE.ts ([.ref mo, .int k, .int n] : List Value).toArray
  have hl : lv_has ls 6 [(0, .ref mo), (1, .int k), (2, .int n)] := hl
  have hS : va_S (gw_A G) s.heap s.heap [] := va_S.rf
  have hown : s.vm.findClass "GenerationsModel" = some m.cls := hown
  refine lv_aload_n hx hb d_Mo_restart_0 rfl (lv_at hl 0 rfl) ?_
  refine lv_aload_n hx hb d_Mo_restart_1 rfl (lv_at hl 0 rfl) ?_
  refine lv_iload_n hx hb d_Mo_restart_2 rfl (lv_at hl 1 rfl) ?_
  refine gw_calli hS (va_runV (As := [.int k]) (rest := [.ref mo]) ⟨hx, hb, hml, hown, hts⟩ (m_isJob l G M mo there mrow found fsz ends made drops cd lm sm k hf_mo ) (cwV 1 hts (gw_gv mw196 mw197 mw198 mw169 mw195) rfl rfl rfl (by decide +kernel) ⟨Nat.le_of_ble_eq_true rfl, Nat.le_of_ble_eq_true rfl⟩) (gw_pv hE hB hS hW rfl hf_mo) rfl rfl hl.1 rfl (lv_room (Nat.le_of_ble_eq_true rfl)) d_Mo_restart_3 ⟨Nat.le_of_ble_eq_true rfl, Nat.le_of_ble_eq_true rfl⟩) (fun r1 M2 H locs hw3 hW hS => ?_)
  obtain ⟨rfl, rfl⟩ := hw3
  refine lv_if_ne (tgt := 13) hx hb d_Mo_restart_6 (by decide) (fun c6 => ?_) (fun c6 => ?_)
  · exact absurd c6 (by decide)
  · refine lv_iconst (v := 1) hx hb d_Mo_restart_9 (by decide) ?_
    refine lv_goto (tgt := 14) hx hb d_Mo_restart_10 (by decide) ?_
    refine gw_calli hS (va_runV (As := [.int 1]) (rest := []) ⟨hx, hb, hml, hown, hts⟩ (m_fails l G M mo there mrow found fsz ends made drops cd lm sm hf_mo ) (cwV 1 hts (gw_gv mw200 mw201 mw202 mw169 mw199) rfl rfl rfl (by decide +kernel) ⟨Nat.le_of_ble_eq_true rfl, Nat.le_of_ble_eq_true rfl⟩) (gw_pv hE hB hS hW rfl hf_mo) rfl rfl hl.1 rfl (lv_room (Nat.le_of_ble_eq_true rfl)) d_Mo_restart_14 ⟨Nat.le_of_ble_eq_true rfl, Nat.le_of_ble_eq_true rfl⟩) (fun r4 M5 H locs hw6 hW hS => ?_)
    obtain ⟨rfl, hf_mo', hfr7⟩ := hw6
    have hf_mo : M5 mo = some (100, .inr (5, [.int 1, .int lm, .int sm, .int 0, .ref there, .ref mrow, .int 0, .ref found, .ref fsz, .ref ends, .ref made, .int 0, .int 0, .ref drops, .int 0])) := hf_mo'
    have hF8 : gw_fr (gw_out [100]) M M5 := gw_fr.tr gw_fr.rf (gw_fr.wk hfr7 (by decide))
    refine lv_if_eq (tgt := 22) hx hb d_Mo_restart_17 (by decide) (fun c17 => ?_) (fun c17 => ?_)
    · exact absurd c17 (by decide)
    · refine lv_iconst (v := 0) hx hb d_Mo_restart_20 (by decide) ?_
      exact gw_iret hx hb hr hlocks hS hW (Nat.le_of_ble_eq_true rfl) (Nat.le_of_ble_eq_true rfl) d_Mo_restart_21 (⟨rfl, hf_mo, hF8⟩)

set_option maxHeartbeats 4000000 in
set_option maxRecDepth 100000 in
theorem m_dropped (l : Launch) (G : gw_G) (M : gw_M) (mo : Nat) (there : Nat) (mrow : Nat) (found : Nat) (fsz : Nat) (ends : Nat) (made : Nat) (drops : Nat) (cd : Int32) (lm : Int32) (sm : Int32) (k : Int32) (hf_mo : M mo = some (100, .inr (5, [.int cd, .int lm, .int sm, .int 0, .ref there, .ref mrow, .int 0, .ref found, .ref fsz, .ref ends, .ref made, .int 0, .int 0, .ref drops, .int 0]))) : Met l y_Mo_dropped [.code y_Mo_dropped b_Mo_dropped 2 (some .int)] ({ frames := 0, cells := 0, slots := 0, locals := 0 }) (gw_Pc G M [.ref mo, .int k]) (gw_Qi G (fun r M2 => (-1) = r ∧ gw_fr (gw_out [100]) M M2)) 0 0 (gw_A G) := by
  refine gw_start (by decide) (Nat.le_of_ble_eq_true rfl) (fun p9 e9 s m b9 mt9 c9 hx hb hr hml hown hlocks hin hE hB hW ls hl => ?_)
  have hts := hE.ts ([.ref mo, .int k] : List Value).toArray
  have hl : lv_has ls 2 [(0, .ref mo), (1, .int k)] := hl
  have hS : va_S (gw_A G) s.heap s.heap [] := va_S.rf
  have hown : s.vm.findClass "GenerationsModel" = some m.cls := hown
  refine lv_aload_n hx hb d_Mo_dropped_0 rfl (lv_at hl 0 rfl) ?_
  refine lv_iconst (v := 0) hx hb d_Mo_dropped_1 (by decide) ?_
  refine gw_put (ci := 5) (fs := [.int cd, .int lm, .int sm, .int 0, .ref there, .ref mrow, .int 0, .ref found, .ref fsz, .ref ends, .ref made, .int 0, .int 0, .ref drops, .int 0]) (v := .int 0) (ty := .int) hx hb hts in_Mo t_Mo t_Mo_ok n_Mo hown hE.K hW hS hf_mo rfl 0 (by decide) (hts _ mw164) (fun _ h9 => h9) rfl (by decide +kernel) rfl rfl (Nat.le_of_ble_eq_true rfl) d_Mo_dropped_2 (fun H locs hW hS => ?_)
  have hF1 : gw_fr (gw_out [100]) M (gw_up M mo 100 (.inr (5, [.int 0, .int lm, .int sm, .int 0, .ref there, .ref mrow, .int 0, .ref found, .ref fsz, .ref ends, .ref made, .int 0, .int 0, .ref drops, .int 0]))) := gw_fr.up gw_fr.rf hf_mo (show ¬ ((gw_out [100]) 100) by decide) (show ¬ ((gw_out [100]) 100) by decide)
  obtain ⟨M2, eM2⟩ : ∃ z, z = gw_up M mo 100 (.inr (5, [.int 0, .int lm, .int sm, .int 0, .ref there, .ref mrow, .int 0, .ref found, .ref fsz, .ref ends, .ref made, .int 0, .int 0, .ref drops, .int 0])) := ⟨_, rfl⟩
  replace hW : gw_P G.1 vwCl G.2.2.2 M2 H := by rw [eM2]; exact hW
  have hf_mo : M2 mo = some (100, .inr (5, [.int 0, .int lm, .int sm, .int 0, .ref there, .ref mrow, .int 0, .ref found, .ref fsz, .ref ends, .ref made, .int 0, .int 0, .ref drops, .int 0])) := by rw [eM2]; exact gw_up_self _ _ _ _
  rw [← eM2] at hF1
  refine lv_iload_n hx hb d_Mo_dropped_5 rfl (lv_at hl 1 rfl) ?_
  refine lv_if_lt (tgt := 26) hx hb d_Mo_dropped_6 (by decide) (fun c6 => ?_) (fun c6 => ?_)
  · refine lv_iconst (v := -1) hx hb d_Mo_dropped_26 (by decide) ?_
    exact gw_iret hx hb hr hlocks hS hW (Nat.le_of_ble_eq_true rfl) (Nat.le_of_ble_eq_true rfl) d_Mo_dropped_27 (⟨rfl, hF1⟩)
  · refine lv_iload_n hx hb d_Mo_dropped_9 rfl (lv_at hl 1 rfl) ?_
    refine lv_aload_n hx hb d_Mo_dropped_10 rfl (lv_at hl 0 rfl) ?_
    refine gw_get (ci := 5) (fs := [.int 0, .int lm, .int sm, .int 0, .ref there, .ref mrow, .int 0, .ref found, .ref fsz, .ref ends, .ref made, .int 0, .int 0, .ref drops, .int 0]) hx hb hts in_Mo hown hE.K hW hf_mo rfl 14 (by decide) (hts _ mw203) (fun _ h9 => h9) rfl d_Mo_dropped_11 ?_
    refine lv_icmp_ge (tgt := 26) hx hb d_Mo_dropped_14 (by decide) (fun c14 => ?_) (fun c14 => ?_)
    · refine lv_iconst (v := -1) hx hb d_Mo_dropped_26 (by decide) ?_
      exact gw_iret hx hb hr hlocks hS hW (Nat.le_of_ble_eq_true rfl) (Nat.le_of_ble_eq_true rfl) d_Mo_dropped_27 (⟨rfl, hF1⟩)
    · exact absurd (gx_nn c6) c14

set_option maxHeartbeats 4000000 in
set_option maxRecDepth 100000 in
theorem m_list (l : Launch) (G : gw_G) (M : gw_M) (mo : Nat) (there : Nat) (mrow : Nat) (found : Nat) (fsz : Nat) (ends : Nat) (made : Nat) (drops : Nat) (cd : Int32) (lm : Int32) (sm : Int32) (k : Int32) (hf_mo : M mo = some (100, .inr (5, [.int cd, .int lm, .int sm, .int 0, .ref there, .ref mrow, .int 0, .ref found, .ref fsz, .ref ends, .ref made, .int 0, .int 0, .ref drops, .int 0]))) : Met l y_Mo_list [.code y_Mo_list b_Mo_list 2 (some .int)] ({ frames := 0, cells := 0, slots := 0, locals := 0 }) (gw_Pc G M [.ref mo, .int k]) (gw_Qi G (fun r M2 => (-1) = r ∧ gw_fr (gw_out [100]) M M2)) 0 0 (gw_A G) := by
  refine gw_start (by decide) (Nat.le_of_ble_eq_true rfl) (fun p9 e9 s m b9 mt9 c9 hx hb hr hml hown hlocks hin hE hB hW ls hl => ?_)
  have hts := hE.ts ([.ref mo, .int k] : List Value).toArray
  have hl : lv_has ls 2 [(0, .ref mo), (1, .int k)] := hl
  have hS : va_S (gw_A G) s.heap s.heap [] := va_S.rf
  have hown : s.vm.findClass "GenerationsModel" = some m.cls := hown
  refine lv_aload_n hx hb d_Mo_list_0 rfl (lv_at hl 0 rfl) ?_
  refine lv_iconst (v := 0) hx hb d_Mo_list_1 (by decide) ?_
  refine gw_put (ci := 5) (fs := [.int cd, .int lm, .int sm, .int 0, .ref there, .ref mrow, .int 0, .ref found, .ref fsz, .ref ends, .ref made, .int 0, .int 0, .ref drops, .int 0]) (v := .int 0) (ty := .int) hx hb hts in_Mo t_Mo t_Mo_ok n_Mo hown hE.K hW hS hf_mo rfl 0 (by decide) (hts _ mw164) (fun _ h9 => h9) rfl (by decide +kernel) rfl rfl (Nat.le_of_ble_eq_true rfl) d_Mo_list_2 (fun H locs hW hS => ?_)
  have hF1 : gw_fr (gw_out [100]) M (gw_up M mo 100 (.inr (5, [.int 0, .int lm, .int sm, .int 0, .ref there, .ref mrow, .int 0, .ref found, .ref fsz, .ref ends, .ref made, .int 0, .int 0, .ref drops, .int 0]))) := gw_fr.up gw_fr.rf hf_mo (show ¬ ((gw_out [100]) 100) by decide) (show ¬ ((gw_out [100]) 100) by decide)
  obtain ⟨M2, eM2⟩ : ∃ z, z = gw_up M mo 100 (.inr (5, [.int 0, .int lm, .int sm, .int 0, .ref there, .ref mrow, .int 0, .ref found, .ref fsz, .ref ends, .ref made, .int 0, .int 0, .ref drops, .int 0])) := ⟨_, rfl⟩
  replace hW : gw_P G.1 vwCl G.2.2.2 M2 H := by rw [eM2]; exact hW
  have hf_mo : M2 mo = some (100, .inr (5, [.int 0, .int lm, .int sm, .int 0, .ref there, .ref mrow, .int 0, .ref found, .ref fsz, .ref ends, .ref made, .int 0, .int 0, .ref drops, .int 0])) := by rw [eM2]; exact gw_up_self _ _ _ _
  rw [← eM2] at hF1
  refine lv_iload_n hx hb d_Mo_list_5 rfl (lv_at hl 1 rfl) ?_
  refine lv_if_lt (tgt := 26) hx hb d_Mo_list_6 (by decide) (fun c6 => ?_) (fun c6 => ?_)
  · refine lv_iconst (v := -1) hx hb d_Mo_list_26 (by decide) ?_
    exact gw_iret hx hb hr hlocks hS hW (Nat.le_of_ble_eq_true rfl) (Nat.le_of_ble_eq_true rfl) d_Mo_list_27 (⟨rfl, hF1⟩)
  · refine lv_iload_n hx hb d_Mo_list_9 rfl (lv_at hl 1 rfl) ?_
    refine lv_aload_n hx hb d_Mo_list_10 rfl (lv_at hl 0 rfl) ?_
    refine gw_get (ci := 5) (fs := [.int 0, .int lm, .int sm, .int 0, .ref there, .ref mrow, .int 0, .ref found, .ref fsz, .ref ends, .ref made, .int 0, .int 0, .ref drops, .int 0]) hx hb hts in_Mo hown hE.K hW hf_mo rfl 6 (by decide) (hts _ mw178) (fun _ h9 => h9) rfl d_Mo_list_11 ?_
    refine lv_icmp_ge (tgt := 26) hx hb d_Mo_list_14 (by decide) (fun c14 => ?_) (fun c14 => ?_)
    · refine lv_iconst (v := -1) hx hb d_Mo_list_26 (by decide) ?_
      exact gw_iret hx hb hr hlocks hS hW (Nat.le_of_ble_eq_true rfl) (Nat.le_of_ble_eq_true rfl) d_Mo_list_27 (⟨rfl, hF1⟩)
    · exact absurd (gx_nn c6) c14

set_option maxHeartbeats 4000000 in
set_option maxRecDepth 100000 in
theorem m_reclaim (l : Launch) (G : gw_G) (M : gw_M) (mo : Nat) (there : Nat) (mrow : Nat) (found : Nat) (fsz : Nat) (ends : Nat) (made : Nat) (drops : Nat) (cd : Int32) (lm : Int32) (sm : Int32) (k : Int32) (hf_mo : M mo = some (100, .inr (5, [.int cd, .int lm, .int sm, .int 0, .ref there, .ref mrow, .int 0, .ref found, .ref fsz, .ref ends, .ref made, .int 0, .int 0, .ref drops, .int 0]))) (hf_there : M there = some (101, .inl (G.2.1 0, 10000, .inl (fun _ => 0)))) : Met l y_Mo_reclaim [.code y_Mo_reclaim b_Mo_reclaim 2 (some .int)] ({ frames := 1, cells := 0, slots := 0, locals := 21 }) (gw_Pc G M [.ref mo, .int k]) (gw_Qi G (fun r M2 => 0 = r ∧ gw_fr (gw_out [100]) M M2)) 0 0 (gw_A G) := by
  refine gw_start (by decide) (Nat.le_of_ble_eq_true rfl) (fun p9 e9 s m b9 mt9 c9 hx hb hr hml hown hlocks hin hE hB hW ls hl => ?_)
  have hts := hE.ts ([.ref mo, .int k] : List Value).toArray
  have hl : lv_has ls 2 [(0, .ref mo), (1, .int k)] := hl
  have hS : va_S (gw_A G) s.heap s.heap [] := va_S.rf
  have hown : s.vm.findClass "GenerationsModel" = some m.cls := hown
  refine lv_aload_n hx hb d_Mo_reclaim_0 rfl (lv_at hl 0 rfl) ?_
  refine lv_iconst (v := 0) hx hb d_Mo_reclaim_1 (by decide) ?_
  refine gw_put (ci := 5) (fs := [.int cd, .int lm, .int sm, .int 0, .ref there, .ref mrow, .int 0, .ref found, .ref fsz, .ref ends, .ref made, .int 0, .int 0, .ref drops, .int 0]) (v := .int 0) (ty := .int) hx hb hts in_Mo t_Mo t_Mo_ok n_Mo hown hE.K hW hS hf_mo rfl 0 (by decide) (hts _ mw164) (fun _ h9 => h9) rfl (by decide +kernel) rfl rfl (Nat.le_of_ble_eq_true rfl) d_Mo_reclaim_2 (fun H locs hW hS => ?_)
  have hF1 : gw_fr (gw_out [100]) M (gw_up M mo 100 (.inr (5, [.int 0, .int lm, .int sm, .int 0, .ref there, .ref mrow, .int 0, .ref found, .ref fsz, .ref ends, .ref made, .int 0, .int 0, .ref drops, .int 0]))) := gw_fr.up gw_fr.rf hf_mo (show ¬ ((gw_out [100]) 100) by decide) (show ¬ ((gw_out [100]) 100) by decide)
  obtain ⟨M2, eM2⟩ : ∃ z, z = gw_up M mo 100 (.inr (5, [.int 0, .int lm, .int sm, .int 0, .ref there, .ref mrow, .int 0, .ref found, .ref fsz, .ref ends, .ref made, .int 0, .int 0, .ref drops, .int 0])) := ⟨_, rfl⟩
  replace hW : gw_P G.1 vwCl G.2.2.2 M2 H := by rw [eM2]; exact hW
  have hf_there : M2 there = some (101, .inl (G.2.1 0, 10000, .inl (fun _ => 0))) := by rw [eM2]; exact gw_keep hf_there hf_mo (by decide)
  have hf_mo : M2 mo = some (100, .inr (5, [.int 0, .int lm, .int sm, .int 0, .ref there, .ref mrow, .int 0, .ref found, .ref fsz, .ref ends, .ref made, .int 0, .int 0, .ref drops, .int 0])) := by rw [eM2]; exact gw_up_self _ _ _ _
  rw [← eM2] at hF1
  refine lv_iload_n hx hb d_Mo_reclaim_5 rfl (lv_at hl 1 rfl) ?_
  refine gw_calli hS (va_runS (As := [.int k]) (rest := []) ⟨hx, hb, hml, hown, hts⟩ (m_isNumber l G M2 k  ) (cwS 1 hts (gw_gs mw184 mw185 mw169 mw183) rfl rfl rfl (by decide +kernel) ⟨Nat.le_of_ble_eq_true rfl, Nat.le_of_ble_eq_true rfl⟩) (gw_ps hE hB hS hW) rfl rfl hl.1 rfl (lv_room (Nat.le_of_ble_eq_true rfl)) d_Mo_reclaim_6 ⟨Nat.le_of_ble_eq_true rfl, Nat.le_of_ble_eq_true rfl⟩) (fun r3 M4 H locs hw5 hW hS => ?_)
  obtain ⟨rfl, rfl⟩ := hw5
  refine lv_if_eq (tgt := 21) hx hb d_Mo_reclaim_9 (by decide) (fun c9 => ?_) (fun c9 => ?_)
  · refine lv_iconst (v := 0) hx hb d_Mo_reclaim_21 (by decide) ?_
    exact gw_iret hx hb hr hlocks hS hW (Nat.le_of_ble_eq_true rfl) (Nat.le_of_ble_eq_true rfl) d_Mo_reclaim_22 (⟨rfl, hF1⟩)
  · refine lv_aload_n hx hb d_Mo_reclaim_12 rfl (lv_at hl 0 rfl) ?_
    refine lv_iload_n hx hb d_Mo_reclaim_13 rfl (lv_at hl 1 rfl) ?_
    refine gw_calli hS (va_runV (As := [.int k]) (rest := []) ⟨hx, hb, hml, hown, hts⟩ (m_what l G M2 mo there mrow found fsz ends made drops 0 lm sm k hf_mo hf_there (gx_in c9)) (cwV 1 hts (gw_gv mw187 mw188 mw189 mw169 mw186) rfl rfl rfl (by decide +kernel) ⟨Nat.le_of_ble_eq_true rfl, Nat.le_of_ble_eq_true rfl⟩) (gw_pv hE hB hS hW rfl hf_mo) rfl rfl hl.1 rfl (lv_room (Nat.le_of_ble_eq_true rfl)) d_Mo_reclaim_14 ⟨Nat.le_of_ble_eq_true rfl, Nat.le_of_ble_eq_true rfl⟩) (fun r6 M7 H locs hw8 hW hS => ?_)
    obtain ⟨rfl, rfl⟩ := hw8
    refine lv_iconst (v := 3) hx hb d_Mo_reclaim_17 (by decide) ?_
    refine lv_icmp_ge (tgt := 23) hx hb d_Mo_reclaim_18 (by decide) (fun c18 => ?_) (fun c18 => ?_)
    · exact absurd c18 (by decide)
    · refine lv_iconst (v := 0) hx hb d_Mo_reclaim_21 (by decide) ?_
      exact gw_iret hx hb hr hlocks hS hW (Nat.le_of_ble_eq_true rfl) (Nat.le_of_ble_eq_true rfl) d_Mo_reclaim_22 (⟨rfl, hF1⟩)

set_option maxHeartbeats 4000000 in
set_option maxRecDepth 100000 in
theorem m_empty (l : Launch) (G : gw_G) (M : gw_M) (mo : Nat) (there : Nat) (mrow : Nat) (found : Nat) (fsz : Nat) (ends : Nat) (made : Nat) (drops : Nat) (cd : Int32) (lm : Int32) (sm : Int32) (on : Int32) (hf_mo : M mo = some (100, .inr (5, [.int cd, .int lm, .int sm, .int 0, .ref there, .ref mrow, .int 0, .ref found, .ref fsz, .ref ends, .ref made, .int 0, .int 0, .ref drops, .int 0]))) (hn_z : narrow .boolean (.int on) = .int on) (hf_z : fits .boolean (.int on) = true) : Met l y_Mo_empty [.code y_Mo_empty b_Mo_empty 3 (some .int)] ({ frames := 0, cells := 0, slots := 0, locals := 0 }) (gw_Pc G M [.ref mo, .int on]) (gw_Qi G (fun r M2 => 0 = r ∧ gw_fr (gw_out [100]) M M2)) 0 0 (gw_A G) := by
  refine gw_start (by decide) (Nat.le_of_ble_eq_true rfl) (fun p9 e9 s m b9 mt9 c9 hx hb hr hml hown hlocks hin hE hB hW ls hl => ?_)
  have hts := hE.ts ([.ref mo, .int on] : List Value).toArray
  have hl : lv_has ls 3 [(0, .ref mo), (1, .int on)] := hl
  have hS : va_S (gw_A G) s.heap s.heap [] := va_S.rf
  have hown : s.vm.findClass "GenerationsModel" = some m.cls := hown
  refine lv_aload_n hx hb d_Mo_empty_0 rfl (lv_at hl 0 rfl) ?_
  refine lv_iconst (v := 0) hx hb d_Mo_empty_1 (by decide) ?_
  refine gw_put (ci := 5) (fs := [.int cd, .int lm, .int sm, .int 0, .ref there, .ref mrow, .int 0, .ref found, .ref fsz, .ref ends, .ref made, .int 0, .int 0, .ref drops, .int 0]) (v := .int 0) (ty := .int) hx hb hts in_Mo t_Mo t_Mo_ok n_Mo hown hE.K hW hS hf_mo rfl 0 (by decide) (hts _ mw164) (fun _ h9 => h9) rfl (by decide +kernel) rfl rfl (Nat.le_of_ble_eq_true rfl) d_Mo_empty_2 (fun H locs hW hS => ?_)
  have hF1 : gw_fr (gw_out [100]) M (gw_up M mo 100 (.inr (5, [.int 0, .int lm, .int sm, .int 0, .ref there, .ref mrow, .int 0, .ref found, .ref fsz, .ref ends, .ref made, .int 0, .int 0, .ref drops, .int 0]))) := gw_fr.up gw_fr.rf hf_mo (show ¬ ((gw_out [100]) 100) by decide) (show ¬ ((gw_out [100]) 100) by decide)
  obtain ⟨M2, eM2⟩ : ∃ z, z = gw_up M mo 100 (.inr (5, [.int 0, .int lm, .int sm, .int 0, .ref there, .ref mrow, .int 0, .ref found, .ref fsz, .ref ends, .ref made, .int 0, .int 0, .ref drops, .int 0])) := ⟨_, rfl⟩
  replace hW : gw_P G.1 vwCl G.2.2.2 M2 H := by rw [eM2]; exact hW
  have hf_mo : M2 mo = some (100, .inr (5, [.int 0, .int lm, .int sm, .int 0, .ref there, .ref mrow, .int 0, .ref found, .ref fsz, .ref ends, .ref made, .int 0, .int 0, .ref drops, .int 0])) := by rw [eM2]; exact gw_up_self _ _ _ _
  rw [← eM2] at hF1
  refine lv_aload_n hx hb d_Mo_empty_5 rfl (lv_at hl 0 rfl) ?_
  refine gw_get (ci := 5) (fs := [.int 0, .int lm, .int sm, .int 0, .ref there, .ref mrow, .int 0, .ref found, .ref fsz, .ref ends, .ref made, .int 0, .int 0, .ref drops, .int 0]) hx hb hts in_Mo hown hE.K hW hf_mo rfl 3 (by decide) (hts _ mw204) (fun _ h9 => h9) rfl d_Mo_empty_6 ?_
  refine lv_if_eq (tgt := 16) hx hb d_Mo_empty_9 (by decide) (fun c9 => ?_) (fun c9 => ?_)
  · refine lv_iconst (v := 0) hx hb d_Mo_empty_16 (by decide) ?_
    refine lv_istore_n (lv' := [(2, .int 0), (0, .ref mo), (1, .int on)]) hx hb d_Mo_empty_17 rfl hl (by decide) rfl (fun ls hl => ?_)
    refine lv_aload_n hx hb d_Mo_empty_18 rfl (lv_at hl 1 rfl) ?_
    refine lv_iload_n hx hb d_Mo_empty_19 rfl (lv_at hl 2 rfl) ?_
    refine gw_put (ci := 5) (fs := [.int 0, .int lm, .int sm, .int 0, .ref there, .ref mrow, .int 0, .ref found, .ref fsz, .ref ends, .ref made, .int 0, .int 0, .ref drops, .int 0]) (v := .int on) (ty := .boolean) hx hb hts in_Mo t_Mo t_Mo_ok n_Mo hown hE.K hW hS hf_mo rfl 3 (by decide) (hts _ mw204) (fun _ h9 => h9) rfl (by decide +kernel) hn_z hf_z (Nat.le_of_ble_eq_true rfl) d_Mo_empty_20 (fun H locs hW hS => ?_)
    have hF3 : gw_fr (gw_out [100]) M (gw_up M2 mo 100 (.inr (5, [.int 0, .int lm, .int sm, .int on, .ref there, .ref mrow, .int 0, .ref found, .ref fsz, .ref ends, .ref made, .int 0, .int 0, .ref drops, .int 0]))) := gw_fr.up hF1 hf_mo (show ¬ ((gw_out [100]) 100) by decide) (show ¬ ((gw_out [100]) 100) by decide)
    obtain ⟨M4, eM4⟩ : ∃ z, z = gw_up M2 mo 100 (.inr (5, [.int 0, .int lm, .int sm, .int on, .ref there, .ref mrow, .int 0, .ref found, .ref fsz, .ref ends, .ref made, .int 0, .int 0, .ref drops, .int 0])) := ⟨_, rfl⟩
    replace hW : gw_P G.1 vwCl G.2.2.2 M4 H := by rw [eM4]; exact hW
    have hf_mo : M4 mo = some (100, .inr (5, [.int 0, .int lm, .int sm, .int on, .ref there, .ref mrow, .int 0, .ref found, .ref fsz, .ref ends, .ref made, .int 0, .int 0, .ref drops, .int 0])) := by rw [eM4]; exact gw_up_self _ _ _ _
    rw [← eM4] at hF3
    refine lv_iload_n hx hb d_Mo_empty_23 rfl (lv_at hl 0 rfl) ?_
    exact gw_iret hx hb hr hlocks hS hW (Nat.le_of_ble_eq_true rfl) (Nat.le_of_ble_eq_true rfl) d_Mo_empty_24 (⟨rfl, hF3⟩)
  · exact absurd c9 (by decide)

set_option maxHeartbeats 4000000 in
set_option maxRecDepth 100000 in
theorem m_version (l : Launch) (G : gw_G) (M : gw_M) (mo : Nat) (there : Nat) (mrow : Nat) (found : Nat) (fsz : Nat) (ends : Nat) (made : Nat) (drops : Nat) (cd : Int32) (lm : Int32) (sm : Int32) (k : Int32) (hf_mo : M mo = some (100, .inr (5, [.int cd, .int lm, .int sm, .int 0, .ref there, .ref mrow, .int 0, .ref found, .ref fsz, .ref ends, .ref made, .int 0, .int 0, .ref drops, .int 0]))) (hf_there : M there = some (101, .inl (G.2.1 0, 10000, .inl (fun _ => 0)))) : Met l y_Mo_version [.code y_Mo_version b_Mo_version 2 (some .int)] ({ frames := 1, cells := 0, slots := 0, locals := 21 }) (gw_Pc G M [.ref mo, .int k]) (gw_Qi G (fun r M2 => (-1) = r ∧ gw_fr (gw_out [100]) M M2)) 0 0 (gw_A G) := by
  refine gw_start (by decide) (Nat.le_of_ble_eq_true rfl) (fun p9 e9 s m b9 mt9 c9 hx hb hr hml hown hlocks hin hE hB hW ls hl => ?_)
  have hts := hE.ts ([.ref mo, .int k] : List Value).toArray
  have hl : lv_has ls 2 [(0, .ref mo), (1, .int k)] := hl
  have hS : va_S (gw_A G) s.heap s.heap [] := va_S.rf
  have hown : s.vm.findClass "GenerationsModel" = some m.cls := hown
  refine lv_aload_n hx hb d_Mo_version_0 rfl (lv_at hl 0 rfl) ?_
  refine lv_iconst (v := 0) hx hb d_Mo_version_1 (by decide) ?_
  refine gw_put (ci := 5) (fs := [.int cd, .int lm, .int sm, .int 0, .ref there, .ref mrow, .int 0, .ref found, .ref fsz, .ref ends, .ref made, .int 0, .int 0, .ref drops, .int 0]) (v := .int 0) (ty := .int) hx hb hts in_Mo t_Mo t_Mo_ok n_Mo hown hE.K hW hS hf_mo rfl 0 (by decide) (hts _ mw164) (fun _ h9 => h9) rfl (by decide +kernel) rfl rfl (Nat.le_of_ble_eq_true rfl) d_Mo_version_2 (fun H locs hW hS => ?_)
  have hF1 : gw_fr (gw_out [100]) M (gw_up M mo 100 (.inr (5, [.int 0, .int lm, .int sm, .int 0, .ref there, .ref mrow, .int 0, .ref found, .ref fsz, .ref ends, .ref made, .int 0, .int 0, .ref drops, .int 0]))) := gw_fr.up gw_fr.rf hf_mo (show ¬ ((gw_out [100]) 100) by decide) (show ¬ ((gw_out [100]) 100) by decide)
  obtain ⟨M2, eM2⟩ : ∃ z, z = gw_up M mo 100 (.inr (5, [.int 0, .int lm, .int sm, .int 0, .ref there, .ref mrow, .int 0, .ref found, .ref fsz, .ref ends, .ref made, .int 0, .int 0, .ref drops, .int 0])) := ⟨_, rfl⟩
  replace hW : gw_P G.1 vwCl G.2.2.2 M2 H := by rw [eM2]; exact hW
  have hf_there : M2 there = some (101, .inl (G.2.1 0, 10000, .inl (fun _ => 0))) := by rw [eM2]; exact gw_keep hf_there hf_mo (by decide)
  have hf_mo : M2 mo = some (100, .inr (5, [.int 0, .int lm, .int sm, .int 0, .ref there, .ref mrow, .int 0, .ref found, .ref fsz, .ref ends, .ref made, .int 0, .int 0, .ref drops, .int 0])) := by rw [eM2]; exact gw_up_self _ _ _ _
  rw [← eM2] at hF1
  refine lv_iload_n hx hb d_Mo_version_5 rfl (lv_at hl 1 rfl) ?_
  refine gw_calli hS (va_runS (As := [.int k]) (rest := []) ⟨hx, hb, hml, hown, hts⟩ (m_isNumber l G M2 k  ) (cwS 1 hts (gw_gs mw184 mw185 mw169 mw183) rfl rfl rfl (by decide +kernel) ⟨Nat.le_of_ble_eq_true rfl, Nat.le_of_ble_eq_true rfl⟩) (gw_ps hE hB hS hW) rfl rfl hl.1 rfl (lv_room (Nat.le_of_ble_eq_true rfl)) d_Mo_version_6 ⟨Nat.le_of_ble_eq_true rfl, Nat.le_of_ble_eq_true rfl⟩) (fun r3 M4 H locs hw5 hW hS => ?_)
  obtain ⟨rfl, rfl⟩ := hw5
  refine lv_if_eq (tgt := 28) hx hb d_Mo_version_9 (by decide) (fun c9 => ?_) (fun c9 => ?_)
  · refine lv_iconst (v := -1) hx hb d_Mo_version_28 (by decide) ?_
    exact gw_iret hx hb hr hlocks hS hW (Nat.le_of_ble_eq_true rfl) (Nat.le_of_ble_eq_true rfl) d_Mo_version_29 (⟨rfl, hF1⟩)
  · refine lv_aload_n hx hb d_Mo_version_12 rfl (lv_at hl 0 rfl) ?_
    refine lv_iload_n hx hb d_Mo_version_13 rfl (lv_at hl 1 rfl) ?_
    refine gw_calli hS (va_runV (As := [.int k]) (rest := []) ⟨hx, hb, hml, hown, hts⟩ (m_what l G M2 mo there mrow found fsz ends made drops 0 lm sm k hf_mo hf_there (gx_in c9)) (cwV 1 hts (gw_gv mw187 mw188 mw189 mw169 mw186) rfl rfl rfl (by decide +kernel) ⟨Nat.le_of_ble_eq_true rfl, Nat.le_of_ble_eq_true rfl⟩) (gw_pv hE hB hS hW rfl hf_mo) rfl rfl hl.1 rfl (lv_room (Nat.le_of_ble_eq_true rfl)) d_Mo_version_14 ⟨Nat.le_of_ble_eq_true rfl, Nat.le_of_ble_eq_true rfl⟩) (fun r6 M7 H locs hw8 hW hS => ?_)
    obtain ⟨rfl, rfl⟩ := hw8
    refine lv_if_eq (tgt := 28) hx hb d_Mo_version_17 (by decide) (fun c17 => ?_) (fun c17 => ?_)
    · refine lv_iconst (v := -1) hx hb d_Mo_version_28 (by decide) ?_
      exact gw_iret hx hb hr hlocks hS hW (Nat.le_of_ble_eq_true rfl) (Nat.le_of_ble_eq_true rfl) d_Mo_version_29 (⟨rfl, hF1⟩)
    · exact absurd c17 (by decide)

set_option maxHeartbeats 4000000 in
set_option maxRecDepth 100000 in
theorem m_state (l : Launch) (G : gw_G) (M : gw_M) (mo : Nat) (there : Nat) (mrow : Nat) (found : Nat) (fsz : Nat) (ends : Nat) (made : Nat) (drops : Nat) (cd : Int32) (lm : Int32) (sm : Int32) (k : Int32) (hf_mo : M mo = some (100, .inr (5, [.int cd, .int lm, .int sm, .int 0, .ref there, .ref mrow, .int 0, .ref found, .ref fsz, .ref ends, .ref made, .int 0, .int 0, .ref drops, .int 0]))) (hf_there : M there = some (101, .inl (G.2.1 0, 10000, .inl (fun _ => 0)))) : Met l y_Mo_state [.code y_Mo_state b_Mo_state 2 (some .int)] ({ frames := 1, cells := 0, slots := 0, locals := 21 }) (gw_Pc G M [.ref mo, .int k]) (gw_Qi G (fun r M2 => gx_st k = r ∧ gw_fr (gw_out [100]) M M2)) 0 0 (gw_A G) := by
  refine gw_start (by decide) (Nat.le_of_ble_eq_true rfl) (fun p9 e9 s m b9 mt9 c9 hx hb hr hml hown hlocks hin hE hB hW ls hl => ?_)
  have hts := hE.ts ([.ref mo, .int k] : List Value).toArray
  have hl : lv_has ls 2 [(0, .ref mo), (1, .int k)] := hl
  have hS : va_S (gw_A G) s.heap s.heap [] := va_S.rf
  have hown : s.vm.findClass "GenerationsModel" = some m.cls := hown
  refine lv_aload_n hx hb d_Mo_state_0 rfl (lv_at hl 0 rfl) ?_
  refine lv_iconst (v := 0) hx hb d_Mo_state_1 (by decide) ?_
  refine gw_put (ci := 5) (fs := [.int cd, .int lm, .int sm, .int 0, .ref there, .ref mrow, .int 0, .ref found, .ref fsz, .ref ends, .ref made, .int 0, .int 0, .ref drops, .int 0]) (v := .int 0) (ty := .int) hx hb hts in_Mo t_Mo t_Mo_ok n_Mo hown hE.K hW hS hf_mo rfl 0 (by decide) (hts _ mw164) (fun _ h9 => h9) rfl (by decide +kernel) rfl rfl (Nat.le_of_ble_eq_true rfl) d_Mo_state_2 (fun H locs hW hS => ?_)
  have hF1 : gw_fr (gw_out [100]) M (gw_up M mo 100 (.inr (5, [.int 0, .int lm, .int sm, .int 0, .ref there, .ref mrow, .int 0, .ref found, .ref fsz, .ref ends, .ref made, .int 0, .int 0, .ref drops, .int 0]))) := gw_fr.up gw_fr.rf hf_mo (show ¬ ((gw_out [100]) 100) by decide) (show ¬ ((gw_out [100]) 100) by decide)
  obtain ⟨M2, eM2⟩ : ∃ z, z = gw_up M mo 100 (.inr (5, [.int 0, .int lm, .int sm, .int 0, .ref there, .ref mrow, .int 0, .ref found, .ref fsz, .ref ends, .ref made, .int 0, .int 0, .ref drops, .int 0])) := ⟨_, rfl⟩
  replace hW : gw_P G.1 vwCl G.2.2.2 M2 H := by rw [eM2]; exact hW
  have hf_there : M2 there = some (101, .inl (G.2.1 0, 10000, .inl (fun _ => 0))) := by rw [eM2]; exact gw_keep hf_there hf_mo (by decide)
  have hf_mo : M2 mo = some (100, .inr (5, [.int 0, .int lm, .int sm, .int 0, .ref there, .ref mrow, .int 0, .ref found, .ref fsz, .ref ends, .ref made, .int 0, .int 0, .ref drops, .int 0])) := by rw [eM2]; exact gw_up_self _ _ _ _
  rw [← eM2] at hF1
  refine lv_iload_n hx hb d_Mo_state_5 rfl (lv_at hl 1 rfl) ?_
  refine gw_calli hS (va_runS (As := [.int k]) (rest := []) ⟨hx, hb, hml, hown, hts⟩ (m_isNumber l G M2 k  ) (cwS 1 hts (gw_gs mw184 mw185 mw169 mw183) rfl rfl rfl (by decide +kernel) ⟨Nat.le_of_ble_eq_true rfl, Nat.le_of_ble_eq_true rfl⟩) (gw_ps hE hB hS hW) rfl rfl hl.1 rfl (lv_room (Nat.le_of_ble_eq_true rfl)) d_Mo_state_6 ⟨Nat.le_of_ble_eq_true rfl, Nat.le_of_ble_eq_true rfl⟩) (fun r3 M4 H locs hw5 hW hS => ?_)
  obtain ⟨rfl, rfl⟩ := hw5
  refine lv_if_eq (tgt := 20) hx hb d_Mo_state_9 (by decide) (fun c9 => ?_) (fun c9 => ?_)
  · refine lv_iconst (v := -1) hx hb d_Mo_state_20 (by decide) ?_
    exact gw_iret hx hb hr hlocks hS hW (Nat.le_of_ble_eq_true rfl) (Nat.le_of_ble_eq_true rfl) d_Mo_state_21 (⟨(gx_st0 c9), hF1⟩)
  · refine lv_aload_n hx hb d_Mo_state_12 rfl (lv_at hl 0 rfl) ?_
    refine lv_iload_n hx hb d_Mo_state_13 rfl (lv_at hl 1 rfl) ?_
    refine gw_calli hS (va_runV (As := [.int k]) (rest := []) ⟨hx, hb, hml, hown, hts⟩ (m_what l G M2 mo there mrow found fsz ends made drops 0 lm sm k hf_mo hf_there (gx_in c9)) (cwV 1 hts (gw_gv mw187 mw188 mw189 mw169 mw186) rfl rfl rfl (by decide +kernel) ⟨Nat.le_of_ble_eq_true rfl, Nat.le_of_ble_eq_true rfl⟩) (gw_pv hE hB hS hW rfl hf_mo) rfl rfl hl.1 rfl (lv_room (Nat.le_of_ble_eq_true rfl)) d_Mo_state_14 ⟨Nat.le_of_ble_eq_true rfl, Nat.le_of_ble_eq_true rfl⟩) (fun r6 M7 H locs hw8 hW hS => ?_)
    obtain ⟨rfl, rfl⟩ := hw8
    refine lv_goto (tgt := 21) hx hb d_Mo_state_17 (by decide) ?_
    exact gw_iret hx hb hr hlocks hS hW (Nat.le_of_ble_eq_true rfl) (Nat.le_of_ble_eq_true rfl) d_Mo_state_21 (⟨(gx_st1 c9), hF1⟩)

set_option maxHeartbeats 4000000 in
set_option maxRecDepth 100000 in
theorem m_count (l : Launch) (G : gw_G) (M : gw_M) (mo : Nat) (there : Nat) (mrow : Nat) (found : Nat) (fsz : Nat) (ends : Nat) (made : Nat) (drops : Nat) (cd : Int32) (lm : Int32) (sm : Int32) (k : Int32) (hf_mo : M mo = some (100, .inr (5, [.int cd, .int lm, .int sm, .int 0, .ref there, .ref mrow, .int 0, .ref found, .ref fsz, .ref ends, .ref made, .int 0, .int 0, .ref drops, .int 0]))) (hf_there : M there = some (101, .inl (G.2.1 0, 10000, .inl (fun _ => 0)))) : Met l y_Mo_count [.code y_Mo_count b_Mo_count 4 (some .int)] ({ frames := 1, cells := 0, slots := 0, locals := 21 }) (gw_Pc G M [.ref mo, .int k]) (gw_Qi G (fun r M2 => gx_cnt k = r ∧ gw_fr (gw_out [100]) M M2)) 0 0 (gw_A G) := by
  refine gw_start (by decide) (Nat.le_of_ble_eq_true rfl) (fun p9 e9 s m b9 mt9 c9 hx hb hr hml hown hlocks hin hE hB hW ls hl => ?_)
  have hts := hE.ts ([.ref mo, .int k] : List Value).toArray
  have hl : lv_has ls 4 [(0, .ref mo), (1, .int k)] := hl
  have hS : va_S (gw_A G) s.heap s.heap [] := va_S.rf
  have hown : s.vm.findClass "GenerationsModel" = some m.cls := hown
  refine lv_aload_n hx hb d_Mo_count_0 rfl (lv_at hl 0 rfl) ?_
  refine lv_iconst (v := 0) hx hb d_Mo_count_1 (by decide) ?_
  refine gw_put (ci := 5) (fs := [.int cd, .int lm, .int sm, .int 0, .ref there, .ref mrow, .int 0, .ref found, .ref fsz, .ref ends, .ref made, .int 0, .int 0, .ref drops, .int 0]) (v := .int 0) (ty := .int) hx hb hts in_Mo t_Mo t_Mo_ok n_Mo hown hE.K hW hS hf_mo rfl 0 (by decide) (hts _ mw164) (fun _ h9 => h9) rfl (by decide +kernel) rfl rfl (Nat.le_of_ble_eq_true rfl) d_Mo_count_2 (fun H locs hW hS => ?_)
  have hF1 : gw_fr (gw_out [100]) M (gw_up M mo 100 (.inr (5, [.int 0, .int lm, .int sm, .int 0, .ref there, .ref mrow, .int 0, .ref found, .ref fsz, .ref ends, .ref made, .int 0, .int 0, .ref drops, .int 0]))) := gw_fr.up gw_fr.rf hf_mo (show ¬ ((gw_out [100]) 100) by decide) (show ¬ ((gw_out [100]) 100) by decide)
  obtain ⟨M2, eM2⟩ : ∃ z, z = gw_up M mo 100 (.inr (5, [.int 0, .int lm, .int sm, .int 0, .ref there, .ref mrow, .int 0, .ref found, .ref fsz, .ref ends, .ref made, .int 0, .int 0, .ref drops, .int 0])) := ⟨_, rfl⟩
  replace hW : gw_P G.1 vwCl G.2.2.2 M2 H := by rw [eM2]; exact hW
  have hf_there : M2 there = some (101, .inl (G.2.1 0, 10000, .inl (fun _ => 0))) := by rw [eM2]; exact gw_keep hf_there hf_mo (by decide)
  have hf_mo : M2 mo = some (100, .inr (5, [.int 0, .int lm, .int sm, .int 0, .ref there, .ref mrow, .int 0, .ref found, .ref fsz, .ref ends, .ref made, .int 0, .int 0, .ref drops, .int 0])) := by rw [eM2]; exact gw_up_self _ _ _ _
  rw [← eM2] at hF1
  refine lv_iconst (v := 0) hx hb d_Mo_count_5 (by decide) ?_
  refine lv_istore_n (lv' := [(2, .int 0), (0, .ref mo), (1, .int k)]) hx hb d_Mo_count_6 rfl hl (by decide) rfl (fun ls hl => ?_)
  refine lv_iconst (v := 1) hx hb d_Mo_count_7 (by decide) ?_
  refine lv_istore_n (lv' := [(3, .int 1), (2, .int 0), (0, .ref mo), (1, .int k)]) hx hb d_Mo_count_8 rfl hl (by decide) rfl (fun ls hl => ?_)
  obtain ⟨k9, ek9⟩ : ∃ z : Nat, z = 1 := ⟨1, rfl⟩
  replace hl : lv_has ls 4 [(3, .int (nI k9)), (2, .int 0), (0, .ref mo), (1, .int k)] := by subst ek9; exact hl
  have hk9 : 1 ≤ k9 ∧ k9 ≤ 10000 := by omega
  clear ek9
  obtain ⟨n9, hn9⟩ : ∃ z : Nat, 10000 - k9 < z := ⟨_, Nat.lt_succ_self _⟩
  induction n9 generalizing k9 ls H locs with
  | zero => exact absurd hn9 (Nat.not_lt_zero _)
  | succ n9 ih =>
    refine lv_iload_n hx hb d_Mo_count_9 rfl (lv_at hl 0 rfl) ?_
    refine lv_sipush (v := 9999) hx hb d_Mo_count_10 (by decide) ?_
    refine lv_icmp_gt (tgt := 79) hx hb d_Mo_count_13 (by decide) (fun c13 => ?_) (fun c13 => ?_)
    · refine lv_iload_n hx hb d_Mo_count_79 rfl (lv_at hl 3 rfl) ?_
      rcases gx_sw5 k with h9 | h9 | h9 | h9 | h9 | h9 | h9
      · refine lv_tableOut (tgt := 142) hx hb d_Mo_count_80 h9 (by decide) ?_
        refine lv_iconst (v := -1) hx hb d_Mo_count_142 (by decide) ?_
        exact gw_iret hx hb hr hlocks hS hW (Nat.le_of_ble_eq_true rfl) (Nat.le_of_ble_eq_true rfl) d_Mo_count_143 (⟨(gx_cntO h9), hF1⟩)
      · refine lv_tableIn (tgt := 120) hx hb d_Mo_count_80 (by rw [h9]; decide) (by rw [h9]; decide) (by rw [h9]; rfl) (by decide) ?_
        refine lv_aload_n hx hb d_Mo_count_120 rfl (lv_at hl 2 rfl) ?_
        refine gw_get (ci := 5) (fs := [.int 0, .int lm, .int sm, .int 0, .ref there, .ref mrow, .int 0, .ref found, .ref fsz, .ref ends, .ref made, .int 0, .int 0, .ref drops, .int 0]) hx hb hts in_Mo hown hE.K hW hf_mo rfl 6 (by decide) (hts _ mw178) (fun _ h9 => h9) rfl d_Mo_count_121 ?_
        exact gw_iret hx hb hr hlocks hS hW (Nat.le_of_ble_eq_true rfl) (Nat.le_of_ble_eq_true rfl) d_Mo_count_124 (⟨(by rw [h9]; decide), hF1⟩)
      · refine lv_tableIn (tgt := 125) hx hb d_Mo_count_80 (by rw [h9]; decide) (by rw [h9]; decide) (by rw [h9]; rfl) (by decide) ?_
        refine lv_iload_n hx hb d_Mo_count_125 rfl (lv_at hl 1 rfl) ?_
        exact gw_iret hx hb hr hlocks hS hW (Nat.le_of_ble_eq_true rfl) (Nat.le_of_ble_eq_true rfl) d_Mo_count_126 (⟨(by rw [h9]; decide), hF1⟩)
      · refine lv_tableIn (tgt := 125) hx hb d_Mo_count_80 (by rw [h9]; decide) (by rw [h9]; decide) (by rw [h9]; rfl) (by decide) ?_
        refine lv_iload_n hx hb d_Mo_count_125 rfl (lv_at hl 1 rfl) ?_
        exact gw_iret hx hb hr hlocks hS hW (Nat.le_of_ble_eq_true rfl) (Nat.le_of_ble_eq_true rfl) d_Mo_count_126 (⟨(by rw [h9]; decide), hF1⟩)
      · refine lv_tableIn (tgt := 127) hx hb d_Mo_count_80 (by rw [h9]; decide) (by rw [h9]; decide) (by rw [h9]; rfl) (by decide) ?_
        refine lv_aload_n hx hb d_Mo_count_127 rfl (lv_at hl 2 rfl) ?_
        refine gw_get (ci := 5) (fs := [.int 0, .int lm, .int sm, .int 0, .ref there, .ref mrow, .int 0, .ref found, .ref fsz, .ref ends, .ref made, .int 0, .int 0, .ref drops, .int 0]) hx hb hts in_Mo hown hE.K hW hf_mo rfl 11 (by decide) (hts _ mw194) (fun _ h9 => h9) rfl d_Mo_count_128 ?_
        exact gw_iret hx hb hr hlocks hS hW (Nat.le_of_ble_eq_true rfl) (Nat.le_of_ble_eq_true rfl) d_Mo_count_131 (⟨(by rw [h9]; decide), hF1⟩)
      · refine lv_tableIn (tgt := 132) hx hb d_Mo_count_80 (by rw [h9]; decide) (by rw [h9]; decide) (by rw [h9]; rfl) (by decide) ?_
        refine lv_aload_n hx hb d_Mo_count_132 rfl (lv_at hl 2 rfl) ?_
        refine gw_get (ci := 5) (fs := [.int 0, .int lm, .int sm, .int 0, .ref there, .ref mrow, .int 0, .ref found, .ref fsz, .ref ends, .ref made, .int 0, .int 0, .ref drops, .int 0]) hx hb hts in_Mo hown hE.K hW hf_mo rfl 12 (by decide) (hts _ mw205) (fun _ h9 => h9) rfl d_Mo_count_133 ?_
        exact gw_iret hx hb hr hlocks hS hW (Nat.le_of_ble_eq_true rfl) (Nat.le_of_ble_eq_true rfl) d_Mo_count_136 (⟨(by rw [h9]; decide), hF1⟩)
      · refine lv_tableIn (tgt := 137) hx hb d_Mo_count_80 (by rw [h9]; decide) (by rw [h9]; decide) (by rw [h9]; rfl) (by decide) ?_
        refine lv_aload_n hx hb d_Mo_count_137 rfl (lv_at hl 2 rfl) ?_
        refine gw_get (ci := 5) (fs := [.int 0, .int lm, .int sm, .int 0, .ref there, .ref mrow, .int 0, .ref found, .ref fsz, .ref ends, .ref made, .int 0, .int 0, .ref drops, .int 0]) hx hb hts in_Mo hown hE.K hW hf_mo rfl 14 (by decide) (hts _ mw203) (fun _ h9 => h9) rfl d_Mo_count_138 ?_
        exact gw_iret hx hb hr hlocks hS hW (Nat.le_of_ble_eq_true rfl) (Nat.le_of_ble_eq_true rfl) d_Mo_count_141 (⟨(by rw [h9]; decide), hF1⟩)
    · refine lv_iload_n hx hb d_Mo_count_16 rfl (lv_at hl 3 rfl) ?_
      refine lv_if_le (tgt := 79) hx hb d_Mo_count_17 (by decide) (fun c17 => ?_) (fun c17 => ?_)
      · refine lv_iload_n hx hb d_Mo_count_79 rfl (lv_at hl 3 rfl) ?_
        rcases gx_sw5 k with h9 | h9 | h9 | h9 | h9 | h9 | h9
        · refine lv_tableOut (tgt := 142) hx hb d_Mo_count_80 h9 (by decide) ?_
          refine lv_iconst (v := -1) hx hb d_Mo_count_142 (by decide) ?_
          exact gw_iret hx hb hr hlocks hS hW (Nat.le_of_ble_eq_true rfl) (Nat.le_of_ble_eq_true rfl) d_Mo_count_143 (⟨(gx_cntO h9), hF1⟩)
        · refine lv_tableIn (tgt := 120) hx hb d_Mo_count_80 (by rw [h9]; decide) (by rw [h9]; decide) (by rw [h9]; rfl) (by decide) ?_
          refine lv_aload_n hx hb d_Mo_count_120 rfl (lv_at hl 2 rfl) ?_
          refine gw_get (ci := 5) (fs := [.int 0, .int lm, .int sm, .int 0, .ref there, .ref mrow, .int 0, .ref found, .ref fsz, .ref ends, .ref made, .int 0, .int 0, .ref drops, .int 0]) hx hb hts in_Mo hown hE.K hW hf_mo rfl 6 (by decide) (hts _ mw178) (fun _ h9 => h9) rfl d_Mo_count_121 ?_
          exact gw_iret hx hb hr hlocks hS hW (Nat.le_of_ble_eq_true rfl) (Nat.le_of_ble_eq_true rfl) d_Mo_count_124 (⟨(by rw [h9]; decide), hF1⟩)
        · refine lv_tableIn (tgt := 125) hx hb d_Mo_count_80 (by rw [h9]; decide) (by rw [h9]; decide) (by rw [h9]; rfl) (by decide) ?_
          refine lv_iload_n hx hb d_Mo_count_125 rfl (lv_at hl 1 rfl) ?_
          exact gw_iret hx hb hr hlocks hS hW (Nat.le_of_ble_eq_true rfl) (Nat.le_of_ble_eq_true rfl) d_Mo_count_126 (⟨(by rw [h9]; decide), hF1⟩)
        · refine lv_tableIn (tgt := 125) hx hb d_Mo_count_80 (by rw [h9]; decide) (by rw [h9]; decide) (by rw [h9]; rfl) (by decide) ?_
          refine lv_iload_n hx hb d_Mo_count_125 rfl (lv_at hl 1 rfl) ?_
          exact gw_iret hx hb hr hlocks hS hW (Nat.le_of_ble_eq_true rfl) (Nat.le_of_ble_eq_true rfl) d_Mo_count_126 (⟨(by rw [h9]; decide), hF1⟩)
        · refine lv_tableIn (tgt := 127) hx hb d_Mo_count_80 (by rw [h9]; decide) (by rw [h9]; decide) (by rw [h9]; rfl) (by decide) ?_
          refine lv_aload_n hx hb d_Mo_count_127 rfl (lv_at hl 2 rfl) ?_
          refine gw_get (ci := 5) (fs := [.int 0, .int lm, .int sm, .int 0, .ref there, .ref mrow, .int 0, .ref found, .ref fsz, .ref ends, .ref made, .int 0, .int 0, .ref drops, .int 0]) hx hb hts in_Mo hown hE.K hW hf_mo rfl 11 (by decide) (hts _ mw194) (fun _ h9 => h9) rfl d_Mo_count_128 ?_
          exact gw_iret hx hb hr hlocks hS hW (Nat.le_of_ble_eq_true rfl) (Nat.le_of_ble_eq_true rfl) d_Mo_count_131 (⟨(by rw [h9]; decide), hF1⟩)
        · refine lv_tableIn (tgt := 132) hx hb d_Mo_count_80 (by rw [h9]; decide) (by rw [h9]; decide) (by rw [h9]; rfl) (by decide) ?_
          refine lv_aload_n hx hb d_Mo_count_132 rfl (lv_at hl 2 rfl) ?_
          refine gw_get (ci := 5) (fs := [.int 0, .int lm, .int sm, .int 0, .ref there, .ref mrow, .int 0, .ref found, .ref fsz, .ref ends, .ref made, .int 0, .int 0, .ref drops, .int 0]) hx hb hts in_Mo hown hE.K hW hf_mo rfl 12 (by decide) (hts _ mw205) (fun _ h9 => h9) rfl d_Mo_count_133 ?_
          exact gw_iret hx hb hr hlocks hS hW (Nat.le_of_ble_eq_true rfl) (Nat.le_of_ble_eq_true rfl) d_Mo_count_136 (⟨(by rw [h9]; decide), hF1⟩)
        · refine lv_tableIn (tgt := 137) hx hb d_Mo_count_80 (by rw [h9]; decide) (by rw [h9]; decide) (by rw [h9]; rfl) (by decide) ?_
          refine lv_aload_n hx hb d_Mo_count_137 rfl (lv_at hl 2 rfl) ?_
          refine gw_get (ci := 5) (fs := [.int 0, .int lm, .int sm, .int 0, .ref there, .ref mrow, .int 0, .ref found, .ref fsz, .ref ends, .ref made, .int 0, .int 0, .ref drops, .int 0]) hx hb hts in_Mo hown hE.K hW hf_mo rfl 14 (by decide) (hts _ mw203) (fun _ h9 => h9) rfl d_Mo_count_138 ?_
          exact gw_iret hx hb hr hlocks hS hW (Nat.le_of_ble_eq_true rfl) (Nat.le_of_ble_eq_true rfl) d_Mo_count_141 (⟨(by rw [h9]; decide), hF1⟩)
      · refine lv_iload_n hx hb d_Mo_count_20 rfl (lv_at hl 3 rfl) ?_
        refine lv_iconst (v := 3) hx hb d_Mo_count_21 (by decide) ?_
        refine lv_icmp_ge (tgt := 79) hx hb d_Mo_count_22 (by decide) (fun c22 => ?_) (fun c22 => ?_)
        · refine lv_iload_n hx hb d_Mo_count_79 rfl (lv_at hl 3 rfl) ?_
          rcases gx_sw5 k with h9 | h9 | h9 | h9 | h9 | h9 | h9
          · refine lv_tableOut (tgt := 142) hx hb d_Mo_count_80 h9 (by decide) ?_
            refine lv_iconst (v := -1) hx hb d_Mo_count_142 (by decide) ?_
            exact gw_iret hx hb hr hlocks hS hW (Nat.le_of_ble_eq_true rfl) (Nat.le_of_ble_eq_true rfl) d_Mo_count_143 (⟨(gx_cntO h9), hF1⟩)
          · refine lv_tableIn (tgt := 120) hx hb d_Mo_count_80 (by rw [h9]; decide) (by rw [h9]; decide) (by rw [h9]; rfl) (by decide) ?_
            refine lv_aload_n hx hb d_Mo_count_120 rfl (lv_at hl 2 rfl) ?_
            refine gw_get (ci := 5) (fs := [.int 0, .int lm, .int sm, .int 0, .ref there, .ref mrow, .int 0, .ref found, .ref fsz, .ref ends, .ref made, .int 0, .int 0, .ref drops, .int 0]) hx hb hts in_Mo hown hE.K hW hf_mo rfl 6 (by decide) (hts _ mw178) (fun _ h9 => h9) rfl d_Mo_count_121 ?_
            exact gw_iret hx hb hr hlocks hS hW (Nat.le_of_ble_eq_true rfl) (Nat.le_of_ble_eq_true rfl) d_Mo_count_124 (⟨(by rw [h9]; decide), hF1⟩)
          · refine lv_tableIn (tgt := 125) hx hb d_Mo_count_80 (by rw [h9]; decide) (by rw [h9]; decide) (by rw [h9]; rfl) (by decide) ?_
            refine lv_iload_n hx hb d_Mo_count_125 rfl (lv_at hl 1 rfl) ?_
            exact gw_iret hx hb hr hlocks hS hW (Nat.le_of_ble_eq_true rfl) (Nat.le_of_ble_eq_true rfl) d_Mo_count_126 (⟨(by rw [h9]; decide), hF1⟩)
          · refine lv_tableIn (tgt := 125) hx hb d_Mo_count_80 (by rw [h9]; decide) (by rw [h9]; decide) (by rw [h9]; rfl) (by decide) ?_
            refine lv_iload_n hx hb d_Mo_count_125 rfl (lv_at hl 1 rfl) ?_
            exact gw_iret hx hb hr hlocks hS hW (Nat.le_of_ble_eq_true rfl) (Nat.le_of_ble_eq_true rfl) d_Mo_count_126 (⟨(by rw [h9]; decide), hF1⟩)
          · refine lv_tableIn (tgt := 127) hx hb d_Mo_count_80 (by rw [h9]; decide) (by rw [h9]; decide) (by rw [h9]; rfl) (by decide) ?_
            refine lv_aload_n hx hb d_Mo_count_127 rfl (lv_at hl 2 rfl) ?_
            refine gw_get (ci := 5) (fs := [.int 0, .int lm, .int sm, .int 0, .ref there, .ref mrow, .int 0, .ref found, .ref fsz, .ref ends, .ref made, .int 0, .int 0, .ref drops, .int 0]) hx hb hts in_Mo hown hE.K hW hf_mo rfl 11 (by decide) (hts _ mw194) (fun _ h9 => h9) rfl d_Mo_count_128 ?_
            exact gw_iret hx hb hr hlocks hS hW (Nat.le_of_ble_eq_true rfl) (Nat.le_of_ble_eq_true rfl) d_Mo_count_131 (⟨(by rw [h9]; decide), hF1⟩)
          · refine lv_tableIn (tgt := 132) hx hb d_Mo_count_80 (by rw [h9]; decide) (by rw [h9]; decide) (by rw [h9]; rfl) (by decide) ?_
            refine lv_aload_n hx hb d_Mo_count_132 rfl (lv_at hl 2 rfl) ?_
            refine gw_get (ci := 5) (fs := [.int 0, .int lm, .int sm, .int 0, .ref there, .ref mrow, .int 0, .ref found, .ref fsz, .ref ends, .ref made, .int 0, .int 0, .ref drops, .int 0]) hx hb hts in_Mo hown hE.K hW hf_mo rfl 12 (by decide) (hts _ mw205) (fun _ h9 => h9) rfl d_Mo_count_133 ?_
            exact gw_iret hx hb hr hlocks hS hW (Nat.le_of_ble_eq_true rfl) (Nat.le_of_ble_eq_true rfl) d_Mo_count_136 (⟨(by rw [h9]; decide), hF1⟩)
          · refine lv_tableIn (tgt := 137) hx hb d_Mo_count_80 (by rw [h9]; decide) (by rw [h9]; decide) (by rw [h9]; rfl) (by decide) ?_
            refine lv_aload_n hx hb d_Mo_count_137 rfl (lv_at hl 2 rfl) ?_
            refine gw_get (ci := 5) (fs := [.int 0, .int lm, .int sm, .int 0, .ref there, .ref mrow, .int 0, .ref found, .ref fsz, .ref ends, .ref made, .int 0, .int 0, .ref drops, .int 0]) hx hb hts in_Mo hown hE.K hW hf_mo rfl 14 (by decide) (hts _ mw203) (fun _ h9 => h9) rfl d_Mo_count_138 ?_
            exact gw_iret hx hb hr hlocks hS hW (Nat.le_of_ble_eq_true rfl) (Nat.le_of_ble_eq_true rfl) d_Mo_count_141 (⟨(by rw [h9]; decide), hF1⟩)
        · refine lv_iload_n hx hb d_Mo_count_25 rfl (lv_at hl 1 rfl) ?_
          refine lv_iload_n hx hb d_Mo_count_26 rfl (lv_at hl 3 rfl) ?_
          refine lv_iconst (v := 2) hx hb d_Mo_count_27 (by decide) ?_
          refine lv_icmp_ne (tgt := 48) hx hb d_Mo_count_28 (by decide) (fun c28 => ?_) (fun c28 => ?_)
          · refine lv_aload_n hx hb d_Mo_count_48 rfl (lv_at hl 2 rfl) ?_
            refine lv_iload_n hx hb d_Mo_count_49 rfl (lv_at hl 0 rfl) ?_
            refine gw_calli hS (va_runV (As := [.int (nI k9)]) (rest := [.int 0]) ⟨hx, hb, hml, hown, hts⟩ (m_what l G M2 mo there mrow found fsz ends made drops 0 lm sm (nI k9) hf_mo hf_there (vp_in_nI (by have hk8 := gx_le9 c13 hk9.2; omega) (by decide))) (cwV 1 hts (gw_gv mw187 mw188 mw189 mw169 mw186) rfl rfl rfl (by decide +kernel) ⟨Nat.le_of_ble_eq_true rfl, Nat.le_of_ble_eq_true rfl⟩) (gw_pv hE hB hS hW rfl hf_mo) rfl rfl hl.1 rfl (lv_room (Nat.le_of_ble_eq_true rfl)) d_Mo_count_50 ⟨Nat.le_of_ble_eq_true rfl, Nat.le_of_ble_eq_true rfl⟩) (fun r3 M4 H locs hw5 hW hS => ?_)
            obtain ⟨rfl, rfl⟩ := hw5
            refine lv_iconst (v := 2) hx hb d_Mo_count_53 (by decide) ?_
            refine lv_icmp_eq (tgt := 66) hx hb d_Mo_count_54 (by decide) (fun c54 => ?_) (fun c54 => ?_)
            · exact absurd c54 (by decide)
            · refine lv_aload_n hx hb d_Mo_count_57 rfl (lv_at hl 2 rfl) ?_
              refine lv_iload_n hx hb d_Mo_count_58 rfl (lv_at hl 0 rfl) ?_
              refine gw_calli hS (va_runV (As := [.int (nI k9)]) (rest := [.int 0]) ⟨hx, hb, hml, hown, hts⟩ (m_what l G M2 mo there mrow found fsz ends made drops 0 lm sm (nI k9) hf_mo hf_there (vp_in_nI (by have hk8 := gx_le9 c13 hk9.2; omega) (by decide))) (cwV 1 hts (gw_gv mw187 mw188 mw189 mw169 mw186) rfl rfl rfl (by decide +kernel) ⟨Nat.le_of_ble_eq_true rfl, Nat.le_of_ble_eq_true rfl⟩) (gw_pv hE hB hS hW rfl hf_mo) rfl rfl hl.1 rfl (lv_room (Nat.le_of_ble_eq_true rfl)) d_Mo_count_59 ⟨Nat.le_of_ble_eq_true rfl, Nat.le_of_ble_eq_true rfl⟩) (fun r6 M7 H locs hw8 hW hS => ?_)
              obtain ⟨rfl, rfl⟩ := hw8
              refine lv_iconst (v := 3) hx hb d_Mo_count_62 (by decide) ?_
              refine lv_icmp_ne (tgt := 70) hx hb d_Mo_count_63 (by decide) (fun c63 => ?_) (fun c63 => ?_)
              · refine lv_iconst (v := 0) hx hb d_Mo_count_70 (by decide) ?_
                refine lv_iadd hx hb d_Mo_count_71 ?_
                refine lv_istore_n (lv' := [(2, .int (0 + 0)), (3, .int (nI k9)), (0, .ref mo), (1, .int k)]) hx hb d_Mo_count_72 rfl hl (by decide) rfl (fun ls hl => ?_)
                refine lv_iinc (v := (nI k9) + 1) (lv' := [(3, .int ((nI k9) + 1)), (2, .int (0 + 0)), (0, .ref mo), (1, .int k)]) hx hb d_Mo_count_73 hl (k := 1) rfl rfl (by decide) rfl (fun ls hl => ?_)
                refine lv_goto (tgt := 9) hx hb d_Mo_count_76 (by decide) ?_
                have e0 : (0 : Int32) + 0 = 0 := by decide
                rw [e0, nI_1] at hl
                have hk8 := gx_le9 c13 hk9.2
                apply ih (k9 := k9 + 1) (ls := ls) (H := H) (locs := locs) <;> first | exact hW | exact hS | exact lv_sub hl [0, 1, 2, 3] rfl | omega
              · exact absurd c63 (by decide)
          · refine lv_aload_n hx hb d_Mo_count_31 rfl (lv_at hl 2 rfl) ?_
            refine lv_iload_n hx hb d_Mo_count_32 rfl (lv_at hl 0 rfl) ?_
            refine gw_calli hS (va_runV (As := [.int (nI k9)]) (rest := [.int 0]) ⟨hx, hb, hml, hown, hts⟩ (m_what l G M2 mo there mrow found fsz ends made drops 0 lm sm (nI k9) hf_mo hf_there (vp_in_nI (by have hk8 := gx_le9 c13 hk9.2; omega) (by decide))) (cwV 1 hts (gw_gv mw187 mw188 mw189 mw169 mw186) rfl rfl rfl (by decide +kernel) ⟨Nat.le_of_ble_eq_true rfl, Nat.le_of_ble_eq_true rfl⟩) (gw_pv hE hB hS hW rfl hf_mo) rfl rfl hl.1 rfl (lv_room (Nat.le_of_ble_eq_true rfl)) d_Mo_count_33 ⟨Nat.le_of_ble_eq_true rfl, Nat.le_of_ble_eq_true rfl⟩) (fun r9 M10 H locs hw11 hW hS => ?_)
            obtain ⟨rfl, rfl⟩ := hw11
            refine lv_iconst (v := 4) hx hb d_Mo_count_36 (by decide) ?_
            refine lv_icmp_ne (tgt := 44) hx hb d_Mo_count_37 (by decide) (fun c37 => ?_) (fun c37 => ?_)
            · refine lv_iconst (v := 0) hx hb d_Mo_count_44 (by decide) ?_
              refine lv_goto (tgt := 71) hx hb d_Mo_count_45 (by decide) ?_
              refine lv_iadd hx hb d_Mo_count_71 ?_
              refine lv_istore_n (lv' := [(2, .int (0 + 0)), (3, .int (nI k9)), (0, .ref mo), (1, .int k)]) hx hb d_Mo_count_72 rfl hl (by decide) rfl (fun ls hl => ?_)
              refine lv_iinc (v := (nI k9) + 1) (lv' := [(3, .int ((nI k9) + 1)), (2, .int (0 + 0)), (0, .ref mo), (1, .int k)]) hx hb d_Mo_count_73 hl (k := 1) rfl rfl (by decide) rfl (fun ls hl => ?_)
              refine lv_goto (tgt := 9) hx hb d_Mo_count_76 (by decide) ?_
              have e0 : (0 : Int32) + 0 = 0 := by decide
              rw [e0, nI_1] at hl
              have hk8 := gx_le9 c13 hk9.2
              apply ih (k9 := k9 + 1) (ls := ls) (H := H) (locs := locs) <;> first | exact hW | exact hS | exact lv_sub hl [0, 1, 2, 3] rfl | omega
            · exact absurd c37 (by decide)
end
section
abbrev b_X_jobCalled : ByteArray := prog_1_method_16_code
abbrev y_X_jobCalled : MethodName := ⟨"Generations", "jobCalled", "(I)LGenerations$Job;"⟩
abbrev b_X_relative : ByteArray := prog_1_method_4_code
abbrev y_X_relative : MethodName := ⟨"Generations", "relative", "(II)I"⟩
abbrev b_X_make : ByteArray := prog_1_method_5_code
abbrev y_X_make : MethodName := ⟨"Generations", "make", "(II)I"⟩
abbrev b_X_end : ByteArray := prog_1_method_6_code
abbrev y_X_end : MethodName := ⟨"Generations", "end", "(IIZ)I"⟩
abbrev b_X_restart : ByteArray := prog_1_method_8_code
abbrev y_X_restart : MethodName := ⟨"Generations", "restart", "(II)I"⟩
set_option maxRecDepth 20000 in
theorem mw206 : (Cond.classLink "Generations" (104 : Nat) "java/lang/IllegalArgumentException") ∈ gw_N0 := gw_in (List.mem_append_right _ (gw_tm (i := 333) rfl))
set_option maxRecDepth 20000 in
theorem mw207 : (Cond.initialized "java/lang/IllegalArgumentException") ∈ gw_N0 := gw_in (List.mem_append_right _ (gw_tm (i := 18) rfl))
set_option maxRecDepth 20000 in
theorem mw208 : (Cond.code ({ cls := "Generations", name := "jobCalled", desc := "(I)LGenerations$Job;" } : Jvm.MethodName) prog_1_method_16_code (2 : Nat) (Option.some (Jvm.ClassFile.FieldType.object "Generations$Job"))) ∈ gw_N0 := gw_in (List.mem_append_right _ (gw_tm (i := 332) rfl))
set_option maxRecDepth 20000 in
theorem mw209 : (Cond.methodLink "Generations" (100 : Nat) ({ cls := "Generations", name := "jobCalled", desc := "(I)LGenerations$Job;" } : Jvm.MethodName)) ∈ gw_N0 := gw_in (List.mem_append_right _ (gw_tm (i := 329) rfl))
set_option maxRecDepth 20000 in
theorem mw210 : (Cond.instanceMethod ({ cls := "Generations", name := "jobCalled", desc := "(I)LGenerations$Job;" } : Jvm.MethodName)) ∈ gw_N0 := gw_in (List.mem_append_right _ (gw_tm (i := 331) rfl))
set_option maxRecDepth 20000 in
theorem mw211 : (Cond.selects "Generations" ⟨"Generations", "jobCalled", "(I)LGenerations$Job;"⟩ ⟨"Generations", "jobCalled", "(I)LGenerations$Job;"⟩) ∈ gw_N0 := gw_in (List.mem_append_left _ (List.mem_of_getElem? (i := 16) rfl))
end
section
theorem d_X_jobCalled_0 : decode b_X_jobCalled 0 = .ok (.iload_n 1, 1) := by decide +kernel
theorem d_X_jobCalled_1 : decode b_X_jobCalled 1 = .ok (.iconst 1, 1) := by decide +kernel
theorem d_X_jobCalled_2 : decode b_X_jobCalled 2 = .ok (.if_icmp .lt 14, 3) := by decide +kernel
theorem d_X_jobCalled_16 : decode b_X_jobCalled 16 = .ok (.new 104, 3) := by decide +kernel
theorem d_X_jobCalled_19 : decode b_X_jobCalled 19 = .ok (.dup, 1) := by decide +kernel
theorem d_X_jobCalled_20 : decode b_X_jobCalled 20 = .ok (.ldc 164, 2) := by decide +kernel
theorem d_X_jobCalled_22 : decode b_X_jobCalled 22 = .ok (.invokespecial 108, 3) := by decide +kernel
theorem d_X_jobCalled_25 : decode b_X_jobCalled 25 = .ok (.athrow, 1) := by decide +kernel
theorem d_X_jobCalled_5 : decode b_X_jobCalled 5 = .ok (.iload_n 1, 1) := by decide +kernel
theorem d_X_jobCalled_6 : decode b_X_jobCalled 6 = .ok (.aload_n 0, 1) := by decide +kernel
theorem d_X_jobCalled_7 : decode b_X_jobCalled 7 = .ok (.getfield 19, 3) := by decide +kernel
theorem d_X_jobCalled_10 : decode b_X_jobCalled 10 = .ok (.invokevirtual 84, 3) := by decide +kernel
theorem d_X_jobCalled_13 : decode b_X_jobCalled 13 = .ok (.if_icmp .le 13, 3) := by decide +kernel
theorem d_X_relative_0 : decode b_X_relative 0 = .ok (.aload_n 0, 1) := by decide +kernel
theorem d_X_relative_1 : decode b_X_relative 1 = .ok (.iload_n 1, 1) := by decide +kernel
theorem d_X_relative_2 : decode b_X_relative 2 = .ok (.invokevirtual 100, 3) := by decide +kernel
theorem d_X_make_0 : decode b_X_make 0 = .ok (.aload_n 0, 1) := by decide +kernel
theorem d_X_make_1 : decode b_X_make 1 = .ok (.iload_n 1, 1) := by decide +kernel
theorem d_X_make_2 : decode b_X_make 2 = .ok (.invokevirtual 100, 3) := by decide +kernel
theorem d_X_end_0 : decode b_X_end 0 = .ok (.aload_n 0, 1) := by decide +kernel
theorem d_X_end_1 : decode b_X_end 1 = .ok (.iload_n 1, 1) := by decide +kernel
theorem d_X_end_2 : decode b_X_end 2 = .ok (.invokevirtual 100, 3) := by decide +kernel
theorem d_X_restart_0 : decode b_X_restart 0 = .ok (.aload_n 0, 1) := by decide +kernel
theorem d_X_restart_1 : decode b_X_restart 1 = .ok (.iload_n 1, 1) := by decide +kernel
theorem d_X_restart_2 : decode b_X_restart 2 = .ok (.invokevirtual 100, 3) := by decide +kernel
end
section
set_option maxHeartbeats 4000000 in
set_option maxRecDepth 100000 in
theorem c_AL_sizeR (l : Launch) (G : gw_G) (M : gw_M) (a : Nat) (r : Nat) (k : Int32) (e : Nat) (n : Int32) (hf_a : M a = some (r, .inr (4, [.int k, .ref e, .int n]))) : Met l y_AL_size [.code y_AL_size b_AL_size 1 (some .int)] ({ frames := 0, cells := 0, slots := 0, locals := 0 }) (gw_Pc G M [.ref a]) (QcRead n) 0 0 (fun _ => False) := by
  refine gw_startR (by decide) (Nat.le_of_ble_eq_true rfl) (fun p9 e9 s m b9 mt9 c9 hx hb hr hml hown hlocks hin hE hB hW ls hl => ?_)
  have hts := hE.ts ([.ref a] : List Value).toArray
  have hl : lv_has ls 1 [(0, .ref a)] := hl
  have hown : s.vm.findClass "java/util/ArrayList" = some m.cls := hown
  refine lv_aload_n hx hb d_AL_size_0 rfl (lv_at hl 0 rfl) ?_
  refine gw_get (ci := 4) (fs := [.int k, .ref e, .int n]) hx hb hts in_AL hown hE.K hW hf_a rfl 2 (by decide) (hts _ mw54) (fun _ h9 => h9) rfl d_AL_size_1 ?_
  exact W.iret hx hb hr (fun t ht _ => ⟨rfl, ht⟩) (fun q hq => nomatch hq) d_AL_size_4 hlocks

set_option maxHeartbeats 4000000 in
set_option maxRecDepth 100000 in
theorem c_jobCalled (l : Launch) (hl9 : l.stackTraces = false) (G : gw_G) (M : gw_M) (x : Nat) (row : Nat) (jobs : Nat) (known : Nat) (nowh : Nat) (gone : Nat) (lim : Int32) (sc : Int32) (k : Int32) (hf_x : M x = some (1, .inr (0, [.int lim, .int sc, .int 0, .ref row, .ref jobs, .ref known, .ref nowh, .ref gone, .int 0]))) (hf_jobs : M jobs = some (4, .inr (4, [.int 0, .ref (G.2.2.1 0), .int 0]))) : gt_Met l y_X_jobCalled [.code y_X_jobCalled b_X_jobCalled 2 (some (.object "Generations$Job"))] ({ frames := 6, cells := 1, slots := 6, locals := 82 }) G M [.ref x, .int k] (fun M2 => M = M2) 1 6 := by
  refine gt_start (by decide) (Nat.le_of_ble_eq_true rfl) (fun p9 e9 s m b9 mt9 c9 hEx hx hb hr hml hown hlocks hin hE hB hW ls hl => ?_)
  have hts := hE.ts ([.ref x, .int k] : List Value).toArray
  have hl : lv_has ls 2 [(0, .ref x), (1, .int k)] := hl
  have hS : va_S (gw_A G) s.heap s.heap [] := va_S.rf
  have hown : s.vm.findClass "Generations" = some m.cls := hown
  refine lv_iload_n hx hb d_X_jobCalled_0 rfl (lv_at hl 1 rfl) ?_
  refine lv_iconst (v := 1) hx hb d_X_jobCalled_1 (by decide) ?_
  refine lv_icmp_lt (tgt := 16) hx hb d_X_jobCalled_2 (by decide) (fun c2 => ?_) (fun c2 => ?_)
  · exact gt_throwS (own := "Generations") (text := "there is no such job") (names := ["java/lang/RuntimeException", "java/lang/Exception"]) (sa := G.2.2.1 1) hx hb hl9 hown (by decide +kernel) (hts _ mw206) (hts _ mw207) hE.2.2.2.2.2.2.1.1 hE.2.2.2.2.2.2.1.2 (gt_hat hE _ gt_ws3) (hl.1.trans hml.symm) d_X_jobCalled_16 d_X_jobCalled_19 d_X_jobCalled_20 d_X_jobCalled_22 d_X_jobCalled_25 hEx (Nat.le_of_ble_eq_true rfl) (Nat.le_of_ble_eq_true rfl) (Nat.le_of_ble_eq_true rfl) (Nat.le_of_ble_eq_true rfl) hlocks hW rfl
  · refine lv_iload_n hx hb d_X_jobCalled_5 rfl (lv_at hl 1 rfl) ?_
    refine lv_aload_n hx hb d_X_jobCalled_6 rfl (lv_at hl 0 rfl) ?_
    refine gw_get (ci := 0) (fs := [.int lim, .int sc, .int 0, .ref row, .ref jobs, .ref known, .ref nowh, .ref gone, .int 0]) hx hb hts in_X hown hE.K hW hf_x rfl 4 (by decide) (hts _ mw35) (fun _ h9 => h9) rfl d_X_jobCalled_7 ?_
    refine W.callR (W.runV (As := []) (rest := [.int k]) ⟨hx, hb, hml, hown, hts⟩ (c_AL_sizeR l G M jobs 4 0 (G.2.2.1 0) 0 hf_jobs) (cwV 0 hts (gw_gv mw58 mw59 mw60 mw31 mw57) rfl rfl rfl (by decide +kernel) ⟨Nat.le_of_ble_eq_true rfl, Nat.le_of_ble_eq_true rfl⟩) (gw_pv hE hB hS hW rfl hf_jobs) rfl rfl hl.1 rfl (lv_room (Nat.le_of_ble_eq_true rfl)) d_X_jobCalled_10 ⟨Nat.le_of_ble_eq_true rfl, Nat.le_of_ble_eq_true rfl⟩) ?_
    refine W.eq (g2 := F0 m 13 ls [.int 0, .int k]) rfl ?_
    refine lv_icmp_le (tgt := 26) hx hb d_X_jobCalled_13 (by decide) (fun c13 => ?_) (fun c13 => ?_)
    · exact absurd c13 (gx_pos c2)
    · exact gt_throwS (own := "Generations") (text := "there is no such job") (names := ["java/lang/RuntimeException", "java/lang/Exception"]) (sa := G.2.2.1 1) hx hb hl9 hown (by decide +kernel) (hts _ mw206) (hts _ mw207) hE.2.2.2.2.2.2.1.1 hE.2.2.2.2.2.2.1.2 (gt_hat hE _ gt_ws3) (hl.1.trans hml.symm) d_X_jobCalled_16 d_X_jobCalled_19 d_X_jobCalled_20 d_X_jobCalled_22 d_X_jobCalled_25 hEx (Nat.le_of_ble_eq_true rfl) (Nat.le_of_ble_eq_true rfl) (Nat.le_of_ble_eq_true rfl) (Nat.le_of_ble_eq_true rfl) hlocks hW rfl

set_option maxHeartbeats 4000000 in
set_option maxRecDepth 100000 in
theorem c_relative (l : Launch) (hl9 : l.stackTraces = false) (G : gw_G) (M : gw_M) (x : Nat) (row : Nat) (jobs : Nat) (known : Nat) (nowh : Nat) (gone : Nat) (lim : Int32) (sc : Int32) (k : Int32) (n : Int32) (hf_x : M x = some (1, .inr (0, [.int lim, .int sc, .int 0, .ref row, .ref jobs, .ref known, .ref nowh, .ref gone, .int 0]))) (hf_jobs : M jobs = some (4, .inr (4, [.int 0, .ref (G.2.2.1 0), .int 0]))) : gt_Met l y_X_relative [.code y_X_relative b_X_relative 5 (some .int)] ({ frames := 7, cells := 1, slots := 6, locals := 103 }) G M [.ref x, .int k, .int n] (fun M2 => M = M2) 1 6 := by
  refine gt_start (by decide) (Nat.le_of_ble_eq_true rfl) (fun p9 e9 s m b9 mt9 c9 hEx hx hb hr hml hown hlocks hin hE hB hW ls hl => ?_)
  have hts := hE.ts ([.ref x, .int k, .int n] : List Value).toArray
  have hl : lv_has ls 5 [(0, .ref x), (1, .int k), (2, .int n)] := hl
  have hS : va_S (gw_A G) s.heap s.heap [] := va_S.rf
  have hown : s.vm.findClass "Generations" = some m.cls := hown
  refine lv_aload_n hx hb d_X_relative_0 rfl (lv_at hl 0 rfl) ?_
  refine lv_iload_n hx hb d_X_relative_1 rfl (lv_at hl 1 rfl) ?_
  refine gt_callV (As := [.int k]) (rest := []) hS ⟨hx, hb, hml, hown, hts⟩ (c_jobCalled l hl9 G M x row jobs known nowh gone lim sc k hf_x hf_jobs ) (cwV 1 hts (gw_gv mw209 mw210 mw211 mw83 mw208) rfl rfl rfl (by decide +kernel) ⟨Nat.le_of_ble_eq_true rfl, Nat.le_of_ble_eq_true rfl⟩) (gw_pv hE hB hS hW rfl hf_x) rfl hl.1 rfl (lv_room (Nat.le_of_ble_eq_true rfl)) d_X_relative_2 ⟨Nat.le_of_ble_eq_true rfl, Nat.le_of_ble_eq_true rfl⟩ (fun ce5 q4 M2 H locs hw3 hW hS hce hcv hcl => ?_)
  obtain rfl := hw3
  exact gt_out hEx hlocks hce hcv hcl hS hW rfl (Nat.le_of_ble_eq_true rfl) (Nat.le_of_ble_eq_true rfl)

set_option maxHeartbeats 4000000 in
set_option maxRecDepth 100000 in
theorem c_make (l : Launch) (hl9 : l.stackTraces = false) (G : gw_G) (M : gw_M) (x : Nat) (row : Nat) (jobs : Nat) (known : Nat) (nowh : Nat) (gone : Nat) (lim : Int32) (sc : Int32) (k : Int32) (n : Int32) (hf_x : M x = some (1, .inr (0, [.int lim, .int sc, .int 0, .ref row, .ref jobs, .ref known, .ref nowh, .ref gone, .int 0]))) (hf_jobs : M jobs = some (4, .inr (4, [.int 0, .ref (G.2.2.1 0), .int 0]))) : gt_Met l y_X_make [.code y_X_make b_X_make 7 (some .int)] ({ frames := 7, cells := 1, slots := 6, locals := 103 }) G M [.ref x, .int k, .int n] (fun M2 => M = M2) 1 6 := by
  refine gt_start (by decide) (Nat.le_of_ble_eq_true rfl) (fun p9 e9 s m b9 mt9 c9 hEx hx hb hr hml hown hlocks hin hE hB hW ls hl => ?_)
  have hts := hE.ts ([.ref x, .int k, .int n] : List Value).toArray
  have hl : lv_has ls 7 [(0, .ref x), (1, .int k), (2, .int n)] := hl
  have hS : va_S (gw_A G) s.heap s.heap [] := va_S.rf
  have hown : s.vm.findClass "Generations" = some m.cls := hown
  refine lv_aload_n hx hb d_X_make_0 rfl (lv_at hl 0 rfl) ?_
  refine lv_iload_n hx hb d_X_make_1 rfl (lv_at hl 1 rfl) ?_
  refine gt_callV (As := [.int k]) (rest := []) hS ⟨hx, hb, hml, hown, hts⟩ (c_jobCalled l hl9 G M x row jobs known nowh gone lim sc k hf_x hf_jobs ) (cwV 1 hts (gw_gv mw209 mw210 mw211 mw83 mw208) rfl rfl rfl (by decide +kernel) ⟨Nat.le_of_ble_eq_true rfl, Nat.le_of_ble_eq_true rfl⟩) (gw_pv hE hB hS hW rfl hf_x) rfl hl.1 rfl (lv_room (Nat.le_of_ble_eq_true rfl)) d_X_make_2 ⟨Nat.le_of_ble_eq_true rfl, Nat.le_of_ble_eq_true rfl⟩ (fun ce5 q4 M2 H locs hw3 hW hS hce hcv hcl => ?_)
  obtain rfl := hw3
  exact gt_out hEx hlocks hce hcv hcl hS hW rfl (Nat.le_of_ble_eq_true rfl) (Nat.le_of_ble_eq_true rfl)

set_option maxHeartbeats 4000000 in
set_option maxRecDepth 100000 in
theorem c_end (l : Launch) (hl9 : l.stackTraces = false) (G : gw_G) (M : gw_M) (x : Nat) (row : Nat) (jobs : Nat) (known : Nat) (nowh : Nat) (gone : Nat) (lim : Int32) (sc : Int32) (k : Int32) (n : Int32) (f : Int32) (hf_x : M x = some (1, .inr (0, [.int lim, .int sc, .int 0, .ref row, .ref jobs, .ref known, .ref nowh, .ref gone, .int 0]))) (hf_jobs : M jobs = some (4, .inr (4, [.int 0, .ref (G.2.2.1 0), .int 0]))) : gt_Met l y_X_end [.code y_X_end b_X_end 6 (some .int)] ({ frames := 7, cells := 1, slots := 6, locals := 103 }) G M [.ref x, .int k, .int n, .int f] (fun M2 => M = M2) 1 6 := by
  refine gt_start (by decide) (Nat.le_of_ble_eq_true rfl) (fun p9 e9 s m b9 mt9 c9 hEx hx hb hr hml hown hlocks hin hE hB hW ls hl => ?_)
  have hts := hE.ts ([.ref x, .int k, .int n, .int f] : List Value).toArray
  have hl : lv_has ls 6 [(0, .ref x), (1, .int k), (2, .int n), (3, .int f)] := hl
  have hS : va_S (gw_A G) s.heap s.heap [] := va_S.rf
  have hown : s.vm.findClass "Generations" = some m.cls := hown
  refine lv_aload_n hx hb d_X_end_0 rfl (lv_at hl 0 rfl) ?_
  refine lv_iload_n hx hb d_X_end_1 rfl (lv_at hl 1 rfl) ?_
  refine gt_callV (As := [.int k]) (rest := []) hS ⟨hx, hb, hml, hown, hts⟩ (c_jobCalled l hl9 G M x row jobs known nowh gone lim sc k hf_x hf_jobs ) (cwV 1 hts (gw_gv mw209 mw210 mw211 mw83 mw208) rfl rfl rfl (by decide +kernel) ⟨Nat.le_of_ble_eq_true rfl, Nat.le_of_ble_eq_true rfl⟩) (gw_pv hE hB hS hW rfl hf_x) rfl hl.1 rfl (lv_room (Nat.le_of_ble_eq_true rfl)) d_X_end_2 ⟨Nat.le_of_ble_eq_true rfl, Nat.le_of_ble_eq_true rfl⟩ (fun ce5 q4 M2 H locs hw3 hW hS hce hcv hcl => ?_)
  obtain rfl := hw3
  exact gt_out hEx hlocks hce hcv hcl hS hW rfl (Nat.le_of_ble_eq_true rfl) (Nat.le_of_ble_eq_true rfl)

set_option maxHeartbeats 4000000 in
set_option maxRecDepth 100000 in
theorem c_restart (l : Launch) (hl9 : l.stackTraces = false) (G : gw_G) (M : gw_M) (x : Nat) (row : Nat) (jobs : Nat) (known : Nat) (nowh : Nat) (gone : Nat) (lim : Int32) (sc : Int32) (k : Int32) (n : Int32) (hf_x : M x = some (1, .inr (0, [.int lim, .int sc, .int 0, .ref row, .ref jobs, .ref known, .ref nowh, .ref gone, .int 0]))) (hf_jobs : M jobs = some (4, .inr (4, [.int 0, .ref (G.2.2.1 0), .int 0]))) : gt_Met l y_X_restart [.code y_X_restart b_X_restart 7 (some .int)] ({ frames := 7, cells := 1, slots := 6, locals := 103 }) G M [.ref x, .int k, .int n] (fun M2 => M = M2) 1 6 := by
  refine gt_start (by decide) (Nat.le_of_ble_eq_true rfl) (fun p9 e9 s m b9 mt9 c9 hEx hx hb hr hml hown hlocks hin hE hB hW ls hl => ?_)
  have hts := hE.ts ([.ref x, .int k, .int n] : List Value).toArray
  have hl : lv_has ls 7 [(0, .ref x), (1, .int k), (2, .int n)] := hl
  have hS : va_S (gw_A G) s.heap s.heap [] := va_S.rf
  have hown : s.vm.findClass "Generations" = some m.cls := hown
  refine lv_aload_n hx hb d_X_restart_0 rfl (lv_at hl 0 rfl) ?_
  refine lv_iload_n hx hb d_X_restart_1 rfl (lv_at hl 1 rfl) ?_
  refine gt_callV (As := [.int k]) (rest := []) hS ⟨hx, hb, hml, hown, hts⟩ (c_jobCalled l hl9 G M x row jobs known nowh gone lim sc k hf_x hf_jobs ) (cwV 1 hts (gw_gv mw209 mw210 mw211 mw83 mw208) rfl rfl rfl (by decide +kernel) ⟨Nat.le_of_ble_eq_true rfl, Nat.le_of_ble_eq_true rfl⟩) (gw_pv hE hB hS hW rfl hf_x) rfl hl.1 rfl (lv_room (Nat.le_of_ble_eq_true rfl)) d_X_restart_2 ⟨Nat.le_of_ble_eq_true rfl, Nat.le_of_ble_eq_true rfl⟩ (fun ce5 q4 M2 H locs hw3 hW hS hce hcv hcl => ?_)
  obtain rfl := hw3
  exact gt_out hEx hlocks hce hcv hcl hS hW rfl (Nat.le_of_ble_eq_true rfl) (Nat.le_of_ble_eq_true rfl)
end
section
abbrev b_Law_relative : ByteArray := method_3_code
abbrev y_Law_relative : MethodName := ⟨"GenerationsLaw", "relative", "(LGenerations;II[J)I"⟩
abbrev b_Law_make : ByteArray := method_4_code
abbrev y_Law_make : MethodName := ⟨"GenerationsLaw", "make", "(LGenerations;II[J)I"⟩
abbrev b_Law_restart : ByteArray := method_6_code
abbrev y_Law_restart : MethodName := ⟨"GenerationsLaw", "restart", "(LGenerations;II[J)I"⟩
abbrev b_Law_end : ByteArray := method_5_code
abbrev y_Law_end : MethodName := ⟨"GenerationsLaw", "end", "(LGenerations;IIZ[J)I"⟩
set_option maxRecDepth 20000 in
theorem mw212 : (Cond.code ({ cls := "Generations", name := "relative", desc := "(II)I" } : Jvm.MethodName) prog_1_method_4_code (5 : Nat) (Option.some Jvm.ClassFile.FieldType.int)) ∈ gw_N0 := gw_in (List.mem_append_right _ (gw_tm (i := 328) rfl))
set_option maxRecDepth 20000 in
theorem mw213 : (Cond.methodLink "GenerationsLaw" (7 : Nat) ({ cls := "Generations", name := "relative", desc := "(II)I" } : Jvm.MethodName)) ∈ gw_N0 := gw_in (List.mem_append_right _ (gw_tm (i := 325) rfl))
set_option maxRecDepth 20000 in
theorem mw214 : (Cond.instanceMethod ({ cls := "Generations", name := "relative", desc := "(II)I" } : Jvm.MethodName)) ∈ gw_N0 := gw_in (List.mem_append_right _ (gw_tm (i := 326) rfl))
set_option maxRecDepth 20000 in
theorem mw215 : (Cond.selects "Generations" ({ cls := "Generations", name := "relative", desc := "(II)I" } : Jvm.MethodName) ({ cls := "Generations", name := "relative", desc := "(II)I" } : Jvm.MethodName)) ∈ gw_N0 := gw_in (List.mem_append_right _ (gw_tm (i := 327) rfl))
set_option maxRecDepth 20000 in
theorem mw216 : (Cond.classLink "GenerationsLaw" (13 : Nat) "java/lang/IllegalArgumentException") ∈ gw_N0 := gw_in (List.mem_append_right _ (gw_tm (i := 324) rfl))
set_option maxRecDepth 20000 in
theorem mw217 : (Cond.castable "java/lang/IllegalArgumentException" "java/lang/IllegalArgumentException") ∈ gw_N0 := gw_in (List.mem_append_right _ (gw_tm (i := 335) rfl))
set_option maxRecDepth 20000 in
theorem mw218 : (Cond.code ({ cls := "Generations", name := "make", desc := "(II)I" } : Jvm.MethodName) prog_1_method_5_code (7 : Nat) (Option.some Jvm.ClassFile.FieldType.int)) ∈ gw_N0 := gw_in (List.mem_append_right _ (gw_tm (i := 424) rfl))
set_option maxRecDepth 20000 in
theorem mw219 : (Cond.methodLink "GenerationsLaw" (15 : Nat) ({ cls := "Generations", name := "make", desc := "(II)I" } : Jvm.MethodName)) ∈ gw_N0 := gw_in (List.mem_append_right _ (gw_tm (i := 421) rfl))
set_option maxRecDepth 20000 in
theorem mw220 : (Cond.instanceMethod ({ cls := "Generations", name := "make", desc := "(II)I" } : Jvm.MethodName)) ∈ gw_N0 := gw_in (List.mem_append_right _ (gw_tm (i := 422) rfl))
set_option maxRecDepth 20000 in
theorem mw221 : (Cond.selects "Generations" ({ cls := "Generations", name := "make", desc := "(II)I" } : Jvm.MethodName) ({ cls := "Generations", name := "make", desc := "(II)I" } : Jvm.MethodName)) ∈ gw_N0 := gw_in (List.mem_append_right _ (gw_tm (i := 423) rfl))
set_option maxRecDepth 20000 in
theorem mw222 : (Cond.code ({ cls := "Generations", name := "restart", desc := "(II)I" } : Jvm.MethodName) prog_1_method_8_code (7 : Nat) (Option.some Jvm.ClassFile.FieldType.int)) ∈ gw_N0 := gw_in (List.mem_append_right _ (gw_tm (i := 447) rfl))
set_option maxRecDepth 20000 in
theorem mw223 : (Cond.methodLink "GenerationsLaw" (22 : Nat) ({ cls := "Generations", name := "restart", desc := "(II)I" } : Jvm.MethodName)) ∈ gw_N0 := gw_in (List.mem_append_right _ (gw_tm (i := 444) rfl))
set_option maxRecDepth 20000 in
theorem mw224 : (Cond.instanceMethod ({ cls := "Generations", name := "restart", desc := "(II)I" } : Jvm.MethodName)) ∈ gw_N0 := gw_in (List.mem_append_right _ (gw_tm (i := 445) rfl))
set_option maxRecDepth 20000 in
theorem mw225 : (Cond.selects "Generations" ({ cls := "Generations", name := "restart", desc := "(II)I" } : Jvm.MethodName) ({ cls := "Generations", name := "restart", desc := "(II)I" } : Jvm.MethodName)) ∈ gw_N0 := gw_in (List.mem_append_right _ (gw_tm (i := 446) rfl))
set_option maxRecDepth 20000 in
theorem mw226 : (Cond.code ({ cls := "Generations", name := "end", desc := "(IIZ)I" } : Jvm.MethodName) prog_1_method_6_code (6 : Nat) (Option.some Jvm.ClassFile.FieldType.int)) ∈ gw_N0 := gw_in (List.mem_append_right _ (gw_tm (i := 440) rfl))
set_option maxRecDepth 20000 in
theorem mw227 : (Cond.methodLink "GenerationsLaw" (18 : Nat) ({ cls := "Generations", name := "end", desc := "(IIZ)I" } : Jvm.MethodName)) ∈ gw_N0 := gw_in (List.mem_append_right _ (gw_tm (i := 437) rfl))
set_option maxRecDepth 20000 in
theorem mw228 : (Cond.instanceMethod ({ cls := "Generations", name := "end", desc := "(IIZ)I" } : Jvm.MethodName)) ∈ gw_N0 := gw_in (List.mem_append_right _ (gw_tm (i := 438) rfl))
set_option maxRecDepth 20000 in
theorem mw229 : (Cond.selects "Generations" ({ cls := "Generations", name := "end", desc := "(IIZ)I" } : Jvm.MethodName) ({ cls := "Generations", name := "end", desc := "(IIZ)I" } : Jvm.MethodName)) ∈ gw_N0 := gw_in (List.mem_append_right _ (gw_tm (i := 439) rfl))
end
section
theorem d_Law_relative_0 : decode b_Law_relative 0 = .ok (.aload_n 3, 1) := by decide +kernel
theorem d_Law_relative_1 : decode b_Law_relative 1 = .ok (.iconst 0, 1) := by decide +kernel
theorem d_Law_relative_2 : decode b_Law_relative 2 = .ok (.aload_n 0, 1) := by decide +kernel
theorem d_Law_relative_3 : decode b_Law_relative 3 = .ok (.iload_n 1, 1) := by decide +kernel
theorem d_Law_relative_4 : decode b_Law_relative 4 = .ok (.iload_n 2, 1) := by decide +kernel
theorem d_Law_relative_5 : decode b_Law_relative 5 = .ok (.invokevirtual 7, 3) := by decide +kernel
theorem d_Law_relative_13 : decode b_Law_relative 13 = .ok (.astore 4, 2) := by decide +kernel
theorem d_Law_relative_15 : decode b_Law_relative 15 = .ok (.iconst 1, 1) := by decide +kernel
theorem d_Law_relative_16 : decode b_Law_relative 16 = .ok (.ireturn, 1) := by decide +kernel
theorem d_Law_make_0 : decode b_Law_make 0 = .ok (.aload_n 3, 1) := by decide +kernel
theorem d_Law_make_1 : decode b_Law_make 1 = .ok (.iconst 0, 1) := by decide +kernel
theorem d_Law_make_2 : decode b_Law_make 2 = .ok (.aload_n 0, 1) := by decide +kernel
theorem d_Law_make_3 : decode b_Law_make 3 = .ok (.iload_n 1, 1) := by decide +kernel
theorem d_Law_make_4 : decode b_Law_make 4 = .ok (.iload_n 2, 1) := by decide +kernel
theorem d_Law_make_5 : decode b_Law_make 5 = .ok (.invokevirtual 15, 3) := by decide +kernel
theorem d_Law_make_13 : decode b_Law_make 13 = .ok (.astore 4, 2) := by decide +kernel
theorem d_Law_make_15 : decode b_Law_make 15 = .ok (.iconst 1, 1) := by decide +kernel
theorem d_Law_make_16 : decode b_Law_make 16 = .ok (.ireturn, 1) := by decide +kernel
theorem d_Law_restart_0 : decode b_Law_restart 0 = .ok (.aload_n 3, 1) := by decide +kernel
theorem d_Law_restart_1 : decode b_Law_restart 1 = .ok (.iconst 0, 1) := by decide +kernel
theorem d_Law_restart_2 : decode b_Law_restart 2 = .ok (.aload_n 0, 1) := by decide +kernel
theorem d_Law_restart_3 : decode b_Law_restart 3 = .ok (.iload_n 1, 1) := by decide +kernel
theorem d_Law_restart_4 : decode b_Law_restart 4 = .ok (.iload_n 2, 1) := by decide +kernel
theorem d_Law_restart_5 : decode b_Law_restart 5 = .ok (.invokevirtual 22, 3) := by decide +kernel
theorem d_Law_restart_13 : decode b_Law_restart 13 = .ok (.astore 4, 2) := by decide +kernel
theorem d_Law_restart_15 : decode b_Law_restart 15 = .ok (.iconst 1, 1) := by decide +kernel
theorem d_Law_restart_16 : decode b_Law_restart 16 = .ok (.ireturn, 1) := by decide +kernel
theorem d_Law_end_0 : decode b_Law_end 0 = .ok (.aload 4, 2) := by decide +kernel
theorem d_Law_end_2 : decode b_Law_end 2 = .ok (.iconst 0, 1) := by decide +kernel
theorem d_Law_end_3 : decode b_Law_end 3 = .ok (.aload_n 0, 1) := by decide +kernel
theorem d_Law_end_4 : decode b_Law_end 4 = .ok (.iload_n 1, 1) := by decide +kernel
theorem d_Law_end_5 : decode b_Law_end 5 = .ok (.iload_n 2, 1) := by decide +kernel
theorem d_Law_end_6 : decode b_Law_end 6 = .ok (.iload_n 3, 1) := by decide +kernel
theorem d_Law_end_7 : decode b_Law_end 7 = .ok (.invokevirtual 18, 3) := by decide +kernel
theorem d_Law_end_15 : decode b_Law_end 15 = .ok (.astore 5, 2) := by decide +kernel
theorem d_Law_end_17 : decode b_Law_end 17 = .ok (.iconst 1, 1) := by decide +kernel
theorem d_Law_end_18 : decode b_Law_end 18 = .ok (.ireturn, 1) := by decide +kernel
end
section
set_option maxHeartbeats 4000000 in
set_option maxRecDepth 100000 in
theorem h_relative (l : Launch) (hl9 : l.stackTraces = false) (G : gw_G) (M : gw_M) (x : Nat) (row : Nat) (jobs : Nat) (known : Nat) (nowh : Nat) (gone : Nat) (lim : Int32) (sc : Int32) (k : Int32) (n : Int32) (out : Nat) (hf_x : M x = some (1, .inr (0, [.int lim, .int sc, .int 0, .ref row, .ref jobs, .ref known, .ref nowh, .ref gone, .int 0]))) (hf_jobs : M jobs = some (4, .inr (4, [.int 0, .ref (G.2.2.1 0), .int 0]))) : Met l y_Law_relative [.codeWith y_Law_relative b_Law_relative 5 (some .int) [(0, 10, 13, 13)]] ({ frames := 8, cells := 1, slots := 6, locals := 127 }) (gw_Pc G M [.ref x, .int k, .int n, .ref out]) (gw_Qi G (fun r M2 => 1 = r ∧ M = M2)) 1 6 (gw_A G) := by
  refine gt_startH (by decide) (Nat.le_of_ble_eq_true rfl) (fun p9 e9 s m b9 mt9 c9 hTab hx hb hr hml hown hlocks hin hE hB hW ls hl => ?_)
  have hts := hE.ts ([.ref x, .int k, .int n, .ref out] : List Value).toArray
  have hl : lv_has ls 5 [(0, .ref x), (1, .int k), (2, .int n), (3, .ref out)] := hl
  have hS : va_S (gw_A G) s.heap s.heap [] := va_S.rf
  have hown : s.vm.findClass "GenerationsLaw" = some m.cls := hown
  refine lv_aload_n hx hb d_Law_relative_0 rfl (lv_at hl 3 rfl) ?_
  refine lv_iconst (v := 0) hx hb d_Law_relative_1 (by decide) ?_
  refine lv_aload_n hx hb d_Law_relative_2 rfl (lv_at hl 0 rfl) ?_
  refine lv_iload_n hx hb d_Law_relative_3 rfl (lv_at hl 1 rfl) ?_
  refine lv_iload_n hx hb d_Law_relative_4 rfl (lv_at hl 2 rfl) ?_
  refine gt_callV (As := [.int k, .int n]) (rest := [.int 0, .ref out]) hS ⟨hx, hb, hml, hown, hts⟩ (c_relative l hl9 G M x row jobs known nowh gone lim sc k n hf_x hf_jobs ) (cwV 2 hts (gw_gv mw213 mw214 mw215 mw83 mw212) rfl rfl rfl (by decide +kernel) ⟨Nat.le_of_ble_eq_true rfl, Nat.le_of_ble_eq_true rfl⟩) (gw_pv hE hB hS hW rfl hf_x) rfl hl.1 rfl (lv_room (Nat.le_of_ble_eq_true rfl)) d_Law_relative_5 ⟨Nat.le_of_ble_eq_true rfl, Nat.le_of_ble_eq_true rfl⟩ (fun ce5 q4 M2 H locs hw3 hW hS hce hcv hcl => ?_)
  obtain rfl := hw3
  refine gt_catch (own := "GenerationsLaw") (x := ⟨0, 10, 13, 13⟩) hTab (by decide) (by decide) hown (hts _ mw216) (hts _ mw217) hce hcv hcl ?_
  show W _ _ _ _ _ _ _ _ _ _ _ _ _ _ _ (F0 m 13 ls [.ref q4])
  refine lv_astore (lv' := [(4, .ref q4), (0, .ref x), (1, .int k), (2, .int n), (3, .ref out)]) hx hb d_Law_relative_13 hl (by decide) rfl (fun ls hl => ?_)
  refine lv_iconst (v := 1) hx hb d_Law_relative_15 (by decide) ?_
  exact gw_iret hx hb hr hlocks hS hW (Nat.le_of_ble_eq_true rfl) (Nat.le_of_ble_eq_true rfl) d_Law_relative_16 (⟨rfl, rfl⟩)

set_option maxHeartbeats 4000000 in
set_option maxRecDepth 100000 in
theorem h_make (l : Launch) (hl9 : l.stackTraces = false) (G : gw_G) (M : gw_M) (x : Nat) (row : Nat) (jobs : Nat) (known : Nat) (nowh : Nat) (gone : Nat) (lim : Int32) (sc : Int32) (k : Int32) (n : Int32) (out : Nat) (hf_x : M x = some (1, .inr (0, [.int lim, .int sc, .int 0, .ref row, .ref jobs, .ref known, .ref nowh, .ref gone, .int 0]))) (hf_jobs : M jobs = some (4, .inr (4, [.int 0, .ref (G.2.2.1 0), .int 0]))) : Met l y_Law_make [.codeWith y_Law_make b_Law_make 5 (some .int) [(0, 10, 13, 13)]] ({ frames := 8, cells := 1, slots := 6, locals := 129 }) (gw_Pc G M [.ref x, .int k, .int n, .ref out]) (gw_Qi G (fun r M2 => 1 = r ∧ M = M2)) 1 6 (gw_A G) := by
  refine gt_startH (by decide) (Nat.le_of_ble_eq_true rfl) (fun p9 e9 s m b9 mt9 c9 hTab hx hb hr hml hown hlocks hin hE hB hW ls hl => ?_)
  have hts := hE.ts ([.ref x, .int k, .int n, .ref out] : List Value).toArray
  have hl : lv_has ls 5 [(0, .ref x), (1, .int k), (2, .int n), (3, .ref out)] := hl
  have hS : va_S (gw_A G) s.heap s.heap [] := va_S.rf
  have hown : s.vm.findClass "GenerationsLaw" = some m.cls := hown
  refine lv_aload_n hx hb d_Law_make_0 rfl (lv_at hl 3 rfl) ?_
  refine lv_iconst (v := 0) hx hb d_Law_make_1 (by decide) ?_
  refine lv_aload_n hx hb d_Law_make_2 rfl (lv_at hl 0 rfl) ?_
  refine lv_iload_n hx hb d_Law_make_3 rfl (lv_at hl 1 rfl) ?_
  refine lv_iload_n hx hb d_Law_make_4 rfl (lv_at hl 2 rfl) ?_
  refine gt_callV (As := [.int k, .int n]) (rest := [.int 0, .ref out]) hS ⟨hx, hb, hml, hown, hts⟩ (c_make l hl9 G M x row jobs known nowh gone lim sc k n hf_x hf_jobs ) (cwV 2 hts (gw_gv mw219 mw220 mw221 mw83 mw218) rfl rfl rfl (by decide +kernel) ⟨Nat.le_of_ble_eq_true rfl, Nat.le_of_ble_eq_true rfl⟩) (gw_pv hE hB hS hW rfl hf_x) rfl hl.1 rfl (lv_room (Nat.le_of_ble_eq_true rfl)) d_Law_make_5 ⟨Nat.le_of_ble_eq_true rfl, Nat.le_of_ble_eq_true rfl⟩ (fun ce5 q4 M2 H locs hw3 hW hS hce hcv hcl => ?_)
  obtain rfl := hw3
  refine gt_catch (own := "GenerationsLaw") (x := ⟨0, 10, 13, 13⟩) hTab (by decide) (by decide) hown (hts _ mw216) (hts _ mw217) hce hcv hcl ?_
  show W _ _ _ _ _ _ _ _ _ _ _ _ _ _ _ (F0 m 13 ls [.ref q4])
  refine lv_astore (lv' := [(4, .ref q4), (0, .ref x), (1, .int k), (2, .int n), (3, .ref out)]) hx hb d_Law_make_13 hl (by decide) rfl (fun ls hl => ?_)
  refine lv_iconst (v := 1) hx hb d_Law_make_15 (by decide) ?_
  exact gw_iret hx hb hr hlocks hS hW (Nat.le_of_ble_eq_true rfl) (Nat.le_of_ble_eq_true rfl) d_Law_make_16 (⟨rfl, rfl⟩)

set_option maxHeartbeats 4000000 in
set_option maxRecDepth 100000 in
theorem h_restart (l : Launch) (hl9 : l.stackTraces = false) (G : gw_G) (M : gw_M) (x : Nat) (row : Nat) (jobs : Nat) (known : Nat) (nowh : Nat) (gone : Nat) (lim : Int32) (sc : Int32) (k : Int32) (n : Int32) (out : Nat) (hf_x : M x = some (1, .inr (0, [.int lim, .int sc, .int 0, .ref row, .ref jobs, .ref known, .ref nowh, .ref gone, .int 0]))) (hf_jobs : M jobs = some (4, .inr (4, [.int 0, .ref (G.2.2.1 0), .int 0]))) : Met l y_Law_restart [.codeWith y_Law_restart b_Law_restart 5 (some .int) [(0, 10, 13, 13)]] ({ frames := 8, cells := 1, slots := 6, locals := 129 }) (gw_Pc G M [.ref x, .int k, .int n, .ref out]) (gw_Qi G (fun r M2 => 1 = r ∧ M = M2)) 1 6 (gw_A G) := by
  refine gt_startH (by decide) (Nat.le_of_ble_eq_true rfl) (fun p9 e9 s m b9 mt9 c9 hTab hx hb hr hml hown hlocks hin hE hB hW ls hl => ?_)
  have hts := hE.ts ([.ref x, .int k, .int n, .ref out] : List Value).toArray
  have hl : lv_has ls 5 [(0, .ref x), (1, .int k), (2, .int n), (3, .ref out)] := hl
  have hS : va_S (gw_A G) s.heap s.heap [] := va_S.rf
  have hown : s.vm.findClass "GenerationsLaw" = some m.cls := hown
  refine lv_aload_n hx hb d_Law_restart_0 rfl (lv_at hl 3 rfl) ?_
  refine lv_iconst (v := 0) hx hb d_Law_restart_1 (by decide) ?_
  refine lv_aload_n hx hb d_Law_restart_2 rfl (lv_at hl 0 rfl) ?_
  refine lv_iload_n hx hb d_Law_restart_3 rfl (lv_at hl 1 rfl) ?_
  refine lv_iload_n hx hb d_Law_restart_4 rfl (lv_at hl 2 rfl) ?_
  refine gt_callV (As := [.int k, .int n]) (rest := [.int 0, .ref out]) hS ⟨hx, hb, hml, hown, hts⟩ (c_restart l hl9 G M x row jobs known nowh gone lim sc k n hf_x hf_jobs ) (cwV 2 hts (gw_gv mw223 mw224 mw225 mw83 mw222) rfl rfl rfl (by decide +kernel) ⟨Nat.le_of_ble_eq_true rfl, Nat.le_of_ble_eq_true rfl⟩) (gw_pv hE hB hS hW rfl hf_x) rfl hl.1 rfl (lv_room (Nat.le_of_ble_eq_true rfl)) d_Law_restart_5 ⟨Nat.le_of_ble_eq_true rfl, Nat.le_of_ble_eq_true rfl⟩ (fun ce5 q4 M2 H locs hw3 hW hS hce hcv hcl => ?_)
  obtain rfl := hw3
  refine gt_catch (own := "GenerationsLaw") (x := ⟨0, 10, 13, 13⟩) hTab (by decide) (by decide) hown (hts _ mw216) (hts _ mw217) hce hcv hcl ?_
  show W _ _ _ _ _ _ _ _ _ _ _ _ _ _ _ (F0 m 13 ls [.ref q4])
  refine lv_astore (lv' := [(4, .ref q4), (0, .ref x), (1, .int k), (2, .int n), (3, .ref out)]) hx hb d_Law_restart_13 hl (by decide) rfl (fun ls hl => ?_)
  refine lv_iconst (v := 1) hx hb d_Law_restart_15 (by decide) ?_
  exact gw_iret hx hb hr hlocks hS hW (Nat.le_of_ble_eq_true rfl) (Nat.le_of_ble_eq_true rfl) d_Law_restart_16 (⟨rfl, rfl⟩)

set_option maxHeartbeats 4000000 in
set_option maxRecDepth 100000 in
theorem h_end (l : Launch) (hl9 : l.stackTraces = false) (G : gw_G) (M : gw_M) (x : Nat) (row : Nat) (jobs : Nat) (known : Nat) (nowh : Nat) (gone : Nat) (lim : Int32) (sc : Int32) (k : Int32) (n : Int32) (f : Int32) (out : Nat) (hf_x : M x = some (1, .inr (0, [.int lim, .int sc, .int 0, .ref row, .ref jobs, .ref known, .ref nowh, .ref gone, .int 0]))) (hf_jobs : M jobs = some (4, .inr (4, [.int 0, .ref (G.2.2.1 0), .int 0]))) : Met l y_Law_end [.codeWith y_Law_end b_Law_end 6 (some .int) [(0, 12, 15, 13)]] ({ frames := 8, cells := 1, slots := 6, locals := 128 }) (gw_Pc G M [.ref x, .int k, .int n, .int f, .ref out]) (gw_Qi G (fun r M2 => 1 = r ∧ M = M2)) 1 6 (gw_A G) := by
  refine gt_startH (by decide) (Nat.le_of_ble_eq_true rfl) (fun p9 e9 s m b9 mt9 c9 hTab hx hb hr hml hown hlocks hin hE hB hW ls hl => ?_)
  have hts := hE.ts ([.ref x, .int k, .int n, .int f, .ref out] : List Value).toArray
  have hl : lv_has ls 6 [(0, .ref x), (1, .int k), (2, .int n), (3, .int f), (4, .ref out)] := hl
  have hS : va_S (gw_A G) s.heap s.heap [] := va_S.rf
  have hown : s.vm.findClass "GenerationsLaw" = some m.cls := hown
  refine lv_aload hx hb d_Law_end_0 (lv_at hl 4 rfl) ?_
  refine lv_iconst (v := 0) hx hb d_Law_end_2 (by decide) ?_
  refine lv_aload_n hx hb d_Law_end_3 rfl (lv_at hl 0 rfl) ?_
  refine lv_iload_n hx hb d_Law_end_4 rfl (lv_at hl 1 rfl) ?_
  refine lv_iload_n hx hb d_Law_end_5 rfl (lv_at hl 2 rfl) ?_
  refine lv_iload_n hx hb d_Law_end_6 rfl (lv_at hl 3 rfl) ?_
  refine gt_callV (As := [.int k, .int n, .int f]) (rest := [.int 0, .ref out]) hS ⟨hx, hb, hml, hown, hts⟩ (c_end l hl9 G M x row jobs known nowh gone lim sc k n f hf_x hf_jobs ) (cwV 3 hts (gw_gv mw227 mw228 mw229 mw83 mw226) rfl rfl rfl (by decide +kernel) ⟨Nat.le_of_ble_eq_true rfl, Nat.le_of_ble_eq_true rfl⟩) (gw_pv hE hB hS hW rfl hf_x) rfl hl.1 rfl (lv_room (Nat.le_of_ble_eq_true rfl)) d_Law_end_7 ⟨Nat.le_of_ble_eq_true rfl, Nat.le_of_ble_eq_true rfl⟩ (fun ce5 q4 M2 H locs hw3 hW hS hce hcv hcl => ?_)
  obtain rfl := hw3
  refine gt_catch (own := "GenerationsLaw") (x := ⟨0, 12, 15, 13⟩) hTab (by decide) (by decide) hown (hts _ mw216) (hts _ mw217) hce hcv hcl ?_
  show W _ _ _ _ _ _ _ _ _ _ _ _ _ _ _ (F0 m 15 ls [.ref q4])
  refine lv_astore (lv' := [(5, .ref q4), (0, .ref x), (1, .int k), (2, .int n), (3, .int f), (4, .ref out)]) hx hb d_Law_end_15 hl (by decide) rfl (fun ls hl => ?_)
  refine lv_iconst (v := 1) hx hb d_Law_end_17 (by decide) ?_
  exact gw_iret hx hb hr hlocks hS hW (Nat.le_of_ble_eq_true rfl) (Nat.le_of_ble_eq_true rfl) d_Law_end_18 (⟨rfl, rfl⟩)
end
section
/-! THE LAW'S START: the environment out of what the Statement gives -/
theorem gw_ai {args : Array Value} {s : State} (h : (Cond.arrayClass .int).before args s = true) : ∃ c : ClassId, ArrOfT s c .int ∧ va_RA s c .int := by
  obtain ⟨c, k, comp, h1, h2, h3⟩ := Cond.arrayClass_spec h
  exact ⟨c, fun _ _ => ⟨(fun q hq => by cases hq), k, h2, comp, h3⟩, h1⟩
theorem gw_al {args : Array Value} {s : State} (h : (Cond.arrayClass .long).before args s = true) : ∃ c : ClassId, ArrOfT s c .long ∧ va_RA s c .long := by
  obtain ⟨c, k, comp, h1, h2, h3⟩ := Cond.arrayClass_spec h
  exact ⟨c, fun _ _ => ⟨(fun q hq => by cases hq), k, h2, comp, h3⟩, h1⟩
theorem gw_ao {args : Array Value} {s : State} {C : String} (h : (Cond.arrayOver (.object C)).before args s = true) : ∃ c : ClassId, ArrOfT s c (.object C) ∧ va_RA s c (.object C) := by
  obtain ⟨comp, c, k, h1, -, h2, h3, h4⟩ := Cond.arrayOver_spec h
  exact ⟨c, fun _ _ => ⟨(fun q hq => by cases hq), k, h2, comp, h3⟩, k, comp, h2, h3, h1, h4⟩
set_option maxHeartbeats 4000000 in
set_option maxRecDepth 100000 in
theorem gw_law {s : State} {b : Nat} (hts : ∀ w ∈ lw_tbl, w.before #[Value.ref b] s = true) (hgv : (Jvm.Cond.and given_1 narrow_1).before #[Value.ref b] s = true) : ∃ G : gw_G, G.2.2.2 = s.heap.size ∧ gw_E G s := by
  have hg := flat_of_before _ hgv
  have hA : ∀ a : Nat, a < s.heap.size → ¬ (fun q : Nat => s.heap.size ≤ q) a := fun a h9 => Nat.not_le.mpr h9
  obtain ⟨c0, i0, k0⟩ := u_known (C := "Generations") (T := F_X) (N := 9) (n := 9) hts in_X1 (hts (.instantiable "Generations" 9) (by decide +kernel))
  obtain ⟨c1, i1, k1⟩ := u_known (C := "Generations$Row") (T := F_Row) (N := 2) (n := 2) hts in_Row1 (hts (.instantiable "Generations$Row" 2) (by decide +kernel))
  obtain ⟨c2, i2, k2⟩ := u_known (C := "Generations$Generation") (T := F_Gen) (N := 5) (n := 5) hts in_Gen1 (hts (.instantiable "Generations$Generation" 5) (by decide +kernel))
  obtain ⟨c3, i3, k3⟩ := u_known (C := "Generations$Job") (T := F_Job) (N := 2) (n := 2) hts in_Job1 (hts (.instantiable "Generations$Job" 2) (by decide +kernel))
  obtain ⟨c4, i4, k4⟩ := u_known (C := "java/util/ArrayList") (T := F_AL) (N := 3) (n := 3) hts in_AL1 (hts (.instantiable "java/util/ArrayList" 3) (by decide +kernel))
  obtain ⟨c5, i5, k5⟩ := u_known (C := "GenerationsModel") (T := F_Mo) (N := 15) (n := 15) hts in_Mo1 (hts (.instantiable "GenerationsModel" 15) (by decide +kernel))
  obtain ⟨dC, dI, hKc⟩ : ∃ (dC : Nat → ClassId) (dI : Nat → Nat → Nat), ∀ (k : Nat) (q : vw_C), vwCl[k]? = some q → u_Kn s q.1 q.2.1 q.2.2 (dC k) (dI k) := by
    refine ⟨fun k => match k with | 0 => c0 | 1 => c1 | 2 => c2 | 3 => c3 | 4 => c4 | _ => c5, fun k => match k with | 0 => i0 | 1 => i1 | 2 => i2 | 3 => i3 | 4 => i4 | _ => i5, ?_⟩
    intro k q hq
    match k, hq with
    | 0, hq => cases hq; exact k0
    | 1, hq => cases hq; exact k1
    | 2, hq => cases hq; exact k2
    | 3, hq => cases hq; exact k3
    | 4, hq => cases hq; exact k4
    | 5, hq => cases hq; exact k5
    | k + 6, hq => simp [vwCl] at hq
  obtain ⟨a0, e0⟩ := gw_ai (hts (.arrayClass .int) (by decide +kernel))
  obtain ⟨a1, e1⟩ := gw_ao (hts (.arrayOver (.object "java/lang/Object")) (by decide +kernel))
  obtain ⟨a2, e2⟩ := gw_al (hts (.arrayClass .long) (by decide +kernel))
  obtain ⟨t0, ht0, hT0⟩ := va_Tof (f := fun _ => .null) (N := 0) (A := fun q : Nat => s.heap.size ≤ q) (by decide) (hg (.arrayOf (.static "java/util/ArrayList" "DEFAULTCAPACITY_EMPTY_ELEMENTDATA" "[Ljava/lang/Object;") (.object "java/lang/Object")) (by decide +kernel)) (va_eqt (hg (.eq (.length (.static "java/util/ArrayList" "DEFAULTCAPACITY_EMPTY_ELEMENTDATA" "[Ljava/lang/Object;")) (.int 0)) (by decide +kernel))) (fun j hj => absurd hj (Nat.not_lt_zero j)) hA
  have hZ0 : va_Z "java/util/ArrayList" "DEFAULTCAPACITY_EMPTY_ELEMENTDATA" "[Ljava/lang/Object;" (.ref t0) (fun q : Nat => s.heap.size ≤ q) s s.heap := va_Zref (hts (.laysStatic "java/util/ArrayList" "DEFAULTCAPACITY_EMPTY_ELEMENTDATA" "[Ljava/lang/Object;") (by decide +kernel)) (hts (.initialized "java/util/ArrayList") (by decide +kernel)) ht0 hA
  have hU := gt_L.of (A := fun q : Nat => s.heap.size ≤ q) (hts (.laysStatic "java/lang/Throwable" "UNASSIGNED_STACK" "[Ljava/lang/StackTraceElement;") (by decide +kernel)) (hts (.initialized "java/lang/Throwable") (by decide +kernel)) (hg (.isRef (.static "java/lang/Throwable" "UNASSIGNED_STACK" "[Ljava/lang/StackTraceElement;")) (by decide +kernel)) hA
  have hV := gt_L.of (A := fun q : Nat => s.heap.size ≤ q) (hts (.laysStatic "java/lang/Throwable" "SUPPRESSED_SENTINEL" "Ljava/util/List;") (by decide +kernel)) (hts (.initialized "java/lang/Throwable") (by decide +kernel)) (hg (.isRef (.static "java/lang/Throwable" "SUPPRESSED_SENTINEL" "Ljava/util/List;")) (by decide +kernel)) hA
  have w1 := hts (.stringRef "Generations" 164 "there is no such job") (by decide +kernel)
  have w2 := hts (.stringRef "Generations" 106 "n is above 99") (by decide +kernel)
  have w3 := hts (.stringRef "Generations" 121 "n is not 1 .. 99") (by decide +kernel)
  obtain ⟨-, -, -, s1, -, -, -, -, -, v1⟩ := Cond.stringRef_spec k0.2.1 w1
  obtain ⟨-, -, -, s2, -, -, -, -, -, v2⟩ := Cond.stringRef_spec k0.2.1 w2
  obtain ⟨-, -, -, s3, -, -, -, -, -, v3⟩ := Cond.stringRef_spec k0.2.1 w3
  refine ⟨((dC, dI), fun k => match k with | 0 => a0 | 1 => a1 | _ => a2, fun k => match k with | 0 => t0 | 1 => s1 | 2 => s2 | _ => s3, s.heap.size), rfl, ⟨hKc, ?_⟩, ?_, hZ0, hT0, hU, hV, vk_R.of w1 v1, vk_R.of w2 v2, vk_R.of w3 v3, va_AO.of (hts (.arrayOver (.object "java/lang/Object")) (by decide +kernel))⟩
  · intro k q hq
    match k, hq with
    | 0, hq => cases hq; exact e0
    | 1, hq => cases hq; exact e1
    | 2, hq => cases hq; exact e2
    | k + 3, hq => simp [gw_ty] at hq
  · intro w hw
    exact gw_ww (gw_N0_gk hw) (State.WarmedH.refl s) (hts w (List.mem_filter.mp hw).1)
/-- the empty map -/
theorem gw_P.nil {D : va_G} {cl : List vw_C} {B0 : Nat} {H : Heap} : gw_P D cl B0 (fun _ => none) H := ⟨[], fun k q h => by simp at h, ⟨fun i j p q h => by simp at h, fun k q h => by simp at h⟩, fun a r e h => by cases h⟩
end
section
abbrev b_Law_cell : ByteArray := method_2_code
abbrev y_Law_cell : MethodName := ⟨"GenerationsLaw", "cell", "([II)I"⟩
abbrev b_Law_law : ByteArray := code
abbrev y_Law_law : MethodName := ⟨"GenerationsLaw", "law", "([I)Z"⟩
set_option maxRecDepth 20000 in
theorem mw230 : (Cond.classLink "GenerationsLaw" (8 : Nat) "Generations") ∈ gw_N0 := gw_in (List.mem_append_right _ (gw_tm (i := 19) rfl))
set_option maxRecDepth 20000 in
theorem mw231 : (Cond.instantiable "Generations" (9 : Nat)) ∈ gw_N0 := gw_in (List.mem_append_right _ (gw_tm (i := 20) rfl))
set_option maxRecDepth 20000 in
theorem mw232 : (Cond.methodLink "GenerationsLaw" (25 : Nat) ({ cls := "GenerationsLaw", name := "cell", desc := "([II)I" } : Jvm.MethodName)) ∈ gw_N0 := gw_in (List.mem_append_right _ (gw_tm (i := 318) rfl))
set_option maxRecDepth 20000 in
theorem mw233 : (Cond.static ({ cls := "GenerationsLaw", name := "cell", desc := "([II)I" } : Jvm.MethodName)) ∈ gw_N0 := gw_in (List.mem_append_right _ (gw_tm (i := 319) rfl))
set_option maxRecDepth 20000 in
theorem mw234 : (Cond.initialized "GenerationsLaw") ∈ gw_N0 := gw_in (List.mem_append_right _ (gw_tm (i := 0) rfl))
set_option maxRecDepth 20000 in
theorem mw235 : (Cond.code ({ cls := "GenerationsLaw", name := "cell", desc := "([II)I" } : Jvm.MethodName) method_2_code (2 : Nat) (Option.some Jvm.ClassFile.FieldType.int)) ∈ gw_N0 := gw_in (List.mem_append_right _ (gw_tm (i := 320) rfl))
set_option maxRecDepth 20000 in
theorem mw236 : (Cond.code ({ cls := "Generations", name := "<init>", desc := "(II)V" } : Jvm.MethodName) prog_1_method_1_code (3 : Nat) (Option.none : Option Jvm.ClassFile.FieldType)) ∈ gw_N0 := gw_in (List.mem_append_right _ (gw_tm (i := 23) rfl))
set_option maxRecDepth 20000 in
theorem mw237 : (Cond.methodLink "GenerationsLaw" (31 : Nat) ({ cls := "Generations", name := "<init>", desc := "(II)V" } : Jvm.MethodName)) ∈ gw_N0 := gw_in (List.mem_append_right _ (gw_tm (i := 21) rfl))
set_option maxRecDepth 20000 in
theorem mw238 : (Cond.instanceMethod ({ cls := "Generations", name := "<init>", desc := "(II)V" } : Jvm.MethodName)) ∈ gw_N0 := gw_in (List.mem_append_right _ (gw_tm (i := 22) rfl))
set_option maxRecDepth 20000 in
theorem mw239 : (Cond.classLink "GenerationsLaw" (34 : Nat) "GenerationsModel") ∈ gw_N0 := gw_in (List.mem_append_right _ (gw_tm (i := 452) rfl))
set_option maxRecDepth 20000 in
theorem mw240 : (Cond.instantiable "GenerationsModel" (15 : Nat)) ∈ gw_N0 := gw_in (List.mem_append_right _ (gw_tm (i := 453) rfl))
set_option maxRecDepth 20000 in
theorem mw241 : (Cond.code ({ cls := "GenerationsModel", name := "<init>", desc := "(II)V" } : Jvm.MethodName) prog_6_method_1_code (3 : Nat) (Option.none : Option Jvm.ClassFile.FieldType)) ∈ gw_N0 := gw_in (List.mem_append_right _ (gw_tm (i := 456) rfl))
set_option maxRecDepth 20000 in
theorem mw242 : (Cond.methodLink "GenerationsLaw" (36 : Nat) ({ cls := "GenerationsModel", name := "<init>", desc := "(II)V" } : Jvm.MethodName)) ∈ gw_N0 := gw_in (List.mem_append_right _ (gw_tm (i := 454) rfl))
set_option maxRecDepth 20000 in
theorem mw243 : (Cond.instanceMethod ({ cls := "GenerationsModel", name := "<init>", desc := "(II)V" } : Jvm.MethodName)) ∈ gw_N0 := gw_in (List.mem_append_right _ (gw_tm (i := 455) rfl))
set_option maxRecDepth 20000 in
theorem mw244 : (Cond.arrayClass Jvm.ClassFile.FieldType.long) ∈ gw_N0 := gw_in (List.mem_append_right _ (gw_tm (i := 610) rfl))
set_option maxRecDepth 20000 in
theorem mw245 : (Cond.code ({ cls := "Generations", name := "catalogue", desc := "(I)I" } : Jvm.MethodName) prog_1_method_2_code (3 : Nat) (Option.some Jvm.ClassFile.FieldType.int)) ∈ gw_N0 := gw_in (List.mem_append_right _ (gw_tm (i := 132) rfl))
set_option maxRecDepth 20000 in
theorem mw246 : (Cond.methodLink "GenerationsLaw" (37 : Nat) ({ cls := "Generations", name := "catalogue", desc := "(I)I" } : Jvm.MethodName)) ∈ gw_N0 := gw_in (List.mem_append_right _ (gw_tm (i := 129) rfl))
set_option maxRecDepth 20000 in
theorem mw247 : (Cond.instanceMethod ({ cls := "Generations", name := "catalogue", desc := "(I)I" } : Jvm.MethodName)) ∈ gw_N0 := gw_in (List.mem_append_right _ (gw_tm (i := 130) rfl))
set_option maxRecDepth 20000 in
theorem mw248 : (Cond.selects "Generations" ({ cls := "Generations", name := "catalogue", desc := "(I)I" } : Jvm.MethodName) ({ cls := "Generations", name := "catalogue", desc := "(I)I" } : Jvm.MethodName)) ∈ gw_N0 := gw_in (List.mem_append_right _ (gw_tm (i := 131) rfl))
set_option maxRecDepth 20000 in
theorem mw249 : (Cond.code ({ cls := "GenerationsModel", name := "catalogue", desc := "(I)I" } : Jvm.MethodName) prog_6_method_12_code (2 : Nat) (Option.some Jvm.ClassFile.FieldType.int)) ∈ gw_N0 := gw_in (List.mem_append_right _ (gw_tm (i := 511) rfl))
set_option maxRecDepth 20000 in
theorem mw250 : (Cond.methodLink "GenerationsLaw" (41 : Nat) ({ cls := "GenerationsModel", name := "catalogue", desc := "(I)I" } : Jvm.MethodName)) ∈ gw_N0 := gw_in (List.mem_append_right _ (gw_tm (i := 508) rfl))
set_option maxRecDepth 20000 in
theorem mw251 : (Cond.instanceMethod ({ cls := "GenerationsModel", name := "catalogue", desc := "(I)I" } : Jvm.MethodName)) ∈ gw_N0 := gw_in (List.mem_append_right _ (gw_tm (i := 509) rfl))
set_option maxRecDepth 20000 in
theorem mw252 : (Cond.selects "GenerationsModel" ({ cls := "GenerationsModel", name := "catalogue", desc := "(I)I" } : Jvm.MethodName) ({ cls := "GenerationsModel", name := "catalogue", desc := "(I)I" } : Jvm.MethodName)) ∈ gw_N0 := gw_in (List.mem_append_right _ (gw_tm (i := 510) rfl))
set_option maxRecDepth 20000 in
theorem mw253 : (Cond.code ({ cls := "Generations", name := "job", desc := "()I" } : Jvm.MethodName) prog_1_method_3_code (1 : Nat) (Option.some Jvm.ClassFile.FieldType.int)) ∈ gw_N0 := gw_in (List.mem_append_right _ (gw_tm (i := 254) rfl))
set_option maxRecDepth 20000 in
theorem mw254 : (Cond.methodLink "GenerationsLaw" (42 : Nat) ({ cls := "Generations", name := "job", desc := "()I" } : Jvm.MethodName)) ∈ gw_N0 := gw_in (List.mem_append_right _ (gw_tm (i := 251) rfl))
set_option maxRecDepth 20000 in
theorem mw255 : (Cond.instanceMethod ({ cls := "Generations", name := "job", desc := "()I" } : Jvm.MethodName)) ∈ gw_N0 := gw_in (List.mem_append_right _ (gw_tm (i := 252) rfl))
set_option maxRecDepth 20000 in
theorem mw256 : (Cond.selects "Generations" ({ cls := "Generations", name := "job", desc := "()I" } : Jvm.MethodName) ({ cls := "Generations", name := "job", desc := "()I" } : Jvm.MethodName)) ∈ gw_N0 := gw_in (List.mem_append_right _ (gw_tm (i := 253) rfl))
set_option maxRecDepth 20000 in
theorem mw257 : (Cond.code ({ cls := "GenerationsModel", name := "job", desc := "()I" } : Jvm.MethodName) prog_6_method_14_code (2 : Nat) (Option.some Jvm.ClassFile.FieldType.int)) ∈ gw_N0 := gw_in (List.mem_append_right _ (gw_tm (i := 545) rfl))
set_option maxRecDepth 20000 in
theorem mw258 : (Cond.methodLink "GenerationsLaw" (46 : Nat) ({ cls := "GenerationsModel", name := "job", desc := "()I" } : Jvm.MethodName)) ∈ gw_N0 := gw_in (List.mem_append_right _ (gw_tm (i := 542) rfl))
set_option maxRecDepth 20000 in
theorem mw259 : (Cond.instanceMethod ({ cls := "GenerationsModel", name := "job", desc := "()I" } : Jvm.MethodName)) ∈ gw_N0 := gw_in (List.mem_append_right _ (gw_tm (i := 543) rfl))
set_option maxRecDepth 20000 in
theorem mw260 : (Cond.selects "GenerationsModel" ({ cls := "GenerationsModel", name := "job", desc := "()I" } : Jvm.MethodName) ({ cls := "GenerationsModel", name := "job", desc := "()I" } : Jvm.MethodName)) ∈ gw_N0 := gw_in (List.mem_append_right _ (gw_tm (i := 544) rfl))
set_option maxRecDepth 20000 in
theorem mw261 : (Cond.codeWith ({ cls := "GenerationsLaw", name := "relative", desc := "(LGenerations;II[J)I" } : Jvm.MethodName) method_3_code (5 : Nat) (Option.some Jvm.ClassFile.FieldType.int) [((0 : Nat), (10 : Nat), (13 : Nat), (13 : Nat))]) ∈ gw_N0 := gw_in (List.mem_append_right _ (gw_tm (i := 323) rfl))
set_option maxRecDepth 20000 in
theorem mw262 : (Cond.methodLink "GenerationsLaw" (47 : Nat) ({ cls := "GenerationsLaw", name := "relative", desc := "(LGenerations;II[J)I" } : Jvm.MethodName)) ∈ gw_N0 := gw_in (List.mem_append_right _ (gw_tm (i := 321) rfl))
set_option maxRecDepth 20000 in
theorem mw263 : (Cond.static ({ cls := "GenerationsLaw", name := "relative", desc := "(LGenerations;II[J)I" } : Jvm.MethodName)) ∈ gw_N0 := gw_in (List.mem_append_right _ (gw_tm (i := 322) rfl))
set_option maxRecDepth 20000 in
theorem mw264 : (Cond.code ({ cls := "GenerationsModel", name := "relative", desc := "(II)I" } : Jvm.MethodName) prog_6_method_17_code (4 : Nat) (Option.some Jvm.ClassFile.FieldType.int)) ∈ gw_N0 := gw_in (List.mem_append_right _ (gw_tm (i := 549) rfl))
set_option maxRecDepth 20000 in
theorem mw265 : (Cond.methodLink "GenerationsLaw" (50 : Nat) ({ cls := "GenerationsModel", name := "relative", desc := "(II)I" } : Jvm.MethodName)) ∈ gw_N0 := gw_in (List.mem_append_right _ (gw_tm (i := 546) rfl))
set_option maxRecDepth 20000 in
theorem mw266 : (Cond.instanceMethod ({ cls := "GenerationsModel", name := "relative", desc := "(II)I" } : Jvm.MethodName)) ∈ gw_N0 := gw_in (List.mem_append_right _ (gw_tm (i := 547) rfl))
set_option maxRecDepth 20000 in
theorem mw267 : (Cond.selects "GenerationsModel" ({ cls := "GenerationsModel", name := "relative", desc := "(II)I" } : Jvm.MethodName) ({ cls := "GenerationsModel", name := "relative", desc := "(II)I" } : Jvm.MethodName)) ∈ gw_N0 := gw_in (List.mem_append_right _ (gw_tm (i := 548) rfl))
set_option maxRecDepth 20000 in
theorem mw268 : (Cond.code ({ cls := "GenerationsModel", name := "thrown", desc := "()I" } : Jvm.MethodName) prog_6_method_2_code (1 : Nat) (Option.some Jvm.ClassFile.FieldType.int)) ∈ gw_N0 := gw_in (List.mem_append_right _ (gw_tm (i := 507) rfl))
set_option maxRecDepth 20000 in
theorem mw269 : (Cond.methodLink "GenerationsLaw" (51 : Nat) ({ cls := "GenerationsModel", name := "thrown", desc := "()I" } : Jvm.MethodName)) ∈ gw_N0 := gw_in (List.mem_append_right _ (gw_tm (i := 504) rfl))
set_option maxRecDepth 20000 in
theorem mw270 : (Cond.instanceMethod ({ cls := "GenerationsModel", name := "thrown", desc := "()I" } : Jvm.MethodName)) ∈ gw_N0 := gw_in (List.mem_append_right _ (gw_tm (i := 505) rfl))
set_option maxRecDepth 20000 in
theorem mw271 : (Cond.selects "GenerationsModel" ({ cls := "GenerationsModel", name := "thrown", desc := "()I" } : Jvm.MethodName) ({ cls := "GenerationsModel", name := "thrown", desc := "()I" } : Jvm.MethodName)) ∈ gw_N0 := gw_in (List.mem_append_right _ (gw_tm (i := 506) rfl))
set_option maxRecDepth 20000 in
theorem mw272 : (Cond.codeWith ({ cls := "GenerationsLaw", name := "make", desc := "(LGenerations;II[J)I" } : Jvm.MethodName) method_4_code (5 : Nat) (Option.some Jvm.ClassFile.FieldType.int) [((0 : Nat), (10 : Nat), (13 : Nat), (13 : Nat))]) ∈ gw_N0 := gw_in (List.mem_append_right _ (gw_tm (i := 420) rfl))
set_option maxRecDepth 20000 in
theorem mw273 : (Cond.methodLink "GenerationsLaw" (54 : Nat) ({ cls := "GenerationsLaw", name := "make", desc := "(LGenerations;II[J)I" } : Jvm.MethodName)) ∈ gw_N0 := gw_in (List.mem_append_right _ (gw_tm (i := 418) rfl))
set_option maxRecDepth 20000 in
theorem mw274 : (Cond.static ({ cls := "GenerationsLaw", name := "make", desc := "(LGenerations;II[J)I" } : Jvm.MethodName)) ∈ gw_N0 := gw_in (List.mem_append_right _ (gw_tm (i := 419) rfl))
set_option maxRecDepth 20000 in
theorem mw275 : (Cond.code ({ cls := "GenerationsModel", name := "make", desc := "(II)I" } : Jvm.MethodName) prog_6_method_18_code (4 : Nat) (Option.some Jvm.ClassFile.FieldType.int)) ∈ gw_N0 := gw_in (List.mem_append_right _ (gw_tm (i := 569) rfl))
set_option maxRecDepth 20000 in
theorem mw276 : (Cond.methodLink "GenerationsLaw" (56 : Nat) ({ cls := "GenerationsModel", name := "make", desc := "(II)I" } : Jvm.MethodName)) ∈ gw_N0 := gw_in (List.mem_append_right _ (gw_tm (i := 566) rfl))
set_option maxRecDepth 20000 in
theorem mw277 : (Cond.instanceMethod ({ cls := "GenerationsModel", name := "make", desc := "(II)I" } : Jvm.MethodName)) ∈ gw_N0 := gw_in (List.mem_append_right _ (gw_tm (i := 567) rfl))
set_option maxRecDepth 20000 in
theorem mw278 : (Cond.selects "GenerationsModel" ({ cls := "GenerationsModel", name := "make", desc := "(II)I" } : Jvm.MethodName) ({ cls := "GenerationsModel", name := "make", desc := "(II)I" } : Jvm.MethodName)) ∈ gw_N0 := gw_in (List.mem_append_right _ (gw_tm (i := 568) rfl))
set_option maxRecDepth 20000 in
theorem mw279 : (Cond.codeWith ({ cls := "GenerationsLaw", name := "end", desc := "(LGenerations;IIZ[J)I" } : Jvm.MethodName) method_5_code (6 : Nat) (Option.some Jvm.ClassFile.FieldType.int) [((0 : Nat), (12 : Nat), (15 : Nat), (13 : Nat))]) ∈ gw_N0 := gw_in (List.mem_append_right _ (gw_tm (i := 436) rfl))
set_option maxRecDepth 20000 in
theorem mw280 : (Cond.methodLink "GenerationsLaw" (57 : Nat) ({ cls := "GenerationsLaw", name := "end", desc := "(LGenerations;IIZ[J)I" } : Jvm.MethodName)) ∈ gw_N0 := gw_in (List.mem_append_right _ (gw_tm (i := 434) rfl))
set_option maxRecDepth 20000 in
theorem mw281 : (Cond.static ({ cls := "GenerationsLaw", name := "end", desc := "(LGenerations;IIZ[J)I" } : Jvm.MethodName)) ∈ gw_N0 := gw_in (List.mem_append_right _ (gw_tm (i := 435) rfl))
set_option maxRecDepth 20000 in
theorem mw282 : (Cond.code ({ cls := "GenerationsModel", name := "end", desc := "(IIZ)I" } : Jvm.MethodName) prog_6_method_20_code (6 : Nat) (Option.some Jvm.ClassFile.FieldType.int)) ∈ gw_N0 := gw_in (List.mem_append_right _ (gw_tm (i := 573) rfl))
set_option maxRecDepth 20000 in
theorem mw283 : (Cond.methodLink "GenerationsLaw" (60 : Nat) ({ cls := "GenerationsModel", name := "end", desc := "(IIZ)I" } : Jvm.MethodName)) ∈ gw_N0 := gw_in (List.mem_append_right _ (gw_tm (i := 570) rfl))
set_option maxRecDepth 20000 in
theorem mw284 : (Cond.instanceMethod ({ cls := "GenerationsModel", name := "end", desc := "(IIZ)I" } : Jvm.MethodName)) ∈ gw_N0 := gw_in (List.mem_append_right _ (gw_tm (i := 571) rfl))
set_option maxRecDepth 20000 in
theorem mw285 : (Cond.selects "GenerationsModel" ({ cls := "GenerationsModel", name := "end", desc := "(IIZ)I" } : Jvm.MethodName) ({ cls := "GenerationsModel", name := "end", desc := "(IIZ)I" } : Jvm.MethodName)) ∈ gw_N0 := gw_in (List.mem_append_right _ (gw_tm (i := 572) rfl))
set_option maxRecDepth 20000 in
theorem mw286 : (Cond.code ({ cls := "Generations", name := "dropped", desc := "(I)I" } : Jvm.MethodName) prog_1_method_7_code (2 : Nat) (Option.some Jvm.ClassFile.FieldType.int)) ∈ gw_N0 := gw_in (List.mem_append_right _ (gw_tm (i := 285) rfl))
set_option maxRecDepth 20000 in
theorem mw287 : (Cond.methodLink "GenerationsLaw" (61 : Nat) ({ cls := "Generations", name := "dropped", desc := "(I)I" } : Jvm.MethodName)) ∈ gw_N0 := gw_in (List.mem_append_right _ (gw_tm (i := 282) rfl))
set_option maxRecDepth 20000 in
theorem mw288 : (Cond.instanceMethod ({ cls := "Generations", name := "dropped", desc := "(I)I" } : Jvm.MethodName)) ∈ gw_N0 := gw_in (List.mem_append_right _ (gw_tm (i := 283) rfl))
set_option maxRecDepth 20000 in
theorem mw289 : (Cond.selects "Generations" ({ cls := "Generations", name := "dropped", desc := "(I)I" } : Jvm.MethodName) ({ cls := "Generations", name := "dropped", desc := "(I)I" } : Jvm.MethodName)) ∈ gw_N0 := gw_in (List.mem_append_right _ (gw_tm (i := 284) rfl))
set_option maxRecDepth 20000 in
theorem mw290 : (Cond.code ({ cls := "GenerationsModel", name := "dropped", desc := "(I)I" } : Jvm.MethodName) prog_6_method_22_code (2 : Nat) (Option.some Jvm.ClassFile.FieldType.int)) ∈ gw_N0 := gw_in (List.mem_append_right _ (gw_tm (i := 585) rfl))
set_option maxRecDepth 20000 in
theorem mw291 : (Cond.methodLink "GenerationsLaw" (64 : Nat) ({ cls := "GenerationsModel", name := "dropped", desc := "(I)I" } : Jvm.MethodName)) ∈ gw_N0 := gw_in (List.mem_append_right _ (gw_tm (i := 582) rfl))
set_option maxRecDepth 20000 in
theorem mw292 : (Cond.instanceMethod ({ cls := "GenerationsModel", name := "dropped", desc := "(I)I" } : Jvm.MethodName)) ∈ gw_N0 := gw_in (List.mem_append_right _ (gw_tm (i := 583) rfl))
set_option maxRecDepth 20000 in
theorem mw293 : (Cond.selects "GenerationsModel" ({ cls := "GenerationsModel", name := "dropped", desc := "(I)I" } : Jvm.MethodName) ({ cls := "GenerationsModel", name := "dropped", desc := "(I)I" } : Jvm.MethodName)) ∈ gw_N0 := gw_in (List.mem_append_right _ (gw_tm (i := 584) rfl))
set_option maxRecDepth 20000 in
theorem mw294 : (Cond.codeWith ({ cls := "GenerationsLaw", name := "restart", desc := "(LGenerations;II[J)I" } : Jvm.MethodName) method_6_code (5 : Nat) (Option.some Jvm.ClassFile.FieldType.int) [((0 : Nat), (10 : Nat), (13 : Nat), (13 : Nat))]) ∈ gw_N0 := gw_in (List.mem_append_right _ (gw_tm (i := 443) rfl))
set_option maxRecDepth 20000 in
theorem mw295 : (Cond.methodLink "GenerationsLaw" (65 : Nat) ({ cls := "GenerationsLaw", name := "restart", desc := "(LGenerations;II[J)I" } : Jvm.MethodName)) ∈ gw_N0 := gw_in (List.mem_append_right _ (gw_tm (i := 441) rfl))
set_option maxRecDepth 20000 in
theorem mw296 : (Cond.static ({ cls := "GenerationsLaw", name := "restart", desc := "(LGenerations;II[J)I" } : Jvm.MethodName)) ∈ gw_N0 := gw_in (List.mem_append_right _ (gw_tm (i := 442) rfl))
set_option maxRecDepth 20000 in
theorem mw297 : (Cond.code ({ cls := "GenerationsModel", name := "restart", desc := "(II)I" } : Jvm.MethodName) prog_6_method_21_code (6 : Nat) (Option.some Jvm.ClassFile.FieldType.int)) ∈ gw_N0 := gw_in (List.mem_append_right _ (gw_tm (i := 581) rfl))
set_option maxRecDepth 20000 in
theorem mw298 : (Cond.methodLink "GenerationsLaw" (67 : Nat) ({ cls := "GenerationsModel", name := "restart", desc := "(II)I" } : Jvm.MethodName)) ∈ gw_N0 := gw_in (List.mem_append_right _ (gw_tm (i := 578) rfl))
set_option maxRecDepth 20000 in
theorem mw299 : (Cond.instanceMethod ({ cls := "GenerationsModel", name := "restart", desc := "(II)I" } : Jvm.MethodName)) ∈ gw_N0 := gw_in (List.mem_append_right _ (gw_tm (i := 579) rfl))
set_option maxRecDepth 20000 in
theorem mw300 : (Cond.selects "GenerationsModel" ({ cls := "GenerationsModel", name := "restart", desc := "(II)I" } : Jvm.MethodName) ({ cls := "GenerationsModel", name := "restart", desc := "(II)I" } : Jvm.MethodName)) ∈ gw_N0 := gw_in (List.mem_append_right _ (gw_tm (i := 580) rfl))
set_option maxRecDepth 20000 in
theorem mw301 : (Cond.code ({ cls := "Generations", name := "list", desc := "(I)I" } : Jvm.MethodName) prog_1_method_9_code (2 : Nat) (Option.some Jvm.ClassFile.FieldType.int)) ∈ gw_N0 := gw_in (List.mem_append_right _ (gw_tm (i := 289) rfl))
set_option maxRecDepth 20000 in
theorem mw302 : (Cond.methodLink "GenerationsLaw" (68 : Nat) ({ cls := "Generations", name := "list", desc := "(I)I" } : Jvm.MethodName)) ∈ gw_N0 := gw_in (List.mem_append_right _ (gw_tm (i := 286) rfl))
set_option maxRecDepth 20000 in
theorem mw303 : (Cond.instanceMethod ({ cls := "Generations", name := "list", desc := "(I)I" } : Jvm.MethodName)) ∈ gw_N0 := gw_in (List.mem_append_right _ (gw_tm (i := 287) rfl))
set_option maxRecDepth 20000 in
theorem mw304 : (Cond.selects "Generations" ({ cls := "Generations", name := "list", desc := "(I)I" } : Jvm.MethodName) ({ cls := "Generations", name := "list", desc := "(I)I" } : Jvm.MethodName)) ∈ gw_N0 := gw_in (List.mem_append_right _ (gw_tm (i := 288) rfl))
set_option maxRecDepth 20000 in
theorem mw305 : (Cond.code ({ cls := "GenerationsModel", name := "list", desc := "(I)I" } : Jvm.MethodName) prog_6_method_23_code (2 : Nat) (Option.some Jvm.ClassFile.FieldType.int)) ∈ gw_N0 := gw_in (List.mem_append_right _ (gw_tm (i := 589) rfl))
set_option maxRecDepth 20000 in
theorem mw306 : (Cond.methodLink "GenerationsLaw" (71 : Nat) ({ cls := "GenerationsModel", name := "list", desc := "(I)I" } : Jvm.MethodName)) ∈ gw_N0 := gw_in (List.mem_append_right _ (gw_tm (i := 586) rfl))
set_option maxRecDepth 20000 in
theorem mw307 : (Cond.instanceMethod ({ cls := "GenerationsModel", name := "list", desc := "(I)I" } : Jvm.MethodName)) ∈ gw_N0 := gw_in (List.mem_append_right _ (gw_tm (i := 587) rfl))
set_option maxRecDepth 20000 in
theorem mw308 : (Cond.selects "GenerationsModel" ({ cls := "GenerationsModel", name := "list", desc := "(I)I" } : Jvm.MethodName) ({ cls := "GenerationsModel", name := "list", desc := "(I)I" } : Jvm.MethodName)) ∈ gw_N0 := gw_in (List.mem_append_right _ (gw_tm (i := 588) rfl))
set_option maxRecDepth 20000 in
theorem mw309 : (Cond.code ({ cls := "Generations", name := "reclaim", desc := "(I)I" } : Jvm.MethodName) prog_1_method_10_code (3 : Nat) (Option.some Jvm.ClassFile.FieldType.int)) ∈ gw_N0 := gw_in (List.mem_append_right _ (gw_tm (i := 293) rfl))
set_option maxRecDepth 20000 in
theorem mw310 : (Cond.methodLink "GenerationsLaw" (72 : Nat) ({ cls := "Generations", name := "reclaim", desc := "(I)I" } : Jvm.MethodName)) ∈ gw_N0 := gw_in (List.mem_append_right _ (gw_tm (i := 290) rfl))
set_option maxRecDepth 20000 in
theorem mw311 : (Cond.instanceMethod ({ cls := "Generations", name := "reclaim", desc := "(I)I" } : Jvm.MethodName)) ∈ gw_N0 := gw_in (List.mem_append_right _ (gw_tm (i := 291) rfl))
set_option maxRecDepth 20000 in
theorem mw312 : (Cond.selects "Generations" ({ cls := "Generations", name := "reclaim", desc := "(I)I" } : Jvm.MethodName) ({ cls := "Generations", name := "reclaim", desc := "(I)I" } : Jvm.MethodName)) ∈ gw_N0 := gw_in (List.mem_append_right _ (gw_tm (i := 292) rfl))
set_option maxRecDepth 20000 in
theorem mw313 : (Cond.code ({ cls := "GenerationsModel", name := "reclaim", desc := "(I)I" } : Jvm.MethodName) prog_6_method_24_code (2 : Nat) (Option.some Jvm.ClassFile.FieldType.int)) ∈ gw_N0 := gw_in (List.mem_append_right _ (gw_tm (i := 593) rfl))
set_option maxRecDepth 20000 in
theorem mw314 : (Cond.methodLink "GenerationsLaw" (75 : Nat) ({ cls := "GenerationsModel", name := "reclaim", desc := "(I)I" } : Jvm.MethodName)) ∈ gw_N0 := gw_in (List.mem_append_right _ (gw_tm (i := 590) rfl))
set_option maxRecDepth 20000 in
theorem mw315 : (Cond.instanceMethod ({ cls := "GenerationsModel", name := "reclaim", desc := "(I)I" } : Jvm.MethodName)) ∈ gw_N0 := gw_in (List.mem_append_right _ (gw_tm (i := 591) rfl))
set_option maxRecDepth 20000 in
theorem mw316 : (Cond.selects "GenerationsModel" ({ cls := "GenerationsModel", name := "reclaim", desc := "(I)I" } : Jvm.MethodName) ({ cls := "GenerationsModel", name := "reclaim", desc := "(I)I" } : Jvm.MethodName)) ∈ gw_N0 := gw_in (List.mem_append_right _ (gw_tm (i := 592) rfl))
set_option maxRecDepth 20000 in
theorem mw317 : (Cond.code ({ cls := "Generations", name := "empty", desc := "(Z)I" } : Jvm.MethodName) prog_1_method_11_code (3 : Nat) (Option.some Jvm.ClassFile.FieldType.int)) ∈ gw_N0 := gw_in (List.mem_append_right _ (gw_tm (i := 297) rfl))
set_option maxRecDepth 20000 in
theorem mw318 : (Cond.methodLink "GenerationsLaw" (76 : Nat) ({ cls := "Generations", name := "empty", desc := "(Z)I" } : Jvm.MethodName)) ∈ gw_N0 := gw_in (List.mem_append_right _ (gw_tm (i := 294) rfl))
set_option maxRecDepth 20000 in
theorem mw319 : (Cond.instanceMethod ({ cls := "Generations", name := "empty", desc := "(Z)I" } : Jvm.MethodName)) ∈ gw_N0 := gw_in (List.mem_append_right _ (gw_tm (i := 295) rfl))
set_option maxRecDepth 20000 in
theorem mw320 : (Cond.selects "Generations" ({ cls := "Generations", name := "empty", desc := "(Z)I" } : Jvm.MethodName) ({ cls := "Generations", name := "empty", desc := "(Z)I" } : Jvm.MethodName)) ∈ gw_N0 := gw_in (List.mem_append_right _ (gw_tm (i := 296) rfl))
set_option maxRecDepth 20000 in
theorem mw321 : (Cond.code ({ cls := "GenerationsModel", name := "empty", desc := "(Z)I" } : Jvm.MethodName) prog_6_method_25_code (3 : Nat) (Option.some Jvm.ClassFile.FieldType.int)) ∈ gw_N0 := gw_in (List.mem_append_right _ (gw_tm (i := 597) rfl))
set_option maxRecDepth 20000 in
theorem mw322 : (Cond.methodLink "GenerationsLaw" (80 : Nat) ({ cls := "GenerationsModel", name := "empty", desc := "(Z)I" } : Jvm.MethodName)) ∈ gw_N0 := gw_in (List.mem_append_right _ (gw_tm (i := 594) rfl))
set_option maxRecDepth 20000 in
theorem mw323 : (Cond.instanceMethod ({ cls := "GenerationsModel", name := "empty", desc := "(Z)I" } : Jvm.MethodName)) ∈ gw_N0 := gw_in (List.mem_append_right _ (gw_tm (i := 595) rfl))
set_option maxRecDepth 20000 in
theorem mw324 : (Cond.selects "GenerationsModel" ({ cls := "GenerationsModel", name := "empty", desc := "(Z)I" } : Jvm.MethodName) ({ cls := "GenerationsModel", name := "empty", desc := "(Z)I" } : Jvm.MethodName)) ∈ gw_N0 := gw_in (List.mem_append_right _ (gw_tm (i := 596) rfl))
set_option maxRecDepth 20000 in
theorem mw325 : (Cond.code ({ cls := "Generations", name := "version", desc := "(I)I" } : Jvm.MethodName) prog_1_method_12_code (3 : Nat) (Option.some Jvm.ClassFile.FieldType.int)) ∈ gw_N0 := gw_in (List.mem_append_right _ (gw_tm (i := 301) rfl))
set_option maxRecDepth 20000 in
theorem mw326 : (Cond.methodLink "GenerationsLaw" (81 : Nat) ({ cls := "Generations", name := "version", desc := "(I)I" } : Jvm.MethodName)) ∈ gw_N0 := gw_in (List.mem_append_right _ (gw_tm (i := 298) rfl))
set_option maxRecDepth 20000 in
theorem mw327 : (Cond.instanceMethod ({ cls := "Generations", name := "version", desc := "(I)I" } : Jvm.MethodName)) ∈ gw_N0 := gw_in (List.mem_append_right _ (gw_tm (i := 299) rfl))
set_option maxRecDepth 20000 in
theorem mw328 : (Cond.selects "Generations" ({ cls := "Generations", name := "version", desc := "(I)I" } : Jvm.MethodName) ({ cls := "Generations", name := "version", desc := "(I)I" } : Jvm.MethodName)) ∈ gw_N0 := gw_in (List.mem_append_right _ (gw_tm (i := 300) rfl))
set_option maxRecDepth 20000 in
theorem mw329 : (Cond.code ({ cls := "GenerationsModel", name := "version", desc := "(I)I" } : Jvm.MethodName) prog_6_method_26_code (2 : Nat) (Option.some Jvm.ClassFile.FieldType.int)) ∈ gw_N0 := gw_in (List.mem_append_right _ (gw_tm (i := 601) rfl))
set_option maxRecDepth 20000 in
theorem mw330 : (Cond.methodLink "GenerationsLaw" (84 : Nat) ({ cls := "GenerationsModel", name := "version", desc := "(I)I" } : Jvm.MethodName)) ∈ gw_N0 := gw_in (List.mem_append_right _ (gw_tm (i := 598) rfl))
set_option maxRecDepth 20000 in
theorem mw331 : (Cond.instanceMethod ({ cls := "GenerationsModel", name := "version", desc := "(I)I" } : Jvm.MethodName)) ∈ gw_N0 := gw_in (List.mem_append_right _ (gw_tm (i := 599) rfl))
set_option maxRecDepth 20000 in
theorem mw332 : (Cond.selects "GenerationsModel" ({ cls := "GenerationsModel", name := "version", desc := "(I)I" } : Jvm.MethodName) ({ cls := "GenerationsModel", name := "version", desc := "(I)I" } : Jvm.MethodName)) ∈ gw_N0 := gw_in (List.mem_append_right _ (gw_tm (i := 600) rfl))
set_option maxRecDepth 20000 in
theorem mw333 : (Cond.code ({ cls := "Generations", name := "state", desc := "(I)I" } : Jvm.MethodName) prog_1_method_13_code (2 : Nat) (Option.some Jvm.ClassFile.FieldType.int)) ∈ gw_N0 := gw_in (List.mem_append_right _ (gw_tm (i := 305) rfl))
set_option maxRecDepth 20000 in
theorem mw334 : (Cond.methodLink "GenerationsLaw" (85 : Nat) ({ cls := "Generations", name := "state", desc := "(I)I" } : Jvm.MethodName)) ∈ gw_N0 := gw_in (List.mem_append_right _ (gw_tm (i := 302) rfl))
set_option maxRecDepth 20000 in
theorem mw335 : (Cond.instanceMethod ({ cls := "Generations", name := "state", desc := "(I)I" } : Jvm.MethodName)) ∈ gw_N0 := gw_in (List.mem_append_right _ (gw_tm (i := 303) rfl))
set_option maxRecDepth 20000 in
theorem mw336 : (Cond.selects "Generations" ({ cls := "Generations", name := "state", desc := "(I)I" } : Jvm.MethodName) ({ cls := "Generations", name := "state", desc := "(I)I" } : Jvm.MethodName)) ∈ gw_N0 := gw_in (List.mem_append_right _ (gw_tm (i := 304) rfl))
set_option maxRecDepth 20000 in
theorem mw337 : (Cond.code ({ cls := "GenerationsModel", name := "state", desc := "(I)I" } : Jvm.MethodName) prog_6_method_27_code (2 : Nat) (Option.some Jvm.ClassFile.FieldType.int)) ∈ gw_N0 := gw_in (List.mem_append_right _ (gw_tm (i := 605) rfl))
set_option maxRecDepth 20000 in
theorem mw338 : (Cond.methodLink "GenerationsLaw" (88 : Nat) ({ cls := "GenerationsModel", name := "state", desc := "(I)I" } : Jvm.MethodName)) ∈ gw_N0 := gw_in (List.mem_append_right _ (gw_tm (i := 602) rfl))
set_option maxRecDepth 20000 in
theorem mw339 : (Cond.instanceMethod ({ cls := "GenerationsModel", name := "state", desc := "(I)I" } : Jvm.MethodName)) ∈ gw_N0 := gw_in (List.mem_append_right _ (gw_tm (i := 603) rfl))
set_option maxRecDepth 20000 in
theorem mw340 : (Cond.selects "GenerationsModel" ({ cls := "GenerationsModel", name := "state", desc := "(I)I" } : Jvm.MethodName) ({ cls := "GenerationsModel", name := "state", desc := "(I)I" } : Jvm.MethodName)) ∈ gw_N0 := gw_in (List.mem_append_right _ (gw_tm (i := 604) rfl))
set_option maxRecDepth 20000 in
theorem mw341 : (Cond.code ({ cls := "Generations", name := "count", desc := "(I)I" } : Jvm.MethodName) prog_1_method_14_code (2 : Nat) (Option.some Jvm.ClassFile.FieldType.int)) ∈ gw_N0 := gw_in (List.mem_append_right _ (gw_tm (i := 309) rfl))
set_option maxRecDepth 20000 in
theorem mw342 : (Cond.methodLink "GenerationsLaw" (89 : Nat) ({ cls := "Generations", name := "count", desc := "(I)I" } : Jvm.MethodName)) ∈ gw_N0 := gw_in (List.mem_append_right _ (gw_tm (i := 306) rfl))
set_option maxRecDepth 20000 in
theorem mw343 : (Cond.instanceMethod ({ cls := "Generations", name := "count", desc := "(I)I" } : Jvm.MethodName)) ∈ gw_N0 := gw_in (List.mem_append_right _ (gw_tm (i := 307) rfl))
set_option maxRecDepth 20000 in
theorem mw344 : (Cond.selects "Generations" ({ cls := "Generations", name := "count", desc := "(I)I" } : Jvm.MethodName) ({ cls := "Generations", name := "count", desc := "(I)I" } : Jvm.MethodName)) ∈ gw_N0 := gw_in (List.mem_append_right _ (gw_tm (i := 308) rfl))
set_option maxRecDepth 20000 in
theorem mw345 : (Cond.code ({ cls := "GenerationsModel", name := "count", desc := "(I)I" } : Jvm.MethodName) prog_6_method_28_code (4 : Nat) (Option.some Jvm.ClassFile.FieldType.int)) ∈ gw_N0 := gw_in (List.mem_append_right _ (gw_tm (i := 609) rfl))
set_option maxRecDepth 20000 in
theorem mw346 : (Cond.methodLink "GenerationsLaw" (92 : Nat) ({ cls := "GenerationsModel", name := "count", desc := "(I)I" } : Jvm.MethodName)) ∈ gw_N0 := gw_in (List.mem_append_right _ (gw_tm (i := 606) rfl))
set_option maxRecDepth 20000 in
theorem mw347 : (Cond.instanceMethod ({ cls := "GenerationsModel", name := "count", desc := "(I)I" } : Jvm.MethodName)) ∈ gw_N0 := gw_in (List.mem_append_right _ (gw_tm (i := 607) rfl))
set_option maxRecDepth 20000 in
theorem mw348 : (Cond.selects "GenerationsModel" ({ cls := "GenerationsModel", name := "count", desc := "(I)I" } : Jvm.MethodName) ({ cls := "GenerationsModel", name := "count", desc := "(I)I" } : Jvm.MethodName)) ∈ gw_N0 := gw_in (List.mem_append_right _ (gw_tm (i := 608) rfl))
end
section
theorem d_Law_cell_0 : decode b_Law_cell 0 = .ok (.iload_n 1, 1) := by decide +kernel
theorem d_Law_cell_1 : decode b_Law_cell 1 = .ok (.aload_n 0, 1) := by decide +kernel
theorem d_Law_cell_2 : decode b_Law_cell 2 = .ok (.arraylength, 1) := by decide +kernel
theorem d_Law_cell_3 : decode b_Law_cell 3 = .ok (.if_icmp .ge 9, 3) := by decide +kernel
theorem d_Law_cell_12 : decode b_Law_cell 12 = .ok (.iconst 0, 1) := by decide +kernel
theorem d_Law_cell_13 : decode b_Law_cell 13 = .ok (.ireturn, 1) := by decide +kernel
theorem d_Law_cell_6 : decode b_Law_cell 6 = .ok (.aload_n 0, 1) := by decide +kernel
theorem d_Law_cell_7 : decode b_Law_cell 7 = .ok (.iload_n 1, 1) := by decide +kernel
theorem d_Law_cell_8 : decode b_Law_cell 8 = .ok (.iaload, 1) := by decide +kernel
theorem d_Law_cell_9 : decode b_Law_cell 9 = .ok (.goto 4, 3) := by decide +kernel
theorem d_Law_law_0 : decode b_Law_law 0 = .ok (.new 8, 3) := by decide +kernel
theorem d_Law_law_3 : decode b_Law_law 3 = .ok (.dup, 1) := by decide +kernel
theorem d_Law_law_4 : decode b_Law_law 4 = .ok (.aload_n 0, 1) := by decide +kernel
theorem d_Law_law_5 : decode b_Law_law 5 = .ok (.iconst 0, 1) := by decide +kernel
theorem d_Law_law_6 : decode b_Law_law 6 = .ok (.invokestatic 25, 3) := by decide +kernel
theorem d_Law_law_9 : decode b_Law_law 9 = .ok (.aload_n 0, 1) := by decide +kernel
theorem d_Law_law_10 : decode b_Law_law 10 = .ok (.iconst 1, 1) := by decide +kernel
theorem d_Law_law_11 : decode b_Law_law 11 = .ok (.invokestatic 25, 3) := by decide +kernel
theorem d_Law_law_14 : decode b_Law_law 14 = .ok (.invokespecial 31, 3) := by decide +kernel
theorem d_Law_law_17 : decode b_Law_law 17 = .ok (.astore_n 1, 1) := by decide +kernel
theorem d_Law_law_18 : decode b_Law_law 18 = .ok (.new 34, 3) := by decide +kernel
theorem d_Law_law_21 : decode b_Law_law 21 = .ok (.dup, 1) := by decide +kernel
theorem d_Law_law_22 : decode b_Law_law 22 = .ok (.aload_n 0, 1) := by decide +kernel
theorem d_Law_law_23 : decode b_Law_law 23 = .ok (.iconst 0, 1) := by decide +kernel
theorem d_Law_law_24 : decode b_Law_law 24 = .ok (.invokestatic 25, 3) := by decide +kernel
theorem d_Law_law_27 : decode b_Law_law 27 = .ok (.aload_n 0, 1) := by decide +kernel
theorem d_Law_law_28 : decode b_Law_law 28 = .ok (.iconst 1, 1) := by decide +kernel
theorem d_Law_law_29 : decode b_Law_law 29 = .ok (.invokestatic 25, 3) := by decide +kernel
theorem d_Law_law_32 : decode b_Law_law 32 = .ok (.invokespecial 36, 3) := by decide +kernel
theorem d_Law_law_35 : decode b_Law_law 35 = .ok (.astore_n 2, 1) := by decide +kernel
theorem d_Law_law_36 : decode b_Law_law 36 = .ok (.iconst 1, 1) := by decide +kernel
theorem d_Law_law_37 : decode b_Law_law 37 = .ok (.newarray .long, 2) := by decide +kernel
theorem d_Law_law_39 : decode b_Law_law 39 = .ok (.astore_n 3, 1) := by decide +kernel
theorem d_Law_law_40 : decode b_Law_law 40 = .ok (.iconst 2, 1) := by decide +kernel
theorem d_Law_law_41 : decode b_Law_law 41 = .ok (.istore 4, 2) := by decide +kernel
theorem d_Law_law_43 : decode b_Law_law 43 = .ok (.iload 4, 2) := by decide +kernel
theorem d_Law_law_45 : decode b_Law_law 45 = .ok (.aload_n 0, 1) := by decide +kernel
theorem d_Law_law_46 : decode b_Law_law 46 = .ok (.arraylength, 1) := by decide +kernel
theorem d_Law_law_47 : decode b_Law_law 47 = .ok (.iconst 4, 1) := by decide +kernel
theorem d_Law_law_48 : decode b_Law_law 48 = .ok (.isub, 1) := by decide +kernel
theorem d_Law_law_49 : decode b_Law_law 49 = .ok (.if_icmp .gt 610, 3) := by decide +kernel
theorem d_Law_law_659 : decode b_Law_law 659 = .ok (.iconst 1, 1) := by decide +kernel
theorem d_Law_law_660 : decode b_Law_law 660 = .ok (.ireturn, 1) := by decide +kernel
theorem d_Law_law_52 : decode b_Law_law 52 = .ok (.aload_n 0, 1) := by decide +kernel
theorem d_Law_law_53 : decode b_Law_law 53 = .ok (.iload 4, 2) := by decide +kernel
theorem d_Law_law_55 : decode b_Law_law 55 = .ok (.iaload, 1) := by decide +kernel
theorem d_Law_law_56 : decode b_Law_law 56 = .ok (.bipush 15, 2) := by decide +kernel
theorem d_Law_law_58 : decode b_Law_law 58 = .ok (.iand, 1) := by decide +kernel
theorem d_Law_law_59 : decode b_Law_law 59 = .ok (.tableswitch 594 0 12 #[65, 90, 103, 171, 239, 335, 360, 428, 453, 478, 519, 544, 569], 65) := by decide +kernel
theorem d_Law_law_653 : decode b_Law_law 653 = .ok (.iinc 4 4, 3) := by decide +kernel
theorem d_Law_law_656 : decode b_Law_law 656 = .ok (.goto (-613), 3) := by decide +kernel
theorem d_Law_law_124 : decode b_Law_law 124 = .ok (.aload_n 1, 1) := by decide +kernel
theorem d_Law_law_125 : decode b_Law_law 125 = .ok (.aload_n 0, 1) := by decide +kernel
theorem d_Law_law_126 : decode b_Law_law 126 = .ok (.iload 4, 2) := by decide +kernel
theorem d_Law_law_128 : decode b_Law_law 128 = .ok (.iconst 1, 1) := by decide +kernel
theorem d_Law_law_129 : decode b_Law_law 129 = .ok (.iadd, 1) := by decide +kernel
theorem d_Law_law_130 : decode b_Law_law 130 = .ok (.iaload, 1) := by decide +kernel
theorem d_Law_law_131 : decode b_Law_law 131 = .ok (.invokevirtual 37, 3) := by decide +kernel
theorem d_Law_law_134 : decode b_Law_law 134 = .ok (.aload_n 2, 1) := by decide +kernel
theorem d_Law_law_135 : decode b_Law_law 135 = .ok (.aload_n 0, 1) := by decide +kernel
theorem d_Law_law_136 : decode b_Law_law 136 = .ok (.iload 4, 2) := by decide +kernel
theorem d_Law_law_138 : decode b_Law_law 138 = .ok (.iconst 1, 1) := by decide +kernel
theorem d_Law_law_139 : decode b_Law_law 139 = .ok (.iadd, 1) := by decide +kernel
theorem d_Law_law_140 : decode b_Law_law 140 = .ok (.iaload, 1) := by decide +kernel
theorem d_Law_law_141 : decode b_Law_law 141 = .ok (.invokevirtual 41, 3) := by decide +kernel
theorem d_Law_law_144 : decode b_Law_law 144 = .ok (.if_icmp .eq 509, 3) := by decide +kernel
theorem d_Law_law_149 : decode b_Law_law 149 = .ok (.aload_n 1, 1) := by decide +kernel
theorem d_Law_law_150 : decode b_Law_law 150 = .ok (.invokevirtual 42, 3) := by decide +kernel
theorem d_Law_law_153 : decode b_Law_law 153 = .ok (.aload_n 2, 1) := by decide +kernel
theorem d_Law_law_154 : decode b_Law_law 154 = .ok (.invokevirtual 46, 3) := by decide +kernel
theorem d_Law_law_157 : decode b_Law_law 157 = .ok (.if_icmp .eq 496, 3) := by decide +kernel
theorem d_Law_law_162 : decode b_Law_law 162 = .ok (.aload_n 1, 1) := by decide +kernel
theorem d_Law_law_163 : decode b_Law_law 163 = .ok (.aload_n 0, 1) := by decide +kernel
theorem d_Law_law_164 : decode b_Law_law 164 = .ok (.iload 4, 2) := by decide +kernel
theorem d_Law_law_166 : decode b_Law_law 166 = .ok (.iconst 1, 1) := by decide +kernel
theorem d_Law_law_167 : decode b_Law_law 167 = .ok (.iadd, 1) := by decide +kernel
theorem d_Law_law_168 : decode b_Law_law 168 = .ok (.iaload, 1) := by decide +kernel
theorem d_Law_law_169 : decode b_Law_law 169 = .ok (.aload_n 0, 1) := by decide +kernel
theorem d_Law_law_170 : decode b_Law_law 170 = .ok (.iload 4, 2) := by decide +kernel
theorem d_Law_law_172 : decode b_Law_law 172 = .ok (.iconst 2, 1) := by decide +kernel
theorem d_Law_law_173 : decode b_Law_law 173 = .ok (.iadd, 1) := by decide +kernel
theorem d_Law_law_174 : decode b_Law_law 174 = .ok (.iaload, 1) := by decide +kernel
theorem d_Law_law_175 : decode b_Law_law 175 = .ok (.aload_n 3, 1) := by decide +kernel
theorem d_Law_law_176 : decode b_Law_law 176 = .ok (.invokestatic 47, 3) := by decide +kernel
theorem d_Law_law_179 : decode b_Law_law 179 = .ok (.istore 5, 2) := by decide +kernel
theorem d_Law_law_181 : decode b_Law_law 181 = .ok (.aload_n 2, 1) := by decide +kernel
theorem d_Law_law_182 : decode b_Law_law 182 = .ok (.aload_n 0, 1) := by decide +kernel
theorem d_Law_law_183 : decode b_Law_law 183 = .ok (.iload 4, 2) := by decide +kernel
theorem d_Law_law_185 : decode b_Law_law 185 = .ok (.iconst 1, 1) := by decide +kernel
theorem d_Law_law_186 : decode b_Law_law 186 = .ok (.iadd, 1) := by decide +kernel
theorem d_Law_law_187 : decode b_Law_law 187 = .ok (.iaload, 1) := by decide +kernel
theorem d_Law_law_188 : decode b_Law_law 188 = .ok (.aload_n 0, 1) := by decide +kernel
theorem d_Law_law_189 : decode b_Law_law 189 = .ok (.iload 4, 2) := by decide +kernel
theorem d_Law_law_191 : decode b_Law_law 191 = .ok (.iconst 2, 1) := by decide +kernel
theorem d_Law_law_192 : decode b_Law_law 192 = .ok (.iadd, 1) := by decide +kernel
theorem d_Law_law_193 : decode b_Law_law 193 = .ok (.iaload, 1) := by decide +kernel
theorem d_Law_law_194 : decode b_Law_law 194 = .ok (.invokevirtual 50, 3) := by decide +kernel
theorem d_Law_law_197 : decode b_Law_law 197 = .ok (.istore 6, 2) := by decide +kernel
theorem d_Law_law_199 : decode b_Law_law 199 = .ok (.aload_n 2, 1) := by decide +kernel
theorem d_Law_law_200 : decode b_Law_law 200 = .ok (.invokevirtual 51, 3) := by decide +kernel
theorem d_Law_law_203 : decode b_Law_law 203 = .ok (.iload 5, 2) := by decide +kernel
theorem d_Law_law_205 : decode b_Law_law 205 = .ok (.if_icmp .eq 5, 3) := by decide +kernel
theorem d_Law_law_210 : decode b_Law_law 210 = .ok (.iload 5, 2) := by decide +kernel
theorem d_Law_law_212 : decode b_Law_law 212 = .ok (.ifCond .ne 15, 3) := by decide +kernel
theorem d_Law_law_227 : decode b_Law_law 227 = .ok (.goto 426, 3) := by decide +kernel
theorem d_Law_law_230 : decode b_Law_law 230 = .ok (.aload_n 1, 1) := by decide +kernel
theorem d_Law_law_231 : decode b_Law_law 231 = .ok (.aload_n 0, 1) := by decide +kernel
theorem d_Law_law_232 : decode b_Law_law 232 = .ok (.iload 4, 2) := by decide +kernel
theorem d_Law_law_234 : decode b_Law_law 234 = .ok (.iconst 1, 1) := by decide +kernel
theorem d_Law_law_235 : decode b_Law_law 235 = .ok (.iadd, 1) := by decide +kernel
theorem d_Law_law_236 : decode b_Law_law 236 = .ok (.iaload, 1) := by decide +kernel
theorem d_Law_law_237 : decode b_Law_law 237 = .ok (.aload_n 0, 1) := by decide +kernel
theorem d_Law_law_238 : decode b_Law_law 238 = .ok (.iload 4, 2) := by decide +kernel
theorem d_Law_law_240 : decode b_Law_law 240 = .ok (.iconst 2, 1) := by decide +kernel
theorem d_Law_law_241 : decode b_Law_law 241 = .ok (.iadd, 1) := by decide +kernel
theorem d_Law_law_242 : decode b_Law_law 242 = .ok (.iaload, 1) := by decide +kernel
theorem d_Law_law_243 : decode b_Law_law 243 = .ok (.aload_n 3, 1) := by decide +kernel
theorem d_Law_law_244 : decode b_Law_law 244 = .ok (.invokestatic 54, 3) := by decide +kernel
theorem d_Law_law_247 : decode b_Law_law 247 = .ok (.istore 5, 2) := by decide +kernel
theorem d_Law_law_249 : decode b_Law_law 249 = .ok (.aload_n 2, 1) := by decide +kernel
end
section
theorem d_Law_law_250 : decode b_Law_law 250 = .ok (.aload_n 0, 1) := by decide +kernel
theorem d_Law_law_251 : decode b_Law_law 251 = .ok (.iload 4, 2) := by decide +kernel
theorem d_Law_law_253 : decode b_Law_law 253 = .ok (.iconst 1, 1) := by decide +kernel
theorem d_Law_law_254 : decode b_Law_law 254 = .ok (.iadd, 1) := by decide +kernel
theorem d_Law_law_255 : decode b_Law_law 255 = .ok (.iaload, 1) := by decide +kernel
theorem d_Law_law_256 : decode b_Law_law 256 = .ok (.aload_n 0, 1) := by decide +kernel
theorem d_Law_law_257 : decode b_Law_law 257 = .ok (.iload 4, 2) := by decide +kernel
theorem d_Law_law_259 : decode b_Law_law 259 = .ok (.iconst 2, 1) := by decide +kernel
theorem d_Law_law_260 : decode b_Law_law 260 = .ok (.iadd, 1) := by decide +kernel
theorem d_Law_law_261 : decode b_Law_law 261 = .ok (.iaload, 1) := by decide +kernel
theorem d_Law_law_262 : decode b_Law_law 262 = .ok (.invokevirtual 56, 3) := by decide +kernel
theorem d_Law_law_265 : decode b_Law_law 265 = .ok (.istore 6, 2) := by decide +kernel
theorem d_Law_law_267 : decode b_Law_law 267 = .ok (.aload_n 2, 1) := by decide +kernel
theorem d_Law_law_268 : decode b_Law_law 268 = .ok (.invokevirtual 51, 3) := by decide +kernel
theorem d_Law_law_271 : decode b_Law_law 271 = .ok (.iload 5, 2) := by decide +kernel
theorem d_Law_law_273 : decode b_Law_law 273 = .ok (.if_icmp .eq 5, 3) := by decide +kernel
theorem d_Law_law_278 : decode b_Law_law 278 = .ok (.iload 5, 2) := by decide +kernel
theorem d_Law_law_280 : decode b_Law_law 280 = .ok (.ifCond .ne 15, 3) := by decide +kernel
theorem d_Law_law_295 : decode b_Law_law 295 = .ok (.goto 358, 3) := by decide +kernel
theorem d_Law_law_298 : decode b_Law_law 298 = .ok (.aload_n 1, 1) := by decide +kernel
theorem d_Law_law_299 : decode b_Law_law 299 = .ok (.aload_n 0, 1) := by decide +kernel
theorem d_Law_law_300 : decode b_Law_law 300 = .ok (.iload 4, 2) := by decide +kernel
theorem d_Law_law_302 : decode b_Law_law 302 = .ok (.iconst 1, 1) := by decide +kernel
theorem d_Law_law_303 : decode b_Law_law 303 = .ok (.iadd, 1) := by decide +kernel
theorem d_Law_law_304 : decode b_Law_law 304 = .ok (.iaload, 1) := by decide +kernel
theorem d_Law_law_305 : decode b_Law_law 305 = .ok (.aload_n 0, 1) := by decide +kernel
theorem d_Law_law_306 : decode b_Law_law 306 = .ok (.iload 4, 2) := by decide +kernel
theorem d_Law_law_308 : decode b_Law_law 308 = .ok (.iconst 2, 1) := by decide +kernel
theorem d_Law_law_309 : decode b_Law_law 309 = .ok (.iadd, 1) := by decide +kernel
theorem d_Law_law_310 : decode b_Law_law 310 = .ok (.iaload, 1) := by decide +kernel
theorem d_Law_law_311 : decode b_Law_law 311 = .ok (.aload_n 0, 1) := by decide +kernel
theorem d_Law_law_312 : decode b_Law_law 312 = .ok (.iload 4, 2) := by decide +kernel
theorem d_Law_law_314 : decode b_Law_law 314 = .ok (.iconst 3, 1) := by decide +kernel
theorem d_Law_law_315 : decode b_Law_law 315 = .ok (.iadd, 1) := by decide +kernel
theorem d_Law_law_316 : decode b_Law_law 316 = .ok (.iaload, 1) := by decide +kernel
theorem d_Law_law_317 : decode b_Law_law 317 = .ok (.ifCond .eq 7, 3) := by decide +kernel
theorem d_Law_law_324 : decode b_Law_law 324 = .ok (.iconst 0, 1) := by decide +kernel
theorem d_Law_law_325 : decode b_Law_law 325 = .ok (.aload_n 3, 1) := by decide +kernel
theorem d_Law_law_326 : decode b_Law_law 326 = .ok (.invokestatic 57, 3) := by decide +kernel
theorem d_Law_law_329 : decode b_Law_law 329 = .ok (.istore 5, 2) := by decide +kernel
theorem d_Law_law_331 : decode b_Law_law 331 = .ok (.aload_n 2, 1) := by decide +kernel
theorem d_Law_law_332 : decode b_Law_law 332 = .ok (.aload_n 0, 1) := by decide +kernel
theorem d_Law_law_333 : decode b_Law_law 333 = .ok (.iload 4, 2) := by decide +kernel
theorem d_Law_law_335 : decode b_Law_law 335 = .ok (.iconst 1, 1) := by decide +kernel
theorem d_Law_law_336 : decode b_Law_law 336 = .ok (.iadd, 1) := by decide +kernel
theorem d_Law_law_337 : decode b_Law_law 337 = .ok (.iaload, 1) := by decide +kernel
theorem d_Law_law_338 : decode b_Law_law 338 = .ok (.aload_n 0, 1) := by decide +kernel
theorem d_Law_law_339 : decode b_Law_law 339 = .ok (.iload 4, 2) := by decide +kernel
theorem d_Law_law_341 : decode b_Law_law 341 = .ok (.iconst 2, 1) := by decide +kernel
theorem d_Law_law_342 : decode b_Law_law 342 = .ok (.iadd, 1) := by decide +kernel
theorem d_Law_law_343 : decode b_Law_law 343 = .ok (.iaload, 1) := by decide +kernel
theorem d_Law_law_344 : decode b_Law_law 344 = .ok (.aload_n 0, 1) := by decide +kernel
theorem d_Law_law_345 : decode b_Law_law 345 = .ok (.iload 4, 2) := by decide +kernel
theorem d_Law_law_347 : decode b_Law_law 347 = .ok (.iconst 3, 1) := by decide +kernel
theorem d_Law_law_348 : decode b_Law_law 348 = .ok (.iadd, 1) := by decide +kernel
theorem d_Law_law_349 : decode b_Law_law 349 = .ok (.iaload, 1) := by decide +kernel
theorem d_Law_law_350 : decode b_Law_law 350 = .ok (.ifCond .eq 7, 3) := by decide +kernel
theorem d_Law_law_357 : decode b_Law_law 357 = .ok (.iconst 0, 1) := by decide +kernel
theorem d_Law_law_358 : decode b_Law_law 358 = .ok (.invokevirtual 60, 3) := by decide +kernel
theorem d_Law_law_361 : decode b_Law_law 361 = .ok (.istore 6, 2) := by decide +kernel
theorem d_Law_law_363 : decode b_Law_law 363 = .ok (.aload_n 2, 1) := by decide +kernel
theorem d_Law_law_364 : decode b_Law_law 364 = .ok (.invokevirtual 51, 3) := by decide +kernel
theorem d_Law_law_367 : decode b_Law_law 367 = .ok (.iload 5, 2) := by decide +kernel
theorem d_Law_law_369 : decode b_Law_law 369 = .ok (.if_icmp .eq 5, 3) := by decide +kernel
theorem d_Law_law_374 : decode b_Law_law 374 = .ok (.iload 5, 2) := by decide +kernel
theorem d_Law_law_376 : decode b_Law_law 376 = .ok (.ifCond .ne 15, 3) := by decide +kernel
theorem d_Law_law_391 : decode b_Law_law 391 = .ok (.goto 262, 3) := by decide +kernel
theorem d_Law_law_353 : decode b_Law_law 353 = .ok (.iconst 1, 1) := by decide +kernel
theorem d_Law_law_354 : decode b_Law_law 354 = .ok (.goto 4, 3) := by decide +kernel
theorem d_Law_law_320 : decode b_Law_law 320 = .ok (.iconst 1, 1) := by decide +kernel
theorem d_Law_law_321 : decode b_Law_law 321 = .ok (.goto 4, 3) := by decide +kernel
theorem d_Law_law_394 : decode b_Law_law 394 = .ok (.aload_n 1, 1) := by decide +kernel
theorem d_Law_law_395 : decode b_Law_law 395 = .ok (.aload_n 0, 1) := by decide +kernel
theorem d_Law_law_396 : decode b_Law_law 396 = .ok (.iload 4, 2) := by decide +kernel
theorem d_Law_law_398 : decode b_Law_law 398 = .ok (.iconst 1, 1) := by decide +kernel
theorem d_Law_law_399 : decode b_Law_law 399 = .ok (.iadd, 1) := by decide +kernel
theorem d_Law_law_400 : decode b_Law_law 400 = .ok (.iaload, 1) := by decide +kernel
theorem d_Law_law_401 : decode b_Law_law 401 = .ok (.invokevirtual 61, 3) := by decide +kernel
theorem d_Law_law_404 : decode b_Law_law 404 = .ok (.aload_n 2, 1) := by decide +kernel
theorem d_Law_law_405 : decode b_Law_law 405 = .ok (.aload_n 0, 1) := by decide +kernel
theorem d_Law_law_406 : decode b_Law_law 406 = .ok (.iload 4, 2) := by decide +kernel
theorem d_Law_law_408 : decode b_Law_law 408 = .ok (.iconst 1, 1) := by decide +kernel
theorem d_Law_law_409 : decode b_Law_law 409 = .ok (.iadd, 1) := by decide +kernel
theorem d_Law_law_410 : decode b_Law_law 410 = .ok (.iaload, 1) := by decide +kernel
theorem d_Law_law_411 : decode b_Law_law 411 = .ok (.invokevirtual 64, 3) := by decide +kernel
theorem d_Law_law_414 : decode b_Law_law 414 = .ok (.if_icmp .eq 239, 3) := by decide +kernel
theorem d_Law_law_419 : decode b_Law_law 419 = .ok (.aload_n 1, 1) := by decide +kernel
theorem d_Law_law_420 : decode b_Law_law 420 = .ok (.aload_n 0, 1) := by decide +kernel
theorem d_Law_law_421 : decode b_Law_law 421 = .ok (.iload 4, 2) := by decide +kernel
theorem d_Law_law_423 : decode b_Law_law 423 = .ok (.iconst 1, 1) := by decide +kernel
theorem d_Law_law_424 : decode b_Law_law 424 = .ok (.iadd, 1) := by decide +kernel
theorem d_Law_law_425 : decode b_Law_law 425 = .ok (.iaload, 1) := by decide +kernel
theorem d_Law_law_426 : decode b_Law_law 426 = .ok (.aload_n 0, 1) := by decide +kernel
theorem d_Law_law_427 : decode b_Law_law 427 = .ok (.iload 4, 2) := by decide +kernel
theorem d_Law_law_429 : decode b_Law_law 429 = .ok (.iconst 2, 1) := by decide +kernel
theorem d_Law_law_430 : decode b_Law_law 430 = .ok (.iadd, 1) := by decide +kernel
theorem d_Law_law_431 : decode b_Law_law 431 = .ok (.iaload, 1) := by decide +kernel
theorem d_Law_law_432 : decode b_Law_law 432 = .ok (.aload_n 3, 1) := by decide +kernel
theorem d_Law_law_433 : decode b_Law_law 433 = .ok (.invokestatic 65, 3) := by decide +kernel
theorem d_Law_law_436 : decode b_Law_law 436 = .ok (.istore 5, 2) := by decide +kernel
theorem d_Law_law_438 : decode b_Law_law 438 = .ok (.aload_n 2, 1) := by decide +kernel
theorem d_Law_law_439 : decode b_Law_law 439 = .ok (.aload_n 0, 1) := by decide +kernel
theorem d_Law_law_440 : decode b_Law_law 440 = .ok (.iload 4, 2) := by decide +kernel
theorem d_Law_law_442 : decode b_Law_law 442 = .ok (.iconst 1, 1) := by decide +kernel
theorem d_Law_law_443 : decode b_Law_law 443 = .ok (.iadd, 1) := by decide +kernel
theorem d_Law_law_444 : decode b_Law_law 444 = .ok (.iaload, 1) := by decide +kernel
theorem d_Law_law_445 : decode b_Law_law 445 = .ok (.aload_n 0, 1) := by decide +kernel
theorem d_Law_law_446 : decode b_Law_law 446 = .ok (.iload 4, 2) := by decide +kernel
theorem d_Law_law_448 : decode b_Law_law 448 = .ok (.iconst 2, 1) := by decide +kernel
theorem d_Law_law_449 : decode b_Law_law 449 = .ok (.iadd, 1) := by decide +kernel
theorem d_Law_law_450 : decode b_Law_law 450 = .ok (.iaload, 1) := by decide +kernel
theorem d_Law_law_451 : decode b_Law_law 451 = .ok (.invokevirtual 67, 3) := by decide +kernel
theorem d_Law_law_454 : decode b_Law_law 454 = .ok (.istore 6, 2) := by decide +kernel
theorem d_Law_law_456 : decode b_Law_law 456 = .ok (.aload_n 2, 1) := by decide +kernel
theorem d_Law_law_457 : decode b_Law_law 457 = .ok (.invokevirtual 51, 3) := by decide +kernel
theorem d_Law_law_460 : decode b_Law_law 460 = .ok (.iload 5, 2) := by decide +kernel
theorem d_Law_law_462 : decode b_Law_law 462 = .ok (.if_icmp .eq 5, 3) := by decide +kernel
theorem d_Law_law_467 : decode b_Law_law 467 = .ok (.iload 5, 2) := by decide +kernel
theorem d_Law_law_469 : decode b_Law_law 469 = .ok (.ifCond .ne 15, 3) := by decide +kernel
theorem d_Law_law_484 : decode b_Law_law 484 = .ok (.goto 169, 3) := by decide +kernel
end
section
theorem d_Law_law_487 : decode b_Law_law 487 = .ok (.aload_n 1, 1) := by decide +kernel
theorem d_Law_law_488 : decode b_Law_law 488 = .ok (.aload_n 0, 1) := by decide +kernel
theorem d_Law_law_489 : decode b_Law_law 489 = .ok (.iload 4, 2) := by decide +kernel
theorem d_Law_law_491 : decode b_Law_law 491 = .ok (.iconst 1, 1) := by decide +kernel
theorem d_Law_law_492 : decode b_Law_law 492 = .ok (.iadd, 1) := by decide +kernel
theorem d_Law_law_493 : decode b_Law_law 493 = .ok (.iaload, 1) := by decide +kernel
theorem d_Law_law_494 : decode b_Law_law 494 = .ok (.invokevirtual 68, 3) := by decide +kernel
theorem d_Law_law_497 : decode b_Law_law 497 = .ok (.aload_n 2, 1) := by decide +kernel
theorem d_Law_law_498 : decode b_Law_law 498 = .ok (.aload_n 0, 1) := by decide +kernel
theorem d_Law_law_499 : decode b_Law_law 499 = .ok (.iload 4, 2) := by decide +kernel
theorem d_Law_law_501 : decode b_Law_law 501 = .ok (.iconst 1, 1) := by decide +kernel
theorem d_Law_law_502 : decode b_Law_law 502 = .ok (.iadd, 1) := by decide +kernel
theorem d_Law_law_503 : decode b_Law_law 503 = .ok (.iaload, 1) := by decide +kernel
theorem d_Law_law_504 : decode b_Law_law 504 = .ok (.invokevirtual 71, 3) := by decide +kernel
theorem d_Law_law_507 : decode b_Law_law 507 = .ok (.if_icmp .eq 146, 3) := by decide +kernel
theorem d_Law_law_512 : decode b_Law_law 512 = .ok (.aload_n 1, 1) := by decide +kernel
theorem d_Law_law_513 : decode b_Law_law 513 = .ok (.aload_n 0, 1) := by decide +kernel
theorem d_Law_law_514 : decode b_Law_law 514 = .ok (.iload 4, 2) := by decide +kernel
theorem d_Law_law_516 : decode b_Law_law 516 = .ok (.iconst 1, 1) := by decide +kernel
theorem d_Law_law_517 : decode b_Law_law 517 = .ok (.iadd, 1) := by decide +kernel
theorem d_Law_law_518 : decode b_Law_law 518 = .ok (.iaload, 1) := by decide +kernel
theorem d_Law_law_519 : decode b_Law_law 519 = .ok (.invokevirtual 72, 3) := by decide +kernel
theorem d_Law_law_522 : decode b_Law_law 522 = .ok (.aload_n 2, 1) := by decide +kernel
theorem d_Law_law_523 : decode b_Law_law 523 = .ok (.aload_n 0, 1) := by decide +kernel
theorem d_Law_law_524 : decode b_Law_law 524 = .ok (.iload 4, 2) := by decide +kernel
theorem d_Law_law_526 : decode b_Law_law 526 = .ok (.iconst 1, 1) := by decide +kernel
theorem d_Law_law_527 : decode b_Law_law 527 = .ok (.iadd, 1) := by decide +kernel
theorem d_Law_law_528 : decode b_Law_law 528 = .ok (.iaload, 1) := by decide +kernel
theorem d_Law_law_529 : decode b_Law_law 529 = .ok (.invokevirtual 75, 3) := by decide +kernel
theorem d_Law_law_532 : decode b_Law_law 532 = .ok (.if_icmp .eq 121, 3) := by decide +kernel
theorem d_Law_law_537 : decode b_Law_law 537 = .ok (.aload_n 1, 1) := by decide +kernel
theorem d_Law_law_538 : decode b_Law_law 538 = .ok (.aload_n 0, 1) := by decide +kernel
theorem d_Law_law_539 : decode b_Law_law 539 = .ok (.iload 4, 2) := by decide +kernel
theorem d_Law_law_541 : decode b_Law_law 541 = .ok (.iconst 1, 1) := by decide +kernel
theorem d_Law_law_542 : decode b_Law_law 542 = .ok (.iadd, 1) := by decide +kernel
theorem d_Law_law_543 : decode b_Law_law 543 = .ok (.iaload, 1) := by decide +kernel
theorem d_Law_law_544 : decode b_Law_law 544 = .ok (.ifCond .eq 7, 3) := by decide +kernel
theorem d_Law_law_551 : decode b_Law_law 551 = .ok (.iconst 0, 1) := by decide +kernel
theorem d_Law_law_552 : decode b_Law_law 552 = .ok (.invokevirtual 76, 3) := by decide +kernel
theorem d_Law_law_555 : decode b_Law_law 555 = .ok (.aload_n 2, 1) := by decide +kernel
theorem d_Law_law_556 : decode b_Law_law 556 = .ok (.aload_n 0, 1) := by decide +kernel
theorem d_Law_law_557 : decode b_Law_law 557 = .ok (.iload 4, 2) := by decide +kernel
theorem d_Law_law_559 : decode b_Law_law 559 = .ok (.iconst 1, 1) := by decide +kernel
theorem d_Law_law_560 : decode b_Law_law 560 = .ok (.iadd, 1) := by decide +kernel
theorem d_Law_law_561 : decode b_Law_law 561 = .ok (.iaload, 1) := by decide +kernel
theorem d_Law_law_562 : decode b_Law_law 562 = .ok (.ifCond .eq 7, 3) := by decide +kernel
theorem d_Law_law_569 : decode b_Law_law 569 = .ok (.iconst 0, 1) := by decide +kernel
theorem d_Law_law_570 : decode b_Law_law 570 = .ok (.invokevirtual 80, 3) := by decide +kernel
theorem d_Law_law_573 : decode b_Law_law 573 = .ok (.if_icmp .eq 80, 3) := by decide +kernel
theorem d_Law_law_565 : decode b_Law_law 565 = .ok (.iconst 1, 1) := by decide +kernel
theorem d_Law_law_566 : decode b_Law_law 566 = .ok (.goto 4, 3) := by decide +kernel
theorem d_Law_law_547 : decode b_Law_law 547 = .ok (.iconst 1, 1) := by decide +kernel
theorem d_Law_law_548 : decode b_Law_law 548 = .ok (.goto 4, 3) := by decide +kernel
theorem d_Law_law_578 : decode b_Law_law 578 = .ok (.aload_n 1, 1) := by decide +kernel
theorem d_Law_law_579 : decode b_Law_law 579 = .ok (.aload_n 0, 1) := by decide +kernel
theorem d_Law_law_580 : decode b_Law_law 580 = .ok (.iload 4, 2) := by decide +kernel
theorem d_Law_law_582 : decode b_Law_law 582 = .ok (.iconst 1, 1) := by decide +kernel
theorem d_Law_law_583 : decode b_Law_law 583 = .ok (.iadd, 1) := by decide +kernel
theorem d_Law_law_584 : decode b_Law_law 584 = .ok (.iaload, 1) := by decide +kernel
theorem d_Law_law_585 : decode b_Law_law 585 = .ok (.invokevirtual 81, 3) := by decide +kernel
theorem d_Law_law_588 : decode b_Law_law 588 = .ok (.aload_n 2, 1) := by decide +kernel
theorem d_Law_law_589 : decode b_Law_law 589 = .ok (.aload_n 0, 1) := by decide +kernel
theorem d_Law_law_590 : decode b_Law_law 590 = .ok (.iload 4, 2) := by decide +kernel
theorem d_Law_law_592 : decode b_Law_law 592 = .ok (.iconst 1, 1) := by decide +kernel
theorem d_Law_law_593 : decode b_Law_law 593 = .ok (.iadd, 1) := by decide +kernel
theorem d_Law_law_594 : decode b_Law_law 594 = .ok (.iaload, 1) := by decide +kernel
theorem d_Law_law_595 : decode b_Law_law 595 = .ok (.invokevirtual 84, 3) := by decide +kernel
theorem d_Law_law_598 : decode b_Law_law 598 = .ok (.if_icmp .eq 55, 3) := by decide +kernel
theorem d_Law_law_603 : decode b_Law_law 603 = .ok (.aload_n 1, 1) := by decide +kernel
theorem d_Law_law_604 : decode b_Law_law 604 = .ok (.aload_n 0, 1) := by decide +kernel
theorem d_Law_law_605 : decode b_Law_law 605 = .ok (.iload 4, 2) := by decide +kernel
theorem d_Law_law_607 : decode b_Law_law 607 = .ok (.iconst 1, 1) := by decide +kernel
theorem d_Law_law_608 : decode b_Law_law 608 = .ok (.iadd, 1) := by decide +kernel
theorem d_Law_law_609 : decode b_Law_law 609 = .ok (.iaload, 1) := by decide +kernel
theorem d_Law_law_610 : decode b_Law_law 610 = .ok (.invokevirtual 85, 3) := by decide +kernel
theorem d_Law_law_613 : decode b_Law_law 613 = .ok (.aload_n 2, 1) := by decide +kernel
theorem d_Law_law_614 : decode b_Law_law 614 = .ok (.aload_n 0, 1) := by decide +kernel
theorem d_Law_law_615 : decode b_Law_law 615 = .ok (.iload 4, 2) := by decide +kernel
theorem d_Law_law_617 : decode b_Law_law 617 = .ok (.iconst 1, 1) := by decide +kernel
theorem d_Law_law_618 : decode b_Law_law 618 = .ok (.iadd, 1) := by decide +kernel
theorem d_Law_law_619 : decode b_Law_law 619 = .ok (.iaload, 1) := by decide +kernel
theorem d_Law_law_620 : decode b_Law_law 620 = .ok (.invokevirtual 88, 3) := by decide +kernel
theorem d_Law_law_623 : decode b_Law_law 623 = .ok (.if_icmp .eq 30, 3) := by decide +kernel
theorem d_Law_law_628 : decode b_Law_law 628 = .ok (.aload_n 1, 1) := by decide +kernel
theorem d_Law_law_629 : decode b_Law_law 629 = .ok (.aload_n 0, 1) := by decide +kernel
theorem d_Law_law_630 : decode b_Law_law 630 = .ok (.iload 4, 2) := by decide +kernel
theorem d_Law_law_632 : decode b_Law_law 632 = .ok (.iconst 1, 1) := by decide +kernel
theorem d_Law_law_633 : decode b_Law_law 633 = .ok (.iadd, 1) := by decide +kernel
theorem d_Law_law_634 : decode b_Law_law 634 = .ok (.iaload, 1) := by decide +kernel
theorem d_Law_law_635 : decode b_Law_law 635 = .ok (.invokevirtual 89, 3) := by decide +kernel
theorem d_Law_law_638 : decode b_Law_law 638 = .ok (.aload_n 2, 1) := by decide +kernel
theorem d_Law_law_639 : decode b_Law_law 639 = .ok (.aload_n 0, 1) := by decide +kernel
theorem d_Law_law_640 : decode b_Law_law 640 = .ok (.iload 4, 2) := by decide +kernel
theorem d_Law_law_642 : decode b_Law_law 642 = .ok (.iconst 1, 1) := by decide +kernel
theorem d_Law_law_643 : decode b_Law_law 643 = .ok (.iadd, 1) := by decide +kernel
theorem d_Law_law_644 : decode b_Law_law 644 = .ok (.iaload, 1) := by decide +kernel
theorem d_Law_law_645 : decode b_Law_law 645 = .ok (.invokevirtual 92, 3) := by decide +kernel
theorem d_Law_law_648 : decode b_Law_law 648 = .ok (.if_icmp .eq 5, 3) := by decide +kernel
end
section
def gc_Pc (b L : Nat) (xs : Nat → Int32) (k : Int32) : Array Value → State → Prop := va_Pc [.ref b, .int k] (fun U => va_X b L xs U U.heap ∧ b < U.heap.size)
theorem gc_ps {G : gw_G} {b L : Nat} {xs : Nat → Int32} {k : Int32} {s : State} {H : Heap} {locs : List Loc} (hX : va_X b L xs s s.heap) (hbl : b < s.heap.size) (hbA : ¬ gw_A G b) (hS : va_S (gw_A G) s.heap H locs) : PreS s H (gc_Pc b L xs k) [.ref b, .int k] :=
  ⟨fun a U g mk q => by
    obtain ⟨q0, q1, q2⟩ := q
    exact ⟨q0, va_X.moved (u := U) (U := U.calling g mk a) (Vm.Alike.refl U.vm) q1, q2⟩, fun U hU hW => ⟨rfl, by rw [hU]; exact va_X.moved hW.alike (hX.kept (hS.2.1 b hbl hbA)), by rw [hU]; exact Nat.lt_of_lt_of_le hbl hS.1⟩⟩
set_option maxHeartbeats 4000000 in
set_option maxRecDepth 100000 in
theorem c_cell (l : Launch) (b L : Nat) (xs : Nat → Int32) (k : Int32) (hk : ¬ k < 0) (hL : L < 2 ^ 31) : Met l y_Law_cell [.code y_Law_cell b_Law_cell 2 (some .int)] ({ frames := 0, cells := 0, slots := 0, locals := 0 }) (gc_Pc b L xs k) QcAny 0 0 (fun _ => False) := by
  refine Met.ofW (cc := b_Law_cell) (maxL := 2) (ret := (some .int)) (by decide) rfl ?_
  intro p e s m args below meth c s₁ B hml hv
  obtain ⟨rfl, hX, hbl⟩ := hv
  have hx := B.exec
  have hb := B.bytes
  have hr := B.returns
  have hlocks := B.notSynchronized
  have hS : va_S (fun _ => False) s.heap s.heap [] := va_S.rf
  have hl := lv_entry ([.ref b, .int k]) (n := 2) (Nat.le_of_ble_eq_true rfl)
  rw [lg_entry_eq]
  generalize (lg_sl ([.ref b, .int k]) ++ List.replicate (2 - (lg_sl ([.ref b, .int k])).length) Slot.unset).toArray = ls at hl ⊢
  have hl : lv_has ls 2 [(0, .ref b), (1, .int k)] := hl
  refine lv_iload_n hx hb d_Law_cell_0 rfl (lv_at hl 1 rfl) ?_
  refine lv_aload_n hx hb d_Law_cell_1 rfl (lv_at hl 0 rfl) ?_
  refine va_slen hx hb hX hbl (fun h => h) hS d_Law_cell_2 ?_
  refine lv_icmp_ge (tgt := 12) hx hb d_Law_cell_3 (by decide) (fun c3 => ?_) (fun c3 => ?_)
  · refine lv_iconst (v := 0) hx hb d_Law_cell_12 (by decide) ?_
    exact W.iret hx hb hr (fun t ht _ => ⟨_, rfl, ht⟩) (fun q hq => nomatch hq) d_Law_cell_13 hlocks
  · obtain ⟨j, hj, ej, -⟩ := pk_mu hk c3 hL
    refine lv_aload_n hx hb d_Law_cell_6 rfl (lv_at hl 0 rfl) ?_
    refine lv_iload_n hx hb d_Law_cell_7 rfl (lv_at hl 1 rfl) ?_
    refine va_sld hx hb hX hbl (fun h => h) hS (by rw [ej]; exact vp_in_nI hj hL) d_Law_cell_8 ?_
    refine lv_goto (tgt := 13) hx hb d_Law_cell_9 (by decide) ?_
    exact W.iret hx hb hr (fun t ht _ => ⟨_, rfl, ht⟩) (fun q hq => nomatch hq) d_Law_cell_13 hlocks
theorem gx_L6 : ∀ L : Nat, L ≤ 6 → ¬ Int32.ofNat L - 4 < 2 → L = 6 := by decide
theorem gx_sw12 (k : Int32) : (k.toInt < 0 ∨ 12 < k.toInt) ∨ k = 0 ∨ k = 1 ∨ k = 2 ∨ k = 3 ∨ k = 4 ∨ k = 5 ∨ k = 6 ∨ k = 7 ∨ k = 8 ∨ k = 9 ∨ k = 10 ∨ k = 11 ∨ k = 12 := by
  have h : (k.toInt < 0 ∨ 12 < k.toInt) ∨ k.toInt = 0 ∨ k.toInt = 1 ∨ k.toInt = 2 ∨ k.toInt = 3 ∨ k.toInt = 4 ∨ k.toInt = 5 ∨ k.toInt = 6 ∨ k.toInt = 7 ∨ k.toInt = 8 ∨ k.toInt = 9 ∨ k.toInt = 10 ∨ k.toInt = 11 ∨ k.toInt = 12 := by omega
  rcases h with h | h | h | h | h | h | h | h | h | h | h | h | h | h
  · exact Or.inl h
  · exact Or.inr (Or.inl (gx_eqI 0 h))
  · exact Or.inr (Or.inr (Or.inl (gx_eqI 1 h)))
  · exact Or.inr (Or.inr (Or.inr (Or.inl (gx_eqI 2 h))))
  · exact Or.inr (Or.inr (Or.inr (Or.inr (Or.inl (gx_eqI 3 h)))))
  · exact Or.inr (Or.inr (Or.inr (Or.inr (Or.inr (Or.inl (gx_eqI 4 h))))))
  · exact Or.inr (Or.inr (Or.inr (Or.inr (Or.inr (Or.inr (Or.inl (gx_eqI 5 h)))))))
  · exact Or.inr (Or.inr (Or.inr (Or.inr (Or.inr (Or.inr (Or.inr (Or.inl (gx_eqI 6 h))))))))
  · exact Or.inr (Or.inr (Or.inr (Or.inr (Or.inr (Or.inr (Or.inr (Or.inr (Or.inl (gx_eqI 7 h)))))))))
  · exact Or.inr (Or.inr (Or.inr (Or.inr (Or.inr (Or.inr (Or.inr (Or.inr (Or.inr (Or.inl (gx_eqI 8 h))))))))))
  · exact Or.inr (Or.inr (Or.inr (Or.inr (Or.inr (Or.inr (Or.inr (Or.inr (Or.inr (Or.inr (Or.inl (gx_eqI 9 h)))))))))))
  · exact Or.inr (Or.inr (Or.inr (Or.inr (Or.inr (Or.inr (Or.inr (Or.inr (Or.inr (Or.inr (Or.inr (Or.inl (gx_eqI 10 h))))))))))))
  · exact Or.inr (Or.inr (Or.inr (Or.inr (Or.inr (Or.inr (Or.inr (Or.inr (Or.inr (Or.inr (Or.inr (Or.inr (Or.inl (gx_eqI 11 h)))))))))))))
  · exact Or.inr (Or.inr (Or.inr (Or.inr (Or.inr (Or.inr (Or.inr (Or.inr (Or.inr (Or.inr (Or.inr (Or.inr (Or.inr ((gx_eqI 12 h))))))))))))))
end
section
/-! THE CLAIM OUT OF ONE WALK OF THE LAW'S BODY. Your part is whole_start (and what it stands on); all else here is the same for every law, but numbers. -/
def R_law : String := "GenerationsLaw"
def lw_P (b : Addr) (xs : List Int32) (args : Array Value) (s : State) : Prop := args = #[.ref b] ∧ s.IntsAt b xs ∧ xs.length ≤ 6 ∧ (Jvm.Cond.and given_1 narrow_1).before args s = true
def lw_Q (_ : Array Value) (s : State) (o : Outcome) (t : State) : Prop := o = .returned (some (.int 1)) ∧ Framed s o t [] 600002 7302198
def lw_Z (below : List Frame) (a : Array Value) (s : State) : State → Prop := fun t => ∃ o, t.status = .running ∧ Ended t below o ∧ lw_Q a s o t
/-- the law's own end, with 1 on the stack, nothing written that was there before, its room as the claim has it -/
theorem lw_ret {p : Program} {l : Launch} {e : Env} {s : State} {m : MethodId} {below : List Frame} {meth : Method} {c : Code} {b : Nat} (hx : p.tables.exec = Jvm.exec) (hb : c.code = code) (hr : meth.sig.returnType = ret) (hlocks : meth.locks = false) {pc : Nat} {H : Heap} {ls : Array Slot} (hdg : decode code pc = .ok (.ireturn, 1)) : W p l e room_1 s m #[Value.ref b] below meth c H [] 600002 7302198 (lw_Z below #[Value.ref b] s) (F0 m pc ls [.int 1]) := by
  intro T hT X
  obtain ⟨fs, hret, hrun, hended, hW, hframe⟩ := X.leave (v := some (.int 1)) (hlocks := hlocks) (fun h => by rw [hr] at h; cases h)
  have hmeth' : T.vm.method? m = some meth := X.method'
  refine ⟨T.setFrames fs, ?_, .returned (some (.int 1)), hrun, hended, rfl, ⟨_, rfl⟩, hW, hframe⟩
  jvm_step X.here [X.here.top, hx, hb, hdg, hmeth', hr, ret, narrow_b1]
  (try refine ⟨rfl, ?_⟩); (try refine ⟨rfl, ?_⟩)
  first | (intro acts; rw [hret _ acts rfl rfl rfl]) | rw [hret _ _ rfl rfl rfl]
  exact Steps.refl _
/-- what holds at the law's entry: the machine, the code, the tables' words (any of lw_tbl by 'hts w (by decide +kernel)'), the script of L ints xs at the cell b, what the Statement gives of the start (any of its parts by flat_of_before) -/
def lw_At (p : Program) (s : State) (m : MethodId) (meth : Method) (c : Code) (b L : Nat) (xs : Nat → Int32) : Prop :=
  p.tables.exec = Jvm.exec ∧ c.code = code ∧ meth.sig.returnType = ret ∧ c.maxLocals = 7 ∧ s.vm.findClass R_law = some m.cls ∧ (∀ w ∈ lw_tbl, w.before #[Value.ref b] s = true) ∧ va_X b L xs s s.heap ∧ b < s.heap.size ∧ meth.locks = false ∧ (Jvm.Cond.and given_1 narrow_1).before #[Value.ref b] s = true
set_option maxHeartbeats 8000000 in
set_option maxRecDepth 100000 in
theorem whole_start {p : Program} {e : Env} {s : State} {m : MethodId} {below : List Frame} {meth : Method} {c : Code} (l : Launch) (hl9 : l.stackTraces = false) {b L : Nat} {xs : Nat → Int32} (hL : L ≤ 6) (C0 : lw_At p s m meth c b L xs) : W p l e room_1 s m #[Value.ref b] below meth c s.heap [] 0 0 (lw_Z below #[Value.ref b] s) (entryFrame m ([Value.ref b] : List Value).toArray 7) := by
  obtain ⟨hx, hb, hr, hml, hown, hts0, hX, hbl, hlocks, hgv⟩ := id C0
  obtain ⟨G, eG, hE⟩ := gw_law hts0 hgv
  have hts := hE.ts #[Value.ref b]
  have hL31 : L < 2 ^ 31 := by omega
  have hB : G.2.2.2 ≤ s.heap.size := by rw [eG]; exact Nat.le_refl _
  have hbA : ¬ gw_A G b := by show ¬ G.2.2.2 ≤ b; rw [eG]; exact Nat.not_le.mpr hbl
  have hS : va_S (gw_A G) s.heap s.heap [] := va_S.rf
  have hown : s.vm.findClass "GenerationsLaw" = some m.cls := hown
  obtain ⟨M, eM⟩ : ∃ z : gw_M, z = fun _ => none := ⟨_, rfl⟩
  have hW : gw_P G.1 vwCl G.2.2.2 M s.heap := by rw [eM]; exact gw_P.nil
  have hl := lv_entry ([.ref b]) (n := 7) (Nat.le_of_ble_eq_true rfl)
  rw [lg_entry_eq]
  generalize (lg_sl ([.ref b]) ++ List.replicate (7 - (lg_sl ([.ref b])).length) Slot.unset).toArray = ls at hl ⊢
  have hl : lv_has ls 7 [(0, .ref b)] := hl
  refine gw_new (ci := 0) (fs := [.int 0, .int 0, .int 0, .null, .null, .null, .null, .null, .int 0]) hx hb hts in_X t_X t_X_ok hown (hts _ mw230) (hts _ mw231) (hts _ mw83) hE.K hW hS hB rfl (fun j hj => by rcases (show j = 0 ∨ j = 1 ∨ j = 2 ∨ j = 3 ∨ j = 4 ∨ j = 5 ∨ j = 6 ∨ j = 7 ∨ j = 8 by omega) with rfl | rfl | rfl | rfl | rfl | rfl | rfl | rfl | rfl <;> rfl) (Nat.le_of_ble_eq_true rfl) (Nat.le_of_ble_eq_true rfl) d_Law_law_0 1 (fun q1 H hq2 hW hS => ?_)
  refine W.widen (k := 1) (n := 9) (Nat.le_refl _) (Nat.le_refl _) ?_
  obtain ⟨M3, eM3⟩ : ∃ z, z = gw_up M q1 1 (.inr (0, [.int 0, .int 0, .int 0, .null, .null, .null, .null, .null, .int 0])) := ⟨_, rfl⟩
  replace hW : gw_P G.1 vwCl G.2.2.2 M3 H := by rw [eM3]; exact hW
  have hf_q1 : M3 q1 = some (1, .inr (0, [.int 0, .int 0, .int 0, .null, .null, .null, .null, .null, .int 0])) := by rw [eM3]; exact gw_up_self _ _ _ _
  refine lv_dup hx hb d_Law_law_3 rfl ?_
  refine lv_aload_n hx hb d_Law_law_4 rfl (lv_at hl 0 rfl) ?_
  refine lv_iconst (v := 0) hx hb d_Law_law_5 (by decide) ?_
  refine W.callA (W.runS (As := [.ref b, .int 0]) (rest := [.ref q1, .ref q1]) ⟨hx, hb, hml, hown, hts⟩ (c_cell l b L xs 0 (by decide) hL31) (cwS 2 hts (gw_gs mw232 mw233 mw234 mw235) rfl rfl rfl (by decide +kernel) ⟨Nat.le_of_ble_eq_true rfl, Nat.le_of_ble_eq_true rfl⟩) (gc_ps hX hbl hbA hS) rfl rfl hl.1 rfl (lv_room (Nat.le_of_ble_eq_true rfl)) d_Law_law_6 ⟨Nat.le_of_ble_eq_true rfl, Nat.le_of_ble_eq_true rfl⟩) (fun z4 => ?_)
  refine W.eq (g2 := F0 m 9 ls [.int z4, .ref q1, .ref q1]) rfl ?_
  refine lv_aload_n hx hb d_Law_law_9 rfl (lv_at hl 0 rfl) ?_
  refine lv_iconst (v := 1) hx hb d_Law_law_10 (by decide) ?_
  refine W.callA (W.runS (As := [.ref b, .int 1]) (rest := [.int z4, .ref q1, .ref q1]) ⟨hx, hb, hml, hown, hts⟩ (c_cell l b L xs 1 (by decide) hL31) (cwS 2 hts (gw_gs mw232 mw233 mw234 mw235) rfl rfl rfl (by decide +kernel) ⟨Nat.le_of_ble_eq_true rfl, Nat.le_of_ble_eq_true rfl⟩) (gc_ps hX hbl hbA hS) rfl rfl hl.1 rfl (lv_room (Nat.le_of_ble_eq_true rfl)) d_Law_law_11 ⟨Nat.le_of_ble_eq_true rfl, Nat.le_of_ble_eq_true rfl⟩) (fun z5 => ?_)
  refine W.eq (g2 := F0 m 14 ls [.int z5, .int z4, .ref q1, .ref q1]) rfl ?_
  refine gw_callv hS (va_runI (As := [.int z4, .int z5]) (rest := [.ref q1]) ⟨hx, hb, hml, hown, hts⟩ (c_X_init l G M3 q1 z4 z5 hf_q1 ) (cwI 2 hts (gw_g1 mw236) rfl rfl rfl (hts _ mw83) (hts _ mw237) (hts _ mw238) rfl (by decide +kernel) ⟨Nat.le_of_ble_eq_true rfl, Nat.le_of_ble_eq_true rfl⟩) (gw_ps hE hB hS hW) rfl rfl hl.1 rfl (lv_room (Nat.le_of_ble_eq_true rfl)) d_Law_law_14 ⟨Nat.le_of_ble_eq_true rfl, Nat.le_of_ble_eq_true rfl⟩) (fun M7 H locs hw8 hW hS => ?_)
  refine W.widen (k := 7) (n := 790) (Nat.le_refl _) (Nat.le_refl _) ?_
  obtain ⟨row9, nums10, jobs11, known12, nowh13, gone14, sc15, hf_q1', hf_row9', hf_nums10', hf_jobs11', hf_known12', hf_nowh13', hf_gone14', hfr16⟩ := hw8
  have hf_q1 : M7 q1 = some (1, .inr (0, [.int (if 1 < (if 255 < z4 then 255 else z4) then (if 255 < z4 then 255 else z4) else 1), .int sc15, .int 0, .ref row9, .ref jobs11, .ref known12, .ref nowh13, .ref gone14, .int 0])) := hf_q1'
  have hf_row9 : M7 row9 = some (2, .inr (1, [.ref nums10, .int 0])) := hf_row9'
  have hf_nums10 : M7 nums10 = some (3, .inl (G.2.1 0, 256, .inl (fun _ => 0))) := hf_nums10'
  have hf_jobs11 : M7 jobs11 = some (4, .inr (4, [.int 0, .ref (G.2.2.1 0), .int 0])) := hf_jobs11'
  have hf_known12 : M7 known12 = some (5, .inr (4, [.int 0, .ref (G.2.2.1 0), .int 0])) := hf_known12'
  have hf_nowh13 : M7 nowh13 = some (12, .inr (2, [.int 0, .int 0, .int 0, .int 0, .int 0])) := hf_nowh13'
  have hf_gone14 : M7 gone14 = some (8, .inl (G.2.1 0, 512, .inl (fun _ => 0))) := hf_gone14'
  refine lv_astore_n (lv' := [(1, .ref q1), (0, .ref b)]) hx hb d_Law_law_17 rfl hl (by decide) rfl (fun ls hl => ?_)
  refine gw_new (ci := 5) (fs := [.int 0, .int 0, .int 0, .int 0, .null, .null, .int 0, .null, .null, .null, .null, .int 0, .int 0, .null, .int 0]) hx hb hts in_Mo t_Mo t_Mo_ok hown (hts _ mw239) (hts _ mw240) (hts _ mw169) hE.K hW hS hB rfl (fun j hj => by rcases (show j = 0 ∨ j = 1 ∨ j = 2 ∨ j = 3 ∨ j = 4 ∨ j = 5 ∨ j = 6 ∨ j = 7 ∨ j = 8 ∨ j = 9 ∨ j = 10 ∨ j = 11 ∨ j = 12 ∨ j = 13 ∨ j = 14 by omega) with rfl | rfl | rfl | rfl | rfl | rfl | rfl | rfl | rfl | rfl | rfl | rfl | rfl | rfl | rfl <;> rfl) (Nat.le_of_ble_eq_true rfl) (Nat.le_of_ble_eq_true rfl) d_Law_law_18 100 (fun q17 H hq18 hW hS => ?_)
  refine W.widen (k := 8) (n := 805) (Nat.le_refl _) (Nat.le_refl _) ?_
  obtain ⟨M19, eM19⟩ : ∃ z, z = gw_up M7 q17 100 (.inr (5, [.int 0, .int 0, .int 0, .int 0, .null, .null, .int 0, .null, .null, .null, .null, .int 0, .int 0, .null, .int 0])) := ⟨_, rfl⟩
  replace hW : gw_P G.1 vwCl G.2.2.2 M19 H := by rw [eM19]; exact hW
  have hf_q1 : M19 q1 = some (1, .inr (0, [.int (if 1 < (if 255 < z4 then 255 else z4) then (if 255 < z4 then 255 else z4) else 1), .int sc15, .int 0, .ref row9, .ref jobs11, .ref known12, .ref nowh13, .ref gone14, .int 0])) := by rw [eM19]; exact gw_keepN hf_q1 hq18
  have hf_row9 : M19 row9 = some (2, .inr (1, [.ref nums10, .int 0])) := by rw [eM19]; exact gw_keepN hf_row9 hq18
  have hf_nums10 : M19 nums10 = some (3, .inl (G.2.1 0, 256, .inl (fun _ => 0))) := by rw [eM19]; exact gw_keepN hf_nums10 hq18
  have hf_jobs11 : M19 jobs11 = some (4, .inr (4, [.int 0, .ref (G.2.2.1 0), .int 0])) := by rw [eM19]; exact gw_keepN hf_jobs11 hq18
  have hf_known12 : M19 known12 = some (5, .inr (4, [.int 0, .ref (G.2.2.1 0), .int 0])) := by rw [eM19]; exact gw_keepN hf_known12 hq18
  have hf_nowh13 : M19 nowh13 = some (12, .inr (2, [.int 0, .int 0, .int 0, .int 0, .int 0])) := by rw [eM19]; exact gw_keepN hf_nowh13 hq18
  have hf_gone14 : M19 gone14 = some (8, .inl (G.2.1 0, 512, .inl (fun _ => 0))) := by rw [eM19]; exact gw_keepN hf_gone14 hq18
  have hf_q17 : M19 q17 = some (100, .inr (5, [.int 0, .int 0, .int 0, .int 0, .null, .null, .int 0, .null, .null, .null, .null, .int 0, .int 0, .null, .int 0])) := by rw [eM19]; exact gw_up_self _ _ _ _
  refine lv_dup hx hb d_Law_law_21 rfl ?_
  refine lv_aload_n hx hb d_Law_law_22 rfl (lv_at hl 1 rfl) ?_
  refine lv_iconst (v := 0) hx hb d_Law_law_23 (by decide) ?_
  refine W.callA (W.runS (As := [.ref b, .int 0]) (rest := [.ref q17, .ref q17]) ⟨hx, hb, hml, hown, hts⟩ (c_cell l b L xs 0 (by decide) hL31) (cwS 2 hts (gw_gs mw232 mw233 mw234 mw235) rfl rfl rfl (by decide +kernel) ⟨Nat.le_of_ble_eq_true rfl, Nat.le_of_ble_eq_true rfl⟩) (gc_ps hX hbl hbA hS) rfl rfl hl.1 rfl (lv_room (Nat.le_of_ble_eq_true rfl)) d_Law_law_24 ⟨Nat.le_of_ble_eq_true rfl, Nat.le_of_ble_eq_true rfl⟩) (fun z20 => ?_)
  refine W.eq (g2 := F0 m 27 ls [.int z20, .ref q17, .ref q17]) rfl ?_
  refine lv_aload_n hx hb d_Law_law_27 rfl (lv_at hl 1 rfl) ?_
  refine lv_iconst (v := 1) hx hb d_Law_law_28 (by decide) ?_
  refine W.callA (W.runS (As := [.ref b, .int 1]) (rest := [.int z20, .ref q17, .ref q17]) ⟨hx, hb, hml, hown, hts⟩ (c_cell l b L xs 1 (by decide) hL31) (cwS 2 hts (gw_gs mw232 mw233 mw234 mw235) rfl rfl rfl (by decide +kernel) ⟨Nat.le_of_ble_eq_true rfl, Nat.le_of_ble_eq_true rfl⟩) (gc_ps hX hbl hbA hS) rfl rfl hl.1 rfl (lv_room (Nat.le_of_ble_eq_true rfl)) d_Law_law_29 ⟨Nat.le_of_ble_eq_true rfl, Nat.le_of_ble_eq_true rfl⟩) (fun z21 => ?_)
  refine W.eq (g2 := F0 m 32 ls [.int z21, .int z20, .ref q17, .ref q17]) rfl ?_
  refine gw_callv hS (va_runI (As := [.int z20, .int z21]) (rest := [.ref q17]) ⟨hx, hb, hml, hown, hts⟩ (m_init l G M19 q17 z20 z21 hf_q17 ) (cwI 2 hts (gw_g1 mw241) rfl rfl rfl (hts _ mw169) (hts _ mw242) (hts _ mw243) rfl (by decide +kernel) ⟨Nat.le_of_ble_eq_true rfl, Nat.le_of_ble_eq_true rfl⟩) (gw_ps hE hB hS hW) rfl rfl hl.1 rfl (lv_room (Nat.le_of_ble_eq_true rfl)) d_Law_law_32 ⟨Nat.le_of_ble_eq_true rfl, Nat.le_of_ble_eq_true rfl⟩) (fun M23 H locs hw24 hW hS => ?_)
  refine W.widen (k := 15) (n := 27575) (Nat.le_refl _) (Nat.le_refl _) ?_
  obtain ⟨there25, mrow26, found27, fsz28, ends29, made30, drops31, lm32, sm33, hf_q17', hf_there25', hf_mrow26', hf_found27', hf_fsz28', hf_ends29', hf_made30', hf_drops31', hlm, hfr34⟩ := hw24
  have hf_q1 : M23 q1 = some (1, .inr (0, [.int (if 1 < (if 255 < z4 then 255 else z4) then (if 255 < z4 then 255 else z4) else 1), .int sc15, .int 0, .ref row9, .ref jobs11, .ref known12, .ref nowh13, .ref gone14, .int 0])) := (hfr34 _ _ _ (by decide)).mp hf_q1
  have hf_row9 : M23 row9 = some (2, .inr (1, [.ref nums10, .int 0])) := (hfr34 _ _ _ (by decide)).mp hf_row9
  have hf_nums10 : M23 nums10 = some (3, .inl (G.2.1 0, 256, .inl (fun _ => 0))) := (hfr34 _ _ _ (by decide)).mp hf_nums10
  have hf_jobs11 : M23 jobs11 = some (4, .inr (4, [.int 0, .ref (G.2.2.1 0), .int 0])) := (hfr34 _ _ _ (by decide)).mp hf_jobs11
  have hf_known12 : M23 known12 = some (5, .inr (4, [.int 0, .ref (G.2.2.1 0), .int 0])) := (hfr34 _ _ _ (by decide)).mp hf_known12
  have hf_nowh13 : M23 nowh13 = some (12, .inr (2, [.int 0, .int 0, .int 0, .int 0, .int 0])) := (hfr34 _ _ _ (by decide)).mp hf_nowh13
  have hf_gone14 : M23 gone14 = some (8, .inl (G.2.1 0, 512, .inl (fun _ => 0))) := (hfr34 _ _ _ (by decide)).mp hf_gone14
  have hf_q17 : M23 q17 = some (100, .inr (5, [.int 0, .int lm32, .int sm33, .int 0, .ref there25, .ref mrow26, .int 0, .ref found27, .ref fsz28, .ref ends29, .ref made30, .int 0, .int 0, .ref drops31, .int 0])) := hf_q17'
  have hf_there25 : M23 there25 = some (101, .inl (G.2.1 0, 10000, .inl (fun _ => 0))) := hf_there25'
  have hf_mrow26 : M23 mrow26 = some (102, .inl (G.2.1 0, 300, .inl (fun _ => 0))) := hf_mrow26'
  have hf_found27 : M23 found27 = some (103, .inl (G.2.1 0, 10240, .inl (fun _ => 0))) := hf_found27'
  have hf_fsz28 : M23 fsz28 = some (104, .inl (G.2.1 0, 41, .inl (fun _ => 0))) := hf_fsz28'
  have hf_ends29 : M23 ends29 = some (105, .inl (G.2.1 0, 41, .inl (fun _ => 0))) := hf_ends29'
  have hf_made30 : M23 made30 = some (106, .inl (G.2.1 0, 4100, .inl (fun _ => 0))) := hf_made30'
  have hf_drops31 : M23 drops31 = some (107, .inl (G.2.1 0, 2048, .inl (fun _ => 0))) := hf_drops31'
  refine lv_astore_n (lv' := [(2, .ref q17), (1, .ref q1), (0, .ref b)]) hx hb d_Law_law_35 rfl hl (by decide) rfl (fun ls hl => ?_)
  refine lv_iconst (v := 1) hx hb d_Law_law_36 (by decide) ?_
  refine gw_newa (atype := .long) (ty := .long) (n := 1) (a0 := (1, .inr (.inl (fun _ => 0)))) (N' := 1) hx hb (hts (.arrayClass .long) mw244) rfl hE.K hW hS hB (gw_zl 1) (by decide) (by decide) (Nat.le_of_ble_eq_true rfl) (Nat.le_of_ble_eq_true rfl) (Nat.le_of_ble_eq_true rfl) d_Law_law_37 2 rfl (fun cA h1 h2 => gw_rl _ _ h1 h2) 50 (fun q35 H hq36 hW hS => ?_)
  refine W.widen (k := 16) (n := 27576) (Nat.le_refl _) (Nat.le_refl _) ?_
  obtain ⟨M37, eM37⟩ : ∃ z, z = gw_up M23 q35 50 (.inl (G.2.1 2, 1, .inr (.inl (fun _ => 0)))) := ⟨_, rfl⟩
  replace hW : gw_P G.1 vwCl G.2.2.2 M37 H := by rw [eM37]; exact hW
  have hf_q17 : M37 q17 = some (100, .inr (5, [.int 0, .int lm32, .int sm33, .int 0, .ref there25, .ref mrow26, .int 0, .ref found27, .ref fsz28, .ref ends29, .ref made30, .int 0, .int 0, .ref drops31, .int 0])) := by rw [eM37]; exact gw_keepN hf_q17 hq36
  have hf_there25 : M37 there25 = some (101, .inl (G.2.1 0, 10000, .inl (fun _ => 0))) := by rw [eM37]; exact gw_keepN hf_there25 hq36
  have hf_mrow26 : M37 mrow26 = some (102, .inl (G.2.1 0, 300, .inl (fun _ => 0))) := by rw [eM37]; exact gw_keepN hf_mrow26 hq36
  have hf_found27 : M37 found27 = some (103, .inl (G.2.1 0, 10240, .inl (fun _ => 0))) := by rw [eM37]; exact gw_keepN hf_found27 hq36
  have hf_fsz28 : M37 fsz28 = some (104, .inl (G.2.1 0, 41, .inl (fun _ => 0))) := by rw [eM37]; exact gw_keepN hf_fsz28 hq36
  have hf_ends29 : M37 ends29 = some (105, .inl (G.2.1 0, 41, .inl (fun _ => 0))) := by rw [eM37]; exact gw_keepN hf_ends29 hq36
  have hf_made30 : M37 made30 = some (106, .inl (G.2.1 0, 4100, .inl (fun _ => 0))) := by rw [eM37]; exact gw_keepN hf_made30 hq36
  have hf_drops31 : M37 drops31 = some (107, .inl (G.2.1 0, 2048, .inl (fun _ => 0))) := by rw [eM37]; exact gw_keepN hf_drops31 hq36
  have hf_q1 : M37 q1 = some (1, .inr (0, [.int (if 1 < (if 255 < z4 then 255 else z4) then (if 255 < z4 then 255 else z4) else 1), .int sc15, .int 0, .ref row9, .ref jobs11, .ref known12, .ref nowh13, .ref gone14, .int 0])) := by rw [eM37]; exact gw_keepN hf_q1 hq36
  have hf_row9 : M37 row9 = some (2, .inr (1, [.ref nums10, .int 0])) := by rw [eM37]; exact gw_keepN hf_row9 hq36
  have hf_nums10 : M37 nums10 = some (3, .inl (G.2.1 0, 256, .inl (fun _ => 0))) := by rw [eM37]; exact gw_keepN hf_nums10 hq36
  have hf_jobs11 : M37 jobs11 = some (4, .inr (4, [.int 0, .ref (G.2.2.1 0), .int 0])) := by rw [eM37]; exact gw_keepN hf_jobs11 hq36
  have hf_known12 : M37 known12 = some (5, .inr (4, [.int 0, .ref (G.2.2.1 0), .int 0])) := by rw [eM37]; exact gw_keepN hf_known12 hq36
  have hf_nowh13 : M37 nowh13 = some (12, .inr (2, [.int 0, .int 0, .int 0, .int 0, .int 0])) := by rw [eM37]; exact gw_keepN hf_nowh13 hq36
  have hf_gone14 : M37 gone14 = some (8, .inl (G.2.1 0, 512, .inl (fun _ => 0))) := by rw [eM37]; exact gw_keepN hf_gone14 hq36
  have hf_q35 : M37 q35 = some (50, .inl (G.2.1 2, 1, .inr (.inl (fun _ => 0)))) := by rw [eM37]; exact gw_up_self _ _ _ _
  refine lv_astore_n (lv' := [(3, .ref q35), (2, .ref q17), (1, .ref q1), (0, .ref b)]) hx hb d_Law_law_39 rfl hl (by decide) rfl (fun ls hl => ?_)
  refine lv_iconst (v := 2) hx hb d_Law_law_40 (by decide) ?_
  refine lv_istore (lv' := [(4, .int 2), (3, .ref q35), (2, .ref q17), (1, .ref q1), (0, .ref b)]) hx hb d_Law_law_41 hl (by decide) rfl (fun ls hl => ?_)
  refine lv_iload hx hb d_Law_law_43 (lv_at hl 0 rfl) ?_
  refine lv_aload_n hx hb d_Law_law_45 rfl (lv_at hl 4 rfl) ?_
  refine va_slen hx hb hX hbl hbA hS d_Law_law_46 ?_
  refine lv_iconst (v := 4) hx hb d_Law_law_47 (by decide) ?_
  refine lv_isub hx hb d_Law_law_48 ?_
  refine lv_icmp_gt (tgt := 659) hx hb d_Law_law_49 (by decide) (fun c49 => ?_) (fun c49 => ?_)
  · refine lv_iconst (v := 1) hx hb d_Law_law_659 (by decide) ?_
    refine va_forget (fun q hq => by have h9 := hS.2.2 q hq; rw [← eG]; exact h9) ?_
    refine W.widen (k := 600002) (n := 7302198) (Nat.le_of_ble_eq_true rfl) (Nat.le_of_ble_eq_true rfl) ?_
    exact lw_ret hx hb hr hlocks d_Law_law_660
  · obtain rfl : L = 6 := gx_L6 L hL c49
    refine lv_aload_n hx hb d_Law_law_52 rfl (lv_at hl 4 rfl) ?_
    refine lv_iload hx hb d_Law_law_53 (lv_at hl 0 rfl) ?_
    refine va_sld hx hb hX hbl hbA hS (i := 2) (show ¬ ((2 : Int32) < 0 ∨ 6 ≤ (2 : Int32).toNatClampNeg) by decide) d_Law_law_55 ?_
    refine lv_bipush (v := 15) hx hb d_Law_law_56 (by decide) ?_
    refine lv_iand hx hb d_Law_law_58 ?_
    rcases gx_sw12 ((xs (2 : Int32).toNatClampNeg) &&& 15) with h9 | h9 | h9 | h9 | h9 | h9 | h9 | h9 | h9 | h9 | h9 | h9 | h9 | h9
    · refine lv_tableOut (tgt := 653) hx hb d_Law_law_59 h9 (by decide) ?_
      refine lv_iinc (v := 2 + 4) (lv' := [(4, .int (2 + 4)), (3, .ref q35), (2, .ref q17), (1, .ref q1), (0, .ref b)]) hx hb d_Law_law_653 hl (k := 0) rfl rfl (by decide) rfl (fun ls hl => ?_)
      refine lv_goto (tgt := 43) hx hb d_Law_law_656 (by decide) ?_
      refine lv_iload hx hb d_Law_law_43 (lv_at hl 0 rfl) ?_
      refine lv_aload_n hx hb d_Law_law_45 rfl (lv_at hl 4 rfl) ?_
      refine va_slen hx hb hX hbl hbA hS d_Law_law_46 ?_
      refine lv_iconst (v := 4) hx hb d_Law_law_47 (by decide) ?_
      refine lv_isub hx hb d_Law_law_48 ?_
      refine lv_icmp_gt (tgt := 659) hx hb d_Law_law_49 (by decide) (fun c49 => ?_) (fun c49 => ?_)
      · refine lv_iconst (v := 1) hx hb d_Law_law_659 (by decide) ?_
        refine va_forget (fun q hq => by have h9 := hS.2.2 q hq; rw [← eG]; exact h9) ?_
        refine W.widen (k := 600002) (n := 7302198) (Nat.le_of_ble_eq_true rfl) (Nat.le_of_ble_eq_true rfl) ?_
        exact lw_ret hx hb hr hlocks d_Law_law_660
      · exact absurd (by decide) c49
    · refine lv_tableIn (tgt := 124) hx hb d_Law_law_59 (by rw [h9]; decide) (by rw [h9]; decide) (by rw [h9]; rfl) (by decide) ?_
      refine lv_aload_n hx hb d_Law_law_124 rfl (lv_at hl 3 rfl) ?_
      refine lv_aload_n hx hb d_Law_law_125 rfl (lv_at hl 4 rfl) ?_
      refine lv_iload hx hb d_Law_law_126 (lv_at hl 0 rfl) ?_
      refine lv_iconst (v := 1) hx hb d_Law_law_128 (by decide) ?_
      refine lv_iadd hx hb d_Law_law_129 ?_
      refine va_sld hx hb hX hbl hbA hS (i := 2 + 1) (show ¬ ((2 + 1 : Int32) < 0 ∨ 6 ≤ (2 + 1 : Int32).toNatClampNeg) by decide) d_Law_law_130 ?_
      refine gw_calli hS (va_runV (As := [.int (xs (2 + 1 : Int32).toNatClampNeg)]) (rest := []) ⟨hx, hb, hml, hown, hts⟩ (c_catalogue l G M37 q1 row9 nums10 jobs11 known12 nowh13 gone14 (if 1 < (if 255 < z4 then 255 else z4) then (if 255 < z4 then 255 else z4) else 1) sc15 (xs (2 + 1 : Int32).toNatClampNeg) hf_q1 hf_row9 hf_nums10 hf_known12 hf_nowh13 (gx_lim _)) (cwV 1 hts (gw_gv mw246 mw247 mw248 mw83 mw245) rfl rfl rfl (by decide +kernel) ⟨Nat.le_of_ble_eq_true rfl, Nat.le_of_ble_eq_true rfl⟩) (gw_pv hE hB hS hW rfl hf_q1) rfl rfl hl.1 rfl (lv_room (Nat.le_of_ble_eq_true rfl)) d_Law_law_131 ⟨Nat.le_of_ble_eq_true rfl, Nat.le_of_ble_eq_true rfl⟩) (fun r38 M39 H locs hw40 hW hS => ?_)
      refine W.widen (k := 18) (n := 27591) (Nat.le_refl _) (Nat.le_refl _) ?_
      obtain ⟨rfl, hfr41⟩ := hw40
      have hf_q17 : M39 q17 = some (100, .inr (5, [.int 0, .int lm32, .int sm33, .int 0, .ref there25, .ref mrow26, .int 0, .ref found27, .ref fsz28, .ref ends29, .ref made30, .int 0, .int 0, .ref drops31, .int 0])) := (hfr41 _ _ _ (by decide)).mp hf_q17
      have hf_there25 : M39 there25 = some (101, .inl (G.2.1 0, 10000, .inl (fun _ => 0))) := (hfr41 _ _ _ (by decide)).mp hf_there25
      have hf_mrow26 : M39 mrow26 = some (102, .inl (G.2.1 0, 300, .inl (fun _ => 0))) := (hfr41 _ _ _ (by decide)).mp hf_mrow26
      have hf_found27 : M39 found27 = some (103, .inl (G.2.1 0, 10240, .inl (fun _ => 0))) := (hfr41 _ _ _ (by decide)).mp hf_found27
      have hf_fsz28 : M39 fsz28 = some (104, .inl (G.2.1 0, 41, .inl (fun _ => 0))) := (hfr41 _ _ _ (by decide)).mp hf_fsz28
      have hf_ends29 : M39 ends29 = some (105, .inl (G.2.1 0, 41, .inl (fun _ => 0))) := (hfr41 _ _ _ (by decide)).mp hf_ends29
      have hf_made30 : M39 made30 = some (106, .inl (G.2.1 0, 4100, .inl (fun _ => 0))) := (hfr41 _ _ _ (by decide)).mp hf_made30
      have hf_drops31 : M39 drops31 = some (107, .inl (G.2.1 0, 2048, .inl (fun _ => 0))) := (hfr41 _ _ _ (by decide)).mp hf_drops31
      have hf_q1 : M39 q1 = some (1, .inr (0, [.int (if 1 < (if 255 < z4 then 255 else z4) then (if 255 < z4 then 255 else z4) else 1), .int sc15, .int 0, .ref row9, .ref jobs11, .ref known12, .ref nowh13, .ref gone14, .int 0])) := (hfr41 _ _ _ (by decide)).mp hf_q1
      have hf_jobs11 : M39 jobs11 = some (4, .inr (4, [.int 0, .ref (G.2.2.1 0), .int 0])) := (hfr41 _ _ _ (by decide)).mp hf_jobs11
      have hf_nowh13 : M39 nowh13 = some (12, .inr (2, [.int 0, .int 0, .int 0, .int 0, .int 0])) := (hfr41 _ _ _ (by decide)).mp hf_nowh13
      have hf_gone14 : M39 gone14 = some (8, .inl (G.2.1 0, 512, .inl (fun _ => 0))) := (hfr41 _ _ _ (by decide)).mp hf_gone14
      have hf_q35 : M39 q35 = some (50, .inl (G.2.1 2, 1, .inr (.inl (fun _ => 0)))) := (hfr41 _ _ _ (by decide)).mp hf_q35
      refine lv_aload_n hx hb d_Law_law_134 rfl (lv_at hl 2 rfl) ?_
      refine lv_aload_n hx hb d_Law_law_135 rfl (lv_at hl 4 rfl) ?_
      refine lv_iload hx hb d_Law_law_136 (lv_at hl 0 rfl) ?_
      refine lv_iconst (v := 1) hx hb d_Law_law_138 (by decide) ?_
      refine lv_iadd hx hb d_Law_law_139 ?_
      refine va_sld hx hb hX hbl hbA hS (i := 2 + 1) (show ¬ ((2 + 1 : Int32) < 0 ∨ 6 ≤ (2 + 1 : Int32).toNatClampNeg) by decide) d_Law_law_140 ?_
      refine gw_calli hS (va_runV (As := [.int (xs (2 + 1 : Int32).toNatClampNeg)]) (rest := [.int (gx_cat (xs (2 + 1 : Int32).toNatClampNeg))]) ⟨hx, hb, hml, hown, hts⟩ (m_catalogue l G M39 q17 there25 mrow26 found27 fsz28 ends29 made30 drops31 0 lm32 sm33 (xs (2 + 1 : Int32).toNatClampNeg) hf_q17 hf_there25 hf_mrow26 hlm) (cwV 1 hts (gw_gv mw250 mw251 mw252 mw169 mw249) rfl rfl rfl (by decide +kernel) ⟨Nat.le_of_ble_eq_true rfl, Nat.le_of_ble_eq_true rfl⟩) (gw_pv hE hB hS hW rfl hf_q17) rfl rfl hl.1 rfl (lv_room (Nat.le_of_ble_eq_true rfl)) d_Law_law_141 ⟨Nat.le_of_ble_eq_true rfl, Nat.le_of_ble_eq_true rfl⟩) (fun r42 M43 H locs hw44 hW hS => ?_)
      obtain ⟨rfl, hfr45⟩ := hw44
      have hf_found27 : M43 found27 = some (103, .inl (G.2.1 0, 10240, .inl (fun _ => 0))) := (hfr45 _ _ _ (by decide)).mp hf_found27
      have hf_fsz28 : M43 fsz28 = some (104, .inl (G.2.1 0, 41, .inl (fun _ => 0))) := (hfr45 _ _ _ (by decide)).mp hf_fsz28
      have hf_ends29 : M43 ends29 = some (105, .inl (G.2.1 0, 41, .inl (fun _ => 0))) := (hfr45 _ _ _ (by decide)).mp hf_ends29
      have hf_made30 : M43 made30 = some (106, .inl (G.2.1 0, 4100, .inl (fun _ => 0))) := (hfr45 _ _ _ (by decide)).mp hf_made30
      have hf_drops31 : M43 drops31 = some (107, .inl (G.2.1 0, 2048, .inl (fun _ => 0))) := (hfr45 _ _ _ (by decide)).mp hf_drops31
      have hf_q1 : M43 q1 = some (1, .inr (0, [.int (if 1 < (if 255 < z4 then 255 else z4) then (if 255 < z4 then 255 else z4) else 1), .int sc15, .int 0, .ref row9, .ref jobs11, .ref known12, .ref nowh13, .ref gone14, .int 0])) := (hfr45 _ _ _ (by decide)).mp hf_q1
      have hf_jobs11 : M43 jobs11 = some (4, .inr (4, [.int 0, .ref (G.2.2.1 0), .int 0])) := (hfr45 _ _ _ (by decide)).mp hf_jobs11
      have hf_nowh13 : M43 nowh13 = some (12, .inr (2, [.int 0, .int 0, .int 0, .int 0, .int 0])) := (hfr45 _ _ _ (by decide)).mp hf_nowh13
      have hf_gone14 : M43 gone14 = some (8, .inl (G.2.1 0, 512, .inl (fun _ => 0))) := (hfr45 _ _ _ (by decide)).mp hf_gone14
      have hf_q35 : M43 q35 = some (50, .inl (G.2.1 2, 1, .inr (.inl (fun _ => 0)))) := (hfr45 _ _ _ (by decide)).mp hf_q35
      refine lv_icmp_eq (tgt := 653) hx hb d_Law_law_144 (by decide) (fun c144 => ?_) (fun c144 => ?_)
      · refine lv_iinc (v := 2 + 4) (lv' := [(4, .int (2 + 4)), (3, .ref q35), (2, .ref q17), (1, .ref q1), (0, .ref b)]) hx hb d_Law_law_653 hl (k := 0) rfl rfl (by decide) rfl (fun ls hl => ?_)
        refine lv_goto (tgt := 43) hx hb d_Law_law_656 (by decide) ?_
        refine lv_iload hx hb d_Law_law_43 (lv_at hl 0 rfl) ?_
        refine lv_aload_n hx hb d_Law_law_45 rfl (lv_at hl 4 rfl) ?_
        refine va_slen hx hb hX hbl hbA hS d_Law_law_46 ?_
        refine lv_iconst (v := 4) hx hb d_Law_law_47 (by decide) ?_
        refine lv_isub hx hb d_Law_law_48 ?_
        refine lv_icmp_gt (tgt := 659) hx hb d_Law_law_49 (by decide) (fun c49 => ?_) (fun c49 => ?_)
        · refine lv_iconst (v := 1) hx hb d_Law_law_659 (by decide) ?_
          refine va_forget (fun q hq => by have h9 := hS.2.2 q hq; rw [← eG]; exact h9) ?_
          refine W.widen (k := 600002) (n := 7302198) (Nat.le_of_ble_eq_true rfl) (Nat.le_of_ble_eq_true rfl) ?_
          exact lw_ret hx hb hr hlocks d_Law_law_660
        · exact absurd (by decide) c49
      · exact absurd rfl c144
    · refine lv_tableIn (tgt := 149) hx hb d_Law_law_59 (by rw [h9]; decide) (by rw [h9]; decide) (by rw [h9]; rfl) (by decide) ?_
      refine lv_aload_n hx hb d_Law_law_149 rfl (lv_at hl 3 rfl) ?_
      refine gw_calli hS (va_runV (As := []) (rest := []) ⟨hx, hb, hml, hown, hts⟩ (c_job l G M37 q1 row9 nums10 jobs11 known12 nowh13 gone14 (if 1 < (if 255 < z4 then 255 else z4) then (if 255 < z4 then 255 else z4) else 1) sc15 hf_q1 hf_row9 hf_nums10 hf_jobs11 ) (cwV 0 hts (gw_gv mw254 mw255 mw256 mw83 mw253) rfl rfl rfl (by decide +kernel) ⟨Nat.le_of_ble_eq_true rfl, Nat.le_of_ble_eq_true rfl⟩) (gw_pv hE hB hS hW rfl hf_q1) rfl rfl hl.1 rfl (lv_room (Nat.le_of_ble_eq_true rfl)) d_Law_law_150 ⟨Nat.le_of_ble_eq_true rfl, Nat.le_of_ble_eq_true rfl⟩) (fun r46 M47 H locs hw48 hW hS => ?_)
      refine W.widen (k := 19) (n := 27588) (Nat.le_refl _) (Nat.le_refl _) ?_
      obtain ⟨rfl, hfr49⟩ := hw48
      have hf_q17 : M47 q17 = some (100, .inr (5, [.int 0, .int lm32, .int sm33, .int 0, .ref there25, .ref mrow26, .int 0, .ref found27, .ref fsz28, .ref ends29, .ref made30, .int 0, .int 0, .ref drops31, .int 0])) := (hfr49 _ _ _ (by decide)).mp hf_q17
      have hf_there25 : M47 there25 = some (101, .inl (G.2.1 0, 10000, .inl (fun _ => 0))) := (hfr49 _ _ _ (by decide)).mp hf_there25
      have hf_mrow26 : M47 mrow26 = some (102, .inl (G.2.1 0, 300, .inl (fun _ => 0))) := (hfr49 _ _ _ (by decide)).mp hf_mrow26
      have hf_found27 : M47 found27 = some (103, .inl (G.2.1 0, 10240, .inl (fun _ => 0))) := (hfr49 _ _ _ (by decide)).mp hf_found27
      have hf_fsz28 : M47 fsz28 = some (104, .inl (G.2.1 0, 41, .inl (fun _ => 0))) := (hfr49 _ _ _ (by decide)).mp hf_fsz28
      have hf_ends29 : M47 ends29 = some (105, .inl (G.2.1 0, 41, .inl (fun _ => 0))) := (hfr49 _ _ _ (by decide)).mp hf_ends29
      have hf_made30 : M47 made30 = some (106, .inl (G.2.1 0, 4100, .inl (fun _ => 0))) := (hfr49 _ _ _ (by decide)).mp hf_made30
      have hf_drops31 : M47 drops31 = some (107, .inl (G.2.1 0, 2048, .inl (fun _ => 0))) := (hfr49 _ _ _ (by decide)).mp hf_drops31
      have hf_q1 : M47 q1 = some (1, .inr (0, [.int (if 1 < (if 255 < z4 then 255 else z4) then (if 255 < z4 then 255 else z4) else 1), .int sc15, .int 0, .ref row9, .ref jobs11, .ref known12, .ref nowh13, .ref gone14, .int 0])) := (hfr49 _ _ _ (by decide)).mp hf_q1
      have hf_row9 : M47 row9 = some (2, .inr (1, [.ref nums10, .int 0])) := (hfr49 _ _ _ (by decide)).mp hf_row9
      have hf_nums10 : M47 nums10 = some (3, .inl (G.2.1 0, 256, .inl (fun _ => 0))) := (hfr49 _ _ _ (by decide)).mp hf_nums10
      have hf_known12 : M47 known12 = some (5, .inr (4, [.int 0, .ref (G.2.2.1 0), .int 0])) := (hfr49 _ _ _ (by decide)).mp hf_known12
      have hf_nowh13 : M47 nowh13 = some (12, .inr (2, [.int 0, .int 0, .int 0, .int 0, .int 0])) := (hfr49 _ _ _ (by decide)).mp hf_nowh13
      have hf_gone14 : M47 gone14 = some (8, .inl (G.2.1 0, 512, .inl (fun _ => 0))) := (hfr49 _ _ _ (by decide)).mp hf_gone14
      have hf_q35 : M47 q35 = some (50, .inl (G.2.1 2, 1, .inr (.inl (fun _ => 0)))) := (hfr49 _ _ _ (by decide)).mp hf_q35
      refine lv_aload_n hx hb d_Law_law_153 rfl (lv_at hl 2 rfl) ?_
      refine gw_calli hS (va_runV (As := []) (rest := [.int 1]) ⟨hx, hb, hml, hown, hts⟩ (m_job l G M47 q17 there25 mrow26 found27 fsz28 ends29 made30 drops31 0 lm32 sm33 hf_q17 hf_fsz28 ) (cwV 0 hts (gw_gv mw258 mw259 mw260 mw169 mw257) rfl rfl rfl (by decide +kernel) ⟨Nat.le_of_ble_eq_true rfl, Nat.le_of_ble_eq_true rfl⟩) (gw_pv hE hB hS hW rfl hf_q17) rfl rfl hl.1 rfl (lv_room (Nat.le_of_ble_eq_true rfl)) d_Law_law_154 ⟨Nat.le_of_ble_eq_true rfl, Nat.le_of_ble_eq_true rfl⟩) (fun r50 M51 H locs hw52 hW hS => ?_)
      obtain ⟨rfl, hfr53⟩ := hw52
      have hf_there25 : M51 there25 = some (101, .inl (G.2.1 0, 10000, .inl (fun _ => 0))) := (hfr53 _ _ _ (by decide)).mp hf_there25
      have hf_mrow26 : M51 mrow26 = some (102, .inl (G.2.1 0, 300, .inl (fun _ => 0))) := (hfr53 _ _ _ (by decide)).mp hf_mrow26
      have hf_found27 : M51 found27 = some (103, .inl (G.2.1 0, 10240, .inl (fun _ => 0))) := (hfr53 _ _ _ (by decide)).mp hf_found27
      have hf_ends29 : M51 ends29 = some (105, .inl (G.2.1 0, 41, .inl (fun _ => 0))) := (hfr53 _ _ _ (by decide)).mp hf_ends29
      have hf_made30 : M51 made30 = some (106, .inl (G.2.1 0, 4100, .inl (fun _ => 0))) := (hfr53 _ _ _ (by decide)).mp hf_made30
      have hf_drops31 : M51 drops31 = some (107, .inl (G.2.1 0, 2048, .inl (fun _ => 0))) := (hfr53 _ _ _ (by decide)).mp hf_drops31
      have hf_q1 : M51 q1 = some (1, .inr (0, [.int (if 1 < (if 255 < z4 then 255 else z4) then (if 255 < z4 then 255 else z4) else 1), .int sc15, .int 0, .ref row9, .ref jobs11, .ref known12, .ref nowh13, .ref gone14, .int 0])) := (hfr53 _ _ _ (by decide)).mp hf_q1
      have hf_row9 : M51 row9 = some (2, .inr (1, [.ref nums10, .int 0])) := (hfr53 _ _ _ (by decide)).mp hf_row9
      have hf_nums10 : M51 nums10 = some (3, .inl (G.2.1 0, 256, .inl (fun _ => 0))) := (hfr53 _ _ _ (by decide)).mp hf_nums10
      have hf_known12 : M51 known12 = some (5, .inr (4, [.int 0, .ref (G.2.2.1 0), .int 0])) := (hfr53 _ _ _ (by decide)).mp hf_known12
      have hf_nowh13 : M51 nowh13 = some (12, .inr (2, [.int 0, .int 0, .int 0, .int 0, .int 0])) := (hfr53 _ _ _ (by decide)).mp hf_nowh13
      have hf_gone14 : M51 gone14 = some (8, .inl (G.2.1 0, 512, .inl (fun _ => 0))) := (hfr53 _ _ _ (by decide)).mp hf_gone14
      have hf_q35 : M51 q35 = some (50, .inl (G.2.1 2, 1, .inr (.inl (fun _ => 0)))) := (hfr53 _ _ _ (by decide)).mp hf_q35
      refine lv_icmp_eq (tgt := 653) hx hb d_Law_law_157 (by decide) (fun c157 => ?_) (fun c157 => ?_)
      · refine lv_iinc (v := 2 + 4) (lv' := [(4, .int (2 + 4)), (3, .ref q35), (2, .ref q17), (1, .ref q1), (0, .ref b)]) hx hb d_Law_law_653 hl (k := 0) rfl rfl (by decide) rfl (fun ls hl => ?_)
        refine lv_goto (tgt := 43) hx hb d_Law_law_656 (by decide) ?_
        refine lv_iload hx hb d_Law_law_43 (lv_at hl 0 rfl) ?_
        refine lv_aload_n hx hb d_Law_law_45 rfl (lv_at hl 4 rfl) ?_
        refine va_slen hx hb hX hbl hbA hS d_Law_law_46 ?_
        refine lv_iconst (v := 4) hx hb d_Law_law_47 (by decide) ?_
        refine lv_isub hx hb d_Law_law_48 ?_
        refine lv_icmp_gt (tgt := 659) hx hb d_Law_law_49 (by decide) (fun c49 => ?_) (fun c49 => ?_)
        · refine lv_iconst (v := 1) hx hb d_Law_law_659 (by decide) ?_
          refine va_forget (fun q hq => by have h9 := hS.2.2 q hq; rw [← eG]; exact h9) ?_
          refine W.widen (k := 600002) (n := 7302198) (Nat.le_of_ble_eq_true rfl) (Nat.le_of_ble_eq_true rfl) ?_
          exact lw_ret hx hb hr hlocks d_Law_law_660
        · exact absurd (by decide) c49
      · exact absurd rfl c157
    · refine lv_tableIn (tgt := 162) hx hb d_Law_law_59 (by rw [h9]; decide) (by rw [h9]; decide) (by rw [h9]; rfl) (by decide) ?_
      refine lv_aload_n hx hb d_Law_law_162 rfl (lv_at hl 3 rfl) ?_
      refine lv_aload_n hx hb d_Law_law_163 rfl (lv_at hl 4 rfl) ?_
      refine lv_iload hx hb d_Law_law_164 (lv_at hl 0 rfl) ?_
      refine lv_iconst (v := 1) hx hb d_Law_law_166 (by decide) ?_
      refine lv_iadd hx hb d_Law_law_167 ?_
      refine va_sld hx hb hX hbl hbA hS (i := 2 + 1) (show ¬ ((2 + 1 : Int32) < 0 ∨ 6 ≤ (2 + 1 : Int32).toNatClampNeg) by decide) d_Law_law_168 ?_
      refine lv_aload_n hx hb d_Law_law_169 rfl (lv_at hl 4 rfl) ?_
      refine lv_iload hx hb d_Law_law_170 (lv_at hl 0 rfl) ?_
      refine lv_iconst (v := 2) hx hb d_Law_law_172 (by decide) ?_
      refine lv_iadd hx hb d_Law_law_173 ?_
      refine va_sld hx hb hX hbl hbA hS (i := 2 + 2) (show ¬ ((2 + 2 : Int32) < 0 ∨ 6 ≤ (2 + 2 : Int32).toNatClampNeg) by decide) d_Law_law_174 ?_
      refine lv_aload_n hx hb d_Law_law_175 rfl (lv_at hl 1 rfl) ?_
      refine gw_calli hS (gt_runSW (n := 4) (As := [.ref q1, .int (xs (2 + 1 : Int32).toNatClampNeg), .int (xs (2 + 2 : Int32).toNatClampNeg), .ref q35]) (rest := []) ⟨hx, hb, hml, hown, hts⟩ (h_relative l hl9 G M37 q1 row9 jobs11 known12 nowh13 gone14 (if 1 < (if 255 < z4 then 255 else z4) then (if 255 < z4 then 255 else z4) else 1) sc15 (xs (2 + 1 : Int32).toNatClampNeg) (xs (2 + 2 : Int32).toNatClampNeg) q35 hf_q1 hf_jobs11 ) rfl rfl ⟨Nat.le_of_ble_eq_true rfl, Nat.le_of_ble_eq_true rfl⟩ (gw_gt mw262 mw263 mw234 mw261) (by decide +kernel) (gw_ps hE hB hS hW) rfl rfl hl.1 rfl (lv_room (Nat.le_of_ble_eq_true rfl)) d_Law_law_176 ⟨Nat.le_of_ble_eq_true rfl, Nat.le_of_ble_eq_true rfl⟩) (fun r54 M55 H locs hw56 hW hS => ?_)
      refine W.widen (k := 17) (n := 27582) (Nat.le_refl _) (Nat.le_refl _) ?_
      obtain ⟨rfl, rfl⟩ := hw56
      refine lv_istore (lv' := [(5, .int 1), (4, .int 2), (3, .ref q35), (2, .ref q17), (1, .ref q1), (0, .ref b)]) hx hb d_Law_law_179 hl (by decide) rfl (fun ls hl => ?_)
      refine lv_aload_n hx hb d_Law_law_181 rfl (lv_at hl 3 rfl) ?_
      refine lv_aload_n hx hb d_Law_law_182 rfl (lv_at hl 5 rfl) ?_
      refine lv_iload hx hb d_Law_law_183 (lv_at hl 1 rfl) ?_
      refine lv_iconst (v := 1) hx hb d_Law_law_185 (by decide) ?_
      refine lv_iadd hx hb d_Law_law_186 ?_
      refine va_sld hx hb hX hbl hbA hS (i := 2 + 1) (show ¬ ((2 + 1 : Int32) < 0 ∨ 6 ≤ (2 + 1 : Int32).toNatClampNeg) by decide) d_Law_law_187 ?_
      refine lv_aload_n hx hb d_Law_law_188 rfl (lv_at hl 5 rfl) ?_
      refine lv_iload hx hb d_Law_law_189 (lv_at hl 1 rfl) ?_
      refine lv_iconst (v := 2) hx hb d_Law_law_191 (by decide) ?_
      refine lv_iadd hx hb d_Law_law_192 ?_
      refine va_sld hx hb hX hbl hbA hS (i := 2 + 2) (show ¬ ((2 + 2 : Int32) < 0 ∨ 6 ≤ (2 + 2 : Int32).toNatClampNeg) by decide) d_Law_law_193 ?_
      refine gw_calli hS (va_runV (As := [.int (xs (2 + 1 : Int32).toNatClampNeg), .int (xs (2 + 2 : Int32).toNatClampNeg)]) (rest := []) ⟨hx, hb, hml, hown, hts⟩ (m_relative l G M37 q17 there25 mrow26 found27 fsz28 ends29 made30 drops31 0 lm32 sm33 (xs (2 + 1 : Int32).toNatClampNeg) (xs (2 + 2 : Int32).toNatClampNeg) hf_q17 ) (cwV 2 hts (gw_gv mw265 mw266 mw267 mw169 mw264) rfl rfl rfl (by decide +kernel) ⟨Nat.le_of_ble_eq_true rfl, Nat.le_of_ble_eq_true rfl⟩) (gw_pv hE hB hS hW rfl hf_q17) rfl rfl hl.1 rfl (lv_room (Nat.le_of_ble_eq_true rfl)) d_Law_law_194 ⟨Nat.le_of_ble_eq_true rfl, Nat.le_of_ble_eq_true rfl⟩) (fun r57 M58 H locs hw59 hW hS => ?_)
      obtain ⟨rfl, hf_q17', hfr60⟩ := hw59
      have hf_there25 : M58 there25 = some (101, .inl (G.2.1 0, 10000, .inl (fun _ => 0))) := (hfr60 _ _ _ (by decide)).mp hf_there25
      have hf_mrow26 : M58 mrow26 = some (102, .inl (G.2.1 0, 300, .inl (fun _ => 0))) := (hfr60 _ _ _ (by decide)).mp hf_mrow26
      have hf_found27 : M58 found27 = some (103, .inl (G.2.1 0, 10240, .inl (fun _ => 0))) := (hfr60 _ _ _ (by decide)).mp hf_found27
      have hf_fsz28 : M58 fsz28 = some (104, .inl (G.2.1 0, 41, .inl (fun _ => 0))) := (hfr60 _ _ _ (by decide)).mp hf_fsz28
      have hf_ends29 : M58 ends29 = some (105, .inl (G.2.1 0, 41, .inl (fun _ => 0))) := (hfr60 _ _ _ (by decide)).mp hf_ends29
      have hf_made30 : M58 made30 = some (106, .inl (G.2.1 0, 4100, .inl (fun _ => 0))) := (hfr60 _ _ _ (by decide)).mp hf_made30
      have hf_drops31 : M58 drops31 = some (107, .inl (G.2.1 0, 2048, .inl (fun _ => 0))) := (hfr60 _ _ _ (by decide)).mp hf_drops31
      have hf_q1 : M58 q1 = some (1, .inr (0, [.int (if 1 < (if 255 < z4 then 255 else z4) then (if 255 < z4 then 255 else z4) else 1), .int sc15, .int 0, .ref row9, .ref jobs11, .ref known12, .ref nowh13, .ref gone14, .int 0])) := (hfr60 _ _ _ (by decide)).mp hf_q1
      have hf_row9 : M58 row9 = some (2, .inr (1, [.ref nums10, .int 0])) := (hfr60 _ _ _ (by decide)).mp hf_row9
      have hf_nums10 : M58 nums10 = some (3, .inl (G.2.1 0, 256, .inl (fun _ => 0))) := (hfr60 _ _ _ (by decide)).mp hf_nums10
      have hf_jobs11 : M58 jobs11 = some (4, .inr (4, [.int 0, .ref (G.2.2.1 0), .int 0])) := (hfr60 _ _ _ (by decide)).mp hf_jobs11
      have hf_known12 : M58 known12 = some (5, .inr (4, [.int 0, .ref (G.2.2.1 0), .int 0])) := (hfr60 _ _ _ (by decide)).mp hf_known12
      have hf_nowh13 : M58 nowh13 = some (12, .inr (2, [.int 0, .int 0, .int 0, .int 0, .int 0])) := (hfr60 _ _ _ (by decide)).mp hf_nowh13
      have hf_gone14 : M58 gone14 = some (8, .inl (G.2.1 0, 512, .inl (fun _ => 0))) := (hfr60 _ _ _ (by decide)).mp hf_gone14
      have hf_q35 : M58 q35 = some (50, .inl (G.2.1 2, 1, .inr (.inl (fun _ => 0)))) := (hfr60 _ _ _ (by decide)).mp hf_q35
      have hf_q17 : M58 q17 = some (100, .inr (5, [.int 1, .int lm32, .int sm33, .int 0, .ref there25, .ref mrow26, .int 0, .ref found27, .ref fsz28, .ref ends29, .ref made30, .int 0, .int 0, .ref drops31, .int 0])) := hf_q17'
      refine lv_istore (lv' := [(6, .int 0), (5, .int 1), (4, .int 2), (3, .ref q35), (2, .ref q17), (1, .ref q1), (0, .ref b)]) hx hb d_Law_law_197 hl (by decide) rfl (fun ls hl => ?_)
      refine lv_aload_n hx hb d_Law_law_199 rfl (lv_at hl 4 rfl) ?_
      refine gw_calli hS (va_runV (As := []) (rest := []) ⟨hx, hb, hml, hown, hts⟩ (m_thrown l G M58 q17 there25 mrow26 found27 fsz28 ends29 made30 drops31 1 lm32 sm33 hf_q17 ) (cwV 0 hts (gw_gv mw269 mw270 mw271 mw169 mw268) rfl rfl rfl (by decide +kernel) ⟨Nat.le_of_ble_eq_true rfl, Nat.le_of_ble_eq_true rfl⟩) (gw_pv hE hB hS hW rfl hf_q17) rfl rfl hl.1 rfl (lv_room (Nat.le_of_ble_eq_true rfl)) d_Law_law_200 ⟨Nat.le_of_ble_eq_true rfl, Nat.le_of_ble_eq_true rfl⟩) (fun r61 M62 H locs hw63 hW hS => ?_)
      obtain ⟨rfl, rfl⟩ := hw63
      refine lv_iload hx hb d_Law_law_203 (lv_at hl 1 rfl) ?_
      refine lv_icmp_eq (tgt := 210) hx hb d_Law_law_205 (by decide) (fun c205 => ?_) (fun c205 => ?_)
      · refine lv_iload hx hb d_Law_law_210 (lv_at hl 1 rfl) ?_
        refine lv_if_ne (tgt := 227) hx hb d_Law_law_212 (by decide) (fun c212 => ?_) (fun c212 => ?_)
        · refine lv_goto (tgt := 653) hx hb d_Law_law_227 (by decide) ?_
          refine lv_iinc (v := 2 + 4) (lv' := [(4, .int (2 + 4)), (6, .int 0), (5, .int 1), (3, .ref q35), (2, .ref q17), (1, .ref q1), (0, .ref b)]) hx hb d_Law_law_653 hl (k := 2) rfl rfl (by decide) rfl (fun ls hl => ?_)
          refine lv_goto (tgt := 43) hx hb d_Law_law_656 (by decide) ?_
          refine lv_iload hx hb d_Law_law_43 (lv_at hl 0 rfl) ?_
          refine lv_aload_n hx hb d_Law_law_45 rfl (lv_at hl 6 rfl) ?_
          refine va_slen hx hb hX hbl hbA hS d_Law_law_46 ?_
          refine lv_iconst (v := 4) hx hb d_Law_law_47 (by decide) ?_
          refine lv_isub hx hb d_Law_law_48 ?_
          refine lv_icmp_gt (tgt := 659) hx hb d_Law_law_49 (by decide) (fun c49 => ?_) (fun c49 => ?_)
          · refine lv_iconst (v := 1) hx hb d_Law_law_659 (by decide) ?_
            refine va_forget (fun q hq => by have h9 := hS.2.2 q hq; rw [← eG]; exact h9) ?_
            refine W.widen (k := 600002) (n := 7302198) (Nat.le_of_ble_eq_true rfl) (Nat.le_of_ble_eq_true rfl) ?_
            exact lw_ret hx hb hr hlocks d_Law_law_660
          · exact absurd (by decide) c49
        · exact absurd c212 (by decide)
      · exact absurd rfl c205
    · refine lv_tableIn (tgt := 230) hx hb d_Law_law_59 (by rw [h9]; decide) (by rw [h9]; decide) (by rw [h9]; rfl) (by decide) ?_
      refine lv_aload_n hx hb d_Law_law_230 rfl (lv_at hl 3 rfl) ?_
      refine lv_aload_n hx hb d_Law_law_231 rfl (lv_at hl 4 rfl) ?_
      refine lv_iload hx hb d_Law_law_232 (lv_at hl 0 rfl) ?_
      refine lv_iconst (v := 1) hx hb d_Law_law_234 (by decide) ?_
      refine lv_iadd hx hb d_Law_law_235 ?_
      refine va_sld hx hb hX hbl hbA hS (i := 2 + 1) (show ¬ ((2 + 1 : Int32) < 0 ∨ 6 ≤ (2 + 1 : Int32).toNatClampNeg) by decide) d_Law_law_236 ?_
      refine lv_aload_n hx hb d_Law_law_237 rfl (lv_at hl 4 rfl) ?_
      refine lv_iload hx hb d_Law_law_238 (lv_at hl 0 rfl) ?_
      refine lv_iconst (v := 2) hx hb d_Law_law_240 (by decide) ?_
      refine lv_iadd hx hb d_Law_law_241 ?_
      refine va_sld hx hb hX hbl hbA hS (i := 2 + 2) (show ¬ ((2 + 2 : Int32) < 0 ∨ 6 ≤ (2 + 2 : Int32).toNatClampNeg) by decide) d_Law_law_242 ?_
      refine lv_aload_n hx hb d_Law_law_243 rfl (lv_at hl 1 rfl) ?_
      refine gw_calli hS (gt_runSW (n := 4) (As := [.ref q1, .int (xs (2 + 1 : Int32).toNatClampNeg), .int (xs (2 + 2 : Int32).toNatClampNeg), .ref q35]) (rest := []) ⟨hx, hb, hml, hown, hts⟩ (h_make l hl9 G M37 q1 row9 jobs11 known12 nowh13 gone14 (if 1 < (if 255 < z4 then 255 else z4) then (if 255 < z4 then 255 else z4) else 1) sc15 (xs (2 + 1 : Int32).toNatClampNeg) (xs (2 + 2 : Int32).toNatClampNeg) q35 hf_q1 hf_jobs11 ) rfl rfl ⟨Nat.le_of_ble_eq_true rfl, Nat.le_of_ble_eq_true rfl⟩ (gw_gt mw273 mw274 mw234 mw272) (by decide +kernel) (gw_ps hE hB hS hW) rfl rfl hl.1 rfl (lv_room (Nat.le_of_ble_eq_true rfl)) d_Law_law_244 ⟨Nat.le_of_ble_eq_true rfl, Nat.le_of_ble_eq_true rfl⟩) (fun r64 M65 H locs hw66 hW hS => ?_)
      refine W.widen (k := 17) (n := 27582) (Nat.le_refl _) (Nat.le_refl _) ?_
      obtain ⟨rfl, rfl⟩ := hw66
      refine lv_istore (lv' := [(5, .int 1), (4, .int 2), (3, .ref q35), (2, .ref q17), (1, .ref q1), (0, .ref b)]) hx hb d_Law_law_247 hl (by decide) rfl (fun ls hl => ?_)
      refine lv_aload_n hx hb d_Law_law_249 rfl (lv_at hl 3 rfl) ?_
      refine lv_aload_n hx hb d_Law_law_250 rfl (lv_at hl 5 rfl) ?_
      refine lv_iload hx hb d_Law_law_251 (lv_at hl 1 rfl) ?_
      refine lv_iconst (v := 1) hx hb d_Law_law_253 (by decide) ?_
      refine lv_iadd hx hb d_Law_law_254 ?_
      refine va_sld hx hb hX hbl hbA hS (i := 2 + 1) (show ¬ ((2 + 1 : Int32) < 0 ∨ 6 ≤ (2 + 1 : Int32).toNatClampNeg) by decide) d_Law_law_255 ?_
      refine lv_aload_n hx hb d_Law_law_256 rfl (lv_at hl 5 rfl) ?_
      refine lv_iload hx hb d_Law_law_257 (lv_at hl 1 rfl) ?_
      refine lv_iconst (v := 2) hx hb d_Law_law_259 (by decide) ?_
      refine lv_iadd hx hb d_Law_law_260 ?_
      refine va_sld hx hb hX hbl hbA hS (i := 2 + 2) (show ¬ ((2 + 2 : Int32) < 0 ∨ 6 ≤ (2 + 2 : Int32).toNatClampNeg) by decide) d_Law_law_261 ?_
      refine gw_calli hS (va_runV (As := [.int (xs (2 + 1 : Int32).toNatClampNeg), .int (xs (2 + 2 : Int32).toNatClampNeg)]) (rest := []) ⟨hx, hb, hml, hown, hts⟩ (m_make l G M37 q17 there25 mrow26 found27 fsz28 ends29 made30 drops31 0 lm32 sm33 (xs (2 + 1 : Int32).toNatClampNeg) (xs (2 + 2 : Int32).toNatClampNeg) hf_q17 ) (cwV 2 hts (gw_gv mw276 mw277 mw278 mw169 mw275) rfl rfl rfl (by decide +kernel) ⟨Nat.le_of_ble_eq_true rfl, Nat.le_of_ble_eq_true rfl⟩) (gw_pv hE hB hS hW rfl hf_q17) rfl rfl hl.1 rfl (lv_room (Nat.le_of_ble_eq_true rfl)) d_Law_law_262 ⟨Nat.le_of_ble_eq_true rfl, Nat.le_of_ble_eq_true rfl⟩) (fun r67 M68 H locs hw69 hW hS => ?_)
      obtain ⟨rfl, hf_q17', hfr70⟩ := hw69
      have hf_there25 : M68 there25 = some (101, .inl (G.2.1 0, 10000, .inl (fun _ => 0))) := (hfr70 _ _ _ (by decide)).mp hf_there25
      have hf_mrow26 : M68 mrow26 = some (102, .inl (G.2.1 0, 300, .inl (fun _ => 0))) := (hfr70 _ _ _ (by decide)).mp hf_mrow26
      have hf_found27 : M68 found27 = some (103, .inl (G.2.1 0, 10240, .inl (fun _ => 0))) := (hfr70 _ _ _ (by decide)).mp hf_found27
      have hf_fsz28 : M68 fsz28 = some (104, .inl (G.2.1 0, 41, .inl (fun _ => 0))) := (hfr70 _ _ _ (by decide)).mp hf_fsz28
      have hf_ends29 : M68 ends29 = some (105, .inl (G.2.1 0, 41, .inl (fun _ => 0))) := (hfr70 _ _ _ (by decide)).mp hf_ends29
      have hf_made30 : M68 made30 = some (106, .inl (G.2.1 0, 4100, .inl (fun _ => 0))) := (hfr70 _ _ _ (by decide)).mp hf_made30
      have hf_drops31 : M68 drops31 = some (107, .inl (G.2.1 0, 2048, .inl (fun _ => 0))) := (hfr70 _ _ _ (by decide)).mp hf_drops31
      have hf_q1 : M68 q1 = some (1, .inr (0, [.int (if 1 < (if 255 < z4 then 255 else z4) then (if 255 < z4 then 255 else z4) else 1), .int sc15, .int 0, .ref row9, .ref jobs11, .ref known12, .ref nowh13, .ref gone14, .int 0])) := (hfr70 _ _ _ (by decide)).mp hf_q1
      have hf_row9 : M68 row9 = some (2, .inr (1, [.ref nums10, .int 0])) := (hfr70 _ _ _ (by decide)).mp hf_row9
      have hf_nums10 : M68 nums10 = some (3, .inl (G.2.1 0, 256, .inl (fun _ => 0))) := (hfr70 _ _ _ (by decide)).mp hf_nums10
      have hf_jobs11 : M68 jobs11 = some (4, .inr (4, [.int 0, .ref (G.2.2.1 0), .int 0])) := (hfr70 _ _ _ (by decide)).mp hf_jobs11
      have hf_known12 : M68 known12 = some (5, .inr (4, [.int 0, .ref (G.2.2.1 0), .int 0])) := (hfr70 _ _ _ (by decide)).mp hf_known12
      have hf_nowh13 : M68 nowh13 = some (12, .inr (2, [.int 0, .int 0, .int 0, .int 0, .int 0])) := (hfr70 _ _ _ (by decide)).mp hf_nowh13
      have hf_gone14 : M68 gone14 = some (8, .inl (G.2.1 0, 512, .inl (fun _ => 0))) := (hfr70 _ _ _ (by decide)).mp hf_gone14
      have hf_q35 : M68 q35 = some (50, .inl (G.2.1 2, 1, .inr (.inl (fun _ => 0)))) := (hfr70 _ _ _ (by decide)).mp hf_q35
      have hf_q17 : M68 q17 = some (100, .inr (5, [.int 1, .int lm32, .int sm33, .int 0, .ref there25, .ref mrow26, .int 0, .ref found27, .ref fsz28, .ref ends29, .ref made30, .int 0, .int 0, .ref drops31, .int 0])) := hf_q17'
      refine lv_istore (lv' := [(6, .int 0), (5, .int 1), (4, .int 2), (3, .ref q35), (2, .ref q17), (1, .ref q1), (0, .ref b)]) hx hb d_Law_law_265 hl (by decide) rfl (fun ls hl => ?_)
      refine lv_aload_n hx hb d_Law_law_267 rfl (lv_at hl 4 rfl) ?_
      refine gw_calli hS (va_runV (As := []) (rest := []) ⟨hx, hb, hml, hown, hts⟩ (m_thrown l G M68 q17 there25 mrow26 found27 fsz28 ends29 made30 drops31 1 lm32 sm33 hf_q17 ) (cwV 0 hts (gw_gv mw269 mw270 mw271 mw169 mw268) rfl rfl rfl (by decide +kernel) ⟨Nat.le_of_ble_eq_true rfl, Nat.le_of_ble_eq_true rfl⟩) (gw_pv hE hB hS hW rfl hf_q17) rfl rfl hl.1 rfl (lv_room (Nat.le_of_ble_eq_true rfl)) d_Law_law_268 ⟨Nat.le_of_ble_eq_true rfl, Nat.le_of_ble_eq_true rfl⟩) (fun r71 M72 H locs hw73 hW hS => ?_)
      obtain ⟨rfl, rfl⟩ := hw73
      refine lv_iload hx hb d_Law_law_271 (lv_at hl 1 rfl) ?_
      refine lv_icmp_eq (tgt := 278) hx hb d_Law_law_273 (by decide) (fun c273 => ?_) (fun c273 => ?_)
      · refine lv_iload hx hb d_Law_law_278 (lv_at hl 1 rfl) ?_
        refine lv_if_ne (tgt := 295) hx hb d_Law_law_280 (by decide) (fun c280 => ?_) (fun c280 => ?_)
        · refine lv_goto (tgt := 653) hx hb d_Law_law_295 (by decide) ?_
          refine lv_iinc (v := 2 + 4) (lv' := [(4, .int (2 + 4)), (6, .int 0), (5, .int 1), (3, .ref q35), (2, .ref q17), (1, .ref q1), (0, .ref b)]) hx hb d_Law_law_653 hl (k := 2) rfl rfl (by decide) rfl (fun ls hl => ?_)
          refine lv_goto (tgt := 43) hx hb d_Law_law_656 (by decide) ?_
          refine lv_iload hx hb d_Law_law_43 (lv_at hl 0 rfl) ?_
          refine lv_aload_n hx hb d_Law_law_45 rfl (lv_at hl 6 rfl) ?_
          refine va_slen hx hb hX hbl hbA hS d_Law_law_46 ?_
          refine lv_iconst (v := 4) hx hb d_Law_law_47 (by decide) ?_
          refine lv_isub hx hb d_Law_law_48 ?_
          refine lv_icmp_gt (tgt := 659) hx hb d_Law_law_49 (by decide) (fun c49 => ?_) (fun c49 => ?_)
          · refine lv_iconst (v := 1) hx hb d_Law_law_659 (by decide) ?_
            refine va_forget (fun q hq => by have h9 := hS.2.2 q hq; rw [← eG]; exact h9) ?_
            refine W.widen (k := 600002) (n := 7302198) (Nat.le_of_ble_eq_true rfl) (Nat.le_of_ble_eq_true rfl) ?_
            exact lw_ret hx hb hr hlocks d_Law_law_660
          · exact absurd (by decide) c49
        · exact absurd c280 (by decide)
      · exact absurd rfl c273
    · refine lv_tableIn (tgt := 298) hx hb d_Law_law_59 (by rw [h9]; decide) (by rw [h9]; decide) (by rw [h9]; rfl) (by decide) ?_
      refine lv_aload_n hx hb d_Law_law_298 rfl (lv_at hl 3 rfl) ?_
      refine lv_aload_n hx hb d_Law_law_299 rfl (lv_at hl 4 rfl) ?_
      refine lv_iload hx hb d_Law_law_300 (lv_at hl 0 rfl) ?_
      refine lv_iconst (v := 1) hx hb d_Law_law_302 (by decide) ?_
      refine lv_iadd hx hb d_Law_law_303 ?_
      refine va_sld hx hb hX hbl hbA hS (i := 2 + 1) (show ¬ ((2 + 1 : Int32) < 0 ∨ 6 ≤ (2 + 1 : Int32).toNatClampNeg) by decide) d_Law_law_304 ?_
      refine lv_aload_n hx hb d_Law_law_305 rfl (lv_at hl 4 rfl) ?_
      refine lv_iload hx hb d_Law_law_306 (lv_at hl 0 rfl) ?_
      refine lv_iconst (v := 2) hx hb d_Law_law_308 (by decide) ?_
      refine lv_iadd hx hb d_Law_law_309 ?_
      refine va_sld hx hb hX hbl hbA hS (i := 2 + 2) (show ¬ ((2 + 2 : Int32) < 0 ∨ 6 ≤ (2 + 2 : Int32).toNatClampNeg) by decide) d_Law_law_310 ?_
      refine lv_aload_n hx hb d_Law_law_311 rfl (lv_at hl 4 rfl) ?_
      refine lv_iload hx hb d_Law_law_312 (lv_at hl 0 rfl) ?_
      refine lv_iconst (v := 3) hx hb d_Law_law_314 (by decide) ?_
      refine lv_iadd hx hb d_Law_law_315 ?_
      refine va_sld hx hb hX hbl hbA hS (i := 2 + 3) (show ¬ ((2 + 3 : Int32) < 0 ∨ 6 ≤ (2 + 3 : Int32).toNatClampNeg) by decide) d_Law_law_316 ?_
      refine lv_if_eq (tgt := 324) hx hb d_Law_law_317 (by decide) (fun c317 => ?_) (fun c317 => ?_)
      · refine lv_iconst (v := 0) hx hb d_Law_law_324 (by decide) ?_
        refine lv_aload_n hx hb d_Law_law_325 rfl (lv_at hl 1 rfl) ?_
        refine gw_calli hS (gt_runSW (n := 5) (As := [.ref q1, .int (xs (2 + 1 : Int32).toNatClampNeg), .int (xs (2 + 2 : Int32).toNatClampNeg), .int 0, .ref q35]) (rest := []) ⟨hx, hb, hml, hown, hts⟩ (h_end l hl9 G M37 q1 row9 jobs11 known12 nowh13 gone14 (if 1 < (if 255 < z4 then 255 else z4) then (if 255 < z4 then 255 else z4) else 1) sc15 (xs (2 + 1 : Int32).toNatClampNeg) (xs (2 + 2 : Int32).toNatClampNeg) 0 q35 hf_q1 hf_jobs11 ) rfl rfl ⟨Nat.le_of_ble_eq_true rfl, Nat.le_of_ble_eq_true rfl⟩ (gw_gt mw280 mw281 mw234 mw279) (by decide +kernel) (gw_ps hE hB hS hW) rfl rfl hl.1 rfl (lv_room (Nat.le_of_ble_eq_true rfl)) d_Law_law_326 ⟨Nat.le_of_ble_eq_true rfl, Nat.le_of_ble_eq_true rfl⟩) (fun r74 M75 H locs hw76 hW hS => ?_)
        refine W.widen (k := 17) (n := 27582) (Nat.le_refl _) (Nat.le_refl _) ?_
        obtain ⟨rfl, rfl⟩ := hw76
        refine lv_istore (lv' := [(5, .int 1), (4, .int 2), (3, .ref q35), (2, .ref q17), (1, .ref q1), (0, .ref b)]) hx hb d_Law_law_329 hl (by decide) rfl (fun ls hl => ?_)
        refine lv_aload_n hx hb d_Law_law_331 rfl (lv_at hl 3 rfl) ?_
        refine lv_aload_n hx hb d_Law_law_332 rfl (lv_at hl 5 rfl) ?_
        refine lv_iload hx hb d_Law_law_333 (lv_at hl 1 rfl) ?_
        refine lv_iconst (v := 1) hx hb d_Law_law_335 (by decide) ?_
        refine lv_iadd hx hb d_Law_law_336 ?_
        refine va_sld hx hb hX hbl hbA hS (i := 2 + 1) (show ¬ ((2 + 1 : Int32) < 0 ∨ 6 ≤ (2 + 1 : Int32).toNatClampNeg) by decide) d_Law_law_337 ?_
        refine lv_aload_n hx hb d_Law_law_338 rfl (lv_at hl 5 rfl) ?_
        refine lv_iload hx hb d_Law_law_339 (lv_at hl 1 rfl) ?_
        refine lv_iconst (v := 2) hx hb d_Law_law_341 (by decide) ?_
        refine lv_iadd hx hb d_Law_law_342 ?_
        refine va_sld hx hb hX hbl hbA hS (i := 2 + 2) (show ¬ ((2 + 2 : Int32) < 0 ∨ 6 ≤ (2 + 2 : Int32).toNatClampNeg) by decide) d_Law_law_343 ?_
        refine lv_aload_n hx hb d_Law_law_344 rfl (lv_at hl 5 rfl) ?_
        refine lv_iload hx hb d_Law_law_345 (lv_at hl 1 rfl) ?_
        refine lv_iconst (v := 3) hx hb d_Law_law_347 (by decide) ?_
        refine lv_iadd hx hb d_Law_law_348 ?_
        refine va_sld hx hb hX hbl hbA hS (i := 2 + 3) (show ¬ ((2 + 3 : Int32) < 0 ∨ 6 ≤ (2 + 3 : Int32).toNatClampNeg) by decide) d_Law_law_349 ?_
        refine lv_if_eq (tgt := 357) hx hb d_Law_law_350 (by decide) (fun c350 => ?_) (fun c350 => ?_)
        · refine lv_iconst (v := 0) hx hb d_Law_law_357 (by decide) ?_
          refine gw_calli hS (va_runV (As := [.int (xs (2 + 1 : Int32).toNatClampNeg), .int (xs (2 + 2 : Int32).toNatClampNeg), .int 0]) (rest := []) ⟨hx, hb, hml, hown, hts⟩ (m_end l G M37 q17 there25 mrow26 found27 fsz28 ends29 made30 drops31 0 lm32 sm33 (xs (2 + 1 : Int32).toNatClampNeg) (xs (2 + 2 : Int32).toNatClampNeg) 0 hf_q17 ) (cwV 3 hts (gw_gv mw283 mw284 mw285 mw169 mw282) rfl rfl rfl (by decide +kernel) ⟨Nat.le_of_ble_eq_true rfl, Nat.le_of_ble_eq_true rfl⟩) (gw_pv hE hB hS hW rfl hf_q17) rfl rfl hl.1 rfl (lv_room (Nat.le_of_ble_eq_true rfl)) d_Law_law_358 ⟨Nat.le_of_ble_eq_true rfl, Nat.le_of_ble_eq_true rfl⟩) (fun r77 M78 H locs hw79 hW hS => ?_)
          obtain ⟨rfl, hf_q17', hfr80⟩ := hw79
          have hf_there25 : M78 there25 = some (101, .inl (G.2.1 0, 10000, .inl (fun _ => 0))) := (hfr80 _ _ _ (by decide)).mp hf_there25
          have hf_mrow26 : M78 mrow26 = some (102, .inl (G.2.1 0, 300, .inl (fun _ => 0))) := (hfr80 _ _ _ (by decide)).mp hf_mrow26
          have hf_found27 : M78 found27 = some (103, .inl (G.2.1 0, 10240, .inl (fun _ => 0))) := (hfr80 _ _ _ (by decide)).mp hf_found27
          have hf_fsz28 : M78 fsz28 = some (104, .inl (G.2.1 0, 41, .inl (fun _ => 0))) := (hfr80 _ _ _ (by decide)).mp hf_fsz28
          have hf_ends29 : M78 ends29 = some (105, .inl (G.2.1 0, 41, .inl (fun _ => 0))) := (hfr80 _ _ _ (by decide)).mp hf_ends29
          have hf_made30 : M78 made30 = some (106, .inl (G.2.1 0, 4100, .inl (fun _ => 0))) := (hfr80 _ _ _ (by decide)).mp hf_made30
          have hf_drops31 : M78 drops31 = some (107, .inl (G.2.1 0, 2048, .inl (fun _ => 0))) := (hfr80 _ _ _ (by decide)).mp hf_drops31
          have hf_q1 : M78 q1 = some (1, .inr (0, [.int (if 1 < (if 255 < z4 then 255 else z4) then (if 255 < z4 then 255 else z4) else 1), .int sc15, .int 0, .ref row9, .ref jobs11, .ref known12, .ref nowh13, .ref gone14, .int 0])) := (hfr80 _ _ _ (by decide)).mp hf_q1
          have hf_row9 : M78 row9 = some (2, .inr (1, [.ref nums10, .int 0])) := (hfr80 _ _ _ (by decide)).mp hf_row9
          have hf_nums10 : M78 nums10 = some (3, .inl (G.2.1 0, 256, .inl (fun _ => 0))) := (hfr80 _ _ _ (by decide)).mp hf_nums10
          have hf_jobs11 : M78 jobs11 = some (4, .inr (4, [.int 0, .ref (G.2.2.1 0), .int 0])) := (hfr80 _ _ _ (by decide)).mp hf_jobs11
          have hf_known12 : M78 known12 = some (5, .inr (4, [.int 0, .ref (G.2.2.1 0), .int 0])) := (hfr80 _ _ _ (by decide)).mp hf_known12
          have hf_nowh13 : M78 nowh13 = some (12, .inr (2, [.int 0, .int 0, .int 0, .int 0, .int 0])) := (hfr80 _ _ _ (by decide)).mp hf_nowh13
          have hf_gone14 : M78 gone14 = some (8, .inl (G.2.1 0, 512, .inl (fun _ => 0))) := (hfr80 _ _ _ (by decide)).mp hf_gone14
          have hf_q35 : M78 q35 = some (50, .inl (G.2.1 2, 1, .inr (.inl (fun _ => 0)))) := (hfr80 _ _ _ (by decide)).mp hf_q35
          have hf_q17 : M78 q17 = some (100, .inr (5, [.int 1, .int lm32, .int sm33, .int 0, .ref there25, .ref mrow26, .int 0, .ref found27, .ref fsz28, .ref ends29, .ref made30, .int 0, .int 0, .ref drops31, .int 0])) := hf_q17'
          refine lv_istore (lv' := [(6, .int 0), (5, .int 1), (4, .int 2), (3, .ref q35), (2, .ref q17), (1, .ref q1), (0, .ref b)]) hx hb d_Law_law_361 hl (by decide) rfl (fun ls hl => ?_)
          refine lv_aload_n hx hb d_Law_law_363 rfl (lv_at hl 4 rfl) ?_
          refine gw_calli hS (va_runV (As := []) (rest := []) ⟨hx, hb, hml, hown, hts⟩ (m_thrown l G M78 q17 there25 mrow26 found27 fsz28 ends29 made30 drops31 1 lm32 sm33 hf_q17 ) (cwV 0 hts (gw_gv mw269 mw270 mw271 mw169 mw268) rfl rfl rfl (by decide +kernel) ⟨Nat.le_of_ble_eq_true rfl, Nat.le_of_ble_eq_true rfl⟩) (gw_pv hE hB hS hW rfl hf_q17) rfl rfl hl.1 rfl (lv_room (Nat.le_of_ble_eq_true rfl)) d_Law_law_364 ⟨Nat.le_of_ble_eq_true rfl, Nat.le_of_ble_eq_true rfl⟩) (fun r81 M82 H locs hw83 hW hS => ?_)
          obtain ⟨rfl, rfl⟩ := hw83
          refine lv_iload hx hb d_Law_law_367 (lv_at hl 1 rfl) ?_
          refine lv_icmp_eq (tgt := 374) hx hb d_Law_law_369 (by decide) (fun c369 => ?_) (fun c369 => ?_)
          · refine lv_iload hx hb d_Law_law_374 (lv_at hl 1 rfl) ?_
            refine lv_if_ne (tgt := 391) hx hb d_Law_law_376 (by decide) (fun c376 => ?_) (fun c376 => ?_)
            · refine lv_goto (tgt := 653) hx hb d_Law_law_391 (by decide) ?_
              refine lv_iinc (v := 2 + 4) (lv' := [(4, .int (2 + 4)), (6, .int 0), (5, .int 1), (3, .ref q35), (2, .ref q17), (1, .ref q1), (0, .ref b)]) hx hb d_Law_law_653 hl (k := 2) rfl rfl (by decide) rfl (fun ls hl => ?_)
              refine lv_goto (tgt := 43) hx hb d_Law_law_656 (by decide) ?_
              refine lv_iload hx hb d_Law_law_43 (lv_at hl 0 rfl) ?_
              refine lv_aload_n hx hb d_Law_law_45 rfl (lv_at hl 6 rfl) ?_
              refine va_slen hx hb hX hbl hbA hS d_Law_law_46 ?_
              refine lv_iconst (v := 4) hx hb d_Law_law_47 (by decide) ?_
              refine lv_isub hx hb d_Law_law_48 ?_
              refine lv_icmp_gt (tgt := 659) hx hb d_Law_law_49 (by decide) (fun c49 => ?_) (fun c49 => ?_)
              · refine lv_iconst (v := 1) hx hb d_Law_law_659 (by decide) ?_
                refine va_forget (fun q hq => by have h9 := hS.2.2 q hq; rw [← eG]; exact h9) ?_
                refine W.widen (k := 600002) (n := 7302198) (Nat.le_of_ble_eq_true rfl) (Nat.le_of_ble_eq_true rfl) ?_
                exact lw_ret hx hb hr hlocks d_Law_law_660
              · exact absurd (by decide) c49
            · exact absurd c376 (by decide)
          · exact absurd rfl c369
        · refine lv_iconst (v := 1) hx hb d_Law_law_353 (by decide) ?_
          refine lv_goto (tgt := 358) hx hb d_Law_law_354 (by decide) ?_
          refine gw_calli hS (va_runV (As := [.int (xs (2 + 1 : Int32).toNatClampNeg), .int (xs (2 + 2 : Int32).toNatClampNeg), .int 1]) (rest := []) ⟨hx, hb, hml, hown, hts⟩ (m_end l G M37 q17 there25 mrow26 found27 fsz28 ends29 made30 drops31 0 lm32 sm33 (xs (2 + 1 : Int32).toNatClampNeg) (xs (2 + 2 : Int32).toNatClampNeg) 1 hf_q17 ) (cwV 3 hts (gw_gv mw283 mw284 mw285 mw169 mw282) rfl rfl rfl (by decide +kernel) ⟨Nat.le_of_ble_eq_true rfl, Nat.le_of_ble_eq_true rfl⟩) (gw_pv hE hB hS hW rfl hf_q17) rfl rfl hl.1 rfl (lv_room (Nat.le_of_ble_eq_true rfl)) d_Law_law_358 ⟨Nat.le_of_ble_eq_true rfl, Nat.le_of_ble_eq_true rfl⟩) (fun r84 M85 H locs hw86 hW hS => ?_)
          obtain ⟨rfl, hf_q17', hfr87⟩ := hw86
          have hf_there25 : M85 there25 = some (101, .inl (G.2.1 0, 10000, .inl (fun _ => 0))) := (hfr87 _ _ _ (by decide)).mp hf_there25
          have hf_mrow26 : M85 mrow26 = some (102, .inl (G.2.1 0, 300, .inl (fun _ => 0))) := (hfr87 _ _ _ (by decide)).mp hf_mrow26
          have hf_found27 : M85 found27 = some (103, .inl (G.2.1 0, 10240, .inl (fun _ => 0))) := (hfr87 _ _ _ (by decide)).mp hf_found27
          have hf_fsz28 : M85 fsz28 = some (104, .inl (G.2.1 0, 41, .inl (fun _ => 0))) := (hfr87 _ _ _ (by decide)).mp hf_fsz28
          have hf_ends29 : M85 ends29 = some (105, .inl (G.2.1 0, 41, .inl (fun _ => 0))) := (hfr87 _ _ _ (by decide)).mp hf_ends29
          have hf_made30 : M85 made30 = some (106, .inl (G.2.1 0, 4100, .inl (fun _ => 0))) := (hfr87 _ _ _ (by decide)).mp hf_made30
          have hf_drops31 : M85 drops31 = some (107, .inl (G.2.1 0, 2048, .inl (fun _ => 0))) := (hfr87 _ _ _ (by decide)).mp hf_drops31
          have hf_q1 : M85 q1 = some (1, .inr (0, [.int (if 1 < (if 255 < z4 then 255 else z4) then (if 255 < z4 then 255 else z4) else 1), .int sc15, .int 0, .ref row9, .ref jobs11, .ref known12, .ref nowh13, .ref gone14, .int 0])) := (hfr87 _ _ _ (by decide)).mp hf_q1
          have hf_row9 : M85 row9 = some (2, .inr (1, [.ref nums10, .int 0])) := (hfr87 _ _ _ (by decide)).mp hf_row9
          have hf_nums10 : M85 nums10 = some (3, .inl (G.2.1 0, 256, .inl (fun _ => 0))) := (hfr87 _ _ _ (by decide)).mp hf_nums10
          have hf_jobs11 : M85 jobs11 = some (4, .inr (4, [.int 0, .ref (G.2.2.1 0), .int 0])) := (hfr87 _ _ _ (by decide)).mp hf_jobs11
          have hf_known12 : M85 known12 = some (5, .inr (4, [.int 0, .ref (G.2.2.1 0), .int 0])) := (hfr87 _ _ _ (by decide)).mp hf_known12
          have hf_nowh13 : M85 nowh13 = some (12, .inr (2, [.int 0, .int 0, .int 0, .int 0, .int 0])) := (hfr87 _ _ _ (by decide)).mp hf_nowh13
          have hf_gone14 : M85 gone14 = some (8, .inl (G.2.1 0, 512, .inl (fun _ => 0))) := (hfr87 _ _ _ (by decide)).mp hf_gone14
          have hf_q35 : M85 q35 = some (50, .inl (G.2.1 2, 1, .inr (.inl (fun _ => 0)))) := (hfr87 _ _ _ (by decide)).mp hf_q35
          have hf_q17 : M85 q17 = some (100, .inr (5, [.int 1, .int lm32, .int sm33, .int 0, .ref there25, .ref mrow26, .int 0, .ref found27, .ref fsz28, .ref ends29, .ref made30, .int 0, .int 0, .ref drops31, .int 0])) := hf_q17'
          refine lv_istore (lv' := [(6, .int 0), (5, .int 1), (4, .int 2), (3, .ref q35), (2, .ref q17), (1, .ref q1), (0, .ref b)]) hx hb d_Law_law_361 hl (by decide) rfl (fun ls hl => ?_)
          refine lv_aload_n hx hb d_Law_law_363 rfl (lv_at hl 4 rfl) ?_
          refine gw_calli hS (va_runV (As := []) (rest := []) ⟨hx, hb, hml, hown, hts⟩ (m_thrown l G M85 q17 there25 mrow26 found27 fsz28 ends29 made30 drops31 1 lm32 sm33 hf_q17 ) (cwV 0 hts (gw_gv mw269 mw270 mw271 mw169 mw268) rfl rfl rfl (by decide +kernel) ⟨Nat.le_of_ble_eq_true rfl, Nat.le_of_ble_eq_true rfl⟩) (gw_pv hE hB hS hW rfl hf_q17) rfl rfl hl.1 rfl (lv_room (Nat.le_of_ble_eq_true rfl)) d_Law_law_364 ⟨Nat.le_of_ble_eq_true rfl, Nat.le_of_ble_eq_true rfl⟩) (fun r88 M89 H locs hw90 hW hS => ?_)
          obtain ⟨rfl, rfl⟩ := hw90
          refine lv_iload hx hb d_Law_law_367 (lv_at hl 1 rfl) ?_
          refine lv_icmp_eq (tgt := 374) hx hb d_Law_law_369 (by decide) (fun c369 => ?_) (fun c369 => ?_)
          · refine lv_iload hx hb d_Law_law_374 (lv_at hl 1 rfl) ?_
            refine lv_if_ne (tgt := 391) hx hb d_Law_law_376 (by decide) (fun c376 => ?_) (fun c376 => ?_)
            · refine lv_goto (tgt := 653) hx hb d_Law_law_391 (by decide) ?_
              refine lv_iinc (v := 2 + 4) (lv' := [(4, .int (2 + 4)), (6, .int 0), (5, .int 1), (3, .ref q35), (2, .ref q17), (1, .ref q1), (0, .ref b)]) hx hb d_Law_law_653 hl (k := 2) rfl rfl (by decide) rfl (fun ls hl => ?_)
              refine lv_goto (tgt := 43) hx hb d_Law_law_656 (by decide) ?_
              refine lv_iload hx hb d_Law_law_43 (lv_at hl 0 rfl) ?_
              refine lv_aload_n hx hb d_Law_law_45 rfl (lv_at hl 6 rfl) ?_
              refine va_slen hx hb hX hbl hbA hS d_Law_law_46 ?_
              refine lv_iconst (v := 4) hx hb d_Law_law_47 (by decide) ?_
              refine lv_isub hx hb d_Law_law_48 ?_
              refine lv_icmp_gt (tgt := 659) hx hb d_Law_law_49 (by decide) (fun c49 => ?_) (fun c49 => ?_)
              · refine lv_iconst (v := 1) hx hb d_Law_law_659 (by decide) ?_
                refine va_forget (fun q hq => by have h9 := hS.2.2 q hq; rw [← eG]; exact h9) ?_
                refine W.widen (k := 600002) (n := 7302198) (Nat.le_of_ble_eq_true rfl) (Nat.le_of_ble_eq_true rfl) ?_
                exact lw_ret hx hb hr hlocks d_Law_law_660
              · exact absurd (by decide) c49
            · exact absurd c376 (by decide)
          · exact absurd rfl c369
      · refine lv_iconst (v := 1) hx hb d_Law_law_320 (by decide) ?_
        refine lv_goto (tgt := 325) hx hb d_Law_law_321 (by decide) ?_
        refine lv_aload_n hx hb d_Law_law_325 rfl (lv_at hl 1 rfl) ?_
        refine gw_calli hS (gt_runSW (n := 5) (As := [.ref q1, .int (xs (2 + 1 : Int32).toNatClampNeg), .int (xs (2 + 2 : Int32).toNatClampNeg), .int 1, .ref q35]) (rest := []) ⟨hx, hb, hml, hown, hts⟩ (h_end l hl9 G M37 q1 row9 jobs11 known12 nowh13 gone14 (if 1 < (if 255 < z4 then 255 else z4) then (if 255 < z4 then 255 else z4) else 1) sc15 (xs (2 + 1 : Int32).toNatClampNeg) (xs (2 + 2 : Int32).toNatClampNeg) 1 q35 hf_q1 hf_jobs11 ) rfl rfl ⟨Nat.le_of_ble_eq_true rfl, Nat.le_of_ble_eq_true rfl⟩ (gw_gt mw280 mw281 mw234 mw279) (by decide +kernel) (gw_ps hE hB hS hW) rfl rfl hl.1 rfl (lv_room (Nat.le_of_ble_eq_true rfl)) d_Law_law_326 ⟨Nat.le_of_ble_eq_true rfl, Nat.le_of_ble_eq_true rfl⟩) (fun r91 M92 H locs hw93 hW hS => ?_)
        refine W.widen (k := 17) (n := 27582) (Nat.le_refl _) (Nat.le_refl _) ?_
        obtain ⟨rfl, rfl⟩ := hw93
        refine lv_istore (lv' := [(5, .int 1), (4, .int 2), (3, .ref q35), (2, .ref q17), (1, .ref q1), (0, .ref b)]) hx hb d_Law_law_329 hl (by decide) rfl (fun ls hl => ?_)
        refine lv_aload_n hx hb d_Law_law_331 rfl (lv_at hl 3 rfl) ?_
        refine lv_aload_n hx hb d_Law_law_332 rfl (lv_at hl 5 rfl) ?_
        refine lv_iload hx hb d_Law_law_333 (lv_at hl 1 rfl) ?_
        refine lv_iconst (v := 1) hx hb d_Law_law_335 (by decide) ?_
        refine lv_iadd hx hb d_Law_law_336 ?_
        refine va_sld hx hb hX hbl hbA hS (i := 2 + 1) (show ¬ ((2 + 1 : Int32) < 0 ∨ 6 ≤ (2 + 1 : Int32).toNatClampNeg) by decide) d_Law_law_337 ?_
        refine lv_aload_n hx hb d_Law_law_338 rfl (lv_at hl 5 rfl) ?_
        refine lv_iload hx hb d_Law_law_339 (lv_at hl 1 rfl) ?_
        refine lv_iconst (v := 2) hx hb d_Law_law_341 (by decide) ?_
        refine lv_iadd hx hb d_Law_law_342 ?_
        refine va_sld hx hb hX hbl hbA hS (i := 2 + 2) (show ¬ ((2 + 2 : Int32) < 0 ∨ 6 ≤ (2 + 2 : Int32).toNatClampNeg) by decide) d_Law_law_343 ?_
        refine lv_aload_n hx hb d_Law_law_344 rfl (lv_at hl 5 rfl) ?_
        refine lv_iload hx hb d_Law_law_345 (lv_at hl 1 rfl) ?_
        refine lv_iconst (v := 3) hx hb d_Law_law_347 (by decide) ?_
        refine lv_iadd hx hb d_Law_law_348 ?_
        refine va_sld hx hb hX hbl hbA hS (i := 2 + 3) (show ¬ ((2 + 3 : Int32) < 0 ∨ 6 ≤ (2 + 3 : Int32).toNatClampNeg) by decide) d_Law_law_349 ?_
        refine lv_if_eq (tgt := 357) hx hb d_Law_law_350 (by decide) (fun c350 => ?_) (fun c350 => ?_)
        · refine lv_iconst (v := 0) hx hb d_Law_law_357 (by decide) ?_
          refine gw_calli hS (va_runV (As := [.int (xs (2 + 1 : Int32).toNatClampNeg), .int (xs (2 + 2 : Int32).toNatClampNeg), .int 0]) (rest := []) ⟨hx, hb, hml, hown, hts⟩ (m_end l G M37 q17 there25 mrow26 found27 fsz28 ends29 made30 drops31 0 lm32 sm33 (xs (2 + 1 : Int32).toNatClampNeg) (xs (2 + 2 : Int32).toNatClampNeg) 0 hf_q17 ) (cwV 3 hts (gw_gv mw283 mw284 mw285 mw169 mw282) rfl rfl rfl (by decide +kernel) ⟨Nat.le_of_ble_eq_true rfl, Nat.le_of_ble_eq_true rfl⟩) (gw_pv hE hB hS hW rfl hf_q17) rfl rfl hl.1 rfl (lv_room (Nat.le_of_ble_eq_true rfl)) d_Law_law_358 ⟨Nat.le_of_ble_eq_true rfl, Nat.le_of_ble_eq_true rfl⟩) (fun r94 M95 H locs hw96 hW hS => ?_)
          obtain ⟨rfl, hf_q17', hfr97⟩ := hw96
          have hf_there25 : M95 there25 = some (101, .inl (G.2.1 0, 10000, .inl (fun _ => 0))) := (hfr97 _ _ _ (by decide)).mp hf_there25
          have hf_mrow26 : M95 mrow26 = some (102, .inl (G.2.1 0, 300, .inl (fun _ => 0))) := (hfr97 _ _ _ (by decide)).mp hf_mrow26
          have hf_found27 : M95 found27 = some (103, .inl (G.2.1 0, 10240, .inl (fun _ => 0))) := (hfr97 _ _ _ (by decide)).mp hf_found27
          have hf_fsz28 : M95 fsz28 = some (104, .inl (G.2.1 0, 41, .inl (fun _ => 0))) := (hfr97 _ _ _ (by decide)).mp hf_fsz28
          have hf_ends29 : M95 ends29 = some (105, .inl (G.2.1 0, 41, .inl (fun _ => 0))) := (hfr97 _ _ _ (by decide)).mp hf_ends29
          have hf_made30 : M95 made30 = some (106, .inl (G.2.1 0, 4100, .inl (fun _ => 0))) := (hfr97 _ _ _ (by decide)).mp hf_made30
          have hf_drops31 : M95 drops31 = some (107, .inl (G.2.1 0, 2048, .inl (fun _ => 0))) := (hfr97 _ _ _ (by decide)).mp hf_drops31
          have hf_q1 : M95 q1 = some (1, .inr (0, [.int (if 1 < (if 255 < z4 then 255 else z4) then (if 255 < z4 then 255 else z4) else 1), .int sc15, .int 0, .ref row9, .ref jobs11, .ref known12, .ref nowh13, .ref gone14, .int 0])) := (hfr97 _ _ _ (by decide)).mp hf_q1
          have hf_row9 : M95 row9 = some (2, .inr (1, [.ref nums10, .int 0])) := (hfr97 _ _ _ (by decide)).mp hf_row9
          have hf_nums10 : M95 nums10 = some (3, .inl (G.2.1 0, 256, .inl (fun _ => 0))) := (hfr97 _ _ _ (by decide)).mp hf_nums10
          have hf_jobs11 : M95 jobs11 = some (4, .inr (4, [.int 0, .ref (G.2.2.1 0), .int 0])) := (hfr97 _ _ _ (by decide)).mp hf_jobs11
          have hf_known12 : M95 known12 = some (5, .inr (4, [.int 0, .ref (G.2.2.1 0), .int 0])) := (hfr97 _ _ _ (by decide)).mp hf_known12
          have hf_nowh13 : M95 nowh13 = some (12, .inr (2, [.int 0, .int 0, .int 0, .int 0, .int 0])) := (hfr97 _ _ _ (by decide)).mp hf_nowh13
          have hf_gone14 : M95 gone14 = some (8, .inl (G.2.1 0, 512, .inl (fun _ => 0))) := (hfr97 _ _ _ (by decide)).mp hf_gone14
          have hf_q35 : M95 q35 = some (50, .inl (G.2.1 2, 1, .inr (.inl (fun _ => 0)))) := (hfr97 _ _ _ (by decide)).mp hf_q35
          have hf_q17 : M95 q17 = some (100, .inr (5, [.int 1, .int lm32, .int sm33, .int 0, .ref there25, .ref mrow26, .int 0, .ref found27, .ref fsz28, .ref ends29, .ref made30, .int 0, .int 0, .ref drops31, .int 0])) := hf_q17'
          refine lv_istore (lv' := [(6, .int 0), (5, .int 1), (4, .int 2), (3, .ref q35), (2, .ref q17), (1, .ref q1), (0, .ref b)]) hx hb d_Law_law_361 hl (by decide) rfl (fun ls hl => ?_)
          refine lv_aload_n hx hb d_Law_law_363 rfl (lv_at hl 4 rfl) ?_
          refine gw_calli hS (va_runV (As := []) (rest := []) ⟨hx, hb, hml, hown, hts⟩ (m_thrown l G M95 q17 there25 mrow26 found27 fsz28 ends29 made30 drops31 1 lm32 sm33 hf_q17 ) (cwV 0 hts (gw_gv mw269 mw270 mw271 mw169 mw268) rfl rfl rfl (by decide +kernel) ⟨Nat.le_of_ble_eq_true rfl, Nat.le_of_ble_eq_true rfl⟩) (gw_pv hE hB hS hW rfl hf_q17) rfl rfl hl.1 rfl (lv_room (Nat.le_of_ble_eq_true rfl)) d_Law_law_364 ⟨Nat.le_of_ble_eq_true rfl, Nat.le_of_ble_eq_true rfl⟩) (fun r98 M99 H locs hw100 hW hS => ?_)
          obtain ⟨rfl, rfl⟩ := hw100
          refine lv_iload hx hb d_Law_law_367 (lv_at hl 1 rfl) ?_
          refine lv_icmp_eq (tgt := 374) hx hb d_Law_law_369 (by decide) (fun c369 => ?_) (fun c369 => ?_)
          · refine lv_iload hx hb d_Law_law_374 (lv_at hl 1 rfl) ?_
            refine lv_if_ne (tgt := 391) hx hb d_Law_law_376 (by decide) (fun c376 => ?_) (fun c376 => ?_)
            · refine lv_goto (tgt := 653) hx hb d_Law_law_391 (by decide) ?_
              refine lv_iinc (v := 2 + 4) (lv' := [(4, .int (2 + 4)), (6, .int 0), (5, .int 1), (3, .ref q35), (2, .ref q17), (1, .ref q1), (0, .ref b)]) hx hb d_Law_law_653 hl (k := 2) rfl rfl (by decide) rfl (fun ls hl => ?_)
              refine lv_goto (tgt := 43) hx hb d_Law_law_656 (by decide) ?_
              refine lv_iload hx hb d_Law_law_43 (lv_at hl 0 rfl) ?_
              refine lv_aload_n hx hb d_Law_law_45 rfl (lv_at hl 6 rfl) ?_
              refine va_slen hx hb hX hbl hbA hS d_Law_law_46 ?_
              refine lv_iconst (v := 4) hx hb d_Law_law_47 (by decide) ?_
              refine lv_isub hx hb d_Law_law_48 ?_
              refine lv_icmp_gt (tgt := 659) hx hb d_Law_law_49 (by decide) (fun c49 => ?_) (fun c49 => ?_)
              · refine lv_iconst (v := 1) hx hb d_Law_law_659 (by decide) ?_
                refine va_forget (fun q hq => by have h9 := hS.2.2 q hq; rw [← eG]; exact h9) ?_
                refine W.widen (k := 600002) (n := 7302198) (Nat.le_of_ble_eq_true rfl) (Nat.le_of_ble_eq_true rfl) ?_
                exact lw_ret hx hb hr hlocks d_Law_law_660
              · exact absurd (by decide) c49
            · exact absurd c376 (by decide)
          · exact absurd rfl c369
        · refine lv_iconst (v := 1) hx hb d_Law_law_353 (by decide) ?_
          refine lv_goto (tgt := 358) hx hb d_Law_law_354 (by decide) ?_
          refine gw_calli hS (va_runV (As := [.int (xs (2 + 1 : Int32).toNatClampNeg), .int (xs (2 + 2 : Int32).toNatClampNeg), .int 1]) (rest := []) ⟨hx, hb, hml, hown, hts⟩ (m_end l G M37 q17 there25 mrow26 found27 fsz28 ends29 made30 drops31 0 lm32 sm33 (xs (2 + 1 : Int32).toNatClampNeg) (xs (2 + 2 : Int32).toNatClampNeg) 1 hf_q17 ) (cwV 3 hts (gw_gv mw283 mw284 mw285 mw169 mw282) rfl rfl rfl (by decide +kernel) ⟨Nat.le_of_ble_eq_true rfl, Nat.le_of_ble_eq_true rfl⟩) (gw_pv hE hB hS hW rfl hf_q17) rfl rfl hl.1 rfl (lv_room (Nat.le_of_ble_eq_true rfl)) d_Law_law_358 ⟨Nat.le_of_ble_eq_true rfl, Nat.le_of_ble_eq_true rfl⟩) (fun r101 M102 H locs hw103 hW hS => ?_)
          obtain ⟨rfl, hf_q17', hfr104⟩ := hw103
          have hf_there25 : M102 there25 = some (101, .inl (G.2.1 0, 10000, .inl (fun _ => 0))) := (hfr104 _ _ _ (by decide)).mp hf_there25
          have hf_mrow26 : M102 mrow26 = some (102, .inl (G.2.1 0, 300, .inl (fun _ => 0))) := (hfr104 _ _ _ (by decide)).mp hf_mrow26
          have hf_found27 : M102 found27 = some (103, .inl (G.2.1 0, 10240, .inl (fun _ => 0))) := (hfr104 _ _ _ (by decide)).mp hf_found27
          have hf_fsz28 : M102 fsz28 = some (104, .inl (G.2.1 0, 41, .inl (fun _ => 0))) := (hfr104 _ _ _ (by decide)).mp hf_fsz28
          have hf_ends29 : M102 ends29 = some (105, .inl (G.2.1 0, 41, .inl (fun _ => 0))) := (hfr104 _ _ _ (by decide)).mp hf_ends29
          have hf_made30 : M102 made30 = some (106, .inl (G.2.1 0, 4100, .inl (fun _ => 0))) := (hfr104 _ _ _ (by decide)).mp hf_made30
          have hf_drops31 : M102 drops31 = some (107, .inl (G.2.1 0, 2048, .inl (fun _ => 0))) := (hfr104 _ _ _ (by decide)).mp hf_drops31
          have hf_q1 : M102 q1 = some (1, .inr (0, [.int (if 1 < (if 255 < z4 then 255 else z4) then (if 255 < z4 then 255 else z4) else 1), .int sc15, .int 0, .ref row9, .ref jobs11, .ref known12, .ref nowh13, .ref gone14, .int 0])) := (hfr104 _ _ _ (by decide)).mp hf_q1
          have hf_row9 : M102 row9 = some (2, .inr (1, [.ref nums10, .int 0])) := (hfr104 _ _ _ (by decide)).mp hf_row9
          have hf_nums10 : M102 nums10 = some (3, .inl (G.2.1 0, 256, .inl (fun _ => 0))) := (hfr104 _ _ _ (by decide)).mp hf_nums10
          have hf_jobs11 : M102 jobs11 = some (4, .inr (4, [.int 0, .ref (G.2.2.1 0), .int 0])) := (hfr104 _ _ _ (by decide)).mp hf_jobs11
          have hf_known12 : M102 known12 = some (5, .inr (4, [.int 0, .ref (G.2.2.1 0), .int 0])) := (hfr104 _ _ _ (by decide)).mp hf_known12
          have hf_nowh13 : M102 nowh13 = some (12, .inr (2, [.int 0, .int 0, .int 0, .int 0, .int 0])) := (hfr104 _ _ _ (by decide)).mp hf_nowh13
          have hf_gone14 : M102 gone14 = some (8, .inl (G.2.1 0, 512, .inl (fun _ => 0))) := (hfr104 _ _ _ (by decide)).mp hf_gone14
          have hf_q35 : M102 q35 = some (50, .inl (G.2.1 2, 1, .inr (.inl (fun _ => 0)))) := (hfr104 _ _ _ (by decide)).mp hf_q35
          have hf_q17 : M102 q17 = some (100, .inr (5, [.int 1, .int lm32, .int sm33, .int 0, .ref there25, .ref mrow26, .int 0, .ref found27, .ref fsz28, .ref ends29, .ref made30, .int 0, .int 0, .ref drops31, .int 0])) := hf_q17'
          refine lv_istore (lv' := [(6, .int 0), (5, .int 1), (4, .int 2), (3, .ref q35), (2, .ref q17), (1, .ref q1), (0, .ref b)]) hx hb d_Law_law_361 hl (by decide) rfl (fun ls hl => ?_)
          refine lv_aload_n hx hb d_Law_law_363 rfl (lv_at hl 4 rfl) ?_
          refine gw_calli hS (va_runV (As := []) (rest := []) ⟨hx, hb, hml, hown, hts⟩ (m_thrown l G M102 q17 there25 mrow26 found27 fsz28 ends29 made30 drops31 1 lm32 sm33 hf_q17 ) (cwV 0 hts (gw_gv mw269 mw270 mw271 mw169 mw268) rfl rfl rfl (by decide +kernel) ⟨Nat.le_of_ble_eq_true rfl, Nat.le_of_ble_eq_true rfl⟩) (gw_pv hE hB hS hW rfl hf_q17) rfl rfl hl.1 rfl (lv_room (Nat.le_of_ble_eq_true rfl)) d_Law_law_364 ⟨Nat.le_of_ble_eq_true rfl, Nat.le_of_ble_eq_true rfl⟩) (fun r105 M106 H locs hw107 hW hS => ?_)
          obtain ⟨rfl, rfl⟩ := hw107
          refine lv_iload hx hb d_Law_law_367 (lv_at hl 1 rfl) ?_
          refine lv_icmp_eq (tgt := 374) hx hb d_Law_law_369 (by decide) (fun c369 => ?_) (fun c369 => ?_)
          · refine lv_iload hx hb d_Law_law_374 (lv_at hl 1 rfl) ?_
            refine lv_if_ne (tgt := 391) hx hb d_Law_law_376 (by decide) (fun c376 => ?_) (fun c376 => ?_)
            · refine lv_goto (tgt := 653) hx hb d_Law_law_391 (by decide) ?_
              refine lv_iinc (v := 2 + 4) (lv' := [(4, .int (2 + 4)), (6, .int 0), (5, .int 1), (3, .ref q35), (2, .ref q17), (1, .ref q1), (0, .ref b)]) hx hb d_Law_law_653 hl (k := 2) rfl rfl (by decide) rfl (fun ls hl => ?_)
              refine lv_goto (tgt := 43) hx hb d_Law_law_656 (by decide) ?_
              refine lv_iload hx hb d_Law_law_43 (lv_at hl 0 rfl) ?_
              refine lv_aload_n hx hb d_Law_law_45 rfl (lv_at hl 6 rfl) ?_
              refine va_slen hx hb hX hbl hbA hS d_Law_law_46 ?_
              refine lv_iconst (v := 4) hx hb d_Law_law_47 (by decide) ?_
              refine lv_isub hx hb d_Law_law_48 ?_
              refine lv_icmp_gt (tgt := 659) hx hb d_Law_law_49 (by decide) (fun c49 => ?_) (fun c49 => ?_)
              · refine lv_iconst (v := 1) hx hb d_Law_law_659 (by decide) ?_
                refine va_forget (fun q hq => by have h9 := hS.2.2 q hq; rw [← eG]; exact h9) ?_
                refine W.widen (k := 600002) (n := 7302198) (Nat.le_of_ble_eq_true rfl) (Nat.le_of_ble_eq_true rfl) ?_
                exact lw_ret hx hb hr hlocks d_Law_law_660
              · exact absurd (by decide) c49
            · exact absurd c376 (by decide)
          · exact absurd rfl c369
    · refine lv_tableIn (tgt := 394) hx hb d_Law_law_59 (by rw [h9]; decide) (by rw [h9]; decide) (by rw [h9]; rfl) (by decide) ?_
      refine lv_aload_n hx hb d_Law_law_394 rfl (lv_at hl 3 rfl) ?_
      refine lv_aload_n hx hb d_Law_law_395 rfl (lv_at hl 4 rfl) ?_
      refine lv_iload hx hb d_Law_law_396 (lv_at hl 0 rfl) ?_
      refine lv_iconst (v := 1) hx hb d_Law_law_398 (by decide) ?_
      refine lv_iadd hx hb d_Law_law_399 ?_
      refine va_sld hx hb hX hbl hbA hS (i := 2 + 1) (show ¬ ((2 + 1 : Int32) < 0 ∨ 6 ≤ (2 + 1 : Int32).toNatClampNeg) by decide) d_Law_law_400 ?_
      refine gw_calli hS (va_runV (As := [.int (xs (2 + 1 : Int32).toNatClampNeg)]) (rest := []) ⟨hx, hb, hml, hown, hts⟩ (c_dropped l G M37 q1 row9 jobs11 known12 nowh13 gone14 (if 1 < (if 255 < z4 then 255 else z4) then (if 255 < z4 then 255 else z4) else 1) sc15 (xs (2 + 1 : Int32).toNatClampNeg) hf_q1 ) (cwV 1 hts (gw_gv mw287 mw288 mw289 mw83 mw286) rfl rfl rfl (by decide +kernel) ⟨Nat.le_of_ble_eq_true rfl, Nat.le_of_ble_eq_true rfl⟩) (gw_pv hE hB hS hW rfl hf_q1) rfl rfl hl.1 rfl (lv_room (Nat.le_of_ble_eq_true rfl)) d_Law_law_401 ⟨Nat.le_of_ble_eq_true rfl, Nat.le_of_ble_eq_true rfl⟩) (fun r108 M109 H locs hw110 hW hS => ?_)
      obtain ⟨rfl, rfl⟩ := hw110
      refine lv_aload_n hx hb d_Law_law_404 rfl (lv_at hl 2 rfl) ?_
      refine lv_aload_n hx hb d_Law_law_405 rfl (lv_at hl 4 rfl) ?_
      refine lv_iload hx hb d_Law_law_406 (lv_at hl 0 rfl) ?_
      refine lv_iconst (v := 1) hx hb d_Law_law_408 (by decide) ?_
      refine lv_iadd hx hb d_Law_law_409 ?_
      refine va_sld hx hb hX hbl hbA hS (i := 2 + 1) (show ¬ ((2 + 1 : Int32) < 0 ∨ 6 ≤ (2 + 1 : Int32).toNatClampNeg) by decide) d_Law_law_410 ?_
      refine gw_calli hS (va_runV (As := [.int (xs (2 + 1 : Int32).toNatClampNeg)]) (rest := [.int (-1)]) ⟨hx, hb, hml, hown, hts⟩ (m_dropped l G M37 q17 there25 mrow26 found27 fsz28 ends29 made30 drops31 0 lm32 sm33 (xs (2 + 1 : Int32).toNatClampNeg) hf_q17 ) (cwV 1 hts (gw_gv mw291 mw292 mw293 mw169 mw290) rfl rfl rfl (by decide +kernel) ⟨Nat.le_of_ble_eq_true rfl, Nat.le_of_ble_eq_true rfl⟩) (gw_pv hE hB hS hW rfl hf_q17) rfl rfl hl.1 rfl (lv_room (Nat.le_of_ble_eq_true rfl)) d_Law_law_411 ⟨Nat.le_of_ble_eq_true rfl, Nat.le_of_ble_eq_true rfl⟩) (fun r111 M112 H locs hw113 hW hS => ?_)
      obtain ⟨rfl, hfr114⟩ := hw113
      have hf_there25 : M112 there25 = some (101, .inl (G.2.1 0, 10000, .inl (fun _ => 0))) := (hfr114 _ _ _ (by decide)).mp hf_there25
      have hf_mrow26 : M112 mrow26 = some (102, .inl (G.2.1 0, 300, .inl (fun _ => 0))) := (hfr114 _ _ _ (by decide)).mp hf_mrow26
      have hf_found27 : M112 found27 = some (103, .inl (G.2.1 0, 10240, .inl (fun _ => 0))) := (hfr114 _ _ _ (by decide)).mp hf_found27
      have hf_fsz28 : M112 fsz28 = some (104, .inl (G.2.1 0, 41, .inl (fun _ => 0))) := (hfr114 _ _ _ (by decide)).mp hf_fsz28
      have hf_ends29 : M112 ends29 = some (105, .inl (G.2.1 0, 41, .inl (fun _ => 0))) := (hfr114 _ _ _ (by decide)).mp hf_ends29
      have hf_made30 : M112 made30 = some (106, .inl (G.2.1 0, 4100, .inl (fun _ => 0))) := (hfr114 _ _ _ (by decide)).mp hf_made30
      have hf_drops31 : M112 drops31 = some (107, .inl (G.2.1 0, 2048, .inl (fun _ => 0))) := (hfr114 _ _ _ (by decide)).mp hf_drops31
      have hf_q1 : M112 q1 = some (1, .inr (0, [.int (if 1 < (if 255 < z4 then 255 else z4) then (if 255 < z4 then 255 else z4) else 1), .int sc15, .int 0, .ref row9, .ref jobs11, .ref known12, .ref nowh13, .ref gone14, .int 0])) := (hfr114 _ _ _ (by decide)).mp hf_q1
      have hf_row9 : M112 row9 = some (2, .inr (1, [.ref nums10, .int 0])) := (hfr114 _ _ _ (by decide)).mp hf_row9
      have hf_nums10 : M112 nums10 = some (3, .inl (G.2.1 0, 256, .inl (fun _ => 0))) := (hfr114 _ _ _ (by decide)).mp hf_nums10
      have hf_jobs11 : M112 jobs11 = some (4, .inr (4, [.int 0, .ref (G.2.2.1 0), .int 0])) := (hfr114 _ _ _ (by decide)).mp hf_jobs11
      have hf_known12 : M112 known12 = some (5, .inr (4, [.int 0, .ref (G.2.2.1 0), .int 0])) := (hfr114 _ _ _ (by decide)).mp hf_known12
      have hf_nowh13 : M112 nowh13 = some (12, .inr (2, [.int 0, .int 0, .int 0, .int 0, .int 0])) := (hfr114 _ _ _ (by decide)).mp hf_nowh13
      have hf_gone14 : M112 gone14 = some (8, .inl (G.2.1 0, 512, .inl (fun _ => 0))) := (hfr114 _ _ _ (by decide)).mp hf_gone14
      have hf_q35 : M112 q35 = some (50, .inl (G.2.1 2, 1, .inr (.inl (fun _ => 0)))) := (hfr114 _ _ _ (by decide)).mp hf_q35
      refine lv_icmp_eq (tgt := 653) hx hb d_Law_law_414 (by decide) (fun c414 => ?_) (fun c414 => ?_)
      · refine lv_iinc (v := 2 + 4) (lv' := [(4, .int (2 + 4)), (3, .ref q35), (2, .ref q17), (1, .ref q1), (0, .ref b)]) hx hb d_Law_law_653 hl (k := 0) rfl rfl (by decide) rfl (fun ls hl => ?_)
        refine lv_goto (tgt := 43) hx hb d_Law_law_656 (by decide) ?_
        refine lv_iload hx hb d_Law_law_43 (lv_at hl 0 rfl) ?_
        refine lv_aload_n hx hb d_Law_law_45 rfl (lv_at hl 4 rfl) ?_
        refine va_slen hx hb hX hbl hbA hS d_Law_law_46 ?_
        refine lv_iconst (v := 4) hx hb d_Law_law_47 (by decide) ?_
        refine lv_isub hx hb d_Law_law_48 ?_
        refine lv_icmp_gt (tgt := 659) hx hb d_Law_law_49 (by decide) (fun c49 => ?_) (fun c49 => ?_)
        · refine lv_iconst (v := 1) hx hb d_Law_law_659 (by decide) ?_
          refine va_forget (fun q hq => by have h9 := hS.2.2 q hq; rw [← eG]; exact h9) ?_
          refine W.widen (k := 600002) (n := 7302198) (Nat.le_of_ble_eq_true rfl) (Nat.le_of_ble_eq_true rfl) ?_
          exact lw_ret hx hb hr hlocks d_Law_law_660
        · exact absurd (by decide) c49
      · exact absurd rfl c414
    · refine lv_tableIn (tgt := 419) hx hb d_Law_law_59 (by rw [h9]; decide) (by rw [h9]; decide) (by rw [h9]; rfl) (by decide) ?_
      refine lv_aload_n hx hb d_Law_law_419 rfl (lv_at hl 3 rfl) ?_
      refine lv_aload_n hx hb d_Law_law_420 rfl (lv_at hl 4 rfl) ?_
      refine lv_iload hx hb d_Law_law_421 (lv_at hl 0 rfl) ?_
      refine lv_iconst (v := 1) hx hb d_Law_law_423 (by decide) ?_
      refine lv_iadd hx hb d_Law_law_424 ?_
      refine va_sld hx hb hX hbl hbA hS (i := 2 + 1) (show ¬ ((2 + 1 : Int32) < 0 ∨ 6 ≤ (2 + 1 : Int32).toNatClampNeg) by decide) d_Law_law_425 ?_
      refine lv_aload_n hx hb d_Law_law_426 rfl (lv_at hl 4 rfl) ?_
      refine lv_iload hx hb d_Law_law_427 (lv_at hl 0 rfl) ?_
      refine lv_iconst (v := 2) hx hb d_Law_law_429 (by decide) ?_
      refine lv_iadd hx hb d_Law_law_430 ?_
      refine va_sld hx hb hX hbl hbA hS (i := 2 + 2) (show ¬ ((2 + 2 : Int32) < 0 ∨ 6 ≤ (2 + 2 : Int32).toNatClampNeg) by decide) d_Law_law_431 ?_
      refine lv_aload_n hx hb d_Law_law_432 rfl (lv_at hl 1 rfl) ?_
      refine gw_calli hS (gt_runSW (n := 4) (As := [.ref q1, .int (xs (2 + 1 : Int32).toNatClampNeg), .int (xs (2 + 2 : Int32).toNatClampNeg), .ref q35]) (rest := []) ⟨hx, hb, hml, hown, hts⟩ (h_restart l hl9 G M37 q1 row9 jobs11 known12 nowh13 gone14 (if 1 < (if 255 < z4 then 255 else z4) then (if 255 < z4 then 255 else z4) else 1) sc15 (xs (2 + 1 : Int32).toNatClampNeg) (xs (2 + 2 : Int32).toNatClampNeg) q35 hf_q1 hf_jobs11 ) rfl rfl ⟨Nat.le_of_ble_eq_true rfl, Nat.le_of_ble_eq_true rfl⟩ (gw_gt mw295 mw296 mw234 mw294) (by decide +kernel) (gw_ps hE hB hS hW) rfl rfl hl.1 rfl (lv_room (Nat.le_of_ble_eq_true rfl)) d_Law_law_433 ⟨Nat.le_of_ble_eq_true rfl, Nat.le_of_ble_eq_true rfl⟩) (fun r115 M116 H locs hw117 hW hS => ?_)
      refine W.widen (k := 17) (n := 27582) (Nat.le_refl _) (Nat.le_refl _) ?_
      obtain ⟨rfl, rfl⟩ := hw117
      refine lv_istore (lv' := [(5, .int 1), (4, .int 2), (3, .ref q35), (2, .ref q17), (1, .ref q1), (0, .ref b)]) hx hb d_Law_law_436 hl (by decide) rfl (fun ls hl => ?_)
      refine lv_aload_n hx hb d_Law_law_438 rfl (lv_at hl 3 rfl) ?_
      refine lv_aload_n hx hb d_Law_law_439 rfl (lv_at hl 5 rfl) ?_
      refine lv_iload hx hb d_Law_law_440 (lv_at hl 1 rfl) ?_
      refine lv_iconst (v := 1) hx hb d_Law_law_442 (by decide) ?_
      refine lv_iadd hx hb d_Law_law_443 ?_
      refine va_sld hx hb hX hbl hbA hS (i := 2 + 1) (show ¬ ((2 + 1 : Int32) < 0 ∨ 6 ≤ (2 + 1 : Int32).toNatClampNeg) by decide) d_Law_law_444 ?_
      refine lv_aload_n hx hb d_Law_law_445 rfl (lv_at hl 5 rfl) ?_
      refine lv_iload hx hb d_Law_law_446 (lv_at hl 1 rfl) ?_
      refine lv_iconst (v := 2) hx hb d_Law_law_448 (by decide) ?_
      refine lv_iadd hx hb d_Law_law_449 ?_
      refine va_sld hx hb hX hbl hbA hS (i := 2 + 2) (show ¬ ((2 + 2 : Int32) < 0 ∨ 6 ≤ (2 + 2 : Int32).toNatClampNeg) by decide) d_Law_law_450 ?_
      refine gw_calli hS (va_runV (As := [.int (xs (2 + 1 : Int32).toNatClampNeg), .int (xs (2 + 2 : Int32).toNatClampNeg)]) (rest := []) ⟨hx, hb, hml, hown, hts⟩ (m_restart l G M37 q17 there25 mrow26 found27 fsz28 ends29 made30 drops31 0 lm32 sm33 (xs (2 + 1 : Int32).toNatClampNeg) (xs (2 + 2 : Int32).toNatClampNeg) hf_q17 ) (cwV 2 hts (gw_gv mw298 mw299 mw300 mw169 mw297) rfl rfl rfl (by decide +kernel) ⟨Nat.le_of_ble_eq_true rfl, Nat.le_of_ble_eq_true rfl⟩) (gw_pv hE hB hS hW rfl hf_q17) rfl rfl hl.1 rfl (lv_room (Nat.le_of_ble_eq_true rfl)) d_Law_law_451 ⟨Nat.le_of_ble_eq_true rfl, Nat.le_of_ble_eq_true rfl⟩) (fun r118 M119 H locs hw120 hW hS => ?_)
      obtain ⟨rfl, hf_q17', hfr121⟩ := hw120
      have hf_there25 : M119 there25 = some (101, .inl (G.2.1 0, 10000, .inl (fun _ => 0))) := (hfr121 _ _ _ (by decide)).mp hf_there25
      have hf_mrow26 : M119 mrow26 = some (102, .inl (G.2.1 0, 300, .inl (fun _ => 0))) := (hfr121 _ _ _ (by decide)).mp hf_mrow26
      have hf_found27 : M119 found27 = some (103, .inl (G.2.1 0, 10240, .inl (fun _ => 0))) := (hfr121 _ _ _ (by decide)).mp hf_found27
      have hf_fsz28 : M119 fsz28 = some (104, .inl (G.2.1 0, 41, .inl (fun _ => 0))) := (hfr121 _ _ _ (by decide)).mp hf_fsz28
      have hf_ends29 : M119 ends29 = some (105, .inl (G.2.1 0, 41, .inl (fun _ => 0))) := (hfr121 _ _ _ (by decide)).mp hf_ends29
      have hf_made30 : M119 made30 = some (106, .inl (G.2.1 0, 4100, .inl (fun _ => 0))) := (hfr121 _ _ _ (by decide)).mp hf_made30
      have hf_drops31 : M119 drops31 = some (107, .inl (G.2.1 0, 2048, .inl (fun _ => 0))) := (hfr121 _ _ _ (by decide)).mp hf_drops31
      have hf_q1 : M119 q1 = some (1, .inr (0, [.int (if 1 < (if 255 < z4 then 255 else z4) then (if 255 < z4 then 255 else z4) else 1), .int sc15, .int 0, .ref row9, .ref jobs11, .ref known12, .ref nowh13, .ref gone14, .int 0])) := (hfr121 _ _ _ (by decide)).mp hf_q1
      have hf_row9 : M119 row9 = some (2, .inr (1, [.ref nums10, .int 0])) := (hfr121 _ _ _ (by decide)).mp hf_row9
      have hf_nums10 : M119 nums10 = some (3, .inl (G.2.1 0, 256, .inl (fun _ => 0))) := (hfr121 _ _ _ (by decide)).mp hf_nums10
      have hf_jobs11 : M119 jobs11 = some (4, .inr (4, [.int 0, .ref (G.2.2.1 0), .int 0])) := (hfr121 _ _ _ (by decide)).mp hf_jobs11
      have hf_known12 : M119 known12 = some (5, .inr (4, [.int 0, .ref (G.2.2.1 0), .int 0])) := (hfr121 _ _ _ (by decide)).mp hf_known12
      have hf_nowh13 : M119 nowh13 = some (12, .inr (2, [.int 0, .int 0, .int 0, .int 0, .int 0])) := (hfr121 _ _ _ (by decide)).mp hf_nowh13
      have hf_gone14 : M119 gone14 = some (8, .inl (G.2.1 0, 512, .inl (fun _ => 0))) := (hfr121 _ _ _ (by decide)).mp hf_gone14
      have hf_q35 : M119 q35 = some (50, .inl (G.2.1 2, 1, .inr (.inl (fun _ => 0)))) := (hfr121 _ _ _ (by decide)).mp hf_q35
      have hf_q17 : M119 q17 = some (100, .inr (5, [.int 1, .int lm32, .int sm33, .int 0, .ref there25, .ref mrow26, .int 0, .ref found27, .ref fsz28, .ref ends29, .ref made30, .int 0, .int 0, .ref drops31, .int 0])) := hf_q17'
      refine lv_istore (lv' := [(6, .int 0), (5, .int 1), (4, .int 2), (3, .ref q35), (2, .ref q17), (1, .ref q1), (0, .ref b)]) hx hb d_Law_law_454 hl (by decide) rfl (fun ls hl => ?_)
      refine lv_aload_n hx hb d_Law_law_456 rfl (lv_at hl 4 rfl) ?_
      refine gw_calli hS (va_runV (As := []) (rest := []) ⟨hx, hb, hml, hown, hts⟩ (m_thrown l G M119 q17 there25 mrow26 found27 fsz28 ends29 made30 drops31 1 lm32 sm33 hf_q17 ) (cwV 0 hts (gw_gv mw269 mw270 mw271 mw169 mw268) rfl rfl rfl (by decide +kernel) ⟨Nat.le_of_ble_eq_true rfl, Nat.le_of_ble_eq_true rfl⟩) (gw_pv hE hB hS hW rfl hf_q17) rfl rfl hl.1 rfl (lv_room (Nat.le_of_ble_eq_true rfl)) d_Law_law_457 ⟨Nat.le_of_ble_eq_true rfl, Nat.le_of_ble_eq_true rfl⟩) (fun r122 M123 H locs hw124 hW hS => ?_)
      obtain ⟨rfl, rfl⟩ := hw124
      refine lv_iload hx hb d_Law_law_460 (lv_at hl 1 rfl) ?_
      refine lv_icmp_eq (tgt := 467) hx hb d_Law_law_462 (by decide) (fun c462 => ?_) (fun c462 => ?_)
      · refine lv_iload hx hb d_Law_law_467 (lv_at hl 1 rfl) ?_
        refine lv_if_ne (tgt := 484) hx hb d_Law_law_469 (by decide) (fun c469 => ?_) (fun c469 => ?_)
        · refine lv_goto (tgt := 653) hx hb d_Law_law_484 (by decide) ?_
          refine lv_iinc (v := 2 + 4) (lv' := [(4, .int (2 + 4)), (6, .int 0), (5, .int 1), (3, .ref q35), (2, .ref q17), (1, .ref q1), (0, .ref b)]) hx hb d_Law_law_653 hl (k := 2) rfl rfl (by decide) rfl (fun ls hl => ?_)
          refine lv_goto (tgt := 43) hx hb d_Law_law_656 (by decide) ?_
          refine lv_iload hx hb d_Law_law_43 (lv_at hl 0 rfl) ?_
          refine lv_aload_n hx hb d_Law_law_45 rfl (lv_at hl 6 rfl) ?_
          refine va_slen hx hb hX hbl hbA hS d_Law_law_46 ?_
          refine lv_iconst (v := 4) hx hb d_Law_law_47 (by decide) ?_
          refine lv_isub hx hb d_Law_law_48 ?_
          refine lv_icmp_gt (tgt := 659) hx hb d_Law_law_49 (by decide) (fun c49 => ?_) (fun c49 => ?_)
          · refine lv_iconst (v := 1) hx hb d_Law_law_659 (by decide) ?_
            refine va_forget (fun q hq => by have h9 := hS.2.2 q hq; rw [← eG]; exact h9) ?_
            refine W.widen (k := 600002) (n := 7302198) (Nat.le_of_ble_eq_true rfl) (Nat.le_of_ble_eq_true rfl) ?_
            exact lw_ret hx hb hr hlocks d_Law_law_660
          · exact absurd (by decide) c49
        · exact absurd c469 (by decide)
      · exact absurd rfl c462
    · refine lv_tableIn (tgt := 487) hx hb d_Law_law_59 (by rw [h9]; decide) (by rw [h9]; decide) (by rw [h9]; rfl) (by decide) ?_
      refine lv_aload_n hx hb d_Law_law_487 rfl (lv_at hl 3 rfl) ?_
      refine lv_aload_n hx hb d_Law_law_488 rfl (lv_at hl 4 rfl) ?_
      refine lv_iload hx hb d_Law_law_489 (lv_at hl 0 rfl) ?_
      refine lv_iconst (v := 1) hx hb d_Law_law_491 (by decide) ?_
      refine lv_iadd hx hb d_Law_law_492 ?_
      refine va_sld hx hb hX hbl hbA hS (i := 2 + 1) (show ¬ ((2 + 1 : Int32) < 0 ∨ 6 ≤ (2 + 1 : Int32).toNatClampNeg) by decide) d_Law_law_493 ?_
      refine gw_calli hS (va_runV (As := [.int (xs (2 + 1 : Int32).toNatClampNeg)]) (rest := []) ⟨hx, hb, hml, hown, hts⟩ (c_list l G M37 q1 row9 nums10 jobs11 known12 nowh13 gone14 (if 1 < (if 255 < z4 then 255 else z4) then (if 255 < z4 then 255 else z4) else 1) sc15 (xs (2 + 1 : Int32).toNatClampNeg) hf_q1 hf_row9 ) (cwV 1 hts (gw_gv mw302 mw303 mw304 mw83 mw301) rfl rfl rfl (by decide +kernel) ⟨Nat.le_of_ble_eq_true rfl, Nat.le_of_ble_eq_true rfl⟩) (gw_pv hE hB hS hW rfl hf_q1) rfl rfl hl.1 rfl (lv_room (Nat.le_of_ble_eq_true rfl)) d_Law_law_494 ⟨Nat.le_of_ble_eq_true rfl, Nat.le_of_ble_eq_true rfl⟩) (fun r125 M126 H locs hw127 hW hS => ?_)
      obtain ⟨rfl, rfl⟩ := hw127
      refine lv_aload_n hx hb d_Law_law_497 rfl (lv_at hl 2 rfl) ?_
      refine lv_aload_n hx hb d_Law_law_498 rfl (lv_at hl 4 rfl) ?_
      refine lv_iload hx hb d_Law_law_499 (lv_at hl 0 rfl) ?_
      refine lv_iconst (v := 1) hx hb d_Law_law_501 (by decide) ?_
      refine lv_iadd hx hb d_Law_law_502 ?_
      refine va_sld hx hb hX hbl hbA hS (i := 2 + 1) (show ¬ ((2 + 1 : Int32) < 0 ∨ 6 ≤ (2 + 1 : Int32).toNatClampNeg) by decide) d_Law_law_503 ?_
      refine gw_calli hS (va_runV (As := [.int (xs (2 + 1 : Int32).toNatClampNeg)]) (rest := [.int (-1)]) ⟨hx, hb, hml, hown, hts⟩ (m_list l G M37 q17 there25 mrow26 found27 fsz28 ends29 made30 drops31 0 lm32 sm33 (xs (2 + 1 : Int32).toNatClampNeg) hf_q17 ) (cwV 1 hts (gw_gv mw306 mw307 mw308 mw169 mw305) rfl rfl rfl (by decide +kernel) ⟨Nat.le_of_ble_eq_true rfl, Nat.le_of_ble_eq_true rfl⟩) (gw_pv hE hB hS hW rfl hf_q17) rfl rfl hl.1 rfl (lv_room (Nat.le_of_ble_eq_true rfl)) d_Law_law_504 ⟨Nat.le_of_ble_eq_true rfl, Nat.le_of_ble_eq_true rfl⟩) (fun r128 M129 H locs hw130 hW hS => ?_)
      obtain ⟨rfl, hfr131⟩ := hw130
      have hf_there25 : M129 there25 = some (101, .inl (G.2.1 0, 10000, .inl (fun _ => 0))) := (hfr131 _ _ _ (by decide)).mp hf_there25
      have hf_mrow26 : M129 mrow26 = some (102, .inl (G.2.1 0, 300, .inl (fun _ => 0))) := (hfr131 _ _ _ (by decide)).mp hf_mrow26
      have hf_found27 : M129 found27 = some (103, .inl (G.2.1 0, 10240, .inl (fun _ => 0))) := (hfr131 _ _ _ (by decide)).mp hf_found27
      have hf_fsz28 : M129 fsz28 = some (104, .inl (G.2.1 0, 41, .inl (fun _ => 0))) := (hfr131 _ _ _ (by decide)).mp hf_fsz28
      have hf_ends29 : M129 ends29 = some (105, .inl (G.2.1 0, 41, .inl (fun _ => 0))) := (hfr131 _ _ _ (by decide)).mp hf_ends29
      have hf_made30 : M129 made30 = some (106, .inl (G.2.1 0, 4100, .inl (fun _ => 0))) := (hfr131 _ _ _ (by decide)).mp hf_made30
      have hf_drops31 : M129 drops31 = some (107, .inl (G.2.1 0, 2048, .inl (fun _ => 0))) := (hfr131 _ _ _ (by decide)).mp hf_drops31
      have hf_q1 : M129 q1 = some (1, .inr (0, [.int (if 1 < (if 255 < z4 then 255 else z4) then (if 255 < z4 then 255 else z4) else 1), .int sc15, .int 0, .ref row9, .ref jobs11, .ref known12, .ref nowh13, .ref gone14, .int 0])) := (hfr131 _ _ _ (by decide)).mp hf_q1
      have hf_row9 : M129 row9 = some (2, .inr (1, [.ref nums10, .int 0])) := (hfr131 _ _ _ (by decide)).mp hf_row9
      have hf_nums10 : M129 nums10 = some (3, .inl (G.2.1 0, 256, .inl (fun _ => 0))) := (hfr131 _ _ _ (by decide)).mp hf_nums10
      have hf_jobs11 : M129 jobs11 = some (4, .inr (4, [.int 0, .ref (G.2.2.1 0), .int 0])) := (hfr131 _ _ _ (by decide)).mp hf_jobs11
      have hf_known12 : M129 known12 = some (5, .inr (4, [.int 0, .ref (G.2.2.1 0), .int 0])) := (hfr131 _ _ _ (by decide)).mp hf_known12
      have hf_nowh13 : M129 nowh13 = some (12, .inr (2, [.int 0, .int 0, .int 0, .int 0, .int 0])) := (hfr131 _ _ _ (by decide)).mp hf_nowh13
      have hf_gone14 : M129 gone14 = some (8, .inl (G.2.1 0, 512, .inl (fun _ => 0))) := (hfr131 _ _ _ (by decide)).mp hf_gone14
      have hf_q35 : M129 q35 = some (50, .inl (G.2.1 2, 1, .inr (.inl (fun _ => 0)))) := (hfr131 _ _ _ (by decide)).mp hf_q35
      refine lv_icmp_eq (tgt := 653) hx hb d_Law_law_507 (by decide) (fun c507 => ?_) (fun c507 => ?_)
      · refine lv_iinc (v := 2 + 4) (lv' := [(4, .int (2 + 4)), (3, .ref q35), (2, .ref q17), (1, .ref q1), (0, .ref b)]) hx hb d_Law_law_653 hl (k := 0) rfl rfl (by decide) rfl (fun ls hl => ?_)
        refine lv_goto (tgt := 43) hx hb d_Law_law_656 (by decide) ?_
        refine lv_iload hx hb d_Law_law_43 (lv_at hl 0 rfl) ?_
        refine lv_aload_n hx hb d_Law_law_45 rfl (lv_at hl 4 rfl) ?_
        refine va_slen hx hb hX hbl hbA hS d_Law_law_46 ?_
        refine lv_iconst (v := 4) hx hb d_Law_law_47 (by decide) ?_
        refine lv_isub hx hb d_Law_law_48 ?_
        refine lv_icmp_gt (tgt := 659) hx hb d_Law_law_49 (by decide) (fun c49 => ?_) (fun c49 => ?_)
        · refine lv_iconst (v := 1) hx hb d_Law_law_659 (by decide) ?_
          refine va_forget (fun q hq => by have h9 := hS.2.2 q hq; rw [← eG]; exact h9) ?_
          refine W.widen (k := 600002) (n := 7302198) (Nat.le_of_ble_eq_true rfl) (Nat.le_of_ble_eq_true rfl) ?_
          exact lw_ret hx hb hr hlocks d_Law_law_660
        · exact absurd (by decide) c49
      · exact absurd rfl c507
    · refine lv_tableIn (tgt := 512) hx hb d_Law_law_59 (by rw [h9]; decide) (by rw [h9]; decide) (by rw [h9]; rfl) (by decide) ?_
      refine lv_aload_n hx hb d_Law_law_512 rfl (lv_at hl 3 rfl) ?_
      refine lv_aload_n hx hb d_Law_law_513 rfl (lv_at hl 4 rfl) ?_
      refine lv_iload hx hb d_Law_law_514 (lv_at hl 0 rfl) ?_
      refine lv_iconst (v := 1) hx hb d_Law_law_516 (by decide) ?_
      refine lv_iadd hx hb d_Law_law_517 ?_
      refine va_sld hx hb hX hbl hbA hS (i := 2 + 1) (show ¬ ((2 + 1 : Int32) < 0 ∨ 6 ≤ (2 + 1 : Int32).toNatClampNeg) by decide) d_Law_law_518 ?_
      refine gw_calli hS (va_runV (As := [.int (xs (2 + 1 : Int32).toNatClampNeg)]) (rest := []) ⟨hx, hb, hml, hown, hts⟩ (c_reclaim l G M37 q1 row9 jobs11 known12 nowh13 gone14 (if 1 < (if 255 < z4 then 255 else z4) then (if 255 < z4 then 255 else z4) else 1) sc15 (xs (2 + 1 : Int32).toNatClampNeg) hf_q1 hf_known12 hf_nowh13 ) (cwV 1 hts (gw_gv mw310 mw311 mw312 mw83 mw309) rfl rfl rfl (by decide +kernel) ⟨Nat.le_of_ble_eq_true rfl, Nat.le_of_ble_eq_true rfl⟩) (gw_pv hE hB hS hW rfl hf_q1) rfl rfl hl.1 rfl (lv_room (Nat.le_of_ble_eq_true rfl)) d_Law_law_519 ⟨Nat.le_of_ble_eq_true rfl, Nat.le_of_ble_eq_true rfl⟩) (fun r132 M133 H locs hw134 hW hS => ?_)
      obtain ⟨rfl, rfl⟩ := hw134
      refine lv_aload_n hx hb d_Law_law_522 rfl (lv_at hl 2 rfl) ?_
      refine lv_aload_n hx hb d_Law_law_523 rfl (lv_at hl 4 rfl) ?_
      refine lv_iload hx hb d_Law_law_524 (lv_at hl 0 rfl) ?_
      refine lv_iconst (v := 1) hx hb d_Law_law_526 (by decide) ?_
      refine lv_iadd hx hb d_Law_law_527 ?_
      refine va_sld hx hb hX hbl hbA hS (i := 2 + 1) (show ¬ ((2 + 1 : Int32) < 0 ∨ 6 ≤ (2 + 1 : Int32).toNatClampNeg) by decide) d_Law_law_528 ?_
      refine gw_calli hS (va_runV (As := [.int (xs (2 + 1 : Int32).toNatClampNeg)]) (rest := [.int 0]) ⟨hx, hb, hml, hown, hts⟩ (m_reclaim l G M37 q17 there25 mrow26 found27 fsz28 ends29 made30 drops31 0 lm32 sm33 (xs (2 + 1 : Int32).toNatClampNeg) hf_q17 hf_there25 ) (cwV 1 hts (gw_gv mw314 mw315 mw316 mw169 mw313) rfl rfl rfl (by decide +kernel) ⟨Nat.le_of_ble_eq_true rfl, Nat.le_of_ble_eq_true rfl⟩) (gw_pv hE hB hS hW rfl hf_q17) rfl rfl hl.1 rfl (lv_room (Nat.le_of_ble_eq_true rfl)) d_Law_law_529 ⟨Nat.le_of_ble_eq_true rfl, Nat.le_of_ble_eq_true rfl⟩) (fun r135 M136 H locs hw137 hW hS => ?_)
      obtain ⟨rfl, hfr138⟩ := hw137
      have hf_there25 : M136 there25 = some (101, .inl (G.2.1 0, 10000, .inl (fun _ => 0))) := (hfr138 _ _ _ (by decide)).mp hf_there25
      have hf_mrow26 : M136 mrow26 = some (102, .inl (G.2.1 0, 300, .inl (fun _ => 0))) := (hfr138 _ _ _ (by decide)).mp hf_mrow26
      have hf_found27 : M136 found27 = some (103, .inl (G.2.1 0, 10240, .inl (fun _ => 0))) := (hfr138 _ _ _ (by decide)).mp hf_found27
      have hf_fsz28 : M136 fsz28 = some (104, .inl (G.2.1 0, 41, .inl (fun _ => 0))) := (hfr138 _ _ _ (by decide)).mp hf_fsz28
      have hf_ends29 : M136 ends29 = some (105, .inl (G.2.1 0, 41, .inl (fun _ => 0))) := (hfr138 _ _ _ (by decide)).mp hf_ends29
      have hf_made30 : M136 made30 = some (106, .inl (G.2.1 0, 4100, .inl (fun _ => 0))) := (hfr138 _ _ _ (by decide)).mp hf_made30
      have hf_drops31 : M136 drops31 = some (107, .inl (G.2.1 0, 2048, .inl (fun _ => 0))) := (hfr138 _ _ _ (by decide)).mp hf_drops31
      have hf_q1 : M136 q1 = some (1, .inr (0, [.int (if 1 < (if 255 < z4 then 255 else z4) then (if 255 < z4 then 255 else z4) else 1), .int sc15, .int 0, .ref row9, .ref jobs11, .ref known12, .ref nowh13, .ref gone14, .int 0])) := (hfr138 _ _ _ (by decide)).mp hf_q1
      have hf_row9 : M136 row9 = some (2, .inr (1, [.ref nums10, .int 0])) := (hfr138 _ _ _ (by decide)).mp hf_row9
      have hf_nums10 : M136 nums10 = some (3, .inl (G.2.1 0, 256, .inl (fun _ => 0))) := (hfr138 _ _ _ (by decide)).mp hf_nums10
      have hf_jobs11 : M136 jobs11 = some (4, .inr (4, [.int 0, .ref (G.2.2.1 0), .int 0])) := (hfr138 _ _ _ (by decide)).mp hf_jobs11
      have hf_known12 : M136 known12 = some (5, .inr (4, [.int 0, .ref (G.2.2.1 0), .int 0])) := (hfr138 _ _ _ (by decide)).mp hf_known12
      have hf_nowh13 : M136 nowh13 = some (12, .inr (2, [.int 0, .int 0, .int 0, .int 0, .int 0])) := (hfr138 _ _ _ (by decide)).mp hf_nowh13
      have hf_gone14 : M136 gone14 = some (8, .inl (G.2.1 0, 512, .inl (fun _ => 0))) := (hfr138 _ _ _ (by decide)).mp hf_gone14
      have hf_q35 : M136 q35 = some (50, .inl (G.2.1 2, 1, .inr (.inl (fun _ => 0)))) := (hfr138 _ _ _ (by decide)).mp hf_q35
      refine lv_icmp_eq (tgt := 653) hx hb d_Law_law_532 (by decide) (fun c532 => ?_) (fun c532 => ?_)
      · refine lv_iinc (v := 2 + 4) (lv' := [(4, .int (2 + 4)), (3, .ref q35), (2, .ref q17), (1, .ref q1), (0, .ref b)]) hx hb d_Law_law_653 hl (k := 0) rfl rfl (by decide) rfl (fun ls hl => ?_)
        refine lv_goto (tgt := 43) hx hb d_Law_law_656 (by decide) ?_
        refine lv_iload hx hb d_Law_law_43 (lv_at hl 0 rfl) ?_
        refine lv_aload_n hx hb d_Law_law_45 rfl (lv_at hl 4 rfl) ?_
        refine va_slen hx hb hX hbl hbA hS d_Law_law_46 ?_
        refine lv_iconst (v := 4) hx hb d_Law_law_47 (by decide) ?_
        refine lv_isub hx hb d_Law_law_48 ?_
        refine lv_icmp_gt (tgt := 659) hx hb d_Law_law_49 (by decide) (fun c49 => ?_) (fun c49 => ?_)
        · refine lv_iconst (v := 1) hx hb d_Law_law_659 (by decide) ?_
          refine va_forget (fun q hq => by have h9 := hS.2.2 q hq; rw [← eG]; exact h9) ?_
          refine W.widen (k := 600002) (n := 7302198) (Nat.le_of_ble_eq_true rfl) (Nat.le_of_ble_eq_true rfl) ?_
          exact lw_ret hx hb hr hlocks d_Law_law_660
        · exact absurd (by decide) c49
      · exact absurd rfl c532
    · refine lv_tableIn (tgt := 537) hx hb d_Law_law_59 (by rw [h9]; decide) (by rw [h9]; decide) (by rw [h9]; rfl) (by decide) ?_
      refine lv_aload_n hx hb d_Law_law_537 rfl (lv_at hl 3 rfl) ?_
      refine lv_aload_n hx hb d_Law_law_538 rfl (lv_at hl 4 rfl) ?_
      refine lv_iload hx hb d_Law_law_539 (lv_at hl 0 rfl) ?_
      refine lv_iconst (v := 1) hx hb d_Law_law_541 (by decide) ?_
      refine lv_iadd hx hb d_Law_law_542 ?_
      refine va_sld hx hb hX hbl hbA hS (i := 2 + 1) (show ¬ ((2 + 1 : Int32) < 0 ∨ 6 ≤ (2 + 1 : Int32).toNatClampNeg) by decide) d_Law_law_543 ?_
      refine lv_if_eq (tgt := 551) hx hb d_Law_law_544 (by decide) (fun c544 => ?_) (fun c544 => ?_)
      · refine lv_iconst (v := 0) hx hb d_Law_law_551 (by decide) ?_
        refine gw_calli hS (va_runV (As := [.int 0]) (rest := []) ⟨hx, hb, hml, hown, hts⟩ (c_empty l G M37 q1 row9 jobs11 known12 nowh13 gone14 (if 1 < (if 255 < z4 then 255 else z4) then (if 255 < z4 then 255 else z4) else 1) sc15 0 hf_q1 rfl rfl) (cwV 1 hts (gw_gv mw318 mw319 mw320 mw83 mw317) rfl rfl rfl (by decide +kernel) ⟨Nat.le_of_ble_eq_true rfl, Nat.le_of_ble_eq_true rfl⟩) (gw_pv hE hB hS hW rfl hf_q1) rfl rfl hl.1 rfl (lv_room (Nat.le_of_ble_eq_true rfl)) d_Law_law_552 ⟨Nat.le_of_ble_eq_true rfl, Nat.le_of_ble_eq_true rfl⟩) (fun r139 M140 H locs hw141 hW hS => ?_)
        obtain ⟨rfl, hfr142⟩ := hw141
        have hf_q17 : M140 q17 = some (100, .inr (5, [.int 0, .int lm32, .int sm33, .int 0, .ref there25, .ref mrow26, .int 0, .ref found27, .ref fsz28, .ref ends29, .ref made30, .int 0, .int 0, .ref drops31, .int 0])) := (hfr142 _ _ _ (by decide)).mp hf_q17
        have hf_there25 : M140 there25 = some (101, .inl (G.2.1 0, 10000, .inl (fun _ => 0))) := (hfr142 _ _ _ (by decide)).mp hf_there25
        have hf_mrow26 : M140 mrow26 = some (102, .inl (G.2.1 0, 300, .inl (fun _ => 0))) := (hfr142 _ _ _ (by decide)).mp hf_mrow26
        have hf_found27 : M140 found27 = some (103, .inl (G.2.1 0, 10240, .inl (fun _ => 0))) := (hfr142 _ _ _ (by decide)).mp hf_found27
        have hf_fsz28 : M140 fsz28 = some (104, .inl (G.2.1 0, 41, .inl (fun _ => 0))) := (hfr142 _ _ _ (by decide)).mp hf_fsz28
        have hf_ends29 : M140 ends29 = some (105, .inl (G.2.1 0, 41, .inl (fun _ => 0))) := (hfr142 _ _ _ (by decide)).mp hf_ends29
        have hf_made30 : M140 made30 = some (106, .inl (G.2.1 0, 4100, .inl (fun _ => 0))) := (hfr142 _ _ _ (by decide)).mp hf_made30
        have hf_drops31 : M140 drops31 = some (107, .inl (G.2.1 0, 2048, .inl (fun _ => 0))) := (hfr142 _ _ _ (by decide)).mp hf_drops31
        have hf_row9 : M140 row9 = some (2, .inr (1, [.ref nums10, .int 0])) := (hfr142 _ _ _ (by decide)).mp hf_row9
        have hf_nums10 : M140 nums10 = some (3, .inl (G.2.1 0, 256, .inl (fun _ => 0))) := (hfr142 _ _ _ (by decide)).mp hf_nums10
        have hf_jobs11 : M140 jobs11 = some (4, .inr (4, [.int 0, .ref (G.2.2.1 0), .int 0])) := (hfr142 _ _ _ (by decide)).mp hf_jobs11
        have hf_known12 : M140 known12 = some (5, .inr (4, [.int 0, .ref (G.2.2.1 0), .int 0])) := (hfr142 _ _ _ (by decide)).mp hf_known12
        have hf_nowh13 : M140 nowh13 = some (12, .inr (2, [.int 0, .int 0, .int 0, .int 0, .int 0])) := (hfr142 _ _ _ (by decide)).mp hf_nowh13
        have hf_gone14 : M140 gone14 = some (8, .inl (G.2.1 0, 512, .inl (fun _ => 0))) := (hfr142 _ _ _ (by decide)).mp hf_gone14
        have hf_q35 : M140 q35 = some (50, .inl (G.2.1 2, 1, .inr (.inl (fun _ => 0)))) := (hfr142 _ _ _ (by decide)).mp hf_q35
        refine lv_aload_n hx hb d_Law_law_555 rfl (lv_at hl 2 rfl) ?_
        refine lv_aload_n hx hb d_Law_law_556 rfl (lv_at hl 4 rfl) ?_
        refine lv_iload hx hb d_Law_law_557 (lv_at hl 0 rfl) ?_
        refine lv_iconst (v := 1) hx hb d_Law_law_559 (by decide) ?_
        refine lv_iadd hx hb d_Law_law_560 ?_
        refine va_sld hx hb hX hbl hbA hS (i := 2 + 1) (show ¬ ((2 + 1 : Int32) < 0 ∨ 6 ≤ (2 + 1 : Int32).toNatClampNeg) by decide) d_Law_law_561 ?_
        refine lv_if_eq (tgt := 569) hx hb d_Law_law_562 (by decide) (fun c562 => ?_) (fun c562 => ?_)
        · refine lv_iconst (v := 0) hx hb d_Law_law_569 (by decide) ?_
          refine gw_calli hS (va_runV (As := [.int 0]) (rest := [.int 0]) ⟨hx, hb, hml, hown, hts⟩ (m_empty l G M140 q17 there25 mrow26 found27 fsz28 ends29 made30 drops31 0 lm32 sm33 0 hf_q17 rfl rfl) (cwV 1 hts (gw_gv mw322 mw323 mw324 mw169 mw321) rfl rfl rfl (by decide +kernel) ⟨Nat.le_of_ble_eq_true rfl, Nat.le_of_ble_eq_true rfl⟩) (gw_pv hE hB hS hW rfl hf_q17) rfl rfl hl.1 rfl (lv_room (Nat.le_of_ble_eq_true rfl)) d_Law_law_570 ⟨Nat.le_of_ble_eq_true rfl, Nat.le_of_ble_eq_true rfl⟩) (fun r143 M144 H locs hw145 hW hS => ?_)
          obtain ⟨rfl, hfr146⟩ := hw145
          have hf_there25 : M144 there25 = some (101, .inl (G.2.1 0, 10000, .inl (fun _ => 0))) := (hfr146 _ _ _ (by decide)).mp hf_there25
          have hf_mrow26 : M144 mrow26 = some (102, .inl (G.2.1 0, 300, .inl (fun _ => 0))) := (hfr146 _ _ _ (by decide)).mp hf_mrow26
          have hf_found27 : M144 found27 = some (103, .inl (G.2.1 0, 10240, .inl (fun _ => 0))) := (hfr146 _ _ _ (by decide)).mp hf_found27
          have hf_fsz28 : M144 fsz28 = some (104, .inl (G.2.1 0, 41, .inl (fun _ => 0))) := (hfr146 _ _ _ (by decide)).mp hf_fsz28
          have hf_ends29 : M144 ends29 = some (105, .inl (G.2.1 0, 41, .inl (fun _ => 0))) := (hfr146 _ _ _ (by decide)).mp hf_ends29
          have hf_made30 : M144 made30 = some (106, .inl (G.2.1 0, 4100, .inl (fun _ => 0))) := (hfr146 _ _ _ (by decide)).mp hf_made30
          have hf_drops31 : M144 drops31 = some (107, .inl (G.2.1 0, 2048, .inl (fun _ => 0))) := (hfr146 _ _ _ (by decide)).mp hf_drops31
          have hf_row9 : M144 row9 = some (2, .inr (1, [.ref nums10, .int 0])) := (hfr146 _ _ _ (by decide)).mp hf_row9
          have hf_nums10 : M144 nums10 = some (3, .inl (G.2.1 0, 256, .inl (fun _ => 0))) := (hfr146 _ _ _ (by decide)).mp hf_nums10
          have hf_jobs11 : M144 jobs11 = some (4, .inr (4, [.int 0, .ref (G.2.2.1 0), .int 0])) := (hfr146 _ _ _ (by decide)).mp hf_jobs11
          have hf_known12 : M144 known12 = some (5, .inr (4, [.int 0, .ref (G.2.2.1 0), .int 0])) := (hfr146 _ _ _ (by decide)).mp hf_known12
          have hf_nowh13 : M144 nowh13 = some (12, .inr (2, [.int 0, .int 0, .int 0, .int 0, .int 0])) := (hfr146 _ _ _ (by decide)).mp hf_nowh13
          have hf_gone14 : M144 gone14 = some (8, .inl (G.2.1 0, 512, .inl (fun _ => 0))) := (hfr146 _ _ _ (by decide)).mp hf_gone14
          have hf_q35 : M144 q35 = some (50, .inl (G.2.1 2, 1, .inr (.inl (fun _ => 0)))) := (hfr146 _ _ _ (by decide)).mp hf_q35
          refine lv_icmp_eq (tgt := 653) hx hb d_Law_law_573 (by decide) (fun c573 => ?_) (fun c573 => ?_)
          · refine lv_iinc (v := 2 + 4) (lv' := [(4, .int (2 + 4)), (3, .ref q35), (2, .ref q17), (1, .ref q1), (0, .ref b)]) hx hb d_Law_law_653 hl (k := 0) rfl rfl (by decide) rfl (fun ls hl => ?_)
            refine lv_goto (tgt := 43) hx hb d_Law_law_656 (by decide) ?_
            refine lv_iload hx hb d_Law_law_43 (lv_at hl 0 rfl) ?_
            refine lv_aload_n hx hb d_Law_law_45 rfl (lv_at hl 4 rfl) ?_
            refine va_slen hx hb hX hbl hbA hS d_Law_law_46 ?_
            refine lv_iconst (v := 4) hx hb d_Law_law_47 (by decide) ?_
            refine lv_isub hx hb d_Law_law_48 ?_
            refine lv_icmp_gt (tgt := 659) hx hb d_Law_law_49 (by decide) (fun c49 => ?_) (fun c49 => ?_)
            · refine lv_iconst (v := 1) hx hb d_Law_law_659 (by decide) ?_
              refine va_forget (fun q hq => by have h9 := hS.2.2 q hq; rw [← eG]; exact h9) ?_
              refine W.widen (k := 600002) (n := 7302198) (Nat.le_of_ble_eq_true rfl) (Nat.le_of_ble_eq_true rfl) ?_
              exact lw_ret hx hb hr hlocks d_Law_law_660
            · exact absurd (by decide) c49
          · exact absurd rfl c573
        · refine lv_iconst (v := 1) hx hb d_Law_law_565 (by decide) ?_
          refine lv_goto (tgt := 570) hx hb d_Law_law_566 (by decide) ?_
          refine gw_calli hS (va_runV (As := [.int 1]) (rest := [.int 0]) ⟨hx, hb, hml, hown, hts⟩ (m_empty l G M140 q17 there25 mrow26 found27 fsz28 ends29 made30 drops31 0 lm32 sm33 1 hf_q17 rfl rfl) (cwV 1 hts (gw_gv mw322 mw323 mw324 mw169 mw321) rfl rfl rfl (by decide +kernel) ⟨Nat.le_of_ble_eq_true rfl, Nat.le_of_ble_eq_true rfl⟩) (gw_pv hE hB hS hW rfl hf_q17) rfl rfl hl.1 rfl (lv_room (Nat.le_of_ble_eq_true rfl)) d_Law_law_570 ⟨Nat.le_of_ble_eq_true rfl, Nat.le_of_ble_eq_true rfl⟩) (fun r147 M148 H locs hw149 hW hS => ?_)
          obtain ⟨rfl, hfr150⟩ := hw149
          have hf_there25 : M148 there25 = some (101, .inl (G.2.1 0, 10000, .inl (fun _ => 0))) := (hfr150 _ _ _ (by decide)).mp hf_there25
          have hf_mrow26 : M148 mrow26 = some (102, .inl (G.2.1 0, 300, .inl (fun _ => 0))) := (hfr150 _ _ _ (by decide)).mp hf_mrow26
          have hf_found27 : M148 found27 = some (103, .inl (G.2.1 0, 10240, .inl (fun _ => 0))) := (hfr150 _ _ _ (by decide)).mp hf_found27
          have hf_fsz28 : M148 fsz28 = some (104, .inl (G.2.1 0, 41, .inl (fun _ => 0))) := (hfr150 _ _ _ (by decide)).mp hf_fsz28
          have hf_ends29 : M148 ends29 = some (105, .inl (G.2.1 0, 41, .inl (fun _ => 0))) := (hfr150 _ _ _ (by decide)).mp hf_ends29
          have hf_made30 : M148 made30 = some (106, .inl (G.2.1 0, 4100, .inl (fun _ => 0))) := (hfr150 _ _ _ (by decide)).mp hf_made30
          have hf_drops31 : M148 drops31 = some (107, .inl (G.2.1 0, 2048, .inl (fun _ => 0))) := (hfr150 _ _ _ (by decide)).mp hf_drops31
          have hf_row9 : M148 row9 = some (2, .inr (1, [.ref nums10, .int 0])) := (hfr150 _ _ _ (by decide)).mp hf_row9
          have hf_nums10 : M148 nums10 = some (3, .inl (G.2.1 0, 256, .inl (fun _ => 0))) := (hfr150 _ _ _ (by decide)).mp hf_nums10
          have hf_jobs11 : M148 jobs11 = some (4, .inr (4, [.int 0, .ref (G.2.2.1 0), .int 0])) := (hfr150 _ _ _ (by decide)).mp hf_jobs11
          have hf_known12 : M148 known12 = some (5, .inr (4, [.int 0, .ref (G.2.2.1 0), .int 0])) := (hfr150 _ _ _ (by decide)).mp hf_known12
          have hf_nowh13 : M148 nowh13 = some (12, .inr (2, [.int 0, .int 0, .int 0, .int 0, .int 0])) := (hfr150 _ _ _ (by decide)).mp hf_nowh13
          have hf_gone14 : M148 gone14 = some (8, .inl (G.2.1 0, 512, .inl (fun _ => 0))) := (hfr150 _ _ _ (by decide)).mp hf_gone14
          have hf_q35 : M148 q35 = some (50, .inl (G.2.1 2, 1, .inr (.inl (fun _ => 0)))) := (hfr150 _ _ _ (by decide)).mp hf_q35
          refine lv_icmp_eq (tgt := 653) hx hb d_Law_law_573 (by decide) (fun c573 => ?_) (fun c573 => ?_)
          · refine lv_iinc (v := 2 + 4) (lv' := [(4, .int (2 + 4)), (3, .ref q35), (2, .ref q17), (1, .ref q1), (0, .ref b)]) hx hb d_Law_law_653 hl (k := 0) rfl rfl (by decide) rfl (fun ls hl => ?_)
            refine lv_goto (tgt := 43) hx hb d_Law_law_656 (by decide) ?_
            refine lv_iload hx hb d_Law_law_43 (lv_at hl 0 rfl) ?_
            refine lv_aload_n hx hb d_Law_law_45 rfl (lv_at hl 4 rfl) ?_
            refine va_slen hx hb hX hbl hbA hS d_Law_law_46 ?_
            refine lv_iconst (v := 4) hx hb d_Law_law_47 (by decide) ?_
            refine lv_isub hx hb d_Law_law_48 ?_
            refine lv_icmp_gt (tgt := 659) hx hb d_Law_law_49 (by decide) (fun c49 => ?_) (fun c49 => ?_)
            · refine lv_iconst (v := 1) hx hb d_Law_law_659 (by decide) ?_
              refine va_forget (fun q hq => by have h9 := hS.2.2 q hq; rw [← eG]; exact h9) ?_
              refine W.widen (k := 600002) (n := 7302198) (Nat.le_of_ble_eq_true rfl) (Nat.le_of_ble_eq_true rfl) ?_
              exact lw_ret hx hb hr hlocks d_Law_law_660
            · exact absurd (by decide) c49
          · exact absurd rfl c573
      · refine lv_iconst (v := 1) hx hb d_Law_law_547 (by decide) ?_
        refine lv_goto (tgt := 552) hx hb d_Law_law_548 (by decide) ?_
        refine gw_calli hS (va_runV (As := [.int 1]) (rest := []) ⟨hx, hb, hml, hown, hts⟩ (c_empty l G M37 q1 row9 jobs11 known12 nowh13 gone14 (if 1 < (if 255 < z4 then 255 else z4) then (if 255 < z4 then 255 else z4) else 1) sc15 1 hf_q1 rfl rfl) (cwV 1 hts (gw_gv mw318 mw319 mw320 mw83 mw317) rfl rfl rfl (by decide +kernel) ⟨Nat.le_of_ble_eq_true rfl, Nat.le_of_ble_eq_true rfl⟩) (gw_pv hE hB hS hW rfl hf_q1) rfl rfl hl.1 rfl (lv_room (Nat.le_of_ble_eq_true rfl)) d_Law_law_552 ⟨Nat.le_of_ble_eq_true rfl, Nat.le_of_ble_eq_true rfl⟩) (fun r151 M152 H locs hw153 hW hS => ?_)
        obtain ⟨rfl, hfr154⟩ := hw153
        have hf_q17 : M152 q17 = some (100, .inr (5, [.int 0, .int lm32, .int sm33, .int 0, .ref there25, .ref mrow26, .int 0, .ref found27, .ref fsz28, .ref ends29, .ref made30, .int 0, .int 0, .ref drops31, .int 0])) := (hfr154 _ _ _ (by decide)).mp hf_q17
        have hf_there25 : M152 there25 = some (101, .inl (G.2.1 0, 10000, .inl (fun _ => 0))) := (hfr154 _ _ _ (by decide)).mp hf_there25
        have hf_mrow26 : M152 mrow26 = some (102, .inl (G.2.1 0, 300, .inl (fun _ => 0))) := (hfr154 _ _ _ (by decide)).mp hf_mrow26
        have hf_found27 : M152 found27 = some (103, .inl (G.2.1 0, 10240, .inl (fun _ => 0))) := (hfr154 _ _ _ (by decide)).mp hf_found27
        have hf_fsz28 : M152 fsz28 = some (104, .inl (G.2.1 0, 41, .inl (fun _ => 0))) := (hfr154 _ _ _ (by decide)).mp hf_fsz28
        have hf_ends29 : M152 ends29 = some (105, .inl (G.2.1 0, 41, .inl (fun _ => 0))) := (hfr154 _ _ _ (by decide)).mp hf_ends29
        have hf_made30 : M152 made30 = some (106, .inl (G.2.1 0, 4100, .inl (fun _ => 0))) := (hfr154 _ _ _ (by decide)).mp hf_made30
        have hf_drops31 : M152 drops31 = some (107, .inl (G.2.1 0, 2048, .inl (fun _ => 0))) := (hfr154 _ _ _ (by decide)).mp hf_drops31
        have hf_row9 : M152 row9 = some (2, .inr (1, [.ref nums10, .int 0])) := (hfr154 _ _ _ (by decide)).mp hf_row9
        have hf_nums10 : M152 nums10 = some (3, .inl (G.2.1 0, 256, .inl (fun _ => 0))) := (hfr154 _ _ _ (by decide)).mp hf_nums10
        have hf_jobs11 : M152 jobs11 = some (4, .inr (4, [.int 0, .ref (G.2.2.1 0), .int 0])) := (hfr154 _ _ _ (by decide)).mp hf_jobs11
        have hf_known12 : M152 known12 = some (5, .inr (4, [.int 0, .ref (G.2.2.1 0), .int 0])) := (hfr154 _ _ _ (by decide)).mp hf_known12
        have hf_nowh13 : M152 nowh13 = some (12, .inr (2, [.int 0, .int 0, .int 0, .int 0, .int 0])) := (hfr154 _ _ _ (by decide)).mp hf_nowh13
        have hf_gone14 : M152 gone14 = some (8, .inl (G.2.1 0, 512, .inl (fun _ => 0))) := (hfr154 _ _ _ (by decide)).mp hf_gone14
        have hf_q35 : M152 q35 = some (50, .inl (G.2.1 2, 1, .inr (.inl (fun _ => 0)))) := (hfr154 _ _ _ (by decide)).mp hf_q35
        refine lv_aload_n hx hb d_Law_law_555 rfl (lv_at hl 2 rfl) ?_
        refine lv_aload_n hx hb d_Law_law_556 rfl (lv_at hl 4 rfl) ?_
        refine lv_iload hx hb d_Law_law_557 (lv_at hl 0 rfl) ?_
        refine lv_iconst (v := 1) hx hb d_Law_law_559 (by decide) ?_
        refine lv_iadd hx hb d_Law_law_560 ?_
        refine va_sld hx hb hX hbl hbA hS (i := 2 + 1) (show ¬ ((2 + 1 : Int32) < 0 ∨ 6 ≤ (2 + 1 : Int32).toNatClampNeg) by decide) d_Law_law_561 ?_
        refine lv_if_eq (tgt := 569) hx hb d_Law_law_562 (by decide) (fun c562 => ?_) (fun c562 => ?_)
        · refine lv_iconst (v := 0) hx hb d_Law_law_569 (by decide) ?_
          refine gw_calli hS (va_runV (As := [.int 0]) (rest := [.int 0]) ⟨hx, hb, hml, hown, hts⟩ (m_empty l G M152 q17 there25 mrow26 found27 fsz28 ends29 made30 drops31 0 lm32 sm33 0 hf_q17 rfl rfl) (cwV 1 hts (gw_gv mw322 mw323 mw324 mw169 mw321) rfl rfl rfl (by decide +kernel) ⟨Nat.le_of_ble_eq_true rfl, Nat.le_of_ble_eq_true rfl⟩) (gw_pv hE hB hS hW rfl hf_q17) rfl rfl hl.1 rfl (lv_room (Nat.le_of_ble_eq_true rfl)) d_Law_law_570 ⟨Nat.le_of_ble_eq_true rfl, Nat.le_of_ble_eq_true rfl⟩) (fun r155 M156 H locs hw157 hW hS => ?_)
          obtain ⟨rfl, hfr158⟩ := hw157
          have hf_there25 : M156 there25 = some (101, .inl (G.2.1 0, 10000, .inl (fun _ => 0))) := (hfr158 _ _ _ (by decide)).mp hf_there25
          have hf_mrow26 : M156 mrow26 = some (102, .inl (G.2.1 0, 300, .inl (fun _ => 0))) := (hfr158 _ _ _ (by decide)).mp hf_mrow26
          have hf_found27 : M156 found27 = some (103, .inl (G.2.1 0, 10240, .inl (fun _ => 0))) := (hfr158 _ _ _ (by decide)).mp hf_found27
          have hf_fsz28 : M156 fsz28 = some (104, .inl (G.2.1 0, 41, .inl (fun _ => 0))) := (hfr158 _ _ _ (by decide)).mp hf_fsz28
          have hf_ends29 : M156 ends29 = some (105, .inl (G.2.1 0, 41, .inl (fun _ => 0))) := (hfr158 _ _ _ (by decide)).mp hf_ends29
          have hf_made30 : M156 made30 = some (106, .inl (G.2.1 0, 4100, .inl (fun _ => 0))) := (hfr158 _ _ _ (by decide)).mp hf_made30
          have hf_drops31 : M156 drops31 = some (107, .inl (G.2.1 0, 2048, .inl (fun _ => 0))) := (hfr158 _ _ _ (by decide)).mp hf_drops31
          have hf_row9 : M156 row9 = some (2, .inr (1, [.ref nums10, .int 0])) := (hfr158 _ _ _ (by decide)).mp hf_row9
          have hf_nums10 : M156 nums10 = some (3, .inl (G.2.1 0, 256, .inl (fun _ => 0))) := (hfr158 _ _ _ (by decide)).mp hf_nums10
          have hf_jobs11 : M156 jobs11 = some (4, .inr (4, [.int 0, .ref (G.2.2.1 0), .int 0])) := (hfr158 _ _ _ (by decide)).mp hf_jobs11
          have hf_known12 : M156 known12 = some (5, .inr (4, [.int 0, .ref (G.2.2.1 0), .int 0])) := (hfr158 _ _ _ (by decide)).mp hf_known12
          have hf_nowh13 : M156 nowh13 = some (12, .inr (2, [.int 0, .int 0, .int 0, .int 0, .int 0])) := (hfr158 _ _ _ (by decide)).mp hf_nowh13
          have hf_gone14 : M156 gone14 = some (8, .inl (G.2.1 0, 512, .inl (fun _ => 0))) := (hfr158 _ _ _ (by decide)).mp hf_gone14
          have hf_q35 : M156 q35 = some (50, .inl (G.2.1 2, 1, .inr (.inl (fun _ => 0)))) := (hfr158 _ _ _ (by decide)).mp hf_q35
          refine lv_icmp_eq (tgt := 653) hx hb d_Law_law_573 (by decide) (fun c573 => ?_) (fun c573 => ?_)
          · refine lv_iinc (v := 2 + 4) (lv' := [(4, .int (2 + 4)), (3, .ref q35), (2, .ref q17), (1, .ref q1), (0, .ref b)]) hx hb d_Law_law_653 hl (k := 0) rfl rfl (by decide) rfl (fun ls hl => ?_)
            refine lv_goto (tgt := 43) hx hb d_Law_law_656 (by decide) ?_
            refine lv_iload hx hb d_Law_law_43 (lv_at hl 0 rfl) ?_
            refine lv_aload_n hx hb d_Law_law_45 rfl (lv_at hl 4 rfl) ?_
            refine va_slen hx hb hX hbl hbA hS d_Law_law_46 ?_
            refine lv_iconst (v := 4) hx hb d_Law_law_47 (by decide) ?_
            refine lv_isub hx hb d_Law_law_48 ?_
            refine lv_icmp_gt (tgt := 659) hx hb d_Law_law_49 (by decide) (fun c49 => ?_) (fun c49 => ?_)
            · refine lv_iconst (v := 1) hx hb d_Law_law_659 (by decide) ?_
              refine va_forget (fun q hq => by have h9 := hS.2.2 q hq; rw [← eG]; exact h9) ?_
              refine W.widen (k := 600002) (n := 7302198) (Nat.le_of_ble_eq_true rfl) (Nat.le_of_ble_eq_true rfl) ?_
              exact lw_ret hx hb hr hlocks d_Law_law_660
            · exact absurd (by decide) c49
          · exact absurd rfl c573
        · refine lv_iconst (v := 1) hx hb d_Law_law_565 (by decide) ?_
          refine lv_goto (tgt := 570) hx hb d_Law_law_566 (by decide) ?_
          refine gw_calli hS (va_runV (As := [.int 1]) (rest := [.int 0]) ⟨hx, hb, hml, hown, hts⟩ (m_empty l G M152 q17 there25 mrow26 found27 fsz28 ends29 made30 drops31 0 lm32 sm33 1 hf_q17 rfl rfl) (cwV 1 hts (gw_gv mw322 mw323 mw324 mw169 mw321) rfl rfl rfl (by decide +kernel) ⟨Nat.le_of_ble_eq_true rfl, Nat.le_of_ble_eq_true rfl⟩) (gw_pv hE hB hS hW rfl hf_q17) rfl rfl hl.1 rfl (lv_room (Nat.le_of_ble_eq_true rfl)) d_Law_law_570 ⟨Nat.le_of_ble_eq_true rfl, Nat.le_of_ble_eq_true rfl⟩) (fun r159 M160 H locs hw161 hW hS => ?_)
          obtain ⟨rfl, hfr162⟩ := hw161
          have hf_there25 : M160 there25 = some (101, .inl (G.2.1 0, 10000, .inl (fun _ => 0))) := (hfr162 _ _ _ (by decide)).mp hf_there25
          have hf_mrow26 : M160 mrow26 = some (102, .inl (G.2.1 0, 300, .inl (fun _ => 0))) := (hfr162 _ _ _ (by decide)).mp hf_mrow26
          have hf_found27 : M160 found27 = some (103, .inl (G.2.1 0, 10240, .inl (fun _ => 0))) := (hfr162 _ _ _ (by decide)).mp hf_found27
          have hf_fsz28 : M160 fsz28 = some (104, .inl (G.2.1 0, 41, .inl (fun _ => 0))) := (hfr162 _ _ _ (by decide)).mp hf_fsz28
          have hf_ends29 : M160 ends29 = some (105, .inl (G.2.1 0, 41, .inl (fun _ => 0))) := (hfr162 _ _ _ (by decide)).mp hf_ends29
          have hf_made30 : M160 made30 = some (106, .inl (G.2.1 0, 4100, .inl (fun _ => 0))) := (hfr162 _ _ _ (by decide)).mp hf_made30
          have hf_drops31 : M160 drops31 = some (107, .inl (G.2.1 0, 2048, .inl (fun _ => 0))) := (hfr162 _ _ _ (by decide)).mp hf_drops31
          have hf_row9 : M160 row9 = some (2, .inr (1, [.ref nums10, .int 0])) := (hfr162 _ _ _ (by decide)).mp hf_row9
          have hf_nums10 : M160 nums10 = some (3, .inl (G.2.1 0, 256, .inl (fun _ => 0))) := (hfr162 _ _ _ (by decide)).mp hf_nums10
          have hf_jobs11 : M160 jobs11 = some (4, .inr (4, [.int 0, .ref (G.2.2.1 0), .int 0])) := (hfr162 _ _ _ (by decide)).mp hf_jobs11
          have hf_known12 : M160 known12 = some (5, .inr (4, [.int 0, .ref (G.2.2.1 0), .int 0])) := (hfr162 _ _ _ (by decide)).mp hf_known12
          have hf_nowh13 : M160 nowh13 = some (12, .inr (2, [.int 0, .int 0, .int 0, .int 0, .int 0])) := (hfr162 _ _ _ (by decide)).mp hf_nowh13
          have hf_gone14 : M160 gone14 = some (8, .inl (G.2.1 0, 512, .inl (fun _ => 0))) := (hfr162 _ _ _ (by decide)).mp hf_gone14
          have hf_q35 : M160 q35 = some (50, .inl (G.2.1 2, 1, .inr (.inl (fun _ => 0)))) := (hfr162 _ _ _ (by decide)).mp hf_q35
          refine lv_icmp_eq (tgt := 653) hx hb d_Law_law_573 (by decide) (fun c573 => ?_) (fun c573 => ?_)
          · refine lv_iinc (v := 2 + 4) (lv' := [(4, .int (2 + 4)), (3, .ref q35), (2, .ref q17), (1, .ref q1), (0, .ref b)]) hx hb d_Law_law_653 hl (k := 0) rfl rfl (by decide) rfl (fun ls hl => ?_)
            refine lv_goto (tgt := 43) hx hb d_Law_law_656 (by decide) ?_
            refine lv_iload hx hb d_Law_law_43 (lv_at hl 0 rfl) ?_
            refine lv_aload_n hx hb d_Law_law_45 rfl (lv_at hl 4 rfl) ?_
            refine va_slen hx hb hX hbl hbA hS d_Law_law_46 ?_
            refine lv_iconst (v := 4) hx hb d_Law_law_47 (by decide) ?_
            refine lv_isub hx hb d_Law_law_48 ?_
            refine lv_icmp_gt (tgt := 659) hx hb d_Law_law_49 (by decide) (fun c49 => ?_) (fun c49 => ?_)
            · refine lv_iconst (v := 1) hx hb d_Law_law_659 (by decide) ?_
              refine va_forget (fun q hq => by have h9 := hS.2.2 q hq; rw [← eG]; exact h9) ?_
              refine W.widen (k := 600002) (n := 7302198) (Nat.le_of_ble_eq_true rfl) (Nat.le_of_ble_eq_true rfl) ?_
              exact lw_ret hx hb hr hlocks d_Law_law_660
            · exact absurd (by decide) c49
          · exact absurd rfl c573
    · refine lv_tableIn (tgt := 578) hx hb d_Law_law_59 (by rw [h9]; decide) (by rw [h9]; decide) (by rw [h9]; rfl) (by decide) ?_
      refine lv_aload_n hx hb d_Law_law_578 rfl (lv_at hl 3 rfl) ?_
      refine lv_aload_n hx hb d_Law_law_579 rfl (lv_at hl 4 rfl) ?_
      refine lv_iload hx hb d_Law_law_580 (lv_at hl 0 rfl) ?_
      refine lv_iconst (v := 1) hx hb d_Law_law_582 (by decide) ?_
      refine lv_iadd hx hb d_Law_law_583 ?_
      refine va_sld hx hb hX hbl hbA hS (i := 2 + 1) (show ¬ ((2 + 1 : Int32) < 0 ∨ 6 ≤ (2 + 1 : Int32).toNatClampNeg) by decide) d_Law_law_584 ?_
      refine gw_calli hS (va_runV (As := [.int (xs (2 + 1 : Int32).toNatClampNeg)]) (rest := []) ⟨hx, hb, hml, hown, hts⟩ (c_version l G M37 q1 row9 jobs11 known12 nowh13 gone14 (if 1 < (if 255 < z4 then 255 else z4) then (if 255 < z4 then 255 else z4) else 1) sc15 (xs (2 + 1 : Int32).toNatClampNeg) hf_q1 hf_known12 hf_nowh13 ) (cwV 1 hts (gw_gv mw326 mw327 mw328 mw83 mw325) rfl rfl rfl (by decide +kernel) ⟨Nat.le_of_ble_eq_true rfl, Nat.le_of_ble_eq_true rfl⟩) (gw_pv hE hB hS hW rfl hf_q1) rfl rfl hl.1 rfl (lv_room (Nat.le_of_ble_eq_true rfl)) d_Law_law_585 ⟨Nat.le_of_ble_eq_true rfl, Nat.le_of_ble_eq_true rfl⟩) (fun r163 M164 H locs hw165 hW hS => ?_)
      obtain ⟨rfl, rfl⟩ := hw165
      refine lv_aload_n hx hb d_Law_law_588 rfl (lv_at hl 2 rfl) ?_
      refine lv_aload_n hx hb d_Law_law_589 rfl (lv_at hl 4 rfl) ?_
      refine lv_iload hx hb d_Law_law_590 (lv_at hl 0 rfl) ?_
      refine lv_iconst (v := 1) hx hb d_Law_law_592 (by decide) ?_
      refine lv_iadd hx hb d_Law_law_593 ?_
      refine va_sld hx hb hX hbl hbA hS (i := 2 + 1) (show ¬ ((2 + 1 : Int32) < 0 ∨ 6 ≤ (2 + 1 : Int32).toNatClampNeg) by decide) d_Law_law_594 ?_
      refine gw_calli hS (va_runV (As := [.int (xs (2 + 1 : Int32).toNatClampNeg)]) (rest := [.int (-1)]) ⟨hx, hb, hml, hown, hts⟩ (m_version l G M37 q17 there25 mrow26 found27 fsz28 ends29 made30 drops31 0 lm32 sm33 (xs (2 + 1 : Int32).toNatClampNeg) hf_q17 hf_there25 ) (cwV 1 hts (gw_gv mw330 mw331 mw332 mw169 mw329) rfl rfl rfl (by decide +kernel) ⟨Nat.le_of_ble_eq_true rfl, Nat.le_of_ble_eq_true rfl⟩) (gw_pv hE hB hS hW rfl hf_q17) rfl rfl hl.1 rfl (lv_room (Nat.le_of_ble_eq_true rfl)) d_Law_law_595 ⟨Nat.le_of_ble_eq_true rfl, Nat.le_of_ble_eq_true rfl⟩) (fun r166 M167 H locs hw168 hW hS => ?_)
      obtain ⟨rfl, hfr169⟩ := hw168
      have hf_there25 : M167 there25 = some (101, .inl (G.2.1 0, 10000, .inl (fun _ => 0))) := (hfr169 _ _ _ (by decide)).mp hf_there25
      have hf_mrow26 : M167 mrow26 = some (102, .inl (G.2.1 0, 300, .inl (fun _ => 0))) := (hfr169 _ _ _ (by decide)).mp hf_mrow26
      have hf_found27 : M167 found27 = some (103, .inl (G.2.1 0, 10240, .inl (fun _ => 0))) := (hfr169 _ _ _ (by decide)).mp hf_found27
      have hf_fsz28 : M167 fsz28 = some (104, .inl (G.2.1 0, 41, .inl (fun _ => 0))) := (hfr169 _ _ _ (by decide)).mp hf_fsz28
      have hf_ends29 : M167 ends29 = some (105, .inl (G.2.1 0, 41, .inl (fun _ => 0))) := (hfr169 _ _ _ (by decide)).mp hf_ends29
      have hf_made30 : M167 made30 = some (106, .inl (G.2.1 0, 4100, .inl (fun _ => 0))) := (hfr169 _ _ _ (by decide)).mp hf_made30
      have hf_drops31 : M167 drops31 = some (107, .inl (G.2.1 0, 2048, .inl (fun _ => 0))) := (hfr169 _ _ _ (by decide)).mp hf_drops31
      have hf_q1 : M167 q1 = some (1, .inr (0, [.int (if 1 < (if 255 < z4 then 255 else z4) then (if 255 < z4 then 255 else z4) else 1), .int sc15, .int 0, .ref row9, .ref jobs11, .ref known12, .ref nowh13, .ref gone14, .int 0])) := (hfr169 _ _ _ (by decide)).mp hf_q1
      have hf_row9 : M167 row9 = some (2, .inr (1, [.ref nums10, .int 0])) := (hfr169 _ _ _ (by decide)).mp hf_row9
      have hf_nums10 : M167 nums10 = some (3, .inl (G.2.1 0, 256, .inl (fun _ => 0))) := (hfr169 _ _ _ (by decide)).mp hf_nums10
      have hf_jobs11 : M167 jobs11 = some (4, .inr (4, [.int 0, .ref (G.2.2.1 0), .int 0])) := (hfr169 _ _ _ (by decide)).mp hf_jobs11
      have hf_known12 : M167 known12 = some (5, .inr (4, [.int 0, .ref (G.2.2.1 0), .int 0])) := (hfr169 _ _ _ (by decide)).mp hf_known12
      have hf_nowh13 : M167 nowh13 = some (12, .inr (2, [.int 0, .int 0, .int 0, .int 0, .int 0])) := (hfr169 _ _ _ (by decide)).mp hf_nowh13
      have hf_gone14 : M167 gone14 = some (8, .inl (G.2.1 0, 512, .inl (fun _ => 0))) := (hfr169 _ _ _ (by decide)).mp hf_gone14
      have hf_q35 : M167 q35 = some (50, .inl (G.2.1 2, 1, .inr (.inl (fun _ => 0)))) := (hfr169 _ _ _ (by decide)).mp hf_q35
      refine lv_icmp_eq (tgt := 653) hx hb d_Law_law_598 (by decide) (fun c598 => ?_) (fun c598 => ?_)
      · refine lv_iinc (v := 2 + 4) (lv' := [(4, .int (2 + 4)), (3, .ref q35), (2, .ref q17), (1, .ref q1), (0, .ref b)]) hx hb d_Law_law_653 hl (k := 0) rfl rfl (by decide) rfl (fun ls hl => ?_)
        refine lv_goto (tgt := 43) hx hb d_Law_law_656 (by decide) ?_
        refine lv_iload hx hb d_Law_law_43 (lv_at hl 0 rfl) ?_
        refine lv_aload_n hx hb d_Law_law_45 rfl (lv_at hl 4 rfl) ?_
        refine va_slen hx hb hX hbl hbA hS d_Law_law_46 ?_
        refine lv_iconst (v := 4) hx hb d_Law_law_47 (by decide) ?_
        refine lv_isub hx hb d_Law_law_48 ?_
        refine lv_icmp_gt (tgt := 659) hx hb d_Law_law_49 (by decide) (fun c49 => ?_) (fun c49 => ?_)
        · refine lv_iconst (v := 1) hx hb d_Law_law_659 (by decide) ?_
          refine va_forget (fun q hq => by have h9 := hS.2.2 q hq; rw [← eG]; exact h9) ?_
          refine W.widen (k := 600002) (n := 7302198) (Nat.le_of_ble_eq_true rfl) (Nat.le_of_ble_eq_true rfl) ?_
          exact lw_ret hx hb hr hlocks d_Law_law_660
        · exact absurd (by decide) c49
      · exact absurd rfl c598
    · refine lv_tableIn (tgt := 603) hx hb d_Law_law_59 (by rw [h9]; decide) (by rw [h9]; decide) (by rw [h9]; rfl) (by decide) ?_
      refine lv_aload_n hx hb d_Law_law_603 rfl (lv_at hl 3 rfl) ?_
      refine lv_aload_n hx hb d_Law_law_604 rfl (lv_at hl 4 rfl) ?_
      refine lv_iload hx hb d_Law_law_605 (lv_at hl 0 rfl) ?_
      refine lv_iconst (v := 1) hx hb d_Law_law_607 (by decide) ?_
      refine lv_iadd hx hb d_Law_law_608 ?_
      refine va_sld hx hb hX hbl hbA hS (i := 2 + 1) (show ¬ ((2 + 1 : Int32) < 0 ∨ 6 ≤ (2 + 1 : Int32).toNatClampNeg) by decide) d_Law_law_609 ?_
      refine gw_calli hS (va_runV (As := [.int (xs (2 + 1 : Int32).toNatClampNeg)]) (rest := []) ⟨hx, hb, hml, hown, hts⟩ (c_state l G M37 q1 row9 jobs11 known12 nowh13 gone14 (if 1 < (if 255 < z4 then 255 else z4) then (if 255 < z4 then 255 else z4) else 1) sc15 (xs (2 + 1 : Int32).toNatClampNeg) hf_q1 hf_known12 hf_nowh13 ) (cwV 1 hts (gw_gv mw334 mw335 mw336 mw83 mw333) rfl rfl rfl (by decide +kernel) ⟨Nat.le_of_ble_eq_true rfl, Nat.le_of_ble_eq_true rfl⟩) (gw_pv hE hB hS hW rfl hf_q1) rfl rfl hl.1 rfl (lv_room (Nat.le_of_ble_eq_true rfl)) d_Law_law_610 ⟨Nat.le_of_ble_eq_true rfl, Nat.le_of_ble_eq_true rfl⟩) (fun r170 M171 H locs hw172 hW hS => ?_)
      obtain ⟨rfl, rfl⟩ := hw172
      refine lv_aload_n hx hb d_Law_law_613 rfl (lv_at hl 2 rfl) ?_
      refine lv_aload_n hx hb d_Law_law_614 rfl (lv_at hl 4 rfl) ?_
      refine lv_iload hx hb d_Law_law_615 (lv_at hl 0 rfl) ?_
      refine lv_iconst (v := 1) hx hb d_Law_law_617 (by decide) ?_
      refine lv_iadd hx hb d_Law_law_618 ?_
      refine va_sld hx hb hX hbl hbA hS (i := 2 + 1) (show ¬ ((2 + 1 : Int32) < 0 ∨ 6 ≤ (2 + 1 : Int32).toNatClampNeg) by decide) d_Law_law_619 ?_
      refine gw_calli hS (va_runV (As := [.int (xs (2 + 1 : Int32).toNatClampNeg)]) (rest := [.int (gx_st (xs (2 + 1 : Int32).toNatClampNeg))]) ⟨hx, hb, hml, hown, hts⟩ (m_state l G M37 q17 there25 mrow26 found27 fsz28 ends29 made30 drops31 0 lm32 sm33 (xs (2 + 1 : Int32).toNatClampNeg) hf_q17 hf_there25 ) (cwV 1 hts (gw_gv mw338 mw339 mw340 mw169 mw337) rfl rfl rfl (by decide +kernel) ⟨Nat.le_of_ble_eq_true rfl, Nat.le_of_ble_eq_true rfl⟩) (gw_pv hE hB hS hW rfl hf_q17) rfl rfl hl.1 rfl (lv_room (Nat.le_of_ble_eq_true rfl)) d_Law_law_620 ⟨Nat.le_of_ble_eq_true rfl, Nat.le_of_ble_eq_true rfl⟩) (fun r173 M174 H locs hw175 hW hS => ?_)
      obtain ⟨rfl, hfr176⟩ := hw175
      have hf_there25 : M174 there25 = some (101, .inl (G.2.1 0, 10000, .inl (fun _ => 0))) := (hfr176 _ _ _ (by decide)).mp hf_there25
      have hf_mrow26 : M174 mrow26 = some (102, .inl (G.2.1 0, 300, .inl (fun _ => 0))) := (hfr176 _ _ _ (by decide)).mp hf_mrow26
      have hf_found27 : M174 found27 = some (103, .inl (G.2.1 0, 10240, .inl (fun _ => 0))) := (hfr176 _ _ _ (by decide)).mp hf_found27
      have hf_fsz28 : M174 fsz28 = some (104, .inl (G.2.1 0, 41, .inl (fun _ => 0))) := (hfr176 _ _ _ (by decide)).mp hf_fsz28
      have hf_ends29 : M174 ends29 = some (105, .inl (G.2.1 0, 41, .inl (fun _ => 0))) := (hfr176 _ _ _ (by decide)).mp hf_ends29
      have hf_made30 : M174 made30 = some (106, .inl (G.2.1 0, 4100, .inl (fun _ => 0))) := (hfr176 _ _ _ (by decide)).mp hf_made30
      have hf_drops31 : M174 drops31 = some (107, .inl (G.2.1 0, 2048, .inl (fun _ => 0))) := (hfr176 _ _ _ (by decide)).mp hf_drops31
      have hf_q1 : M174 q1 = some (1, .inr (0, [.int (if 1 < (if 255 < z4 then 255 else z4) then (if 255 < z4 then 255 else z4) else 1), .int sc15, .int 0, .ref row9, .ref jobs11, .ref known12, .ref nowh13, .ref gone14, .int 0])) := (hfr176 _ _ _ (by decide)).mp hf_q1
      have hf_row9 : M174 row9 = some (2, .inr (1, [.ref nums10, .int 0])) := (hfr176 _ _ _ (by decide)).mp hf_row9
      have hf_nums10 : M174 nums10 = some (3, .inl (G.2.1 0, 256, .inl (fun _ => 0))) := (hfr176 _ _ _ (by decide)).mp hf_nums10
      have hf_jobs11 : M174 jobs11 = some (4, .inr (4, [.int 0, .ref (G.2.2.1 0), .int 0])) := (hfr176 _ _ _ (by decide)).mp hf_jobs11
      have hf_known12 : M174 known12 = some (5, .inr (4, [.int 0, .ref (G.2.2.1 0), .int 0])) := (hfr176 _ _ _ (by decide)).mp hf_known12
      have hf_nowh13 : M174 nowh13 = some (12, .inr (2, [.int 0, .int 0, .int 0, .int 0, .int 0])) := (hfr176 _ _ _ (by decide)).mp hf_nowh13
      have hf_gone14 : M174 gone14 = some (8, .inl (G.2.1 0, 512, .inl (fun _ => 0))) := (hfr176 _ _ _ (by decide)).mp hf_gone14
      have hf_q35 : M174 q35 = some (50, .inl (G.2.1 2, 1, .inr (.inl (fun _ => 0)))) := (hfr176 _ _ _ (by decide)).mp hf_q35
      refine lv_icmp_eq (tgt := 653) hx hb d_Law_law_623 (by decide) (fun c623 => ?_) (fun c623 => ?_)
      · refine lv_iinc (v := 2 + 4) (lv' := [(4, .int (2 + 4)), (3, .ref q35), (2, .ref q17), (1, .ref q1), (0, .ref b)]) hx hb d_Law_law_653 hl (k := 0) rfl rfl (by decide) rfl (fun ls hl => ?_)
        refine lv_goto (tgt := 43) hx hb d_Law_law_656 (by decide) ?_
        refine lv_iload hx hb d_Law_law_43 (lv_at hl 0 rfl) ?_
        refine lv_aload_n hx hb d_Law_law_45 rfl (lv_at hl 4 rfl) ?_
        refine va_slen hx hb hX hbl hbA hS d_Law_law_46 ?_
        refine lv_iconst (v := 4) hx hb d_Law_law_47 (by decide) ?_
        refine lv_isub hx hb d_Law_law_48 ?_
        refine lv_icmp_gt (tgt := 659) hx hb d_Law_law_49 (by decide) (fun c49 => ?_) (fun c49 => ?_)
        · refine lv_iconst (v := 1) hx hb d_Law_law_659 (by decide) ?_
          refine va_forget (fun q hq => by have h9 := hS.2.2 q hq; rw [← eG]; exact h9) ?_
          refine W.widen (k := 600002) (n := 7302198) (Nat.le_of_ble_eq_true rfl) (Nat.le_of_ble_eq_true rfl) ?_
          exact lw_ret hx hb hr hlocks d_Law_law_660
        · exact absurd (by decide) c49
      · exact absurd rfl c623
    · refine lv_tableIn (tgt := 628) hx hb d_Law_law_59 (by rw [h9]; decide) (by rw [h9]; decide) (by rw [h9]; rfl) (by decide) ?_
      refine lv_aload_n hx hb d_Law_law_628 rfl (lv_at hl 3 rfl) ?_
      refine lv_aload_n hx hb d_Law_law_629 rfl (lv_at hl 4 rfl) ?_
      refine lv_iload hx hb d_Law_law_630 (lv_at hl 0 rfl) ?_
      refine lv_iconst (v := 1) hx hb d_Law_law_632 (by decide) ?_
      refine lv_iadd hx hb d_Law_law_633 ?_
      refine va_sld hx hb hX hbl hbA hS (i := 2 + 1) (show ¬ ((2 + 1 : Int32) < 0 ∨ 6 ≤ (2 + 1 : Int32).toNatClampNeg) by decide) d_Law_law_634 ?_
      refine gw_calli hS (va_runV (As := [.int (xs (2 + 1 : Int32).toNatClampNeg)]) (rest := []) ⟨hx, hb, hml, hown, hts⟩ (c_count l G M37 q1 row9 nums10 jobs11 known12 nowh13 gone14 (if 1 < (if 255 < z4 then 255 else z4) then (if 255 < z4 then 255 else z4) else 1) sc15 (xs (2 + 1 : Int32).toNatClampNeg) hf_q1 hf_row9 hf_jobs11 hf_known12 ) (cwV 1 hts (gw_gv mw342 mw343 mw344 mw83 mw341) rfl rfl rfl (by decide +kernel) ⟨Nat.le_of_ble_eq_true rfl, Nat.le_of_ble_eq_true rfl⟩) (gw_pv hE hB hS hW rfl hf_q1) rfl rfl hl.1 rfl (lv_room (Nat.le_of_ble_eq_true rfl)) d_Law_law_635 ⟨Nat.le_of_ble_eq_true rfl, Nat.le_of_ble_eq_true rfl⟩) (fun r177 M178 H locs hw179 hW hS => ?_)
      obtain ⟨rfl, rfl⟩ := hw179
      refine lv_aload_n hx hb d_Law_law_638 rfl (lv_at hl 2 rfl) ?_
      refine lv_aload_n hx hb d_Law_law_639 rfl (lv_at hl 4 rfl) ?_
      refine lv_iload hx hb d_Law_law_640 (lv_at hl 0 rfl) ?_
      refine lv_iconst (v := 1) hx hb d_Law_law_642 (by decide) ?_
      refine lv_iadd hx hb d_Law_law_643 ?_
      refine va_sld hx hb hX hbl hbA hS (i := 2 + 1) (show ¬ ((2 + 1 : Int32) < 0 ∨ 6 ≤ (2 + 1 : Int32).toNatClampNeg) by decide) d_Law_law_644 ?_
      refine gw_calli hS (va_runV (As := [.int (xs (2 + 1 : Int32).toNatClampNeg)]) (rest := [.int (gx_cnt (xs (2 + 1 : Int32).toNatClampNeg))]) ⟨hx, hb, hml, hown, hts⟩ (m_count l G M37 q17 there25 mrow26 found27 fsz28 ends29 made30 drops31 0 lm32 sm33 (xs (2 + 1 : Int32).toNatClampNeg) hf_q17 hf_there25 ) (cwV 1 hts (gw_gv mw346 mw347 mw348 mw169 mw345) rfl rfl rfl (by decide +kernel) ⟨Nat.le_of_ble_eq_true rfl, Nat.le_of_ble_eq_true rfl⟩) (gw_pv hE hB hS hW rfl hf_q17) rfl rfl hl.1 rfl (lv_room (Nat.le_of_ble_eq_true rfl)) d_Law_law_645 ⟨Nat.le_of_ble_eq_true rfl, Nat.le_of_ble_eq_true rfl⟩) (fun r180 M181 H locs hw182 hW hS => ?_)
      obtain ⟨rfl, hfr183⟩ := hw182
      have hf_there25 : M181 there25 = some (101, .inl (G.2.1 0, 10000, .inl (fun _ => 0))) := (hfr183 _ _ _ (by decide)).mp hf_there25
      have hf_mrow26 : M181 mrow26 = some (102, .inl (G.2.1 0, 300, .inl (fun _ => 0))) := (hfr183 _ _ _ (by decide)).mp hf_mrow26
      have hf_found27 : M181 found27 = some (103, .inl (G.2.1 0, 10240, .inl (fun _ => 0))) := (hfr183 _ _ _ (by decide)).mp hf_found27
      have hf_fsz28 : M181 fsz28 = some (104, .inl (G.2.1 0, 41, .inl (fun _ => 0))) := (hfr183 _ _ _ (by decide)).mp hf_fsz28
      have hf_ends29 : M181 ends29 = some (105, .inl (G.2.1 0, 41, .inl (fun _ => 0))) := (hfr183 _ _ _ (by decide)).mp hf_ends29
      have hf_made30 : M181 made30 = some (106, .inl (G.2.1 0, 4100, .inl (fun _ => 0))) := (hfr183 _ _ _ (by decide)).mp hf_made30
      have hf_drops31 : M181 drops31 = some (107, .inl (G.2.1 0, 2048, .inl (fun _ => 0))) := (hfr183 _ _ _ (by decide)).mp hf_drops31
      have hf_q1 : M181 q1 = some (1, .inr (0, [.int (if 1 < (if 255 < z4 then 255 else z4) then (if 255 < z4 then 255 else z4) else 1), .int sc15, .int 0, .ref row9, .ref jobs11, .ref known12, .ref nowh13, .ref gone14, .int 0])) := (hfr183 _ _ _ (by decide)).mp hf_q1
      have hf_row9 : M181 row9 = some (2, .inr (1, [.ref nums10, .int 0])) := (hfr183 _ _ _ (by decide)).mp hf_row9
      have hf_nums10 : M181 nums10 = some (3, .inl (G.2.1 0, 256, .inl (fun _ => 0))) := (hfr183 _ _ _ (by decide)).mp hf_nums10
      have hf_jobs11 : M181 jobs11 = some (4, .inr (4, [.int 0, .ref (G.2.2.1 0), .int 0])) := (hfr183 _ _ _ (by decide)).mp hf_jobs11
      have hf_known12 : M181 known12 = some (5, .inr (4, [.int 0, .ref (G.2.2.1 0), .int 0])) := (hfr183 _ _ _ (by decide)).mp hf_known12
      have hf_nowh13 : M181 nowh13 = some (12, .inr (2, [.int 0, .int 0, .int 0, .int 0, .int 0])) := (hfr183 _ _ _ (by decide)).mp hf_nowh13
      have hf_gone14 : M181 gone14 = some (8, .inl (G.2.1 0, 512, .inl (fun _ => 0))) := (hfr183 _ _ _ (by decide)).mp hf_gone14
      have hf_q35 : M181 q35 = some (50, .inl (G.2.1 2, 1, .inr (.inl (fun _ => 0)))) := (hfr183 _ _ _ (by decide)).mp hf_q35
      refine lv_icmp_eq (tgt := 653) hx hb d_Law_law_648 (by decide) (fun c648 => ?_) (fun c648 => ?_)
      · refine lv_iinc (v := 2 + 4) (lv' := [(4, .int (2 + 4)), (3, .ref q35), (2, .ref q17), (1, .ref q1), (0, .ref b)]) hx hb d_Law_law_653 hl (k := 0) rfl rfl (by decide) rfl (fun ls hl => ?_)
        refine lv_goto (tgt := 43) hx hb d_Law_law_656 (by decide) ?_
        refine lv_iload hx hb d_Law_law_43 (lv_at hl 0 rfl) ?_
        refine lv_aload_n hx hb d_Law_law_45 rfl (lv_at hl 4 rfl) ?_
        refine va_slen hx hb hX hbl hbA hS d_Law_law_46 ?_
        refine lv_iconst (v := 4) hx hb d_Law_law_47 (by decide) ?_
        refine lv_isub hx hb d_Law_law_48 ?_
        refine lv_icmp_gt (tgt := 659) hx hb d_Law_law_49 (by decide) (fun c49 => ?_) (fun c49 => ?_)
        · refine lv_iconst (v := 1) hx hb d_Law_law_659 (by decide) ?_
          refine va_forget (fun q hq => by have h9 := hS.2.2 q hq; rw [← eG]; exact h9) ?_
          refine W.widen (k := 600002) (n := 7302198) (Nat.le_of_ble_eq_true rfl) (Nat.le_of_ble_eq_true rfl) ?_
          exact lw_ret hx hb hr hlocks d_Law_law_660
        · exact absurd (by decide) c49
      · exact absurd rfl c648
end
section
-- ===== YOUR PART ENDS =====
set_option maxHeartbeats 4000000 in
theorem lw_walk (l : Launch) (hl9 : l.stackTraces = false) (b : Addr) (xs : List Int32) : MetFree l x (headSpec (Jvm.Cond.code x code maxLocals ret :: tables_1) room_1) (lw_P b xs) (fun _ _ _ _ _ => True) lw_Q := by
  refine MetFree.of_bodyS (code := code) (maxLocals := maxLocals) (ret := ret) (by decide) ?_ ?_
  · intro args s m h hn
    obtain ⟨meth, c, h1, h2, h3, h4, h5, h6, -, -⟩ := Cond.code_spec hn (atoms_spec (ws := Jvm.Cond.code x code maxLocals ret :: tables_1) h _ List.mem_cons_self)
    exact ⟨meth, c, h1, h2, h3, h4, h5, h6⟩
  · intro p e s m args below meth c s₁ B hml0 hP _
    obtain ⟨rfl, hx, hbd, hgv⟩ := hP
    obtain ⟨scr, harrAt, hlist, hof, hsmall⟩ := hx
    obtain ⟨hcb, hkn, -, -⟩ := State.arrayAt?_spec harrAt
    have hown : s.vm.findClass R_law = some m.cls := findClass_of_methodNamed B.named
    have hts0 : ∀ c ∈ (Jvm.Cond.code x code maxLocals ret :: tables_1), c.before #[Value.ref b] s = true := atoms_spec (ws := Jvm.Cond.code x code maxLocals ret :: tables_1) B.pre
    have hts : ∀ w ∈ lw_tbl, w.before #[Value.ref b] s = true := k2_hts_sels lw_privs (fun w hw => hts0 w (List.mem_cons_of_mem _ hw)) lw_privs_ok
    have hml : c.maxLocals = 7 := B.maxLocals_eq (hts0 _ List.mem_cons_self)
    have X₀ : Stand p l e room_1 s m #[Value.ref b] below meth c s₁ [] 0 0 := Stand.of_body B
    have hh0 : s₁.heap = s.heap := by rw [B.state]; rfl
    have hsz : scr.slots.size = xs.length := by rw [← Array.length_toList, hlist, List.length_map]
    have hval : ∀ j : Nat, j < xs.length → scr.slots[j]? = some (.int (xs.getD j 0)) := fun j hj => by
      rw [← Array.getElem?_toList, hlist]
      simp [hj]
    have hbl : b < s.heap.size := (Array.getElem?_eq_some_iff.mp hcb).1
    have hX : va_X b xs.length (fun j => xs.getD j 0) s s.heap := ⟨scr, hcb, hof, hkn, hsz, hval⟩
    have K : W p l e room_1 s m #[Value.ref b] below meth c s₁.heap [] 0 0 (lw_Z below #[Value.ref b] s) (entryFrame m ([Value.ref b] : List Value).toArray 7) := by
      rw [hh0]
      exact whole_start l hl9 hbd ⟨B.exec, B.bytes, B.returns, hml, hown, hts, hX, hbl, B.notSynchronized, hgv⟩
    obtain ⟨t, a1, o, b1, b2, b3⟩ := K s₁ rfl X₀
    exact ⟨t, o, a1, b1, b2, b3⟩
theorem lw_pre_spec {args : Array Value} {s : State} (h : (Jvm.Cond.and given_1 narrow_1).before args s = true) (hr : rest_1_c.before args s = true) : ∃ (b : Addr) (xs : List Int32), lw_P b xs args s := by
  have hs := flat_of_before _ h
  have hq := flat_of_before _ hr
  have hc : (Cond.count 1).before args s = true := hs _ (by decide +kernel)
  have harr : (Cond.arrayOf (.arg 0) .int).before args s = true := hs _ (by decide +kernel)
  have hle : (Cond.le (.length (.arg 0)) (.int 6)).before args s = true := hs _ (by decide +kernel)
  have hlen : (Cond.isInt (.length (.arg 0))).before args s = true := hq _ (by decide +kernel)
  have hall : (Cond.all (.arg 0) (.isInt (.elem (.arg 0) (.index 0)))).before args s = true := hq _ (by decide +kernel)
  obtain ⟨b, xs, hb, hx⟩ := State.ints_of_pre rfl harr hlen hall
  have hsm : xs.length < 2 ^ 31 := hx.choose_spec.2.2.2
  have hev : (Term.length (.arg 0)).eval args s none [] s = some (.int xs.length.toInt32) := hx.length_eval hb
  have hv := Cond.le_ints hev (show (Term.int 6).eval args s none [] s = some (.int 6) from rfl)
  have hd : xs.length.toInt32 ≤ 6 := by
    simpa [Cond.before, Cond.holds, hv] using hle
  have hN : xs.length ≤ 6 := (Int32.ofNat_le_ofNat hsm (by decide)).mp (show Int32.ofNat xs.length ≤ Int32.ofNat 6 from hd)
  exact ⟨b, xs, Cond.one_arg hc (show args[0]? = some (.ref b) from hb), hx, hN, h⟩
theorem lw_comes (l : Launch) (hl9 : l.stackTraces = false) : Comes l x (Jvm.Cond.code x code maxLocals ret :: tables_1) room_1 (fun tb e args s => Calls_1 tb e args s ∧ rest_1 tb e args s ∧ Pre_1 tb e args s)
    (fun _ _ args s o t => lw_Q args s o t) := by
  intro p e ha hc hk s m args below hf hfit hheap happ hpre
  obtain ⟨b, xs, hP⟩ := lw_pre_spec hpre.2.2 hpre.2.1
  obtain ⟨k, o, h1, h2, h3, hQ⟩ := lw_walk l hl9 b xs p e ha hc hk s m args below hf ((Spec.applies_iff_loose hf).mp happ).1 hP trivial
  exact ⟨k, o, h1, h2, h3, hQ⟩
theorem lw_frame {s t : State} {o : Outcome} {args : Array Value} (h : Framed s o t [] 600002 7302198) :
    Framed s o t (fieldLocs frame_1_writes args s ++ arrayLocs frame_1_arrays args s ++ staticLocs frame_1_statics s) 600002 7302198 := h
theorem lw_limb (L : Cond) (hL : ∀ (args : Array Value) (s t : State), L.after args s (.returned (some (.int 1))) t = true) :
    ArmFor flags0 classFile x code maxLocals ret World_1 tables_1 room_1 Calls_1 rest_1 Pre_1
      (fun tb e a s o t => postC L tb e a s o t ∧ Framed s o t (fieldLocs frame_1_writes a s ++ arrayLocs frame_1_arrays a s ++ staticLocs frame_1_statics s) 600002 7302198) := by
  intro l hfl _ _ p e ha hc hk s m args below hf hfit hheap happ hpre
  have hl9 : l.stackTraces = false := by unfold Launch.stackTraces; rw [hfl]; decide +kernel
  obtain ⟨k, o, h1, h2, h3, rfl, hF⟩ := lw_comes l hl9 p e ha hc hk s m args below hf hfit hheap happ hpre
  exact ⟨k, _, h1, h2, h3, hL args s _, lw_frame hF⟩
theorem i_vc : Claimed_1_1 ∧ Claimed_1_2 := ⟨lw_limb limb_1_1 (fun args s t => by simp [limb_1_1, Cond.after, Cond.holds, Cond.value]), lw_limb limb_1_2 (fun args s t => Cond.after_iff.mpr (by
  first | (rw [show limb_1_2 = Cond.eq .result (.int 1) from rfl, Cond.eq_ints (x := 1) (y := 1) rfl rfl]; simp; done) | (simp [limb_1_2, Cond.value, Term.eval]; done)))⟩
end
