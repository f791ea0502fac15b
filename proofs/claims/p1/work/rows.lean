section
-- ===== PART A: goes FIRST, ahead of the names: the tables' words, and 'selects' of the private methods out of them =====
/-- a private method of a class that the tables say can be made, by its rows of tables_1 -/
def lw_okq (q : MethodName × Nat) : Prop := (q.1.cls ≠ "java/lang/invoke/MethodHandle" ∧ q.1.cls ≠ "java/lang/invoke/VarHandle") ∧ Cond.instantiable q.1.cls q.2 ∈ tables_1 ∧ Cond.privateMethod q.1 ∈ tables_1 ∧ Cond.instanceMethod q.1 ∈ tables_1
theorem lw_p0 : lw_okq (⟨"Generations", "find", "(I)LGenerations$Generation;"⟩, 9) := ⟨⟨by decide +kernel, by decide +kernel⟩, List.mem_of_getElem? (i := 20) (by decide +kernel), List.mem_of_getElem? (i := 137) (by decide +kernel), List.mem_of_getElem? (i := 138) (by decide +kernel)⟩
theorem lw_p1 : lw_okq (⟨"Generations$Generation", "isDeferred", "()Z"⟩, 5) := ⟨⟨by decide +kernel, by decide +kernel⟩, List.mem_of_getElem? (i := 69) (by decide +kernel), List.mem_of_getElem? (i := 159) (by decide +kernel), List.mem_of_getElem? (i := 160) (by decide +kernel)⟩
theorem lw_p2 : lw_okq (⟨"Generations", "placeFor", "(I)LGenerations$Generation;"⟩, 9) := ⟨⟨by decide +kernel, by decide +kernel⟩, List.mem_of_getElem? (i := 20) (by decide +kernel), List.mem_of_getElem? (i := 163) (by decide +kernel), List.mem_of_getElem? (i := 164) (by decide +kernel)⟩
theorem lw_p3 : lw_okq (⟨"java/util/ArrayList", "add", "(Ljava/lang/Object;[Ljava/lang/Object;I)V"⟩, 3) := ⟨⟨by decide +kernel, by decide +kernel⟩, List.mem_of_getElem? (i := 43) (by decide +kernel), List.mem_of_getElem? (i := 171) (by decide +kernel), List.mem_of_getElem? (i := 172) (by decide +kernel)⟩
theorem lw_p4 : lw_okq (⟨"java/util/ArrayList", "grow", "()[Ljava/lang/Object;"⟩, 3) := ⟨⟨by decide +kernel, by decide +kernel⟩, List.mem_of_getElem? (i := 43) (by decide +kernel), List.mem_of_getElem? (i := 175) (by decide +kernel), List.mem_of_getElem? (i := 176) (by decide +kernel)⟩
theorem lw_p5 : lw_okq (⟨"java/util/ArrayList", "grow", "(I)[Ljava/lang/Object;"⟩, 3) := ⟨⟨by decide +kernel, by decide +kernel⟩, List.mem_of_getElem? (i := 43) (by decide +kernel), List.mem_of_getElem? (i := 179) (by decide +kernel), List.mem_of_getElem? (i := 180) (by decide +kernel)⟩
theorem lw_p6 : lw_okq (⟨"Generations$Generation", "beginAnew", "(I)V"⟩, 5) := ⟨⟨by decide +kernel, by decide +kernel⟩, List.mem_of_getElem? (i := 69) (by decide +kernel), List.mem_of_getElem? (i := 217) (by decide +kernel), List.mem_of_getElem? (i := 218) (by decide +kernel)⟩
theorem lw_p7 : lw_okq (⟨"Generations", "bringIntoRow", "(LGenerations$Generation;)V"⟩, 9) := ⟨⟨by decide +kernel, by decide +kernel⟩, List.mem_of_getElem? (i := 20) (by decide +kernel), List.mem_of_getElem? (i := 221) (by decide +kernel), List.mem_of_getElem? (i := 222) (by decide +kernel)⟩
theorem lw_p8 : lw_okq (⟨"Generations$Row", "put", "(I)V"⟩, 2) := ⟨⟨by decide +kernel, by decide +kernel⟩, List.mem_of_getElem? (i := 28) (by decide +kernel), List.mem_of_getElem? (i := 225) (by decide +kernel), List.mem_of_getElem? (i := 226) (by decide +kernel)⟩
theorem lw_p9 : lw_okq (⟨"Generations", "holdToLimit", "()V"⟩, 9) := ⟨⟨by decide +kernel, by decide +kernel⟩, List.mem_of_getElem? (i := 20) (by decide +kernel), List.mem_of_getElem? (i := 235) (by decide +kernel), List.mem_of_getElem? (i := 236) (by decide +kernel)⟩
theorem lw_p10 : lw_okq (⟨"Generations$Row", "at", "(I)I"⟩, 2) := ⟨⟨by decide +kernel, by decide +kernel⟩, List.mem_of_getElem? (i := 28) (by decide +kernel), List.mem_of_getElem? (i := 239) (by decide +kernel), List.mem_of_getElem? (i := 240) (by decide +kernel)⟩
theorem lw_p11 : lw_okq (⟨"Generations", "letGo", "(I)V"⟩, 9) := ⟨⟨by decide +kernel, by decide +kernel⟩, List.mem_of_getElem? (i := 20) (by decide +kernel), List.mem_of_getElem? (i := 243) (by decide +kernel), List.mem_of_getElem? (i := 244) (by decide +kernel)⟩
theorem lw_p12 : lw_okq (⟨"Generations$Row", "removeOldest", "(I)V"⟩, 2) := ⟨⟨by decide +kernel, by decide +kernel⟩, List.mem_of_getElem? (i := 28) (by decide +kernel), List.mem_of_getElem? (i := 247) (by decide +kernel), List.mem_of_getElem? (i := 248) (by decide +kernel)⟩
theorem lw_p13 : lw_okq (⟨"Generations$Row", "copy", "()[I"⟩, 2) := ⟨⟨by decide +kernel, by decide +kernel⟩, List.mem_of_getElem? (i := 28) (by decide +kernel), List.mem_of_getElem? (i := 258) (by decide +kernel), List.mem_of_getElem? (i := 259) (by decide +kernel)⟩
theorem lw_p14 : lw_okq (⟨"Generations", "howManyAre", "(I)I"⟩, 9) := ⟨⟨by decide +kernel, by decide +kernel⟩, List.mem_of_getElem? (i := 20) (by decide +kernel), List.mem_of_getElem? (i := 311) (by decide +kernel), List.mem_of_getElem? (i := 312) (by decide +kernel)⟩
theorem lw_p15 : lw_okq (⟨"Generations", "jobThatMakes", "()I"⟩, 9) := ⟨⟨by decide +kernel, by decide +kernel⟩, List.mem_of_getElem? (i := 20) (by decide +kernel), List.mem_of_getElem? (i := 315) (by decide +kernel), List.mem_of_getElem? (i := 316) (by decide +kernel)⟩
def lw_privs_1 : List (MethodName × Nat) := [(⟨"Generations", "find", "(I)LGenerations$Generation;"⟩, 9), (⟨"Generations$Generation", "isDeferred", "()Z"⟩, 5), (⟨"Generations", "placeFor", "(I)LGenerations$Generation;"⟩, 9), (⟨"java/util/ArrayList", "add", "(Ljava/lang/Object;[Ljava/lang/Object;I)V"⟩, 3), (⟨"java/util/ArrayList", "grow", "()[Ljava/lang/Object;"⟩, 3), (⟨"java/util/ArrayList", "grow", "(I)[Ljava/lang/Object;"⟩, 3), (⟨"Generations$Generation", "beginAnew", "(I)V"⟩, 5), (⟨"Generations", "bringIntoRow", "(LGenerations$Generation;)V"⟩, 9), (⟨"Generations$Row", "put", "(I)V"⟩, 2), (⟨"Generations", "holdToLimit", "()V"⟩, 9), (⟨"Generations$Row", "at", "(I)I"⟩, 2), (⟨"Generations", "letGo", "(I)V"⟩, 9), (⟨"Generations$Row", "removeOldest", "(I)V"⟩, 2), (⟨"Generations$Row", "copy", "()[I"⟩, 2), (⟨"Generations", "howManyAre", "(I)I"⟩, 9), (⟨"Generations", "jobThatMakes", "()I"⟩, 9)]
theorem lw_r1 : ∀ q ∈ lw_privs_1, lw_okq q := List.forall_mem_cons.mpr ⟨lw_p0, List.forall_mem_cons.mpr ⟨lw_p1, List.forall_mem_cons.mpr ⟨lw_p2, List.forall_mem_cons.mpr ⟨lw_p3, List.forall_mem_cons.mpr ⟨lw_p4, List.forall_mem_cons.mpr ⟨lw_p5, List.forall_mem_cons.mpr ⟨lw_p6, List.forall_mem_cons.mpr ⟨lw_p7, List.forall_mem_cons.mpr ⟨lw_p8, List.forall_mem_cons.mpr ⟨lw_p9, List.forall_mem_cons.mpr ⟨lw_p10, List.forall_mem_cons.mpr ⟨lw_p11, List.forall_mem_cons.mpr ⟨lw_p12, List.forall_mem_cons.mpr ⟨lw_p13, List.forall_mem_cons.mpr ⟨lw_p14, List.forall_mem_cons.mpr ⟨lw_p15, fun _ h => absurd h List.not_mem_nil⟩⟩⟩⟩⟩⟩⟩⟩⟩⟩⟩⟩⟩⟩⟩⟩
theorem lw_p16 : lw_okq (⟨"Generations", "jobCalled", "(I)LGenerations$Job;"⟩, 9) := ⟨⟨by decide +kernel, by decide +kernel⟩, List.mem_of_getElem? (i := 20) (by decide +kernel), List.mem_of_getElem? (i := 330) (by decide +kernel), List.mem_of_getElem? (i := 331) (by decide +kernel)⟩
theorem lw_p17 : lw_okq (⟨"java/lang/Throwable", "fillInStackTrace", "(I)Ljava/lang/Throwable;"⟩, 6) := ⟨⟨by decide +kernel, by decide +kernel⟩, List.mem_of_getElem? (i := 370) (by decide +kernel), List.mem_of_getElem? (i := 368) (by decide +kernel), List.mem_of_getElem? (i := 369) (by decide +kernel)⟩
theorem lw_p18 : lw_okq (⟨"Generations$Job", "plus", "(I)I"⟩, 2) := ⟨⟨by decide +kernel, by decide +kernel⟩, List.mem_of_getElem? (i := 256) (by decide +kernel), List.mem_of_getElem? (i := 401) (by decide +kernel), List.mem_of_getElem? (i := 402) (by decide +kernel)⟩
theorem lw_p19 : lw_okq (⟨"Generations$Job", "base", "()I"⟩, 2) := ⟨⟨by decide +kernel, by decide +kernel⟩, List.mem_of_getElem? (i := 256) (by decide +kernel), List.mem_of_getElem? (i := 405) (by decide +kernel), List.mem_of_getElem? (i := 406) (by decide +kernel)⟩
theorem lw_p20 : lw_okq (⟨"Generations$Generation", "isNewOneOf", "(I)Z"⟩, 5) := ⟨⟨by decide +kernel, by decide +kernel⟩, List.mem_of_getElem? (i := 69) (by decide +kernel), List.mem_of_getElem? (i := 410) (by decide +kernel), List.mem_of_getElem? (i := 411) (by decide +kernel)⟩
theorem lw_p21 : lw_okq (⟨"Generations$Job", "countedFromNewest", "(I)I"⟩, 2) := ⟨⟨by decide +kernel, by decide +kernel⟩, List.mem_of_getElem? (i := 256) (by decide +kernel), List.mem_of_getElem? (i := 415) (by decide +kernel), List.mem_of_getElem? (i := 416) (by decide +kernel)⟩
theorem lw_p22 : lw_okq (⟨"Generations$Generation", "isInTheWayOf", "(I)Z"⟩, 5) := ⟨⟨by decide +kernel, by decide +kernel⟩, List.mem_of_getElem? (i := 69) (by decide +kernel), List.mem_of_getElem? (i := 427) (by decide +kernel), List.mem_of_getElem? (i := 428) (by decide +kernel)⟩
theorem lw_p23 : lw_okq (⟨"Generations", "anotherMakes", "(I)Z"⟩, 9) := ⟨⟨by decide +kernel, by decide +kernel⟩, List.mem_of_getElem? (i := 20) (by decide +kernel), List.mem_of_getElem? (i := 431) (by decide +kernel), List.mem_of_getElem? (i := 432) (by decide +kernel)⟩
theorem lw_p24 : lw_okq (⟨"Generations$Generation", "failedFor", "(II)Z"⟩, 5) := ⟨⟨by decide +kernel, by decide +kernel⟩, List.mem_of_getElem? (i := 69) (by decide +kernel), List.mem_of_getElem? (i := 449) (by decide +kernel), List.mem_of_getElem? (i := 450) (by decide +kernel)⟩
theorem lw_p25 : lw_okq (⟨"GenerationsModel", "what", "(I)I"⟩, 15) := ⟨⟨by decide +kernel, by decide +kernel⟩, List.mem_of_getElem? (i := 453) (by decide +kernel), List.mem_of_getElem? (i := 516) (by decide +kernel), List.mem_of_getElem? (i := 517) (by decide +kernel)⟩
theorem lw_p26 : lw_okq (⟨"GenerationsModel", "enter", "(I)V"⟩, 15) := ⟨⟨by decide +kernel, by decide +kernel⟩, List.mem_of_getElem? (i := 453) (by decide +kernel), List.mem_of_getElem? (i := 520) (by decide +kernel), List.mem_of_getElem? (i := 521) (by decide +kernel)⟩
theorem lw_p27 : lw_okq (⟨"GenerationsModel", "become", "(II)V"⟩, 15) := ⟨⟨by decide +kernel, by decide +kernel⟩, List.mem_of_getElem? (i := 453) (by decide +kernel), List.mem_of_getElem? (i := 527) (by decide +kernel), List.mem_of_getElem? (i := 528) (by decide +kernel)⟩
theorem lw_p28 : lw_okq (⟨"GenerationsModel", "owner", "(I)I"⟩, 15) := ⟨⟨by decide +kernel, by decide +kernel⟩, List.mem_of_getElem? (i := 453) (by decide +kernel), List.mem_of_getElem? (i := 531) (by decide +kernel), List.mem_of_getElem? (i := 532) (by decide +kernel)⟩
theorem lw_p29 : lw_okq (⟨"GenerationsModel", "versionOf", "(I)I"⟩, 15) := ⟨⟨by decide +kernel, by decide +kernel⟩, List.mem_of_getElem? (i := 453) (by decide +kernel), List.mem_of_getElem? (i := 535) (by decide +kernel), List.mem_of_getElem? (i := 536) (by decide +kernel)⟩
theorem lw_p30 : lw_okq (⟨"GenerationsModel", "be", "(IIII)V"⟩, 15) := ⟨⟨by decide +kernel, by decide +kernel⟩, List.mem_of_getElem? (i := 453) (by decide +kernel), List.mem_of_getElem? (i := 539) (by decide +kernel), List.mem_of_getElem? (i := 540) (by decide +kernel)⟩
theorem lw_p31 : lw_okq (⟨"GenerationsModel", "isJob", "(I)Z"⟩, 15) := ⟨⟨by decide +kernel, by decide +kernel⟩, List.mem_of_getElem? (i := 453) (by decide +kernel), List.mem_of_getElem? (i := 551) (by decide +kernel), List.mem_of_getElem? (i := 552) (by decide +kernel)⟩
def lw_privs_2 : List (MethodName × Nat) := [(⟨"Generations", "jobCalled", "(I)LGenerations$Job;"⟩, 9), (⟨"java/lang/Throwable", "fillInStackTrace", "(I)Ljava/lang/Throwable;"⟩, 6), (⟨"Generations$Job", "plus", "(I)I"⟩, 2), (⟨"Generations$Job", "base", "()I"⟩, 2), (⟨"Generations$Generation", "isNewOneOf", "(I)Z"⟩, 5), (⟨"Generations$Job", "countedFromNewest", "(I)I"⟩, 2), (⟨"Generations$Generation", "isInTheWayOf", "(I)Z"⟩, 5), (⟨"Generations", "anotherMakes", "(I)Z"⟩, 9), (⟨"Generations$Generation", "failedFor", "(II)Z"⟩, 5), (⟨"GenerationsModel", "what", "(I)I"⟩, 15), (⟨"GenerationsModel", "enter", "(I)V"⟩, 15), (⟨"GenerationsModel", "become", "(II)V"⟩, 15), (⟨"GenerationsModel", "owner", "(I)I"⟩, 15), (⟨"GenerationsModel", "versionOf", "(I)I"⟩, 15), (⟨"GenerationsModel", "be", "(IIII)V"⟩, 15), (⟨"GenerationsModel", "isJob", "(I)Z"⟩, 15)]
theorem lw_r2 : ∀ q ∈ lw_privs_2, lw_okq q := List.forall_mem_cons.mpr ⟨lw_p16, List.forall_mem_cons.mpr ⟨lw_p17, List.forall_mem_cons.mpr ⟨lw_p18, List.forall_mem_cons.mpr ⟨lw_p19, List.forall_mem_cons.mpr ⟨lw_p20, List.forall_mem_cons.mpr ⟨lw_p21, List.forall_mem_cons.mpr ⟨lw_p22, List.forall_mem_cons.mpr ⟨lw_p23, List.forall_mem_cons.mpr ⟨lw_p24, List.forall_mem_cons.mpr ⟨lw_p25, List.forall_mem_cons.mpr ⟨lw_p26, List.forall_mem_cons.mpr ⟨lw_p27, List.forall_mem_cons.mpr ⟨lw_p28, List.forall_mem_cons.mpr ⟨lw_p29, List.forall_mem_cons.mpr ⟨lw_p30, List.forall_mem_cons.mpr ⟨lw_p31, fun _ h => absurd h List.not_mem_nil⟩⟩⟩⟩⟩⟩⟩⟩⟩⟩⟩⟩⟩⟩⟩⟩
theorem lw_p32 : lw_okq (⟨"GenerationsModel", "fails", "(Z)Z"⟩, 15) := ⟨⟨by decide +kernel, by decide +kernel⟩, List.mem_of_getElem? (i := 453) (by decide +kernel), List.mem_of_getElem? (i := 555) (by decide +kernel), List.mem_of_getElem? (i := 556) (by decide +kernel)⟩
theorem lw_p33 : lw_okq (⟨"GenerationsModel", "numberOf", "(II)I"⟩, 15) := ⟨⟨by decide +kernel, by decide +kernel⟩, List.mem_of_getElem? (i := 453) (by decide +kernel), List.mem_of_getElem? (i := 559) (by decide +kernel), List.mem_of_getElem? (i := 560) (by decide +kernel)⟩
theorem lw_p34 : lw_okq (⟨"GenerationsModel", "isOwn", "(II)Z"⟩, 15) := ⟨⟨by decide +kernel, by decide +kernel⟩, List.mem_of_getElem? (i := 453) (by decide +kernel), List.mem_of_getElem? (i := 563) (by decide +kernel), List.mem_of_getElem? (i := 564) (by decide +kernel)⟩
theorem lw_p35 : lw_okq (⟨"GenerationsModel", "settle", "()V"⟩, 15) := ⟨⟨by decide +kernel, by decide +kernel⟩, List.mem_of_getElem? (i := 453) (by decide +kernel), List.mem_of_getElem? (i := 575) (by decide +kernel), List.mem_of_getElem? (i := 576) (by decide +kernel)⟩
def lw_privs_3 : List (MethodName × Nat) := [(⟨"GenerationsModel", "fails", "(Z)Z"⟩, 15), (⟨"GenerationsModel", "numberOf", "(II)I"⟩, 15), (⟨"GenerationsModel", "isOwn", "(II)Z"⟩, 15), (⟨"GenerationsModel", "settle", "()V"⟩, 15)]
theorem lw_r3 : ∀ q ∈ lw_privs_3, lw_okq q := List.forall_mem_cons.mpr ⟨lw_p32, List.forall_mem_cons.mpr ⟨lw_p33, List.forall_mem_cons.mpr ⟨lw_p34, List.forall_mem_cons.mpr ⟨lw_p35, fun _ h => absurd h List.not_mem_nil⟩⟩⟩⟩
def lw_privs : List (MethodName × Nat) := lw_privs_1 ++ (lw_privs_2 ++ (lw_privs_3))
def lw_tbl : List Cond := k2_sels lw_privs ++ tables_1
theorem lw_privs_ok : ∀ q ∈ lw_privs, lw_okq q := by
  show ∀ q ∈ lw_privs_1 ++ (lw_privs_2 ++ (lw_privs_3)), lw_okq q
  exact List.forall_mem_append.mpr ⟨lw_r1, List.forall_mem_append.mpr ⟨lw_r2, lw_r3⟩⟩
end
section
/-! WORLDS AS MAPS. A world is a map from addresses to (role, entry); the heap holds it (gw_P). Roles are ghost numbers: cells of different roles are apart. Every contract takes the whole map and hands back the whole map: no cutting out, no joining. -/
abbrev gw_M : Type := Nat → Option (Nat × va_E)
def gw_up (M : gw_M) (a r : Nat) (e : va_E) : gw_M := fun j => if j = a then some (r, e) else M j
theorem gw_up_self (M : gw_M) (a r : Nat) (e : va_E) : gw_up M a r e a = some (r, e) := by simp [gw_up]
theorem gw_up_ne {M : gw_M} {a r b : Nat} {e : va_E} (h : b ≠ a) : gw_up M a r e b = M b := by simp [gw_up, h]
theorem gw_role {M : gw_M} {a b ra rb : Nat} {ea eb : va_E} (ha : M a = some (ra, ea)) (hb : M b = some (rb, eb)) (h : ra ≠ rb) : b ≠ a := by
  intro e
  subst e
  rw [ha] at hb
  exact h (congrArg Prod.fst (Option.some.inj hb))
/-- a cell of another role stays -/
theorem gw_keep {M : gw_M} {a b ra rb r : Nat} {ea eb e : va_E} (hb : M b = some (rb, eb)) (ha : M a = some (ra, ea)) (h : ra ≠ rb) : gw_up M a r e b = some (rb, eb) := by
  rw [gw_up_ne (gw_role ha hb h)]
  exact hb
/-- a cell that was there stays when a new one comes -/
theorem gw_keepN {M : gw_M} {a b rb r : Nat} {eb e : va_E} (hb : M b = some (rb, eb)) (ha : M a = none) : gw_up M a r e b = some (rb, eb) := by
  rw [gw_up_ne (fun q => by rw [q, ha] at hb; cases hb)]
  exact hb
theorem gw_newNe {M : gw_M} {a b rb : Nat} {eb : va_E} (hb : M b = some (rb, eb)) (ha : M a = none) : b ≠ a := fun q => by rw [q, ha] at hb; cases hb
def gw_P (D : va_G) (cl : List vw_C) (B0 : Nat) (M : gw_M) (H : Heap) : Prop := ∃ ws : va_W, va_P D cl ws H ∧ va_D (fun q => B0 ≤ q) ws ∧ ∀ (a r : Nat) (e : va_E), M a = some (r, e) → (a, e) ∈ ws
theorem gw_P.at {D : va_G} {cl : List vw_C} {B0 : Nat} {M : gw_M} {H : Heap} (h : gw_P D cl B0 M H) {a r : Nat} {e : va_E} (ha : M a = some (r, e)) : va_at D cl (a, e) H ∧ B0 ≤ a := by
  obtain ⟨ws, hP, hD, hM⟩ := h
  obtain ⟨k, hk⟩ := List.getElem?_of_mem (hM _ _ _ ha)
  exact ⟨hP k _ hk, hD.2 k _ hk⟩
theorem gw_P.lt {D : va_G} {cl : List vw_C} {B0 : Nat} {M : gw_M} {H : Heap} (h : gw_P D cl B0 M H) {a r : Nat} {e : va_E} (ha : M a = some (r, e)) : a < H.size := (h.at ha).1.lt
theorem gw_P.kept {D : va_G} {cl : List vw_C} {B0 : Nat} {M : gw_M} {H H1 : Heap} (h : gw_P D cl B0 M H) (hq : ∀ q : Nat, q < H.size → H1[q]? = H[q]?) : gw_P D cl B0 M H1 := by
  obtain ⟨ws, hP, hD, hM⟩ := h
  exact ⟨ws, hP.kept (fun k q hk => hq _ (hP k q hk).lt), hD, hM⟩
theorem gw_set {ws : va_W} {M : gw_M} {k a r : Nat} {e0 e : va_E} (hk : ws[k]? = some (a, e0)) (hM : ∀ (a r : Nat) (e : va_E), M a = some (r, e) → (a, e) ∈ ws) : ∀ (b r' : Nat) (e' : va_E), gw_up M a r e b = some (r', e') → (b, e') ∈ ws.set k (a, e) := by
  intro b r' e' h
  have hl := (List.getElem?_eq_some_iff.mp hk).1
  by_cases hb : b = a
  · subst hb
    rw [gw_up_self] at h
    have h2 : e = e' := congrArg Prod.snd (Option.some.inj h)
    subst h2
    exact List.mem_of_getElem? (List.getElem?_set_self hl)
  · rw [gw_up_ne hb] at h
    obtain ⟨j, hj⟩ := List.getElem?_of_mem (hM _ _ _ h)
    have hjk : j ≠ k := by
      intro q
      subst q
      rw [hk] at hj
      exact hb (congrArg Prod.fst (Option.some.inj hj)).symm
    exact List.mem_of_getElem? (i := j) (by rw [List.getElem?_set_ne (Ne.symm hjk)]; exact hj)
theorem gw_push {ws : va_W} {M : gw_M} {a r : Nat} {e : va_E} (hM : ∀ (a r : Nat) (e : va_E), M a = some (r, e) → (a, e) ∈ ws) : ∀ (b r' : Nat) (e' : va_E), gw_up M a r e b = some (r', e') → (b, e') ∈ ws ++ [(a, e)] := by
  intro b r' e' h
  by_cases hb : b = a
  · subst hb
    rw [gw_up_self] at h
    have h2 : e = e' := congrArg Prod.snd (Option.some.inj h)
    subst h2
    exact List.mem_append_right _ List.mem_cons_self
  · rw [gw_up_ne hb] at h
    exact List.mem_append_left _ (hM _ _ _ h)
theorem gw_fresh {ws : va_W} {M : gw_M} {A : Nat → Prop} {a : Nat} {e : va_E} (hD : va_D A (ws ++ [(a, e)])) (hM : ∀ (a r : Nat) (e : va_E), M a = some (r, e) → (a, e) ∈ ws) : M a = none := by
  cases h : M a with
  | none => rfl
  | some x =>
    obtain ⟨r, e'⟩ := x
    obtain ⟨j, hj⟩ := List.getElem?_of_mem (hM _ _ _ h)
    have hl := (List.getElem?_eq_some_iff.mp hj).1
    have h1 : (ws ++ [(a, e)])[j]? = some (a, e') := by rw [List.getElem?_append_left hl]; exact hj
    have h2 : (ws ++ [(a, e)])[ws.length]? = some (a, e) := by rw [List.getElem?_append_right (Nat.le_refl _), Nat.sub_self]; rfl
    have := hD.1 _ _ _ _ h1 h2 rfl
    omega
section GWR
variable {p : Program} {l : Launch} {e : Env} {R : Room} {s : State} {m : MethodId} {args : Array Value} {below : List Frame} {meth : Method} {c : Code} {H : Heap} {locs : List Loc} {cells slots : Nat} {Q : State → Prop}
variable {cc : ByteArray} {pc : Nat} {ls : Array Slot} {rest : List Value} {D : va_G} {cl : List vw_C} {B0 a r : Nat} {tys : List (ClassId × FieldType)} {M : gw_M} {H0 : Heap}
theorem gw_get (hexec : p.tables.exec = Jvm.exec) (hb : c.code = cc) {own ref C : String} {T : u_T} {N ci index : Nat} {Ts : List Cond} (hts : ∀ w ∈ Ts, w.before args s = true) (hin : ∀ w ∈ u_ws C T N, w ∈ Ts) (hown : s.vm.findClass own = some m.cls) (hK : va_K D cl tys s) (hW : gw_P D cl B0 M H) {fs : List Value} (he : M a = some (r, .inr (ci, fs))) (hc : cl[ci]? = some (C, T, N)) (k : Nat) (hk : k < N) (hlink : (Cond.fieldLink own index ref (T k).2.1 (T k).2.2.1).before args s = true) (hsame : ∀ x, s.fieldFound? (T k).1 (T k).2.1 (T k).2.2.1 = some x → s.fieldFound? ref (T k).2.1 (T k).2.2.1 = some x) {v : Value} (hv : fs[k]? = some v) (hdg : decode cc pc = .ok (.getfield index, 3))
    (kk : W p l e R s m args below meth c H locs cells slots Q (F0 m (pc + 3) ls (v :: rest))) : W p l e R s m args below meth c H locs cells slots Q (F0 m pc ls (.ref a :: rest)) := by
  obtain ⟨ws, hP, hD, hM⟩ := hW
  obtain ⟨q0, hq⟩ := List.getElem?_of_mem (hM _ _ _ he)
  exact va_get hexec hb hts hin hown hK hP q0 hq hc k hk hlink hsame hv hdg kk
theorem gw_getN (hexec : p.tables.exec = Jvm.exec) (hb : c.code = cc) {own ref C host : String} {T : u_T} {N ci index : Nat} {Ts : List Cond} (hts : ∀ w ∈ Ts, w.before args s = true) (hin : ∀ w ∈ u_ws C T N, w ∈ Ts) (hown : s.vm.findClass own = some m.cls) (hK : va_K D cl tys s) (hW : gw_P D cl B0 M H) {fs : List Value} (he : M a = some (r, .inr (ci, fs))) (hc : cl[ci]? = some (C, T, N)) (k : Nat) (hk : k < N) (hlink : (Cond.fieldLinkNest own index ref (T k).2.1 (T k).2.2.1 host).before args s = true) (hsame : ∀ x, s.fieldFound? (T k).1 (T k).2.1 (T k).2.2.1 = some x → s.fieldFound? ref (T k).2.1 (T k).2.2.1 = some x) {v : Value} (hv : fs[k]? = some v) (hdg : decode cc pc = .ok (.getfield index, 3))
    (kk : W p l e R s m args below meth c H locs cells slots Q (F0 m (pc + 3) ls (v :: rest))) : W p l e R s m args below meth c H locs cells slots Q (F0 m pc ls (.ref a :: rest)) := by
  obtain ⟨ws, hP, hD, hM⟩ := hW
  obtain ⟨q0, hq⟩ := List.getElem?_of_mem (hM _ _ _ he)
  exact va_getN hexec hb hts hin hown hK hP q0 hq hc k hk hlink hsame hv hdg kk
theorem gw_put (hexec : p.tables.exec = Jvm.exec) (hb : c.code = cc) {own ref C : String} {T : u_T} {N ci index : Nat} {Ts : List Cond} (hts : ∀ w ∈ Ts, w.before args s = true) (hin : ∀ w ∈ u_ws C T N, w ∈ Ts) (ty0 : Nat → FieldType) (hty : ∀ k, k < N → parseFieldDescriptor (T k).2.2.1 = some (ty0 k)) (hnm : ∀ a, a < N → ∀ b, b < N → a ≠ b → (T a).2.1 ≠ (T b).2.1) (hown : s.vm.findClass own = some m.cls) (hK : va_K D cl tys s) (hW : gw_P D cl B0 M H) (hS : va_S (fun q => B0 ≤ q) H0 H locs) {fs : List Value} (he : M a = some (r, .inr (ci, fs))) (hc : cl[ci]? = some (C, T, N)) (k : Nat) (hk : k < N) (hlink : (Cond.fieldLink own index ref (T k).2.1 (T k).2.2.1).before args s = true) (hsame : ∀ x, s.fieldFound? (T k).1 (T k).2.1 (T k).2.2.1 = some x → s.fieldFound? ref (T k).2.1 (T k).2.2.1 = some x) (hfin : (T k).2.2.2 = false) {ty : FieldType} {v : Value} (hd : parseFieldDescriptor (T k).2.2.1 = some ty) (hn : narrow ty v = v) (hfit : fits ty v = true) (hl : k < fs.length) (hdg : decode cc pc = .ok (.putfield index, 3))
    (kk : ∀ (H1 : Heap) (locs1 : List Loc), gw_P D cl B0 (gw_up M a r (.inr (ci, fs.set k v))) H1 → va_S (fun q => B0 ≤ q) H0 H1 locs1 → W p l e R s m args below meth c H1 locs1 cells slots Q (F0 m (pc + 3) ls rest)) : W p l e R s m args below meth c H locs cells slots Q (F0 m pc ls (v :: .ref a :: rest)) := by
  obtain ⟨ws, hP, hD, hM⟩ := hW
  obtain ⟨q0, hq⟩ := List.getElem?_of_mem (hM _ _ _ he)
  exact va_put hexec hb hts hin ty0 hty hnm hown hK hP hD hS q0 hq hc k hk hlink hsame hfin hd hn hfit hl hdg (fun H1 locs1 hP1 hD1 hS1 => kk H1 locs1 ⟨_, hP1, hD1, gw_set hq hM⟩ hS1)
theorem gw_putN (hexec : p.tables.exec = Jvm.exec) (hb : c.code = cc) {own ref C host : String} {T : u_T} {N ci index : Nat} {Ts : List Cond} (hts : ∀ w ∈ Ts, w.before args s = true) (hin : ∀ w ∈ u_ws C T N, w ∈ Ts) (ty0 : Nat → FieldType) (hty : ∀ k, k < N → parseFieldDescriptor (T k).2.2.1 = some (ty0 k)) (hnm : ∀ a, a < N → ∀ b, b < N → a ≠ b → (T a).2.1 ≠ (T b).2.1) (hown : s.vm.findClass own = some m.cls) (hK : va_K D cl tys s) (hW : gw_P D cl B0 M H) (hS : va_S (fun q => B0 ≤ q) H0 H locs) {fs : List Value} (he : M a = some (r, .inr (ci, fs))) (hc : cl[ci]? = some (C, T, N)) (k : Nat) (hk : k < N) (hlink : (Cond.fieldLinkNest own index ref (T k).2.1 (T k).2.2.1 host).before args s = true) (hsame : ∀ x, s.fieldFound? (T k).1 (T k).2.1 (T k).2.2.1 = some x → s.fieldFound? ref (T k).2.1 (T k).2.2.1 = some x) (hfin : (T k).2.2.2 = false) {ty : FieldType} {v : Value} (hd : parseFieldDescriptor (T k).2.2.1 = some ty) (hn : narrow ty v = v) (hfit : fits ty v = true) (hl : k < fs.length) (hdg : decode cc pc = .ok (.putfield index, 3))
    (kk : ∀ (H1 : Heap) (locs1 : List Loc), gw_P D cl B0 (gw_up M a r (.inr (ci, fs.set k v))) H1 → va_S (fun q => B0 ≤ q) H0 H1 locs1 → W p l e R s m args below meth c H1 locs1 cells slots Q (F0 m (pc + 3) ls rest)) : W p l e R s m args below meth c H locs cells slots Q (F0 m pc ls (v :: .ref a :: rest)) := by
  obtain ⟨ws, hP, hD, hM⟩ := hW
  obtain ⟨q0, hq⟩ := List.getElem?_of_mem (hM _ _ _ he)
  exact va_putN hexec hb hts hin ty0 hty hnm hown hK hP hD hS q0 hq hc k hk hlink hsame hfin hd hn hfit hl hdg (fun H1 locs1 hP1 hD1 hS1 => kk H1 locs1 ⟨_, hP1, hD1, gw_set hq hM⟩ hS1)
theorem gw_putF (hexec : p.tables.exec = Jvm.exec) (hb : c.code = cc) {own ref C : String} {T : u_T} {N ci index : Nat} {Ts : List Cond} (hts : ∀ w ∈ Ts, w.before args s = true) (hin : ∀ w ∈ u_ws C T N, w ∈ Ts) (ty0 : Nat → FieldType) (hty : ∀ k, k < N → parseFieldDescriptor (T k).2.2.1 = some (ty0 k)) (hnm : ∀ a, a < N → ∀ b, b < N → a ≠ b → (T a).2.1 ≠ (T b).2.1) (hown : s.vm.findClass own = some m.cls) (hK : va_K D cl tys s) (hW : gw_P D cl B0 M H) (hS : va_S (fun q => B0 ≤ q) H0 H locs) {fs : List Value} (he : M a = some (r, .inr (ci, fs))) (hc : cl[ci]? = some (C, T, N)) (k : Nat) (hk : k < N) (hlink : (Cond.fieldLink own index ref (T k).2.1 (T k).2.2.1).before args s = true) (hsame : ∀ x, s.fieldFound? (T k).1 (T k).2.1 (T k).2.2.1 = some x → s.fieldFound? ref (T k).2.1 (T k).2.2.1 = some x) (hfin : (T k).2.2.2 = true) (hin2 : meth.name = "<init>") (hdecl : (T k).1 = own) {ty : FieldType} {v : Value} (hd : parseFieldDescriptor (T k).2.2.1 = some ty) (hn : narrow ty v = v) (hfit : fits ty v = true) (hl : k < fs.length) (hdg : decode cc pc = .ok (.putfield index, 3))
    (kk : ∀ (H1 : Heap) (locs1 : List Loc), gw_P D cl B0 (gw_up M a r (.inr (ci, fs.set k v))) H1 → va_S (fun q => B0 ≤ q) H0 H1 locs1 → W p l e R s m args below meth c H1 locs1 cells slots Q (F0 m (pc + 3) ls rest)) : W p l e R s m args below meth c H locs cells slots Q (F0 m pc ls (v :: .ref a :: rest)) := by
  obtain ⟨ws, hP, hD, hM⟩ := hW
  obtain ⟨q0, hq⟩ := List.getElem?_of_mem (hM _ _ _ he)
  exact va_putF hexec hb hts hin ty0 hty hnm hown hK hP hD hS q0 hq hc k hk hlink hsame hfin hin2 hdecl hd hn hfit hl hdg (fun H1 locs1 hP1 hD1 hS1 => kk H1 locs1 ⟨_, hP1, hD1, gw_set hq hM⟩ hS1)
theorem gw_iald (hexec : p.tables.exec = Jvm.exec) (hb : c.code = cc) (hK : va_K D cl tys s) (hW : gw_P D cl B0 M H) (t0 : Nat) {cA : ClassId} {n : Nat} {f : Nat → Int32} (ha : M a = some (r, .inl (cA, n, .inl f))) (ht : tys[t0]? = some (cA, .int)) {i : Int32} (hin : vp_in i n) (hdg : decode cc pc = .ok (.iaload, 1))
    (kk : W p l e R s m args below meth c H locs cells slots Q (F0 m (pc + 1) ls (.int (f i.toNatClampNeg) :: rest))) : W p l e R s m args below meth c H locs cells slots Q (F0 m pc ls (.int i :: .ref a :: rest)) := by
  obtain ⟨ws, hP, hD, hM⟩ := hW
  obtain ⟨q0, hq⟩ := List.getElem?_of_mem (hM _ _ _ ha)
  exact va_iald hexec hb hK hP q0 t0 hq ht hin hdg kk
theorem gw_zald (hexec : p.tables.exec = Jvm.exec) (hb : c.code = cc) (hK : va_K D cl tys s) (hW : gw_P D cl B0 M H) (t0 : Nat) {cA : ClassId} {n : Nat} {f : Nat → Int32} (ha : M a = some (r, .inl (cA, n, .inl f))) (ht : tys[t0]? = some (cA, .boolean)) {i : Int32} (hin : vp_in i n) (hdg : decode cc pc = .ok (.baload, 1))
    (kk : W p l e R s m args below meth c H locs cells slots Q (F0 m (pc + 1) ls (.int (f i.toNatClampNeg) :: rest))) : W p l e R s m args below meth c H locs cells slots Q (F0 m pc ls (.int i :: .ref a :: rest)) := by
  obtain ⟨ws, hP, hD, hM⟩ := hW
  obtain ⟨q0, hq⟩ := List.getElem?_of_mem (hM _ _ _ ha)
  exact va_zald hexec hb hK hP q0 t0 hq ht hin hdg kk
theorem gw_lald (hexec : p.tables.exec = Jvm.exec) (hb : c.code = cc) (hK : va_K D cl tys s) (hW : gw_P D cl B0 M H) (t0 : Nat) {cA : ClassId} {n : Nat} {f : Nat → Int64} (ha : M a = some (r, .inl (cA, n, .inr (.inl f)))) (ht : tys[t0]? = some (cA, .long)) {i : Int32} (hin : vp_in i n) (hdg : decode cc pc = .ok (.laload, 1))
    (kk : W p l e R s m args below meth c H locs cells slots Q (F0 m (pc + 1) ls (.long (f i.toNatClampNeg) :: rest))) : W p l e R s m args below meth c H locs cells slots Q (F0 m pc ls (.int i :: .ref a :: rest)) := by
  obtain ⟨ws, hP, hD, hM⟩ := hW
  obtain ⟨q0, hq⟩ := List.getElem?_of_mem (hM _ _ _ ha)
  exact va_lald hexec hb hK hP q0 t0 hq ht hin hdg kk
theorem gw_aald (hexec : p.tables.exec = Jvm.exec) (hb : c.code = cc) (hK : va_K D cl tys s) (hW : gw_P D cl B0 M H) (t0 : Nat) {cA : ClassId} {C : String} {n : Nat} {f : Nat → Option Nat} (ha : M a = some (r, .inl (cA, n, .inr (.inr (.inr (.inr f)))))) (ht : tys[t0]? = some (cA, .object C)) {i : Int32} (hin : vp_in i n) (hdg : decode cc pc = .ok (.aaload, 1))
    (kk : W p l e R s m args below meth c H locs cells slots Q (F0 m (pc + 1) ls (va_rf (f i.toNatClampNeg) :: rest))) : W p l e R s m args below meth c H locs cells slots Q (F0 m pc ls (.int i :: .ref a :: rest)) := by
  obtain ⟨ws, hP, hD, hM⟩ := hW
  obtain ⟨q0, hq⟩ := List.getElem?_of_mem (hM _ _ _ ha)
  exact va_aldq hexec hb hK hP q0 t0 hq ht hin hdg kk
theorem gw_alen (hexec : p.tables.exec = Jvm.exec) (hb : c.code = cc) (hK : va_K D cl tys s) (hW : gw_P D cl B0 M H) (t0 : Nat) {cA : ClassId} {x : vp_A} (ha : M a = some (r, .inl (cA, x))) {ty : FieldType} (ht : tys[t0]? = some (cA, ty)) {v : Int32} (hv : Int32.ofNat x.1 = v) (hdg : decode cc pc = .ok (.arraylength, 1))
    (kk : W p l e R s m args below meth c H locs cells slots Q (F0 m (pc + 1) ls (.int v :: rest))) : W p l e R s m args below meth c H locs cells slots Q (F0 m pc ls (.ref a :: rest)) := by
  obtain ⟨ws, hP, hD, hM⟩ := hW
  obtain ⟨q0, hq⟩ := List.getElem?_of_mem (hM _ _ _ ha)
  exact va_alen hexec hb hK hP q0 t0 hq ht hv hdg kk
theorem gw_iast (hexec : p.tables.exec = Jvm.exec) (hb : c.code = cc) (hK : va_K D cl tys s) (hW : gw_P D cl B0 M H) (hS : va_S (fun q => B0 ≤ q) H0 H locs) (t0 : Nat) {cA : ClassId} {n : Nat} {f : Nat → Int32} (ha : M a = some (r, .inl (cA, n, .inl f))) (ht : tys[t0]? = some (cA, .int)) {i : Int32} {x : Int32} (hin : vp_in i n) (hdg : decode cc pc = .ok (.iastore, 1))
    (kk : ∀ (H1 : Heap) (locs1 : List Loc), gw_P D cl B0 (gw_up M a r (.inl (cA, n, .inl (upd f i.toNatClampNeg x)))) H1 → va_S (fun q => B0 ≤ q) H0 H1 locs1 → W p l e R s m args below meth c H1 locs1 cells slots Q (F0 m (pc + 1) ls rest)) : W p l e R s m args below meth c H locs cells slots Q (F0 m pc ls (.int x :: .int i :: .ref a :: rest)) := by
  obtain ⟨ws, hP, hD, hM⟩ := hW
  obtain ⟨q0, hq⟩ := List.getElem?_of_mem (hM _ _ _ ha)
  exact va_iast hexec hb hK hP hD hS q0 t0 hq ht hin hdg (fun H1 locs1 hP1 hD1 hS1 => kk H1 locs1 ⟨_, hP1, hD1, gw_set hq hM⟩ hS1)
theorem gw_last (hexec : p.tables.exec = Jvm.exec) (hb : c.code = cc) (hK : va_K D cl tys s) (hW : gw_P D cl B0 M H) (hS : va_S (fun q => B0 ≤ q) H0 H locs) (t0 : Nat) {cA : ClassId} {n : Nat} {f : Nat → Int64} (ha : M a = some (r, .inl (cA, n, .inr (.inl f)))) (ht : tys[t0]? = some (cA, .long)) {i : Int32} {x : Int64} (hin : vp_in i n) (hdg : decode cc pc = .ok (.lastore, 1))
    (kk : ∀ (H1 : Heap) (locs1 : List Loc), gw_P D cl B0 (gw_up M a r (.inl (cA, n, .inr (.inl (vp_updL f i.toNatClampNeg x))))) H1 → va_S (fun q => B0 ≤ q) H0 H1 locs1 → W p l e R s m args below meth c H1 locs1 cells slots Q (F0 m (pc + 1) ls rest)) : W p l e R s m args below meth c H locs cells slots Q (F0 m pc ls (.long x :: .int i :: .ref a :: rest)) := by
  obtain ⟨ws, hP, hD, hM⟩ := hW
  obtain ⟨q0, hq⟩ := List.getElem?_of_mem (hM _ _ _ ha)
  exact va_last hexec hb hK hP hD hS q0 t0 hq ht hin hdg (fun H1 locs1 hP1 hD1 hS1 => kk H1 locs1 ⟨_, hP1, hD1, gw_set hq hM⟩ hS1)
theorem gw_aastO (hexec : p.tables.exec = Jvm.exec) (hb : c.code = cc) (hK : va_K D cl tys s) (hW : gw_P D cl B0 M H) (hS : va_S (fun q => B0 ≤ q) H0 H locs) (t0 ci : Nat) {E : String} {cA : ClassId} {rr : vw_C} {n v rv : Nat} {vs : List Value} {f : Nat → Option Nat} (ha : M a = some (r, .inl (cA, n, .inr (.inr (.inr (.inr f)))))) (ht : tys[t0]? = some (cA, .object E)) (hca : va_Nw (.castable rr.1 E) s) (hv : M v = some (rv, .inr (ci, vs))) (hc : cl[ci]? = some rr) {i : Int32} (hin : vp_in i n) (hdg : decode cc pc = .ok (.aastore, 1))
    (kk : ∀ (H1 : Heap) (locs1 : List Loc), gw_P D cl B0 (gw_up M a r (.inl (cA, n, .inr (.inr (.inr (.inr (va_up f i.toNatClampNeg (some v)))))))) H1 → va_S (fun q => B0 ≤ q) H0 H1 locs1 → W p l e R s m args below meth c H1 locs1 cells slots Q (F0 m (pc + 1) ls rest)) : W p l e R s m args below meth c H locs cells slots Q (F0 m pc ls (.ref v :: .int i :: .ref a :: rest)) := by
  obtain ⟨ws, hP, hD, hM⟩ := hW
  obtain ⟨q0, hq⟩ := List.getElem?_of_mem (hM _ _ _ ha)
  obtain ⟨qk, hqk⟩ := List.getElem?_of_mem (hM _ _ _ hv)
  exact va_astqO hexec hb hK hP hD hS q0 t0 qk ci hq ht hca hqk hc hin hdg (fun H1 locs1 hP1 hD1 hS1 => kk H1 locs1 ⟨_, hP1, hD1, gw_set hq hM⟩ hS1)
theorem gw_newa (hexec : p.tables.exec = Jvm.exec) (hb : c.code = cc) {atype : ArrayType} (harr : (Cond.arrayClass (newarray.typeOf atype)).before args s = true) {ty : FieldType} (hty : newarray.typeOf atype = ty) (hK : va_K D cl tys s) (hW : gw_P D cl B0 M H) (hS : va_S (fun q => B0 ≤ q) H0 H locs) (hB : B0 ≤ H0.size)
    {n : Int32} {N' : Nat} {a0 : vp_A} (ha : ∀ cA : ClassId, vp_cell cA a0 = arrV cA N' (fun _ => defaultValue ty)) (hn : ¬ n < 0) (hN : n.toNatClampNeg = N') (hbytes : N' * componentBytes ty ≤ 536870912) (hcells : cells + 1 ≤ R.cells) (hslots : slots + N' ≤ R.slots) (hdg : decode cc pc = .ok (.newarray atype, 2)) (t0 : Nat) {cA0 : ClassId} (ht : tys[t0]? = some (cA0, ty)) (hra : ∀ cA : ClassId, va_RA s cA ty → va_RA s cA0 ty → cA = cA0) (r : Nat)
    (kk : ∀ (q : Nat) (H1 : Heap), M q = none → gw_P D cl B0 (gw_up M q r (.inl (cA0, a0))) H1 → va_S (fun q => B0 ≤ q) H0 H1 locs →
      W p l e R s m args below meth c H1 locs (cells + 1) (slots + N') Q (F0 m (pc + 2) ls (.ref q :: rest))) : W p l e R s m args below meth c H locs cells slots Q (F0 m pc ls (.int n :: rest)) := by
  obtain ⟨ws, hP, hD, hM⟩ := hW
  refine va_newa hexec hb harr hty hK hP hD hS (fun q h => Nat.le_trans hB h) ha hn hN hbytes hcells hslots hdg (fun q cA H1 hK1 hP1 hD1 hS1 => ?_)
  have e1 : cA = cA0 := by
    have h1 := (hK1.2 tys.length (cA, ty) (by simp)).2
    exact hra cA h1 (hK.2 t0 _ ht).2
  subst e1
  exact kk q H1 (gw_fresh hD1 hM) ⟨_, hP1, hD1, gw_push hM⟩ hS1
theorem gw_newq (hexec : p.tables.exec = Jvm.exec) (hb : c.code = cc) {own C : String} {index : Nat} (hown : s.vm.findClass own = some m.cls) (hclink : (Cond.classLink own index C).before args s = true) (hover : va_AO C s) (hK : va_K D cl tys s) (hW : gw_P D cl B0 M H) (hS : va_S (fun q => B0 ≤ q) H0 H locs) (hB : B0 ≤ H0.size)
    {n : Int32} {N' : Nat} (hn : ¬ n < 0) (hN : n.toNatClampNeg = N') (hbytes : N' * 4 ≤ 536870912) (hcells : cells + 1 ≤ R.cells) (hslots : slots + N' ≤ R.slots) (hdg : decode cc pc = .ok (.anewarray index, 3)) (t0 : Nat) {cA0 : ClassId} (ht : tys[t0]? = some (cA0, .object C)) (r : Nat)
    (kk : ∀ (q : Nat) (H1 : Heap), M q = none → gw_P D cl B0 (gw_up M q r (.inl (cA0, N', .inr (.inr (.inr (.inr (fun _ => none))))))) H1 → va_S (fun q => B0 ≤ q) H0 H1 locs →
      W p l e R s m args below meth c H1 locs (cells + 1) (slots + N') Q (F0 m (pc + 3) ls (.ref q :: rest))) : W p l e R s m args below meth c H locs cells slots Q (F0 m pc ls (.int n :: rest)) := by
  obtain ⟨ws, hP, hD, hM⟩ := hW
  refine va_newq hexec hb hown hclink hover hK hP hD hS (fun q h => Nat.le_trans hB h) hn hN hbytes hcells hslots hdg (fun q cA H1 hK1 hP1 hD1 hS1 => ?_)
  have e1 : cA = cA0 := by
    obtain ⟨_, _, _, _, _, h1⟩ := (hK1.2 tys.length (cA, .object C) (by simp)).2
    obtain ⟨_, _, _, _, _, h2⟩ := (hK.2 t0 _ ht).2
    exact Option.some.inj (h1.symm.trans h2)
  subst e1
  exact kk q H1 (gw_fresh hD1 hM) ⟨_, hP1, hD1, gw_push hM⟩ hS1
theorem gw_new (hexec : p.tables.exec = Jvm.exec) (hb : c.code = cc) {own C : String} {T : u_T} {N ci index : Nat} {Ts : List Cond} (hts : ∀ w ∈ Ts, w.before args s = true) (hin : ∀ w ∈ u_ws C T N, w ∈ Ts) (ty : Nat → FieldType) (hty : ∀ k, k < N → parseFieldDescriptor (T k).2.2.1 = some (ty k)) (hown : s.vm.findClass own = some m.cls) (hcl : (Cond.classLink own index C).before args s = true) (hinst : (Cond.instantiable C N).before args s = true) (hini : (Cond.initialized C).before args s = true)
    (hK : va_K D cl tys s) (hW : gw_P D cl B0 M H) (hS : va_S (fun q => B0 ≤ q) H0 H locs) (hB : B0 ≤ H0.size) (hc : cl[ci]? = some (C, T, N)) {fs : List Value} (hfs : ∀ j, j < N → defaultValue (ty j) = vp_V fs j) (hcells : cells + 1 ≤ R.cells) (hslots : slots + N ≤ R.slots) (hdg : decode cc pc = .ok (.new index, 3)) (r : Nat)
    (kk : ∀ (q : Nat) (H1 : Heap), M q = none → gw_P D cl B0 (gw_up M q r (.inr (ci, fs))) H1 → va_S (fun q => B0 ≤ q) H0 H1 locs →
      W p l e R s m args below meth c H1 locs (cells + 1) (slots + N) Q (F0 m (pc + 3) ls (.ref q :: rest))) : W p l e R s m args below meth c H locs cells slots Q (F0 m pc ls rest) := by
  obtain ⟨ws, hP, hD, hM⟩ := hW
  exact va_new hexec hb hts hin ty hty hown hcl hinst hini hK hP hD hS (fun q h => Nat.le_trans hB h) hc hfs hcells hslots hdg (fun q H1 hP1 hD1 hS1 => kk q H1 (gw_fresh hD1 hM) ⟨_, hP1, hD1, gw_push hM⟩ hS1)
theorem gw_copyi (hexec : p.tables.exec = Jvm.exec) (hb : c.code = cc) (hml : c.maxLocals = ls.size) {own : String} {index : Nat} (hown : s.vm.findClass own = some m.cls) (hlink : (Cond.methodLink own index arraycopyName).before args s = true) (hnat : (Cond.native arraycopyName).before args s = true) (hstat : (Cond.static arraycopyName).before args s = true) (hini : (Cond.initialized "java/lang/System").before args s = true)
    (hK : va_K D cl tys s) (hW : gw_P D cl B0 M H) (hS : va_S (fun q => B0 ≤ q) H0 H locs) (t0 t1 : Nat) {a0 r0 : Nat} {c0 c1 : ClassId} {n0 n1 : Nat} {f g : Nat → Int32} (ha0 : M a0 = some (r0, .inl (c0, n0, .inl f))) (ha1 : M a = some (r, .inl (c1, n1, .inl g))) (ht0 : tys[t0]? = some (c0, .int)) (ht1 : tys[t1]? = some (c1, .int))
    {sp dp n : Int32} (h1 : ¬ sp < 0) (h2 : ¬ dp < 0) (h3 : ¬ n < 0) (h4 : sp.toNatClampNeg + n.toNatClampNeg ≤ n0) (h5 : dp.toNatClampNeg + n.toNatClampNeg ≤ n1)
    (hframes : 1 ≤ R.frames) (hlocals : (rest.map fun v => v.category).sum + (nativeFrameWords "java/lang/System" "arraycopy" 5 + 11) ≤ R.locals) (hdg : decode cc pc = .ok (.invokestatic index, 3))
    (kk : ∀ (H1 : Heap) (locs1 : List Loc), gw_P D cl B0 (gw_up M a r (.inl (c1, n1, .inl (va_cpy f g sp.toNatClampNeg dp.toNatClampNeg n.toNatClampNeg)))) H1 → va_S (fun q => B0 ≤ q) H0 H1 locs1 → W p l e R s m args below meth c H1 locs1 cells slots Q (F0 m (pc + 3) ls rest)) : W p l e R s m args below meth c H locs cells slots Q (F0 m pc ls (.int n :: .int dp :: .ref a :: .int sp :: .ref a0 :: rest)) := by
  obtain ⟨ws, hP, hD, hM⟩ := hW
  obtain ⟨q0, hq0⟩ := List.getElem?_of_mem (hM _ _ _ ha0)
  obtain ⟨q1, hq1⟩ := List.getElem?_of_mem (hM _ _ _ ha1)
  exact va_copyi hexec hb hml hown hlink hnat hstat hini hK hP hD hS q0 q1 t0 t1 hq0 hq1 ht0 ht1 rfl h1 h2 h3 h4 h5 (fun i _ => rfl) hframes hlocals hdg (fun H1 locs1 hP1 hD1 hS1 => kk H1 locs1 ⟨_, hP1, hD1, gw_set hq1 hM⟩ hS1)
theorem gw_recv {ci : Nat} {q : vw_C} {fs : List Value} (hK : va_K D cl tys s) (hW : gw_P D cl B0 M H) (hc : cl[ci]? = some q) (he : M a = some (r, .inr (ci, fs))) : ∃ cell : Cell, H[a]? = some cell ∧ cell.vm.isStatics = false ∧ s.vm.findClass q.1 = some cell.cls := by
  obtain ⟨ws, hP, hD, hM⟩ := hW
  obtain ⟨q0, hq⟩ := List.getElem?_of_mem (hM _ _ _ he)
  exact va_recv hK hP hc hq
end GWR
theorem gw_zi (n : Nat) : ∀ cA : ClassId, vp_cell cA (n, .inl (fun _ => 0)) = arrV cA n (fun _ => defaultValue .int) := fun _ => rfl
theorem gw_zl (n : Nat) : ∀ cA : ClassId, vp_cell cA (n, .inr (.inl (fun _ => 0))) = arrV cA n (fun _ => defaultValue .long) := fun _ => rfl
theorem gw_ri {s : State} : ∀ cA cB : ClassId, va_RA s cA .int → va_RA s cB .int → cA = cB := fun _ _ h1 h2 => Option.some.inj (h1.symm.trans h2)
theorem gw_rl {s : State} : ∀ cA cB : ClassId, va_RA s cA .long → va_RA s cB .long → cA = cB := fun _ _ h1 h2 => Option.some.inj (h1.symm.trans h2)
end
section
def F_X : u_T := fun k => match k with
  | 0 => ("Generations", "limit", "I", true)
  | 1 => ("Generations", "scratches", "Z", true)
  | 2 => ("Generations", "emptyRule", "Z", false)
  | 3 => ("Generations", "row", "LGenerations$Row;", true)
  | 4 => ("Generations", "jobs", "Ljava/util/ArrayList;", true)
  | 5 => ("Generations", "known", "Ljava/util/ArrayList;", true)
  | 6 => ("Generations", "nowhere", "LGenerations$Generation;", true)
  | 7 => ("Generations", "gone", "[I", true)
  | _ => ("Generations", "goneCount", "I", false)
def t_X : Nat → FieldType := fun k => match k with
  | 0 => .int
  | 1 => .boolean
  | 2 => .boolean
  | 3 => .object "Generations$Row"
  | 4 => .object "java/util/ArrayList"
  | 5 => .object "java/util/ArrayList"
  | 6 => .object "Generations$Generation"
  | 7 => .array .int
  | _ => .int
def F_Row : u_T := fun k => match k with
  | 0 => ("Generations$Row", "numbers", "[I", true)
  | _ => ("Generations$Row", "size", "I", false)
def t_Row : Nat → FieldType := fun k => match k with
  | 0 => .array .int
  | _ => .int
def F_Gen : u_T := fun k => match k with
  | 0 => ("Generations$Generation", "number", "I", true)
  | 1 => ("Generations$Generation", "state", "I", false)
  | 2 => ("Generations$Generation", "version", "I", false)
  | 3 => ("Generations$Generation", "maker", "I", false)
  | _ => ("Generations$Generation", "failedAtEnd", "I", false)
def t_Gen : Nat → FieldType := fun k => match k with
  | 0 => .int
  | 1 => .int
  | 2 => .int
  | 3 => .int
  | _ => .int
def F_Job : u_T := fun k => match k with
  | 0 => ("Generations$Job", "rowThen", "[I", true)
  | _ => ("Generations$Job", "ends", "I", false)
def t_Job : Nat → FieldType := fun k => match k with
  | 0 => .array .int
  | _ => .int
def F_AL : u_T := fun k => match k with
  | 0 => ("java/util/AbstractList", "modCount", "I", false)
  | 1 => ("java/util/ArrayList", "elementData", "[Ljava/lang/Object;", false)
  | _ => ("java/util/ArrayList", "size", "I", false)
def t_AL : Nat → FieldType := fun k => match k with
  | 0 => .int
  | 1 => .array (.object "java/lang/Object")
  | _ => .int
def F_Mo : u_T := fun k => match k with
  | 0 => ("GenerationsModel", "code", "I", false)
  | 1 => ("GenerationsModel", "limit", "I", true)
  | 2 => ("GenerationsModel", "scratch", "Z", true)
  | 3 => ("GenerationsModel", "empties", "Z", false)
  | 4 => ("GenerationsModel", "there", "[I", true)
  | 5 => ("GenerationsModel", "row", "[I", true)
  | 6 => ("GenerationsModel", "size", "I", false)
  | 7 => ("GenerationsModel", "found", "[I", true)
  | 8 => ("GenerationsModel", "foundSize", "[I", true)
  | 9 => ("GenerationsModel", "ends", "[I", true)
  | 10 => ("GenerationsModel", "made", "[I", true)
  | 11 => ("GenerationsModel", "jobs", "I", false)
  | 12 => ("GenerationsModel", "maker", "I", false)
  | 13 => ("GenerationsModel", "drops", "[I", true)
  | _ => ("GenerationsModel", "dropped", "I", false)
def t_Mo : Nat → FieldType := fun k => match k with
  | 0 => .int
  | 1 => .int
  | 2 => .boolean
  | 3 => .boolean
  | 4 => .array .int
  | 5 => .array .int
  | 6 => .int
  | 7 => .array .int
  | 8 => .array .int
  | 9 => .array .int
  | 10 => .array .int
  | 11 => .int
  | 12 => .int
  | 13 => .array .int
  | _ => .int
abbrev vwCl : List vw_C := [("Generations", F_X, 9), ("Generations$Row", F_Row, 2), ("Generations$Generation", F_Gen, 5), ("Generations$Job", F_Job, 2), ("java/util/ArrayList", F_AL, 3), ("GenerationsModel", F_Mo, 15)]
theorem n_X : ∀ a, a < 9 → ∀ b, b < 9 → a ≠ b → (F_X a).2.1 ≠ (F_X b).2.1 := by decide +kernel
theorem t_X_ok : ∀ k, k < 9 → parseFieldDescriptor (F_X k).2.2.1 = some (t_X k) := by decide +kernel
theorem n_Row : ∀ a, a < 2 → ∀ b, b < 2 → a ≠ b → (F_Row a).2.1 ≠ (F_Row b).2.1 := by decide +kernel
theorem t_Row_ok : ∀ k, k < 2 → parseFieldDescriptor (F_Row k).2.2.1 = some (t_Row k) := by decide +kernel
theorem n_Gen : ∀ a, a < 5 → ∀ b, b < 5 → a ≠ b → (F_Gen a).2.1 ≠ (F_Gen b).2.1 := by decide +kernel
theorem t_Gen_ok : ∀ k, k < 5 → parseFieldDescriptor (F_Gen k).2.2.1 = some (t_Gen k) := by decide +kernel
theorem n_Job : ∀ a, a < 2 → ∀ b, b < 2 → a ≠ b → (F_Job a).2.1 ≠ (F_Job b).2.1 := by decide +kernel
theorem t_Job_ok : ∀ k, k < 2 → parseFieldDescriptor (F_Job k).2.2.1 = some (t_Job k) := by decide +kernel
theorem n_AL : ∀ a, a < 3 → ∀ b, b < 3 → a ≠ b → (F_AL a).2.1 ≠ (F_AL b).2.1 := by decide +kernel
theorem t_AL_ok : ∀ k, k < 3 → parseFieldDescriptor (F_AL k).2.2.1 = some (t_AL k) := by decide +kernel
theorem n_Mo : ∀ a, a < 15 → ∀ b, b < 15 → a ≠ b → (F_Mo a).2.1 ≠ (F_Mo b).2.1 := by decide +kernel
theorem t_Mo_ok : ∀ k, k < 15 → parseFieldDescriptor (F_Mo k).2.2.1 = some (t_Mo k) := by decide +kernel
end
section
/-! THE ENVIRONMENT OF EVERY METHOD: the tables' words (gw_N0, all of them hold in every warmed state), the classes, the old cells that are read (statics, texts). G = ((class numbers, slots), array classes, old addresses, the first new address). -/
abbrev gw_G : Type := va_G × (Nat → ClassId) × (Nat → Nat) × Nat
abbrev gw_ty (G : gw_G) : List (ClassId × FieldType) := [(G.2.1 0, .int), (G.2.1 1, .object "java/lang/Object"), (G.2.1 2, .long)]
abbrev gw_A (G : gw_G) : Nat → Prop := fun q => G.2.2.2 ≤ q
def gw_nk (w : Cond) : Bool := match w with
  | .fieldLinkNest _ _ _ _ _ _ => true
  | .methodLinkNest _ _ _ _ => true
  | .castable _ _ => true
  | .declares _ => true
  | _ => false
def gw_gk (w : Cond) : Bool := goodWord w || gw_nk w
theorem gw_nf {w : Cond} (h : gw_nk w = true) : (∃ a i b n d hh, w = .fieldLinkNest a i b n d hh) ∨ (∃ a i x hh, w = .methodLinkNest a i x hh) ∨ (∃ C T, w = .castable C T) ∨ ∃ x, w = .declares x := by
  unfold gw_nk at h
  split at h
  · exact Or.inl ⟨_, _, _, _, _, _, rfl⟩
  · exact Or.inr (Or.inl ⟨_, _, _, _, rfl⟩)
  · exact Or.inr (Or.inr (Or.inl ⟨_, _, rfl⟩))
  · exact Or.inr (Or.inr (Or.inr ⟨_, rfl⟩))
  · cases h
theorem gw_ww {w : Cond} (hg : gw_gk w = true) {s U : State} {a a' : Array Value} (hW : s.WarmedH U.vm) (h : w.before a s = true) : w.before a' U = true := by
  unfold gw_gk at hg
  rcases Bool.or_eq_true _ _ |>.mp hg with h1 | h1
  · exact word_at hW (good_of_word h1) h
  · rcases gw_nf h1 with ⟨_, _, _, _, _, _, rfl⟩ | ⟨_, _, _, _, rfl⟩ | ⟨_, _, rfl⟩ | ⟨_, rfl⟩
    · exact va_Nw.use rfl (va_Nw.warmF hW (va_Nw.of rfl h))
    · exact va_Nw.use rfl (va_Nw.warmM hW (va_Nw.of rfl h))
    · exact va_Nw.use rfl (va_Nw.warmC hW (va_Nw.of rfl h))
    · exact va_Nw.use rfl (va_Nw.warmD hW (va_Nw.of rfl h))
def gw_N0 : List Cond := lw_tbl.filter gw_gk
theorem gw_N0_gk {w : Cond} (h : w ∈ gw_N0) : gw_gk w = true := (List.mem_filter.mp h).2
theorem gw_in {w : Cond} (h : w ∈ lw_tbl) (hg : gw_gk w = true := by rfl) : w ∈ gw_N0 := List.mem_filter.mpr ⟨h, hg⟩
theorem gw_tm {w : Cond} {i : Nat} (h : tables_1[i]? = some w) : w ∈ tables_1 := List.mem_of_getElem? h
/-- where a static of references lies, in the old part of the heap -/
def gt_L (C n d : String) (A : Nat → Prop) (U : State) (H : Heap) : Prop := va_Zq C n d A U H ∧ ∃ (c : ClassId) (k : Class) (i : Nat) (f : Field) (a : Nat) (cell : Cell), U.vm.findClass C = some c ∧ U.fieldFound? C n d = some (c, k, i, f) ∧ f.isStatic = true ∧ k.statics = some a ∧ H[a]? = some cell ∧ cell.vm.isStatics = true ∧ cell.cls = c ∧ f.slot < cell.slots.size ∧ k.staticTypes[f.slot]? = some f.type ∧ ¬ A a
theorem gt_L.kept {C n d : String} {A : Nat → Prop} {U : State} {H H1 : Heap} (h : gt_L C n d A U H) (hq : ∀ a : Nat, a < H.size → ¬ A a → H1[a]? = H[a]?) : gt_L C n d A U H1 := by
  obtain ⟨h0, c, k, i, f, a, cell, h1, h2, h3, h4, h5, h6, h7, h8, h9, h10⟩ := h
  exact ⟨h0.kept hq, c, k, i, f, a, cell, h1, h2, h3, h4, by rw [hq a (Array.getElem?_eq_some_iff.mp h5).1 h10]; exact h5, h6, h7, h8, h9, h10⟩
theorem gt_L.moved {C n d : String} {A : Nat → Prop} {u U : State} {H : Heap} (hvm : u.vm.Alike U.vm) (h : gt_L C n d A u H) : gt_L C n d A U H := by
  obtain ⟨h0, c, k, i, f, a, cell, h1, h2, h3, h4, h5, h6, h7, h8, h9, h10⟩ := h
  obtain ⟨k', hi', he⟩ := State.fieldFound?_setVm hvm h2
  exact ⟨va_Zq.moved hvm h0, c, k', i, f, a, cell, by rw [hvm.findClass]; exact h1, hi', h3, by rw [he]; exact h4, h5, h6, h7, h8, by rw [he]; exact h9, h10⟩
theorem gt_L.lays {C n d : String} {A : Nat → Prop} {U : State} (h : gt_L C n d A U U.heap) (args : Array Value) : (Cond.laysStatic C n d).before args U = true := by
  obtain ⟨-, c, k, i, f, a, cell, h1, h2, h3, h4, h5, h6, h7, h8, h9, -⟩ := h
  show (Cond.laysStatic C n d).holds args U none U [] = true
  exact Cond.laysStatic_of h1 h2 h3 h4 h5 h6 h7 h8 h9
theorem gt_Z.ref {C n d : String} {v : Value} {A : Nat → Prop} {U : State} (h : va_Z C n d v A U U.heap) (hv : v.isRef = true) (args : Array Value) : (Cond.isRef (.static C n d)).before args U = true := by
  obtain ⟨cf, kf, fi, f, a, cell, h1, h2, h3, h4, h5, h6, h7, -⟩ := h
  have he : (Term.static C n d).eval args U none [] U = some v := by simp [Term.eval, State.fieldNamed?, h1, h2, h4, h5, h6, h7]
  simp only [Cond.before, Cond.holds, Cond.value, he]
  cases v <;> simp_all [Value.isRef]
theorem gt_L.ref {C n d : String} {A : Nat → Prop} {U : State} (h : gt_L C n d A U U.heap) (args : Array Value) : (Cond.isRef (.static C n d)).before args U = true := by
  rcases h.1 with h9 | ⟨t, h9⟩
  · exact gt_Z.ref h9 rfl args
  · exact gt_Z.ref h9 rfl args
theorem gt_L.of {args : Array Value} {s : State} {C n d : String} {A : Nat → Prop} (hl : (Cond.laysStatic C n d).before args s = true) (hini : (Cond.initialized C).before args s = true) (h : (Cond.isRef (.static C n d)).before args s = true) (hA : ∀ a : Nat, a < s.heap.size → ¬ A a) : gt_L C n d A s s.heap := by
  obtain ⟨c, k, i, f, a, cell, h1, h2, h3, h4, h5, h6, h7, h8, h9⟩ := Cond.laysStatic_spec hl
  exact ⟨va_Zqof hl hini h hA, c, k, i, f, a, cell, h1, h2, h3, h4, h5, h6, h7, h8, h9, hA a (Array.getElem?_eq_some_iff.mp h5).1⟩
def gw_old (G : gw_G) (U : State) (H : Heap) : Prop := va_Z "java/util/ArrayList" "DEFAULTCAPACITY_EMPTY_ELEMENTDATA" "[Ljava/lang/Object;" (.ref (G.2.2.1 0)) (gw_A G) U H ∧ va_T (.object "java/lang/Object") (G.2.2.1 0) 0 (fun _ => .null) (gw_A G) U H ∧ gt_L "java/lang/Throwable" "UNASSIGNED_STACK" "[Ljava/lang/StackTraceElement;" (gw_A G) U H ∧ gt_L "java/lang/Throwable" "SUPPRESSED_SENTINEL" "Ljava/util/List;" (gw_A G) U H ∧ vk_R "Generations" 164 "there is no such job" (G.2.2.1 1) U ∧ vk_R "Generations" 106 "n is above 99" (G.2.2.1 2) U ∧ vk_R "Generations" 121 "n is not 1 .. 99" (G.2.2.1 3) U ∧ va_AO "java/lang/Object" U
theorem gw_old.keep {G : gw_G} {s : State} {H H1 : Heap} (h : gw_old G s H) (hq : ∀ q : Nat, q < H.size → ¬ gw_A G q → H1[q]? = H[q]?) : gw_old G s H1 := ⟨h.1.kept hq, h.2.1.kept hq, h.2.2.1.kept hq, h.2.2.2.1.kept hq, h.2.2.2.2⟩
theorem gw_old.move {G : gw_G} {s U : State} {H : Heap} (hW : s.WarmedH U.vm) (h : gw_old G s H) : gw_old G U H := ⟨va_Z.moved hW.alike h.1, va_T.moved hW.alike h.2.1, gt_L.moved hW.alike h.2.2.1, gt_L.moved hW.alike h.2.2.2.1, vk_R.warm hW h.2.2.2.2.1, vk_R.warm hW h.2.2.2.2.2.1, vk_R.warm hW h.2.2.2.2.2.2.1, va_AO.moved hW.alike h.2.2.2.2.2.2.2⟩
def gw_E (G : gw_G) (U : State) : Prop := va_K G.1 vwCl (gw_ty G) U ∧ (∀ w ∈ gw_N0, w.before #[] U = true) ∧ gw_old G U U.heap
theorem gw_E.K {G : gw_G} {U : State} (h : gw_E G U) : va_K G.1 vwCl (gw_ty G) U := h.1
theorem gw_E.ts {G : gw_G} {U : State} (h : gw_E G U) (args : Array Value) : ∀ w ∈ gw_N0, w.before args U = true := fun w hw => gw_ww (gw_N0_gk hw) (State.WarmedH.refl U) (h.2.1 w hw)
theorem gw_E.nw {G : gw_G} {U : State} (h : gw_E G U) {w : Cond} (hw : w ∈ gw_N0) : va_Nw w U := h.2.1 w hw
theorem gw_E.call {G : gw_G} {s : State} {H : Heap} {locs : List Loc} (h : gw_E G s) (hS : va_S (gw_A G) s.heap H locs) {U : State} (hU : U.heap = H) (hW : s.WarmedH U.vm) : gw_E G U :=
  ⟨va_K.moved hW.alike h.1, fun w hw => gw_ww (gw_N0_gk hw) hW (h.2.1 w hw), by rw [hU]; exact gw_old.move hW (gw_old.keep h.2.2 hS.2.1)⟩
theorem gw_E.blind {G : gw_G} {U : State} (h : gw_E G U) (g : JFrame) (mk : MethodId) (a : Array Value) : gw_E G (U.calling g mk a) :=
  ⟨va_K.moved (u := U) (U := U.calling g mk a) (Vm.Alike.refl U.vm) h.1, fun w hw => gw_ww (s := U) (gw_N0_gk hw) (State.WarmedH.refl U) (h.2.1 w hw), gw_old.move (s := U) (U := U.calling g mk a) (State.WarmedH.refl U) h.2.2⟩
def gw_Pc (G : gw_G) (M : gw_M) (av : List Value) : Array Value → State → Prop := va_Pc av (fun U => gw_E G U ∧ G.2.2.2 ≤ U.heap.size ∧ gw_P G.1 vwCl G.2.2.2 M U.heap)
theorem gw_blind {G : gw_G} {M : gw_M} {av : List Value} : FrameBlind (gw_Pc G M av) := fun a U g mk q => by
  obtain ⟨q0, q1, q2, q3⟩ := q
  exact ⟨q0, q1.blind g mk a, q2, q3⟩
theorem gw_ps {G : gw_G} {M : gw_M} {As : List Value} {s : State} {H : Heap} {locs : List Loc} (hE : gw_E G s) (hB : G.2.2.2 ≤ s.heap.size) (hS : va_S (gw_A G) s.heap H locs) (hW : gw_P G.1 vwCl G.2.2.2 M H) : PreS s H (gw_Pc G M As) As :=
  ⟨gw_blind, fun _ hU hw => ⟨rfl, hE.call hS hU hw, by rw [hU]; exact Nat.le_trans hB hS.1, by rw [hU]; exact hW⟩⟩
theorem gw_pv {G : gw_G} {M : gw_M} {As : List Value} {s : State} {H : Heap} {locs : List Loc} {b r ci : Nat} {q : vw_C} {fs : List Value} (hE : gw_E G s) (hB : G.2.2.2 ≤ s.heap.size) (hS : va_S (gw_A G) s.heap H locs) (hW : gw_P G.1 vwCl G.2.2.2 M H) (hc : vwCl[ci]? = some q) (he : M b = some (r, .inr (ci, fs))) : PreV s H q.1 b (gw_Pc G M (.ref b :: As)) As :=
  ⟨gw_blind, gw_recv hE.1 hW hc he, fun _ hU hw => ⟨rfl, hE.call hS hU hw, by rw [hU]; exact Nat.le_trans hB hS.1, by rw [hU]; exact hW⟩⟩
abbrev gw_Qi (G : gw_G) (post : Int32 → gw_M → Prop) : Array Value → State → Outcome → State → Prop := va_Qi post (fun M2 t => gw_P G.1 vwCl G.2.2.2 M2 t.heap) (gw_A G)
abbrev gw_Qv (G : gw_G) (post : gw_M → Prop) : Array Value → State → Outcome → State → Prop := va_Qv post (fun M2 t => gw_P G.1 vwCl G.2.2.2 M2 t.heap) (gw_A G)
abbrev gw_Qr (G : gw_G) (post : Nat → gw_M → Prop) : Array Value → State → Outcome → State → Prop := va_Qr (fun u : Nat × gw_M => post u.1 u.2) (fun u a t => a = u.1 ∧ gw_P G.1 vwCl G.2.2.2 u.2 t.heap) (gw_A G)
section GWS
variable {l : Launch} {y : MethodName} {rm : Room} {G : gw_G} {M : gw_M} {av : List Value} {Qc : Array Value → State → Outcome → State → Prop} {mc ms : Nat} {cc : ByteArray} {maxL : Nat} {ret : Option FieldType}
theorem gw_start (hy : plainName y.cls = true) (hn : (lg_sl av).length ≤ maxL)
    (body : ∀ (p : Program) (e : Env) (s : State) (m : MethodId) (below : List Frame) (meth : Method) (c : Code), p.tables.exec = Jvm.exec → c.code = cc → meth.sig.returnType = ret → c.maxLocals = maxL → s.vm.findClass y.cls = some m.cls → meth.locks = false → meth.name = y.name → gw_E G s → G.2.2.2 ≤ s.heap.size → gw_P G.1 vwCl G.2.2.2 M s.heap →
      ∀ ls : Array Slot, lv_has ls maxL (lv_args 0 av) → W p l e rm s m av.toArray below meth c s.heap [] 0 0 (MQ below Qc av.toArray s mc ms (gw_A G)) (F0 m 0 ls [])) :
    Met l y [.code y cc maxL ret] rm (gw_Pc G M av) Qc mc ms (gw_A G) := by
  refine Met.ofW (cc := cc) (maxL := maxL) (ret := ret) hy rfl ?_
  intro p e s m args below meth c s₁ B hml hv
  obtain ⟨rfl, hE, hB, hW⟩ := hv
  have hl := lv_entry av (n := maxL) hn
  rw [lg_entry_eq]
  generalize (lg_sl av ++ List.replicate (maxL - (lg_sl av).length) Slot.unset).toArray = ls at hl ⊢
  exact body p e s m below meth c B.exec B.bytes B.returns hml (findClass_of_methodNamed B.named) B.notSynchronized (name_of_methodNamed B.named B.method).1 hE hB hW ls hl
end GWS
section GWE
variable {p : Program} {l : Launch} {e : Env} {R : Room} {s : State} {m : MethodId} {args : Array Value} {below : List Frame} {meth : Method} {c : Code} {H : Heap} {locs : List Loc} {cells slots : Nat} {Q : State → Prop}
variable {G : gw_G} {M2 : gw_M} {mc ms pc : Nat} {cc : ByteArray} {ls : Array Slot} {st0 rest : List Value} {a : Array Value}
theorem gw_iret {post : Int32 → gw_M → Prop} {v : Int32} (hx : p.tables.exec = Jvm.exec) (hb : c.code = cc) (hr : meth.sig.returnType = some .int) (hlocks : meth.locks = false) (hS : va_S (gw_A G) s.heap H locs) (hW : gw_P G.1 vwCl G.2.2.2 M2 H) (hc : cells ≤ mc) (hs : slots ≤ ms) (hdg : decode cc pc = .ok (.ireturn, 1)) (hp : post v M2) :
    W p l e R s m args below meth c H locs cells slots (MQ below (gw_Qi G post) args s mc ms (gw_A G)) (F0 m pc ls [.int v]) :=
  W.widen hc hs (W.iret hx hb hr (fun t ht _ => ⟨⟨v, M2, rfl, hp, by show gw_P G.1 vwCl G.2.2.2 M2 t.heap; rw [ht]; exact hW⟩, hS.F ht⟩) hS.2.2 hdg hlocks)
theorem gw_zret {post : Int32 → gw_M → Prop} {v : Int32} {ty : FieldType} (hx : p.tables.exec = Jvm.exec) (hb : c.code = cc) (hr : meth.sig.returnType = some ty) (hlocks : meth.locks = false) (hn : narrow ty (.int v) = .int v) (hS : va_S (gw_A G) s.heap H locs) (hW : gw_P G.1 vwCl G.2.2.2 M2 H) (hc : cells ≤ mc) (hs : slots ≤ ms) (hdg : decode cc pc = .ok (.ireturn, 1)) (hp : post v M2) :
    W p l e R s m args below meth c H locs cells slots (MQ below (gw_Qi G post) args s mc ms (gw_A G)) (F0 m pc ls [.int v]) :=
  W.widen hc hs (W.zret hx hb hr hn (fun t ht _ => ⟨⟨v, M2, rfl, hp, by show gw_P G.1 vwCl G.2.2.2 M2 t.heap; rw [ht]; exact hW⟩, hS.F ht⟩) hS.2.2 hdg hlocks)
theorem gw_vret {post : gw_M → Prop} (hx : p.tables.exec = Jvm.exec) (hb : c.code = cc) (hr : meth.sig.returnType = none) (hlocks : meth.locks = false) (hS : va_S (gw_A G) s.heap H locs) (hW : gw_P G.1 vwCl G.2.2.2 M2 H) (hc : cells ≤ mc) (hs : slots ≤ ms) (hdg : decode cc pc = .ok (.return_, 1)) (hp : post M2) :
    W p l e R s m args below meth c H locs cells slots (MQ below (gw_Qv G post) args s mc ms (gw_A G)) (F0 m pc ls []) :=
  W.widen hc hs (W.vret hx hb hr (fun t ht _ => ⟨⟨M2, rfl, hp, by show gw_P G.1 vwCl G.2.2.2 M2 t.heap; rw [ht]; exact hW⟩, hS.F ht⟩) hS.2.2 hdg hlocks)
theorem gw_aret {post : Nat → gw_M → Prop} {v : Nat} {rt : FieldType} (hx : p.tables.exec = Jvm.exec) (hb : c.code = cc) (hr : meth.sig.returnType = some rt) (hlocks : meth.locks = false) (hrt : (∃ n, rt = .object n) ∨ ∃ t, rt = .array t) (hS : va_S (gw_A G) s.heap H locs) (hW : gw_P G.1 vwCl G.2.2.2 M2 H) (hc : cells ≤ mc) (hs : slots ≤ ms) (hdg : decode cc pc = .ok (.areturn, 1)) (hp : post v M2) :
    W p l e R s m args below meth c H locs cells slots (MQ below (gw_Qr G post) args s mc ms (gw_A G)) (F0 m pc ls [.ref v]) :=
  W.widen hc hs (W.aret hx hb hr hrt (Or.inr ⟨v, rfl⟩) (fun t ht _ => ⟨⟨(v, M2), v, rfl, hp, rfl, by rw [ht]; exact hW⟩, hS.F ht⟩) hS.2.2 hdg hlocks)
theorem gw_calli {post : Int32 → gw_M → Prop} (hS : va_S (gw_A G) s.heap H locs) (hr : va_Run p l e R s m args below meth c H locs cells slots mc ms (F0 m pc ls st0) rest (gw_Qi G post a) (gw_A G))
    (kk : ∀ (r : Int32) (M2 : gw_M) (H1 : Heap) (locs1 : List Loc), post r M2 → gw_P G.1 vwCl G.2.2.2 M2 H1 → va_S (gw_A G) s.heap H1 locs1 → W p l e R s m args below meth c H1 locs1 (cells + mc) (slots + ms) Q (F0 m (pc + 3) ls (.int r :: rest))) : W p l e R s m args below meth c H locs cells slots Q (F0 m pc ls st0) :=
  va_calli hr hS (fun _ _ h => h) (fun _ h => h) (fun r u t H1 locs1 ht _ hw hB _ _ hS1 => kk r u H1 locs1 hw (by rw [← ht]; exact hB) hS1)
theorem gw_callv {post : gw_M → Prop} (hS : va_S (gw_A G) s.heap H locs) (hr : va_Run p l e R s m args below meth c H locs cells slots mc ms (F0 m pc ls st0) rest (gw_Qv G post a) (gw_A G))
    (kk : ∀ (M2 : gw_M) (H1 : Heap) (locs1 : List Loc), post M2 → gw_P G.1 vwCl G.2.2.2 M2 H1 → va_S (gw_A G) s.heap H1 locs1 → W p l e R s m args below meth c H1 locs1 (cells + mc) (slots + ms) Q (F0 m (pc + 3) ls rest)) : W p l e R s m args below meth c H locs cells slots Q (F0 m pc ls st0) :=
  va_callv hr hS (fun _ _ h => h) (fun _ h => h) (fun u t H1 locs1 ht _ hw hB _ _ hS1 => kk u H1 locs1 hw (by rw [← ht]; exact hB) hS1)
theorem gw_callr {post : Nat → gw_M → Prop} (hS : va_S (gw_A G) s.heap H locs) (hr : va_Run p l e R s m args below meth c H locs cells slots mc ms (F0 m pc ls st0) rest (gw_Qr G post a) (gw_A G))
    (kk : ∀ (v : Nat) (M2 : gw_M) (H1 : Heap) (locs1 : List Loc), post v M2 → gw_P G.1 vwCl G.2.2.2 M2 H1 → va_S (gw_A G) s.heap H1 locs1 → W p l e R s m args below meth c H1 locs1 (cells + mc) (slots + ms) Q (F0 m (pc + 3) ls (.ref v :: rest))) : W p l e R s m args below meth c H locs cells slots Q (F0 m pc ls st0) := by
  refine va_callr hr hS (fun _ _ h => h) (fun _ h => h) (fun u ra t H1 locs1 ht _ hw hB _ _ hS1 => ?_)
  obtain ⟨e1, hB⟩ := hB
  subst e1
  exact kk u.1 u.2 H1 locs1 hw (by rw [← ht]; exact hB) hS1
end GWE
/-! what stays: the cells of the roles that P names are the same in both maps -/
def gw_fr (P : Nat → Prop) (M M2 : gw_M) : Prop := ∀ (a r : Nat) (e : va_E), P r → (M a = some (r, e) ↔ M2 a = some (r, e))
theorem gw_fr.rf {P : Nat → Prop} {M : gw_M} : gw_fr P M M := fun _ _ _ _ => Iff.rfl
theorem gw_fr.tr {P : Nat → Prop} {M M1 M2 : gw_M} (h1 : gw_fr P M M1) (h2 : gw_fr P M1 M2) : gw_fr P M M2 := fun a r e h => (h1 a r e h).trans (h2 a r e h)
theorem gw_fr.up {P : Nat → Prop} {M M1 : gw_M} {a ra r : Nat} {e0 e : va_E} (h : gw_fr P M M1) (ha : M1 a = some (ra, e0)) (h0 : ¬ P ra) (h1 : ¬ P r) : gw_fr P M (gw_up M1 a r e) := by
  intro b rb eb hb
  rw [h b rb eb hb]
  by_cases q : b = a
  · subst q
    rw [gw_up_self, ha]
    exact Iff.intro (fun z => by cases z; exact absurd hb h0) (fun z => by cases z; exact absurd hb h1)
  · rw [gw_up_ne q]
theorem gw_fr.new {P : Nat → Prop} {M M1 : gw_M} {a r : Nat} {e : va_E} (h : gw_fr P M M1) (ha : M1 a = none) (h1 : ¬ P r) : gw_fr P M (gw_up M1 a r e) := by
  intro b rb eb hb
  rw [h b rb eb hb]
  by_cases q : b = a
  · subst q
    rw [gw_up_self, ha]
    exact Iff.intro (fun z => by cases z) (fun z => by cases z; exact absurd hb h1)
  · rw [gw_up_ne q]
abbrev gw_out (L : List Nat) (r : Nat) : Prop := r ∉ L
theorem gw_fr.wk {L L0 : List Nat} {M M2 : gw_M} (h : gw_fr (gw_out L) M M2) (hs : ∀ x ∈ L, x ∈ L0) : gw_fr (gw_out L0) M M2 := fun a r e hr => h a r e (fun z => hr (hs r z))
theorem gw_good {w : Cond} (h : w ∈ gw_N0) (hg : goodWord w = true) : w ∈ gw_N0 ∧ ((w.onTables && w.keeps) = true ∨ ∃ ty, w = .arrayClass ty) := ⟨h, good_of_word hg⟩
theorem gw_g1 {w : Cond} (h : w ∈ gw_N0) (hg : goodWord w = true := by rfl) : GoodIn gw_N0 [w] := fun x hx => by
  rcases List.mem_cons.mp hx with rfl | hx
  · exact gw_good h hg
  · cases hx
theorem gw_gv {own C : String} {idx : Nat} {y : MethodName} {w : Cond} (h1 : Cond.methodLink own idx y ∈ gw_N0) (h2 : Cond.instanceMethod y ∈ gw_N0) (h3 : Cond.selects C y y ∈ gw_N0) (h4 : Cond.initialized C ∈ gw_N0) (h5 : w ∈ gw_N0) (hg : goodWord w = true := by rfl) : GoodIn gw_N0 (wsV own idx C y [w]) := fun x hx => by
  unfold wsV at hx
  simp only [List.cons_append, List.nil_append, List.mem_cons, List.not_mem_nil, or_false] at hx
  rcases hx with rfl | rfl | rfl | rfl | rfl
  · exact gw_good h1 rfl
  · exact gw_good h2 rfl
  · exact gw_good h3 rfl
  · exact gw_good h4 rfl
  · exact gw_good h5 hg
theorem gw_gs {own : String} {idx : Nat} {y : MethodName} {w : Cond} (h1 : Cond.methodLink own idx y ∈ gw_N0) (h2 : Cond.static y ∈ gw_N0) (h3 : Cond.initialized own ∈ gw_N0) (h5 : w ∈ gw_N0) (hg : goodWord w = true := by rfl) : GoodIn gw_N0 (wsS own idx y [w]) := fun x hx => by
  unfold wsS at hx
  simp only [List.cons_append, List.nil_append, List.mem_cons, List.not_mem_nil, or_false] at hx
  rcases hx with rfl | rfl | rfl | rfl
  · exact gw_good h1 rfl
  · exact gw_good h2 rfl
  · exact gw_good h3 rfl
  · exact gw_good h5 hg
theorem gw_gt {own : String} {idx : Nat} {y : MethodName} {w : Cond} (h1 : Cond.methodLink own idx y ∈ gw_N0) (h2 : Cond.static y ∈ gw_N0) (h3 : Cond.initialized y.cls ∈ gw_N0) (h5 : w ∈ gw_N0) (hg : goodWord w = true := by rfl) : GoodIn gw_N0 (va_wsS own idx y [w]) := fun x hx => by
  unfold va_wsS at hx
  simp only [List.cons_append, List.nil_append, List.mem_cons, List.not_mem_nil, or_false] at hx
  rcases hx with rfl | rfl | rfl | rfl
  · exact gw_good h1 rfl
  · exact gw_good h2 rfl
  · exact gw_good h3 rfl
  · exact gw_good h5 hg
theorem in_X1 : ∀ w ∈ u_ws "Generations" F_X 9, w ∈ lw_tbl := by decide +kernel
theorem in_X : ∀ w ∈ u_ws "Generations" F_X 9, w ∈ gw_N0 := fun w h => gw_in (in_X1 w h) (List.all_eq_true.mp (show (u_ws "Generations" F_X 9).all gw_gk = true by decide +kernel) w h)
theorem in_Row1 : ∀ w ∈ u_ws "Generations$Row" F_Row 2, w ∈ lw_tbl := by decide +kernel
theorem in_Row : ∀ w ∈ u_ws "Generations$Row" F_Row 2, w ∈ gw_N0 := fun w h => gw_in (in_Row1 w h) (List.all_eq_true.mp (show (u_ws "Generations$Row" F_Row 2).all gw_gk = true by decide +kernel) w h)
theorem in_Gen1 : ∀ w ∈ u_ws "Generations$Generation" F_Gen 5, w ∈ lw_tbl := by decide +kernel
theorem in_Gen : ∀ w ∈ u_ws "Generations$Generation" F_Gen 5, w ∈ gw_N0 := fun w h => gw_in (in_Gen1 w h) (List.all_eq_true.mp (show (u_ws "Generations$Generation" F_Gen 5).all gw_gk = true by decide +kernel) w h)
theorem in_Job1 : ∀ w ∈ u_ws "Generations$Job" F_Job 2, w ∈ lw_tbl := by decide +kernel
theorem in_Job : ∀ w ∈ u_ws "Generations$Job" F_Job 2, w ∈ gw_N0 := fun w h => gw_in (in_Job1 w h) (List.all_eq_true.mp (show (u_ws "Generations$Job" F_Job 2).all gw_gk = true by decide +kernel) w h)
theorem in_AL1 : ∀ w ∈ u_ws "java/util/ArrayList" F_AL 3, w ∈ lw_tbl := by decide +kernel
theorem in_AL : ∀ w ∈ u_ws "java/util/ArrayList" F_AL 3, w ∈ gw_N0 := fun w h => gw_in (in_AL1 w h) (List.all_eq_true.mp (show (u_ws "java/util/ArrayList" F_AL 3).all gw_gk = true by decide +kernel) w h)
theorem in_Mo1 : ∀ w ∈ u_ws "GenerationsModel" F_Mo 15, w ∈ lw_tbl := by decide +kernel
theorem in_Mo : ∀ w ∈ u_ws "GenerationsModel" F_Mo 15, w ∈ gw_N0 := fun w h => gw_in (in_Mo1 w h) (List.all_eq_true.mp (show (u_ws "GenerationsModel" F_Mo 15).all gw_gk = true by decide +kernel) w h)
end
section
/-! numbers: what the document's answers on a fresh object are -/
def gx_num (k : Int32) : Int32 := if 1 ≤ k ∧ k ≤ 9999 then 1 else 0
theorem gx_num0 {k : Int32} (h : k < 1) : gx_num k = 0 := if_neg (fun q => by
  have h1 := Int32.lt_iff_toInt_lt.mp h
  have h2 := Int32.le_iff_toInt_le.mp q.1
  omega)
theorem gx_num0' {k : Int32} (h : 9999 < k) : gx_num k = 0 := if_neg (fun q => by
  have h1 := Int32.lt_iff_toInt_lt.mp h
  have h2 := Int32.le_iff_toInt_le.mp q.2
  omega)
theorem gx_num1 {k : Int32} (h : ¬ k < 1) (h2 : ¬ 9999 < k) : gx_num k = 1 := if_pos ⟨by
  rw [Int32.lt_iff_toInt_lt] at h
  rw [Int32.le_iff_toInt_le]
  omega, by
  rw [Int32.lt_iff_toInt_lt] at h2
  rw [Int32.le_iff_toInt_le]
  omega⟩
theorem gx_ne0 {k : Int32} (h : ¬ gx_num k = 0) : ¬ (0 : Int32) = k := fun e => h (by rw [← e]; decide)
def gx_cat (k : Int32) : Int32 := if gx_num k = 0 then -1 else 1
theorem gx_cat0 {k : Int32} (h : gx_num k = 0) : gx_cat k = -1 := if_pos h
theorem gx_cat1 {k : Int32} (h : ¬ gx_num k = 0) : gx_cat k = 1 := if_neg h
def gx_st (k : Int32) : Int32 := if gx_num k = 0 then -1 else 0
theorem gx_st0 {k : Int32} (h : gx_num k = 0) : gx_st k = -1 := if_pos h
theorem gx_st1 {k : Int32} (h : ¬ gx_num k = 0) : gx_st k = 0 := if_neg h
def gx_cnt (k : Int32) : Int32 := if 0 ≤ k ∧ k ≤ 5 then 0 else -1
theorem gx_cntO {k : Int32} (h : k.toInt < 0 ∨ 5 < k.toInt) : gx_cnt k = -1 := if_neg (fun q => by
  have h1 : (0 : Int) ≤ k.toInt := Int32.le_iff_toInt_le.mp q.1
  have h2 : k.toInt ≤ 5 := Int32.le_iff_toInt_le.mp q.2
  omega)
theorem gx_pos {k : Int32} (h : ¬ k < 1) : ¬ k ≤ 0 := fun q => by
  have h1 : k.toInt ≤ 0 := Int32.le_iff_toInt_le.mp q
  have h2 : ¬ k.toInt < 1 := fun z => h (Int32.lt_iff_toInt_lt.mpr z)
  omega
theorem gx_nn {k : Int32} (h : ¬ k < 0) : 0 ≤ k := by
  have h2 : ¬ k.toInt < 0 := fun z => h (Int32.lt_iff_toInt_lt.mpr z)
  exact Int32.le_iff_toInt_le.mpr (by show (0 : Int) ≤ k.toInt; omega)
theorem gx_eqI {k : Int32} (n : Int32) (h : k.toInt = n.toInt) : k = n := Int32.toInt_inj.mp h
theorem gx_sw5 (k : Int32) : (k.toInt < 0 ∨ 5 < k.toInt) ∨ k = 0 ∨ k = 1 ∨ k = 2 ∨ k = 3 ∨ k = 4 ∨ k = 5 := by
  have h : (k.toInt < 0 ∨ 5 < k.toInt) ∨ k.toInt = 0 ∨ k.toInt = 1 ∨ k.toInt = 2 ∨ k.toInt = 3 ∨ k.toInt = 4 ∨ k.toInt = 5 := by omega
  rcases h with h | h | h | h | h | h | h
  · exact Or.inl h
  · exact Or.inr (Or.inl (gx_eqI 0 h))
  · exact Or.inr (Or.inr (Or.inl (gx_eqI 1 h)))
  · exact Or.inr (Or.inr (Or.inr (Or.inl (gx_eqI 2 h))))
  · exact Or.inr (Or.inr (Or.inr (Or.inr (Or.inl (gx_eqI 3 h)))))
  · exact Or.inr (Or.inr (Or.inr (Or.inr (Or.inr (Or.inl (gx_eqI 4 h))))))
  · exact Or.inr (Or.inr (Or.inr (Or.inr (Or.inr (Or.inr (gx_eqI 5 h))))))
/-- the limit that is kept is 1 or more -/
theorem gx_lim (q : Int32) : ¬ (if 1 < q then q else (1 : Int32)) < 0 + 1 := by
  by_cases h : 1 < q
  · rw [if_pos h]
    intro z
    have h1 := Int32.lt_iff_toInt_lt.mp h
    have h2 := Int32.lt_iff_toInt_lt.mp z
    have e1 : (1 : Int32).toInt = 1 := by decide
    have e2 : ((0 : Int32) + 1).toInt = 1 := by decide
    omega
  · rw [if_neg h]
    decide
theorem gm_num0 {k : Int32} (h : k ≤ 0) : gx_num k = 0 := if_neg (fun q => by
  have h1 := Int32.le_iff_toInt_le.mp h
  have h2 := Int32.le_iff_toInt_le.mp q.1
  have e0 : (0 : Int32).toInt = 0 := by decide
  have e1 : (1 : Int32).toInt = 1 := by decide
  omega)
theorem gm_num1 {k : Int32} (h : ¬ k ≤ 0) (h2 : ¬ 9999 < k) : gx_num k = 1 := if_pos ⟨by
  rw [Int32.le_iff_toInt_le] at h
  rw [Int32.le_iff_toInt_le]
  have e0 : (0 : Int32).toInt = 0 := by decide
  have e1 : (1 : Int32).toInt = 1 := by decide
  omega, by
  rw [Int32.lt_iff_toInt_lt] at h2
  rw [Int32.le_iff_toInt_le]
  omega⟩
theorem gm_lim {p : Int32} (h : 1 ≤ p) : ¬ p < 0 + 1 := fun z => by
  have h1 := Int32.le_iff_toInt_le.mp h
  have h2 := Int32.lt_iff_toInt_lt.mp z
  have e1 : (1 : Int32).toInt = 1 := by decide
  have e2 : ((0 : Int32) + 1).toInt = 1 := by decide
  omega
theorem gm_pos {k : Int32} (h : ¬ k ≤ 0) : 0 < k := by
  rw [Int32.le_iff_toInt_le] at h
  rw [Int32.lt_iff_toInt_lt]
  omega
theorem gx_in {k : Int32} (h : ¬ gx_num k = 0) : vp_in k 10000 := by
  have h1 : 1 ≤ k ∧ k ≤ 9999 := Classical.byContradiction (fun q => h (if_neg q))
  have h2 := Int32.le_iff_toInt_le.mp h1.1
  have h3 := Int32.le_iff_toInt_le.mp h1.2
  have e1 : (1 : Int32).toInt = 1 := by decide
  have e2 : (9999 : Int32).toInt = 9999 := by decide
  exact vp_in_iff.mpr ⟨by omega, by omega⟩
theorem gx_le9 {k : Nat} (h : ¬ (9999 : Int32) < nI k) (hk : k ≤ 10000) : k ≤ 9999 := by
  rcases Nat.lt_or_ge 9999 k with q | q
  · exact absurd (show nI 9999 < nI k from nI_lt q (by omega)) h
  · exact q
end
section
/-! METHODS THAT THROW AN IllegalArgumentException (and never return, as these do on a fresh object), and its catching -/
def gt_X (G : gw_G) (px : gw_M → Prop) (st t : State) : Prop := ∃ M2 : gw_M, px M2 ∧ gw_P G.1 vwCl G.2.2.2 M2 t.heap ∧ va_F (gw_A G) st t
def gt_Q (G : gw_G) (px : gw_M → Prop) (mc ms : Nat) : Array Value → State → Outcome → State → Prop := fun _ st o t =>
  ∃ (q : Addr) (ce : Cell) (L : List Loc), o = .threw q ∧ gt_X G px st t ∧ t.heap[q]? = some ce ∧ ce.vm = .none ∧ st.vm.findClass "java/lang/IllegalArgumentException" = some ce.cls ∧ st.WarmedH t.vm ∧ st.sameButNew ({ t with vm := st.vm } : State) L mc ms ∧ ∀ z ∈ L, gw_A G z.base
def gt_Met (l : Launch) (y : MethodName) (ws : List Cond) (rm : Room) (G : gw_G) (M : gw_M) (av : List Value) (px : gw_M → Prop) (mc ms : Nat) : Prop :=
  MetFree l y (headSpec ws rm) (gw_Pc G M av) (fun _ _ _ _ _ => True) (gt_Q G px mc ms)
def gt_MQ (below : List Frame) (G : gw_G) (px : gw_M → Prop) (a : Array Value) (s : State) (mc ms : Nat) : State → Prop := fun t => ∃ o, t.status = .running ∧ Ended t below o ∧ gt_Q G px mc ms a s o t
def gt_W (p : Program) (l : Launch) (e : Env) (R : Room) (s : State) (m : MethodId) (args : Array Value) (below : List Frame) (meth : Method) (c : Code) (H : Heap) (locs : List Loc) (cells slots : Nat) (Q : State → Prop) (g : JFrame) (q : Addr) : Prop :=
  ∀ T : State, T.heap = H → Stand p l e R s m args below meth c T locs cells slots → ∃ t, Steps p.tables e below ((T.setTop g).pushFrame (.throwing q)) t ∧ Q t
section GTS
variable {l : Launch} {y : MethodName} {rm : Room} {G : gw_G} {M : gw_M} {av : List Value} {px : gw_M → Prop} {mc ms : Nat} {cc : ByteArray} {maxL : Nat} {ret : Option FieldType}
theorem gt_start (hy : plainName y.cls = true) (hn : (lg_sl av).length ≤ maxL)
    (body : ∀ (p : Program) (e : Env) (s : State) (m : MethodId) (below : List Frame) (meth : Method) (c : Code), (∀ x ∈ c.exceptionTable.toList, False) → p.tables.exec = Jvm.exec → c.code = cc → meth.sig.returnType = ret → c.maxLocals = maxL → s.vm.findClass y.cls = some m.cls → meth.locks = false → meth.name = y.name → gw_E G s → G.2.2.2 ≤ s.heap.size → gw_P G.1 vwCl G.2.2.2 M s.heap →
      ∀ ls : Array Slot, lv_has ls maxL (lv_args 0 av) → W p l e rm s m av.toArray below meth c s.heap [] 0 0 (gt_MQ below G px av.toArray s mc ms) (F0 m 0 ls [])) :
    gt_Met l y [.code y cc maxL ret] rm G M av px mc ms := by
  refine MetFree.of_bodyS (code := cc) (maxLocals := maxL) (ret := ret) hy ?_ ?_
  · intro args s m h hnm
    obtain ⟨meth, c, h1, h2, h3, h4, h5, h6, -, -⟩ := Cond.code_spec hnm (atoms_spec (ws := [.code y cc maxL ret]) h _ List.mem_cons_self)
    exact ⟨meth, c, h1, h2, h3, h4, h5, h6⟩
  · intro p e s m args below meth c s₁ B hml hv _
    obtain ⟨rfl, hE, hB, hW⟩ := hv
    have htab : ∀ x ∈ c.exceptionTable.toList, False := by
      obtain ⟨meth9, c9, h1, h2, -, -, -, -, h7, -⟩ := Cond.code_spec B.named (atoms_spec (ws := [.code y cc maxL ret]) B.pre _ List.mem_cons_self)
      cases Option.some.inj (h1.symm.trans B.method)
      cases Option.some.inj (h2.symm.trans (Stand.of_body B).code)
      intro x hx
      rw [Array.isEmpty_iff.mp h7] at hx
      cases hx
    have hh0 : s₁.heap = s.heap := by rw [B.state]; rfl
    have hl := lv_entry av (n := maxL) hn
    have K := lg_entry_eq m av maxL
    generalize (lg_sl av ++ List.replicate (maxL - (lg_sl av).length) Slot.unset).toArray = ls at hl K
    obtain ⟨t, a1, o, b1, b2, b3⟩ := body p e s m below meth c htab B.exec B.bytes B.returns hml (findClass_of_methodNamed B.named) B.notSynchronized (name_of_methodNamed B.named B.method).1 hE hB hW ls hl s₁ hh0 (Stand.of_body B)
    rw [K]
    exact ⟨t, o, a1, b1, b2, b3⟩
end GTS
section GTC
variable {p : Program} {l : Launch} {e : Env} {R : Room} {s : State} {m : MethodId} {args : Array Value} {below : List Frame} {meth : Method} {c : Code} {locs : List Loc} {cells slots : Nat}
/-- a callee of any outcome, from the state in which it is invoked -/
theorem gt_core {y : MethodName} {ws : List Cond} {rm : Room} {Pc : Array Value → State → Prop} {Qy : Array Value → State → Outcome → State → Prop} {bytes : ByteArray} {maxL mc ms : Nat} {ret : Option FieldType} (hM : MetFree l y (headSpec ws rm) Pc (fun _ _ _ _ _ => True) Qy) (hbl : FrameBlind Pc) (hrc : rm.cells = mc) (hrs : rm.slots = ms) (hfr : rm.frames + 1 ≤ R.frames) (hlo : 8 + (maxL + 11) + rm.locals ≤ R.locals)
    (hws : ∀ w ∈ ws, ∀ (a' : Array Value) (U : State), s.WarmedH U.vm → w.before a' U = true) (hcode : Cond.code y bytes maxL ret ∈ ws) (hini : ∀ (a' : Array Value) (U : State), s.WarmedH U.vm → (Cond.initialized y.cls).before a' U = true)
    {U : State} (X : Stand p l e R s m args below meth c U locs cells slots) {g : JFrame} (hg : g.method = m) (hsz : g.locals.size = c.maxLocals) {ig : Instr} {len : Nat} (hdg : decode c.code g.pc = .ok (ig, len)) (hw : 2 * g.monitorRoom + (g.stack.map fun v => v.category).sum ≤ 8) {mk : MethodId} (hn : U.methodNamed? y = some mk) {a : Array Value} (hc1 : cells + mc ≤ R.cells) (hc2 : slots + ms ≤ R.slots) (hp : Pc a U) :
    ∃ (o : Outcome) (s₂ : State), Steps p.tables e below (doInvoke e (U.setTop g) [] mk a).1 s₂ ∧ Ended s₂ (.java g :: U.frames.tail) o ∧ Qy a (U.calling g mk a) o s₂ := by
  obtain ⟨methY, cY, hmY, hcY, -, hlY, -, -, -, -⟩ := Cond.code_spec hn (hws _ hcode a U X.warmed)
  obtain ⟨kY, hkY, -⟩ := className_of_methodNamed hn
  have hiY : kY.init = .initialized := Cond.initialized_spec (findClass_of_methodNamed hn) hkY (hini a U X.warmed)
  have hat : At U g.method c below := by rw [hg]; exact X.here
  have hroom := X.room_calling (g := g) (args' := a) (R' := (headSpec ws rm).room) hsz hmY hcY hfr (by rw [hlY]; show _ + rm.locals ≤ R.locals; omega) (by rw [show (headSpec ws rm).room.cells = mc from hrc]; exact hc1) (by rw [show (headSpec ws rm).room.slots = ms from hrs]; exact hc2)
  have happ : (headSpec ws rm).appliesLoose y e.platform (U.calling g mk a) = true := Spec.appliesLoose_calling (g := g) hat hdg hn hkY hiY hroom (atoms_intro fun w hw9 => hws w hw9 _ _ X.warmed)
  obtain ⟨mid, hmid⟩ := hat.above
  have hall : (U.setTop g).frames = (.java g :: mid) ++ below := by rw [State.frames_setTop' g hat.top, hmid]; rfl
  obtain ⟨o, s₂, hst, -, hend, hq⟩ := Steps.callFree hM p X.admits X.cas X.clock (acts := []) hall happ (hbl _ _ _ _ hp) trivial
  rw [State.frames_setTop' g hat.top] at hend
  exact ⟨o, s₂, hst, hend, hq⟩
/-- it threw: the caller stands, with the exception on its way above it -/
theorem gt_thr {U : State} (X : Stand p l e R s m args below meth c U locs cells slots) {g : JFrame} (hg : g.method = m) {q : Addr} {s₂ : State} {mk : MethodId} {a : Array Value} (hend : Ended s₂ (.java g :: U.frames.tail) (.threw q)) (hwm : (U.calling g mk a).WarmedH s₂.vm) {L : List Loc} {mc ms : Nat} (hsm : (U.calling g mk a).sameButNew ({ s₂ with vm := (U.calling g mk a).vm } : State) L mc ms) :
    ∃ T' : State, Stand p l e R s m args below meth c T' (locs ++ L) (cells + mc) (slots + ms) ∧ T'.heap = s₂.heap ∧ T'.vm = s₂.vm ∧ s₂ = (T'.setTop g).pushFrame (.throwing q) := by
  have hat : At U g.method c below := by rw [hg]; exact X.here
  have hwU : U.WarmedH s₂.vm := hwm
  obtain ⟨e2, q2, q3, q4, q5, q6⟩ := id hsm
  obtain ⟨g₀, hg0⟩ := Option.isSome_iff_exists.mp hat.top
  obtain ⟨r, hr⟩ := State.topJava?_eq_some.mp hg0
  have hf₂ : s₂.frames = .throwing q :: .java g :: U.frames.tail := hend
  have e3 : s₂ = ({ (U.calling g mk a).setFrames s₂.frames with heap := s₂.heap, slotsUsed := s₂.slotsUsed } : State).setVm s₂.vm := by
    have h9 : s₂ = ({ s₂ with vm := (U.calling g mk a).vm } : State).setVm s₂.vm := rfl
    rw [e2] at h9
    exact h9
  have hr' : (({ U with heap := s₂.heap, slotsUsed := s₂.slotsUsed } : State).setVm s₂.vm).frames = .java g₀ :: r := hr
  have hsame : U.sameButNew ({ U with heap := s₂.heap, slotsUsed := s₂.slotsUsed } : State) L mc ms := by
    obtain ⟨t, ht, -⟩ := State.frames_cons hr
    refine ⟨?_, q2, q3, q4, q5, q6⟩
    show ({ U with heap := s₂.heap, slotsUsed := s₂.slotsUsed } : State) = { U.setFrames U.frames with heap := s₂.heap, slotsUsed := s₂.slotsUsed }
    rw [State.setFrames_self ht]
  subst hg
  refine ⟨({ U with heap := s₂.heap, slotsUsed := s₂.slotsUsed } : State).setVm s₂.vm, ⟨X.admits, X.cas, X.clock, X.frames, X.room, X.hears, X.method, X.code, (X.here.setHeapUsed s₂.heap s₂.slotsUsed).setVm hwU.alike, X.tail, State.WarmedH.trans X.warmed hwU, X.limits, X.bytes, X.same.trans (hsame.setVm s.vm)⟩, rfl, rfl, ?_⟩
  refine e3.trans ?_
  rw [hf₂, State.calling_eq hat.top, State.setFrames_setFrames, State.pushFrame, State.frames_setTop _ hr', State.setTop_of_frames _ hr', State.setFrames_setFrames, hr]
  rfl
variable {H : Heap} {Q : State → Prop} {G : gw_G} {px : gw_M → Prop} {pc : Nat} {ls : Array Slot} {rest : List Value} {mc ms : Nat} {cc : ByteArray}
/-- a call of an instance method that throws -/
theorem gt_callV {y : MethodName} {bytes : ByteArray} {maxL nL n index : Nat} {ret : Option FieldType} {ws : List Cond} {rm : Room} {Ts : List Cond} {own C : String} {M : gw_M} {b : Addr} {As : List Value} (hS : va_S (gw_A G) s.heap H locs) (S : CallFix p m c cc nL s args Ts own) (hM : gt_Met l y ws rm G M (.ref b :: As) px mc ms) (cw : CallW R s args own C index y bytes maxL ret ws rm mc ms n) (hp : PreV s H C b (gw_Pc G M (.ref b :: As)) As)
    (hn : As.length = n) (hsize : ls.size = nL) {st0 : List Value} (hstack : st0 = As.reverse ++ .ref b :: rest) (hw : 2 * (F0 m pc ls rest).monitorRoom + (rest.map fun v => v.category).sum ≤ 8) (hdg : decode cc pc = .ok (.invokevirtual index, 3)) (hf : cells + mc ≤ R.cells ∧ slots + ms ≤ R.slots)
    (kx : ∀ (ce : Cell) (q : Addr) (M2 : gw_M) (H1 : Heap) (locs1 : List Loc), px M2 → gw_P G.1 vwCl G.2.2.2 M2 H1 → va_S (gw_A G) s.heap H1 locs1 → H1[q]? = some ce → ce.vm = .none → s.vm.findClass "java/lang/IllegalArgumentException" = some ce.cls → gt_W p l e R s m args below meth c H1 locs1 (cells + mc) (slots + ms) Q (F0 m pc ls rest) q) :
    W p l e R s m args below meth c H locs cells slots Q (F0 m pc ls st0) := by
  subst hstack
  obtain ⟨⟨hrc, hrs, hfr, hlo, hws, hcw, hcode, hini, hy, hlen, hl⟩, hin, hse⟩ := cw
  obtain ⟨hx, hb, hml, ho, -⟩ := S
  obtain ⟨hbl, ⟨cellB, hcB, hoB, hclB⟩, hPc⟩ := hp
  obtain ⟨mk, methM, hnamed, hmethM, hstM, habM⟩ := Cond.instanceMethod_spec hin
  obtain ⟨methM', cM, hmethM', -, -, -, -, -, -, hsigM⟩ := Cond.code_spec hnamed hcode
  cases hmethM.symm.trans hmethM'
  obtain ⟨c2, r2, m2, q1, q2, q3, q4, kP, hkP, hkPi⟩ := Cond.selects_spec hse
  cases hclB.symm.trans q1
  cases (State.methodFound?_of_named hnamed hy).symm.trans q2
  cases hnamed.symm.trans q3
  intro T hT X
  have hselP : selectMethod e.platform s.vm cellB.cls mk = .method mk := by rw [Launch.admits_selectMethod X.admits]; exact q4
  obtain ⟨vm₁, X₁, hstep⟩ := X.invokevirtual hx ho hl hnamed hmethM hstM hkP hkPi hy (a := b) (cell := cellB) (by rw [hT]; exact hcB) (fun z h => by rw [h] at hoB; cases hoB) hselP hmethM habM hkP hkPi (g := F0 m pc ls (As.reverse ++ .ref b :: rest)) rfl (argsL := As) (rest := rest) (hn.trans (hlen _ hsigM)) rfl (by rw [hb]; exact hdg)
  have hini9 : ∀ (a' : Array Value) (U : State), s.WarmedH U.vm → (Cond.initialized y.cls).before a' U = true := fun a' U hW => word_at hW (Or.inl (by first | rfl | simp [Cond.onTables, Cond.keeps, Cond.steady])) hini
  obtain ⟨o, s₂, hst, hend, q, ce, L, rfl, ⟨M2, hpx, hW2, hF⟩, hce, hcv, hcl, hwm, hsm, hL⟩ := gt_core hM hbl hrc hrs hfr hlo hws hcw hini9 X₁ (g := { F0 m pc ls (As.reverse ++ .ref b :: rest) with stack := rest }) rfl (hsize.trans hml.symm) (by rw [hb]; exact hdg) hw (X₁.named hnamed) (a := (Value.ref b :: As).toArray) hf.1 hf.2 (hPc (T.setVm vm₁) hT X₁.warmed)
  obtain ⟨T', XT, h1, h2, h3⟩ := gt_thr X₁ (g := { F0 m pc ls (As.reverse ++ .ref b :: rest) with stack := rest }) rfl hend hwm hsm
  have hcl9 : s.vm.findClass "java/lang/IllegalArgumentException" = some ce.cls := by
    have h9 : (T.setVm vm₁).vm.findClass "java/lang/IllegalArgumentException" = some ce.cls := hcl
    rw [X₁.warmed.alike.findClass] at h9
    exact h9
  have hz : H.size ≤ s₂.heap.size := by
    have h9 : T.heap.size ≤ s₂.heap.size := hF.1
    rw [hT] at h9
    exact h9
  have hk : ∀ z : Nat, z < H.size → ¬ gw_A G z → s₂.heap[z]? = H[z]? := fun z z1 z2 => by
    have h9 := hF.2 z (show z < T.heap.size by rw [hT]; exact z1) z2
    have h8 : s₂.heap[z]? = T.heap[z]? := h9
    rw [hT] at h8
    exact h8
  have hS1 : va_S (gw_A G) s.heap s₂.heap (locs ++ L) := ⟨Nat.le_trans hS.1 hz, fun z z1 z2 => (hk z (Nat.lt_of_lt_of_le z1 hS.1) z2).trans (hS.2.1 z z1 z2), fun z hz9 => (List.mem_append.mp hz9).elim (hS.2.2 z) (hL z)⟩
  obtain ⟨t, a1, b1⟩ := kx ce q M2 s₂.heap (locs ++ L) hpx hW2 hS1 hce hcv hcl9 T' h1 XT
  refine ⟨t, ?_, b1⟩
  refine hstep _ fun acts => ?_
  rw [doInvoke_state]
  exact hst.trans (by rw [h3]; exact a1)
/-- not caught here: it goes on -/
theorem gt_out {ce : Cell} {q : Addr} {M2 : gw_M} (hEx : ∀ x ∈ c.exceptionTable.toList, False) (hlocks : meth.locks = false) (hcell : H[q]? = some ce) (hv : ce.vm = .none) (hcl : s.vm.findClass "java/lang/IllegalArgumentException" = some ce.cls) (hS : va_S (gw_A G) s.heap H locs) (hW : gw_P G.1 vwCl G.2.2.2 M2 H) (hp : px M2) (hc : cells ≤ mc) (hs : slots ≤ ms) :
    gt_W p l e R s m args below meth c H locs cells slots (gt_MQ below G px args s mc ms) (F0 m pc ls rest) q := by
  intro T hT X
  obtain ⟨st1, hrun, hend, hWm, hsm⟩ := X.leaveThrown q (g := F0 m pc ls rest) rfl rfl rfl (fun x hx => (hEx x hx).elim) hlocks
  refine ⟨_, st1, .threw q, hrun, hend, q, ce, locs, rfl, ⟨M2, hp, ?_, ?_⟩, ?_, hv, hcl, hWm, hsm.mono hc hs, hS.2.2⟩
  · show gw_P G.1 vwCl G.2.2.2 M2 T.heap
    rw [hT]; exact hW
  · exact hS.F (t := T.setFrames (.throwing q :: below)) hT
  · show T.heap[q]? = some ce
    rw [hT]; exact hcell
/-- 'throw new IllegalArgumentException(text)', nothing made or written before it in this method -/
theorem gt_throwS {own text : String} {names : List String} {ik is ic sa : Nat} {M : gw_M} (hexec : p.tables.exec = Jvm.exec) (hb : c.code = cc) (hl : l.stackTraces = false) (hown : s.vm.findClass own = some m.cls) (hnames : ∀ n ∈ names, Bundle.fit n = true)
    (hk : (Cond.classLink own ik "java/lang/IllegalArgumentException").before args s = true) (hini : (Cond.initialized "java/lang/IllegalArgumentException").before args s = true) (hs1 : (Cond.stringRef own is text).before args s = true) (hs2 : (Term.string own is).eval args s none [] s = some (.ref sa))
    (hat : ∀ w ∈ Bundle.ownAtoms own ic "java/lang/IllegalArgumentException" names, w.before args s = true) (hsize : ls.size = c.maxLocals)
    (d0 : decode cc pc = .ok (.new ik, 3)) (d3 : decode cc (pc + 3) = .ok (.dup, 1)) (d4 : decode cc (pc + 4) = .ok (.ldc is, 2)) (d6 : decode cc (pc + 6) = .ok (.invokespecial ic, 3)) (d9 : decode cc (pc + 9) = .ok (.athrow, 1))
    (hEx : ∀ x ∈ c.exceptionTable.toList, False) (hRf : names.length + 3 < R.frames) (hRl : (rest.map fun v => v.category).sum + (13 * (names.length + 1) + 43) ≤ R.locals) (hRc : 1 ≤ R.cells) (hRs : 6 ≤ R.slots) (hlocks : meth.locks = false) (hW : gw_P G.1 vwCl G.2.2.2 M s.heap) (hp : px M) :
    W p l e R s m args below meth c s.heap [] 0 0 (gt_MQ below G px args s 1 6) (F0 m pc ls rest) := by
  intro T hT X
  have htr : e.platform.stackTraces = false := (show e.platform.stackTraces = l.stackTraces by rw [X.admits.platform]).trans hl
  have hins : (Cond.instantiable "java/lang/IllegalArgumentException" 6).before args s = true := hat _ (by simp [Bundle.ownAtoms])
  obtain ⟨vm₁, cX, kX, hfX, hkX, -, -, X₁, st1⟩ := X.newCold hexec (own := own) (C := "java/lang/IllegalArgumentException") (index := ik) (n := 6) hown hk hins hini (g := F0 m pc ls rest) rfl (by rw [hb]; exact d0) (by omega) (by omega)
  generalize hT1 : (T.setVm vm₁).pushCell { cls := cX, slots := kX.instanceTypes.map defaultValue, vm := .none } = T1 at X₁ st1
  have hcat : (Value.ref T.heap.size).category = 1 := rfl
  have hcellA : T1.heap[T.heap.size]? = some (freshCell cX kX) := by rw [← hT1]; exact State.heap_pushCell_size _ _
  have d3' : decode c.code (pc + 3) = .ok (.dup, 1) := by rw [hb]; exact d3
  have d4' : decode c.code (pc + 4) = .ok (.ldc is, 2) := by rw [hb]; exact d4
  obtain ⟨U, hsteps, hrun, hend, hWm, hsame, ce, hce, hO⟩ := X₁.ctorThrowS hexec htr (own := own) (cls := "java/lang/IllegalArgumentException") (names := names) (ic := ic) hown (by decide +kernel) hnames hat (fun x hx => nomatch hx) hfX hkX hcellA (by rw [hT]; exact Nat.le_refl _) (msg := .ref sa) rfl
    (g := { method := m, pc := pc + 6, locals := ls, stack := .ref sa :: .ref T.heap.size :: .ref T.heap.size :: rest, locked := none }) rfl hsize rfl rfl (rest := rest) rfl
    (by rw [hb]; exact d6) (by rw [hb]; exact d9) (fun x hx => (hEx x hx).elim) hRf (by simp only [List.map_cons, List.sum_cons, hcat]; omega) hlocks
  have hfrm : s.heap.size ≤ U.heap.size ∧ ∀ q : Nat, q < s.heap.size → U.heap[q]? = s.heap[q]? := by
    obtain ⟨-, h2, -, -, -, h6⟩ := id hsame
    refine ⟨h2, fun q hq => ?_⟩
    obtain ⟨c9, e1, e2, e3, e4⟩ := h6 q _ (Array.getElem?_eq_getElem hq)
    have hs : c9.slots = (s.heap[q]).slots := Array.ext_getElem? fun i => e4 i (fun hm => nomatch hm)
    have h9 : c9 = s.heap[q] := by
      rw [hs] at e2
      exact e2
    have e5 : U.heap[q]? = some c9 := e1
    rw [e5, h9, Array.getElem?_eq_getElem hq]
  refine ⟨U, ?_, .threw T.heap.size, hrun, hend, T.heap.size, ce, [], rfl, ⟨M, hp, hW.kept hfrm.2, hfrm.1, fun q hq _ => hfrm.2 q hq⟩, hce, hO.vm, hO.cls, hWm, hsame.mono (by omega) (by omega), fun z hz => nomatch hz⟩
  refine st1 _ ?_
  show Steps p.tables e below (T1.setTop { method := m, pc := pc + 3, locals := ls, stack := .ref T.heap.size :: rest, locked := none }) _
  jvm_step X₁.here [X₁.here.top, hexec, d3', Value.category]
  exact X₁.ldcString hexec (own := own) (text := text) (index := is) (a := sa) hown hs1 hs2 (g := { method := m, pc := pc + 4, locals := ls, stack := .ref T.heap.size :: .ref T.heap.size :: rest, locked := none }) rfl d4' _ hsteps
end GTC
/-- the words of a throw: four of them speak of the heap -/
def gt_no (w : Cond) : Bool := decide (w ≠ .isRef (.static "java/lang/Throwable" "UNASSIGNED_STACK" "[Ljava/lang/StackTraceElement;")) && (decide (w ≠ .isRef (.static "java/lang/Throwable" "SUPPRESSED_SENTINEL" "Ljava/util/List;")) && (decide (w ≠ .laysStatic "java/lang/Throwable" "UNASSIGNED_STACK" "[Ljava/lang/StackTraceElement;") && decide (w ≠ .laysStatic "java/lang/Throwable" "SUPPRESSED_SENTINEL" "Ljava/util/List;")))
theorem gt_hat {G : gw_G} {s : State} {L : List Cond} (hE : gw_E G s) (args : Array Value) (h1 : ∀ w ∈ L.filter gt_no, w ∈ gw_N0) : ∀ w ∈ L, w.before args s = true := by
  intro w hw
  by_cases e0 : gt_no w = true
  · exact hE.ts args w (h1 w (List.mem_filter.mpr ⟨hw, e0⟩))
  · by_cases e1 : w = .isRef (.static "java/lang/Throwable" "UNASSIGNED_STACK" "[Ljava/lang/StackTraceElement;")
    · rw [e1]; exact hE.2.2.2.2.1.ref args
    · by_cases e2 : w = .isRef (.static "java/lang/Throwable" "SUPPRESSED_SENTINEL" "Ljava/util/List;")
      · rw [e2]; exact hE.2.2.2.2.2.1.ref args
      · by_cases e3 : w = .laysStatic "java/lang/Throwable" "UNASSIGNED_STACK" "[Ljava/lang/StackTraceElement;"
        · rw [e3]; exact hE.2.2.2.2.1.lays args
        · by_cases e4 : w = .laysStatic "java/lang/Throwable" "SUPPRESSED_SENTINEL" "Ljava/util/List;"
          · rw [e4]; exact hE.2.2.2.2.2.1.lays args
          · exact absurd (by unfold gt_no; rw [decide_eq_true e1, decide_eq_true e2, decide_eq_true e3, decide_eq_true e4]; rfl) e0
abbrev gt_ws : List Cond := Bundle.ownAtoms "Generations" 108 "java/lang/IllegalArgumentException" ["java/lang/RuntimeException", "java/lang/Exception"]
set_option maxRecDepth 100000 in
theorem gt_ws1 : ∀ w ∈ gt_ws.filter gt_no, w ∈ lw_tbl := by decide +kernel
theorem gt_ws2 : (gt_ws.filter gt_no).all gw_gk = true := by decide +kernel
theorem gt_ws3 : ∀ w ∈ gt_ws.filter gt_no, w ∈ gw_N0 := fun w h => gw_in (gt_ws1 w h) (List.all_eq_true.mp gt_ws2 w h)
theorem gw_startR {l : Launch} {y : MethodName} {rm : Room} {G : gw_G} {M : gw_M} {av : List Value} {Qc : Array Value → State → Outcome → State → Prop} {cc : ByteArray} {maxL : Nat} {ret : Option FieldType} (hy : plainName y.cls = true) (hn : (lg_sl av).length ≤ maxL)
    (body : ∀ (p : Program) (e : Env) (s : State) (m : MethodId) (below : List Frame) (meth : Method) (c : Code), p.tables.exec = Jvm.exec → c.code = cc → meth.sig.returnType = ret → c.maxLocals = maxL → s.vm.findClass y.cls = some m.cls → meth.locks = false → meth.name = y.name → gw_E G s → G.2.2.2 ≤ s.heap.size → gw_P G.1 vwCl G.2.2.2 M s.heap →
      ∀ ls : Array Slot, lv_has ls maxL (lv_args 0 av) → W p l e rm s m av.toArray below meth c s.heap [] 0 0 (MQ below Qc av.toArray s 0 0 (fun _ => False)) (F0 m 0 ls [])) :
    Met l y [.code y cc maxL ret] rm (gw_Pc G M av) Qc 0 0 (fun _ => False) := by
  refine Met.ofW (cc := cc) (maxL := maxL) (ret := ret) hy rfl ?_
  intro p e s m args below meth c s₁ B hml hv
  obtain ⟨rfl, hE, hB, hW⟩ := hv
  have hl := lv_entry av (n := maxL) hn
  rw [lg_entry_eq]
  generalize (lg_sl av ++ List.replicate (maxL - (lg_sl av).length) Slot.unset).toArray = ls at hl ⊢
  exact body p e s m below meth c B.exec B.bytes B.returns hml (findClass_of_methodNamed B.named) B.notSynchronized (name_of_methodNamed B.named B.method).1 hE hB hW ls hl
end
section
/-! CAUGHT: a method whose table has one row, for IllegalArgumentException; and a static call of such a method -/
section GTK
variable {p : Program} {l : Launch} {e : Env} {R : Room} {s : State} {m : MethodId} {args : Array Value} {below : List Frame} {meth : Method} {c : Code} {H : Heap} {locs : List Loc} {cells slots : Nat} {Q : State → Prop} {pc : Nat} {ls : Array Slot} {rest : List Value}
/-- what the search for a handler finds, and the tables behind it -/
def gt_F (e : Env) (u : State) (f : JFrame) (q : Addr) (h : Handler) (vm' : Vm) : Prop := ∀ (Z : Handler → Pre) (E : CtlPost) (d : Bool) (acts : List Action), wp (findHandler f q) Z E e d acts u ↔ Z h d acts (u.setVm vm')
theorem gt_find {u : State} {f : JFrame} {q : Addr} {mt : Method} {cd : Code} {x : ExceptionTableEntry} (hm : u.vm.method? f.method = some mt) (hc : mt.code = some cd) (htab : cd.exceptionTable.toList = [x]) (hx : covers x f.pc = true) (h0 : x.catchType ≠ 0) {cT : ClassId} {ce : Cell}
    (hl : u.vm.ClassLinks e.platform f.method.cls x.catchType cT) (hce : u.heap[q]? = some ce) (hobj : ∀ k, ce.vm ≠ .statics k) (hk : ∃ k, u.vm.classes[ce.cls]? = some k) (hkT : ∃ k, u.vm.classes[cT]? = some k) (hfit : u.vm.assignable ce.cls cT = true) :
    gt_F e u f q (.found x.handlerPc) (u.vm.noted f.method.cls x.catchType (.cls cT)) := by
  intro Z E d acts
  rw [W.findHandler_eq hm hc, htab]
  have hal : u.vm.Alike (u.vm.noted f.method.cls x.catchType (.cls cT)) := (Vm.Alike.refl u.vm).noted _ _ _
  obtain ⟨r1, r2⟩ := (resolveClass_links e.toSetting hl).op (op := VmOp.resolveClass f.method.cls x.catchType) rfl
  obtain ⟨k1, hk1⟩ := hk
  obtain ⟨k2, hk2⟩ := hkT
  obtain ⟨k3, hk3, -⟩ := hal.2.2 _ _ hk1
  obtain ⟨k4, hk4, -⟩ := hal.2.2 _ _ hk2
  have hfit2 : (u.vm.noted f.method.cls x.catchType (.cls cT)).assignable ce.cls cT = true := by rw [hal.assignable]; exact hfit
  simp only [covers] at hx
  simp [findHandler.go, hx, h0, r1, r2, hce, hobj, hk3, hk4, hfit2, VmOp.dirties, VmOp.acts]
theorem gt_step {u : State} {q : Addr} {f : JFrame} {r : List Frame} {hp : Nat} {vm' : Vm} (hfind : gt_F e u f q (.found hp) vm') : (stepThrowing e u q (.java f :: r)).Is ((u.setVm vm').setFrames (.java { f with pc := hp, stack := [.ref q] } :: r)) [] := by
  simp only [stepThrowing, searchFrame, vmDo]
  generalize hr : Sem.go _ e false [] u = res
  obtain ⟨as, rfl, ha⟩ := Sem.eq_ok_of hr (a := Handler.found hp) (s' := u.setVm vm') (acts' := []) (by simp [hfind _ _ _ _])
  exact ⟨rfl, ha⟩
theorem gt_sf (u : State) (vm' : Vm) (A B : List Frame) : ((u.setFrames A).setVm vm').setFrames B = (u.setVm vm').setFrames B := by
  show ((u.setVm vm').setFrames A).setFrames B = _
  rw [State.setFrames_setFrames]
theorem gt_catch {own : String} {x : ExceptionTableEntry} {ce : Cell} {q : Addr} (hTab : c.exceptionTable.toList = [x]) (hx : covers x pc = true) (h0 : x.catchType ≠ 0) (hown : s.vm.findClass own = some m.cls) (hlink : (Cond.classLink own x.catchType "java/lang/IllegalArgumentException").before args s = true) (hcast : (Cond.castable "java/lang/IllegalArgumentException" "java/lang/IllegalArgumentException").before args s = true)
    (hcell : H[q]? = some ce) (hv : ce.vm = .none) (hcl : s.vm.findClass "java/lang/IllegalArgumentException" = some ce.cls) (kk : W p l e R s m args below meth c H locs cells slots Q (F0 m x.handlerPc ls [.ref q])) : gt_W p l e R s m args below meth c H locs cells slots Q (F0 m pc ls rest) q := by
  intro T hT X
  have hpl : e.platform.magicAccessors = ({} : Platform).magicAccessors := by rw [X.admits.platform]
  obtain ⟨cT, hcT, hlk⟩ := Cond.classLink_spec hown hlink e.platform hpl
  obtain ⟨c3, c4, hc3, hc4, hasg⟩ := Cond.castable_spec hcast
  cases Option.some.inj (hc3.symm.trans hcl)
  cases Option.some.inj (hc4.symm.trans hcT)
  obtain ⟨-, hwarm, -⟩ := State.classEntry (e := e) X.warmed hlk
  have hlinkT : (Cond.classLink own x.catchType "java/lang/IllegalArgumentException").before args T = true := gw_ww rfl X.warmed hlink
  obtain ⟨c5, hc5, hlkT⟩ := Cond.classLink_spec (show T.vm.findClass own = some m.cls by rw [X.warmed.alike.findClass]; exact hown) hlinkT e.platform hpl
  rw [X.warmed.alike.findClass] at hc5
  cases Option.some.inj (hc5.symm.trans hcT)
  obtain ⟨k1, hk1, -⟩ := Vm.findClass_spec hcl
  obtain ⟨k2, hk2, -⟩ := Vm.findClass_spec hcT
  obtain ⟨k3, hk3, -⟩ := X.warmed.alike.2.2 _ _ hk1
  obtain ⟨k4, hk4, -⟩ := X.warmed.alike.2.2 _ _ hk2
  have hF : gt_F e ((T.setTop (F0 m pc ls rest)).pushFrame (.throwing q)) (F0 m pc ls rest) q (.found x.handlerPc) (T.vm.noted m.cls x.catchType (.cls cT)) := by
    have h9 := gt_find (e := e) (u := (T.setTop (F0 m pc ls rest)).pushFrame (.throwing q)) (f := F0 m pc ls rest) (q := q) (mt := meth) (cd := c) (x := x) (cT := cT) (ce := ce) (by rw [Stand.throwing_vm]; exact X.method') X.code hTab hx h0 (by rw [Stand.throwing_vm]; exact hlkT) (by rw [Stand.throwing_heap, hT]; exact hcell) (fun k hk => by rw [hv] at hk; cases hk) (by rw [Stand.throwing_vm]; exact ⟨k3, hk3⟩) (by rw [Stand.throwing_vm]; exact ⟨k4, hk4⟩) (by rw [Stand.throwing_vm, X.warmed.alike.assignable]; exact hasg)
    rw [Stand.throwing_vm] at h9
    exact h9
  have X' := X.noted hwarm
  obtain ⟨t, a1, b1⟩ := kk (T.setVm (T.vm.noted m.cls x.catchType (.cls cT))) hT X'
  refine ⟨t, ?_, b1⟩
  have hat : At T (F0 m pc ls rest).method c below := X.here
  obtain ⟨hgo, hw⟩ := hat.throwing q
  refine Steps.head hgo hw ?_
  rw [stepThread_throwing (frames_entered hat.top _), (gt_step (u := (T.setTop (F0 m pc ls rest)).pushFrame (.throwing q)) hF).1]
  obtain ⟨g₀, hg0⟩ := Option.isSome_iff_exists.mp hat.top
  obtain ⟨r, hr⟩ := State.topJava?_eq_some.mp hg0
  have hr' : (T.setVm (T.vm.noted m.cls x.catchType (.cls cT))).frames = .java g₀ :: r := hr
  rw [State.setTop_of_frames _ hr'] at a1
  rw [hr, List.tail_cons, State.pushFrame, gt_sf, State.setTop_of_frames _ hr, gt_sf]
  exact a1
/-- a static call of a method with a table -/
theorem gt_runSW {y : MethodName} {bytes cc : ByteArray} {maxL nL mc ms n index : Nat} {ret : Option FieldType} {hh : List (Nat × Nat × Nat × Nat)} {rm : Room} {Pc : Array Value → State → Prop} {Qc : Array Value → State → Outcome → State → Prop} {free : Addr → Prop} {Ts : List Cond} {own : String} {As : List Value} {g : JFrame} (S : CallFix p m c cc nL s args Ts own) (hM : Met l y [.codeWith y bytes maxL ret hh] rm Pc Qc mc ms free) (hrc : rm.cells = mc) (hrs : rm.slots = ms) (hR : rm.frames + 1 ≤ R.frames ∧ 8 + (maxL + 11) + rm.locals ≤ R.locals) (hG : GoodIn Ts (va_wsS own index y [.codeWith y bytes maxL ret hh]))
    (hd : y.cls ≠ "java/lang/invoke/MethodHandle" ∧ y.cls ≠ "java/lang/invoke/VarHandle" ∧ (parseMethodDescriptor y.desc).map (fun d => d.parameters.length) = some n) (hp : PreS s H Pc As)
    (hg : g.method = m) (hn : As.length = n) (hsize : g.locals.size = nL) (hstack : g.stack = As.reverse ++ rest) (hW : 2 * g.monitorRoom + (rest.map fun v => v.category).sum ≤ 8) (hdg : decode cc g.pc = .ok (.invokestatic index, 3)) (hf : cells + mc ≤ R.cells ∧ slots + ms ≤ R.slots) :
    va_Run p l e R s m args below meth c H locs cells slots mc ms g rest (Qc As.toArray) free := by
  obtain ⟨hx, hb, hml, ho, hts⟩ := S
  have ok : ∀ w ∈ va_wsS own index y [.codeWith y bytes maxL ret hh], w.before args s = true := fun w h => hts w (hG w h).1
  have hini : (Cond.initialized y.cls).before args s = true := ok _ (by simp [va_wsS])
  have hcode : (Cond.codeWith y bytes maxL ret hh).before args s = true := ok _ (by simp [va_wsS])
  have hK : Back l R p e below s args y 3 8 (PreOf R mc ms Pc) (PostOf Qc mc ms free) := va_backW (hh := hh) (bytes := bytes) (maxL := maxL) (ret := ret) hM hp.1 hrc hrs hR.1 hR.2 (fun w hw => pay_in hts hG w (by unfold va_wsS; exact List.mem_append_right _ hw)) List.mem_cons_self (fun a' U hW9 => word_at hW9 (Or.inl (by first | rfl | simp [Cond.onTables, Cond.keeps, Cond.steady])) hini)
  obtain ⟨mk, methM, cM, hnamed, hmethM, -, -, -, -, -, -, hsigM⟩ := Cond.codeWith_spec hcode
  have hstatic : methM.isStatic = true := Cond.static_spec hnamed hmethM (ok _ (by simp [va_wsS]))
  obtain ⟨kP, hkP, -⟩ := className_of_methodNamed hnamed
  have hinitP : kP.init = .initialized := Cond.initialized_spec (findClass_of_methodNamed hnamed) hkP hini
  have hlen : As.length = methM.sig.parameters.length := by
    have h2 := hd.2.2
    rw [hsigM] at h2
    exact hn.trans (Option.some.inj h2).symm
  have hlink9 : (Cond.methodLink own index y).before args s = true := ok _ (by simp [va_wsS])
  intro T hT X
  obtain ⟨vm₁, X₁, hstep⟩ := X.invokestatic hx ho hlink9 hnamed hmethM hstatic hkP hinitP ⟨hd.1, hd.2.1⟩ (g := g) hg (argsL := As) (rest := rest) hlen hstack (by rw [hb]; exact hdg)
  obtain ⟨v, ⟨U', l2, c2, s2⟩, X', ⟨g', mk', t, L, e1, e2, hq, h1, hL, h2, h3⟩, hsteps⟩ := hK m meth c ⟨T.setVm vm₁, locs, cells, slots⟩ { g with stack := rest } (.invokestatic index) mk As.toArray X₁ hg (hsize.trans hml.symm) (by rw [hb]; exact hdg) hW (X₁.named hnamed) ⟨hf.1, hf.2, hp.2 (T.setVm vm₁) hT X₁.warmed⟩
  dsimp only [Pt.U, Pt.locs, Pt.cells, Pt.slots] at X' e1 e2 h1 h2 h3 hsteps
  subst h1; subst h2; subst h3
  exact ⟨v, (T.setVm vm₁).calling g' mk' As.toArray, t, U', L, hT, X', hL, e1, e2, hq, fun target h9 => hstep _ fun acts => by rw [doInvoke_state]; exact hsteps.trans h9⟩
end GTK
section GTH
variable {l : Launch} {y : MethodName} {rm : Room} {G : gw_G} {M : gw_M} {av : List Value} {Qc : Array Value → State → Outcome → State → Prop} {mc ms : Nat} {cc : ByteArray} {maxL : Nat} {ret : Option FieldType}
theorem gt_startH {hh : List (Nat × Nat × Nat × Nat)} (hy : plainName y.cls = true) (hn : (lg_sl av).length ≤ maxL)
    (body : ∀ (p : Program) (e : Env) (s : State) (m : MethodId) (below : List Frame) (meth : Method) (c : Code), c.exceptionTable.toList = tableOf hh → p.tables.exec = Jvm.exec → c.code = cc → meth.sig.returnType = ret → c.maxLocals = maxL → s.vm.findClass y.cls = some m.cls → meth.locks = false → meth.name = y.name → gw_E G s → G.2.2.2 ≤ s.heap.size → gw_P G.1 vwCl G.2.2.2 M s.heap →
      ∀ ls : Array Slot, lv_has ls maxL (lv_args 0 av) → W p l e rm s m av.toArray below meth c s.heap [] 0 0 (MQ below Qc av.toArray s mc ms (gw_A G)) (F0 m 0 ls [])) :
    Met l y [.codeWith y cc maxL ret hh] rm (gw_Pc G M av) Qc mc ms (gw_A G) := by
  refine va_MetW (cc := cc) (maxL := maxL) (ret := ret) (hh := hh) hy rfl ?_
  intro p e s m args below meth c s₁ B hml hv
  obtain ⟨rfl, hE, hB, hW⟩ := hv
  have hTab : c.exceptionTable.toList = tableOf hh := by
    obtain ⟨m9, meth9, c9, hn9, h1, h2, -, -, h6, -⟩ := Cond.codeWith_spec (atoms_spec (ws := [.codeWith y cc maxL ret hh]) B.pre _ List.mem_cons_self)
    cases Option.some.inj (hn9.symm.trans B.named)
    cases Option.some.inj (h1.symm.trans B.method)
    cases Option.some.inj (h2.symm.trans (Stand.of_body B).code)
    rw [← h6, table_eq]
  have hl := lv_entry av (n := maxL) hn
  rw [lg_entry_eq]
  generalize (lg_sl av ++ List.replicate (maxL - (lg_sl av).length) Slot.unset).toArray = ls at hl ⊢
  exact body p e s m below meth c hTab B.exec B.bytes B.returns hml (findClass_of_methodNamed B.named) B.notSynchronized (name_of_methodNamed B.named B.method).1 hE hB hW ls hl
end GTH
end
section
/-! THE LAW'S START: the environment out of what the Statement gives -/
theorem gw_ai {args : Array Value} {s : State} (h : (Cond.arrayClass .int).before args s = true) : ∃ c : ClassId, ArrOfT s c .int ∧ va_RA s c .int := by
  obtain ⟨c, k, comp, h1, h2, h3⟩ := Cond.arrayClass_spec h
  exact ⟨c, fun _ _ => ⟨(fun q hq => by cases hq), k, h2, comp, h3⟩, h1⟩
theorem gw_al {args : Array Value} {s : State} (h : (Cond.arrayClass .long).before args s = true) : ∃ c : ClassId, ArrOfT s c .long ∧ va_RA s c .long := by
  obtain ⟨c, k, comp, h1, h2, h3⟩ := Cond.arrayClass_spec h
  exact ⟨c, fun _ _ => ⟨(fun q hq => by cases hq), k, h2, comp, h3⟩, h1⟩
theorem gw_ao {args : Array Value} {s : State} {C : String} (h : (Cond.arrayOver (.object C)).before args s = true) : ∃ c : ClassId, ArrOfT s c (.object C) ∧ va_RA s c (.object C) := by
  obtain ⟨comp, c, k, h1, -, h2, h3, h4⟩ := Cond.arrayOver_spec h
  exact ⟨c, fun _ _ => ⟨(fun q hq => by cases hq), k, h2, comp, h3⟩, k, comp, h2, h3, h1, h4⟩
set_option maxHeartbeats 4000000 in
set_option maxRecDepth 100000 in
theorem gw_law {s : State} {b : Nat} (hts : ∀ w ∈ lw_tbl, w.before #[Value.ref b] s = true) (hgv : (Jvm.Cond.and given_1 narrow_1).before #[Value.ref b] s = true) : ∃ G : gw_G, G.2.2.2 = s.heap.size ∧ gw_E G s := by
  have hg := flat_of_before _ hgv
  have hA : ∀ a : Nat, a < s.heap.size → ¬ (fun q : Nat => s.heap.size ≤ q) a := fun a h9 => Nat.not_le.mpr h9
  obtain ⟨c0, i0, k0⟩ := u_known (C := "Generations") (T := F_X) (N := 9) (n := 9) hts in_X1 (hts (.instantiable "Generations" 9) (by decide +kernel))
  obtain ⟨c1, i1, k1⟩ := u_known (C := "Generations$Row") (T := F_Row) (N := 2) (n := 2) hts in_Row1 (hts (.instantiable "Generations$Row" 2) (by decide +kernel))
  obtain ⟨c2, i2, k2⟩ := u_known (C := "Generations$Generation") (T := F_Gen) (N := 5) (n := 5) hts in_Gen1 (hts (.instantiable "Generations$Generation" 5) (by decide +kernel))
  obtain ⟨c3, i3, k3⟩ := u_known (C := "Generations$Job") (T := F_Job) (N := 2) (n := 2) hts in_Job1 (hts (.instantiable "Generations$Job" 2) (by decide +kernel))
  obtain ⟨c4, i4, k4⟩ := u_known (C := "java/util/ArrayList") (T := F_AL) (N := 3) (n := 3) hts in_AL1 (hts (.instantiable "java/util/ArrayList" 3) (by decide +kernel))
  obtain ⟨c5, i5, k5⟩ := u_known (C := "GenerationsModel") (T := F_Mo) (N := 15) (n := 15) hts in_Mo1 (hts (.instantiable "GenerationsModel" 15) (by decide +kernel))
  obtain ⟨dC, dI, hKc⟩ : ∃ (dC : Nat → ClassId) (dI : Nat → Nat → Nat), ∀ (k : Nat) (q : vw_C), vwCl[k]? = some q → u_Kn s q.1 q.2.1 q.2.2 (dC k) (dI k) := by
    refine ⟨fun k => match k with | 0 => c0 | 1 => c1 | 2 => c2 | 3 => c3 | 4 => c4 | _ => c5, fun k => match k with | 0 => i0 | 1 => i1 | 2 => i2 | 3 => i3 | 4 => i4 | _ => i5, ?_⟩
    intro k q hq
    match k, hq with
    | 0, hq => cases hq; exact k0
    | 1, hq => cases hq; exact k1
    | 2, hq => cases hq; exact k2
    | 3, hq => cases hq; exact k3
    | 4, hq => cases hq; exact k4
    | 5, hq => cases hq; exact k5
    | k + 6, hq => simp [vwCl] at hq
  obtain ⟨a0, e0⟩ := gw_ai (hts (.arrayClass .int) (by decide +kernel))
  obtain ⟨a1, e1⟩ := gw_ao (hts (.arrayOver (.object "java/lang/Object")) (by decide +kernel))
  obtain ⟨a2, e2⟩ := gw_al (hts (.arrayClass .long) (by decide +kernel))
  obtain ⟨t0, ht0, hT0⟩ := va_Tof (f := fun _ => .null) (N := 0) (A := fun q : Nat => s.heap.size ≤ q) (by decide) (hg (.arrayOf (.static "java/util/ArrayList" "DEFAULTCAPACITY_EMPTY_ELEMENTDATA" "[Ljava/lang/Object;") (.object "java/lang/Object")) (by decide +kernel)) (va_eqt (hg (.eq (.length (.static "java/util/ArrayList" "DEFAULTCAPACITY_EMPTY_ELEMENTDATA" "[Ljava/lang/Object;")) (.int 0)) (by decide +kernel))) (fun j hj => absurd hj (Nat.not_lt_zero j)) hA
  have hZ0 : va_Z "java/util/ArrayList" "DEFAULTCAPACITY_EMPTY_ELEMENTDATA" "[Ljava/lang/Object;" (.ref t0) (fun q : Nat => s.heap.size ≤ q) s s.heap := va_Zref (hts (.laysStatic "java/util/ArrayList" "DEFAULTCAPACITY_EMPTY_ELEMENTDATA" "[Ljava/lang/Object;") (by decide +kernel)) (hts (.initialized "java/util/ArrayList") (by decide +kernel)) ht0 hA
  have hU := gt_L.of (A := fun q : Nat => s.heap.size ≤ q) (hts (.laysStatic "java/lang/Throwable" "UNASSIGNED_STACK" "[Ljava/lang/StackTraceElement;") (by decide +kernel)) (hts (.initialized "java/lang/Throwable") (by decide +kernel)) (hg (.isRef (.static "java/lang/Throwable" "UNASSIGNED_STACK" "[Ljava/lang/StackTraceElement;")) (by decide +kernel)) hA
  have hV := gt_L.of (A := fun q : Nat => s.heap.size ≤ q) (hts (.laysStatic "java/lang/Throwable" "SUPPRESSED_SENTINEL" "Ljava/util/List;") (by decide +kernel)) (hts (.initialized "java/lang/Throwable") (by decide +kernel)) (hg (.isRef (.static "java/lang/Throwable" "SUPPRESSED_SENTINEL" "Ljava/util/List;")) (by decide +kernel)) hA
  have w1 := hts (.stringRef "Generations" 164 "there is no such job") (by decide +kernel)
  have w2 := hts (.stringRef "Generations" 106 "n is above 99") (by decide +kernel)
  have w3 := hts (.stringRef "Generations" 121 "n is not 1 .. 99") (by decide +kernel)
  obtain ⟨-, -, -, s1, -, -, -, -, -, v1⟩ := Cond.stringRef_spec k0.2.1 w1
  obtain ⟨-, -, -, s2, -, -, -, -, -, v2⟩ := Cond.stringRef_spec k0.2.1 w2
  obtain ⟨-, -, -, s3, -, -, -, -, -, v3⟩ := Cond.stringRef_spec k0.2.1 w3
  refine ⟨((dC, dI), fun k => match k with | 0 => a0 | 1 => a1 | _ => a2, fun k => match k with | 0 => t0 | 1 => s1 | 2 => s2 | _ => s3, s.heap.size), rfl, ⟨hKc, ?_⟩, ?_, hZ0, hT0, hU, hV, vk_R.of w1 v1, vk_R.of w2 v2, vk_R.of w3 v3, va_AO.of (hts (.arrayOver (.object "java/lang/Object")) (by decide +kernel))⟩
  · intro k q hq
    match k, hq with
    | 0, hq => cases hq; exact e0
    | 1, hq => cases hq; exact e1
    | 2, hq => cases hq; exact e2
    | k + 3, hq => simp [gw_ty] at hq
  · intro w hw
    exact gw_ww (gw_N0_gk hw) (State.WarmedH.refl s) (hts w (List.mem_filter.mp hw).1)
/-- the empty map -/
theorem gw_P.nil {D : va_G} {cl : List vw_C} {B0 : Nat} {H : Heap} : gw_P D cl B0 (fun _ => none) H := ⟨[], fun k q h => by simp at h, ⟨fun i j p q h => by simp at h, fun k q h => by simp at h⟩, fun a r e h => by cases h⟩
end
