section
-- ===== PART A: goes FIRST, ahead of the names: the tables' words, and 'selects' of the private methods out of them =====
/-- a private method of a class that the tables say can be made, by its rows of tables_1 -/
def lw_okq (q : MethodName × Nat) : Prop := (q.1.cls ≠ "java/lang/invoke/MethodHandle" ∧ q.1.cls ≠ "java/lang/invoke/VarHandle") ∧ Cond.instantiable q.1.cls q.2 ∈ tables_1 ∧ Cond.privateMethod q.1 ∈ tables_1 ∧ Cond.instanceMethod q.1 ∈ tables_1
theorem lw_p0 : lw_okq (⟨"Generations", "find", "(I)LGenerations$Generation;"⟩, 9) := ⟨⟨by decide +kernel, by decide +kernel⟩, List.mem_of_getElem? (i := 20) (by decide +kernel), List.mem_of_getElem? (i := 137) (by decide +kernel), List.mem_of_getElem? (i := 138) (by decide +kernel)⟩
theorem lw_p1 : lw_okq (⟨"Generations$Generation", "isDeferred", "()Z"⟩, 5) := ⟨⟨by decide +kernel, by decide +kernel⟩, List.mem_of_getElem? (i := 69) (by decide +kernel), List.mem_of_getElem? (i := 159) (by decide +kernel), List.mem_of_getElem? (i := 160) (by decide +kernel)⟩
theorem lw_p2 : lw_okq (⟨"Generations", "placeFor", "(I)LGenerations$Generation;"⟩, 9) := ⟨⟨by decide +kernel, by decide +kernel⟩, List.mem_of_getElem? (i := 20) (by decide +kernel), List.mem_of_getElem? (i := 163) (by decide +kernel), List.mem_of_getElem? (i := 164) (by decide +kernel)⟩
theorem lw_p3 : lw_okq (⟨"java/util/ArrayList", "add", "(Ljava/lang/Object;[Ljava/lang/Object;I)V"⟩, 3) := ⟨⟨by decide +kernel, by decide +kernel⟩, List.mem_of_getElem? (i := 43) (by decide +kernel), List.mem_of_getElem? (i := 171) (by decide +kernel), List.mem_of_getElem? (i := 172) (by decide +kernel)⟩
theorem lw_p4 : lw_okq (⟨"java/util/ArrayList", "grow", "()[Ljava/lang/Object;"⟩, 3) := ⟨⟨by decide +kernel, by decide +kernel⟩, List.mem_of_getElem? (i := 43) (by decide +kernel), List.mem_of_getElem? (i := 175) (by decide +kernel), List.mem_of_getElem? (i := 176) (by decide +kernel)⟩
theorem lw_p5 : lw_okq (⟨"java/util/ArrayList", "grow", "(I)[Ljava/lang/Object;"⟩, 3) := ⟨⟨by decide +kernel, by decide +kernel⟩, List.mem_of_getElem? (i := 43) (by decide +kernel), List.mem_of_getElem? (i := 179) (by decide +kernel), List.mem_of_getElem? (i := 180) (by decide +kernel)⟩
theorem lw_p6 : lw_okq (⟨"Generations$Generation", "beginAnew", "(I)V"⟩, 5) := ⟨⟨by decide +kernel, by decide +kernel⟩, List.mem_of_getElem? (i := 69) (by decide +kernel), List.mem_of_getElem? (i := 217) (by decide +kernel), List.mem_of_getElem? (i := 218) (by decide +kernel)⟩
theorem lw_p7 : lw_okq (⟨"Generations", "bringIntoRow", "(LGenerations$Generation;)V"⟩, 9) := ⟨⟨by decide +kernel, by decide +kernel⟩, List.mem_of_getElem? (i := 20) (by decide +kernel), List.mem_of_getElem? (i := 221) (by decide +kernel), List.mem_of_getElem? (i := 222) (by decide +kernel)⟩
theorem lw_p8 : lw_okq (⟨"Generations$Row", "put", "(I)V"⟩, 2) := ⟨⟨by decide +kernel, by decide +kernel⟩, List.mem_of_getElem? (i := 28) (by decide +kernel), List.mem_of_getElem? (i := 225) (by decide +kernel), List.mem_of_getElem? (i := 226) (by decide +kernel)⟩
theorem lw_p9 : lw_okq (⟨"Generations", "holdToLimit", "()V"⟩, 9) := ⟨⟨by decide +kernel, by decide +kernel⟩, List.mem_of_getElem? (i := 20) (by decide +kernel), List.mem_of_getElem? (i := 235) (by decide +kernel), List.mem_of_getElem? (i := 236) (by decide +kernel)⟩
theorem lw_p10 : lw_okq (⟨"Generations$Row", "at", "(I)I"⟩, 2) := ⟨⟨by decide +kernel, by decide +kernel⟩, List.mem_of_getElem? (i := 28) (by decide +kernel), List.mem_of_getElem? (i := 239) (by decide +kernel), List.mem_of_getElem? (i := 240) (by decide +kernel)⟩
theorem lw_p11 : lw_okq (⟨"Generations", "letGo", "(I)V"⟩, 9) := ⟨⟨by decide +kernel, by decide +kernel⟩, List.mem_of_getElem? (i := 20) (by decide +kernel), List.mem_of_getElem? (i := 243) (by decide +kernel), List.mem_of_getElem? (i := 244) (by decide +kernel)⟩
theorem lw_p12 : lw_okq (⟨"Generations$Row", "removeOldest", "(I)V"⟩, 2) := ⟨⟨by decide +kernel, by decide +kernel⟩, List.mem_of_getElem? (i := 28) (by decide +kernel), List.mem_of_getElem? (i := 247) (by decide +kernel), List.mem_of_getElem? (i := 248) (by decide +kernel)⟩
theorem lw_p13 : lw_okq (⟨"Generations$Row", "copy", "()[I"⟩, 2) := ⟨⟨by decide +kernel, by decide +kernel⟩, List.mem_of_getElem? (i := 28) (by decide +kernel), List.mem_of_getElem? (i := 258) (by decide +kernel), List.mem_of_getElem? (i := 259) (by decide +kernel)⟩
theorem lw_p14 : lw_okq (⟨"Generations", "howManyAre", "(I)I"⟩, 9) := ⟨⟨by decide +kernel, by decide +kernel⟩, List.mem_of_getElem? (i := 20) (by decide +kernel), List.mem_of_getElem? (i := 311) (by decide +kernel), List.mem_of_getElem? (i := 312) (by decide +kernel)⟩
theorem lw_p15 : lw_okq (⟨"Generations", "jobThatMakes", "()I"⟩, 9) := ⟨⟨by decide +kernel, by decide +kernel⟩, List.mem_of_getElem? (i := 20) (by decide +kernel), List.mem_of_getElem? (i := 315) (by decide +kernel), List.mem_of_getElem? (i := 316) (by decide +kernel)⟩
def lw_privs_1 : List (MethodName × Nat) := [(⟨"Generations", "find", "(I)LGenerations$Generation;"⟩, 9), (⟨"Generations$Generation", "isDeferred", "()Z"⟩, 5), (⟨"Generations", "placeFor", "(I)LGenerations$Generation;"⟩, 9), (⟨"java/util/ArrayList", "add", "(Ljava/lang/Object;[Ljava/lang/Object;I)V"⟩, 3), (⟨"java/util/ArrayList", "grow", "()[Ljava/lang/Object;"⟩, 3), (⟨"java/util/ArrayList", "grow", "(I)[Ljava/lang/Object;"⟩, 3), (⟨"Generations$Generation", "beginAnew", "(I)V"⟩, 5), (⟨"Generations", "bringIntoRow", "(LGenerations$Generation;)V"⟩, 9), (⟨"Generations$Row", "put", "(I)V"⟩, 2), (⟨"Generations", "holdToLimit", "()V"⟩, 9), (⟨"Generations$Row", "at", "(I)I"⟩, 2), (⟨"Generations", "letGo", "(I)V"⟩, 9), (⟨"Generations$Row", "removeOldest", "(I)V"⟩, 2), (⟨"Generations$Row", "copy", "()[I"⟩, 2), (⟨"Generations", "howManyAre", "(I)I"⟩, 9), (⟨"Generations", "jobThatMakes", "()I"⟩, 9)]
theorem lw_r1 : ∀ q ∈ lw_privs_1, lw_okq q := List.forall_mem_cons.mpr ⟨lw_p0, List.forall_mem_cons.mpr ⟨lw_p1, List.forall_mem_cons.mpr ⟨lw_p2, List.forall_mem_cons.mpr ⟨lw_p3, List.forall_mem_cons.mpr ⟨lw_p4, List.forall_mem_cons.mpr ⟨lw_p5, List.forall_mem_cons.mpr ⟨lw_p6, List.forall_mem_cons.mpr ⟨lw_p7, List.forall_mem_cons.mpr ⟨lw_p8, List.forall_mem_cons.mpr ⟨lw_p9, List.forall_mem_cons.mpr ⟨lw_p10, List.forall_mem_cons.mpr ⟨lw_p11, List.forall_mem_cons.mpr ⟨lw_p12, List.forall_mem_cons.mpr ⟨lw_p13, List.forall_mem_cons.mpr ⟨lw_p14, List.forall_mem_cons.mpr ⟨lw_p15, fun _ h => absurd h List.not_mem_nil⟩⟩⟩⟩⟩⟩⟩⟩⟩⟩⟩⟩⟩⟩⟩⟩
theorem lw_p16 : lw_okq (⟨"Generations", "jobCalled", "(I)LGenerations$Job;"⟩, 9) := ⟨⟨by decide +kernel, by decide +kernel⟩, List.mem_of_getElem? (i := 20) (by decide +kernel), List.mem_of_getElem? (i := 330) (by decide +kernel), List.mem_of_getElem? (i := 331) (by decide +kernel)⟩
theorem lw_p17 : lw_okq (⟨"java/lang/Throwable", "fillInStackTrace", "(I)Ljava/lang/Throwable;"⟩, 6) := ⟨⟨by decide +kernel, by decide +kernel⟩, List.mem_of_getElem? (i := 370) (by decide +kernel), List.mem_of_getElem? (i := 368) (by decide +kernel), List.mem_of_getElem? (i := 369) (by decide +kernel)⟩
theorem lw_p18 : lw_okq (⟨"Generations$Job", "plus", "(I)I"⟩, 2) := ⟨⟨by decide +kernel, by decide +kernel⟩, List.mem_of_getElem? (i := 256) (by decide +kernel), List.mem_of_getElem? (i := 401) (by decide +kernel), List.mem_of_getElem? (i := 402) (by decide +kernel)⟩
theorem lw_p19 : lw_okq (⟨"Generations$Job", "base", "()I"⟩, 2) := ⟨⟨by decide +kernel, by decide +kernel⟩, List.mem_of_getElem? (i := 256) (by decide +kernel), List.mem_of_getElem? (i := 405) (by decide +kernel), List.mem_of_getElem? (i := 406) (by decide +kernel)⟩
theorem lw_p20 : lw_okq (⟨"Generations$Generation", "isNewOneOf", "(I)Z"⟩, 5) := ⟨⟨by decide +kernel, by decide +kernel⟩, List.mem_of_getElem? (i := 69) (by decide +kernel), List.mem_of_getElem? (i := 410) (by decide +kernel), List.mem_of_getElem? (i := 411) (by decide +kernel)⟩
theorem lw_p21 : lw_okq (⟨"Generations$Job", "countedFromNewest", "(I)I"⟩, 2) := ⟨⟨by decide +kernel, by decide +kernel⟩, List.mem_of_getElem? (i := 256) (by decide +kernel), List.mem_of_getElem? (i := 415) (by decide +kernel), List.mem_of_getElem? (i := 416) (by decide +kernel)⟩
theorem lw_p22 : lw_okq (⟨"Generations$Generation", "isInTheWayOf", "(I)Z"⟩, 5) := ⟨⟨by decide +kernel, by decide +kernel⟩, List.mem_of_getElem? (i := 69) (by decide +kernel), List.mem_of_getElem? (i := 427) (by decide +kernel), List.mem_of_getElem? (i := 428) (by decide +kernel)⟩
theorem lw_p23 : lw_okq (⟨"Generations", "anotherMakes", "(I)Z"⟩, 9) := ⟨⟨by decide +kernel, by decide +kernel⟩, List.mem_of_getElem? (i := 20) (by decide +kernel), List.mem_of_getElem? (i := 431) (by decide +kernel), List.mem_of_getElem? (i := 432) (by decide +kernel)⟩
theorem lw_p24 : lw_okq (⟨"Generations$Generation", "failedFor", "(II)Z"⟩, 5) := ⟨⟨by decide +kernel, by decide +kernel⟩, List.mem_of_getElem? (i := 69) (by decide +kernel), List.mem_of_getElem? (i := 449) (by decide +kernel), List.mem_of_getElem? (i := 450) (by decide +kernel)⟩
theorem lw_p25 : lw_okq (⟨"GenerationsModel", "what", "(I)I"⟩, 15) := ⟨⟨by decide +kernel, by decide +kernel⟩, List.mem_of_getElem? (i := 453) (by decide +kernel), List.mem_of_getElem? (i := 512) (by decide +kernel), List.mem_of_getElem? (i := 513) (by decide +kernel)⟩
theorem lw_p26 : lw_okq (⟨"GenerationsModel", "enter", "(I)V"⟩, 15) := ⟨⟨by decide +kernel, by decide +kernel⟩, List.mem_of_getElem? (i := 453) (by decide +kernel), List.mem_of_getElem? (i := 516) (by decide +kernel), List.mem_of_getElem? (i := 517) (by decide +kernel)⟩
theorem lw_p27 : lw_okq (⟨"GenerationsModel", "become", "(II)V"⟩, 15) := ⟨⟨by decide +kernel, by decide +kernel⟩, List.mem_of_getElem? (i := 453) (by decide +kernel), List.mem_of_getElem? (i := 523) (by decide +kernel), List.mem_of_getElem? (i := 524) (by decide +kernel)⟩
theorem lw_p28 : lw_okq (⟨"GenerationsModel", "owner", "(I)I"⟩, 15) := ⟨⟨by decide +kernel, by decide +kernel⟩, List.mem_of_getElem? (i := 453) (by decide +kernel), List.mem_of_getElem? (i := 527) (by decide +kernel), List.mem_of_getElem? (i := 528) (by decide +kernel)⟩
theorem lw_p29 : lw_okq (⟨"GenerationsModel", "versionOf", "(I)I"⟩, 15) := ⟨⟨by decide +kernel, by decide +kernel⟩, List.mem_of_getElem? (i := 453) (by decide +kernel), List.mem_of_getElem? (i := 531) (by decide +kernel), List.mem_of_getElem? (i := 532) (by decide +kernel)⟩
theorem lw_p30 : lw_okq (⟨"GenerationsModel", "be", "(IIII)V"⟩, 15) := ⟨⟨by decide +kernel, by decide +kernel⟩, List.mem_of_getElem? (i := 453) (by decide +kernel), List.mem_of_getElem? (i := 535) (by decide +kernel), List.mem_of_getElem? (i := 536) (by decide +kernel)⟩
theorem lw_p31 : lw_okq (⟨"GenerationsModel", "isJob", "(I)Z"⟩, 15) := ⟨⟨by decide +kernel, by decide +kernel⟩, List.mem_of_getElem? (i := 453) (by decide +kernel), List.mem_of_getElem? (i := 547) (by decide +kernel), List.mem_of_getElem? (i := 548) (by decide +kernel)⟩
def lw_privs_2 : List (MethodName × Nat) := [(⟨"Generations", "jobCalled", "(I)LGenerations$Job;"⟩, 9), (⟨"java/lang/Throwable", "fillInStackTrace", "(I)Ljava/lang/Throwable;"⟩, 6), (⟨"Generations$Job", "plus", "(I)I"⟩, 2), (⟨"Generations$Job", "base", "()I"⟩, 2), (⟨"Generations$Generation", "isNewOneOf", "(I)Z"⟩, 5), (⟨"Generations$Job", "countedFromNewest", "(I)I"⟩, 2), (⟨"Generations$Generation", "isInTheWayOf", "(I)Z"⟩, 5), (⟨"Generations", "anotherMakes", "(I)Z"⟩, 9), (⟨"Generations$Generation", "failedFor", "(II)Z"⟩, 5), (⟨"GenerationsModel", "what", "(I)I"⟩, 15), (⟨"GenerationsModel", "enter", "(I)V"⟩, 15), (⟨"GenerationsModel", "become", "(II)V"⟩, 15), (⟨"GenerationsModel", "owner", "(I)I"⟩, 15), (⟨"GenerationsModel", "versionOf", "(I)I"⟩, 15), (⟨"GenerationsModel", "be", "(IIII)V"⟩, 15), (⟨"GenerationsModel", "isJob", "(I)Z"⟩, 15)]
theorem lw_r2 : ∀ q ∈ lw_privs_2, lw_okq q := List.forall_mem_cons.mpr ⟨lw_p16, List.forall_mem_cons.mpr ⟨lw_p17, List.forall_mem_cons.mpr ⟨lw_p18, List.forall_mem_cons.mpr ⟨lw_p19, List.forall_mem_cons.mpr ⟨lw_p20, List.forall_mem_cons.mpr ⟨lw_p21, List.forall_mem_cons.mpr ⟨lw_p22, List.forall_mem_cons.mpr ⟨lw_p23, List.forall_mem_cons.mpr ⟨lw_p24, List.forall_mem_cons.mpr ⟨lw_p25, List.forall_mem_cons.mpr ⟨lw_p26, List.forall_mem_cons.mpr ⟨lw_p27, List.forall_mem_cons.mpr ⟨lw_p28, List.forall_mem_cons.mpr ⟨lw_p29, List.forall_mem_cons.mpr ⟨lw_p30, List.forall_mem_cons.mpr ⟨lw_p31, fun _ h => absurd h List.not_mem_nil⟩⟩⟩⟩⟩⟩⟩⟩⟩⟩⟩⟩⟩⟩⟩⟩
theorem lw_p32 : lw_okq (⟨"GenerationsModel", "fails", "(Z)Z"⟩, 15) := ⟨⟨by decide +kernel, by decide +kernel⟩, List.mem_of_getElem? (i := 453) (by decide +kernel), List.mem_of_getElem? (i := 551) (by decide +kernel), List.mem_of_getElem? (i := 552) (by decide +kernel)⟩
theorem lw_p33 : lw_okq (⟨"GenerationsModel", "numberOf", "(II)I"⟩, 15) := ⟨⟨by decide +kernel, by decide +kernel⟩, List.mem_of_getElem? (i := 453) (by decide +kernel), List.mem_of_getElem? (i := 555) (by decide +kernel), List.mem_of_getElem? (i := 556) (by decide +kernel)⟩
theorem lw_p34 : lw_okq (⟨"GenerationsModel", "isOwn", "(II)Z"⟩, 15) := ⟨⟨by decide +kernel, by decide +kernel⟩, List.mem_of_getElem? (i := 453) (by decide +kernel), List.mem_of_getElem? (i := 559) (by decide +kernel), List.mem_of_getElem? (i := 560) (by decide +kernel)⟩
theorem lw_p35 : lw_okq (⟨"GenerationsModel", "settle", "()V"⟩, 15) := ⟨⟨by decide +kernel, by decide +kernel⟩, List.mem_of_getElem? (i := 453) (by decide +kernel), List.mem_of_getElem? (i := 571) (by decide +kernel), List.mem_of_getElem? (i := 572) (by decide +kernel)⟩
def lw_privs_3 : List (MethodName × Nat) := [(⟨"GenerationsModel", "fails", "(Z)Z"⟩, 15), (⟨"GenerationsModel", "numberOf", "(II)I"⟩, 15), (⟨"GenerationsModel", "isOwn", "(II)Z"⟩, 15), (⟨"GenerationsModel", "settle", "()V"⟩, 15)]
theorem lw_r3 : ∀ q ∈ lw_privs_3, lw_okq q := List.forall_mem_cons.mpr ⟨lw_p32, List.forall_mem_cons.mpr ⟨lw_p33, List.forall_mem_cons.mpr ⟨lw_p34, List.forall_mem_cons.mpr ⟨lw_p35, fun _ h => absurd h List.not_mem_nil⟩⟩⟩⟩
def lw_privs : List (MethodName × Nat) := lw_privs_1 ++ (lw_privs_2 ++ (lw_privs_3))
def lw_tbl : List Cond := k2_sels lw_privs ++ tables_1
theorem lw_privs_ok : ∀ q ∈ lw_privs, lw_okq q := by
  show ∀ q ∈ lw_privs_1 ++ (lw_privs_2 ++ (lw_privs_3)), lw_okq q
  exact List.forall_mem_append.mpr ⟨lw_r1, List.forall_mem_append.mpr ⟨lw_r2, lw_r3⟩⟩
end
section
/-! WORLDS AS MAPS. A world is a map from addresses to (role, entry); the heap holds it (gw_P). Roles are ghost numbers: cells of different roles are apart. Every contract takes the whole map and hands back the whole map: no cutting out, no joining. -/
abbrev gw_M : Type := Nat → Option (Nat × va_E)
def gw_up (M : gw_M) (a r : Nat) (e : va_E) : gw_M := fun j => if j = a then some (r, e) else M j
theorem gw_up_self (M : gw_M) (a r : Nat) (e : va_E) : gw_up M a r e a = some (r, e) := by simp [gw_up]
theorem gw_up_ne {M : gw_M} {a r b : Nat} {e : va_E} (h : b ≠ a) : gw_up M a r e b = M b := by simp [gw_up, h]
theorem gw_role {M : gw_M} {a b ra rb : Nat} {ea eb : va_E} (ha : M a = some (ra, ea)) (hb : M b = some (rb, eb)) (h : ra ≠ rb) : b ≠ a := by
  intro e
  subst e
  rw [ha] at hb
  exact h (congrArg Prod.fst (Option.some.inj hb))
/-- a cell of another role stays -/
theorem gw_keep {M : gw_M} {a b ra rb r : Nat} {ea eb e : va_E} (hb : M b = some (rb, eb)) (ha : M a = some (ra, ea)) (h : ra ≠ rb) : gw_up M a r e b = some (rb, eb) := by
  rw [gw_up_ne (gw_role ha hb h)]
  exact hb
/-- a cell that was there stays when a new one comes -/
theorem gw_keepN {M : gw_M} {a b rb r : Nat} {eb e : va_E} (hb : M b = some (rb, eb)) (ha : M a = none) : gw_up M a r e b = some (rb, eb) := by
  rw [gw_up_ne (fun q => by rw [q, ha] at hb; cases hb)]
  exact hb
theorem gw_newNe {M : gw_M} {a b rb : Nat} {eb : va_E} (hb : M b = some (rb, eb)) (ha : M a = none) : b ≠ a := fun q => by rw [q, ha] at hb; cases hb
def gw_P (D : va_G) (cl : List vw_C) (B0 : Nat) (M : gw_M) (H : Heap) : Prop := ∃ ws : va_W, va_P D cl ws H ∧ va_D (fun q => B0 ≤ q) ws ∧ ∀ (a r : Nat) (e : va_E), M a = some (r, e) → (a, e) ∈ ws
theorem gw_P.at {D : va_G} {cl : List vw_C} {B0 : Nat} {M : gw_M} {H : Heap} (h : gw_P D cl B0 M H) {a r : Nat} {e : va_E} (ha : M a = some (r, e)) : va_at D cl (a, e) H ∧ B0 ≤ a := by
  obtain ⟨ws, hP, hD, hM⟩ := h
  obtain ⟨k, hk⟩ := List.getElem?_of_mem (hM _ _ _ ha)
  exact ⟨hP k _ hk, hD.2 k _ hk⟩
theorem gw_P.lt {D : va_G} {cl : List vw_C} {B0 : Nat} {M : gw_M} {H : Heap} (h : gw_P D cl B0 M H) {a r : Nat} {e : va_E} (ha : M a = some (r, e)) : a < H.size := (h.at ha).1.lt
theorem gw_P.kept {D : va_G} {cl : List vw_C} {B0 : Nat} {M : gw_M} {H H1 : Heap} (h : gw_P D cl B0 M H) (hq : ∀ q : Nat, q < H.size → H1[q]? = H[q]?) : gw_P D cl B0 M H1 := by
  obtain ⟨ws, hP, hD, hM⟩ := h
  exact ⟨ws, hP.kept (fun k q hk => hq _ (hP k q hk).lt), hD, hM⟩
theorem gw_set {ws : va_W} {M : gw_M} {k a r : Nat} {e0 e : va_E} (hk : ws[k]? = some (a, e0)) (hM : ∀ (a r : Nat) (e : va_E), M a = some (r, e) → (a, e) ∈ ws) : ∀ (b r' : Nat) (e' : va_E), gw_up M a r e b = some (r', e') → (b, e') ∈ ws.set k (a, e) := by
  intro b r' e' h
  have hl := (List.getElem?_eq_some_iff.mp hk).1
  by_cases hb : b = a
  · subst hb
    rw [gw_up_self] at h
    have h2 : e = e' := congrArg Prod.snd (Option.some.inj h)
    subst h2
    exact List.mem_of_getElem? (List.getElem?_set_self hl)
  · rw [gw_up_ne hb] at h
    obtain ⟨j, hj⟩ := List.getElem?_of_mem (hM _ _ _ h)
    have hjk : j ≠ k := by
      intro q
      subst q
      rw [hk] at hj
      exact hb (congrArg Prod.fst (Option.some.inj hj)).symm
    exact List.mem_of_getElem? (i := j) (by rw [List.getElem?_set_ne (Ne.symm hjk)]; exact hj)
theorem gw_push {ws : va_W} {M : gw_M} {a r : Nat} {e : va_E} (hM : ∀ (a r : Nat) (e : va_E), M a = some (r, e) → (a, e) ∈ ws) : ∀ (b r' : Nat) (e' : va_E), gw_up M a r e b = some (r', e') → (b, e') ∈ ws ++ [(a, e)] := by
  intro b r' e' h
  by_cases hb : b = a
  · subst hb
    rw [gw_up_self] at h
    have h2 : e = e' := congrArg Prod.snd (Option.some.inj h)
    subst h2
    exact List.mem_append_right _ List.mem_cons_self
  · rw [gw_up_ne hb] at h
    exact List.mem_append_left _ (hM _ _ _ h)
theorem gw_fresh {ws : va_W} {M : gw_M} {A : Nat → Prop} {a : Nat} {e : va_E} (hD : va_D A (ws ++ [(a, e)])) (hM : ∀ (a r : Nat) (e : va_E), M a = some (r, e) → (a, e) ∈ ws) : M a = none := by
  cases h : M a with
  | none => rfl
  | some x =>
    obtain ⟨r, e'⟩ := x
    obtain ⟨j, hj⟩ := List.getElem?_of_mem (hM _ _ _ h)
    have hl := (List.getElem?_eq_some_iff.mp hj).1
    have h1 : (ws ++ [(a, e)])[j]? = some (a, e') := by rw [List.getElem?_append_left hl]; exact hj
    have h2 : (ws ++ [(a, e)])[ws.length]? = some (a, e) := by rw [List.getElem?_append_right (Nat.le_refl _), Nat.sub_self]; rfl
    have := hD.1 _ _ _ _ h1 h2 rfl
    omega
section GWR
variable {p : Program} {l : Launch} {e : Env} {R : Room} {s : State} {m : MethodId} {args : Array Value} {below : List Frame} {meth : Method} {c : Code} {H : Heap} {locs : List Loc} {cells slots : Nat} {Q : State → Prop}
variable {cc : ByteArray} {pc : Nat} {ls : Array Slot} {rest : List Value} {D : va_G} {cl : List vw_C} {B0 a r : Nat} {tys : List (ClassId × FieldType)} {M : gw_M} {H0 : Heap}
theorem gw_get (hexec : p.tables.exec = Jvm.exec) (hb : c.code = cc) {own ref C : String} {T : u_T} {N ci index : Nat} {Ts : List Cond} (hts : ∀ w ∈ Ts, w.before args s = true) (hin : ∀ w ∈ u_ws C T N, w ∈ Ts) (hown : s.vm.findClass own = some m.cls) (hK : va_K D cl tys s) (hW : gw_P D cl B0 M H) {fs : List Value} (he : M a = some (r, .inr (ci, fs))) (hc : cl[ci]? = some (C, T, N)) (k : Nat) (hk : k < N) (hlink : (Cond.fieldLink own index ref (T k).2.1 (T k).2.2.1).before args s = true) (hsame : ∀ x, s.fieldFound? (T k).1 (T k).2.1 (T k).2.2.1 = some x → s.fieldFound? ref (T k).2.1 (T k).2.2.1 = some x) {v : Value} (hv : fs[k]? = some v) (hdg : decode cc pc = .ok (.getfield index, 3))
    (kk : W p l e R s m args below meth c H locs cells slots Q (F0 m (pc + 3) ls (v :: rest))) : W p l e R s m args below meth c H locs cells slots Q (F0 m pc ls (.ref a :: rest)) := by
  obtain ⟨ws, hP, hD, hM⟩ := hW
  obtain ⟨q0, hq⟩ := List.getElem?_of_mem (hM _ _ _ he)
  exact va_get hexec hb hts hin hown hK hP q0 hq hc k hk hlink hsame hv hdg kk
theorem gw_getN (hexec : p.tables.exec = Jvm.exec) (hb : c.code = cc) {own ref C host : String} {T : u_T} {N ci index : Nat} {Ts : List Cond} (hts : ∀ w ∈ Ts, w.before args s = true) (hin : ∀ w ∈ u_ws C T N, w ∈ Ts) (hown : s.vm.findClass own = some m.cls) (hK : va_K D cl tys s) (hW : gw_P D cl B0 M H) {fs : List Value} (he : M a = some (r, .inr (ci, fs))) (hc : cl[ci]? = some (C, T, N)) (k : Nat) (hk : k < N) (hlink : (Cond.fieldLinkNest own index ref (T k).2.1 (T k).2.2.1 host).before args s = true) (hsame : ∀ x, s.fieldFound? (T k).1 (T k).2.1 (T k).2.2.1 = some x → s.fieldFound? ref (T k).2.1 (T k).2.2.1 = some x) {v : Value} (hv : fs[k]? = some v) (hdg : decode cc pc = .ok (.getfield index, 3))
    (kk : W p l e R s m args below meth c H locs cells slots Q (F0 m (pc + 3) ls (v :: rest))) : W p l e R s m args below meth c H locs cells slots Q (F0 m pc ls (.ref a :: rest)) := by
  obtain ⟨ws, hP, hD, hM⟩ := hW
  obtain ⟨q0, hq⟩ := List.getElem?_of_mem (hM _ _ _ he)
  exact va_getN hexec hb hts hin hown hK hP q0 hq hc k hk hlink hsame hv hdg kk
theorem gw_put (hexec : p.tables.exec = Jvm.exec) (hb : c.code = cc) {own ref C : String} {T : u_T} {N ci index : Nat} {Ts : List Cond} (hts : ∀ w ∈ Ts, w.before args s = true) (hin : ∀ w ∈ u_ws C T N, w ∈ Ts) (ty0 : Nat → FieldType) (hty : ∀ k, k < N → parseFieldDescriptor (T k).2.2.1 = some (ty0 k)) (hnm : ∀ a, a < N → ∀ b, b < N → a ≠ b → (T a).2.1 ≠ (T b).2.1) (hown : s.vm.findClass own = some m.cls) (hK : va_K D cl tys s) (hW : gw_P D cl B0 M H) (hS : va_S (fun q => B0 ≤ q) H0 H locs) {fs : List Value} (he : M a = some (r, .inr (ci, fs))) (hc : cl[ci]? = some (C, T, N)) (k : Nat) (hk : k < N) (hlink : (Cond.fieldLink own index ref (T k).2.1 (T k).2.2.1).before args s = true) (hsame : ∀ x, s.fieldFound? (T k).1 (T k).2.1 (T k).2.2.1 = some x → s.fieldFound? ref (T k).2.1 (T k).2.2.1 = some x) (hfin : (T k).2.2.2 = false) {ty : FieldType} {v : Value} (hd : parseFieldDescriptor (T k).2.2.1 = some ty) (hn : narrow ty v = v) (hfit : fits ty v = true) (hl : k < fs.length) (hdg : decode cc pc = .ok (.putfield index, 3))
    (kk : ∀ (H1 : Heap) (locs1 : List Loc), gw_P D cl B0 (gw_up M a r (.inr (ci, fs.set k v))) H1 → va_S (fun q => B0 ≤ q) H0 H1 locs1 → W p l e R s m args below meth c H1 locs1 cells slots Q (F0 m (pc + 3) ls rest)) : W p l e R s m args below meth c H locs cells slots Q (F0 m pc ls (v :: .ref a :: rest)) := by
  obtain ⟨ws, hP, hD, hM⟩ := hW
  obtain ⟨q0, hq⟩ := List.getElem?_of_mem (hM _ _ _ he)
  exact va_put hexec hb hts hin ty0 hty hnm hown hK hP hD hS q0 hq hc k hk hlink hsame hfin hd hn hfit hl hdg (fun H1 locs1 hP1 hD1 hS1 => kk H1 locs1 ⟨_, hP1, hD1, gw_set hq hM⟩ hS1)
theorem gw_putN (hexec : p.tables.exec = Jvm.exec) (hb : c.code = cc) {own ref C host : String} {T : u_T} {N ci index : Nat} {Ts : List Cond} (hts : ∀ w ∈ Ts, w.before args s = true) (hin : ∀ w ∈ u_ws C T N, w ∈ Ts) (ty0 : Nat → FieldType) (hty : ∀ k, k < N → parseFieldDescriptor (T k).2.2.1 = some (ty0 k)) (hnm : ∀ a, a < N → ∀ b, b < N → a ≠ b → (T a).2.1 ≠ (T b).2.1) (hown : s.vm.findClass own = some m.cls) (hK : va_K D cl tys s) (hW : gw_P D cl B0 M H) (hS : va_S (fun q => B0 ≤ q) H0 H locs) {fs : List Value} (he : M a = some (r, .inr (ci, fs))) (hc : cl[ci]? = some (C, T, N)) (k : Nat) (hk : k < N) (hlink : (Cond.fieldLinkNest own index ref (T k).2.1 (T k).2.2.1 host).before args s = true) (hsame : ∀ x, s.fieldFound? (T k).1 (T k).2.1 (T k).2.2.1 = some x → s.fieldFound? ref (T k).2.1 (T k).2.2.1 = some x) (hfin : (T k).2.2.2 = false) {ty : FieldType} {v : Value} (hd : parseFieldDescriptor (T k).2.2.1 = some ty) (hn : narrow ty v = v) (hfit : fits ty v = true) (hl : k < fs.length) (hdg : decode cc pc = .ok (.putfield index, 3))
    (kk : ∀ (H1 : Heap) (locs1 : List Loc), gw_P D cl B0 (gw_up M a r (.inr (ci, fs.set k v))) H1 → va_S (fun q => B0 ≤ q) H0 H1 locs1 → W p l e R s m args below meth c H1 locs1 cells slots Q (F0 m (pc + 3) ls rest)) : W p l e R s m args below meth c H locs cells slots Q (F0 m pc ls (v :: .ref a :: rest)) := by
  obtain ⟨ws, hP, hD, hM⟩ := hW
  obtain ⟨q0, hq⟩ := List.getElem?_of_mem (hM _ _ _ he)
  exact va_putN hexec hb hts hin ty0 hty hnm hown hK hP hD hS q0 hq hc k hk hlink hsame hfin hd hn hfit hl hdg (fun H1 locs1 hP1 hD1 hS1 => kk H1 locs1 ⟨_, hP1, hD1, gw_set hq hM⟩ hS1)
theorem gw_putF (hexec : p.tables.exec = Jvm.exec) (hb : c.code = cc) {own ref C : String} {T : u_T} {N ci index : Nat} {Ts : List Cond} (hts : ∀ w ∈ Ts, w.before args s = true) (hin : ∀ w ∈ u_ws C T N, w ∈ Ts) (ty0 : Nat → FieldType) (hty : ∀ k, k < N → parseFieldDescriptor (T k).2.2.1 = some (ty0 k)) (hnm : ∀ a, a < N → ∀ b, b < N → a ≠ b → (T a).2.1 ≠ (T b).2.1) (hown : s.vm.findClass own = some m.cls) (hK : va_K D cl tys s) (hW : gw_P D cl B0 M H) (hS : va_S (fun q => B0 ≤ q) H0 H locs) {fs : List Value} (he : M a = some (r, .inr (ci, fs))) (hc : cl[ci]? = some (C, T, N)) (k : Nat) (hk : k < N) (hlink : (Cond.fieldLink own index ref (T k).2.1 (T k).2.2.1).before args s = true) (hsame : ∀ x, s.fieldFound? (T k).1 (T k).2.1 (T k).2.2.1 = some x → s.fieldFound? ref (T k).2.1 (T k).2.2.1 = some x) (hfin : (T k).2.2.2 = true) (hin2 : meth.name = "<init>") (hdecl : (T k).1 = own) {ty : FieldType} {v : Value} (hd : parseFieldDescriptor (T k).2.2.1 = some ty) (hn : narrow ty v = v) (hfit : fits ty v = true) (hl : k < fs.length) (hdg : decode cc pc = .ok (.putfield index, 3))
    (kk : ∀ (H1 : Heap) (locs1 : List Loc), gw_P D cl B0 (gw_up M a r (.inr (ci, fs.set k v))) H1 → va_S (fun q => B0 ≤ q) H0 H1 locs1 → W p l e R s m args below meth c H1 locs1 cells slots Q (F0 m (pc + 3) ls rest)) : W p l e R s m args below meth c H locs cells slots Q (F0 m pc ls (v :: .ref a :: rest)) := by
  obtain ⟨ws, hP, hD, hM⟩ := hW
  obtain ⟨q0, hq⟩ := List.getElem?_of_mem (hM _ _ _ he)
  exact va_putF hexec hb hts hin ty0 hty hnm hown hK hP hD hS q0 hq hc k hk hlink hsame hfin hin2 hdecl hd hn hfit hl hdg (fun H1 locs1 hP1 hD1 hS1 => kk H1 locs1 ⟨_, hP1, hD1, gw_set hq hM⟩ hS1)
theorem gw_iald (hexec : p.tables.exec = Jvm.exec) (hb : c.code = cc) (hK : va_K D cl tys s) (hW : gw_P D cl B0 M H) (t0 : Nat) {cA : ClassId} {n : Nat} {f : Nat → Int32} (ha : M a = some (r, .inl (cA, n, .inl f))) (ht : tys[t0]? = some (cA, .int)) {i : Int32} (hin : vp_in i n) (hdg : decode cc pc = .ok (.iaload, 1))
    (kk : W p l e R s m args below meth c H locs cells slots Q (F0 m (pc + 1) ls (.int (f i.toNatClampNeg) :: rest))) : W p l e R s m args below meth c H locs cells slots Q (F0 m pc ls (.int i :: .ref a :: rest)) := by
  obtain ⟨ws, hP, hD, hM⟩ := hW
  obtain ⟨q0, hq⟩ := List.getElem?_of_mem (hM _ _ _ ha)
  exact va_iald hexec hb hK hP q0 t0 hq ht hin hdg kk
theorem gw_zald (hexec : p.tables.exec = Jvm.exec) (hb : c.code = cc) (hK : va_K D cl tys s) (hW : gw_P D cl B0 M H) (t0 : Nat) {cA : ClassId} {n : Nat} {f : Nat → Int32} (ha : M a = some (r, .inl (cA, n, .inl f))) (ht : tys[t0]? = some (cA, .boolean)) {i : Int32} (hin : vp_in i n) (hdg : decode cc pc = .ok (.baload, 1))
    (kk : W p l e R s m args below meth c H locs cells slots Q (F0 m (pc + 1) ls (.int (f i.toNatClampNeg) :: rest))) : W p l e R s m args below meth c H locs cells slots Q (F0 m pc ls (.int i :: .ref a :: rest)) := by
  obtain ⟨ws, hP, hD, hM⟩ := hW
  obtain ⟨q0, hq⟩ := List.getElem?_of_mem (hM _ _ _ ha)
  exact va_zald hexec hb hK hP q0 t0 hq ht hin hdg kk
theorem gw_lald (hexec : p.tables.exec = Jvm.exec) (hb : c.code = cc) (hK : va_K D cl tys s) (hW : gw_P D cl B0 M H) (t0 : Nat) {cA : ClassId} {n : Nat} {f : Nat → Int64} (ha : M a = some (r, .inl (cA, n, .inr (.inl f)))) (ht : tys[t0]? = some (cA, .long)) {i : Int32} (hin : vp_in i n) (hdg : decode cc pc = .ok (.laload, 1))
    (kk : W p l e R s m args below meth c H locs cells slots Q (F0 m (pc + 1) ls (.long (f i.toNatClampNeg) :: rest))) : W p l e R s m args below meth c H locs cells slots Q (F0 m pc ls (.int i :: .ref a :: rest)) := by
  obtain ⟨ws, hP, hD, hM⟩ := hW
  obtain ⟨q0, hq⟩ := List.getElem?_of_mem (hM _ _ _ ha)
  exact va_lald hexec hb hK hP q0 t0 hq ht hin hdg kk
theorem gw_aald (hexec : p.tables.exec = Jvm.exec) (hb : c.code = cc) (hK : va_K D cl tys s) (hW : gw_P D cl B0 M H) (t0 : Nat) {cA : ClassId} {C : String} {n : Nat} {f : Nat → Option Nat} (ha : M a = some (r, .inl (cA, n, .inr (.inr (.inr (.inr f)))))) (ht : tys[t0]? = some (cA, .object C)) {i : Int32} (hin : vp_in i n) (hdg : decode cc pc = .ok (.aaload, 1))
    (kk : W p l e R s m args below meth c H locs cells slots Q (F0 m (pc + 1) ls (va_rf (f i.toNatClampNeg) :: rest))) : W p l e R s m args below meth c H locs cells slots Q (F0 m pc ls (.int i :: .ref a :: rest)) := by
  obtain ⟨ws, hP, hD, hM⟩ := hW
  obtain ⟨q0, hq⟩ := List.getElem?_of_mem (hM _ _ _ ha)
  exact va_aldq hexec hb hK hP q0 t0 hq ht hin hdg kk
theorem gw_alen (hexec : p.tables.exec = Jvm.exec) (hb : c.code = cc) (hK : va_K D cl tys s) (hW : gw_P D cl B0 M H) (t0 : Nat) {cA : ClassId} {x : vp_A} (ha : M a = some (r, .inl (cA, x))) {ty : FieldType} (ht : tys[t0]? = some (cA, ty)) {v : Int32} (hv : Int32.ofNat x.1 = v) (hdg : decode cc pc = .ok (.arraylength, 1))
    (kk : W p l e R s m args below meth c H locs cells slots Q (F0 m (pc + 1) ls (.int v :: rest))) : W p l e R s m args below meth c H locs cells slots Q (F0 m pc ls (.ref a :: rest)) := by
  obtain ⟨ws, hP, hD, hM⟩ := hW
  obtain ⟨q0, hq⟩ := List.getElem?_of_mem (hM _ _ _ ha)
  exact va_alen hexec hb hK hP q0 t0 hq ht hv hdg kk
theorem gw_iast (hexec : p.tables.exec = Jvm.exec) (hb : c.code = cc) (hK : va_K D cl tys s) (hW : gw_P D cl B0 M H) (hS : va_S (fun q => B0 ≤ q) H0 H locs) (t0 : Nat) {cA : ClassId} {n : Nat} {f : Nat → Int32} (ha : M a = some (r, .inl (cA, n, .inl f))) (ht : tys[t0]? = some (cA, .int)) {i : Int32} {x : Int32} (hin : vp_in i n) (hdg : decode cc pc = .ok (.iastore, 1))
    (kk : ∀ (H1 : Heap) (locs1 : List Loc), gw_P D cl B0 (gw_up M a r (.inl (cA, n, .inl (upd f i.toNatClampNeg x)))) H1 → va_S (fun q => B0 ≤ q) H0 H1 locs1 → W p l e R s m args below meth c H1 locs1 cells slots Q (F0 m (pc + 1) ls rest)) : W p l e R s m args below meth c H locs cells slots Q (F0 m pc ls (.int x :: .int i :: .ref a :: rest)) := by
  obtain ⟨ws, hP, hD, hM⟩ := hW
  obtain ⟨q0, hq⟩ := List.getElem?_of_mem (hM _ _ _ ha)
  exact va_iast hexec hb hK hP hD hS q0 t0 hq ht hin hdg (fun H1 locs1 hP1 hD1 hS1 => kk H1 locs1 ⟨_, hP1, hD1, gw_set hq hM⟩ hS1)
theorem gw_last (hexec : p.tables.exec = Jvm.exec) (hb : c.code = cc) (hK : va_K D cl tys s) (hW : gw_P D cl B0 M H) (hS : va_S (fun q => B0 ≤ q) H0 H locs) (t0 : Nat) {cA : ClassId} {n : Nat} {f : Nat → Int64} (ha : M a = some (r, .inl (cA, n, .inr (.inl f)))) (ht : tys[t0]? = some (cA, .long)) {i : Int32} {x : Int64} (hin : vp_in i n) (hdg : decode cc pc = .ok (.lastore, 1))
    (kk : ∀ (H1 : Heap) (locs1 : List Loc), gw_P D cl B0 (gw_up M a r (.inl (cA, n, .inr (.inl (vp_updL f i.toNatClampNeg x))))) H1 → va_S (fun q => B0 ≤ q) H0 H1 locs1 → W p l e R s m args below meth c H1 locs1 cells slots Q (F0 m (pc + 1) ls rest)) : W p l e R s m args below meth c H locs cells slots Q (F0 m pc ls (.long x :: .int i :: .ref a :: rest)) := by
  obtain ⟨ws, hP, hD, hM⟩ := hW
  obtain ⟨q0, hq⟩ := List.getElem?_of_mem (hM _ _ _ ha)
  exact va_last hexec hb hK hP hD hS q0 t0 hq ht hin hdg (fun H1 locs1 hP1 hD1 hS1 => kk H1 locs1 ⟨_, hP1, hD1, gw_set hq hM⟩ hS1)
theorem gw_aastO (hexec : p.tables.exec = Jvm.exec) (hb : c.code = cc) (hK : va_K D cl tys s) (hW : gw_P D cl B0 M H) (hS : va_S (fun q => B0 ≤ q) H0 H locs) (t0 ci : Nat) {E : String} {cA : ClassId} {rr : vw_C} {n v rv : Nat} {vs : List Value} {f : Nat → Option Nat} (ha : M a = some (r, .inl (cA, n, .inr (.inr (.inr (.inr f)))))) (ht : tys[t0]? = some (cA, .object E)) (hca : va_Nw (.castable rr.1 E) s) (hv : M v = some (rv, .inr (ci, vs))) (hc : cl[ci]? = some rr) {i : Int32} (hin : vp_in i n) (hdg : decode cc pc = .ok (.aastore, 1))
    (kk : ∀ (H1 : Heap) (locs1 : List Loc), gw_P D cl B0 (gw_up M a r (.inl (cA, n, .inr (.inr (.inr (.inr (va_up f i.toNatClampNeg (some v)))))))) H1 → va_S (fun q => B0 ≤ q) H0 H1 locs1 → W p l e R s m args below meth c H1 locs1 cells slots Q (F0 m (pc + 1) ls rest)) : W p l e R s m args below meth c H locs cells slots Q (F0 m pc ls (.ref v :: .int i :: .ref a :: rest)) := by
  obtain ⟨ws, hP, hD, hM⟩ := hW
  obtain ⟨q0, hq⟩ := List.getElem?_of_mem (hM _ _ _ ha)
  obtain ⟨qk, hqk⟩ := List.getElem?_of_mem (hM _ _ _ hv)
  exact va_astqO hexec hb hK hP hD hS q0 t0 qk ci hq ht hca hqk hc hin hdg (fun H1 locs1 hP1 hD1 hS1 => kk H1 locs1 ⟨_, hP1, hD1, gw_set hq hM⟩ hS1)
theorem gw_newa (hexec : p.tables.exec = Jvm.exec) (hb : c.code = cc) {atype : ArrayType} (harr : (Cond.arrayClass (newarray.typeOf atype)).before args s = true) {ty : FieldType} (hty : newarray.typeOf atype = ty) (hK : va_K D cl tys s) (hW : gw_P D cl B0 M H) (hS : va_S (fun q => B0 ≤ q) H0 H locs) (hB : B0 ≤ H0.size)
    {n : Int32} {N' : Nat} {a0 : vp_A} (ha : ∀ cA : ClassId, vp_cell cA a0 = arrV cA N' (fun _ => defaultValue ty)) (hn : ¬ n < 0) (hN : n.toNatClampNeg = N') (hbytes : N' * componentBytes ty ≤ 536870912) (hcells : cells + 1 ≤ R.cells) (hslots : slots + N' ≤ R.slots) (hdg : decode cc pc = .ok (.newarray atype, 2)) (t0 : Nat) {cA0 : ClassId} (ht : tys[t0]? = some (cA0, ty)) (hra : ∀ cA : ClassId, va_RA s cA ty → va_RA s cA0 ty → cA = cA0) (r : Nat)
    (kk : ∀ (q : Nat) (H1 : Heap), M q = none → gw_P D cl B0 (gw_up M q r (.inl (cA0, a0))) H1 → va_S (fun q => B0 ≤ q) H0 H1 locs →
      W p l e R s m args below meth c H1 locs (cells + 1) (slots + N') Q (F0 m (pc + 2) ls (.ref q :: rest))) : W p l e R s m args below meth c H locs cells slots Q (F0 m pc ls (.int n :: rest)) := by
  obtain ⟨ws, hP, hD, hM⟩ := hW
  refine va_newa hexec hb harr hty hK hP hD hS (fun q h => Nat.le_trans hB h) ha hn hN hbytes hcells hslots hdg (fun q cA H1 hK1 hP1 hD1 hS1 => ?_)
  have e1 : cA = cA0 := by
    have h1 := (hK1.2 tys.length (cA, ty) (by simp)).2
    exact hra cA h1 (hK.2 t0 _ ht).2
  subst e1
  exact kk q H1 (gw_fresh hD1 hM) ⟨_, hP1, hD1, gw_push hM⟩ hS1
theorem gw_newq (hexec : p.tables.exec = Jvm.exec) (hb : c.code = cc) {own C : String} {index : Nat} (hown : s.vm.findClass own = some m.cls) (hclink : (Cond.classLink own index C).before args s = true) (hover : va_AO C s) (hK : va_K D cl tys s) (hW : gw_P D cl B0 M H) (hS : va_S (fun q => B0 ≤ q) H0 H locs) (hB : B0 ≤ H0.size)
    {n : Int32} {N' : Nat} (hn : ¬ n < 0) (hN : n.toNatClampNeg = N') (hbytes : N' * 4 ≤ 536870912) (hcells : cells + 1 ≤ R.cells) (hslots : slots + N' ≤ R.slots) (hdg : decode cc pc = .ok (.anewarray index, 3)) (t0 : Nat) {cA0 : ClassId} (ht : tys[t0]? = some (cA0, .object C)) (r : Nat)
    (kk : ∀ (q : Nat) (H1 : Heap), M q = none → gw_P D cl B0 (gw_up M q r (.inl (cA0, N', .inr (.inr (.inr (.inr (fun _ => none))))))) H1 → va_S (fun q => B0 ≤ q) H0 H1 locs →
      W p l e R s m args below meth c H1 locs (cells + 1) (slots + N') Q (F0 m (pc + 3) ls (.ref q :: rest))) : W p l e R s m args below meth c H locs cells slots Q (F0 m pc ls (.int n :: rest)) := by
  obtain ⟨ws, hP, hD, hM⟩ := hW
  refine va_newq hexec hb hown hclink hover hK hP hD hS (fun q h => Nat.le_trans hB h) hn hN hbytes hcells hslots hdg (fun q cA H1 hK1 hP1 hD1 hS1 => ?_)
  have e1 : cA = cA0 := by
    obtain ⟨_, _, _, _, _, h1⟩ := (hK1.2 tys.length (cA, .object C) (by simp)).2
    obtain ⟨_, _, _, _, _, h2⟩ := (hK.2 t0 _ ht).2
    exact Option.some.inj (h1.symm.trans h2)
  subst e1
  exact kk q H1 (gw_fresh hD1 hM) ⟨_, hP1, hD1, gw_push hM⟩ hS1
theorem gw_new (hexec : p.tables.exec = Jvm.exec) (hb : c.code = cc) {own C : String} {T : u_T} {N ci index : Nat} {Ts : List Cond} (hts : ∀ w ∈ Ts, w.before args s = true) (hin : ∀ w ∈ u_ws C T N, w ∈ Ts) (ty : Nat → FieldType) (hty : ∀ k, k < N → parseFieldDescriptor (T k).2.2.1 = some (ty k)) (hown : s.vm.findClass own = some m.cls) (hcl : (Cond.classLink own index C).before args s = true) (hinst : (Cond.instantiable C N).before args s = true) (hini : (Cond.initialized C).before args s = true)
    (hK : va_K D cl tys s) (hW : gw_P D cl B0 M H) (hS : va_S (fun q => B0 ≤ q) H0 H locs) (hB : B0 ≤ H0.size) (hc : cl[ci]? = some (C, T, N)) {fs : List Value} (hfs : ∀ j, j < N → defaultValue (ty j) = vp_V fs j) (hcells : cells + 1 ≤ R.cells) (hslots : slots + N ≤ R.slots) (hdg : decode cc pc = .ok (.new index, 3)) (r : Nat)
    (kk : ∀ (q : Nat) (H1 : Heap), M q = none → gw_P D cl B0 (gw_up M q r (.inr (ci, fs))) H1 → va_S (fun q => B0 ≤ q) H0 H1 locs →
      W p l e R s m args below meth c H1 locs (cells + 1) (slots + N) Q (F0 m (pc + 3) ls (.ref q :: rest))) : W p l e R s m args below meth c H locs cells slots Q (F0 m pc ls rest) := by
  obtain ⟨ws, hP, hD, hM⟩ := hW
  exact va_new hexec hb hts hin ty hty hown hcl hinst hini hK hP hD hS (fun q h => Nat.le_trans hB h) hc hfs hcells hslots hdg (fun q H1 hP1 hD1 hS1 => kk q H1 (gw_fresh hD1 hM) ⟨_, hP1, hD1, gw_push hM⟩ hS1)
theorem gw_copyi (hexec : p.tables.exec = Jvm.exec) (hb : c.code = cc) (hml : c.maxLocals = ls.size) {own : String} {index : Nat} (hown : s.vm.findClass own = some m.cls) (hlink : (Cond.methodLink own index arraycopyName).before args s = true) (hnat : (Cond.native arraycopyName).before args s = true) (hstat : (Cond.static arraycopyName).before args s = true) (hini : (Cond.initialized "java/lang/System").before args s = true)
    (hK : va_K D cl tys s) (hW : gw_P D cl B0 M H) (hS : va_S (fun q => B0 ≤ q) H0 H locs) (t0 t1 : Nat) {a0 r0 : Nat} {c0 c1 : ClassId} {n0 n1 : Nat} {f g : Nat → Int32} (ha0 : M a0 = some (r0, .inl (c0, n0, .inl f))) (ha1 : M a = some (r, .inl (c1, n1, .inl g))) (ht0 : tys[t0]? = some (c0, .int)) (ht1 : tys[t1]? = some (c1, .int))
    {sp dp n : Int32} (h1 : ¬ sp < 0) (h2 : ¬ dp < 0) (h3 : ¬ n < 0) (h4 : sp.toNatClampNeg + n.toNatClampNeg ≤ n0) (h5 : dp.toNatClampNeg + n.toNatClampNeg ≤ n1)
    (hframes : 1 ≤ R.frames) (hlocals : (rest.map fun v => v.category).sum + (nativeFrameWords "java/lang/System" "arraycopy" 5 + 11) ≤ R.locals) (hdg : decode cc pc = .ok (.invokestatic index, 3))
    (kk : ∀ (H1 : Heap) (locs1 : List Loc), gw_P D cl B0 (gw_up M a r (.inl (c1, n1, .inl (va_cpy f g sp.toNatClampNeg dp.toNatClampNeg n.toNatClampNeg)))) H1 → va_S (fun q => B0 ≤ q) H0 H1 locs1 → W p l e R s m args below meth c H1 locs1 cells slots Q (F0 m (pc + 3) ls rest)) : W p l e R s m args below meth c H locs cells slots Q (F0 m pc ls (.int n :: .int dp :: .ref a :: .int sp :: .ref a0 :: rest)) := by
  obtain ⟨ws, hP, hD, hM⟩ := hW
  obtain ⟨q0, hq0⟩ := List.getElem?_of_mem (hM _ _ _ ha0)
  obtain ⟨q1, hq1⟩ := List.getElem?_of_mem (hM _ _ _ ha1)
  exact va_copyi hexec hb hml hown hlink hnat hstat hini hK hP hD hS q0 q1 t0 t1 hq0 hq1 ht0 ht1 rfl h1 h2 h3 h4 h5 (fun i _ => rfl) hframes hlocals hdg (fun H1 locs1 hP1 hD1 hS1 => kk H1 locs1 ⟨_, hP1, hD1, gw_set hq1 hM⟩ hS1)
theorem gw_recv {ci : Nat} {q : vw_C} {fs : List Value} (hK : va_K D cl tys s) (hW : gw_P D cl B0 M H) (hc : cl[ci]? = some q) (he : M a = some (r, .inr (ci, fs))) : ∃ cell : Cell, H[a]? = some cell ∧ cell.vm.isStatics = false ∧ s.vm.findClass q.1 = some cell.cls := by
  obtain ⟨ws, hP, hD, hM⟩ := hW
  obtain ⟨q0, hq⟩ := List.getElem?_of_mem (hM _ _ _ he)
  exact va_recv hK hP hc hq
end GWR
theorem gw_zi (n : Nat) : ∀ cA : ClassId, vp_cell cA (n, .inl (fun _ => 0)) = arrV cA n (fun _ => defaultValue .int) := fun _ => rfl
theorem gw_zl (n : Nat) : ∀ cA : ClassId, vp_cell cA (n, .inr (.inl (fun _ => 0))) = arrV cA n (fun _ => defaultValue .long) := fun _ => rfl
theorem gw_ri {s : State} : ∀ cA cB : ClassId, va_RA s cA .int → va_RA s cB .int → cA = cB := fun _ _ h1 h2 => Option.some.inj (h1.symm.trans h2)
theorem gw_rl {s : State} : ∀ cA cB : ClassId, va_RA s cA .long → va_RA s cB .long → cA = cB := fun _ _ h1 h2 => Option.some.inj (h1.symm.trans h2)
end
section
def F_X : u_T := fun k => match k with
  | 0 => ("Generations", "limit", "I", true)
  | 1 => ("Generations", "scratches", "Z", true)
  | 2 => ("Generations", "emptyRule", "Z", false)
  | 3 => ("Generations", "row", "LGenerations$Row;", true)
  | 4 => ("Generations", "jobs", "Ljava/util/ArrayList;", true)
  | 5 => ("Generations", "known", "Ljava/util/ArrayList;", true)
  | 6 => ("Generations", "nowhere", "LGenerations$Generation;", true)
  | 7 => ("Generations", "gone", "[I", true)
  | _ => ("Generations", "goneCount", "I", false)
def t_X : Nat → FieldType := fun k => match k with
  | 0 => .int
  | 1 => .boolean
  | 2 => .boolean
  | 3 => .object "Generations$Row"
  | 4 => .object "java/util/ArrayList"
  | 5 => .object "java/util/ArrayList"
  | 6 => .object "Generations$Generation"
  | 7 => .array .int
  | _ => .int
def F_Row : u_T := fun k => match k with
  | 0 => ("Generations$Row", "numbers", "[I", true)
  | _ => ("Generations$Row", "size", "I", false)
def t_Row : Nat → FieldType := fun k => match k with
  | 0 => .array .int
  | _ => .int
def F_Gen : u_T := fun k => match k with
  | 0 => ("Generations$Generation", "number", "I", true)
  | 1 => ("Generations$Generation", "state", "I", false)
  | 2 => ("Generations$Generation", "version", "I", false)
  | 3 => ("Generations$Generation", "maker", "I", false)
  | _ => ("Generations$Generation", "failedAtEnd", "I", false)
def t_Gen : Nat → FieldType := fun k => match k with
  | 0 => .int
  | 1 => .int
  | 2 => .int
  | 3 => .int
  | _ => .int
def F_Job : u_T := fun k => match k with
  | 0 => ("Generations$Job", "rowThen", "[I", true)
  | _ => ("Generations$Job", "ends", "I", false)
def t_Job : Nat → FieldType := fun k => match k with
  | 0 => .array .int
  | _ => .int
def F_AL : u_T := fun k => match k with
  | 0 => ("java/util/AbstractList", "modCount", "I", false)
  | 1 => ("java/util/ArrayList", "elementData", "[Ljava/lang/Object;", false)
  | _ => ("java/util/ArrayList", "size", "I", false)
def t_AL : Nat → FieldType := fun k => match k with
  | 0 => .int
  | 1 => .array (.object "java/lang/Object")
  | _ => .int
def F_Mo : u_T := fun k => match k with
  | 0 => ("GenerationsModel", "code", "I", false)
  | 1 => ("GenerationsModel", "limit", "I", true)
  | 2 => ("GenerationsModel", "scratch", "Z", true)
  | 3 => ("GenerationsModel", "empties", "Z", false)
  | 4 => ("GenerationsModel", "there", "[I", true)
  | 5 => ("GenerationsModel", "row", "[I", true)
  | 6 => ("GenerationsModel", "size", "I", false)
  | 7 => ("GenerationsModel", "found", "[I", true)
  | 8 => ("GenerationsModel", "foundSize", "[I", true)
  | 9 => ("GenerationsModel", "ends", "[I", true)
  | 10 => ("GenerationsModel", "made", "[I", true)
  | 11 => ("GenerationsModel", "jobs", "I", false)
  | 12 => ("GenerationsModel", "maker", "I", false)
  | 13 => ("GenerationsModel", "drops", "[I", true)
  | _ => ("GenerationsModel", "dropped", "I", false)
def t_Mo : Nat → FieldType := fun k => match k with
  | 0 => .int
  | 1 => .int
  | 2 => .boolean
  | 3 => .boolean
  | 4 => .array .int
  | 5 => .array .int
  | 6 => .int
  | 7 => .array .int
  | 8 => .array .int
  | 9 => .array .int
  | 10 => .array .int
  | 11 => .int
  | 12 => .int
  | 13 => .array .int
  | _ => .int
abbrev vwCl : List vw_C := [("Generations", F_X, 9), ("Generations$Row", F_Row, 2), ("Generations$Generation", F_Gen, 5), ("Generations$Job", F_Job, 2), ("java/util/ArrayList", F_AL, 3), ("GenerationsModel", F_Mo, 15)]
theorem n_X : ∀ a, a < 9 → ∀ b, b < 9 → a ≠ b → (F_X a).2.1 ≠ (F_X b).2.1 := by decide +kernel
theorem t_X_ok : ∀ k, k < 9 → parseFieldDescriptor (F_X k).2.2.1 = some (t_X k) := by decide +kernel
theorem n_Row : ∀ a, a < 2 → ∀ b, b < 2 → a ≠ b → (F_Row a).2.1 ≠ (F_Row b).2.1 := by decide +kernel
theorem t_Row_ok : ∀ k, k < 2 → parseFieldDescriptor (F_Row k).2.2.1 = some (t_Row k) := by decide +kernel
theorem n_Gen : ∀ a, a < 5 → ∀ b, b < 5 → a ≠ b → (F_Gen a).2.1 ≠ (F_Gen b).2.1 := by decide +kernel
theorem t_Gen_ok : ∀ k, k < 5 → parseFieldDescriptor (F_Gen k).2.2.1 = some (t_Gen k) := by decide +kernel
theorem n_Job : ∀ a, a < 2 → ∀ b, b < 2 → a ≠ b → (F_Job a).2.1 ≠ (F_Job b).2.1 := by decide +kernel
theorem t_Job_ok : ∀ k, k < 2 → parseFieldDescriptor (F_Job k).2.2.1 = some (t_Job k) := by decide +kernel
theorem n_AL : ∀ a, a < 3 → ∀ b, b < 3 → a ≠ b → (F_AL a).2.1 ≠ (F_AL b).2.1 := by decide +kernel
theorem t_AL_ok : ∀ k, k < 3 → parseFieldDescriptor (F_AL k).2.2.1 = some (t_AL k) := by decide +kernel
theorem n_Mo : ∀ a, a < 15 → ∀ b, b < 15 → a ≠ b → (F_Mo a).2.1 ≠ (F_Mo b).2.1 := by decide +kernel
theorem t_Mo_ok : ∀ k, k < 15 → parseFieldDescriptor (F_Mo k).2.2.1 = some (t_Mo k) := by decide +kernel
end
section
/-! THE ENVIRONMENT OF EVERY METHOD: the tables' words (gw_N0, all of them hold in every warmed state), the classes, the old cells that are read (statics, texts). G = ((class numbers, slots), array classes, old addresses, the first new address). -/
abbrev gw_G : Type := va_G × (Nat → ClassId) × (Nat → Nat) × Nat
abbrev gw_ty (G : gw_G) : List (ClassId × FieldType) := [(G.2.1 0, .int), (G.2.1 1, .object "java/lang/Object"), (G.2.1 2, .long)]
abbrev gw_A (G : gw_G) : Nat → Prop := fun q => G.2.2.2 ≤ q
def gw_nk (w : Cond) : Bool := match w with
  | .fieldLinkNest _ _ _ _ _ _ => true
  | .methodLinkNest _ _ _ _ => true
  | .castable _ _ => true
  | .declares _ => true
  | _ => false
def gw_gk (w : Cond) : Bool := goodWord w || gw_nk w
theorem gw_nf {w : Cond} (h : gw_nk w = true) : (∃ a i b n d hh, w = .fieldLinkNest a i b n d hh) ∨ (∃ a i x hh, w = .methodLinkNest a i x hh) ∨ (∃ C T, w = .castable C T) ∨ ∃ x, w = .declares x := by
  unfold gw_nk at h
  split at h
  · exact Or.inl ⟨_, _, _, _, _, _, rfl⟩
  · exact Or.inr (Or.inl ⟨_, _, _, _, rfl⟩)
  · exact Or.inr (Or.inr (Or.inl ⟨_, _, rfl⟩))
  · exact Or.inr (Or.inr (Or.inr ⟨_, rfl⟩))
  · cases h
theorem gw_ww {w : Cond} (hg : gw_gk w = true) {s U : State} {a a' : Array Value} (hW : s.WarmedH U.vm) (h : w.before a s = true) : w.before a' U = true := by
  unfold gw_gk at hg
  rcases Bool.or_eq_true _ _ |>.mp hg with h1 | h1
  · exact word_at hW (good_of_word h1) h
  · rcases gw_nf h1 with ⟨_, _, _, _, _, _, rfl⟩ | ⟨_, _, _, _, rfl⟩ | ⟨_, _, rfl⟩ | ⟨_, rfl⟩
    · exact va_Nw.use rfl (va_Nw.warmF hW (va_Nw.of rfl h))
    · exact va_Nw.use rfl (va_Nw.warmM hW (va_Nw.of rfl h))
    · exact va_Nw.use rfl (va_Nw.warmC hW (va_Nw.of rfl h))
    · exact va_Nw.use rfl (va_Nw.warmD hW (va_Nw.of rfl h))
def gw_N0 : List Cond := lw_tbl.filter gw_gk
theorem gw_N0_gk {w : Cond} (h : w ∈ gw_N0) : gw_gk w = true := (List.mem_filter.mp h).2
theorem gw_in {w : Cond} (h : w ∈ lw_tbl) (hg : gw_gk w = true := by rfl) : w ∈ gw_N0 := List.mem_filter.mpr ⟨h, hg⟩
theorem gw_tm {w : Cond} {i : Nat} (h : tables_1[i]? = some w) : w ∈ tables_1 := List.mem_of_getElem? h
/-- where a static of references lies, in the old part of the heap -/
def gt_L (C n d : String) (A : Nat → Prop) (U : State) (H : Heap) : Prop := va_Zq C n d A U H ∧ ∃ (c : ClassId) (k : Class) (i : Nat) (f : Field) (a : Nat) (cell : Cell), U.vm.findClass C = some c ∧ U.fieldFound? C n d = some (c, k, i, f) ∧ f.isStatic = true ∧ k.statics = some a ∧ H[a]? = some cell ∧ cell.vm.isStatics = true ∧ cell.cls = c ∧ f.slot < cell.slots.size ∧ k.staticTypes[f.slot]? = some f.type ∧ ¬ A a
theorem gt_L.kept {C n d : String} {A : Nat → Prop} {U : State} {H H1 : Heap} (h : gt_L C n d A U H) (hq : ∀ a : Nat, a < H.size → ¬ A a → H1[a]? = H[a]?) : gt_L C n d A U H1 := by
  obtain ⟨h0, c, k, i, f, a, cell, h1, h2, h3, h4, h5, h6, h7, h8, h9, h10⟩ := h
  exact ⟨h0.kept hq, c, k, i, f, a, cell, h1, h2, h3, h4, by rw [hq a (Array.getElem?_eq_some_iff.mp h5).1 h10]; exact h5, h6, h7, h8, h9, h10⟩
theorem gt_L.moved {C n d : String} {A : Nat → Prop} {u U : State} {H : Heap} (hvm : u.vm.Alike U.vm) (h : gt_L C n d A u H) : gt_L C n d A U H := by
  obtain ⟨h0, c, k, i, f, a, cell, h1, h2, h3, h4, h5, h6, h7, h8, h9, h10⟩ := h
  obtain ⟨k', hi', he⟩ := State.fieldFound?_setVm hvm h2
  exact ⟨va_Zq.moved hvm h0, c, k', i, f, a, cell, by rw [hvm.findClass]; exact h1, hi', h3, by rw [he]; exact h4, h5, h6, h7, h8, by rw [he]; exact h9, h10⟩
theorem gt_L.lays {C n d : String} {A : Nat → Prop} {U : State} (h : gt_L C n d A U U.heap) (args : Array Value) : (Cond.laysStatic C n d).before args U = true := by
  obtain ⟨-, c, k, i, f, a, cell, h1, h2, h3, h4, h5, h6, h7, h8, h9, -⟩ := h
  show (Cond.laysStatic C n d).holds args U none U [] = true
  exact Cond.laysStatic_of h1 h2 h3 h4 h5 h6 h7 h8 h9
theorem gt_Z.ref {C n d : String} {v : Value} {A : Nat → Prop} {U : State} (h : va_Z C n d v A U U.heap) (hv : v.isRef = true) (args : Array Value) : (Cond.isRef (.static C n d)).before args U = true := by
  obtain ⟨cf, kf, fi, f, a, cell, h1, h2, h3, h4, h5, h6, h7, -⟩ := h
  have he : (Term.static C n d).eval args U none [] U = some v := by simp [Term.eval, State.fieldNamed?, h1, h2, h4, h5, h6, h7]
  simp only [Cond.before, Cond.holds, Cond.value, he]
  cases v <;> simp_all [Value.isRef]
theorem gt_L.ref {C n d : String} {A : Nat → Prop} {U : State} (h : gt_L C n d A U U.heap) (args : Array Value) : (Cond.isRef (.static C n d)).before args U = true := by
  rcases h.1 with h9 | ⟨t, h9⟩
  · exact gt_Z.ref h9 rfl args
  · exact gt_Z.ref h9 rfl args
theorem gt_L.of {args : Array Value} {s : State} {C n d : String} {A : Nat → Prop} (hl : (Cond.laysStatic C n d).before args s = true) (hini : (Cond.initialized C).before args s = true) (h : (Cond.isRef (.static C n d)).before args s = true) (hA : ∀ a : Nat, a < s.heap.size → ¬ A a) : gt_L C n d A s s.heap := by
  obtain ⟨c, k, i, f, a, cell, h1, h2, h3, h4, h5, h6, h7, h8, h9⟩ := Cond.laysStatic_spec hl
  exact ⟨va_Zqof hl hini h hA, c, k, i, f, a, cell, h1, h2, h3, h4, h5, h6, h7, h8, h9, hA a (Array.getElem?_eq_some_iff.mp h5).1⟩
def gw_old (G : gw_G) (U : State) (H : Heap) : Prop := va_Z "java/util/ArrayList" "DEFAULTCAPACITY_EMPTY_ELEMENTDATA" "[Ljava/lang/Object;" (.ref (G.2.2.1 0)) (gw_A G) U H ∧ va_T (.object "java/lang/Object") (G.2.2.1 0) 0 (fun _ => .null) (gw_A G) U H ∧ gt_L "java/lang/Throwable" "UNASSIGNED_STACK" "[Ljava/lang/StackTraceElement;" (gw_A G) U H ∧ gt_L "java/lang/Throwable" "SUPPRESSED_SENTINEL" "Ljava/util/List;" (gw_A G) U H ∧ vk_R "Generations" 164 "there is no such job" (G.2.2.1 1) U ∧ vk_R "Generations" 106 "n is above 99" (G.2.2.1 2) U ∧ vk_R "Generations" 121 "n is not 1 .. 99" (G.2.2.1 3) U ∧ va_AO "java/lang/Object" U ∧ va_Mi "[Ljava/lang/Object;" (G.2.2.1 4) U
theorem gw_old.keep {G : gw_G} {s : State} {H H1 : Heap} (h : gw_old G s H) (hq : ∀ q : Nat, q < H.size → ¬ gw_A G q → H1[q]? = H[q]?) : gw_old G s H1 := ⟨h.1.kept hq, h.2.1.kept hq, h.2.2.1.kept hq, h.2.2.2.1.kept hq, h.2.2.2.2⟩
theorem gw_old.move {G : gw_G} {s U : State} {H : Heap} (hW : s.WarmedH U.vm) (h : gw_old G s H) : gw_old G U H := ⟨va_Z.moved hW.alike h.1, va_T.moved hW.alike h.2.1, gt_L.moved hW.alike h.2.2.1, gt_L.moved hW.alike h.2.2.2.1, vk_R.warm hW h.2.2.2.2.1, vk_R.warm hW h.2.2.2.2.2.1, vk_R.warm hW h.2.2.2.2.2.2.1, va_AO.moved hW.alike h.2.2.2.2.2.2.2.1, va_Mi.moved hW.alike h.2.2.2.2.2.2.2.2⟩
def gw_E (G : gw_G) (U : State) : Prop := va_K G.1 vwCl (gw_ty G) U ∧ (∀ w ∈ gw_N0, w.before #[] U = true) ∧ gw_old G U U.heap
theorem gw_E.K {G : gw_G} {U : State} (h : gw_E G U) : va_K G.1 vwCl (gw_ty G) U := h.1
theorem gw_E.ts {G : gw_G} {U : State} (h : gw_E G U) (args : Array Value) : ∀ w ∈ gw_N0, w.before args U = true := fun w hw => gw_ww (gw_N0_gk hw) (State.WarmedH.refl U) (h.2.1 w hw)
theorem gw_E.nw {G : gw_G} {U : State} (h : gw_E G U) {w : Cond} (hw : w ∈ gw_N0) : va_Nw w U := h.2.1 w hw
theorem gw_E.call {G : gw_G} {s : State} {H : Heap} {locs : List Loc} (h : gw_E G s) (hS : va_S (gw_A G) s.heap H locs) {U : State} (hU : U.heap = H) (hW : s.WarmedH U.vm) : gw_E G U :=
  ⟨va_K.moved hW.alike h.1, fun w hw => gw_ww (gw_N0_gk hw) hW (h.2.1 w hw), by rw [hU]; exact gw_old.move hW (gw_old.keep h.2.2 hS.2.1)⟩
theorem gw_E.blind {G : gw_G} {U : State} (h : gw_E G U) (g : JFrame) (mk : MethodId) (a : Array Value) : gw_E G (U.calling g mk a) :=
  ⟨va_K.moved (u := U) (U := U.calling g mk a) (Vm.Alike.refl U.vm) h.1, fun w hw => gw_ww (s := U) (gw_N0_gk hw) (State.WarmedH.refl U) (h.2.1 w hw), gw_old.move (s := U) (U := U.calling g mk a) (State.WarmedH.refl U) h.2.2⟩
theorem gw_E.ao {G : gw_G} {U : State} (h : gw_E G U) : va_AO "java/lang/Object" U := h.2.2.2.2.2.2.2.2.2.1
theorem gw_E.mi {G : gw_G} {U : State} (h : gw_E G U) : va_Mi "[Ljava/lang/Object;" (G.2.2.1 4) U := h.2.2.2.2.2.2.2.2.2.2
def gw_Pc (G : gw_G) (M : gw_M) (av : List Value) : Array Value → State → Prop := va_Pc av (fun U => gw_E G U ∧ G.2.2.2 ≤ U.heap.size ∧ gw_P G.1 vwCl G.2.2.2 M U.heap)
theorem gw_blind {G : gw_G} {M : gw_M} {av : List Value} : FrameBlind (gw_Pc G M av) := fun a U g mk q => by
  obtain ⟨q0, q1, q2, q3⟩ := q
  exact ⟨q0, q1.blind g mk a, q2, q3⟩
theorem gw_ps {G : gw_G} {M : gw_M} {As : List Value} {s : State} {H : Heap} {locs : List Loc} (hE : gw_E G s) (hB : G.2.2.2 ≤ s.heap.size) (hS : va_S (gw_A G) s.heap H locs) (hW : gw_P G.1 vwCl G.2.2.2 M H) : PreS s H (gw_Pc G M As) As :=
  ⟨gw_blind, fun _ hU hw => ⟨rfl, hE.call hS hU hw, by rw [hU]; exact Nat.le_trans hB hS.1, by rw [hU]; exact hW⟩⟩
theorem gw_pv {G : gw_G} {M : gw_M} {As : List Value} {s : State} {H : Heap} {locs : List Loc} {b r ci : Nat} {q : vw_C} {fs : List Value} (hE : gw_E G s) (hB : G.2.2.2 ≤ s.heap.size) (hS : va_S (gw_A G) s.heap H locs) (hW : gw_P G.1 vwCl G.2.2.2 M H) (hc : vwCl[ci]? = some q) (he : M b = some (r, .inr (ci, fs))) : PreV s H q.1 b (gw_Pc G M (.ref b :: As)) As :=
  ⟨gw_blind, gw_recv hE.1 hW hc he, fun _ hU hw => ⟨rfl, hE.call hS hU hw, by rw [hU]; exact Nat.le_trans hB hS.1, by rw [hU]; exact hW⟩⟩
abbrev gw_Qi (G : gw_G) (post : Int32 → gw_M → Prop) : Array Value → State → Outcome → State → Prop := va_Qi post (fun M2 t => gw_P G.1 vwCl G.2.2.2 M2 t.heap) (gw_A G)
abbrev gw_Qv (G : gw_G) (post : gw_M → Prop) : Array Value → State → Outcome → State → Prop := va_Qv post (fun M2 t => gw_P G.1 vwCl G.2.2.2 M2 t.heap) (gw_A G)
abbrev gw_Qr (G : gw_G) (post : Nat → gw_M → Prop) : Array Value → State → Outcome → State → Prop := va_Qr (fun u : Nat × gw_M => post u.1 u.2) (fun u a t => a = u.1 ∧ gw_P G.1 vwCl G.2.2.2 u.2 t.heap) (gw_A G)
section GWS
variable {l : Launch} {y : MethodName} {rm : Room} {G : gw_G} {M : gw_M} {av : List Value} {Qc : Array Value → State → Outcome → State → Prop} {mc ms : Nat} {cc : ByteArray} {maxL : Nat} {ret : Option FieldType}
theorem gw_start (hy : plainName y.cls = true) (hn : (lg_sl av).length ≤ maxL)
    (body : ∀ (p : Program) (e : Env) (s : State) (m : MethodId) (below : List Frame) (meth : Method) (c : Code), p.tables.exec = Jvm.exec → c.code = cc → meth.sig.returnType = ret → c.maxLocals = maxL → s.vm.findClass y.cls = some m.cls → meth.locks = false → meth.name = y.name → gw_E G s → G.2.2.2 ≤ s.heap.size → gw_P G.1 vwCl G.2.2.2 M s.heap →
      ∀ ls : Array Slot, lv_has ls maxL (lv_args 0 av) → W p l e rm s m av.toArray below meth c s.heap [] 0 0 (MQ below Qc av.toArray s mc ms (gw_A G)) (F0 m 0 ls [])) :
    Met l y [.code y cc maxL ret] rm (gw_Pc G M av) Qc mc ms (gw_A G) := by
  refine Met.ofW (cc := cc) (maxL := maxL) (ret := ret) hy rfl ?_
  intro p e s m args below meth c s₁ B hml hv
  obtain ⟨rfl, hE, hB, hW⟩ := hv
  have hl := lv_entry av (n := maxL) hn
  rw [lg_entry_eq]
  generalize (lg_sl av ++ List.replicate (maxL - (lg_sl av).length) Slot.unset).toArray = ls at hl ⊢
  exact body p e s m below meth c B.exec B.bytes B.returns hml (findClass_of_methodNamed B.named) B.notSynchronized (name_of_methodNamed B.named B.method).1 hE hB hW ls hl
end GWS
section GWE
variable {p : Program} {l : Launch} {e : Env} {R : Room} {s : State} {m : MethodId} {args : Array Value} {below : List Frame} {meth : Method} {c : Code} {H : Heap} {locs : List Loc} {cells slots : Nat} {Q : State → Prop}
variable {G : gw_G} {M2 : gw_M} {mc ms pc : Nat} {cc : ByteArray} {ls : Array Slot} {st0 rest : List Value} {a : Array Value}
theorem gw_iret {post : Int32 → gw_M → Prop} {v : Int32} (hx : p.tables.exec = Jvm.exec) (hb : c.code = cc) (hr : meth.sig.returnType = some .int) (hlocks : meth.locks = false) (hS : va_S (gw_A G) s.heap H locs) (hW : gw_P G.1 vwCl G.2.2.2 M2 H) (hc : cells ≤ mc) (hs : slots ≤ ms) (hdg : decode cc pc = .ok (.ireturn, 1)) (hp : post v M2) :
    W p l e R s m args below meth c H locs cells slots (MQ below (gw_Qi G post) args s mc ms (gw_A G)) (F0 m pc ls [.int v]) :=
  W.widen hc hs (W.iret hx hb hr (fun t ht _ => ⟨⟨v, M2, rfl, hp, by show gw_P G.1 vwCl G.2.2.2 M2 t.heap; rw [ht]; exact hW⟩, hS.F ht⟩) hS.2.2 hdg hlocks)
theorem gw_zret {post : Int32 → gw_M → Prop} {v : Int32} {ty : FieldType} (hx : p.tables.exec = Jvm.exec) (hb : c.code = cc) (hr : meth.sig.returnType = some ty) (hlocks : meth.locks = false) (hn : narrow ty (.int v) = .int v) (hS : va_S (gw_A G) s.heap H locs) (hW : gw_P G.1 vwCl G.2.2.2 M2 H) (hc : cells ≤ mc) (hs : slots ≤ ms) (hdg : decode cc pc = .ok (.ireturn, 1)) (hp : post v M2) :
    W p l e R s m args below meth c H locs cells slots (MQ below (gw_Qi G post) args s mc ms (gw_A G)) (F0 m pc ls [.int v]) :=
  W.widen hc hs (W.zret hx hb hr hn (fun t ht _ => ⟨⟨v, M2, rfl, hp, by show gw_P G.1 vwCl G.2.2.2 M2 t.heap; rw [ht]; exact hW⟩, hS.F ht⟩) hS.2.2 hdg hlocks)
theorem gw_vret {post : gw_M → Prop} (hx : p.tables.exec = Jvm.exec) (hb : c.code = cc) (hr : meth.sig.returnType = none) (hlocks : meth.locks = false) (hS : va_S (gw_A G) s.heap H locs) (hW : gw_P G.1 vwCl G.2.2.2 M2 H) (hc : cells ≤ mc) (hs : slots ≤ ms) (hdg : decode cc pc = .ok (.return_, 1)) (hp : post M2) :
    W p l e R s m args below meth c H locs cells slots (MQ below (gw_Qv G post) args s mc ms (gw_A G)) (F0 m pc ls []) :=
  W.widen hc hs (W.vret hx hb hr (fun t ht _ => ⟨⟨M2, rfl, hp, by show gw_P G.1 vwCl G.2.2.2 M2 t.heap; rw [ht]; exact hW⟩, hS.F ht⟩) hS.2.2 hdg hlocks)
theorem gw_aret {post : Nat → gw_M → Prop} {v : Nat} {rt : FieldType} (hx : p.tables.exec = Jvm.exec) (hb : c.code = cc) (hr : meth.sig.returnType = some rt) (hlocks : meth.locks = false) (hrt : (∃ n, rt = .object n) ∨ ∃ t, rt = .array t) (hS : va_S (gw_A G) s.heap H locs) (hW : gw_P G.1 vwCl G.2.2.2 M2 H) (hc : cells ≤ mc) (hs : slots ≤ ms) (hdg : decode cc pc = .ok (.areturn, 1)) (hp : post v M2) :
    W p l e R s m args below meth c H locs cells slots (MQ below (gw_Qr G post) args s mc ms (gw_A G)) (F0 m pc ls [.ref v]) :=
  W.widen hc hs (W.aret hx hb hr hrt (Or.inr ⟨v, rfl⟩) (fun t ht _ => ⟨⟨(v, M2), v, rfl, hp, rfl, by rw [ht]; exact hW⟩, hS.F ht⟩) hS.2.2 hdg hlocks)
theorem gw_calli {post : Int32 → gw_M → Prop} (hS : va_S (gw_A G) s.heap H locs) (hr : va_Run p l e R s m args below meth c H locs cells slots mc ms (F0 m pc ls st0) rest (gw_Qi G post a) (gw_A G))
    (kk : ∀ (r : Int32) (M2 : gw_M) (H1 : Heap) (locs1 : List Loc), post r M2 → gw_P G.1 vwCl G.2.2.2 M2 H1 → va_S (gw_A G) s.heap H1 locs1 → W p l e R s m args below meth c H1 locs1 (cells + mc) (slots + ms) Q (F0 m (pc + 3) ls (.int r :: rest))) : W p l e R s m args below meth c H locs cells slots Q (F0 m pc ls st0) :=
  va_calli hr hS (fun _ _ h => h) (fun _ h => h) (fun r u t H1 locs1 ht _ hw hB _ _ hS1 => kk r u H1 locs1 hw (by rw [← ht]; exact hB) hS1)
theorem gw_callv {post : gw_M → Prop} (hS : va_S (gw_A G) s.heap H locs) (hr : va_Run p l e R s m args below meth c H locs cells slots mc ms (F0 m pc ls st0) rest (gw_Qv G post a) (gw_A G))
    (kk : ∀ (M2 : gw_M) (H1 : Heap) (locs1 : List Loc), post M2 → gw_P G.1 vwCl G.2.2.2 M2 H1 → va_S (gw_A G) s.heap H1 locs1 → W p l e R s m args below meth c H1 locs1 (cells + mc) (slots + ms) Q (F0 m (pc + 3) ls rest)) : W p l e R s m args below meth c H locs cells slots Q (F0 m pc ls st0) :=
  va_callv hr hS (fun _ _ h => h) (fun _ h => h) (fun u t H1 locs1 ht _ hw hB _ _ hS1 => kk u H1 locs1 hw (by rw [← ht]; exact hB) hS1)
theorem gw_callr {post : Nat → gw_M → Prop} (hS : va_S (gw_A G) s.heap H locs) (hr : va_Run p l e R s m args below meth c H locs cells slots mc ms (F0 m pc ls st0) rest (gw_Qr G post a) (gw_A G))
    (kk : ∀ (v : Nat) (M2 : gw_M) (H1 : Heap) (locs1 : List Loc), post v M2 → gw_P G.1 vwCl G.2.2.2 M2 H1 → va_S (gw_A G) s.heap H1 locs1 → W p l e R s m args below meth c H1 locs1 (cells + mc) (slots + ms) Q (F0 m (pc + 3) ls (.ref v :: rest))) : W p l e R s m args below meth c H locs cells slots Q (F0 m pc ls st0) := by
  refine va_callr hr hS (fun _ _ h => h) (fun _ h => h) (fun u ra t H1 locs1 ht _ hw hB _ _ hS1 => ?_)
  obtain ⟨e1, hB⟩ := hB
  subst e1
  exact kk u.1 u.2 H1 locs1 hw (by rw [← ht]; exact hB) hS1
end GWE
/-! what stays: the cells of the roles that P names are the same in both maps -/
def gw_fr (P : Nat → Prop) (M M2 : gw_M) : Prop := ∀ (a r : Nat) (e : va_E), P r → (M a = some (r, e) ↔ M2 a = some (r, e))
theorem gw_fr.rf {P : Nat → Prop} {M : gw_M} : gw_fr P M M := fun _ _ _ _ => Iff.rfl
theorem gw_fr.tr {P : Nat → Prop} {M M1 M2 : gw_M} (h1 : gw_fr P M M1) (h2 : gw_fr P M1 M2) : gw_fr P M M2 := fun a r e h => (h1 a r e h).trans (h2 a r e h)
theorem gw_fr.up {P : Nat → Prop} {M M1 : gw_M} {a ra r : Nat} {e0 e : va_E} (h : gw_fr P M M1) (ha : M1 a = some (ra, e0)) (h0 : ¬ P ra) (h1 : ¬ P r) : gw_fr P M (gw_up M1 a r e) := by
  intro b rb eb hb
  rw [h b rb eb hb]
  by_cases q : b = a
  · subst q
    rw [gw_up_self, ha]
    exact Iff.intro (fun z => by cases z; exact absurd hb h0) (fun z => by cases z; exact absurd hb h1)
  · rw [gw_up_ne q]
theorem gw_fr.new {P : Nat → Prop} {M M1 : gw_M} {a r : Nat} {e : va_E} (h : gw_fr P M M1) (ha : M1 a = none) (h1 : ¬ P r) : gw_fr P M (gw_up M1 a r e) := by
  intro b rb eb hb
  rw [h b rb eb hb]
  by_cases q : b = a
  · subst q
    rw [gw_up_self, ha]
    exact Iff.intro (fun z => by cases z) (fun z => by cases z; exact absurd hb h1)
  · rw [gw_up_ne q]
abbrev gw_out (L : List Nat) (r : Nat) : Prop := r ∉ L
theorem gw_fr.wk {L L0 : List Nat} {M M2 : gw_M} (h : gw_fr (gw_out L) M M2) (hs : ∀ x ∈ L, x ∈ L0) : gw_fr (gw_out L0) M M2 := fun a r e hr => h a r e (fun z => hr (hs r z))
theorem gw_good {w : Cond} (h : w ∈ gw_N0) (hg : goodWord w = true) : w ∈ gw_N0 ∧ ((w.onTables && w.keeps) = true ∨ ∃ ty, w = .arrayClass ty) := ⟨h, good_of_word hg⟩
theorem gw_g1 {w : Cond} (h : w ∈ gw_N0) (hg : goodWord w = true := by rfl) : GoodIn gw_N0 [w] := fun x hx => by
  rcases List.mem_cons.mp hx with rfl | hx
  · exact gw_good h hg
  · cases hx
theorem gw_gv {own C : String} {idx : Nat} {y : MethodName} {w : Cond} (h1 : Cond.methodLink own idx y ∈ gw_N0) (h2 : Cond.instanceMethod y ∈ gw_N0) (h3 : Cond.selects C y y ∈ gw_N0) (h4 : Cond.initialized C ∈ gw_N0) (h5 : w ∈ gw_N0) (hg : goodWord w = true := by rfl) : GoodIn gw_N0 (wsV own idx C y [w]) := fun x hx => by
  unfold wsV at hx
  simp only [List.cons_append, List.nil_append, List.mem_cons, List.not_mem_nil, or_false] at hx
  rcases hx with rfl | rfl | rfl | rfl | rfl
  · exact gw_good h1 rfl
  · exact gw_good h2 rfl
  · exact gw_good h3 rfl
  · exact gw_good h4 rfl
  · exact gw_good h5 hg
theorem gw_gs {own : String} {idx : Nat} {y : MethodName} {w : Cond} (h1 : Cond.methodLink own idx y ∈ gw_N0) (h2 : Cond.static y ∈ gw_N0) (h3 : Cond.initialized own ∈ gw_N0) (h5 : w ∈ gw_N0) (hg : goodWord w = true := by rfl) : GoodIn gw_N0 (wsS own idx y [w]) := fun x hx => by
  unfold wsS at hx
  simp only [List.cons_append, List.nil_append, List.mem_cons, List.not_mem_nil, or_false] at hx
  rcases hx with rfl | rfl | rfl | rfl
  · exact gw_good h1 rfl
  · exact gw_good h2 rfl
  · exact gw_good h3 rfl
  · exact gw_good h5 hg
theorem gw_gt {own : String} {idx : Nat} {y : MethodName} {w : Cond} (h1 : Cond.methodLink own idx y ∈ gw_N0) (h2 : Cond.static y ∈ gw_N0) (h3 : Cond.initialized y.cls ∈ gw_N0) (h5 : w ∈ gw_N0) (hg : goodWord w = true := by rfl) : GoodIn gw_N0 (va_wsS own idx y [w]) := fun x hx => by
  unfold va_wsS at hx
  simp only [List.cons_append, List.nil_append, List.mem_cons, List.not_mem_nil, or_false] at hx
  rcases hx with rfl | rfl | rfl | rfl
  · exact gw_good h1 rfl
  · exact gw_good h2 rfl
  · exact gw_good h3 rfl
  · exact gw_good h5 hg
theorem in_X1 : ∀ w ∈ u_ws "Generations" F_X 9, w ∈ lw_tbl := by decide +kernel
theorem in_X : ∀ w ∈ u_ws "Generations" F_X 9, w ∈ gw_N0 := fun w h => gw_in (in_X1 w h) (List.all_eq_true.mp (show (u_ws "Generations" F_X 9).all gw_gk = true by decide +kernel) w h)
theorem in_Row1 : ∀ w ∈ u_ws "Generations$Row" F_Row 2, w ∈ lw_tbl := by decide +kernel
theorem in_Row : ∀ w ∈ u_ws "Generations$Row" F_Row 2, w ∈ gw_N0 := fun w h => gw_in (in_Row1 w h) (List.all_eq_true.mp (show (u_ws "Generations$Row" F_Row 2).all gw_gk = true by decide +kernel) w h)
theorem in_Gen1 : ∀ w ∈ u_ws "Generations$Generation" F_Gen 5, w ∈ lw_tbl := by decide +kernel
theorem in_Gen : ∀ w ∈ u_ws "Generations$Generation" F_Gen 5, w ∈ gw_N0 := fun w h => gw_in (in_Gen1 w h) (List.all_eq_true.mp (show (u_ws "Generations$Generation" F_Gen 5).all gw_gk = true by decide +kernel) w h)
theorem in_Job1 : ∀ w ∈ u_ws "Generations$Job" F_Job 2, w ∈ lw_tbl := by decide +kernel
theorem in_Job : ∀ w ∈ u_ws "Generations$Job" F_Job 2, w ∈ gw_N0 := fun w h => gw_in (in_Job1 w h) (List.all_eq_true.mp (show (u_ws "Generations$Job" F_Job 2).all gw_gk = true by decide +kernel) w h)
theorem in_AL1 : ∀ w ∈ u_ws "java/util/ArrayList" F_AL 3, w ∈ lw_tbl := by decide +kernel
theorem in_AL : ∀ w ∈ u_ws "java/util/ArrayList" F_AL 3, w ∈ gw_N0 := fun w h => gw_in (in_AL1 w h) (List.all_eq_true.mp (show (u_ws "java/util/ArrayList" F_AL 3).all gw_gk = true by decide +kernel) w h)
theorem in_Mo1 : ∀ w ∈ u_ws "GenerationsModel" F_Mo 15, w ∈ lw_tbl := by decide +kernel
theorem in_Mo : ∀ w ∈ u_ws "GenerationsModel" F_Mo 15, w ∈ gw_N0 := fun w h => gw_in (in_Mo1 w h) (List.all_eq_true.mp (show (u_ws "GenerationsModel" F_Mo 15).all gw_gk = true by decide +kernel) w h)
end
section
/-! numbers: what the document's answers on a fresh object are -/
def gx_num (k : Int32) : Int32 := if 1 ≤ k ∧ k ≤ 9999 then 1 else 0
theorem gx_num0 {k : Int32} (h : k < 1) : gx_num k = 0 := if_neg (fun q => by
  have h1 := Int32.lt_iff_toInt_lt.mp h
  have h2 := Int32.le_iff_toInt_le.mp q.1
  omega)
theorem gx_num0' {k : Int32} (h : 9999 < k) : gx_num k = 0 := if_neg (fun q => by
  have h1 := Int32.lt_iff_toInt_lt.mp h
  have h2 := Int32.le_iff_toInt_le.mp q.2
  omega)
theorem gx_num1 {k : Int32} (h : ¬ k < 1) (h2 : ¬ 9999 < k) : gx_num k = 1 := if_pos ⟨by
  rw [Int32.lt_iff_toInt_lt] at h
  rw [Int32.le_iff_toInt_le]
  omega, by
  rw [Int32.lt_iff_toInt_lt] at h2
  rw [Int32.le_iff_toInt_le]
  omega⟩
theorem gx_ne0 {k : Int32} (h : ¬ gx_num k = 0) : ¬ (0 : Int32) = k := fun e => h (by rw [← e]; decide)
def gx_cat (k : Int32) : Int32 := if gx_num k = 0 then -1 else 1
theorem gx_cat0 {k : Int32} (h : gx_num k = 0) : gx_cat k = -1 := if_pos h
theorem gx_cat1 {k : Int32} (h : ¬ gx_num k = 0) : gx_cat k = 1 := if_neg h
def gx_st (k : Int32) : Int32 := if gx_num k = 0 then -1 else 0
theorem gx_st0 {k : Int32} (h : gx_num k = 0) : gx_st k = -1 := if_pos h
theorem gx_st1 {k : Int32} (h : ¬ gx_num k = 0) : gx_st k = 0 := if_neg h
def gx_cnt (k : Int32) : Int32 := if 0 ≤ k ∧ k ≤ 5 then 0 else -1
theorem gx_cntO {k : Int32} (h : k.toInt < 0 ∨ 5 < k.toInt) : gx_cnt k = -1 := if_neg (fun q => by
  have h1 : (0 : Int) ≤ k.toInt := Int32.le_iff_toInt_le.mp q.1
  have h2 : k.toInt ≤ 5 := Int32.le_iff_toInt_le.mp q.2
  omega)
theorem gx_pos {k : Int32} (h : ¬ k < 1) : ¬ k ≤ 0 := fun q => by
  have h1 : k.toInt ≤ 0 := Int32.le_iff_toInt_le.mp q
  have h2 : ¬ k.toInt < 1 := fun z => h (Int32.lt_iff_toInt_lt.mpr z)
  omega
theorem gx_nn {k : Int32} (h : ¬ k < 0) : 0 ≤ k := by
  have h2 : ¬ k.toInt < 0 := fun z => h (Int32.lt_iff_toInt_lt.mpr z)
  exact Int32.le_iff_toInt_le.mpr (by show (0 : Int) ≤ k.toInt; omega)
theorem gx_eqI {k : Int32} (n : Int32) (h : k.toInt = n.toInt) : k = n := Int32.toInt_inj.mp h
theorem gx_sw5 (k : Int32) : (k.toInt < 0 ∨ 5 < k.toInt) ∨ k = 0 ∨ k = 1 ∨ k = 2 ∨ k = 3 ∨ k = 4 ∨ k = 5 := by
  have h : (k.toInt < 0 ∨ 5 < k.toInt) ∨ k.toInt = 0 ∨ k.toInt = 1 ∨ k.toInt = 2 ∨ k.toInt = 3 ∨ k.toInt = 4 ∨ k.toInt = 5 := by omega
  rcases h with h | h | h | h | h | h | h
  · exact Or.inl h
  · exact Or.inr (Or.inl (gx_eqI 0 h))
  · exact Or.inr (Or.inr (Or.inl (gx_eqI 1 h)))
  · exact Or.inr (Or.inr (Or.inr (Or.inl (gx_eqI 2 h))))
  · exact Or.inr (Or.inr (Or.inr (Or.inr (Or.inl (gx_eqI 3 h)))))
  · exact Or.inr (Or.inr (Or.inr (Or.inr (Or.inr (Or.inl (gx_eqI 4 h))))))
  · exact Or.inr (Or.inr (Or.inr (Or.inr (Or.inr (Or.inr (gx_eqI 5 h))))))
/-- the limit that is kept is 1 or more -/
theorem gx_lim (q : Int32) : ¬ (if 1 < q then q else (1 : Int32)) < 0 + 1 := by
  by_cases h : 1 < q
  · rw [if_pos h]
    intro z
    have h1 := Int32.lt_iff_toInt_lt.mp h
    have h2 := Int32.lt_iff_toInt_lt.mp z
    have e1 : (1 : Int32).toInt = 1 := by decide
    have e2 : ((0 : Int32) + 1).toInt = 1 := by decide
    omega
  · rw [if_neg h]
    decide
theorem gm_num0 {k : Int32} (h : k ≤ 0) : gx_num k = 0 := if_neg (fun q => by
  have h1 := Int32.le_iff_toInt_le.mp h
  have h2 := Int32.le_iff_toInt_le.mp q.1
  have e0 : (0 : Int32).toInt = 0 := by decide
  have e1 : (1 : Int32).toInt = 1 := by decide
  omega)
theorem gm_num1 {k : Int32} (h : ¬ k ≤ 0) (h2 : ¬ 9999 < k) : gx_num k = 1 := if_pos ⟨by
  rw [Int32.le_iff_toInt_le] at h
  rw [Int32.le_iff_toInt_le]
  have e0 : (0 : Int32).toInt = 0 := by decide
  have e1 : (1 : Int32).toInt = 1 := by decide
  omega, by
  rw [Int32.lt_iff_toInt_lt] at h2
  rw [Int32.le_iff_toInt_le]
  omega⟩
theorem gm_lim {p : Int32} (h : 1 ≤ p) : ¬ p < 0 + 1 := fun z => by
  have h1 := Int32.le_iff_toInt_le.mp h
  have h2 := Int32.lt_iff_toInt_lt.mp z
  have e1 : (1 : Int32).toInt = 1 := by decide
  have e2 : ((0 : Int32) + 1).toInt = 1 := by decide
  omega
theorem gm_pos {k : Int32} (h : ¬ k ≤ 0) : 0 < k := by
  rw [Int32.le_iff_toInt_le] at h
  rw [Int32.lt_iff_toInt_lt]
  omega
theorem gx_in {k : Int32} (h : ¬ gx_num k = 0) : vp_in k 10000 := by
  have h1 : 1 ≤ k ∧ k ≤ 9999 := Classical.byContradiction (fun q => h (if_neg q))
  have h2 := Int32.le_iff_toInt_le.mp h1.1
  have h3 := Int32.le_iff_toInt_le.mp h1.2
  have e1 : (1 : Int32).toInt = 1 := by decide
  have e2 : (9999 : Int32).toInt = 9999 := by decide
  exact vp_in_iff.mpr ⟨by omega, by omega⟩
theorem gx_le9 {k : Nat} (h : ¬ (9999 : Int32) < nI k) (hk : k ≤ 10000) : k ≤ 9999 := by
  rcases Nat.lt_or_ge 9999 k with q | q
  · exact absurd (show nI 9999 < nI k from nI_lt q (by omega)) h
  · exact q
end
section
/-! METHODS THAT THROW AN IllegalArgumentException (and never return, as these do on a fresh object), and its catching -/
def gt_X (G : gw_G) (px : gw_M → Prop) (st t : State) : Prop := ∃ M2 : gw_M, px M2 ∧ gw_P G.1 vwCl G.2.2.2 M2 t.heap ∧ va_F (gw_A G) st t
def gt_Q (G : gw_G) (px : gw_M → Prop) (mc ms : Nat) : Array Value → State → Outcome → State → Prop := fun _ st o t =>
  ∃ (q : Addr) (ce : Cell) (L : List Loc), o = .threw q ∧ gt_X G px st t ∧ t.heap[q]? = some ce ∧ ce.vm = .none ∧ st.vm.findClass "java/lang/IllegalArgumentException" = some ce.cls ∧ st.WarmedH t.vm ∧ st.sameButNew ({ t with vm := st.vm } : State) L mc ms ∧ ∀ z ∈ L, gw_A G z.base
def gt_Met (l : Launch) (y : MethodName) (ws : List Cond) (rm : Room) (G : gw_G) (M : gw_M) (av : List Value) (px : gw_M → Prop) (mc ms : Nat) : Prop :=
  MetFree l y (headSpec ws rm) (gw_Pc G M av) (fun _ _ _ _ _ => True) (gt_Q G px mc ms)
def gt_MQ (below : List Frame) (G : gw_G) (px : gw_M → Prop) (a : Array Value) (s : State) (mc ms : Nat) : State → Prop := fun t => ∃ o, t.status = .running ∧ Ended t below o ∧ gt_Q G px mc ms a s o t
def gt_W (p : Program) (l : Launch) (e : Env) (R : Room) (s : State) (m : MethodId) (args : Array Value) (below : List Frame) (meth : Method) (c : Code) (H : Heap) (locs : List Loc) (cells slots : Nat) (Q : State → Prop) (g : JFrame) (q : Addr) : Prop :=
  ∀ T : State, T.heap = H → Stand p l e R s m args below meth c T locs cells slots → ∃ t, Steps p.tables e below ((T.setTop g).pushFrame (.throwing q)) t ∧ Q t
/-- returned (as N says), or thrown -/
def gu_Q (N : Array Value → State → Outcome → State → Prop) (G : gw_G) (px : gw_M → Prop) (mc ms : Nat) : Array Value → State → Outcome → State → Prop := fun a st o t => N a st o t ∨ gt_Q G px mc ms a st o t
def gu_Met (l : Launch) (y : MethodName) (ws : List Cond) (rm : Room) (G : gw_G) (M : gw_M) (av : List Value) (N : Array Value → State → Outcome → State → Prop) (px : gw_M → Prop) (mc ms : Nat) : Prop :=
  MetFree l y (headSpec ws rm) (gw_Pc G M av) (fun _ _ _ _ _ => True) (gu_Q N G px mc ms)
def gu_MQ (below : List Frame) (N : Array Value → State → Outcome → State → Prop) (G : gw_G) (px : gw_M → Prop) (a : Array Value) (s : State) (mc ms : Nat) : State → Prop := fun t => ∃ o, t.status = .running ∧ Ended t below o ∧ gu_Q N G px mc ms a s o t
/-- an int, or a cell, read: the heap is as it was -/
def gr_Qi (post : Int32 → Prop) : Array Value → State → Outcome → State → Prop := fun _ st o t => ∃ r : Int32, o = .returned (some (.int r)) ∧ post r ∧ t.heap = st.heap
def gr_Qr (post : Nat → Prop) : Array Value → State → Outcome → State → Prop := fun _ st o t => ∃ r : Nat, o = .returned (some (.ref r)) ∧ post r ∧ t.heap = st.heap
def gu_Nr (Qc : Array Value → State → Outcome → State → Prop) (mc ms : Nat) : Array Value → State → Outcome → State → Prop := fun a st o t => Qc a st o t ∧ FrameEnd st o t [] mc ms
def gu_Nw (G : gw_G) (Qc : Array Value → State → Outcome → State → Prop) (mc ms : Nat) : Array Value → State → Outcome → State → Prop := fun a st o t => Qc a st o t ∧ ∃ L, FrameEnd st o t L mc ms ∧ ∀ q ∈ L, gw_A G q.base
section GTS
variable {l : Launch} {y : MethodName} {rm : Room} {G : gw_G} {M : gw_M} {av : List Value} {px : gw_M → Prop} {mc ms : Nat} {cc : ByteArray} {maxL : Nat} {ret : Option FieldType}
theorem gt_start (hy : plainName y.cls = true) (hn : (lg_sl av).length ≤ maxL)
    (body : ∀ (p : Program) (e : Env) (s : State) (m : MethodId) (below : List Frame) (meth : Method) (c : Code), (∀ x ∈ c.exceptionTable.toList, False) → p.tables.exec = Jvm.exec → c.code = cc → meth.sig.returnType = ret → c.maxLocals = maxL → s.vm.findClass y.cls = some m.cls → meth.locks = false → meth.name = y.name → gw_E G s → G.2.2.2 ≤ s.heap.size → gw_P G.1 vwCl G.2.2.2 M s.heap →
      ∀ ls : Array Slot, lv_has ls maxL (lv_args 0 av) → W p l e rm s m av.toArray below meth c s.heap [] 0 0 (gt_MQ below G px av.toArray s mc ms) (F0 m 0 ls [])) :
    gt_Met l y [.code y cc maxL ret] rm G M av px mc ms := by
  refine MetFree.of_bodyS (code := cc) (maxLocals := maxL) (ret := ret) hy ?_ ?_
  · intro args s m h hnm
    obtain ⟨meth, c, h1, h2, h3, h4, h5, h6, -, -⟩ := Cond.code_spec hnm (atoms_spec (ws := [.code y cc maxL ret]) h _ List.mem_cons_self)
    exact ⟨meth, c, h1, h2, h3, h4, h5, h6⟩
  · intro p e s m args below meth c s₁ B hml hv _
    obtain ⟨rfl, hE, hB, hW⟩ := hv
    have htab : ∀ x ∈ c.exceptionTable.toList, False := by
      obtain ⟨meth9, c9, h1, h2, -, -, -, -, h7, -⟩ := Cond.code_spec B.named (atoms_spec (ws := [.code y cc maxL ret]) B.pre _ List.mem_cons_self)
      cases Option.some.inj (h1.symm.trans B.method)
      cases Option.some.inj (h2.symm.trans (Stand.of_body B).code)
      intro x hx
      rw [Array.isEmpty_iff.mp h7] at hx
      cases hx
    have hh0 : s₁.heap = s.heap := by rw [B.state]; rfl
    have hl := lv_entry av (n := maxL) hn
    have K := lg_entry_eq m av maxL
    generalize (lg_sl av ++ List.replicate (maxL - (lg_sl av).length) Slot.unset).toArray = ls at hl K
    obtain ⟨t, a1, o, b1, b2, b3⟩ := body p e s m below meth c htab B.exec B.bytes B.returns hml (findClass_of_methodNamed B.named) B.notSynchronized (name_of_methodNamed B.named B.method).1 hE hB hW ls hl s₁ hh0 (Stand.of_body B)
    rw [K]
    exact ⟨t, o, a1, b1, b2, b3⟩
theorem gu_start {N : Array Value → State → Outcome → State → Prop} (hy : plainName y.cls = true) (hn : (lg_sl av).length ≤ maxL)
    (body : ∀ (p : Program) (e : Env) (s : State) (m : MethodId) (below : List Frame) (meth : Method) (c : Code), (∀ x ∈ c.exceptionTable.toList, False) → p.tables.exec = Jvm.exec → c.code = cc → meth.sig.returnType = ret → c.maxLocals = maxL → s.vm.findClass y.cls = some m.cls → meth.locks = false → meth.name = y.name → gw_E G s → G.2.2.2 ≤ s.heap.size → gw_P G.1 vwCl G.2.2.2 M s.heap →
      ∀ ls : Array Slot, lv_has ls maxL (lv_args 0 av) → W p l e rm s m av.toArray below meth c s.heap [] 0 0 (gu_MQ below N G px av.toArray s mc ms) (F0 m 0 ls [])) :
    gu_Met l y [.code y cc maxL ret] rm G M av N px mc ms := by
  refine MetFree.of_bodyS (code := cc) (maxLocals := maxL) (ret := ret) hy ?_ ?_
  · intro args s m h hnm
    obtain ⟨meth, c, h1, h2, h3, h4, h5, h6, -, -⟩ := Cond.code_spec hnm (atoms_spec (ws := [.code y cc maxL ret]) h _ List.mem_cons_self)
    exact ⟨meth, c, h1, h2, h3, h4, h5, h6⟩
  · intro p e s m args below meth c s₁ B hml hv _
    obtain ⟨rfl, hE, hB, hW⟩ := hv
    have htab : ∀ x ∈ c.exceptionTable.toList, False := by
      obtain ⟨meth9, c9, h1, h2, -, -, -, -, h7, -⟩ := Cond.code_spec B.named (atoms_spec (ws := [.code y cc maxL ret]) B.pre _ List.mem_cons_self)
      cases Option.some.inj (h1.symm.trans B.method)
      cases Option.some.inj (h2.symm.trans (Stand.of_body B).code)
      intro x hx
      rw [Array.isEmpty_iff.mp h7] at hx
      cases hx
    have hh0 : s₁.heap = s.heap := by rw [B.state]; rfl
    have hl := lv_entry av (n := maxL) hn
    have K := lg_entry_eq m av maxL
    generalize (lg_sl av ++ List.replicate (maxL - (lg_sl av).length) Slot.unset).toArray = ls at hl K
    obtain ⟨t, a1, o, b1, b2, b3⟩ := body p e s m below meth c htab B.exec B.bytes B.returns hml (findClass_of_methodNamed B.named) B.notSynchronized (name_of_methodNamed B.named B.method).1 hE hB hW ls hl s₁ hh0 (Stand.of_body B)
    rw [K]
    exact ⟨t, o, a1, b1, b2, b3⟩
end GTS
section GTC
variable {p : Program} {l : Launch} {e : Env} {R : Room} {s : State} {m : MethodId} {args : Array Value} {below : List Frame} {meth : Method} {c : Code} {locs : List Loc} {cells slots : Nat}
/-- a callee of any outcome, from the state in which it is invoked -/
theorem gt_core {y : MethodName} {ws : List Cond} {rm : Room} {Pc : Array Value → State → Prop} {Qy : Array Value → State → Outcome → State → Prop} {bytes : ByteArray} {maxL mc ms : Nat} {ret : Option FieldType} (hM : MetFree l y (headSpec ws rm) Pc (fun _ _ _ _ _ => True) Qy) (hbl : FrameBlind Pc) (hrc : rm.cells = mc) (hrs : rm.slots = ms) (hfr : rm.frames + 1 ≤ R.frames) (hlo : 8 + (maxL + 11) + rm.locals ≤ R.locals)
    (hws : ∀ w ∈ ws, ∀ (a' : Array Value) (U : State), s.WarmedH U.vm → w.before a' U = true) (hcode : Cond.code y bytes maxL ret ∈ ws) (hini : ∀ (a' : Array Value) (U : State), s.WarmedH U.vm → (Cond.initialized y.cls).before a' U = true)
    {U : State} (X : Stand p l e R s m args below meth c U locs cells slots) {g : JFrame} (hg : g.method = m) (hsz : g.locals.size = c.maxLocals) {ig : Instr} {len : Nat} (hdg : decode c.code g.pc = .ok (ig, len)) (hw : 2 * g.monitorRoom + (g.stack.map fun v => v.category).sum ≤ 8) {mk : MethodId} (hn : U.methodNamed? y = some mk) {a : Array Value} (hc1 : cells + mc ≤ R.cells) (hc2 : slots + ms ≤ R.slots) (hp : Pc a U) :
    ∃ (o : Outcome) (s₂ : State), Steps p.tables e below (doInvoke e (U.setTop g) [] mk a).1 s₂ ∧ Ended s₂ (.java g :: U.frames.tail) o ∧ Qy a (U.calling g mk a) o s₂ := by
  obtain ⟨methY, cY, hmY, hcY, -, hlY, -, -, -, -⟩ := Cond.code_spec hn (hws _ hcode a U X.warmed)
  obtain ⟨kY, hkY, -⟩ := className_of_methodNamed hn
  have hiY : kY.init = .initialized := Cond.initialized_spec (findClass_of_methodNamed hn) hkY (hini a U X.warmed)
  have hat : At U g.method c below := by rw [hg]; exact X.here
  have hroom := X.room_calling (g := g) (args' := a) (R' := (headSpec ws rm).room) hsz hmY hcY hfr (by rw [hlY]; show _ + rm.locals ≤ R.locals; omega) (by rw [show (headSpec ws rm).room.cells = mc from hrc]; exact hc1) (by rw [show (headSpec ws rm).room.slots = ms from hrs]; exact hc2)
  have happ : (headSpec ws rm).appliesLoose y e.platform (U.calling g mk a) = true := Spec.appliesLoose_calling (g := g) hat hdg hn hkY hiY hroom (atoms_intro fun w hw9 => hws w hw9 _ _ X.warmed)
  obtain ⟨mid, hmid⟩ := hat.above
  have hall : (U.setTop g).frames = (.java g :: mid) ++ below := by rw [State.frames_setTop' g hat.top, hmid]; rfl
  obtain ⟨o, s₂, hst, -, hend, hq⟩ := Steps.callFree hM p X.admits X.cas X.clock (acts := []) hall happ (hbl _ _ _ _ hp) trivial
  rw [State.frames_setTop' g hat.top] at hend
  exact ⟨o, s₂, hst, hend, hq⟩
/-- it threw: the caller stands, with the exception on its way above it -/
theorem gt_thr {U : State} (X : Stand p l e R s m args below meth c U locs cells slots) {g : JFrame} (hg : g.method = m) {q : Addr} {s₂ : State} {mk : MethodId} {a : Array Value} (hend : Ended s₂ (.java g :: U.frames.tail) (.threw q)) (hwm : (U.calling g mk a).WarmedH s₂.vm) {L : List Loc} {mc ms : Nat} (hsm : (U.calling g mk a).sameButNew ({ s₂ with vm := (U.calling g mk a).vm } : State) L mc ms) :
    ∃ T' : State, Stand p l e R s m args below meth c T' (locs ++ L) (cells + mc) (slots + ms) ∧ T'.heap = s₂.heap ∧ T'.vm = s₂.vm ∧ s₂ = (T'.setTop g).pushFrame (.throwing q) := by
  have hat : At U g.method c below := by rw [hg]; exact X.here
  have hwU : U.WarmedH s₂.vm := hwm
  obtain ⟨e2, q2, q3, q4, q5, q6⟩ := id hsm
  obtain ⟨g₀, hg0⟩ := Option.isSome_iff_exists.mp hat.top
  obtain ⟨r, hr⟩ := State.topJava?_eq_some.mp hg0
  have hf₂ : s₂.frames = .throwing q :: .java g :: U.frames.tail := hend
  have e3 : s₂ = ({ (U.calling g mk a).setFrames s₂.frames with heap := s₂.heap, slotsUsed := s₂.slotsUsed } : State).setVm s₂.vm := by
    have h9 : s₂ = ({ s₂ with vm := (U.calling g mk a).vm } : State).setVm s₂.vm := rfl
    rw [e2] at h9
    exact h9
  have hr' : (({ U with heap := s₂.heap, slotsUsed := s₂.slotsUsed } : State).setVm s₂.vm).frames = .java g₀ :: r := hr
  have hsame : U.sameButNew ({ U with heap := s₂.heap, slotsUsed := s₂.slotsUsed } : State) L mc ms := by
    obtain ⟨t, ht, -⟩ := State.frames_cons hr
    refine ⟨?_, q2, q3, q4, q5, q6⟩
    show ({ U with heap := s₂.heap, slotsUsed := s₂.slotsUsed } : State) = { U.setFrames U.frames with heap := s₂.heap, slotsUsed := s₂.slotsUsed }
    rw [State.setFrames_self ht]
  subst hg
  refine ⟨({ U with heap := s₂.heap, slotsUsed := s₂.slotsUsed } : State).setVm s₂.vm, ⟨X.admits, X.cas, X.clock, X.frames, X.room, X.hears, X.method, X.code, (X.here.setHeapUsed s₂.heap s₂.slotsUsed).setVm hwU.alike, X.tail, State.WarmedH.trans X.warmed hwU, X.limits, X.bytes, X.same.trans (hsame.setVm s.vm)⟩, rfl, rfl, ?_⟩
  refine e3.trans ?_
  rw [hf₂, State.calling_eq hat.top, State.setFrames_setFrames, State.pushFrame, State.frames_setTop _ hr', State.setTop_of_frames _ hr', State.setFrames_setFrames, hr]
  rfl
variable {H : Heap} {Q : State → Prop} {G : gw_G} {px : gw_M → Prop} {pc : Nat} {ls : Array Slot} {rest : List Value} {mc ms : Nat} {cc : ByteArray}
/-- it returned: the caller goes on -/
theorem gu_rtn {U : State} (X : Stand p l e R s m args below meth c U locs cells slots) {g : JFrame} (hg : g.method = m) {ig : Instr} {len : Nat} (hdg : decode c.code g.pc = .ok (ig, len)) {v : Option Value} {s₂ : State} {mk : MethodId} {a : Array Value} (hend : Ended s₂ (.java g :: U.frames.tail) (.returned v)) {L : List Loc} {mc ms : Nat} (hfe : FrameEnd (U.calling g mk a) (.returned v) s₂ L mc ms) :
    ∃ T' : State, Stand p l e R s m args below meth c T' (locs ++ L) (cells + mc) (slots + ms) ∧ T'.heap = s₂.heap ∧ T'.vm = s₂.vm ∧ s₂ = T'.setTop { g with pc := g.pc + len, stack := v.toList ++ g.stack } := by
  have hat : At U g.method c below := by rw [hg]; exact X.here
  obtain ⟨-, hwm, e2, q2, q3, q4, q5, q6⟩ := id hfe
  have hwU : U.WarmedH s₂.vm := hwm
  obtain ⟨g₀, hg0⟩ := Option.isSome_iff_exists.mp hat.top
  obtain ⟨r, hr⟩ := State.topJava?_eq_some.mp hg0
  have e3 : s₂ = ({ (U.calling g mk a).setFrames s₂.frames with heap := s₂.heap, slotsUsed := s₂.slotsUsed } : State).setVm s₂.vm := by
    have h9 : s₂ = ({ s₂ with vm := (U.calling g mk a).vm } : State).setVm s₂.vm := rfl
    rw [e2] at h9
    exact h9
  obtain ⟨c₂, i₂, len₂, hc₂, hd₂, hf₂⟩ := hend
  have hcc : c₂ = c := by
    have h1 : s₂.code? g.method = U.code? g.method := by rw [State.code?_eq, State.code?_eq, hwU.alike.method?]
    exact Option.some.inj (hc₂.symm.trans (h1.trans hat.code))
  subst hcc
  have hlen : len₂ = len := by rw [hdg] at hd₂; cases hd₂; rfl
  subst hlen
  have hr' : (({ U with heap := s₂.heap, slotsUsed := s₂.slotsUsed } : State).setVm s₂.vm).frames = .java g₀ :: r := hr
  have hsame : U.sameButNew ({ U with heap := s₂.heap, slotsUsed := s₂.slotsUsed } : State) L mc ms := by
    obtain ⟨t, ht, -⟩ := State.frames_cons hr
    refine ⟨?_, q2, q3, q4, q5, q6⟩
    show ({ U with heap := s₂.heap, slotsUsed := s₂.slotsUsed } : State) = { U.setFrames U.frames with heap := s₂.heap, slotsUsed := s₂.slotsUsed }
    rw [State.setFrames_self ht]
  subst hg
  refine ⟨({ U with heap := s₂.heap, slotsUsed := s₂.slotsUsed } : State).setVm s₂.vm, ⟨X.admits, X.cas, X.clock, X.frames, X.room, X.hears, X.method, X.code, (X.here.setHeapUsed s₂.heap s₂.slotsUsed).setVm hwU.alike, X.tail, State.WarmedH.trans X.warmed hwU, X.limits, X.bytes, X.same.trans (hsame.setVm s.vm)⟩, rfl, rfl, ?_⟩
  refine e3.trans ?_
  rw [hf₂, State.calling_eq hat.top, State.setFrames_setFrames, State.setTop_of_frames _ hr', hr]
  rfl
/-- a call of an instance method that throws -/
theorem gt_callV {y : MethodName} {bytes : ByteArray} {maxL nL n index : Nat} {ret : Option FieldType} {ws : List Cond} {rm : Room} {Ts : List Cond} {own C : String} {M : gw_M} {b : Addr} {As : List Value} (hS : va_S (gw_A G) s.heap H locs) (S : CallFix p m c cc nL s args Ts own) (hM : gt_Met l y ws rm G M (.ref b :: As) px mc ms) (cw : CallW R s args own C index y bytes maxL ret ws rm mc ms n) (hp : PreV s H C b (gw_Pc G M (.ref b :: As)) As)
    (hn : As.length = n) (hsize : ls.size = nL) {st0 : List Value} (hstack : st0 = As.reverse ++ .ref b :: rest) (hw : 2 * (F0 m pc ls rest).monitorRoom + (rest.map fun v => v.category).sum ≤ 8) (hdg : decode cc pc = .ok (.invokevirtual index, 3)) (hf : cells + mc ≤ R.cells ∧ slots + ms ≤ R.slots)
    (kx : ∀ (ce : Cell) (q : Addr) (M2 : gw_M) (H1 : Heap) (locs1 : List Loc), px M2 → gw_P G.1 vwCl G.2.2.2 M2 H1 → va_S (gw_A G) s.heap H1 locs1 → H1[q]? = some ce → ce.vm = .none → s.vm.findClass "java/lang/IllegalArgumentException" = some ce.cls → gt_W p l e R s m args below meth c H1 locs1 (cells + mc) (slots + ms) Q (F0 m pc ls rest) q) :
    W p l e R s m args below meth c H locs cells slots Q (F0 m pc ls st0) := by
  subst hstack
  obtain ⟨⟨hrc, hrs, hfr, hlo, hws, hcw, hcode, hini, hy, hlen, hl⟩, hin, hse⟩ := cw
  obtain ⟨hx, hb, hml, ho, -⟩ := S
  obtain ⟨hbl, ⟨cellB, hcB, hoB, hclB⟩, hPc⟩ := hp
  obtain ⟨mk, methM, hnamed, hmethM, hstM, habM⟩ := Cond.instanceMethod_spec hin
  obtain ⟨methM', cM, hmethM', -, -, -, -, -, -, hsigM⟩ := Cond.code_spec hnamed hcode
  cases hmethM.symm.trans hmethM'
  obtain ⟨c2, r2, m2, q1, q2, q3, q4, kP, hkP, hkPi⟩ := Cond.selects_spec hse
  cases hclB.symm.trans q1
  cases (State.methodFound?_of_named hnamed hy).symm.trans q2
  cases hnamed.symm.trans q3
  intro T hT X
  have hselP : selectMethod e.platform s.vm cellB.cls mk = .method mk := by rw [Launch.admits_selectMethod X.admits]; exact q4
  obtain ⟨vm₁, X₁, hstep⟩ := X.invokevirtual hx ho hl hnamed hmethM hstM hkP hkPi hy (a := b) (cell := cellB) (by rw [hT]; exact hcB) (fun z h => by rw [h] at hoB; cases hoB) hselP hmethM habM hkP hkPi (g := F0 m pc ls (As.reverse ++ .ref b :: rest)) rfl (argsL := As) (rest := rest) (hn.trans (hlen _ hsigM)) rfl (by rw [hb]; exact hdg)
  have hini9 : ∀ (a' : Array Value) (U : State), s.WarmedH U.vm → (Cond.initialized y.cls).before a' U = true := fun a' U hW => word_at hW (Or.inl (by first | rfl | simp [Cond.onTables, Cond.keeps, Cond.steady])) hini
  obtain ⟨o, s₂, hst, hend, q, ce, L, rfl, ⟨M2, hpx, hW2, hF⟩, hce, hcv, hcl, hwm, hsm, hL⟩ := gt_core hM hbl hrc hrs hfr hlo hws hcw hini9 X₁ (g := { F0 m pc ls (As.reverse ++ .ref b :: rest) with stack := rest }) rfl (hsize.trans hml.symm) (by rw [hb]; exact hdg) hw (X₁.named hnamed) (a := (Value.ref b :: As).toArray) hf.1 hf.2 (hPc (T.setVm vm₁) hT X₁.warmed)
  obtain ⟨T', XT, h1, h2, h3⟩ := gt_thr X₁ (g := { F0 m pc ls (As.reverse ++ .ref b :: rest) with stack := rest }) rfl hend hwm hsm
  have hcl9 : s.vm.findClass "java/lang/IllegalArgumentException" = some ce.cls := by
    have h9 : (T.setVm vm₁).vm.findClass "java/lang/IllegalArgumentException" = some ce.cls := hcl
    rw [X₁.warmed.alike.findClass] at h9
    exact h9
  have hz : H.size ≤ s₂.heap.size := by
    have h9 : T.heap.size ≤ s₂.heap.size := hF.1
    rw [hT] at h9
    exact h9
  have hk : ∀ z : Nat, z < H.size → ¬ gw_A G z → s₂.heap[z]? = H[z]? := fun z z1 z2 => by
    have h9 := hF.2 z (show z < T.heap.size by rw [hT]; exact z1) z2
    have h8 : s₂.heap[z]? = T.heap[z]? := h9
    rw [hT] at h8
    exact h8
  have hS1 : va_S (gw_A G) s.heap s₂.heap (locs ++ L) := ⟨Nat.le_trans hS.1 hz, fun z z1 z2 => (hk z (Nat.lt_of_lt_of_le z1 hS.1) z2).trans (hS.2.1 z z1 z2), fun z hz9 => (List.mem_append.mp hz9).elim (hS.2.2 z) (hL z)⟩
  obtain ⟨t, a1, b1⟩ := kx ce q M2 s₂.heap (locs ++ L) hpx hW2 hS1 hce hcv hcl9 T' h1 XT
  refine ⟨t, ?_, b1⟩
  refine hstep _ fun acts => ?_
  rw [doInvoke_state]
  exact hst.trans (by rw [h3]; exact a1)
theorem gu_callV {N : Array Value → State → Outcome → State → Prop} {PL : List Loc → Prop} {y : MethodName} {bytes : ByteArray} {maxL nL n index : Nat} {ret : Option FieldType} {ws : List Cond} {rm : Room} {Ts : List Cond} {own C : String} {M : gw_M} {b : Addr} {As : List Value} (hS : va_S (gw_A G) s.heap H locs) (S : CallFix p m c cc nL s args Ts own) (hM : gu_Met l y ws rm G M (.ref b :: As) N px mc ms) (cw : CallW R s args own C index y bytes maxL ret ws rm mc ms n) (hp : PreV s H C b (gw_Pc G M (.ref b :: As)) As)
    (hn : As.length = n) (hsize : ls.size = nL) {st0 : List Value} (hstack : st0 = As.reverse ++ .ref b :: rest) (hw : 2 * (F0 m pc ls rest).monitorRoom + (rest.map fun v => v.category).sum ≤ 8) (hdg : decode cc pc = .ok (.invokevirtual index, 3)) (hf : cells + mc ≤ R.cells ∧ slots + ms ≤ R.slots)
    (kk : ∀ (st₀ t T' : State) (L : List Loc) (v : Option Value), st₀.heap = H → N (Value.ref b :: As).toArray st₀ (.returned v) t → FrameEnd st₀ (.returned v) t L mc ms → PL L → T'.heap = t.heap → Stand p l e R s m args below meth c T' (locs ++ L) (cells + mc) (slots + ms) → ∃ z, Steps p.tables e below (T'.setTop (F0 m (pc + 3) ls (v.toList ++ rest))) z ∧ Q z) (hN : ∀ a st o t, N a st o t → ∃ (v : Option Value) (L : List Loc), o = .returned v ∧ PL L ∧ FrameEnd st o t L mc ms)
    (kx : ∀ (ce : Cell) (q : Addr) (M2 : gw_M) (H1 : Heap) (locs1 : List Loc), px M2 → gw_P G.1 vwCl G.2.2.2 M2 H1 → va_S (gw_A G) s.heap H1 locs1 → H1[q]? = some ce → ce.vm = .none → s.vm.findClass "java/lang/IllegalArgumentException" = some ce.cls → gt_W p l e R s m args below meth c H1 locs1 (cells + mc) (slots + ms) Q (F0 m pc ls rest) q) :
    W p l e R s m args below meth c H locs cells slots Q (F0 m pc ls st0) := by
  subst hstack
  obtain ⟨⟨hrc, hrs, hfr, hlo, hws, hcw, hcode, hini, hy, hlen, hl⟩, hin, hse⟩ := cw
  obtain ⟨hx, hb, hml, ho, -⟩ := S
  obtain ⟨hbl, ⟨cellB, hcB, hoB, hclB⟩, hPc⟩ := hp
  obtain ⟨mk, methM, hnamed, hmethM, hstM, habM⟩ := Cond.instanceMethod_spec hin
  obtain ⟨methM', cM, hmethM', -, -, -, -, -, -, hsigM⟩ := Cond.code_spec hnamed hcode
  cases hmethM.symm.trans hmethM'
  obtain ⟨c2, r2, m2, q1, q2, q3, q4, kP, hkP, hkPi⟩ := Cond.selects_spec hse
  cases hclB.symm.trans q1
  cases (State.methodFound?_of_named hnamed hy).symm.trans q2
  cases hnamed.symm.trans q3
  intro T hT X
  have hselP : selectMethod e.platform s.vm cellB.cls mk = .method mk := by rw [Launch.admits_selectMethod X.admits]; exact q4
  obtain ⟨vm₁, X₁, hstep⟩ := X.invokevirtual hx ho hl hnamed hmethM hstM hkP hkPi hy (a := b) (cell := cellB) (by rw [hT]; exact hcB) (fun z h => by rw [h] at hoB; cases hoB) hselP hmethM habM hkP hkPi (g := F0 m pc ls (As.reverse ++ .ref b :: rest)) rfl (argsL := As) (rest := rest) (hn.trans (hlen _ hsigM)) rfl (by rw [hb]; exact hdg)
  have hini9 : ∀ (a' : Array Value) (U : State), s.WarmedH U.vm → (Cond.initialized y.cls).before a' U = true := fun a' U hW => word_at hW (Or.inl (by first | rfl | simp [Cond.onTables, Cond.keeps, Cond.steady])) hini
  obtain ⟨o, s₂, hst, hend, hQ⟩ := gt_core hM hbl hrc hrs hfr hlo hws hcw hini9 X₁ (g := { F0 m pc ls (As.reverse ++ .ref b :: rest) with stack := rest }) rfl (hsize.trans hml.symm) (by rw [hb]; exact hdg) hw (X₁.named hnamed) (a := (Value.ref b :: As).toArray) hf.1 hf.2 (hPc (T.setVm vm₁) hT X₁.warmed)
  rcases hQ with hQ | ⟨q, ce, L, rfl, ⟨M2, hpx, hW2, hF⟩, hce, hcv, hcl, hwm, hsm, hL⟩
  · obtain ⟨v, L, rfl, hPL, hfe⟩ := hN _ _ _ _ hQ
    obtain ⟨T', XT, h1, h2, h3⟩ := gu_rtn X₁ (g := { F0 m pc ls (As.reverse ++ .ref b :: rest) with stack := rest }) rfl (len := 3) (by rw [hb]; exact hdg) hend hfe
    obtain ⟨t, a1, b1⟩ := kk ((T.setVm vm₁).calling ({ F0 m pc ls (As.reverse ++ .ref b :: rest) with stack := rest }) mk (Value.ref b :: As).toArray) s₂ T' L v hT hQ hfe hPL h1 XT
    refine ⟨t, ?_, b1⟩
    refine hstep _ fun acts => ?_
    rw [doInvoke_state]
    exact hst.trans (by rw [h3]; exact a1)
  obtain ⟨T', XT, h1, h2, h3⟩ := gt_thr X₁ (g := { F0 m pc ls (As.reverse ++ .ref b :: rest) with stack := rest }) rfl hend hwm hsm
  have hcl9 : s.vm.findClass "java/lang/IllegalArgumentException" = some ce.cls := by
    have h9 : (T.setVm vm₁).vm.findClass "java/lang/IllegalArgumentException" = some ce.cls := hcl
    rw [X₁.warmed.alike.findClass] at h9
    exact h9
  have hz : H.size ≤ s₂.heap.size := by
    have h9 : T.heap.size ≤ s₂.heap.size := hF.1
    rw [hT] at h9
    exact h9
  have hk : ∀ z : Nat, z < H.size → ¬ gw_A G z → s₂.heap[z]? = H[z]? := fun z z1 z2 => by
    have h9 := hF.2 z (show z < T.heap.size by rw [hT]; exact z1) z2
    have h8 : s₂.heap[z]? = T.heap[z]? := h9
    rw [hT] at h8
    exact h8
  have hS1 : va_S (gw_A G) s.heap s₂.heap (locs ++ L) := ⟨Nat.le_trans hS.1 hz, fun z z1 z2 => (hk z (Nat.lt_of_lt_of_le z1 hS.1) z2).trans (hS.2.1 z z1 z2), fun z hz9 => (List.mem_append.mp hz9).elim (hS.2.2 z) (hL z)⟩
  obtain ⟨t, a1, b1⟩ := kx ce q M2 s₂.heap (locs ++ L) hpx hW2 hS1 hce hcv hcl9 T' h1 XT
  refine ⟨t, ?_, b1⟩
  refine hstep _ fun acts => ?_
  rw [doInvoke_state]
  exact hst.trans (by rw [h3]; exact a1)
/-- not caught here: it goes on -/
theorem gt_out {ce : Cell} {q : Addr} {M2 : gw_M} (hEx : ∀ x ∈ c.exceptionTable.toList, False) (hlocks : meth.locks = false) (hcell : H[q]? = some ce) (hv : ce.vm = .none) (hcl : s.vm.findClass "java/lang/IllegalArgumentException" = some ce.cls) (hS : va_S (gw_A G) s.heap H locs) (hW : gw_P G.1 vwCl G.2.2.2 M2 H) (hp : px M2) (hc : cells ≤ mc) (hs : slots ≤ ms) :
    gt_W p l e R s m args below meth c H locs cells slots (gt_MQ below G px args s mc ms) (F0 m pc ls rest) q := by
  intro T hT X
  obtain ⟨st1, hrun, hend, hWm, hsm⟩ := X.leaveThrown q (g := F0 m pc ls rest) rfl rfl rfl (fun x hx => (hEx x hx).elim) hlocks
  refine ⟨_, st1, .threw q, hrun, hend, q, ce, locs, rfl, ⟨M2, hp, ?_, ?_⟩, ?_, hv, hcl, hWm, hsm.mono hc hs, hS.2.2⟩
  · show gw_P G.1 vwCl G.2.2.2 M2 T.heap
    rw [hT]; exact hW
  · exact hS.F (t := T.setFrames (.throwing q :: below)) hT
  · show T.heap[q]? = some ce
    rw [hT]; exact hcell
theorem gu_out {N : Array Value → State → Outcome → State → Prop} {ce : Cell} {q : Addr} {M2 : gw_M} (hEx : ∀ x ∈ c.exceptionTable.toList, False) (hlocks : meth.locks = false) (hcell : H[q]? = some ce) (hv : ce.vm = .none) (hcl : s.vm.findClass "java/lang/IllegalArgumentException" = some ce.cls) (hS : va_S (gw_A G) s.heap H locs) (hW : gw_P G.1 vwCl G.2.2.2 M2 H) (hp : px M2) (hc : cells ≤ mc) (hs : slots ≤ ms) :
    gt_W p l e R s m args below meth c H locs cells slots (gu_MQ below N G px args s mc ms) (F0 m pc ls rest) q := by
  intro T hT X
  obtain ⟨st1, hrun, hend, hWm, hsm⟩ := X.leaveThrown q (g := F0 m pc ls rest) rfl rfl rfl (fun x hx => (hEx x hx).elim) hlocks
  refine ⟨_, st1, .threw q, hrun, hend, Or.inr ⟨q, ce, locs, rfl, ⟨M2, hp, ?_, ?_⟩, ?_, hv, hcl, hWm, hsm.mono hc hs, hS.2.2⟩⟩
  · show gw_P G.1 vwCl G.2.2.2 M2 T.heap
    rw [hT]; exact hW
  · exact hS.F (t := T.setFrames (.throwing q :: below)) hT
  · show T.heap[q]? = some ce
    rw [hT]; exact hcell
/-- 'throw new IllegalArgumentException(text)', nothing made or written before it in this method -/
theorem gt_throwS {own text : String} {names : List String} {ik is ic sa : Nat} {M : gw_M} (hexec : p.tables.exec = Jvm.exec) (hb : c.code = cc) (hl : l.stackTraces = false) (hown : s.vm.findClass own = some m.cls) (hnames : ∀ n ∈ names, Bundle.fit n = true)
    (hk : (Cond.classLink own ik "java/lang/IllegalArgumentException").before args s = true) (hini : (Cond.initialized "java/lang/IllegalArgumentException").before args s = true) (hs1 : (Cond.stringRef own is text).before args s = true) (hs2 : (Term.string own is).eval args s none [] s = some (.ref sa))
    (hat : ∀ w ∈ Bundle.ownAtoms own ic "java/lang/IllegalArgumentException" names, w.before args s = true) (hsize : ls.size = c.maxLocals)
    (d0 : decode cc pc = .ok (.new ik, 3)) (d3 : decode cc (pc + 3) = .ok (.dup, 1)) (d4 : decode cc (pc + 4) = .ok (.ldc is, 2)) (d6 : decode cc (pc + 6) = .ok (.invokespecial ic, 3)) (d9 : decode cc (pc + 9) = .ok (.athrow, 1))
    (hEx : ∀ x ∈ c.exceptionTable.toList, False) (hRf : names.length + 3 < R.frames) (hRl : (rest.map fun v => v.category).sum + (13 * (names.length + 1) + 43) ≤ R.locals) (hRc : 1 ≤ R.cells) (hRs : 6 ≤ R.slots) (hlocks : meth.locks = false) (hW : gw_P G.1 vwCl G.2.2.2 M s.heap) (hp : px M) :
    W p l e R s m args below meth c s.heap [] 0 0 (gt_MQ below G px args s 1 6) (F0 m pc ls rest) := by
  intro T hT X
  have htr : e.platform.stackTraces = false := (show e.platform.stackTraces = l.stackTraces by rw [X.admits.platform]).trans hl
  have hins : (Cond.instantiable "java/lang/IllegalArgumentException" 6).before args s = true := hat _ (by simp [Bundle.ownAtoms])
  obtain ⟨vm₁, cX, kX, hfX, hkX, -, -, X₁, st1⟩ := X.newCold hexec (own := own) (C := "java/lang/IllegalArgumentException") (index := ik) (n := 6) hown hk hins hini (g := F0 m pc ls rest) rfl (by rw [hb]; exact d0) (by omega) (by omega)
  generalize hT1 : (T.setVm vm₁).pushCell { cls := cX, slots := kX.instanceTypes.map defaultValue, vm := .none } = T1 at X₁ st1
  have hcat : (Value.ref T.heap.size).category = 1 := rfl
  have hcellA : T1.heap[T.heap.size]? = some (freshCell cX kX) := by rw [← hT1]; exact State.heap_pushCell_size _ _
  have d3' : decode c.code (pc + 3) = .ok (.dup, 1) := by rw [hb]; exact d3
  have d4' : decode c.code (pc + 4) = .ok (.ldc is, 2) := by rw [hb]; exact d4
  obtain ⟨U, hsteps, hrun, hend, hWm, hsame, ce, hce, hO⟩ := X₁.ctorThrowS hexec htr (own := own) (cls := "java/lang/IllegalArgumentException") (names := names) (ic := ic) hown (by decide +kernel) hnames hat (fun x hx => nomatch hx) hfX hkX hcellA (by rw [hT]; exact Nat.le_refl _) (msg := .ref sa) rfl
    (g := { method := m, pc := pc + 6, locals := ls, stack := .ref sa :: .ref T.heap.size :: .ref T.heap.size :: rest, locked := none }) rfl hsize rfl rfl (rest := rest) rfl
    (by rw [hb]; exact d6) (by rw [hb]; exact d9) (fun x hx => (hEx x hx).elim) hRf (by simp only [List.map_cons, List.sum_cons, hcat]; omega) hlocks
  have hfrm : s.heap.size ≤ U.heap.size ∧ ∀ q : Nat, q < s.heap.size → U.heap[q]? = s.heap[q]? := by
    obtain ⟨-, h2, -, -, -, h6⟩ := id hsame
    refine ⟨h2, fun q hq => ?_⟩
    obtain ⟨c9, e1, e2, e3, e4⟩ := h6 q _ (Array.getElem?_eq_getElem hq)
    have hs : c9.slots = (s.heap[q]).slots := Array.ext_getElem? fun i => e4 i (fun hm => nomatch hm)
    have h9 : c9 = s.heap[q] := by
      rw [hs] at e2
      exact e2
    have e5 : U.heap[q]? = some c9 := e1
    rw [e5, h9, Array.getElem?_eq_getElem hq]
  refine ⟨U, ?_, .threw T.heap.size, hrun, hend, T.heap.size, ce, [], rfl, ⟨M, hp, hW.kept hfrm.2, hfrm.1, fun q hq _ => hfrm.2 q hq⟩, hce, hO.vm, hO.cls, hWm, hsame.mono (by omega) (by omega), fun z hz => nomatch hz⟩
  refine st1 _ ?_
  show Steps p.tables e below (T1.setTop { method := m, pc := pc + 3, locals := ls, stack := .ref T.heap.size :: rest, locked := none }) _
  jvm_step X₁.here [X₁.here.top, hexec, d3', Value.category]
  exact X₁.ldcString hexec (own := own) (text := text) (index := is) (a := sa) hown hs1 hs2 (g := { method := m, pc := pc + 4, locals := ls, stack := .ref T.heap.size :: .ref T.heap.size :: rest, locked := none }) rfl d4' _ hsteps
theorem gu_throwS {N : Array Value → State → Outcome → State → Prop} {own text : String} {names : List String} {ik is ic sa : Nat} {M : gw_M} (hexec : p.tables.exec = Jvm.exec) (hb : c.code = cc) (hl : l.stackTraces = false) (hown : s.vm.findClass own = some m.cls) (hnames : ∀ n ∈ names, Bundle.fit n = true)
    (hk : (Cond.classLink own ik "java/lang/IllegalArgumentException").before args s = true) (hini : (Cond.initialized "java/lang/IllegalArgumentException").before args s = true) (hs1 : (Cond.stringRef own is text).before args s = true) (hs2 : (Term.string own is).eval args s none [] s = some (.ref sa))
    (hat : ∀ w ∈ Bundle.ownAtoms own ic "java/lang/IllegalArgumentException" names, w.before args s = true) (hsize : ls.size = c.maxLocals)
    (d0 : decode cc pc = .ok (.new ik, 3)) (d3 : decode cc (pc + 3) = .ok (.dup, 1)) (d4 : decode cc (pc + 4) = .ok (.ldc is, 2)) (d6 : decode cc (pc + 6) = .ok (.invokespecial ic, 3)) (d9 : decode cc (pc + 9) = .ok (.athrow, 1))
    (hEx : ∀ x ∈ c.exceptionTable.toList, False) (hRf : names.length + 3 < R.frames) (hRl : (rest.map fun v => v.category).sum + (13 * (names.length + 1) + 43) ≤ R.locals) (hRc : cells + 1 ≤ R.cells) (hRs : slots + 6 ≤ R.slots) (hmc : cells + 1 ≤ mc) (hms : slots + 6 ≤ ms) (hlocks : meth.locks = false) (hW : gw_P G.1 vwCl G.2.2.2 M s.heap) (hp : px M) :
    W p l e R s m args below meth c s.heap [] cells slots (gu_MQ below N G px args s mc ms) (F0 m pc ls rest) := by
  intro T hT X
  have htr : e.platform.stackTraces = false := (show e.platform.stackTraces = l.stackTraces by rw [X.admits.platform]).trans hl
  have hins : (Cond.instantiable "java/lang/IllegalArgumentException" 6).before args s = true := hat _ (by simp [Bundle.ownAtoms])
  obtain ⟨vm₁, cX, kX, hfX, hkX, -, -, X₁, st1⟩ := X.newCold hexec (own := own) (C := "java/lang/IllegalArgumentException") (index := ik) (n := 6) hown hk hins hini (g := F0 m pc ls rest) rfl (by rw [hb]; exact d0) hRc hRs
  generalize hT1 : (T.setVm vm₁).pushCell { cls := cX, slots := kX.instanceTypes.map defaultValue, vm := .none } = T1 at X₁ st1
  have hcat : (Value.ref T.heap.size).category = 1 := rfl
  have hcellA : T1.heap[T.heap.size]? = some (freshCell cX kX) := by rw [← hT1]; exact State.heap_pushCell_size _ _
  have d3' : decode c.code (pc + 3) = .ok (.dup, 1) := by rw [hb]; exact d3
  have d4' : decode c.code (pc + 4) = .ok (.ldc is, 2) := by rw [hb]; exact d4
  obtain ⟨U, hsteps, hrun, hend, hWm, hsame, ce, hce, hO⟩ := X₁.ctorThrowS hexec htr (own := own) (cls := "java/lang/IllegalArgumentException") (names := names) (ic := ic) hown (by decide +kernel) hnames hat (fun x hx => nomatch hx) hfX hkX hcellA (by rw [hT]; exact Nat.le_refl _) (msg := .ref sa) rfl
    (g := { method := m, pc := pc + 6, locals := ls, stack := .ref sa :: .ref T.heap.size :: .ref T.heap.size :: rest, locked := none }) rfl hsize rfl rfl (rest := rest) rfl
    (by rw [hb]; exact d6) (by rw [hb]; exact d9) (fun x hx => (hEx x hx).elim) hRf (by simp only [List.map_cons, List.sum_cons, hcat]; omega) hlocks
  have hfrm : s.heap.size ≤ U.heap.size ∧ ∀ q : Nat, q < s.heap.size → U.heap[q]? = s.heap[q]? := by
    obtain ⟨-, h2, -, -, -, h6⟩ := id hsame
    refine ⟨h2, fun q hq => ?_⟩
    obtain ⟨c9, e1, e2, e3, e4⟩ := h6 q _ (Array.getElem?_eq_getElem hq)
    have hs : c9.slots = (s.heap[q]).slots := Array.ext_getElem? fun i => e4 i (fun hm => nomatch hm)
    have h9 : c9 = s.heap[q] := by
      rw [hs] at e2
      exact e2
    have e5 : U.heap[q]? = some c9 := e1
    rw [e5, h9, Array.getElem?_eq_getElem hq]
  refine ⟨U, ?_, .threw T.heap.size, hrun, hend, Or.inr ⟨T.heap.size, ce, [], rfl, ⟨M, hp, hW.kept hfrm.2, hfrm.1, fun q hq _ => hfrm.2 q hq⟩, hce, hO.vm, hO.cls, hWm, hsame.mono hmc hms, fun z hz => nomatch hz⟩⟩
  refine st1 _ ?_
  show Steps p.tables e below (T1.setTop { method := m, pc := pc + 3, locals := ls, stack := .ref T.heap.size :: rest, locked := none }) _
  jvm_step X₁.here [X₁.here.top, hexec, d3', Value.category]
  exact X₁.ldcString hexec (own := own) (text := text) (index := is) (a := sa) hown hs1 hs2 (g := { method := m, pc := pc + 4, locals := ls, stack := .ref T.heap.size :: .ref T.heap.size :: rest, locked := none }) rfl d4' _ hsteps
/-- calls of what only reads -/
theorem gr_calli {post : Int32 → Prop} {a : Array Value} {st0 : List Value} (hr : va_Run p l e R s m args below meth c H locs cells slots 0 0 (F0 m pc ls st0) rest (gr_Qi post a) (fun _ => False)) (kk : ∀ r : Int32, post r → W p l e R s m args below meth c H locs cells slots Q (F0 m (pc + 3) ls (.int r :: rest))) : W p l e R s m args below meth c H locs cells slots Q (F0 m pc ls st0) := by
  intro T hT X
  obtain ⟨v, st₀, t, T', L, h0, X', hL, e1, e2, ⟨r, hv, hp, hh⟩, st⟩ := hr T hT X
  cases hv
  obtain ⟨t2, a1, b1⟩ := kk r hp T' (by rw [e1, hh, h0]) (Stand.forget X' (fun q h => (hL q h).elim))
  exact ⟨t2, st t2 a1, b1⟩
theorem gr_callr {post : Nat → Prop} {a : Array Value} {st0 : List Value} (hr : va_Run p l e R s m args below meth c H locs cells slots 0 0 (F0 m pc ls st0) rest (gr_Qr post a) (fun _ => False)) (kk : ∀ r : Nat, post r → W p l e R s m args below meth c H locs cells slots Q (F0 m (pc + 3) ls (.ref r :: rest))) : W p l e R s m args below meth c H locs cells slots Q (F0 m pc ls st0) := by
  intro T hT X
  obtain ⟨v, st₀, t, T', L, h0, X', hL, e1, e2, ⟨r, hv, hp, hh⟩, st⟩ := hr T hT X
  cases hv
  obtain ⟨t2, a1, b1⟩ := kk r hp T' (by rw [e1, hh, h0]) (Stand.forget X' (fun q h => (hL q h).elim))
  exact ⟨t2, st t2 a1, b1⟩
/-- .. of what reads a cell, or throws -/
theorem gu_callr {y : MethodName} {bytes : ByteArray} {maxL nL n index : Nat} {ret : Option FieldType} {ws : List Cond} {rm : Room} {Ts : List Cond} {own C : String} {M : gw_M} {b : Addr} {As : List Value} {post : Nat → Prop} (hS : va_S (gw_A G) s.heap H locs) (S : CallFix p m c cc nL s args Ts own) (hM : gu_Met l y ws rm G M (.ref b :: As) (gu_Nr (gr_Qr post) mc ms) px mc ms) (cw : CallW R s args own C index y bytes maxL ret ws rm mc ms n) (hp : PreV s H C b (gw_Pc G M (.ref b :: As)) As)
    (hn : As.length = n) (hsize : ls.size = nL) {st0 : List Value} (hstack : st0 = As.reverse ++ .ref b :: rest) (hw : 2 * (F0 m pc ls rest).monitorRoom + (rest.map fun v => v.category).sum ≤ 8) (hdg : decode cc pc = .ok (.invokevirtual index, 3)) (hf : cells + mc ≤ R.cells ∧ slots + ms ≤ R.slots)
    (kx : ∀ (ce : Cell) (q : Addr) (M2 : gw_M) (H1 : Heap) (locs1 : List Loc), px M2 → gw_P G.1 vwCl G.2.2.2 M2 H1 → va_S (gw_A G) s.heap H1 locs1 → H1[q]? = some ce → ce.vm = .none → s.vm.findClass "java/lang/IllegalArgumentException" = some ce.cls → gt_W p l e R s m args below meth c H1 locs1 (cells + mc) (slots + ms) Q (F0 m pc ls rest) q)
    (kk : ∀ r : Nat, post r → W p l e R s m args below meth c H locs (cells + mc) (slots + ms) Q (F0 m (pc + 3) ls (.ref r :: rest))) : W p l e R s m args below meth c H locs cells slots Q (F0 m pc ls st0) := by
  refine gu_callV (PL := fun L => L = []) hS S hM cw hp hn hsize hstack hw hdg hf ?_ ?_ kx
  · intro st₀ t T' L v h0 hN hfe hPL h1 XT
    obtain ⟨⟨r, hv, hpo, hh⟩, hfe0⟩ := hN
    cases hv
    subst hPL
    rw [List.append_nil] at XT
    exact kk r hpo T' (by rw [h1, hh, h0]) XT
  · intro a st o t hN
    obtain ⟨⟨r, rfl, -, -⟩, hfe⟩ := hN
    exact ⟨_, [], rfl, rfl, hfe⟩
end GTC
/-- the words of a throw: four of them speak of the heap -/
def gt_no (w : Cond) : Bool := decide (w ≠ .isRef (.static "java/lang/Throwable" "UNASSIGNED_STACK" "[Ljava/lang/StackTraceElement;")) && (decide (w ≠ .isRef (.static "java/lang/Throwable" "SUPPRESSED_SENTINEL" "Ljava/util/List;")) && (decide (w ≠ .laysStatic "java/lang/Throwable" "UNASSIGNED_STACK" "[Ljava/lang/StackTraceElement;") && decide (w ≠ .laysStatic "java/lang/Throwable" "SUPPRESSED_SENTINEL" "Ljava/util/List;")))
theorem gt_hat {G : gw_G} {s : State} {L : List Cond} (hE : gw_E G s) (args : Array Value) (h1 : ∀ w ∈ L.filter gt_no, w ∈ gw_N0) : ∀ w ∈ L, w.before args s = true := by
  intro w hw
  by_cases e0 : gt_no w = true
  · exact hE.ts args w (h1 w (List.mem_filter.mpr ⟨hw, e0⟩))
  · by_cases e1 : w = .isRef (.static "java/lang/Throwable" "UNASSIGNED_STACK" "[Ljava/lang/StackTraceElement;")
    · rw [e1]; exact hE.2.2.2.2.1.ref args
    · by_cases e2 : w = .isRef (.static "java/lang/Throwable" "SUPPRESSED_SENTINEL" "Ljava/util/List;")
      · rw [e2]; exact hE.2.2.2.2.2.1.ref args
      · by_cases e3 : w = .laysStatic "java/lang/Throwable" "UNASSIGNED_STACK" "[Ljava/lang/StackTraceElement;"
        · rw [e3]; exact hE.2.2.2.2.1.lays args
        · by_cases e4 : w = .laysStatic "java/lang/Throwable" "SUPPRESSED_SENTINEL" "Ljava/util/List;"
          · rw [e4]; exact hE.2.2.2.2.2.1.lays args
          · exact absurd (by unfold gt_no; rw [decide_eq_true e1, decide_eq_true e2, decide_eq_true e3, decide_eq_true e4]; rfl) e0
abbrev gt_ws : List Cond := Bundle.ownAtoms "Generations" 108 "java/lang/IllegalArgumentException" ["java/lang/RuntimeException", "java/lang/Exception"]
set_option maxRecDepth 100000 in
theorem gt_ws1 : ∀ w ∈ gt_ws.filter gt_no, w ∈ lw_tbl := by decide +kernel
theorem gt_ws2 : (gt_ws.filter gt_no).all gw_gk = true := by decide +kernel
theorem gt_ws3 : ∀ w ∈ gt_ws.filter gt_no, w ∈ gw_N0 := fun w h => gw_in (gt_ws1 w h) (List.all_eq_true.mp gt_ws2 w h)
theorem gw_startR {l : Launch} {y : MethodName} {rm : Room} {G : gw_G} {M : gw_M} {av : List Value} {Qc : Array Value → State → Outcome → State → Prop} {cc : ByteArray} {maxL : Nat} {ret : Option FieldType} (hy : plainName y.cls = true) (hn : (lg_sl av).length ≤ maxL)
    (body : ∀ (p : Program) (e : Env) (s : State) (m : MethodId) (below : List Frame) (meth : Method) (c : Code), p.tables.exec = Jvm.exec → c.code = cc → meth.sig.returnType = ret → c.maxLocals = maxL → s.vm.findClass y.cls = some m.cls → meth.locks = false → meth.name = y.name → gw_E G s → G.2.2.2 ≤ s.heap.size → gw_P G.1 vwCl G.2.2.2 M s.heap →
      ∀ ls : Array Slot, lv_has ls maxL (lv_args 0 av) → W p l e rm s m av.toArray below meth c s.heap [] 0 0 (MQ below Qc av.toArray s 0 0 (fun _ => False)) (F0 m 0 ls [])) :
    Met l y [.code y cc maxL ret] rm (gw_Pc G M av) Qc 0 0 (fun _ => False) := by
  refine Met.ofW (cc := cc) (maxL := maxL) (ret := ret) hy rfl ?_
  intro p e s m args below meth c s₁ B hml hv
  obtain ⟨rfl, hE, hB, hW⟩ := hv
  have hl := lv_entry av (n := maxL) hn
  rw [lg_entry_eq]
  generalize (lg_sl av ++ List.replicate (maxL - (lg_sl av).length) Slot.unset).toArray = ls at hl ⊢
  exact body p e s m below meth c B.exec B.bytes B.returns hml (findClass_of_methodNamed B.named) B.notSynchronized (name_of_methodNamed B.named B.method).1 hE hB hW ls hl
end
section
/-! CAUGHT: a method whose table has one row, for IllegalArgumentException; and a static call of such a method -/
section GTK
variable {p : Program} {l : Launch} {e : Env} {R : Room} {s : State} {m : MethodId} {args : Array Value} {below : List Frame} {meth : Method} {c : Code} {H : Heap} {locs : List Loc} {cells slots : Nat} {Q : State → Prop} {pc : Nat} {ls : Array Slot} {rest : List Value}
/-- what the search for a handler finds, and the tables behind it -/
def gt_F (e : Env) (u : State) (f : JFrame) (q : Addr) (h : Handler) (vm' : Vm) : Prop := ∀ (Z : Handler → Pre) (E : CtlPost) (d : Bool) (acts : List Action), wp (findHandler f q) Z E e d acts u ↔ Z h d acts (u.setVm vm')
theorem gt_find {u : State} {f : JFrame} {q : Addr} {mt : Method} {cd : Code} {x : ExceptionTableEntry} (hm : u.vm.method? f.method = some mt) (hc : mt.code = some cd) (htab : cd.exceptionTable.toList = [x]) (hx : covers x f.pc = true) (h0 : x.catchType ≠ 0) {cT : ClassId} {ce : Cell}
    (hl : u.vm.ClassLinks e.platform f.method.cls x.catchType cT) (hce : u.heap[q]? = some ce) (hobj : ∀ k, ce.vm ≠ .statics k) (hk : ∃ k, u.vm.classes[ce.cls]? = some k) (hkT : ∃ k, u.vm.classes[cT]? = some k) (hfit : u.vm.assignable ce.cls cT = true) :
    gt_F e u f q (.found x.handlerPc) (u.vm.noted f.method.cls x.catchType (.cls cT)) := by
  intro Z E d acts
  rw [W.findHandler_eq hm hc, htab]
  have hal : u.vm.Alike (u.vm.noted f.method.cls x.catchType (.cls cT)) := (Vm.Alike.refl u.vm).noted _ _ _
  obtain ⟨r1, r2⟩ := (resolveClass_links e.toSetting hl).op (op := VmOp.resolveClass f.method.cls x.catchType) rfl
  obtain ⟨k1, hk1⟩ := hk
  obtain ⟨k2, hk2⟩ := hkT
  obtain ⟨k3, hk3, -⟩ := hal.2.2 _ _ hk1
  obtain ⟨k4, hk4, -⟩ := hal.2.2 _ _ hk2
  have hfit2 : (u.vm.noted f.method.cls x.catchType (.cls cT)).assignable ce.cls cT = true := by rw [hal.assignable]; exact hfit
  simp only [covers] at hx
  simp [findHandler.go, hx, h0, r1, r2, hce, hobj, hk3, hk4, hfit2, VmOp.dirties, VmOp.acts]
theorem gt_step {u : State} {q : Addr} {f : JFrame} {r : List Frame} {hp : Nat} {vm' : Vm} (hfind : gt_F e u f q (.found hp) vm') : (stepThrowing e u q (.java f :: r)).Is ((u.setVm vm').setFrames (.java { f with pc := hp, stack := [.ref q] } :: r)) [] := by
  simp only [stepThrowing, searchFrame, vmDo]
  generalize hr : Sem.go _ e false [] u = res
  obtain ⟨as, rfl, ha⟩ := Sem.eq_ok_of hr (a := Handler.found hp) (s' := u.setVm vm') (acts' := []) (by simp [hfind _ _ _ _])
  exact ⟨rfl, ha⟩
theorem gt_sf (u : State) (vm' : Vm) (A B : List Frame) : ((u.setFrames A).setVm vm').setFrames B = (u.setVm vm').setFrames B := by
  show ((u.setVm vm').setFrames A).setFrames B = _
  rw [State.setFrames_setFrames]
theorem gt_catch {own : String} {x : ExceptionTableEntry} {ce : Cell} {q : Addr} (hTab : c.exceptionTable.toList = [x]) (hx : covers x pc = true) (h0 : x.catchType ≠ 0) (hown : s.vm.findClass own = some m.cls) (hlink : (Cond.classLink own x.catchType "java/lang/IllegalArgumentException").before args s = true) (hcast : (Cond.castable "java/lang/IllegalArgumentException" "java/lang/IllegalArgumentException").before args s = true)
    (hcell : H[q]? = some ce) (hv : ce.vm = .none) (hcl : s.vm.findClass "java/lang/IllegalArgumentException" = some ce.cls) (kk : W p l e R s m args below meth c H locs cells slots Q (F0 m x.handlerPc ls [.ref q])) : gt_W p l e R s m args below meth c H locs cells slots Q (F0 m pc ls rest) q := by
  intro T hT X
  have hpl : e.platform.magicAccessors = ({} : Platform).magicAccessors := by rw [X.admits.platform]
  obtain ⟨cT, hcT, hlk⟩ := Cond.classLink_spec hown hlink e.platform hpl
  obtain ⟨c3, c4, hc3, hc4, hasg⟩ := Cond.castable_spec hcast
  cases Option.some.inj (hc3.symm.trans hcl)
  cases Option.some.inj (hc4.symm.trans hcT)
  obtain ⟨-, hwarm, -⟩ := State.classEntry (e := e) X.warmed hlk
  have hlinkT : (Cond.classLink own x.catchType "java/lang/IllegalArgumentException").before args T = true := gw_ww rfl X.warmed hlink
  obtain ⟨c5, hc5, hlkT⟩ := Cond.classLink_spec (show T.vm.findClass own = some m.cls by rw [X.warmed.alike.findClass]; exact hown) hlinkT e.platform hpl
  rw [X.warmed.alike.findClass] at hc5
  cases Option.some.inj (hc5.symm.trans hcT)
  obtain ⟨k1, hk1, -⟩ := Vm.findClass_spec hcl
  obtain ⟨k2, hk2, -⟩ := Vm.findClass_spec hcT
  obtain ⟨k3, hk3, -⟩ := X.warmed.alike.2.2 _ _ hk1
  obtain ⟨k4, hk4, -⟩ := X.warmed.alike.2.2 _ _ hk2
  have hF : gt_F e ((T.setTop (F0 m pc ls rest)).pushFrame (.throwing q)) (F0 m pc ls rest) q (.found x.handlerPc) (T.vm.noted m.cls x.catchType (.cls cT)) := by
    have h9 := gt_find (e := e) (u := (T.setTop (F0 m pc ls rest)).pushFrame (.throwing q)) (f := F0 m pc ls rest) (q := q) (mt := meth) (cd := c) (x := x) (cT := cT) (ce := ce) (by rw [Stand.throwing_vm]; exact X.method') X.code hTab hx h0 (by rw [Stand.throwing_vm]; exact hlkT) (by rw [Stand.throwing_heap, hT]; exact hcell) (fun k hk => by rw [hv] at hk; cases hk) (by rw [Stand.throwing_vm]; exact ⟨k3, hk3⟩) (by rw [Stand.throwing_vm]; exact ⟨k4, hk4⟩) (by rw [Stand.throwing_vm, X.warmed.alike.assignable]; exact hasg)
    rw [Stand.throwing_vm] at h9
    exact h9
  have X' := X.noted hwarm
  obtain ⟨t, a1, b1⟩ := kk (T.setVm (T.vm.noted m.cls x.catchType (.cls cT))) hT X'
  refine ⟨t, ?_, b1⟩
  have hat : At T (F0 m pc ls rest).method c below := X.here
  obtain ⟨hgo, hw⟩ := hat.throwing q
  refine Steps.head hgo hw ?_
  rw [stepThread_throwing (frames_entered hat.top _), (gt_step (u := (T.setTop (F0 m pc ls rest)).pushFrame (.throwing q)) hF).1]
  obtain ⟨g₀, hg0⟩ := Option.isSome_iff_exists.mp hat.top
  obtain ⟨r, hr⟩ := State.topJava?_eq_some.mp hg0
  have hr' : (T.setVm (T.vm.noted m.cls x.catchType (.cls cT))).frames = .java g₀ :: r := hr
  rw [State.setTop_of_frames _ hr'] at a1
  rw [hr, List.tail_cons, State.pushFrame, gt_sf, State.setTop_of_frames _ hr, gt_sf]
  exact a1
/-- a static call of a method with a table -/
theorem gt_runSW {y : MethodName} {bytes cc : ByteArray} {maxL nL mc ms n index : Nat} {ret : Option FieldType} {hh : List (Nat × Nat × Nat × Nat)} {rm : Room} {Pc : Array Value → State → Prop} {Qc : Array Value → State → Outcome → State → Prop} {free : Addr → Prop} {Ts : List Cond} {own : String} {As : List Value} {g : JFrame} (S : CallFix p m c cc nL s args Ts own) (hM : Met l y [.codeWith y bytes maxL ret hh] rm Pc Qc mc ms free) (hrc : rm.cells = mc) (hrs : rm.slots = ms) (hR : rm.frames + 1 ≤ R.frames ∧ 8 + (maxL + 11) + rm.locals ≤ R.locals) (hG : GoodIn Ts (va_wsS own index y [.codeWith y bytes maxL ret hh]))
    (hd : y.cls ≠ "java/lang/invoke/MethodHandle" ∧ y.cls ≠ "java/lang/invoke/VarHandle" ∧ (parseMethodDescriptor y.desc).map (fun d => d.parameters.length) = some n) (hp : PreS s H Pc As)
    (hg : g.method = m) (hn : As.length = n) (hsize : g.locals.size = nL) (hstack : g.stack = As.reverse ++ rest) (hW : 2 * g.monitorRoom + (rest.map fun v => v.category).sum ≤ 8) (hdg : decode cc g.pc = .ok (.invokestatic index, 3)) (hf : cells + mc ≤ R.cells ∧ slots + ms ≤ R.slots) :
    va_Run p l e R s m args below meth c H locs cells slots mc ms g rest (Qc As.toArray) free := by
  obtain ⟨hx, hb, hml, ho, hts⟩ := S
  have ok : ∀ w ∈ va_wsS own index y [.codeWith y bytes maxL ret hh], w.before args s = true := fun w h => hts w (hG w h).1
  have hini : (Cond.initialized y.cls).before args s = true := ok _ (by simp [va_wsS])
  have hcode : (Cond.codeWith y bytes maxL ret hh).before args s = true := ok _ (by simp [va_wsS])
  have hK : Back l R p e below s args y 3 8 (PreOf R mc ms Pc) (PostOf Qc mc ms free) := va_backW (hh := hh) (bytes := bytes) (maxL := maxL) (ret := ret) hM hp.1 hrc hrs hR.1 hR.2 (fun w hw => pay_in hts hG w (by unfold va_wsS; exact List.mem_append_right _ hw)) List.mem_cons_self (fun a' U hW9 => word_at hW9 (Or.inl (by first | rfl | simp [Cond.onTables, Cond.keeps, Cond.steady])) hini)
  obtain ⟨mk, methM, cM, hnamed, hmethM, -, -, -, -, -, -, hsigM⟩ := Cond.codeWith_spec hcode
  have hstatic : methM.isStatic = true := Cond.static_spec hnamed hmethM (ok _ (by simp [va_wsS]))
  obtain ⟨kP, hkP, -⟩ := className_of_methodNamed hnamed
  have hinitP : kP.init = .initialized := Cond.initialized_spec (findClass_of_methodNamed hnamed) hkP hini
  have hlen : As.length = methM.sig.parameters.length := by
    have h2 := hd.2.2
    rw [hsigM] at h2
    exact hn.trans (Option.some.inj h2).symm
  have hlink9 : (Cond.methodLink own index y).before args s = true := ok _ (by simp [va_wsS])
  intro T hT X
  obtain ⟨vm₁, X₁, hstep⟩ := X.invokestatic hx ho hlink9 hnamed hmethM hstatic hkP hinitP ⟨hd.1, hd.2.1⟩ (g := g) hg (argsL := As) (rest := rest) hlen hstack (by rw [hb]; exact hdg)
  obtain ⟨v, ⟨U', l2, c2, s2⟩, X', ⟨g', mk', t, L, e1, e2, hq, h1, hL, h2, h3⟩, hsteps⟩ := hK m meth c ⟨T.setVm vm₁, locs, cells, slots⟩ { g with stack := rest } (.invokestatic index) mk As.toArray X₁ hg (hsize.trans hml.symm) (by rw [hb]; exact hdg) hW (X₁.named hnamed) ⟨hf.1, hf.2, hp.2 (T.setVm vm₁) hT X₁.warmed⟩
  dsimp only [Pt.U, Pt.locs, Pt.cells, Pt.slots] at X' e1 e2 h1 h2 h3 hsteps
  subst h1; subst h2; subst h3
  exact ⟨v, (T.setVm vm₁).calling g' mk' As.toArray, t, U', L, hT, X', hL, e1, e2, hq, fun target h9 => hstep _ fun acts => by rw [doInvoke_state]; exact hsteps.trans h9⟩
end GTK
section GTH
variable {l : Launch} {y : MethodName} {rm : Room} {G : gw_G} {M : gw_M} {av : List Value} {Qc : Array Value → State → Outcome → State → Prop} {mc ms : Nat} {cc : ByteArray} {maxL : Nat} {ret : Option FieldType}
theorem gt_startH {hh : List (Nat × Nat × Nat × Nat)} (hy : plainName y.cls = true) (hn : (lg_sl av).length ≤ maxL)
    (body : ∀ (p : Program) (e : Env) (s : State) (m : MethodId) (below : List Frame) (meth : Method) (c : Code), c.exceptionTable.toList = tableOf hh → p.tables.exec = Jvm.exec → c.code = cc → meth.sig.returnType = ret → c.maxLocals = maxL → s.vm.findClass y.cls = some m.cls → meth.locks = false → meth.name = y.name → gw_E G s → G.2.2.2 ≤ s.heap.size → gw_P G.1 vwCl G.2.2.2 M s.heap →
      ∀ ls : Array Slot, lv_has ls maxL (lv_args 0 av) → W p l e rm s m av.toArray below meth c s.heap [] 0 0 (MQ below Qc av.toArray s mc ms (gw_A G)) (F0 m 0 ls [])) :
    Met l y [.codeWith y cc maxL ret hh] rm (gw_Pc G M av) Qc mc ms (gw_A G) := by
  refine va_MetW (cc := cc) (maxL := maxL) (ret := ret) (hh := hh) hy rfl ?_
  intro p e s m args below meth c s₁ B hml hv
  obtain ⟨rfl, hE, hB, hW⟩ := hv
  have hTab : c.exceptionTable.toList = tableOf hh := by
    obtain ⟨m9, meth9, c9, hn9, h1, h2, -, -, h6, -⟩ := Cond.codeWith_spec (atoms_spec (ws := [.codeWith y cc maxL ret hh]) B.pre _ List.mem_cons_self)
    cases Option.some.inj (hn9.symm.trans B.named)
    cases Option.some.inj (h1.symm.trans B.method)
    cases Option.some.inj (h2.symm.trans (Stand.of_body B).code)
    rw [← h6, table_eq]
  have hl := lv_entry av (n := maxL) hn
  rw [lg_entry_eq]
  generalize (lg_sl av ++ List.replicate (maxL - (lg_sl av).length) Slot.unset).toArray = ls at hl ⊢
  exact body p e s m below meth c hTab B.exec B.bytes B.returns hml (findClass_of_methodNamed B.named) B.notSynchronized (name_of_methodNamed B.named B.method).1 hE hB hW ls hl
end GTH
end
section
/-! THE CLASS'S WORLD, general: A 0 the object, 1 its row, 2 the row's numbers, 3 jobs, 4 known, 5 nowhere, 6 gone -/
/-- an ArrayList at o of n elements, each a cell of the role re -/
def gl_L (G : gw_G) (M : gw_M) (o ro ra re n : Nat) : Prop := ∃ k : Int32, (n = 0 ∧ M o = some (ro, .inr (4, [.int k, .ref (G.2.2.1 0), .int (nI n)]))) ∨
  ∃ (a cap : Nat) (f : Nat → Option Nat), M o = some (ro, .inr (4, [.int k, .ref a, .int (nI n)])) ∧ M a = some (ra, .inl (G.2.1 1, cap, .inr (.inr (.inr (.inr f))))) ∧ n ≤ cap ∧ (1 ≤ cap ∧ cap ≤ 1000) ∧ ∀ i : Nat, i < n → ∃ (y : Nat) (e : va_E), f i = some y ∧ M y = some (re, e)
/-- a cell of the role r -/
def gp_R (M : gw_M) (r a : Nat) : Prop := ∃ e : va_E, M a = some (r, e)
/-- roles stay -/
def gp_S (M M2 : gw_M) : Prop := ∀ r a : Nat, gp_R M r a → gp_R M2 r a
theorem gp_S.rf {M : gw_M} : gp_S M M := fun _ _ h => h
theorem gp_S.tr {M M1 M2 : gw_M} (h1 : gp_S M M1) (h2 : gp_S M1 M2) : gp_S M M2 := fun r a h => h2 r a (h1 r a h)
theorem gp_up {M : gw_M} {a r : Nat} {e0 e : va_E} (ha : M a = some (r, e0)) : gp_S M (gw_up M a r e) := by
  intro r' b ⟨e', hb⟩
  by_cases q : b = a
  · subst q
    rw [ha] at hb
    cases hb
    exact ⟨e, gw_up_self _ _ _ _⟩
  · exact ⟨e', by rw [gw_up_ne q]; exact hb⟩
theorem gp_new {M : gw_M} {a r : Nat} {e : va_E} (ha : M a = none) : gp_S M (gw_up M a r e) := fun _ _ ⟨e', hb⟩ => ⟨e', gw_keepN hb ha⟩
def gx_Z (cI : ClassId) (M : gw_M) : Prop :=
  (∀ (a : Nat) (e : va_E), M a = some (9, e) → ∃ n s v k f : Int32, e = .inr (2, [.int n, .int s, .int v, .int k, .int f])) ∧
  (∀ (a : Nat) (e : va_E), M a = some (10, e) → ∃ (t : Nat) (en : Int32), e = .inr (3, [.ref t, .int en]) ∧ gp_R M 11 t) ∧
  (∀ (a : Nat) (e : va_E), M a = some (11, e) → ∃ (k : Nat) (f : Nat → Int32), k ≤ 256 ∧ e = .inl (cI, k, .inl f))
def gx_W (G : gw_G) (A : Nat → Nat) (lim sc E : Int32) (j n : Nat) (M : gw_M) : Prop := ∃ (gc rs : Nat) (f3 f8 : Nat → Int32),
  M (A 0) = some (1, .inr (0, [.int lim, .int sc, .int E, .ref (A 1), .ref (A 3), .ref (A 4), .ref (A 5), .ref (A 6), .int (nI gc)])) ∧
  M (A 1) = some (2, .inr (1, [.ref (A 2), .int (nI rs)])) ∧ M (A 2) = some (3, .inl (G.2.1 0, 256, .inl f3)) ∧ M (A 6) = some (8, .inl (G.2.1 0, 512, .inl f8)) ∧
  gc ≤ 512 ∧ rs ≤ 256 ∧ gl_L G M (A 3) 4 6 10 j ∧ gl_L G M (A 4) 5 7 9 n ∧ gp_R M 9 (A 5) ∧ gx_Z (G.2.1 0) M
theorem gl_L.st {G : gw_G} {M M2 : gw_M} {o ro ra re n : Nat} (h : gl_L G M o ro ra re n) (h1 : ∀ (a : Nat) (e : va_E), M a = some (ro, e) → M2 a = some (ro, e)) (h2 : ∀ (a : Nat) (e : va_E), M a = some (ra, e) → M2 a = some (ra, e)) (h3 : gp_S M M2) : gl_L G M2 o ro ra re n := by
  obtain ⟨k, ⟨e0, hf⟩ | ⟨a, cap, f, hf, ha, hc, hc2, he⟩⟩ := h
  · exact ⟨k, Or.inl ⟨e0, h1 _ _ hf⟩⟩
  · refine ⟨k, Or.inr ⟨a, cap, f, h1 _ _ hf, h2 _ _ ha, hc, hc2, fun i hi => ?_⟩⟩
    obtain ⟨y, e, hy, hM⟩ := he i hi
    obtain ⟨e2, hM2⟩ := h3 re y ⟨e, hM⟩
    exact ⟨y, e2, hy, hM2⟩
theorem gw_upo {M : gw_M} {a r rb b : Nat} {e0 e eb : va_E} (ha : M a = some (r, e0)) (hr : r ≠ rb) (hb : M b = some (rb, eb)) : gw_up M a r e b = some (rb, eb) := gw_keep hb ha hr
/-- a cell of a pooled role is another now -/
theorem gx_Z.up {cI : ClassId} {M : gw_M} {a r : Nat} {e0 e : va_E} (h : gx_Z cI M) (ha : M a = some (r, e0)) (h9 : r = 9 → ∃ n s v k f : Int32, e = .inr (2, [.int n, .int s, .int v, .int k, .int f])) (h10 : r = 10 → ∃ (t : Nat) (en : Int32), e = .inr (3, [.ref t, .int en]) ∧ gp_R M 11 t) (h11 : r = 11 → ∃ (k : Nat) (f : Nat → Int32), k ≤ 256 ∧ e = .inl (cI, k, .inl f)) : gx_Z cI (gw_up M a r e) := by
  have hp : gp_S M (gw_up M a r e) := gp_up ha
  refine ⟨fun b eb hb => ?_, fun b eb hb => ?_, fun b eb hb => ?_⟩
  · by_cases q : b = a
    · subst q; rw [gw_up_self] at hb; cases hb; exact h9 rfl
    · rw [gw_up_ne q] at hb; exact h.1 b eb hb
  · by_cases q : b = a
    · subst q; rw [gw_up_self] at hb; cases hb; obtain ⟨t, en, h1, h2⟩ := h10 rfl; exact ⟨t, en, h1, hp _ _ h2⟩
    · rw [gw_up_ne q] at hb; obtain ⟨t, en, h1, h2⟩ := h.2.1 b eb hb; exact ⟨t, en, h1, hp _ _ h2⟩
  · by_cases q : b = a
    · subst q; rw [gw_up_self] at hb; cases hb; exact h11 rfl
    · rw [gw_up_ne q] at hb; exact h.2.2 b eb hb
theorem gx_Z.new {cI : ClassId} {M : gw_M} {a r : Nat} {e : va_E} (h : gx_Z cI M) (ha : M a = none) (h9 : r = 9 → ∃ n s v k f : Int32, e = .inr (2, [.int n, .int s, .int v, .int k, .int f])) (h10 : r = 10 → ∃ (t : Nat) (en : Int32), e = .inr (3, [.ref t, .int en]) ∧ gp_R M 11 t) (h11 : r = 11 → ∃ (k : Nat) (f : Nat → Int32), k ≤ 256 ∧ e = .inl (cI, k, .inl f)) : gx_Z cI (gw_up M a r e) := by
  have hp : gp_S M (gw_up M a r e) := gp_new ha
  refine ⟨fun b eb hb => ?_, fun b eb hb => ?_, fun b eb hb => ?_⟩
  · by_cases q : b = a
    · subst q; rw [gw_up_self] at hb; cases hb; exact h9 rfl
    · rw [gw_up_ne q] at hb; exact h.1 b eb hb
  · by_cases q : b = a
    · subst q; rw [gw_up_self] at hb; cases hb; obtain ⟨t, en, h1, h2⟩ := h10 rfl; exact ⟨t, en, h1, hp _ _ h2⟩
    · rw [gw_up_ne q] at hb; obtain ⟨t, en, h1, h2⟩ := h.2.1 b eb hb; exact ⟨t, en, h1, hp _ _ h2⟩
  · by_cases q : b = a
    · subst q; rw [gw_up_self] at hb; cases hb; exact h11 rfl
    · rw [gw_up_ne q] at hb; exact h.2.2 b eb hb
/-- roles that no pool has -/
theorem gx_Z.up' {cI : ClassId} {M : gw_M} {a r : Nat} {e0 e : va_E} (h : gx_Z cI M) (ha : M a = some (r, e0)) (hr : r ≠ 9 ∧ r ≠ 10 ∧ r ≠ 11) : gx_Z cI (gw_up M a r e) := h.up ha (fun q => absurd q hr.1) (fun q => absurd q hr.2.1) (fun q => absurd q hr.2.2)
theorem gx_Z.new' {cI : ClassId} {M : gw_M} {a r : Nat} {e : va_E} (h : gx_Z cI M) (ha : M a = none) (hr : r ≠ 9 ∧ r ≠ 10 ∧ r ≠ 11) : gx_Z cI (gw_up M a r e) := h.new ha (fun q => absurd q hr.1) (fun q => absurd q hr.2.1) (fun q => absurd q hr.2.2)
section GXW
variable {G : gw_G} {A : Nat → Nat} {lim sc E : Int32} {j n : Nat} {M : gw_M}
theorem gx_W.now (h : gx_W G A lim sc E j n M) : gp_R M 9 (A 5) := by
  obtain ⟨_, _, _, _, _, _, _, _, _, _, _, _, h, _⟩ := h
  exact h
theorem gx_W.z (h : gx_W G A lim sc E j n M) : gx_Z (G.2.1 0) M := by
  obtain ⟨_, _, _, _, _, _, _, _, _, _, _, _, _, h⟩ := h
  exact h
theorem gx_W.jobs (h : gx_W G A lim sc E j n M) : gl_L G M (A 3) 4 6 10 j := by
  obtain ⟨_, _, _, _, _, _, _, _, _, _, h, _⟩ := h
  exact h
theorem gx_W.known (h : gx_W G A lim sc E j n M) : gl_L G M (A 4) 5 7 9 n := by
  obtain ⟨_, _, _, _, _, _, _, _, _, _, _, h, _⟩ := h
  exact h
theorem gx_W.g9 {a : Nat} (h : gx_W G A lim sc E j n M) (ha : gp_R M 9 a) : ∃ v1 v2 v3 v4 v5 : Int32, M a = some (9, .inr (2, [.int v1, .int v2, .int v3, .int v4, .int v5])) := by
  obtain ⟨e, ha⟩ := ha
  obtain ⟨v1, v2, v3, v4, v5, rfl⟩ := h.z.1 a e ha
  exact ⟨v1, v2, v3, v4, v5, ha⟩
theorem gx_W.g10 {a : Nat} (h : gx_W G A lim sc E j n M) (ha : gp_R M 10 a) : ∃ (t : Nat) (en : Int32), M a = some (10, .inr (3, [.ref t, .int en])) ∧ gp_R M 11 t := by
  obtain ⟨e, ha⟩ := ha
  obtain ⟨t, en, rfl, ht⟩ := h.z.2.1 a e ha
  exact ⟨t, en, ha, ht⟩
theorem gx_W.g11 {a : Nat} (h : gx_W G A lim sc E j n M) (ha : gp_R M 11 a) : ∃ (k : Nat) (f : Nat → Int32), k ≤ 256 ∧ M a = some (11, .inl (G.2.1 0, k, .inl f)) := by
  obtain ⟨e, ha⟩ := ha
  obtain ⟨k, f, hk, rfl⟩ := h.z.2.2 a e ha
  exact ⟨k, f, hk, ha⟩
/-- a Generation is written -/
theorem gx_W.up9 {a : Nat} {e0 : va_E} {v1 v2 v3 v4 v5 : Int32} (h : gx_W G A lim sc E j n M) (ha : M a = some (9, e0)) : gx_W G A lim sc E j n (gw_up M a 9 (.inr (2, [.int v1, .int v2, .int v3, .int v4, .int v5]))) := by
  have hp : gp_S M (gw_up M a 9 (.inr (2, [.int v1, .int v2, .int v3, .int v4, .int v5]))) := gp_up ha
  obtain ⟨gc, rs, f3, f8, h1, h2, h3, h4, h5, h6, h7, h8, h9, h10⟩ := h
  exact ⟨gc, rs, f3, f8, gw_upo ha (by decide) h1, gw_upo ha (by decide) h2, gw_upo ha (by decide) h3, gw_upo ha (by decide) h4, h5, h6, h7.st (fun _ _ q => gw_upo ha (by decide) q) (fun _ _ q => gw_upo ha (by decide) q) hp, h8.st (fun _ _ q => gw_upo ha (by decide) q) (fun _ _ q => gw_upo ha (by decide) q) hp, hp _ _ h9, h10.up ha (fun _ => ⟨v1, v2, v3, v4, v5, rfl⟩) (fun q => absurd q (by decide)) (fun q => absurd q (by decide))⟩
/-- a Job is written -/
theorem gx_W.up10 {a t : Nat} {e0 : va_E} {en : Int32} (h : gx_W G A lim sc E j n M) (ha : M a = some (10, e0)) (ht : gp_R M 11 t) : gx_W G A lim sc E j n (gw_up M a 10 (.inr (3, [.ref t, .int en]))) := by
  have hp : gp_S M (gw_up M a 10 (.inr (3, [.ref t, .int en]))) := gp_up ha
  obtain ⟨gc, rs, f3, f8, h1, h2, h3, h4, h5, h6, h7, h8, h9, h10⟩ := h
  exact ⟨gc, rs, f3, f8, gw_upo ha (by decide) h1, gw_upo ha (by decide) h2, gw_upo ha (by decide) h3, gw_upo ha (by decide) h4, h5, h6, h7.st (fun _ _ q => gw_upo ha (by decide) q) (fun _ _ q => gw_upo ha (by decide) q) hp, h8.st (fun _ _ q => gw_upo ha (by decide) q) (fun _ _ q => gw_upo ha (by decide) q) hp, hp _ _ h9, h10.up ha (fun q => absurd q (by decide)) (fun _ => ⟨t, en, rfl, ht⟩) (fun q => absurd q (by decide))⟩
/-- a new cell of a pool -/
theorem gx_W.newp {a r : Nat} {e : va_E} (h : gx_W G A lim sc E j n M) (ha : M a = none) (hz : gx_Z (G.2.1 0) (gw_up M a r e)) : gx_W G A lim sc E j n (gw_up M a r e) := by
  have hp : gp_S M (gw_up M a r e) := gp_new ha
  obtain ⟨gc, rs, f3, f8, h1, h2, h3, h4, h5, h6, h7, h8, h9, -⟩ := h
  exact ⟨gc, rs, f3, f8, gw_keepN h1 ha, gw_keepN h2 ha, gw_keepN h3 ha, gw_keepN h4 ha, h5, h6, h7.st (fun _ _ q => gw_keepN q ha) (fun _ _ q => gw_keepN q ha) hp, h8.st (fun _ _ q => gw_keepN q ha) (fun _ _ q => gw_keepN q ha) hp, hp _ _ h9, hz⟩
/-- the object itself is written -/
theorem gx_W.up1 {e0 : va_E} {E2 : Int32} {gc2 : Nat} (h : gx_W G A lim sc E j n M) (ha : M (A 0) = some (1, e0)) (hg : gc2 ≤ 512) : gx_W G A lim sc E2 j n (gw_up M (A 0) 1 (.inr (0, [.int lim, .int sc, .int E2, .ref (A 1), .ref (A 3), .ref (A 4), .ref (A 5), .ref (A 6), .int (nI gc2)]))) := by
  have hp : gp_S M (gw_up M (A 0) 1 (.inr (0, [.int lim, .int sc, .int E2, .ref (A 1), .ref (A 3), .ref (A 4), .ref (A 5), .ref (A 6), .int (nI gc2)]))) := gp_up ha
  obtain ⟨gc, rs, f3, f8, h1, h2, h3, h4, h5, h6, h7, h8, h9, h10⟩ := h
  exact ⟨gc2, rs, f3, f8, gw_up_self _ _ _ _, gw_upo ha (by decide) h2, gw_upo ha (by decide) h3, gw_upo ha (by decide) h4, hg, h6, h7.st (fun _ _ q => gw_upo ha (by decide) q) (fun _ _ q => gw_upo ha (by decide) q) hp, h8.st (fun _ _ q => gw_upo ha (by decide) q) (fun _ _ q => gw_upo ha (by decide) q) hp, hp _ _ h9, h10.up' ha (by decide)⟩
theorem gx_W.up2 {e0 : va_E} {rs2 : Nat} (h : gx_W G A lim sc E j n M) (ha : M (A 1) = some (2, e0)) (hg : rs2 ≤ 256) : gx_W G A lim sc E j n (gw_up M (A 1) 2 (.inr (1, [.ref (A 2), .int (nI rs2)]))) := by
  have hp : gp_S M (gw_up M (A 1) 2 (.inr (1, [.ref (A 2), .int (nI rs2)]))) := gp_up ha
  obtain ⟨gc, rs, f3, f8, h1, h2, h3, h4, h5, h6, h7, h8, h9, h10⟩ := h
  exact ⟨gc, rs2, f3, f8, gw_upo ha (by decide) h1, gw_up_self _ _ _ _, gw_upo ha (by decide) h3, gw_upo ha (by decide) h4, h5, hg, h7.st (fun _ _ q => gw_upo ha (by decide) q) (fun _ _ q => gw_upo ha (by decide) q) hp, h8.st (fun _ _ q => gw_upo ha (by decide) q) (fun _ _ q => gw_upo ha (by decide) q) hp, hp _ _ h9, h10.up' ha (by decide)⟩
theorem gx_W.up3 {e0 : va_E} {f : Nat → Int32} (h : gx_W G A lim sc E j n M) (ha : M (A 2) = some (3, e0)) : gx_W G A lim sc E j n (gw_up M (A 2) 3 (.inl (G.2.1 0, 256, .inl f))) := by
  have hp : gp_S M (gw_up M (A 2) 3 (.inl (G.2.1 0, 256, .inl f))) := gp_up ha
  obtain ⟨gc, rs, f3, f8, h1, h2, h3, h4, h5, h6, h7, h8, h9, h10⟩ := h
  exact ⟨gc, rs, f, f8, gw_upo ha (by decide) h1, gw_upo ha (by decide) h2, gw_up_self _ _ _ _, gw_upo ha (by decide) h4, h5, h6, h7.st (fun _ _ q => gw_upo ha (by decide) q) (fun _ _ q => gw_upo ha (by decide) q) hp, h8.st (fun _ _ q => gw_upo ha (by decide) q) (fun _ _ q => gw_upo ha (by decide) q) hp, hp _ _ h9, h10.up' ha (by decide)⟩
theorem gx_W.up8 {e0 : va_E} {f : Nat → Int32} (h : gx_W G A lim sc E j n M) (ha : M (A 6) = some (8, e0)) : gx_W G A lim sc E j n (gw_up M (A 6) 8 (.inl (G.2.1 0, 512, .inl f))) := by
  have hp : gp_S M (gw_up M (A 6) 8 (.inl (G.2.1 0, 512, .inl f))) := gp_up ha
  obtain ⟨gc, rs, f3, f8, h1, h2, h3, h4, h5, h6, h7, h8, h9, h10⟩ := h
  exact ⟨gc, rs, f3, f, gw_upo ha (by decide) h1, gw_upo ha (by decide) h2, gw_upo ha (by decide) h3, gw_up_self _ _ _ _, h5, h6, h7.st (fun _ _ q => gw_upo ha (by decide) q) (fun _ _ q => gw_upo ha (by decide) q) hp, h8.st (fun _ _ q => gw_upo ha (by decide) q) (fun _ _ q => gw_upo ha (by decide) q) hp, hp _ _ h9, h10.up' ha (by decide)⟩
/-- a list has grown (only cells of its own two roles differ) -/
theorem gx_W.addJ {M2 : gw_M} (h : gx_W G A lim sc E j n M) (hf : gw_fr (gw_out [4, 6]) M M2) (hp : gp_S M M2) {j2 : Nat} (hl : gl_L G M2 (A 3) 4 6 10 j2) : gx_W G A lim sc E j2 n M2 := by
  obtain ⟨gc, rs, f3, f8, h1, h2, h3, h4, h5, h6, -, h8, h9, h10⟩ := h
  refine ⟨gc, rs, f3, f8, (hf _ _ _ (by decide)).mp h1, (hf _ _ _ (by decide)).mp h2, (hf _ _ _ (by decide)).mp h3, (hf _ _ _ (by decide)).mp h4, h5, h6, hl, h8.st (fun _ _ q => (hf _ _ _ (by decide)).mp q) (fun _ _ q => (hf _ _ _ (by decide)).mp q) hp, hp _ _ h9, fun a e q => h10.1 a e ((hf _ _ _ (by decide)).mpr q), fun a e q => ?_, fun a e q => h10.2.2 a e ((hf _ _ _ (by decide)).mpr q)⟩
  obtain ⟨t, en, e1, e2⟩ := h10.2.1 a e ((hf _ _ _ (by decide)).mpr q)
  exact ⟨t, en, e1, hp _ _ e2⟩
theorem gx_W.addK {M2 : gw_M} (h : gx_W G A lim sc E j n M) (hf : gw_fr (gw_out [5, 7]) M M2) (hp : gp_S M M2) {n2 : Nat} (hl : gl_L G M2 (A 4) 5 7 9 n2) : gx_W G A lim sc E j n2 M2 := by
  obtain ⟨gc, rs, f3, f8, h1, h2, h3, h4, h5, h6, h7, -, h9, h10⟩ := h
  refine ⟨gc, rs, f3, f8, (hf _ _ _ (by decide)).mp h1, (hf _ _ _ (by decide)).mp h2, (hf _ _ _ (by decide)).mp h3, (hf _ _ _ (by decide)).mp h4, h5, h6, h7.st (fun _ _ q => (hf _ _ _ (by decide)).mp q) (fun _ _ q => (hf _ _ _ (by decide)).mp q) hp, hl, hp _ _ h9, fun a e q => h10.1 a e ((hf _ _ _ (by decide)).mpr q), fun a e q => ?_, fun a e q => h10.2.2 a e ((hf _ _ _ (by decide)).mpr q)⟩
  obtain ⟨t, en, e1, e2⟩ := h10.2.1 a e ((hf _ _ _ (by decide)).mpr q)
  exact ⟨t, en, e1, hp _ _ e2⟩
/-- the reference's steps leave it -/
theorem gx_W.stays {M2 : gw_M} {L : List Nat} (h : gx_W G A lim sc E j n M) (hf : gw_fr (gw_out L) M M2) (hL : ∀ x ∈ L, 50 ≤ x) : gx_W G A lim sc E j n M2 := by
  have hk : ∀ (r a : Nat) (e : va_E), r < 50 → (M a = some (r, e) ↔ M2 a = some (r, e)) := fun r a e hr => hf a r e (fun q => by have := hL r q; omega)
  have hp9 : ∀ r a : Nat, r < 50 → gp_R M r a → gp_R M2 r a := fun r a hr ⟨e, q⟩ => ⟨e, (hk r a e hr).mp q⟩
  obtain ⟨gc, rs, f3, f8, h1, h2, h3, h4, h5, h6, h7, h8, h9, h10⟩ := h
  refine ⟨gc, rs, f3, f8, (hk _ _ _ (by decide)).mp h1, (hk _ _ _ (by decide)).mp h2, (hk _ _ _ (by decide)).mp h3, (hk _ _ _ (by decide)).mp h4, h5, h6, ?_, ?_, hp9 _ _ (by decide) h9, fun a e q => h10.1 a e ((hk _ _ _ (by decide)).mpr q), fun a e q => ?_, fun a e q => h10.2.2 a e ((hk _ _ _ (by decide)).mpr q)⟩
  · obtain ⟨k, ⟨e0, hf0⟩ | ⟨a, cap, f, hf0, ha, hc, hc2, he⟩⟩ := h7
    · exact ⟨k, Or.inl ⟨e0, (hk _ _ _ (by decide)).mp hf0⟩⟩
    · exact ⟨k, Or.inr ⟨a, cap, f, (hk _ _ _ (by decide)).mp hf0, (hk _ _ _ (by decide)).mp ha, hc, hc2, fun i hi => by obtain ⟨y, e, hy, hM⟩ := he i hi; exact ⟨y, e, hy, (hk _ _ _ (by decide)).mp hM⟩⟩⟩
  · obtain ⟨k, ⟨e0, hf0⟩ | ⟨a, cap, f, hf0, ha, hc, hc2, he⟩⟩ := h8
    · exact ⟨k, Or.inl ⟨e0, (hk _ _ _ (by decide)).mp hf0⟩⟩
    · exact ⟨k, Or.inr ⟨a, cap, f, (hk _ _ _ (by decide)).mp hf0, (hk _ _ _ (by decide)).mp ha, hc, hc2, fun i hi => by obtain ⟨y, e, hy, hM⟩ := he i hi; exact ⟨y, e, hy, (hk _ _ _ (by decide)).mp hM⟩⟩⟩
  · obtain ⟨t, en, e1, e2⟩ := h10.2.1 a e ((hk _ _ _ (by decide)).mpr q)
    exact ⟨t, en, e1, hp9 _ _ (by decide) e2⟩
end GXW
theorem gl_L.cell {G : gw_G} {M : gw_M} {o ro ra re n : Nat} (h : gl_L G M o ro ra re n) : ∃ fs : List Value, M o = some (ro, .inr (4, fs)) := by
  obtain ⟨k, ⟨-, hf⟩ | ⟨a, cap, f, hf, -⟩⟩ := h
  · exact ⟨_, hf⟩
  · exact ⟨_, hf⟩
section GRE
variable {p : Program} {l : Launch} {e : Env} {R : Room} {s : State} {m : MethodId} {args : Array Value} {below : List Frame} {meth : Method} {c : Code} {pc : Nat} {cc : ByteArray} {ls : Array Slot}
theorem gr_iret {post : Int32 → Prop} {v : Int32} (hx : p.tables.exec = Jvm.exec) (hb : c.code = cc) (hr : meth.sig.returnType = some .int) (hlocks : meth.locks = false) (hdg : decode cc pc = .ok (.ireturn, 1)) (hp : post v) : W p l e R s m args below meth c s.heap [] 0 0 (MQ below (gr_Qi post) args s 0 0 (fun _ => False)) (F0 m pc ls [.int v]) := W.iret hx hb hr (fun t ht _ => ⟨v, rfl, hp, ht⟩) (fun q hq => nomatch hq) hdg hlocks
theorem gr_zret {post : Int32 → Prop} {v : Int32} {ty : FieldType} (hx : p.tables.exec = Jvm.exec) (hb : c.code = cc) (hr : meth.sig.returnType = some ty) (hlocks : meth.locks = false) (hn : narrow ty (.int v) = .int v) (hdg : decode cc pc = .ok (.ireturn, 1)) (hp : post v) : W p l e R s m args below meth c s.heap [] 0 0 (MQ below (gr_Qi post) args s 0 0 (fun _ => False)) (F0 m pc ls [.int v]) := W.zret hx hb hr hn (fun t ht _ => ⟨v, rfl, hp, ht⟩) (fun q hq => nomatch hq) hdg hlocks
theorem gr_aret {post : Nat → Prop} {v : Nat} {rt : FieldType} (hx : p.tables.exec = Jvm.exec) (hb : c.code = cc) (hr : meth.sig.returnType = some rt) (hlocks : meth.locks = false) (hrt : (∃ n, rt = .object n) ∨ ∃ t, rt = .array t) (hdg : decode cc pc = .ok (.areturn, 1)) (hp : post v) : W p l e R s m args below meth c s.heap [] 0 0 (MQ below (gr_Qr post) args s 0 0 (fun _ => False)) (F0 m pc ls [.ref v]) := W.aret hx hb hr hrt (Or.inr ⟨v, rfl⟩) (fun t ht _ => ⟨v, rfl, hp, ht⟩) (fun q hq => nomatch hq) hdg hlocks
end GRE
theorem gl_L.le {G : gw_G} {M : gw_M} {o ro ra re n : Nat} (h : gl_L G M o ro ra re n) : n ≤ 1000 := by
  obtain ⟨k, ⟨e0, -⟩ | ⟨a, cap, f, -, -, h1, h2, -⟩⟩ := h
  · omega
  · omega
theorem gx_ltN {a b : Nat} (h : ¬ nI b ≤ nI a) (ha : a < 2 ^ 31) (hb : b < 2 ^ 31) : a < b := by
  rcases Nat.lt_or_ge a b with q | q
  · exact q
  · exact absurd (nI_le q ha) h
theorem gx_inN {k : Int32} {b N : Nat} (h0 : ¬ k < 0) (h : ¬ nI b ≤ k) (hb : b < 2 ^ 31) (hN : b ≤ N) : vp_in k N := by
  obtain ⟨j, hj, ej, -⟩ := pk_mu h0 h hb
  rw [vp_in_iff, ej, nI_toInt (by omega)]
  exact ⟨by omega, by omega⟩
/-- only the roles outside P differ, and roles stay -/
def gw_fg (P : Nat → Prop) (M M2 : gw_M) : Prop := gw_fr P M M2 ∧ gp_S M M2
theorem gw_fg.rf {P : Nat → Prop} {M : gw_M} : gw_fg P M M := ⟨gw_fr.rf, gp_S.rf⟩
theorem gw_fg.tr {P : Nat → Prop} {M M1 M2 : gw_M} (h1 : gw_fg P M M1) (h2 : gw_fg P M1 M2) : gw_fg P M M2 := ⟨h1.1.tr h2.1, h1.2.tr h2.2⟩
theorem gw_fg.up {P : Nat → Prop} {M M1 : gw_M} {a r : Nat} {e0 e : va_E} (h : gw_fg P M M1) (ha : M1 a = some (r, e0)) (h0 : ¬ P r) (h1 : ¬ P r) : gw_fg P M (gw_up M1 a r e) := ⟨h.1.up ha h0 h1, h.2.tr (gp_up ha)⟩
theorem gw_fg.new {P : Nat → Prop} {M M1 : gw_M} {a r : Nat} {e : va_E} (h : gw_fg P M M1) (ha : M1 a = none) (h1 : ¬ P r) : gw_fg P M (gw_up M1 a r e) := ⟨h.1.new ha h1, h.2.tr (gp_new ha)⟩
theorem gw_fg.wk {L L0 : List Nat} {M M2 : gw_M} (h : gw_fg (gw_out L) M M2) (hs : ∀ x ∈ L, x ∈ L0) : gw_fg (gw_out L0) M M2 := ⟨h.1.wk hs, h.2⟩
section GCQ
variable {p : Program} {l : Launch} {e : Env} {R : Room} {s : State} {m : MethodId} {args : Array Value} {below : List Frame} {meth : Method} {c : Code} {H : Heap} {locs : List Loc} {cells slots : Nat} {Q : State → Prop}
variable {cc : ByteArray} {pc : Nat} {ls : Array Slot} {rest : List Value} {D : va_G} {cl : List vw_C} {B0 a r : Nat} {tys : List (ClassId × FieldType)} {M : gw_M} {H0 : Heap}
theorem gw_copyq (hexec : p.tables.exec = Jvm.exec) (hb : c.code = cc) (hml : c.maxLocals = ls.size) {own : String} {index : Nat} (hown : s.vm.findClass own = some m.cls) (hlink : (Cond.methodLink own index arraycopyName).before args s = true) (hnat : (Cond.native arraycopyName).before args s = true) (hstat : (Cond.static arraycopyName).before args s = true) (hini : (Cond.initialized "java/lang/System").before args s = true)
    (hK : va_K D cl tys s) (hW : gw_P D cl B0 M H) (hS : va_S (fun q => B0 ≤ q) H0 H locs) (t0 t1 : Nat) {a0 r0 : Nat} {c0 c1 : ClassId} {n0 n1 : Nat} {f g : Nat → Option Nat} {E0 E1 C : String} (ha0 : M a0 = some (r0, .inl (c0, n0, .inr (.inr (.inr (.inr f)))))) (ha1 : M a = some (r, .inl (c1, n1, .inr (.inr (.inr (.inr g)))))) (ht0 : tys[t0]? = some (c0, .object E0)) (ht1 : tys[t1]? = some (c1, .object E1))
    {sp dp n : Int32} (h1 : ¬ sp < 0) (h2 : ¬ dp < 0) (h3 : ¬ n < 0) (h4 : sp.toNatClampNeg + n.toNatClampNeg ≤ n0) (h5 : dp.toNatClampNeg + n.toNatClampNeg ≤ n1) (hel : ∀ i : Nat, i < n.toNatClampNeg → ∀ y : Nat, f (sp.toNatClampNeg + i) = some y → ∃ cellV : Cell, H[y]? = some cellV ∧ cellV.vm.isStatics = false ∧ s.vm.findClass C = some cellV.cls) (hasg : ∀ comp c0 : ClassId, s.vm.findClass E1 = some comp → s.vm.findClass C = some c0 → s.vm.assignable c0 comp = true)
    (hframes : 1 ≤ R.frames) (hlocals : (rest.map fun v => v.category).sum + (nativeFrameWords "java/lang/System" "arraycopy" 5 + 11) ≤ R.locals) (hdg : decode cc pc = .ok (.invokestatic index, 3))
    (kk : ∀ (H1 : Heap) (locs1 : List Loc), gw_P D cl B0 (gw_up M a r (.inl (c1, n1, .inr (.inr (.inr (.inr (va_cpy f g sp.toNatClampNeg dp.toNatClampNeg n.toNatClampNeg))))))) H1 → va_S (fun q => B0 ≤ q) H0 H1 locs1 → W p l e R s m args below meth c H1 locs1 cells slots Q (F0 m (pc + 3) ls rest)) : W p l e R s m args below meth c H locs cells slots Q (F0 m pc ls (.int n :: .int dp :: .ref a :: .int sp :: .ref a0 :: rest)) := by
  obtain ⟨ws, hP, hD, hM⟩ := hW
  obtain ⟨q0, hq0⟩ := List.getElem?_of_mem (hM _ _ _ ha0)
  obtain ⟨q1, hq1⟩ := List.getElem?_of_mem (hM _ _ _ ha1)
  exact va_copyq hexec hb hml hown hlink hnat hstat hini hK hP hD hS q0 q1 t0 t1 hq0 hq1 ht0 ht1 h1 h2 h3 h4 h5 hel hasg hframes hlocals hdg (fun H1 locs1 hP1 hD1 hS1 => kk H1 locs1 ⟨_, hP1, hD1, gw_set hq1 hM⟩ hS1)
/-- an array's cell, by its class -/
theorem gw_recvA {G : gw_G} {x : vp_A} (hK : va_K G.1 vwCl (gw_ty G) s) (hW : gw_P G.1 vwCl B0 M H) (ha : M a = some (r, .inl (G.2.1 1, x))) : ∃ cell : Cell, H[a]? = some cell ∧ cell.vm.isStatics = false ∧ s.vm.findClass "[Ljava/lang/Object;" = some cell.cls := by
  have h1 : H[a]? = some (vp_cell (G.2.1 1) x) := (hW.at ha).1
  obtain ⟨_, _, _, _, _, h2⟩ := (hK.2 1 (G.2.1 1, .object "java/lang/Object") rfl).2
  obtain ⟨n9, y⟩ := x
  refine ⟨_, h1, ?_, ?_⟩
  · rcases y with f | f | f | f | f <;> rfl
  · rcases y with f | f | f | f | f <;> exact h2
end GCQ
theorem gx_mx {c h : Nat} (h1 : 1 ≤ c) (hh : h ≤ c) (hc : c ≤ 1000) : ∃ d : Nat, nI c + (if nI 1 < nI h then nI h else nI 1) = nI (c + d) ∧ 1 ≤ d ∧ d ≤ h + 1 := by
  by_cases q : nI 1 < nI h
  · have q2 := (nI_ltI (by omega) (by omega)).mp q
    exact ⟨h, by rw [if_pos q, nI_add], by omega, by omega⟩
  · exact ⟨1, by rw [if_neg q, nI_add], by omega, by omega⟩
theorem gx_big {k : Nat} (hk : k ≤ 3000) : ¬ (2147483639 : Int32) < nI k := by
  rw [Int32.lt_iff_toInt_lt, nI_toInt (by omega)]
  have e1 : (2147483639 : Int32).toInt = 2147483639 := by decide
  omega
theorem gx_mn {n q : Nat} (h : n ≤ q) (hq : q ≤ 3000) : (if nI q < nI n then nI q else nI n) = nI n := if_neg (fun z => by have := (nI_ltI (by omega) (by omega)).mp z; omega)
theorem gx_half {n : Nat} (h : n < 2 ^ 31) : nI n >>> ((1 : Int32) &&& 31) = nI (n / 2) := pk_shrN h _ 1 (by decide)
theorem gx_one {n : Nat} : nI n + 1 - nI n = nI 1 := by
  rw [nI_1, pk_sub (by omega), show n + 1 - n = 1 by omega]
theorem gx_gt0 {n : Nat} (h : 1 ≤ n) (hn : n < 2 ^ 31) : 0 < nI n := by
  have := nI_lt (a := 0) (b := n) (by omega) hn
  rw [nI_0] at this
  exact this
end
section
abbrev b_AL_size : ByteArray := prog_19_method_8_code
abbrev y_AL_size : MethodName := ⟨"java/util/ArrayList", "size", "()I"⟩
abbrev b_Preconditions_checkIndex : ByteArray := prog_27_method_11_code
abbrev y_Preconditions_checkIndex : MethodName := ⟨"jdk/internal/util/Preconditions", "checkIndex", "(IILjava/util/function/BiFunction;)I"⟩
abbrev b_Objects_checkIndex : ByteArray := prog_23_method_17_code
abbrev y_Objects_checkIndex : MethodName := ⟨"java/util/Objects", "checkIndex", "(II)I"⟩
abbrev b_AL_elementData : ByteArray := prog_19_method_18_code
abbrev y_AL_elementData : MethodName := ⟨"java/util/ArrayList", "elementData", "(I)Ljava/lang/Object;"⟩
abbrev b_AL_get : ByteArray := prog_19_method_20_code
abbrev y_AL_get : MethodName := ⟨"java/util/ArrayList", "get", "(I)Ljava/lang/Object;"⟩
set_option maxRecDepth 20000 in
theorem mw0 : (Cond.fieldLink "java/util/ArrayList" (48 : Nat) "java/util/ArrayList" "size" "I") ∈ gw_N0 := gw_in (List.mem_append_right _ (gw_tm (i := 57) rfl))
set_option maxRecDepth 20000 in
theorem mw1 : (Cond.code ({ cls := "jdk/internal/util/Preconditions", name := "checkIndex", desc := "(IILjava/util/function/BiFunction;)I" } : Jvm.MethodName) prog_27_method_11_code (3 : Nat) (Option.some Jvm.ClassFile.FieldType.int)) ∈ gw_N0 := gw_in (List.mem_append_right _ (gw_tm (i := 153) rfl))
set_option maxRecDepth 20000 in
theorem mw2 : (Cond.methodLink "java/util/Objects" (105 : Nat) ({ cls := "jdk/internal/util/Preconditions", name := "checkIndex", desc := "(IILjava/util/function/BiFunction;)I" } : Jvm.MethodName)) ∈ gw_N0 := gw_in (List.mem_append_right _ (gw_tm (i := 151) rfl))
set_option maxRecDepth 20000 in
theorem mw3 : (Cond.static ({ cls := "jdk/internal/util/Preconditions", name := "checkIndex", desc := "(IILjava/util/function/BiFunction;)I" } : Jvm.MethodName)) ∈ gw_N0 := gw_in (List.mem_append_right _ (gw_tm (i := 152) rfl))
set_option maxRecDepth 20000 in
theorem mw4 : (Cond.initialized "jdk/internal/util/Preconditions") ∈ gw_N0 := gw_in (List.mem_append_right _ (gw_tm (i := 10) rfl))
set_option maxRecDepth 20000 in
theorem mw5 : (Cond.fieldLink "java/util/ArrayList" (9 : Nat) "java/util/ArrayList" "elementData" "[Ljava/lang/Object;") ∈ gw_N0 := gw_in (List.mem_append_right _ (gw_tm (i := 56) rfl))
set_option maxRecDepth 20000 in
theorem mw6 : (Cond.code ({ cls := "java/util/Objects", name := "checkIndex", desc := "(II)I" } : Jvm.MethodName) prog_23_method_17_code (2 : Nat) (Option.some Jvm.ClassFile.FieldType.int)) ∈ gw_N0 := gw_in (List.mem_append_right _ (gw_tm (i := 150) rfl))
set_option maxRecDepth 20000 in
theorem mw7 : (Cond.methodLink "java/util/ArrayList" (118 : Nat) ({ cls := "java/util/Objects", name := "checkIndex", desc := "(II)I" } : Jvm.MethodName)) ∈ gw_N0 := gw_in (List.mem_append_right _ (gw_tm (i := 148) rfl))
set_option maxRecDepth 20000 in
theorem mw8 : (Cond.static ({ cls := "java/util/Objects", name := "checkIndex", desc := "(II)I" } : Jvm.MethodName)) ∈ gw_N0 := gw_in (List.mem_append_right _ (gw_tm (i := 149) rfl))
set_option maxRecDepth 20000 in
theorem mw9 : (Cond.initialized "java/util/Objects") ∈ gw_N0 := gw_in (List.mem_append_right _ (gw_tm (i := 9) rfl))
set_option maxRecDepth 20000 in
theorem mw10 : (Cond.code ({ cls := "java/util/ArrayList", name := "elementData", desc := "(I)Ljava/lang/Object;" } : Jvm.MethodName) prog_19_method_18_code (2 : Nat) (Option.some (Jvm.ClassFile.FieldType.object "java/lang/Object"))) ∈ gw_N0 := gw_in (List.mem_append_right _ (gw_tm (i := 157) rfl))
set_option maxRecDepth 20000 in
theorem mw11 : (Cond.methodLink "java/util/ArrayList" (123 : Nat) ({ cls := "java/util/ArrayList", name := "elementData", desc := "(I)Ljava/lang/Object;" } : Jvm.MethodName)) ∈ gw_N0 := gw_in (List.mem_append_right _ (gw_tm (i := 154) rfl))
set_option maxRecDepth 20000 in
theorem mw12 : (Cond.instanceMethod ({ cls := "java/util/ArrayList", name := "elementData", desc := "(I)Ljava/lang/Object;" } : Jvm.MethodName)) ∈ gw_N0 := gw_in (List.mem_append_right _ (gw_tm (i := 155) rfl))
set_option maxRecDepth 20000 in
theorem mw13 : (Cond.selects "java/util/ArrayList" ({ cls := "java/util/ArrayList", name := "elementData", desc := "(I)Ljava/lang/Object;" } : Jvm.MethodName) ({ cls := "java/util/ArrayList", name := "elementData", desc := "(I)Ljava/lang/Object;" } : Jvm.MethodName)) ∈ gw_N0 := gw_in (List.mem_append_right _ (gw_tm (i := 156) rfl))
set_option maxRecDepth 20000 in
theorem mw14 : (Cond.initialized "java/util/ArrayList") ∈ gw_N0 := gw_in (List.mem_append_right _ (gw_tm (i := 5) rfl))
end
section
theorem d_AL_size_0 : decode b_AL_size 0 = .ok (.aload_n 0, 1) := by decide +kernel
theorem d_AL_size_1 : decode b_AL_size 1 = .ok (.getfield 48, 3) := by decide +kernel
theorem d_AL_size_4 : decode b_AL_size 4 = .ok (.ireturn, 1) := by decide +kernel
theorem d_Preconditions_checkIndex_0 : decode b_Preconditions_checkIndex 0 = .ok (.iload_n 0, 1) := by decide +kernel
theorem d_Preconditions_checkIndex_1 : decode b_Preconditions_checkIndex 1 = .ok (.ifCond .lt 8, 3) := by decide +kernel
theorem d_Preconditions_checkIndex_4 : decode b_Preconditions_checkIndex 4 = .ok (.iload_n 0, 1) := by decide +kernel
theorem d_Preconditions_checkIndex_5 : decode b_Preconditions_checkIndex 5 = .ok (.iload_n 1, 1) := by decide +kernel
theorem d_Preconditions_checkIndex_6 : decode b_Preconditions_checkIndex 6 = .ok (.if_icmp .lt 10, 3) := by decide +kernel
theorem d_Preconditions_checkIndex_16 : decode b_Preconditions_checkIndex 16 = .ok (.iload_n 0, 1) := by decide +kernel
theorem d_Preconditions_checkIndex_17 : decode b_Preconditions_checkIndex 17 = .ok (.ireturn, 1) := by decide +kernel
theorem d_Objects_checkIndex_0 : decode b_Objects_checkIndex 0 = .ok (.iload_n 0, 1) := by decide +kernel
theorem d_Objects_checkIndex_1 : decode b_Objects_checkIndex 1 = .ok (.iload_n 1, 1) := by decide +kernel
theorem d_Objects_checkIndex_2 : decode b_Objects_checkIndex 2 = .ok (.aconst_null, 1) := by decide +kernel
theorem d_Objects_checkIndex_3 : decode b_Objects_checkIndex 3 = .ok (.invokestatic 105, 3) := by decide +kernel
theorem d_Objects_checkIndex_6 : decode b_Objects_checkIndex 6 = .ok (.ireturn, 1) := by decide +kernel
theorem d_AL_elementData_0 : decode b_AL_elementData 0 = .ok (.aload_n 0, 1) := by decide +kernel
theorem d_AL_elementData_1 : decode b_AL_elementData 1 = .ok (.getfield 9, 3) := by decide +kernel
theorem d_AL_elementData_4 : decode b_AL_elementData 4 = .ok (.iload_n 1, 1) := by decide +kernel
theorem d_AL_elementData_5 : decode b_AL_elementData 5 = .ok (.aaload, 1) := by decide +kernel
theorem d_AL_elementData_6 : decode b_AL_elementData 6 = .ok (.areturn, 1) := by decide +kernel
theorem d_AL_get_0 : decode b_AL_get 0 = .ok (.iload_n 1, 1) := by decide +kernel
theorem d_AL_get_1 : decode b_AL_get 1 = .ok (.aload_n 0, 1) := by decide +kernel
theorem d_AL_get_2 : decode b_AL_get 2 = .ok (.getfield 48, 3) := by decide +kernel
theorem d_AL_get_5 : decode b_AL_get 5 = .ok (.invokestatic 118, 3) := by decide +kernel
theorem d_AL_get_8 : decode b_AL_get 8 = .ok (.pop, 1) := by decide +kernel
theorem d_AL_get_9 : decode b_AL_get 9 = .ok (.aload_n 0, 1) := by decide +kernel
theorem d_AL_get_10 : decode b_AL_get 10 = .ok (.iload_n 1, 1) := by decide +kernel
theorem d_AL_get_11 : decode b_AL_get 11 = .ok (.invokevirtual 123, 3) := by decide +kernel
theorem d_AL_get_14 : decode b_AL_get 14 = .ok (.areturn, 1) := by decide +kernel
end
section
theorem gr_mono {l : Launch} {y : MethodName} {ws : List Cond} {rm : Room} {Pc : Array Value → State → Prop} {p1 p2 : Nat → Prop} {mc ms : Nat} {free : Addr → Prop} (h : Met l y ws rm Pc (gr_Qr p1) mc ms free) (hp : ∀ r, p1 r → p2 r) : Met l y ws rm Pc (gr_Qr p2) mc ms free := by
  intro p e ha hc hk s m args below hf happ hP hK
  obtain ⟨k, o, h1, h2, h3, ⟨r, hr, hq, hh⟩, hL⟩ := h p e ha hc hk s m args below hf happ hP hK
  exact ⟨k, o, h1, h2, h3, ⟨r, hr, hp r hq, hh⟩, hL⟩
set_option maxHeartbeats 4000000 in
set_option maxRecDepth 100000 in
theorem s_size0 (l : Launch) (G : gw_G) (M : gw_M) (o : Nat) (ro : Nat) (k : Int32) (a : Nat) (v : Int32) (hf_o : M o = some (ro, .inr (4, [.int k, .ref a, .int v]))) : Met l y_AL_size [.code y_AL_size b_AL_size 1 (some .int)] ({ frames := 0, cells := 0, slots := 0, locals := 0 }) (gw_Pc G M [.ref o]) (gr_Qi (fun r => v = r)) 0 0 (fun _ => False) := by
  refine gw_startR (by decide) (Nat.le_of_ble_eq_true rfl) (fun p9 e9 s m b9 mt9 c9 hx hb hr hml hown hlocks hin hE hB hW ls hl => ?_)
  have hts := hE.ts ([.ref o] : List Value).toArray
  have hl : lv_has ls 1 [(0, .ref o)] := hl
  have hown : s.vm.findClass "java/util/ArrayList" = some m.cls := hown
  have hS : va_S (gw_A G) s.heap s.heap [] := va_S.rf
  refine lv_aload_n hx hb d_AL_size_0 rfl (lv_at hl 0 rfl) ?_
  refine gw_get (ci := 4) (fs := [.int k, .ref a, .int v]) hx hb hts in_AL hown hE.K hW hf_o rfl 2 (by decide) (hts _ mw0) (fun _ h9 => h9) rfl d_AL_size_1 ?_
  exact gr_iret hx hb hr hlocks d_AL_size_4 rfl

set_option maxHeartbeats 4000000 in
set_option maxRecDepth 100000 in
theorem s_pre (l : Launch) (G : gw_G) (M : gw_M) (i : Int32) (v : Int32) (h0 : ¬ i < 0) (h1 : i < v) : Met l y_Preconditions_checkIndex [.code y_Preconditions_checkIndex b_Preconditions_checkIndex 3 (some .int)] ({ frames := 0, cells := 0, slots := 0, locals := 0 }) (gw_Pc G M [.int i, .int v, .null]) (gr_Qi (fun r => True)) 0 0 (fun _ => False) := by
  refine gw_startR (by decide) (Nat.le_of_ble_eq_true rfl) (fun p9 e9 s m b9 mt9 c9 hx hb hr hml hown hlocks hin hE hB hW ls hl => ?_)
  have hts := hE.ts ([.int i, .int v, .null] : List Value).toArray
  have hl : lv_has ls 3 [(0, .int i), (1, .int v), (2, .null)] := hl
  have hown : s.vm.findClass "jdk/internal/util/Preconditions" = some m.cls := hown
  have hS : va_S (gw_A G) s.heap s.heap [] := va_S.rf
  refine lv_iload_n hx hb d_Preconditions_checkIndex_0 rfl (lv_at hl 0 rfl) ?_
  refine lv_if_lt (tgt := 9) hx hb d_Preconditions_checkIndex_1 (by decide) (fun c1 => ?_) (fun c1 => ?_)
  · exact absurd c1 h0
  · refine lv_iload_n hx hb d_Preconditions_checkIndex_4 rfl (lv_at hl 0 rfl) ?_
    refine lv_iload_n hx hb d_Preconditions_checkIndex_5 rfl (lv_at hl 1 rfl) ?_
    refine lv_icmp_lt (tgt := 16) hx hb d_Preconditions_checkIndex_6 (by decide) (fun c6 => ?_) (fun c6 => ?_)
    · refine lv_iload_n hx hb d_Preconditions_checkIndex_16 rfl (lv_at hl 0 rfl) ?_
      exact gr_iret hx hb hr hlocks d_Preconditions_checkIndex_17 trivial
    · exact absurd h1 c6

set_option maxHeartbeats 4000000 in
set_option maxRecDepth 100000 in
theorem s_obj (l : Launch) (G : gw_G) (M : gw_M) (i : Int32) (v : Int32) (h0 : ¬ i < 0) (h1 : i < v) : Met l y_Objects_checkIndex [.code y_Objects_checkIndex b_Objects_checkIndex 2 (some .int)] ({ frames := 1, cells := 0, slots := 0, locals := 22 }) (gw_Pc G M [.int i, .int v]) (gr_Qi (fun r => True)) 0 0 (fun _ => False) := by
  refine gw_startR (by decide) (Nat.le_of_ble_eq_true rfl) (fun p9 e9 s m b9 mt9 c9 hx hb hr hml hown hlocks hin hE hB hW ls hl => ?_)
  have hts := hE.ts ([.int i, .int v] : List Value).toArray
  have hl : lv_has ls 2 [(0, .int i), (1, .int v)] := hl
  have hown : s.vm.findClass "java/util/Objects" = some m.cls := hown
  have hS : va_S (gw_A G) s.heap s.heap [] := va_S.rf
  refine lv_iload_n hx hb d_Objects_checkIndex_0 rfl (lv_at hl 0 rfl) ?_
  refine lv_iload_n hx hb d_Objects_checkIndex_1 rfl (lv_at hl 1 rfl) ?_
  refine lv_null hx hb d_Objects_checkIndex_2 ?_
  refine gr_calli (va_runS (As := [.int i, .int v, .null]) (rest := []) ⟨hx, hb, hml, hown, hts⟩ (s_pre l G M i v  (by assumption) (by assumption)) (va_cwS 3 hts (gw_gt mw2 mw3 mw4 mw1) rfl rfl rfl (by decide +kernel) ⟨Nat.le_of_ble_eq_true rfl, Nat.le_of_ble_eq_true rfl⟩) (gw_ps hE hB hS hW) rfl rfl hl.1 rfl (lv_room (Nat.le_of_ble_eq_true rfl)) d_Objects_checkIndex_3 ⟨Nat.le_of_ble_eq_true rfl, Nat.le_of_ble_eq_true rfl⟩) (fun r1 hw2 => ?_)
  exact gr_iret hx hb hr hlocks d_Objects_checkIndex_6 trivial

set_option maxHeartbeats 4000000 in
set_option maxRecDepth 100000 in
theorem s_eld (l : Launch) (G : gw_G) (M : gw_M) (o : Nat) (ro : Nat) (k : Int32) (a : Nat) (v : Int32) (ra : Nat) (cap : Nat) (f : Nat → Option Nat) (i : Nat) (y : Nat) (hf_o : M o = some (ro, .inr (4, [.int k, .ref a, .int v]))) (hf_a : M a = some (ra, .inl (G.2.1 1, cap, .inr (.inr (.inr (.inr f)))))) (hi : i < cap) (hcap : cap ≤ 1000) (hy : f i = some y) : Met l y_AL_elementData [.code y_AL_elementData b_AL_elementData 2 (some (.object "java/lang/Object"))] ({ frames := 0, cells := 0, slots := 0, locals := 0 }) (gw_Pc G M [.ref o, .int (nI i)]) (gr_Qr (fun r => r = y)) 0 0 (fun _ => False) := by
  refine gw_startR (by decide) (Nat.le_of_ble_eq_true rfl) (fun p9 e9 s m b9 mt9 c9 hx hb hr hml hown hlocks hin hE hB hW ls hl => ?_)
  have hts := hE.ts ([.ref o, .int (nI i)] : List Value).toArray
  have hl : lv_has ls 2 [(0, .ref o), (1, .int (nI i))] := hl
  have hown : s.vm.findClass "java/util/ArrayList" = some m.cls := hown
  have hS : va_S (gw_A G) s.heap s.heap [] := va_S.rf
  refine lv_aload_n hx hb d_AL_elementData_0 rfl (lv_at hl 0 rfl) ?_
  refine gw_get (ci := 4) (fs := [.int k, .ref a, .int v]) hx hb hts in_AL hown hE.K hW hf_o rfl 1 (by decide) (hts _ mw5) (fun _ h9 => h9) rfl d_AL_elementData_1 ?_
  refine lv_iload_n hx hb d_AL_elementData_4 rfl (lv_at hl 1 rfl) ?_
  refine gw_aald (i := nI i) hx hb hE.K hW 1 hf_a rfl (vp_in_nI hi (by omega)) d_AL_elementData_5 ?_
  refine W.eq (g2 := F0 m 6 ls [.ref y]) (by rw [nI_clamp (by omega), hy]; rfl) ?_
  exact gr_aret hx hb hr hlocks (Or.inl ⟨_, rfl⟩) d_AL_elementData_6 rfl

set_option maxHeartbeats 4000000 in
set_option maxRecDepth 100000 in
theorem s_get0 (l : Launch) (G : gw_G) (M : gw_M) (o : Nat) (ro : Nat) (k : Int32) (a : Nat) (n : Nat) (ra : Nat) (cap : Nat) (f : Nat → Option Nat) (i : Nat) (y : Nat) (hf_o : M o = some (ro, .inr (4, [.int k, .ref a, .int (nI n)]))) (hf_a : M a = some (ra, .inl (G.2.1 1, cap, .inr (.inr (.inr (.inr f)))))) (hi : i < n) (hn : n ≤ cap) (hcap : cap ≤ 1000) (hy : f i = some y) : Met l y_AL_get [.code y_AL_get b_AL_get 2 (some (.object "java/lang/Object"))] ({ frames := 2, cells := 0, slots := 0, locals := 43 }) (gw_Pc G M [.ref o, .int (nI i)]) (gr_Qr (fun r => r = y)) 0 0 (fun _ => False) := by
  refine gw_startR (by decide) (Nat.le_of_ble_eq_true rfl) (fun p9 e9 s m b9 mt9 c9 hx hb hr hml hown hlocks hin hE hB hW ls hl => ?_)
  have hts := hE.ts ([.ref o, .int (nI i)] : List Value).toArray
  have hl : lv_has ls 2 [(0, .ref o), (1, .int (nI i))] := hl
  have hown : s.vm.findClass "java/util/ArrayList" = some m.cls := hown
  have hS : va_S (gw_A G) s.heap s.heap [] := va_S.rf
  refine lv_iload_n hx hb d_AL_get_0 rfl (lv_at hl 1 rfl) ?_
  refine lv_aload_n hx hb d_AL_get_1 rfl (lv_at hl 0 rfl) ?_
  refine gw_get (ci := 4) (fs := [.int k, .ref a, .int (nI n)]) hx hb hts in_AL hown hE.K hW hf_o rfl 2 (by decide) (hts _ mw0) (fun _ h9 => h9) rfl d_AL_get_2 ?_
  refine gr_calli (va_runS (As := [.int (nI i), .int (nI n)]) (rest := []) ⟨hx, hb, hml, hown, hts⟩ (s_obj l G M (nI i) (nI n)  (nI_pos (by omega)) (nI_lt hi (by omega))) (va_cwS 2 hts (gw_gt mw7 mw8 mw9 mw6) rfl rfl rfl (by decide +kernel) ⟨Nat.le_of_ble_eq_true rfl, Nat.le_of_ble_eq_true rfl⟩) (gw_ps hE hB hS hW) rfl rfl hl.1 rfl (lv_room (Nat.le_of_ble_eq_true rfl)) d_AL_get_5 ⟨Nat.le_of_ble_eq_true rfl, Nat.le_of_ble_eq_true rfl⟩) (fun r1 hw2 => ?_)
  refine lv_pop hx hb d_AL_get_8 rfl ?_
  refine lv_aload_n hx hb d_AL_get_9 rfl (lv_at hl 0 rfl) ?_
  refine lv_iload_n hx hb d_AL_get_10 rfl (lv_at hl 1 rfl) ?_
  refine gr_callr (va_runV (As := [.int (nI i)]) (rest := []) ⟨hx, hb, hml, hown, hts⟩ (s_eld l G M o ro k a (nI n) ra cap f i y hf_o hf_a (Nat.lt_of_lt_of_le hi hn) hcap hy) (cwV 1 hts (gw_gv mw11 mw12 mw13 mw14 mw10) rfl rfl rfl (by decide +kernel) ⟨Nat.le_of_ble_eq_true rfl, Nat.le_of_ble_eq_true rfl⟩) (gw_pv hE hB hS hW rfl hf_o) rfl rfl hl.1 rfl (lv_room (Nat.le_of_ble_eq_true rfl)) d_AL_get_11 ⟨Nat.le_of_ble_eq_true rfl, Nat.le_of_ble_eq_true rfl⟩) (fun r3 hw4 => ?_)
  have hw9 := hw4
  exact gr_aret hx hb hr hlocks (Or.inl ⟨_, rfl⟩) d_AL_get_14 hw9
/-- the list's size, and an element, read -/
theorem s_size (l : Launch) (G : gw_G) (M : gw_M) (o ro ra re n : Nat) (hL : gl_L G M o ro ra re n) : Met l y_AL_size [.code y_AL_size b_AL_size 1 (some .int)] ({ frames := 0, cells := 0, slots := 0, locals := 0 }) (gw_Pc G M [.ref o]) (gr_Qi (fun r => nI n = r)) 0 0 (fun _ => False) := by
  obtain ⟨k, ⟨-, hf⟩ | ⟨a, cap, f, hf, -⟩⟩ := hL
  · exact s_size0 l G M o ro k _ _ hf
  · exact s_size0 l G M o ro k _ _ hf
theorem s_get (l : Launch) (G : gw_G) (M : gw_M) (o ro ra re n i : Nat) (hL : gl_L G M o ro ra re n) (hi : i < n) : Met l y_AL_get [.code y_AL_get b_AL_get 2 (some (.object "java/lang/Object"))] ({ frames := 2, cells := 0, slots := 0, locals := 43 }) (gw_Pc G M [.ref o, .int (nI i)]) (gr_Qr (fun r => gp_R M re r)) 0 0 (fun _ => False) := by
  obtain ⟨k, ⟨e0, -⟩ | ⟨a, cap, f, hf, ha, hc, hc2, he⟩⟩ := hL
  · omega
  · obtain ⟨y, e, hy, hM⟩ := he i hi
    exact gr_mono (s_get0 l G M o ro k a n ra cap f i y hf ha hi hc hc2.2 hy) (fun r hr => by rw [hr]; exact ⟨e, hM⟩)
end
section
abbrev b_X_isNumber : ByteArray := prog_1_method_15_code
abbrev y_X_isNumber : MethodName := ⟨"Generations", "isNumber", "(I)Z"⟩
abbrev b_Gen_isDeferred : ByteArray := prog_2_method_3_code
abbrev y_Gen_isDeferred : MethodName := ⟨"Generations$Generation", "isDeferred", "()Z"⟩
abbrev b_Gen_isNewOneOf : ByteArray := prog_2_method_4_code
abbrev y_Gen_isNewOneOf : MethodName := ⟨"Generations$Generation", "isNewOneOf", "(I)Z"⟩
abbrev b_Gen_isInTheWayOf : ByteArray := prog_2_method_5_code
abbrev y_Gen_isInTheWayOf : MethodName := ⟨"Generations$Generation", "isInTheWayOf", "(I)Z"⟩
abbrev b_Gen_failedFor : ByteArray := prog_2_method_6_code
abbrev y_Gen_failedFor : MethodName := ⟨"Generations$Generation", "failedFor", "(II)Z"⟩
abbrev b_X_find : ByteArray := prog_1_method_17_code
abbrev y_X_find : MethodName := ⟨"Generations", "find", "(I)LGenerations$Generation;"⟩
abbrev b_X_howManyAre : ByteArray := prog_1_method_19_code
abbrev y_X_howManyAre : MethodName := ⟨"Generations", "howManyAre", "(I)I"⟩
abbrev b_X_jobThatMakes : ByteArray := prog_1_method_20_code
abbrev y_X_jobThatMakes : MethodName := ⟨"Generations", "jobThatMakes", "()I"⟩
abbrev b_X_anotherMakes : ByteArray := prog_1_method_21_code
abbrev y_X_anotherMakes : MethodName := ⟨"Generations", "anotherMakes", "(I)Z"⟩
abbrev b_Row_at : ByteArray := prog_4_method_2_code
abbrev y_Row_at : MethodName := ⟨"Generations$Row", "at", "(I)I"⟩
abbrev b_X_list : ByteArray := prog_1_method_9_code
abbrev y_X_list : MethodName := ⟨"Generations", "list", "(I)I"⟩
abbrev b_X_dropped : ByteArray := prog_1_method_7_code
abbrev y_X_dropped : MethodName := ⟨"Generations", "dropped", "(I)I"⟩
abbrev b_X_version : ByteArray := prog_1_method_12_code
abbrev y_X_version : MethodName := ⟨"Generations", "version", "(I)I"⟩
abbrev b_X_state : ByteArray := prog_1_method_13_code
abbrev y_X_state : MethodName := ⟨"Generations", "state", "(I)I"⟩
abbrev b_X_count : ByteArray := prog_1_method_14_code
abbrev y_X_count : MethodName := ⟨"Generations", "count", "(I)I"⟩
set_option maxRecDepth 20000 in
theorem mw15 : (Cond.fieldLink "Generations$Generation" (9 : Nat) "Generations$Generation" "state" "I") ∈ gw_N0 := gw_in (List.mem_append_right _ (gw_tm (i := 76) rfl))
set_option maxRecDepth 20000 in
theorem mw16 : (Cond.fieldLink "Generations$Generation" (15 : Nat) "Generations$Generation" "maker" "I") ∈ gw_N0 := gw_in (List.mem_append_right _ (gw_tm (i := 80) rfl))
set_option maxRecDepth 20000 in
theorem mw17 : (Cond.code ({ cls := "Generations$Generation", name := "isDeferred", desc := "()Z" } : Jvm.MethodName) prog_2_method_3_code (1 : Nat) (Option.some Jvm.ClassFile.FieldType.boolean)) ∈ gw_N0 := gw_in (List.mem_append_right _ (gw_tm (i := 161) rfl))
set_option maxRecDepth 20000 in
theorem mw18 : (Cond.methodLink "Generations$Generation" (27 : Nat) ({ cls := "Generations$Generation", name := "isDeferred", desc := "()Z" } : Jvm.MethodName)) ∈ gw_N0 := gw_in (List.mem_append_right _ (gw_tm (i := 413) rfl))
set_option maxRecDepth 20000 in
theorem mw19 : (Cond.instanceMethod ({ cls := "Generations$Generation", name := "isDeferred", desc := "()Z" } : Jvm.MethodName)) ∈ gw_N0 := gw_in (List.mem_append_right _ (gw_tm (i := 160) rfl))
set_option maxRecDepth 20000 in
theorem mw20 : (Cond.selects "Generations$Generation" ⟨"Generations$Generation", "isDeferred", "()Z"⟩ ⟨"Generations$Generation", "isDeferred", "()Z"⟩) ∈ gw_N0 := gw_in (List.mem_append_left _ (List.mem_of_getElem? (i := 1) rfl))
set_option maxRecDepth 20000 in
theorem mw21 : (Cond.initialized "Generations$Generation") ∈ gw_N0 := gw_in (List.mem_append_right _ (gw_tm (i := 6) rfl))
set_option maxRecDepth 20000 in
theorem mw22 : (Cond.fieldLink "Generations$Generation" (24 : Nat) "Generations$Generation" "failedAtEnd" "I") ∈ gw_N0 := gw_in (List.mem_append_right _ (gw_tm (i := 82) rfl))
set_option maxRecDepth 20000 in
theorem mw23 : (Cond.fieldLink "Generations" (23 : Nat) "Generations" "known" "Ljava/util/ArrayList;") ∈ gw_N0 := gw_in (List.mem_append_right _ (gw_tm (i := 106) rfl))
set_option maxRecDepth 20000 in
theorem mw24 : (Cond.code ({ cls := "java/util/ArrayList", name := "size", desc := "()I" } : Jvm.MethodName) prog_19_method_8_code (1 : Nat) (Option.some Jvm.ClassFile.FieldType.int)) ∈ gw_N0 := gw_in (List.mem_append_right _ (gw_tm (i := 143) rfl))
set_option maxRecDepth 20000 in
theorem mw25 : (Cond.methodLink "Generations" (84 : Nat) ({ cls := "java/util/ArrayList", name := "size", desc := "()I" } : Jvm.MethodName)) ∈ gw_N0 := gw_in (List.mem_append_right _ (gw_tm (i := 140) rfl))
set_option maxRecDepth 20000 in
theorem mw26 : (Cond.instanceMethod ({ cls := "java/util/ArrayList", name := "size", desc := "()I" } : Jvm.MethodName)) ∈ gw_N0 := gw_in (List.mem_append_right _ (gw_tm (i := 141) rfl))
set_option maxRecDepth 20000 in
theorem mw27 : (Cond.selects "java/util/ArrayList" ({ cls := "java/util/ArrayList", name := "size", desc := "()I" } : Jvm.MethodName) ({ cls := "java/util/ArrayList", name := "size", desc := "()I" } : Jvm.MethodName)) ∈ gw_N0 := gw_in (List.mem_append_right _ (gw_tm (i := 142) rfl))
set_option maxRecDepth 20000 in
theorem mw28 : (Cond.fieldLink "Generations" (31 : Nat) "Generations" "nowhere" "LGenerations$Generation;") ∈ gw_N0 := gw_in (List.mem_append_right _ (gw_tm (i := 107) rfl))
set_option maxRecDepth 20000 in
theorem mw29 : (Cond.code ({ cls := "java/util/ArrayList", name := "get", desc := "(I)Ljava/lang/Object;" } : Jvm.MethodName) prog_19_method_20_code (2 : Nat) (Option.some (Jvm.ClassFile.FieldType.object "java/lang/Object"))) ∈ gw_N0 := gw_in (List.mem_append_right _ (gw_tm (i := 147) rfl))
set_option maxRecDepth 20000 in
theorem mw30 : (Cond.methodLink "Generations" (141 : Nat) ({ cls := "java/util/ArrayList", name := "get", desc := "(I)Ljava/lang/Object;" } : Jvm.MethodName)) ∈ gw_N0 := gw_in (List.mem_append_right _ (gw_tm (i := 144) rfl))
set_option maxRecDepth 20000 in
theorem mw31 : (Cond.instanceMethod ({ cls := "java/util/ArrayList", name := "get", desc := "(I)Ljava/lang/Object;" } : Jvm.MethodName)) ∈ gw_N0 := gw_in (List.mem_append_right _ (gw_tm (i := 145) rfl))
set_option maxRecDepth 20000 in
theorem mw32 : (Cond.selects "java/util/ArrayList" ({ cls := "java/util/ArrayList", name := "get", desc := "(I)Ljava/lang/Object;" } : Jvm.MethodName) ({ cls := "java/util/ArrayList", name := "get", desc := "(I)Ljava/lang/Object;" } : Jvm.MethodName)) ∈ gw_N0 := gw_in (List.mem_append_right _ (gw_tm (i := 146) rfl))
set_option maxRecDepth 20000 in
theorem mw33 : (Cond.classLink "Generations" (26 : Nat) "Generations$Generation") ∈ gw_N0 := gw_in (List.mem_append_right _ (gw_tm (i := 68) rfl))
set_option maxRecDepth 20000 in
theorem mw34 : (Cond.castable "Generations$Generation" "Generations$Generation") ∈ gw_N0 := gw_in (List.mem_append_right _ (gw_tm (i := 608) rfl))
set_option maxRecDepth 20000 in
theorem mw35 : (Cond.fieldLinkNest "Generations" (166 : Nat) "Generations$Generation" "number" "I" "Generations") ∈ gw_N0 := gw_in (List.mem_append_right _ (gw_tm (i := 75) rfl))
set_option maxRecDepth 20000 in
theorem mw36 : (Cond.fieldLinkNest "Generations" (64 : Nat) "Generations$Generation" "state" "I" "Generations") ∈ gw_N0 := gw_in (List.mem_append_right _ (gw_tm (i := 77) rfl))
set_option maxRecDepth 20000 in
theorem mw37 : (Cond.fieldLinkNest "Generations" (129 : Nat) "Generations$Generation" "maker" "I" "Generations") ∈ gw_N0 := gw_in (List.mem_append_right _ (gw_tm (i := 81) rfl))
set_option maxRecDepth 20000 in
theorem mw38 : (Cond.code ({ cls := "Generations", name := "jobThatMakes", desc := "()I" } : Jvm.MethodName) prog_1_method_20_code (3 : Nat) (Option.some Jvm.ClassFile.FieldType.int)) ∈ gw_N0 := gw_in (List.mem_append_right _ (gw_tm (i := 317) rfl))
set_option maxRecDepth 20000 in
theorem mw39 : (Cond.methodLink "Generations" (161 : Nat) ({ cls := "Generations", name := "jobThatMakes", desc := "()I" } : Jvm.MethodName)) ∈ gw_N0 := gw_in (List.mem_append_right _ (gw_tm (i := 314) rfl))
set_option maxRecDepth 20000 in
theorem mw40 : (Cond.instanceMethod ({ cls := "Generations", name := "jobThatMakes", desc := "()I" } : Jvm.MethodName)) ∈ gw_N0 := gw_in (List.mem_append_right _ (gw_tm (i := 316) rfl))
set_option maxRecDepth 20000 in
theorem mw41 : (Cond.selects "Generations" ⟨"Generations", "jobThatMakes", "()I"⟩ ⟨"Generations", "jobThatMakes", "()I"⟩) ∈ gw_N0 := gw_in (List.mem_append_left _ (List.mem_of_getElem? (i := 15) rfl))
set_option maxRecDepth 20000 in
theorem mw42 : (Cond.initialized "Generations") ∈ gw_N0 := gw_in (List.mem_append_right _ (gw_tm (i := 1) rfl))
set_option maxRecDepth 20000 in
theorem mw43 : (Cond.fieldLink "Generations$Row" (15 : Nat) "Generations$Row" "size" "I") ∈ gw_N0 := gw_in (List.mem_append_right _ (gw_tm (i := 34) rfl))
set_option maxRecDepth 20000 in
theorem mw44 : (Cond.fieldLink "Generations$Row" (9 : Nat) "Generations$Row" "numbers" "[I") ∈ gw_N0 := gw_in (List.mem_append_right _ (gw_tm (i := 33) rfl))
set_option maxRecDepth 20000 in
theorem mw45 : (Cond.fieldLink "Generations" (10 : Nat) "Generations" "row" "LGenerations$Row;") ∈ gw_N0 := gw_in (List.mem_append_right _ (gw_tm (i := 104) rfl))
set_option maxRecDepth 20000 in
theorem mw46 : (Cond.code ({ cls := "Generations$Row", name := "at", desc := "(I)I" } : Jvm.MethodName) prog_4_method_2_code (2 : Nat) (Option.some Jvm.ClassFile.FieldType.int)) ∈ gw_N0 := gw_in (List.mem_append_right _ (gw_tm (i := 241) rfl))
set_option maxRecDepth 20000 in
theorem mw47 : (Cond.methodLinkNest "Generations" (149 : Nat) ({ cls := "Generations$Row", name := "at", desc := "(I)I" } : Jvm.MethodName) "Generations") ∈ gw_N0 := gw_in (List.mem_append_right _ (gw_tm (i := 238) rfl))
set_option maxRecDepth 20000 in
theorem mw48 : (Cond.initialized "Generations$Row") ∈ gw_N0 := gw_in (List.mem_append_right _ (gw_tm (i := 2) rfl))
set_option maxRecDepth 20000 in
theorem mw49 : (Cond.instanceMethod ({ cls := "Generations$Row", name := "at", desc := "(I)I" } : Jvm.MethodName)) ∈ gw_N0 := gw_in (List.mem_append_right _ (gw_tm (i := 240) rfl))
set_option maxRecDepth 20000 in
theorem mw50 : (Cond.selects "Generations$Row" ⟨"Generations$Row", "at", "(I)I"⟩ ⟨"Generations$Row", "at", "(I)I"⟩) ∈ gw_N0 := gw_in (List.mem_append_left _ (List.mem_of_getElem? (i := 10) rfl))
set_option maxRecDepth 20000 in
theorem mw51 : (Cond.fieldLink "Generations" (138 : Nat) "Generations" "goneCount" "I") ∈ gw_N0 := gw_in (List.mem_append_right _ (gw_tm (i := 109) rfl))
set_option maxRecDepth 20000 in
theorem mw52 : (Cond.fieldLink "Generations" (35 : Nat) "Generations" "gone" "[I") ∈ gw_N0 := gw_in (List.mem_append_right _ (gw_tm (i := 108) rfl))
set_option maxRecDepth 20000 in
theorem mw53 : (Cond.code ({ cls := "Generations", name := "find", desc := "(I)LGenerations$Generation;" } : Jvm.MethodName) prog_1_method_17_code (4 : Nat) (Option.some (Jvm.ClassFile.FieldType.object "Generations$Generation"))) ∈ gw_N0 := gw_in (List.mem_append_right _ (gw_tm (i := 139) rfl))
set_option maxRecDepth 20000 in
theorem mw54 : (Cond.methodLink "Generations" (60 : Nat) ({ cls := "Generations", name := "find", desc := "(I)LGenerations$Generation;" } : Jvm.MethodName)) ∈ gw_N0 := gw_in (List.mem_append_right _ (gw_tm (i := 136) rfl))
set_option maxRecDepth 20000 in
theorem mw55 : (Cond.instanceMethod ({ cls := "Generations", name := "find", desc := "(I)LGenerations$Generation;" } : Jvm.MethodName)) ∈ gw_N0 := gw_in (List.mem_append_right _ (gw_tm (i := 138) rfl))
set_option maxRecDepth 20000 in
theorem mw56 : (Cond.selects "Generations" ⟨"Generations", "find", "(I)LGenerations$Generation;"⟩ ⟨"Generations", "find", "(I)LGenerations$Generation;"⟩) ∈ gw_N0 := gw_in (List.mem_append_left _ (List.mem_of_getElem? (i := 0) rfl))
set_option maxRecDepth 20000 in
theorem mw57 : (Cond.fieldLinkNest "Generations" (152 : Nat) "Generations$Generation" "version" "I" "Generations") ∈ gw_N0 := gw_in (List.mem_append_right _ (gw_tm (i := 79) rfl))
set_option maxRecDepth 20000 in
theorem mw58 : (Cond.code ({ cls := "Generations", name := "isNumber", desc := "(I)Z" } : Jvm.MethodName) prog_1_method_15_code (1 : Nat) (Option.some Jvm.ClassFile.FieldType.boolean)) ∈ gw_N0 := gw_in (List.mem_append_right _ (gw_tm (i := 135) rfl))
set_option maxRecDepth 20000 in
theorem mw59 : (Cond.methodLink "Generations" (56 : Nat) ({ cls := "Generations", name := "isNumber", desc := "(I)Z" } : Jvm.MethodName)) ∈ gw_N0 := gw_in (List.mem_append_right _ (gw_tm (i := 133) rfl))
set_option maxRecDepth 20000 in
theorem mw60 : (Cond.static ({ cls := "Generations", name := "isNumber", desc := "(I)Z" } : Jvm.MethodName)) ∈ gw_N0 := gw_in (List.mem_append_right _ (gw_tm (i := 134) rfl))
set_option maxRecDepth 20000 in
theorem mw61 : (Cond.fieldLinkNest "Generations" (81 : Nat) "Generations$Row" "size" "I" "Generations") ∈ gw_N0 := gw_in (List.mem_append_right _ (gw_tm (i := 35) rfl))
set_option maxRecDepth 20000 in
theorem mw62 : (Cond.code ({ cls := "Generations", name := "howManyAre", desc := "(I)I" } : Jvm.MethodName) prog_1_method_19_code (4 : Nat) (Option.some Jvm.ClassFile.FieldType.int)) ∈ gw_N0 := gw_in (List.mem_append_right _ (gw_tm (i := 313) rfl))
set_option maxRecDepth 20000 in
theorem mw63 : (Cond.methodLink "Generations" (158 : Nat) ({ cls := "Generations", name := "howManyAre", desc := "(I)I" } : Jvm.MethodName)) ∈ gw_N0 := gw_in (List.mem_append_right _ (gw_tm (i := 310) rfl))
set_option maxRecDepth 20000 in
theorem mw64 : (Cond.instanceMethod ({ cls := "Generations", name := "howManyAre", desc := "(I)I" } : Jvm.MethodName)) ∈ gw_N0 := gw_in (List.mem_append_right _ (gw_tm (i := 312) rfl))
set_option maxRecDepth 20000 in
theorem mw65 : (Cond.selects "Generations" ⟨"Generations", "howManyAre", "(I)I"⟩ ⟨"Generations", "howManyAre", "(I)I"⟩) ∈ gw_N0 := gw_in (List.mem_append_left _ (List.mem_of_getElem? (i := 14) rfl))
set_option maxRecDepth 20000 in
theorem mw66 : (Cond.fieldLink "Generations" (19 : Nat) "Generations" "jobs" "Ljava/util/ArrayList;") ∈ gw_N0 := gw_in (List.mem_append_right _ (gw_tm (i := 105) rfl))
end
section
theorem d_X_isNumber_0 : decode b_X_isNumber 0 = .ok (.iload_n 0, 1) := by decide +kernel
theorem d_X_isNumber_1 : decode b_X_isNumber 1 = .ok (.iconst 1, 1) := by decide +kernel
theorem d_X_isNumber_2 : decode b_X_isNumber 2 = .ok (.if_icmp .lt 14, 3) := by decide +kernel
theorem d_X_isNumber_16 : decode b_X_isNumber 16 = .ok (.iconst 0, 1) := by decide +kernel
theorem d_X_isNumber_17 : decode b_X_isNumber 17 = .ok (.ireturn, 1) := by decide +kernel
theorem d_X_isNumber_5 : decode b_X_isNumber 5 = .ok (.iload_n 0, 1) := by decide +kernel
theorem d_X_isNumber_6 : decode b_X_isNumber 6 = .ok (.sipush 9999, 3) := by decide +kernel
theorem d_X_isNumber_9 : decode b_X_isNumber 9 = .ok (.if_icmp .gt 7, 3) := by decide +kernel
theorem d_X_isNumber_12 : decode b_X_isNumber 12 = .ok (.iconst 1, 1) := by decide +kernel
theorem d_X_isNumber_13 : decode b_X_isNumber 13 = .ok (.goto 4, 3) := by decide +kernel
theorem d_Gen_isDeferred_0 : decode b_Gen_isDeferred 0 = .ok (.aload_n 0, 1) := by decide +kernel
theorem d_Gen_isDeferred_1 : decode b_Gen_isDeferred 1 = .ok (.getfield 9, 3) := by decide +kernel
theorem d_Gen_isDeferred_4 : decode b_Gen_isDeferred 4 = .ok (.iconst 2, 1) := by decide +kernel
theorem d_Gen_isDeferred_5 : decode b_Gen_isDeferred 5 = .ok (.if_icmp .eq 11, 3) := by decide +kernel
theorem d_Gen_isDeferred_16 : decode b_Gen_isDeferred 16 = .ok (.iconst 1, 1) := by decide +kernel
theorem d_Gen_isDeferred_17 : decode b_Gen_isDeferred 17 = .ok (.goto 4, 3) := by decide +kernel
theorem d_Gen_isDeferred_21 : decode b_Gen_isDeferred 21 = .ok (.ireturn, 1) := by decide +kernel
theorem d_Gen_isDeferred_8 : decode b_Gen_isDeferred 8 = .ok (.aload_n 0, 1) := by decide +kernel
theorem d_Gen_isDeferred_9 : decode b_Gen_isDeferred 9 = .ok (.getfield 9, 3) := by decide +kernel
theorem d_Gen_isDeferred_12 : decode b_Gen_isDeferred 12 = .ok (.iconst 3, 1) := by decide +kernel
theorem d_Gen_isDeferred_13 : decode b_Gen_isDeferred 13 = .ok (.if_icmp .ne 7, 3) := by decide +kernel
theorem d_Gen_isDeferred_20 : decode b_Gen_isDeferred 20 = .ok (.iconst 0, 1) := by decide +kernel
theorem d_Gen_isNewOneOf_0 : decode b_Gen_isNewOneOf 0 = .ok (.aload_n 0, 1) := by decide +kernel
theorem d_Gen_isNewOneOf_1 : decode b_Gen_isNewOneOf 1 = .ok (.getfield 15, 3) := by decide +kernel
theorem d_Gen_isNewOneOf_4 : decode b_Gen_isNewOneOf 4 = .ok (.iload_n 1, 1) := by decide +kernel
theorem d_Gen_isNewOneOf_5 : decode b_Gen_isNewOneOf 5 = .ok (.if_icmp .ne 22, 3) := by decide +kernel
theorem d_Gen_isNewOneOf_27 : decode b_Gen_isNewOneOf 27 = .ok (.iconst 0, 1) := by decide +kernel
theorem d_Gen_isNewOneOf_28 : decode b_Gen_isNewOneOf 28 = .ok (.ireturn, 1) := by decide +kernel
theorem d_Gen_isNewOneOf_8 : decode b_Gen_isNewOneOf 8 = .ok (.aload_n 0, 1) := by decide +kernel
theorem d_Gen_isNewOneOf_9 : decode b_Gen_isNewOneOf 9 = .ok (.getfield 9, 3) := by decide +kernel
theorem d_Gen_isNewOneOf_12 : decode b_Gen_isNewOneOf 12 = .ok (.iconst 1, 1) := by decide +kernel
theorem d_Gen_isNewOneOf_13 : decode b_Gen_isNewOneOf 13 = .ok (.if_icmp .eq 10, 3) := by decide +kernel
theorem d_Gen_isNewOneOf_23 : decode b_Gen_isNewOneOf 23 = .ok (.iconst 1, 1) := by decide +kernel
theorem d_Gen_isNewOneOf_24 : decode b_Gen_isNewOneOf 24 = .ok (.goto 4, 3) := by decide +kernel
theorem d_Gen_isNewOneOf_16 : decode b_Gen_isNewOneOf 16 = .ok (.aload_n 0, 1) := by decide +kernel
theorem d_Gen_isNewOneOf_17 : decode b_Gen_isNewOneOf 17 = .ok (.invokevirtual 27, 3) := by decide +kernel
theorem d_Gen_isNewOneOf_20 : decode b_Gen_isNewOneOf 20 = .ok (.ifCond .eq 7, 3) := by decide +kernel
theorem d_Gen_isInTheWayOf_0 : decode b_Gen_isInTheWayOf 0 = .ok (.aload_n 0, 1) := by decide +kernel
theorem d_Gen_isInTheWayOf_1 : decode b_Gen_isInTheWayOf 1 = .ok (.getfield 9, 3) := by decide +kernel
theorem d_Gen_isInTheWayOf_4 : decode b_Gen_isInTheWayOf 4 = .ok (.iconst 1, 1) := by decide +kernel
theorem d_Gen_isInTheWayOf_5 : decode b_Gen_isInTheWayOf 5 = .ok (.if_icmp .eq 26, 3) := by decide +kernel
theorem d_Gen_isInTheWayOf_31 : decode b_Gen_isInTheWayOf 31 = .ok (.iconst 1, 1) := by decide +kernel
theorem d_Gen_isInTheWayOf_32 : decode b_Gen_isInTheWayOf 32 = .ok (.goto 4, 3) := by decide +kernel
theorem d_Gen_isInTheWayOf_36 : decode b_Gen_isInTheWayOf 36 = .ok (.ireturn, 1) := by decide +kernel
theorem d_Gen_isInTheWayOf_8 : decode b_Gen_isInTheWayOf 8 = .ok (.aload_n 0, 1) := by decide +kernel
theorem d_Gen_isInTheWayOf_9 : decode b_Gen_isInTheWayOf 9 = .ok (.invokevirtual 27, 3) := by decide +kernel
theorem d_Gen_isInTheWayOf_12 : decode b_Gen_isInTheWayOf 12 = .ok (.ifCond .ne 19, 3) := by decide +kernel
theorem d_Gen_isInTheWayOf_15 : decode b_Gen_isInTheWayOf 15 = .ok (.aload_n 0, 1) := by decide +kernel
theorem d_Gen_isInTheWayOf_16 : decode b_Gen_isInTheWayOf 16 = .ok (.getfield 9, 3) := by decide +kernel
theorem d_Gen_isInTheWayOf_19 : decode b_Gen_isInTheWayOf 19 = .ok (.iconst 4, 1) := by decide +kernel
theorem d_Gen_isInTheWayOf_20 : decode b_Gen_isInTheWayOf 20 = .ok (.if_icmp .ne 15, 3) := by decide +kernel
theorem d_Gen_isInTheWayOf_35 : decode b_Gen_isInTheWayOf 35 = .ok (.iconst 0, 1) := by decide +kernel
theorem d_Gen_isInTheWayOf_23 : decode b_Gen_isInTheWayOf 23 = .ok (.aload_n 0, 1) := by decide +kernel
theorem d_Gen_isInTheWayOf_24 : decode b_Gen_isInTheWayOf 24 = .ok (.getfield 15, 3) := by decide +kernel
theorem d_Gen_isInTheWayOf_27 : decode b_Gen_isInTheWayOf 27 = .ok (.iload_n 1, 1) := by decide +kernel
theorem d_Gen_isInTheWayOf_28 : decode b_Gen_isInTheWayOf 28 = .ok (.if_icmp .eq 7, 3) := by decide +kernel
theorem d_Gen_failedFor_0 : decode b_Gen_failedFor 0 = .ok (.aload_n 0, 1) := by decide +kernel
theorem d_Gen_failedFor_1 : decode b_Gen_failedFor 1 = .ok (.getfield 9, 3) := by decide +kernel
theorem d_Gen_failedFor_4 : decode b_Gen_failedFor 4 = .ok (.iconst 3, 1) := by decide +kernel
theorem d_Gen_failedFor_5 : decode b_Gen_failedFor 5 = .ok (.if_icmp .ne 23, 3) := by decide +kernel
theorem d_Gen_failedFor_28 : decode b_Gen_failedFor 28 = .ok (.iconst 0, 1) := by decide +kernel
theorem d_Gen_failedFor_29 : decode b_Gen_failedFor 29 = .ok (.ireturn, 1) := by decide +kernel
theorem d_Gen_failedFor_8 : decode b_Gen_failedFor 8 = .ok (.aload_n 0, 1) := by decide +kernel
theorem d_Gen_failedFor_9 : decode b_Gen_failedFor 9 = .ok (.getfield 15, 3) := by decide +kernel
theorem d_Gen_failedFor_12 : decode b_Gen_failedFor 12 = .ok (.iload_n 1, 1) := by decide +kernel
theorem d_Gen_failedFor_13 : decode b_Gen_failedFor 13 = .ok (.if_icmp .ne 15, 3) := by decide +kernel
theorem d_Gen_failedFor_16 : decode b_Gen_failedFor 16 = .ok (.aload_n 0, 1) := by decide +kernel
theorem d_Gen_failedFor_17 : decode b_Gen_failedFor 17 = .ok (.getfield 24, 3) := by decide +kernel
theorem d_Gen_failedFor_20 : decode b_Gen_failedFor 20 = .ok (.iload_n 2, 1) := by decide +kernel
theorem d_Gen_failedFor_21 : decode b_Gen_failedFor 21 = .ok (.if_icmp .lt 7, 3) := by decide +kernel
theorem d_Gen_failedFor_24 : decode b_Gen_failedFor 24 = .ok (.iconst 1, 1) := by decide +kernel
theorem d_Gen_failedFor_25 : decode b_Gen_failedFor 25 = .ok (.goto 4, 3) := by decide +kernel
theorem d_X_find_0 : decode b_X_find 0 = .ok (.iconst 0, 1) := by decide +kernel
theorem d_X_find_1 : decode b_X_find 1 = .ok (.istore_n 2, 1) := by decide +kernel
theorem d_X_find_2 : decode b_X_find 2 = .ok (.iload_n 2, 1) := by decide +kernel
theorem d_X_find_3 : decode b_X_find 3 = .ok (.aload_n 0, 1) := by decide +kernel
theorem d_X_find_4 : decode b_X_find 4 = .ok (.getfield 23, 3) := by decide +kernel
theorem d_X_find_7 : decode b_X_find 7 = .ok (.invokevirtual 84, 3) := by decide +kernel
theorem d_X_find_10 : decode b_X_find 10 = .ok (.if_icmp .ge 31, 3) := by decide +kernel
theorem d_X_find_41 : decode b_X_find 41 = .ok (.aload_n 0, 1) := by decide +kernel
theorem d_X_find_42 : decode b_X_find 42 = .ok (.getfield 31, 3) := by decide +kernel
theorem d_X_find_45 : decode b_X_find 45 = .ok (.areturn, 1) := by decide +kernel
theorem d_X_find_13 : decode b_X_find 13 = .ok (.aload_n 0, 1) := by decide +kernel
theorem d_X_find_14 : decode b_X_find 14 = .ok (.getfield 23, 3) := by decide +kernel
theorem d_X_find_17 : decode b_X_find 17 = .ok (.iload_n 2, 1) := by decide +kernel
theorem d_X_find_18 : decode b_X_find 18 = .ok (.invokevirtual 141, 3) := by decide +kernel
theorem d_X_find_21 : decode b_X_find 21 = .ok (.checkcast 26, 3) := by decide +kernel
theorem d_X_find_24 : decode b_X_find 24 = .ok (.astore_n 3, 1) := by decide +kernel
theorem d_X_find_25 : decode b_X_find 25 = .ok (.aload_n 3, 1) := by decide +kernel
theorem d_X_find_26 : decode b_X_find 26 = .ok (.getfield 166, 3) := by decide +kernel
theorem d_X_find_29 : decode b_X_find 29 = .ok (.iload_n 1, 1) := by decide +kernel
theorem d_X_find_30 : decode b_X_find 30 = .ok (.if_icmp .ne 5, 3) := by decide +kernel
theorem d_X_find_35 : decode b_X_find 35 = .ok (.iinc 2 1, 3) := by decide +kernel
theorem d_X_find_38 : decode b_X_find 38 = .ok (.goto (-36), 3) := by decide +kernel
theorem d_X_find_33 : decode b_X_find 33 = .ok (.aload_n 3, 1) := by decide +kernel
theorem d_X_find_34 : decode b_X_find 34 = .ok (.areturn, 1) := by decide +kernel
theorem d_X_howManyAre_0 : decode b_X_howManyAre 0 = .ok (.iconst 0, 1) := by decide +kernel
theorem d_X_howManyAre_1 : decode b_X_howManyAre 1 = .ok (.istore_n 2, 1) := by decide +kernel
theorem d_X_howManyAre_2 : decode b_X_howManyAre 2 = .ok (.iconst 0, 1) := by decide +kernel
theorem d_X_howManyAre_3 : decode b_X_howManyAre 3 = .ok (.istore_n 3, 1) := by decide +kernel
theorem d_X_howManyAre_4 : decode b_X_howManyAre 4 = .ok (.iload_n 3, 1) := by decide +kernel
theorem d_X_howManyAre_5 : decode b_X_howManyAre 5 = .ok (.aload_n 0, 1) := by decide +kernel
theorem d_X_howManyAre_6 : decode b_X_howManyAre 6 = .ok (.getfield 23, 3) := by decide +kernel
theorem d_X_howManyAre_9 : decode b_X_howManyAre 9 = .ok (.invokevirtual 84, 3) := by decide +kernel
theorem d_X_howManyAre_12 : decode b_X_howManyAre 12 = .ok (.if_icmp .ge 30, 3) := by decide +kernel
theorem d_X_howManyAre_42 : decode b_X_howManyAre 42 = .ok (.iload_n 2, 1) := by decide +kernel
theorem d_X_howManyAre_43 : decode b_X_howManyAre 43 = .ok (.ireturn, 1) := by decide +kernel
theorem d_X_howManyAre_15 : decode b_X_howManyAre 15 = .ok (.aload_n 0, 1) := by decide +kernel
theorem d_X_howManyAre_16 : decode b_X_howManyAre 16 = .ok (.getfield 23, 3) := by decide +kernel
theorem d_X_howManyAre_19 : decode b_X_howManyAre 19 = .ok (.iload_n 3, 1) := by decide +kernel
theorem d_X_howManyAre_20 : decode b_X_howManyAre 20 = .ok (.invokevirtual 141, 3) := by decide +kernel
theorem d_X_howManyAre_23 : decode b_X_howManyAre 23 = .ok (.checkcast 26, 3) := by decide +kernel
theorem d_X_howManyAre_26 : decode b_X_howManyAre 26 = .ok (.getfield 64, 3) := by decide +kernel
theorem d_X_howManyAre_29 : decode b_X_howManyAre 29 = .ok (.iload_n 1, 1) := by decide +kernel
theorem d_X_howManyAre_30 : decode b_X_howManyAre 30 = .ok (.if_icmp .ne 6, 3) := by decide +kernel
theorem d_X_howManyAre_36 : decode b_X_howManyAre 36 = .ok (.iinc 3 1, 3) := by decide +kernel
theorem d_X_howManyAre_39 : decode b_X_howManyAre 39 = .ok (.goto (-35), 3) := by decide +kernel
theorem d_X_howManyAre_33 : decode b_X_howManyAre 33 = .ok (.iinc 2 1, 3) := by decide +kernel
theorem d_X_jobThatMakes_0 : decode b_X_jobThatMakes 0 = .ok (.iconst 0, 1) := by decide +kernel
theorem d_X_jobThatMakes_1 : decode b_X_jobThatMakes 1 = .ok (.istore_n 1, 1) := by decide +kernel
end
section
theorem d_X_jobThatMakes_2 : decode b_X_jobThatMakes 2 = .ok (.iload_n 1, 1) := by decide +kernel
theorem d_X_jobThatMakes_3 : decode b_X_jobThatMakes 3 = .ok (.aload_n 0, 1) := by decide +kernel
theorem d_X_jobThatMakes_4 : decode b_X_jobThatMakes 4 = .ok (.getfield 23, 3) := by decide +kernel
theorem d_X_jobThatMakes_7 : decode b_X_jobThatMakes 7 = .ok (.invokevirtual 84, 3) := by decide +kernel
theorem d_X_jobThatMakes_10 : decode b_X_jobThatMakes 10 = .ok (.if_icmp .ge 34, 3) := by decide +kernel
theorem d_X_jobThatMakes_44 : decode b_X_jobThatMakes 44 = .ok (.iconst 0, 1) := by decide +kernel
theorem d_X_jobThatMakes_45 : decode b_X_jobThatMakes 45 = .ok (.ireturn, 1) := by decide +kernel
theorem d_X_jobThatMakes_13 : decode b_X_jobThatMakes 13 = .ok (.aload_n 0, 1) := by decide +kernel
theorem d_X_jobThatMakes_14 : decode b_X_jobThatMakes 14 = .ok (.getfield 23, 3) := by decide +kernel
theorem d_X_jobThatMakes_17 : decode b_X_jobThatMakes 17 = .ok (.iload_n 1, 1) := by decide +kernel
theorem d_X_jobThatMakes_18 : decode b_X_jobThatMakes 18 = .ok (.invokevirtual 141, 3) := by decide +kernel
theorem d_X_jobThatMakes_21 : decode b_X_jobThatMakes 21 = .ok (.checkcast 26, 3) := by decide +kernel
theorem d_X_jobThatMakes_24 : decode b_X_jobThatMakes 24 = .ok (.astore_n 2, 1) := by decide +kernel
theorem d_X_jobThatMakes_25 : decode b_X_jobThatMakes 25 = .ok (.aload_n 2, 1) := by decide +kernel
theorem d_X_jobThatMakes_26 : decode b_X_jobThatMakes 26 = .ok (.getfield 64, 3) := by decide +kernel
theorem d_X_jobThatMakes_29 : decode b_X_jobThatMakes 29 = .ok (.iconst 2, 1) := by decide +kernel
theorem d_X_jobThatMakes_30 : decode b_X_jobThatMakes 30 = .ok (.if_icmp .ne 8, 3) := by decide +kernel
theorem d_X_jobThatMakes_38 : decode b_X_jobThatMakes 38 = .ok (.iinc 1 1, 3) := by decide +kernel
theorem d_X_jobThatMakes_41 : decode b_X_jobThatMakes 41 = .ok (.goto (-39), 3) := by decide +kernel
theorem d_X_jobThatMakes_33 : decode b_X_jobThatMakes 33 = .ok (.aload_n 2, 1) := by decide +kernel
theorem d_X_jobThatMakes_34 : decode b_X_jobThatMakes 34 = .ok (.getfield 129, 3) := by decide +kernel
theorem d_X_jobThatMakes_37 : decode b_X_jobThatMakes 37 = .ok (.ireturn, 1) := by decide +kernel
theorem d_X_anotherMakes_0 : decode b_X_anotherMakes 0 = .ok (.aload_n 0, 1) := by decide +kernel
theorem d_X_anotherMakes_1 : decode b_X_anotherMakes 1 = .ok (.invokevirtual 161, 3) := by decide +kernel
theorem d_X_anotherMakes_4 : decode b_X_anotherMakes 4 = .ok (.istore_n 2, 1) := by decide +kernel
theorem d_X_anotherMakes_5 : decode b_X_anotherMakes 5 = .ok (.iload_n 2, 1) := by decide +kernel
theorem d_X_anotherMakes_6 : decode b_X_anotherMakes 6 = .ok (.ifCond .eq 12, 3) := by decide +kernel
theorem d_X_anotherMakes_18 : decode b_X_anotherMakes 18 = .ok (.iconst 0, 1) := by decide +kernel
theorem d_X_anotherMakes_19 : decode b_X_anotherMakes 19 = .ok (.ireturn, 1) := by decide +kernel
theorem d_X_anotherMakes_9 : decode b_X_anotherMakes 9 = .ok (.iload_n 2, 1) := by decide +kernel
theorem d_X_anotherMakes_10 : decode b_X_anotherMakes 10 = .ok (.iload_n 1, 1) := by decide +kernel
theorem d_X_anotherMakes_11 : decode b_X_anotherMakes 11 = .ok (.if_icmp .eq 7, 3) := by decide +kernel
theorem d_X_anotherMakes_14 : decode b_X_anotherMakes 14 = .ok (.iconst 1, 1) := by decide +kernel
theorem d_X_anotherMakes_15 : decode b_X_anotherMakes 15 = .ok (.goto 4, 3) := by decide +kernel
theorem d_Row_at_0 : decode b_Row_at 0 = .ok (.iload_n 1, 1) := by decide +kernel
theorem d_Row_at_1 : decode b_Row_at 1 = .ok (.ifCond .lt 20, 3) := by decide +kernel
theorem d_Row_at_21 : decode b_Row_at 21 = .ok (.iconst (-1), 1) := by decide +kernel
theorem d_Row_at_22 : decode b_Row_at 22 = .ok (.ireturn, 1) := by decide +kernel
theorem d_Row_at_4 : decode b_Row_at 4 = .ok (.iload_n 1, 1) := by decide +kernel
theorem d_Row_at_5 : decode b_Row_at 5 = .ok (.aload_n 0, 1) := by decide +kernel
theorem d_Row_at_6 : decode b_Row_at 6 = .ok (.getfield 15, 3) := by decide +kernel
theorem d_Row_at_9 : decode b_Row_at 9 = .ok (.if_icmp .ge 12, 3) := by decide +kernel
theorem d_Row_at_12 : decode b_Row_at 12 = .ok (.aload_n 0, 1) := by decide +kernel
theorem d_Row_at_13 : decode b_Row_at 13 = .ok (.getfield 9, 3) := by decide +kernel
theorem d_Row_at_16 : decode b_Row_at 16 = .ok (.iload_n 1, 1) := by decide +kernel
theorem d_Row_at_17 : decode b_Row_at 17 = .ok (.iaload, 1) := by decide +kernel
theorem d_Row_at_18 : decode b_Row_at 18 = .ok (.goto 4, 3) := by decide +kernel
theorem d_X_list_0 : decode b_X_list 0 = .ok (.aload_n 0, 1) := by decide +kernel
theorem d_X_list_1 : decode b_X_list 1 = .ok (.getfield 10, 3) := by decide +kernel
theorem d_X_list_4 : decode b_X_list 4 = .ok (.iload_n 1, 1) := by decide +kernel
theorem d_X_list_5 : decode b_X_list 5 = .ok (.invokevirtual 149, 3) := by decide +kernel
theorem d_X_list_8 : decode b_X_list 8 = .ok (.ireturn, 1) := by decide +kernel
theorem d_X_dropped_0 : decode b_X_dropped 0 = .ok (.iload_n 1, 1) := by decide +kernel
theorem d_X_dropped_1 : decode b_X_dropped 1 = .ok (.ifCond .lt 20, 3) := by decide +kernel
theorem d_X_dropped_21 : decode b_X_dropped 21 = .ok (.iconst (-1), 1) := by decide +kernel
theorem d_X_dropped_22 : decode b_X_dropped 22 = .ok (.ireturn, 1) := by decide +kernel
theorem d_X_dropped_4 : decode b_X_dropped 4 = .ok (.iload_n 1, 1) := by decide +kernel
theorem d_X_dropped_5 : decode b_X_dropped 5 = .ok (.aload_n 0, 1) := by decide +kernel
theorem d_X_dropped_6 : decode b_X_dropped 6 = .ok (.getfield 138, 3) := by decide +kernel
theorem d_X_dropped_9 : decode b_X_dropped 9 = .ok (.if_icmp .ge 12, 3) := by decide +kernel
theorem d_X_dropped_12 : decode b_X_dropped 12 = .ok (.aload_n 0, 1) := by decide +kernel
theorem d_X_dropped_13 : decode b_X_dropped 13 = .ok (.getfield 35, 3) := by decide +kernel
theorem d_X_dropped_16 : decode b_X_dropped 16 = .ok (.iload_n 1, 1) := by decide +kernel
theorem d_X_dropped_17 : decode b_X_dropped 17 = .ok (.iaload, 1) := by decide +kernel
theorem d_X_dropped_18 : decode b_X_dropped 18 = .ok (.goto 4, 3) := by decide +kernel
theorem d_X_version_0 : decode b_X_version 0 = .ok (.aload_n 0, 1) := by decide +kernel
theorem d_X_version_1 : decode b_X_version 1 = .ok (.iload_n 1, 1) := by decide +kernel
theorem d_X_version_2 : decode b_X_version 2 = .ok (.invokevirtual 60, 3) := by decide +kernel
theorem d_X_version_5 : decode b_X_version 5 = .ok (.astore_n 2, 1) := by decide +kernel
theorem d_X_version_6 : decode b_X_version 6 = .ok (.aload_n 2, 1) := by decide +kernel
theorem d_X_version_7 : decode b_X_version 7 = .ok (.getfield 64, 3) := by decide +kernel
theorem d_X_version_10 : decode b_X_version 10 = .ok (.ifCond .ne 7, 3) := by decide +kernel
theorem d_X_version_17 : decode b_X_version 17 = .ok (.aload_n 2, 1) := by decide +kernel
theorem d_X_version_18 : decode b_X_version 18 = .ok (.getfield 152, 3) := by decide +kernel
theorem d_X_version_21 : decode b_X_version 21 = .ok (.ireturn, 1) := by decide +kernel
theorem d_X_version_13 : decode b_X_version 13 = .ok (.iconst (-1), 1) := by decide +kernel
theorem d_X_version_14 : decode b_X_version 14 = .ok (.goto 7, 3) := by decide +kernel
theorem d_X_state_0 : decode b_X_state 0 = .ok (.iload_n 1, 1) := by decide +kernel
theorem d_X_state_1 : decode b_X_state 1 = .ok (.invokestatic 56, 3) := by decide +kernel
theorem d_X_state_4 : decode b_X_state 4 = .ok (.ifCond .eq 14, 3) := by decide +kernel
theorem d_X_state_18 : decode b_X_state 18 = .ok (.iconst (-1), 1) := by decide +kernel
theorem d_X_state_19 : decode b_X_state 19 = .ok (.ireturn, 1) := by decide +kernel
theorem d_X_state_7 : decode b_X_state 7 = .ok (.aload_n 0, 1) := by decide +kernel
theorem d_X_state_8 : decode b_X_state 8 = .ok (.iload_n 1, 1) := by decide +kernel
theorem d_X_state_9 : decode b_X_state 9 = .ok (.invokevirtual 60, 3) := by decide +kernel
theorem d_X_state_12 : decode b_X_state 12 = .ok (.getfield 64, 3) := by decide +kernel
theorem d_X_state_15 : decode b_X_state 15 = .ok (.goto 4, 3) := by decide +kernel
theorem d_X_count_0 : decode b_X_count 0 = .ok (.iload_n 1, 1) := by decide +kernel
theorem d_X_count_1 : decode b_X_count 1 = .ok (.tableswitch 83 0 5 #[39, 47, 59, 65, 73, 78], 39) := by decide +kernel
theorem d_X_count_84 : decode b_X_count 84 = .ok (.iconst (-1), 1) := by decide +kernel
theorem d_X_count_85 : decode b_X_count 85 = .ok (.ireturn, 1) := by decide +kernel
theorem d_X_count_40 : decode b_X_count 40 = .ok (.aload_n 0, 1) := by decide +kernel
theorem d_X_count_41 : decode b_X_count 41 = .ok (.getfield 10, 3) := by decide +kernel
theorem d_X_count_44 : decode b_X_count 44 = .ok (.getfield 81, 3) := by decide +kernel
theorem d_X_count_47 : decode b_X_count 47 = .ok (.ireturn, 1) := by decide +kernel
theorem d_X_count_48 : decode b_X_count 48 = .ok (.aload_n 0, 1) := by decide +kernel
theorem d_X_count_49 : decode b_X_count 49 = .ok (.iconst 2, 1) := by decide +kernel
theorem d_X_count_50 : decode b_X_count 50 = .ok (.invokevirtual 158, 3) := by decide +kernel
theorem d_X_count_53 : decode b_X_count 53 = .ok (.aload_n 0, 1) := by decide +kernel
theorem d_X_count_54 : decode b_X_count 54 = .ok (.iconst 3, 1) := by decide +kernel
theorem d_X_count_55 : decode b_X_count 55 = .ok (.invokevirtual 158, 3) := by decide +kernel
theorem d_X_count_58 : decode b_X_count 58 = .ok (.iadd, 1) := by decide +kernel
theorem d_X_count_59 : decode b_X_count 59 = .ok (.ireturn, 1) := by decide +kernel
theorem d_X_count_60 : decode b_X_count 60 = .ok (.aload_n 0, 1) := by decide +kernel
theorem d_X_count_61 : decode b_X_count 61 = .ok (.iconst 4, 1) := by decide +kernel
theorem d_X_count_62 : decode b_X_count 62 = .ok (.invokevirtual 158, 3) := by decide +kernel
theorem d_X_count_65 : decode b_X_count 65 = .ok (.ireturn, 1) := by decide +kernel
theorem d_X_count_66 : decode b_X_count 66 = .ok (.aload_n 0, 1) := by decide +kernel
theorem d_X_count_67 : decode b_X_count 67 = .ok (.getfield 19, 3) := by decide +kernel
theorem d_X_count_70 : decode b_X_count 70 = .ok (.invokevirtual 84, 3) := by decide +kernel
theorem d_X_count_73 : decode b_X_count 73 = .ok (.ireturn, 1) := by decide +kernel
theorem d_X_count_74 : decode b_X_count 74 = .ok (.aload_n 0, 1) := by decide +kernel
theorem d_X_count_75 : decode b_X_count 75 = .ok (.invokevirtual 161, 3) := by decide +kernel
theorem d_X_count_78 : decode b_X_count 78 = .ok (.ireturn, 1) := by decide +kernel
theorem d_X_count_79 : decode b_X_count 79 = .ok (.aload_n 0, 1) := by decide +kernel
theorem d_X_count_80 : decode b_X_count 80 = .ok (.getfield 138, 3) := by decide +kernel
theorem d_X_count_83 : decode b_X_count 83 = .ok (.ireturn, 1) := by decide +kernel
end
section
set_option maxHeartbeats 4000000 in
set_option maxRecDepth 100000 in
theorem r_isNumber (l : Launch) (G : gw_G) (M : gw_M) (k : Int32) : Met l y_X_isNumber [.code y_X_isNumber b_X_isNumber 1 (some .boolean)] ({ frames := 0, cells := 0, slots := 0, locals := 0 }) (gw_Pc G M [.int k]) (gr_Qi (fun r => r = 0 ∨ r = 1)) 0 0 (fun _ => False) := by
  refine gw_startR (by decide) (Nat.le_of_ble_eq_true rfl) (fun p9 e9 s m b9 mt9 c9 hx hb hr hml hown hlocks hin hE hB hW ls hl => ?_)
  have hts := hE.ts ([.int k] : List Value).toArray
  have hl : lv_has ls 1 [(0, .int k)] := hl
  have hown : s.vm.findClass "Generations" = some m.cls := hown
  have hS : va_S (gw_A G) s.heap s.heap [] := va_S.rf
  refine lv_iload_n hx hb d_X_isNumber_0 rfl (lv_at hl 0 rfl) ?_
  refine lv_iconst (v := 1) hx hb d_X_isNumber_1 (by decide) ?_
  refine lv_icmp_lt (tgt := 16) hx hb d_X_isNumber_2 (by decide) (fun c2 => ?_) (fun c2 => ?_)
  · refine lv_iconst (v := 0) hx hb d_X_isNumber_16 (by decide) ?_
    exact gr_zret hx hb hr hlocks rfl d_X_isNumber_17 (Or.inl rfl)
  · refine lv_iload_n hx hb d_X_isNumber_5 rfl (lv_at hl 0 rfl) ?_
    refine lv_sipush (v := 9999) hx hb d_X_isNumber_6 (by decide) ?_
    refine lv_icmp_gt (tgt := 16) hx hb d_X_isNumber_9 (by decide) (fun c9 => ?_) (fun c9 => ?_)
    · refine lv_iconst (v := 0) hx hb d_X_isNumber_16 (by decide) ?_
      exact gr_zret hx hb hr hlocks rfl d_X_isNumber_17 (Or.inl rfl)
    · refine lv_iconst (v := 1) hx hb d_X_isNumber_12 (by decide) ?_
      refine lv_goto (tgt := 17) hx hb d_X_isNumber_13 (by decide) ?_
      exact gr_zret hx hb hr hlocks rfl d_X_isNumber_17 (Or.inr rfl)

set_option maxHeartbeats 4000000 in
set_option maxRecDepth 100000 in
theorem r_isDeferred (l : Launch) (G : gw_G) (M : gw_M) (g : Nat) (v1 : Int32) (v2 : Int32) (v3 : Int32) (v4 : Int32) (v5 : Int32) (hf_g : M g = some (9, .inr (2, [.int v1, .int v2, .int v3, .int v4, .int v5]))) : Met l y_Gen_isDeferred [.code y_Gen_isDeferred b_Gen_isDeferred 1 (some .boolean)] ({ frames := 0, cells := 0, slots := 0, locals := 0 }) (gw_Pc G M [.ref g]) (gr_Qi (fun r => True)) 0 0 (fun _ => False) := by
  refine gw_startR (by decide) (Nat.le_of_ble_eq_true rfl) (fun p9 e9 s m b9 mt9 c9 hx hb hr hml hown hlocks hin hE hB hW ls hl => ?_)
  have hts := hE.ts ([.ref g] : List Value).toArray
  have hl : lv_has ls 1 [(0, .ref g)] := hl
  have hown : s.vm.findClass "Generations$Generation" = some m.cls := hown
  have hS : va_S (gw_A G) s.heap s.heap [] := va_S.rf
  refine lv_aload_n hx hb d_Gen_isDeferred_0 rfl (lv_at hl 0 rfl) ?_
  refine gw_get (ci := 2) (fs := [.int v1, .int v2, .int v3, .int v4, .int v5]) hx hb hts in_Gen hown hE.K hW hf_g rfl 1 (by decide) (hts _ mw15) (fun _ h9 => h9) rfl d_Gen_isDeferred_1 ?_
  refine lv_iconst (v := 2) hx hb d_Gen_isDeferred_4 (by decide) ?_
  refine lv_icmp_eq (tgt := 16) hx hb d_Gen_isDeferred_5 (by decide) (fun c5 => ?_) (fun c5 => ?_)
  · refine lv_iconst (v := 1) hx hb d_Gen_isDeferred_16 (by decide) ?_
    refine lv_goto (tgt := 21) hx hb d_Gen_isDeferred_17 (by decide) ?_
    exact gr_zret hx hb hr hlocks rfl d_Gen_isDeferred_21 trivial
  · refine lv_aload_n hx hb d_Gen_isDeferred_8 rfl (lv_at hl 0 rfl) ?_
    refine gw_get (ci := 2) (fs := [.int v1, .int v2, .int v3, .int v4, .int v5]) hx hb hts in_Gen hown hE.K hW hf_g rfl 1 (by decide) (hts _ mw15) (fun _ h9 => h9) rfl d_Gen_isDeferred_9 ?_
    refine lv_iconst (v := 3) hx hb d_Gen_isDeferred_12 (by decide) ?_
    refine lv_icmp_ne (tgt := 20) hx hb d_Gen_isDeferred_13 (by decide) (fun c13 => ?_) (fun c13 => ?_)
    · refine lv_iconst (v := 0) hx hb d_Gen_isDeferred_20 (by decide) ?_
      exact gr_zret hx hb hr hlocks rfl d_Gen_isDeferred_21 trivial
    · refine lv_iconst (v := 1) hx hb d_Gen_isDeferred_16 (by decide) ?_
      refine lv_goto (tgt := 21) hx hb d_Gen_isDeferred_17 (by decide) ?_
      exact gr_zret hx hb hr hlocks rfl d_Gen_isDeferred_21 trivial

set_option maxHeartbeats 4000000 in
set_option maxRecDepth 100000 in
theorem r_isNewOneOf (l : Launch) (G : gw_G) (M : gw_M) (g : Nat) (v1 : Int32) (v2 : Int32) (v3 : Int32) (v4 : Int32) (v5 : Int32) (k : Int32) (hf_g : M g = some (9, .inr (2, [.int v1, .int v2, .int v3, .int v4, .int v5]))) : Met l y_Gen_isNewOneOf [.code y_Gen_isNewOneOf b_Gen_isNewOneOf 2 (some .boolean)] ({ frames := 1, cells := 0, slots := 0, locals := 20 }) (gw_Pc G M [.ref g, .int k]) (gr_Qi (fun r => True)) 0 0 (fun _ => False) := by
  refine gw_startR (by decide) (Nat.le_of_ble_eq_true rfl) (fun p9 e9 s m b9 mt9 c9 hx hb hr hml hown hlocks hin hE hB hW ls hl => ?_)
  have hts := hE.ts ([.ref g, .int k] : List Value).toArray
  have hl : lv_has ls 2 [(0, .ref g), (1, .int k)] := hl
  have hown : s.vm.findClass "Generations$Generation" = some m.cls := hown
  have hS : va_S (gw_A G) s.heap s.heap [] := va_S.rf
  refine lv_aload_n hx hb d_Gen_isNewOneOf_0 rfl (lv_at hl 0 rfl) ?_
  refine gw_get (ci := 2) (fs := [.int v1, .int v2, .int v3, .int v4, .int v5]) hx hb hts in_Gen hown hE.K hW hf_g rfl 3 (by decide) (hts _ mw16) (fun _ h9 => h9) rfl d_Gen_isNewOneOf_1 ?_
  refine lv_iload_n hx hb d_Gen_isNewOneOf_4 rfl (lv_at hl 1 rfl) ?_
  refine lv_icmp_ne (tgt := 27) hx hb d_Gen_isNewOneOf_5 (by decide) (fun c5 => ?_) (fun c5 => ?_)
  · refine lv_iconst (v := 0) hx hb d_Gen_isNewOneOf_27 (by decide) ?_
    exact gr_zret hx hb hr hlocks rfl d_Gen_isNewOneOf_28 trivial
  · refine lv_aload_n hx hb d_Gen_isNewOneOf_8 rfl (lv_at hl 0 rfl) ?_
    refine gw_get (ci := 2) (fs := [.int v1, .int v2, .int v3, .int v4, .int v5]) hx hb hts in_Gen hown hE.K hW hf_g rfl 1 (by decide) (hts _ mw15) (fun _ h9 => h9) rfl d_Gen_isNewOneOf_9 ?_
    refine lv_iconst (v := 1) hx hb d_Gen_isNewOneOf_12 (by decide) ?_
    refine lv_icmp_eq (tgt := 23) hx hb d_Gen_isNewOneOf_13 (by decide) (fun c13 => ?_) (fun c13 => ?_)
    · refine lv_iconst (v := 1) hx hb d_Gen_isNewOneOf_23 (by decide) ?_
      refine lv_goto (tgt := 28) hx hb d_Gen_isNewOneOf_24 (by decide) ?_
      exact gr_zret hx hb hr hlocks rfl d_Gen_isNewOneOf_28 trivial
    · refine lv_aload_n hx hb d_Gen_isNewOneOf_16 rfl (lv_at hl 0 rfl) ?_
      refine gr_calli (va_runV (As := []) (rest := []) ⟨hx, hb, hml, hown, hts⟩ (r_isDeferred l G M g v1 v2 v3 v4 v5 hf_g ) (cwV 0 hts (gw_gv mw18 mw19 mw20 mw21 mw17) rfl rfl rfl (by decide +kernel) ⟨Nat.le_of_ble_eq_true rfl, Nat.le_of_ble_eq_true rfl⟩) (gw_pv hE hB hS hW rfl hf_g) rfl rfl hl.1 rfl (lv_room (Nat.le_of_ble_eq_true rfl)) d_Gen_isNewOneOf_17 ⟨Nat.le_of_ble_eq_true rfl, Nat.le_of_ble_eq_true rfl⟩) (fun r1 hw2 => ?_)
      refine lv_if_eq (tgt := 27) hx hb d_Gen_isNewOneOf_20 (by decide) (fun c20 => ?_) (fun c20 => ?_)
      · refine lv_iconst (v := 0) hx hb d_Gen_isNewOneOf_27 (by decide) ?_
        exact gr_zret hx hb hr hlocks rfl d_Gen_isNewOneOf_28 trivial
      · refine lv_iconst (v := 1) hx hb d_Gen_isNewOneOf_23 (by decide) ?_
        refine lv_goto (tgt := 28) hx hb d_Gen_isNewOneOf_24 (by decide) ?_
        exact gr_zret hx hb hr hlocks rfl d_Gen_isNewOneOf_28 trivial

set_option maxHeartbeats 4000000 in
set_option maxRecDepth 100000 in
theorem r_isInTheWayOf (l : Launch) (G : gw_G) (M : gw_M) (g : Nat) (v1 : Int32) (v2 : Int32) (v3 : Int32) (v4 : Int32) (v5 : Int32) (k : Int32) (hf_g : M g = some (9, .inr (2, [.int v1, .int v2, .int v3, .int v4, .int v5]))) : Met l y_Gen_isInTheWayOf [.code y_Gen_isInTheWayOf b_Gen_isInTheWayOf 2 (some .boolean)] ({ frames := 1, cells := 0, slots := 0, locals := 20 }) (gw_Pc G M [.ref g, .int k]) (gr_Qi (fun r => True)) 0 0 (fun _ => False) := by
  refine gw_startR (by decide) (Nat.le_of_ble_eq_true rfl) (fun p9 e9 s m b9 mt9 c9 hx hb hr hml hown hlocks hin hE hB hW ls hl => ?_)
  have hts := hE.ts ([.ref g, .int k] : List Value).toArray
  have hl : lv_has ls 2 [(0, .ref g), (1, .int k)] := hl
  have hown : s.vm.findClass "Generations$Generation" = some m.cls := hown
  have hS : va_S (gw_A G) s.heap s.heap [] := va_S.rf
  refine lv_aload_n hx hb d_Gen_isInTheWayOf_0 rfl (lv_at hl 0 rfl) ?_
  refine gw_get (ci := 2) (fs := [.int v1, .int v2, .int v3, .int v4, .int v5]) hx hb hts in_Gen hown hE.K hW hf_g rfl 1 (by decide) (hts _ mw15) (fun _ h9 => h9) rfl d_Gen_isInTheWayOf_1 ?_
  refine lv_iconst (v := 1) hx hb d_Gen_isInTheWayOf_4 (by decide) ?_
  refine lv_icmp_eq (tgt := 31) hx hb d_Gen_isInTheWayOf_5 (by decide) (fun c5 => ?_) (fun c5 => ?_)
  · refine lv_iconst (v := 1) hx hb d_Gen_isInTheWayOf_31 (by decide) ?_
    refine lv_goto (tgt := 36) hx hb d_Gen_isInTheWayOf_32 (by decide) ?_
    exact gr_zret hx hb hr hlocks rfl d_Gen_isInTheWayOf_36 trivial
  · refine lv_aload_n hx hb d_Gen_isInTheWayOf_8 rfl (lv_at hl 0 rfl) ?_
    refine gr_calli (va_runV (As := []) (rest := []) ⟨hx, hb, hml, hown, hts⟩ (r_isDeferred l G M g v1 v2 v3 v4 v5 hf_g ) (cwV 0 hts (gw_gv mw18 mw19 mw20 mw21 mw17) rfl rfl rfl (by decide +kernel) ⟨Nat.le_of_ble_eq_true rfl, Nat.le_of_ble_eq_true rfl⟩) (gw_pv hE hB hS hW rfl hf_g) rfl rfl hl.1 rfl (lv_room (Nat.le_of_ble_eq_true rfl)) d_Gen_isInTheWayOf_9 ⟨Nat.le_of_ble_eq_true rfl, Nat.le_of_ble_eq_true rfl⟩) (fun r1 hw2 => ?_)
    refine lv_if_ne (tgt := 31) hx hb d_Gen_isInTheWayOf_12 (by decide) (fun c12 => ?_) (fun c12 => ?_)
    · refine lv_iconst (v := 1) hx hb d_Gen_isInTheWayOf_31 (by decide) ?_
      refine lv_goto (tgt := 36) hx hb d_Gen_isInTheWayOf_32 (by decide) ?_
      exact gr_zret hx hb hr hlocks rfl d_Gen_isInTheWayOf_36 trivial
    · refine lv_aload_n hx hb d_Gen_isInTheWayOf_15 rfl (lv_at hl 0 rfl) ?_
      refine gw_get (ci := 2) (fs := [.int v1, .int v2, .int v3, .int v4, .int v5]) hx hb hts in_Gen hown hE.K hW hf_g rfl 1 (by decide) (hts _ mw15) (fun _ h9 => h9) rfl d_Gen_isInTheWayOf_16 ?_
      refine lv_iconst (v := 4) hx hb d_Gen_isInTheWayOf_19 (by decide) ?_
      refine lv_icmp_ne (tgt := 35) hx hb d_Gen_isInTheWayOf_20 (by decide) (fun c20 => ?_) (fun c20 => ?_)
      · refine lv_iconst (v := 0) hx hb d_Gen_isInTheWayOf_35 (by decide) ?_
        exact gr_zret hx hb hr hlocks rfl d_Gen_isInTheWayOf_36 trivial
      · refine lv_aload_n hx hb d_Gen_isInTheWayOf_23 rfl (lv_at hl 0 rfl) ?_
        refine gw_get (ci := 2) (fs := [.int v1, .int v2, .int v3, .int v4, .int v5]) hx hb hts in_Gen hown hE.K hW hf_g rfl 3 (by decide) (hts _ mw16) (fun _ h9 => h9) rfl d_Gen_isInTheWayOf_24 ?_
        refine lv_iload_n hx hb d_Gen_isInTheWayOf_27 rfl (lv_at hl 1 rfl) ?_
        refine lv_icmp_eq (tgt := 35) hx hb d_Gen_isInTheWayOf_28 (by decide) (fun c28 => ?_) (fun c28 => ?_)
        · refine lv_iconst (v := 0) hx hb d_Gen_isInTheWayOf_35 (by decide) ?_
          exact gr_zret hx hb hr hlocks rfl d_Gen_isInTheWayOf_36 trivial
        · refine lv_iconst (v := 1) hx hb d_Gen_isInTheWayOf_31 (by decide) ?_
          refine lv_goto (tgt := 36) hx hb d_Gen_isInTheWayOf_32 (by decide) ?_
          exact gr_zret hx hb hr hlocks rfl d_Gen_isInTheWayOf_36 trivial

set_option maxHeartbeats 4000000 in
set_option maxRecDepth 100000 in
theorem r_failedFor (l : Launch) (G : gw_G) (M : gw_M) (g : Nat) (v1 : Int32) (v2 : Int32) (v3 : Int32) (v4 : Int32) (v5 : Int32) (k : Int32) (q : Int32) (hf_g : M g = some (9, .inr (2, [.int v1, .int v2, .int v3, .int v4, .int v5]))) : Met l y_Gen_failedFor [.code y_Gen_failedFor b_Gen_failedFor 3 (some .boolean)] ({ frames := 0, cells := 0, slots := 0, locals := 0 }) (gw_Pc G M [.ref g, .int k, .int q]) (gr_Qi (fun r => True)) 0 0 (fun _ => False) := by
  refine gw_startR (by decide) (Nat.le_of_ble_eq_true rfl) (fun p9 e9 s m b9 mt9 c9 hx hb hr hml hown hlocks hin hE hB hW ls hl => ?_)
  have hts := hE.ts ([.ref g, .int k, .int q] : List Value).toArray
  have hl : lv_has ls 3 [(0, .ref g), (1, .int k), (2, .int q)] := hl
  have hown : s.vm.findClass "Generations$Generation" = some m.cls := hown
  have hS : va_S (gw_A G) s.heap s.heap [] := va_S.rf
  refine lv_aload_n hx hb d_Gen_failedFor_0 rfl (lv_at hl 0 rfl) ?_
  refine gw_get (ci := 2) (fs := [.int v1, .int v2, .int v3, .int v4, .int v5]) hx hb hts in_Gen hown hE.K hW hf_g rfl 1 (by decide) (hts _ mw15) (fun _ h9 => h9) rfl d_Gen_failedFor_1 ?_
  refine lv_iconst (v := 3) hx hb d_Gen_failedFor_4 (by decide) ?_
  refine lv_icmp_ne (tgt := 28) hx hb d_Gen_failedFor_5 (by decide) (fun c5 => ?_) (fun c5 => ?_)
  · refine lv_iconst (v := 0) hx hb d_Gen_failedFor_28 (by decide) ?_
    exact gr_zret hx hb hr hlocks rfl d_Gen_failedFor_29 trivial
  · refine lv_aload_n hx hb d_Gen_failedFor_8 rfl (lv_at hl 0 rfl) ?_
    refine gw_get (ci := 2) (fs := [.int v1, .int v2, .int v3, .int v4, .int v5]) hx hb hts in_Gen hown hE.K hW hf_g rfl 3 (by decide) (hts _ mw16) (fun _ h9 => h9) rfl d_Gen_failedFor_9 ?_
    refine lv_iload_n hx hb d_Gen_failedFor_12 rfl (lv_at hl 1 rfl) ?_
    refine lv_icmp_ne (tgt := 28) hx hb d_Gen_failedFor_13 (by decide) (fun c13 => ?_) (fun c13 => ?_)
    · refine lv_iconst (v := 0) hx hb d_Gen_failedFor_28 (by decide) ?_
      exact gr_zret hx hb hr hlocks rfl d_Gen_failedFor_29 trivial
    · refine lv_aload_n hx hb d_Gen_failedFor_16 rfl (lv_at hl 0 rfl) ?_
      refine gw_get (ci := 2) (fs := [.int v1, .int v2, .int v3, .int v4, .int v5]) hx hb hts in_Gen hown hE.K hW hf_g rfl 4 (by decide) (hts _ mw22) (fun _ h9 => h9) rfl d_Gen_failedFor_17 ?_
      refine lv_iload_n hx hb d_Gen_failedFor_20 rfl (lv_at hl 2 rfl) ?_
      refine lv_icmp_lt (tgt := 28) hx hb d_Gen_failedFor_21 (by decide) (fun c21 => ?_) (fun c21 => ?_)
      · refine lv_iconst (v := 0) hx hb d_Gen_failedFor_28 (by decide) ?_
        exact gr_zret hx hb hr hlocks rfl d_Gen_failedFor_29 trivial
      · refine lv_iconst (v := 1) hx hb d_Gen_failedFor_24 (by decide) ?_
        refine lv_goto (tgt := 29) hx hb d_Gen_failedFor_25 (by decide) ?_
        exact gr_zret hx hb hr hlocks rfl d_Gen_failedFor_29 trivial

set_option maxHeartbeats 4000000 in
set_option maxRecDepth 100000 in
theorem r_find (l : Launch) (G : gw_G) (M : gw_M) (A : Nat → Nat) (lim sc E : Int32) (j n : Nat) (hX : gx_W G A lim sc E j n M) (k : Int32) : Met l y_X_find [.code y_X_find b_X_find 4 (some (.object "Generations$Generation"))] ({ frames := 3, cells := 0, slots := 0, locals := 64 }) (gw_Pc G M [.ref (A 0), .int k]) (gr_Qr (fun r => gp_R M 9 r)) 0 0 (fun _ => False) := by
  refine gw_startR (by decide) (Nat.le_of_ble_eq_true rfl) (fun p9 e9 s m b9 mt9 c9 hx hb hr hml hown hlocks hin hE hB hW ls hl => ?_)
  have hts := hE.ts ([.ref (A 0), .int k] : List Value).toArray
  have hl : lv_has ls 4 [(0, .ref (A 0)), (1, .int k)] := hl
  have hown : s.vm.findClass "Generations" = some m.cls := hown
  have hS : va_S (gw_A G) s.heap s.heap [] := va_S.rf
  obtain ⟨gc, rs, f3, f8, hf_x, hf_row, hf_nums, hf_gone, hgc, hrs, hLJ, hLK, hNW, hZZ⟩ := id hX
  have hj9 := hLJ.le
  have hn9 := hLK.le
  refine lv_iconst (v := 0) hx hb d_X_find_0 (by decide) ?_
  refine lv_istore_n (lv' := [(2, .int 0), (0, .ref (A 0)), (1, .int k)]) hx hb d_X_find_1 rfl hl (by decide) rfl (fun ls hl => ?_)
  obtain ⟨k2, ek2⟩ : ∃ z : Nat, z = 0 := ⟨0, rfl⟩
  replace hl : lv_has ls 4 [(2, .int (nI k2)), (0, .ref (A 0)), (1, .int k)] := by subst ek2; exact lv_sub hl [0, 1, 2] rfl
  have hk2 : k2 ≤ n := by omega
  clear ek2
  obtain ⟨n2, hn2⟩ : ∃ z : Nat, n - k2 < z := ⟨_, Nat.lt_succ_self _⟩
  induction n2 generalizing k2 ls with
  | zero => exact absurd hn2 (Nat.not_lt_zero _)
  | succ n2 ih2 =>
    refine lv_iload_n hx hb d_X_find_2 rfl (lv_at hl 0 rfl) ?_
    refine lv_aload_n hx hb d_X_find_3 rfl (lv_at hl 1 rfl) ?_
    refine gw_get (ci := 0) (fs := [.int lim, .int sc, .int E, .ref (A 1), .ref (A 3), .ref (A 4), .ref (A 5), .ref (A 6), .int (nI gc)]) hx hb hts in_X hown hE.K hW hf_x rfl 5 (by decide) (hts _ mw23) (fun _ h9 => h9) rfl d_X_find_4 ?_
    obtain ⟨_, hc1⟩ := hLK.cell
    refine gr_calli (va_runV (As := []) (rest := [.int (nI k2)]) ⟨hx, hb, hml, hown, hts⟩ (s_size l G M (A 4) 5 7 9 n hLK) (cwV 0 hts (gw_gv mw25 mw26 mw27 mw14 mw24) rfl rfl rfl (by decide +kernel) ⟨Nat.le_of_ble_eq_true rfl, Nat.le_of_ble_eq_true rfl⟩) (gw_pv hE hB hS hW rfl hc1) rfl rfl hl.1 rfl (lv_room (Nat.le_of_ble_eq_true rfl)) d_X_find_7 ⟨Nat.le_of_ble_eq_true rfl, Nat.le_of_ble_eq_true rfl⟩) (fun r2 hw3 => ?_)
    subst hw3
    refine lv_icmp_ge (tgt := 41) hx hb d_X_find_10 (by decide) (fun c10 => ?_) (fun c10 => ?_)
    · refine lv_aload_n hx hb d_X_find_41 rfl (lv_at hl 1 rfl) ?_
      refine gw_get (ci := 0) (fs := [.int lim, .int sc, .int E, .ref (A 1), .ref (A 3), .ref (A 4), .ref (A 5), .ref (A 6), .int (nI gc)]) hx hb hts in_X hown hE.K hW hf_x rfl 6 (by decide) (hts _ mw28) (fun _ h9 => h9) rfl d_X_find_42 ?_
      exact gr_aret hx hb hr hlocks (Or.inl ⟨_, rfl⟩) d_X_find_45 hNW
    · have hlt := gx_ltN c10 (by omega) (by omega)
      refine lv_aload_n hx hb d_X_find_13 rfl (lv_at hl 1 rfl) ?_
      refine gw_get (ci := 0) (fs := [.int lim, .int sc, .int E, .ref (A 1), .ref (A 3), .ref (A 4), .ref (A 5), .ref (A 6), .int (nI gc)]) hx hb hts in_X hown hE.K hW hf_x rfl 5 (by decide) (hts _ mw23) (fun _ h9 => h9) rfl d_X_find_14 ?_
      refine lv_iload_n hx hb d_X_find_17 rfl (lv_at hl 0 rfl) ?_
      obtain ⟨_, hc4⟩ := hLK.cell
      refine gr_callr (va_runV (As := [.int (nI k2)]) (rest := []) ⟨hx, hb, hml, hown, hts⟩ (s_get l G M (A 4) 5 7 9 n k2 hLK (by omega)) (cwV 1 hts (gw_gv mw30 mw31 mw32 mw14 mw29) rfl rfl rfl (by decide +kernel) ⟨Nat.le_of_ble_eq_true rfl, Nat.le_of_ble_eq_true rfl⟩) (gw_pv hE hB hS hW rfl hc4) rfl rfl hl.1 rfl (lv_room (Nat.le_of_ble_eq_true rfl)) d_X_find_18 ⟨Nat.le_of_ble_eq_true rfl, Nat.le_of_ble_eq_true rfl⟩) (fun r5 hw6 => ?_)
      obtain ⟨u7v0, u7v1, u7v2, u7v3, u7v4, hf_u7⟩ := hX.g9 hw6
      refine va_castY hx hb hown (hts _ mw33) (hE.nw mw34) (gw_recv hE.K hW rfl hf_u7) d_X_find_21 ?_
      refine lv_astore_n (lv' := [(3, .ref r5), (2, .int (nI k2)), (0, .ref (A 0)), (1, .int k)]) hx hb d_X_find_24 rfl hl (by decide) rfl (fun ls hl => ?_)
      refine lv_aload_n hx hb d_X_find_25 rfl (lv_at hl 0 rfl) ?_
      refine gw_getN (ci := 2) (fs := [.int u7v0, .int u7v1, .int u7v2, .int u7v3, .int u7v4]) hx hb hts in_Gen hown hE.K hW hf_u7 rfl 0 (by decide) (hts _ mw35) (fun _ h9 => h9) rfl d_X_find_26 ?_
      refine lv_iload_n hx hb d_X_find_29 rfl (lv_at hl 3 rfl) ?_
      refine lv_icmp_ne (tgt := 35) hx hb d_X_find_30 (by decide) (fun c30 => ?_) (fun c30 => ?_)
      · refine lv_iinc (v := (nI k2) + 1) (lv' := [(2, .int ((nI k2) + 1)), (3, .ref r5), (0, .ref (A 0)), (1, .int k)]) hx hb d_X_find_35 hl (k := 1) rfl rfl (by decide) rfl (fun ls hl => ?_)
        refine lv_goto (tgt := 2) hx hb d_X_find_38 (by decide) ?_
        rw [nI_1] at hl
        apply ih2 (ls := ls) (k2 := k2 + 1) <;> first | exact lv_sub hl [0, 2, 3] rfl | omega
      · refine lv_aload_n hx hb d_X_find_33 rfl (lv_at hl 0 rfl) ?_
        exact gr_aret hx hb hr hlocks (Or.inl ⟨_, rfl⟩) d_X_find_34 hw6

set_option maxHeartbeats 4000000 in
set_option maxRecDepth 100000 in
theorem r_howMany (l : Launch) (G : gw_G) (M : gw_M) (A : Nat → Nat) (lim sc E : Int32) (j n : Nat) (hX : gx_W G A lim sc E j n M) (k : Int32) : Met l y_X_howManyAre [.code y_X_howManyAre b_X_howManyAre 4 (some .int)] ({ frames := 3, cells := 0, slots := 0, locals := 64 }) (gw_Pc G M [.ref (A 0), .int k]) (gr_Qi (fun r => True)) 0 0 (fun _ => False) := by
  refine gw_startR (by decide) (Nat.le_of_ble_eq_true rfl) (fun p9 e9 s m b9 mt9 c9 hx hb hr hml hown hlocks hin hE hB hW ls hl => ?_)
  have hts := hE.ts ([.ref (A 0), .int k] : List Value).toArray
  have hl : lv_has ls 4 [(0, .ref (A 0)), (1, .int k)] := hl
  have hown : s.vm.findClass "Generations" = some m.cls := hown
  have hS : va_S (gw_A G) s.heap s.heap [] := va_S.rf
  obtain ⟨gc, rs, f3, f8, hf_x, hf_row, hf_nums, hf_gone, hgc, hrs, hLJ, hLK, hNW, hZZ⟩ := id hX
  have hj9 := hLJ.le
  have hn9 := hLK.le
  refine lv_iconst (v := 0) hx hb d_X_howManyAre_0 (by decide) ?_
  refine lv_istore_n (lv' := [(2, .int 0), (0, .ref (A 0)), (1, .int k)]) hx hb d_X_howManyAre_1 rfl hl (by decide) rfl (fun ls hl => ?_)
  refine lv_iconst (v := 0) hx hb d_X_howManyAre_2 (by decide) ?_
  refine lv_istore_n (lv' := [(3, .int 0), (2, .int 0), (0, .ref (A 0)), (1, .int k)]) hx hb d_X_howManyAre_3 rfl hl (by decide) rfl (fun ls hl => ?_)
  obtain ⟨k4, ek4⟩ : ∃ z : Nat, z = 0 := ⟨0, rfl⟩
  obtain ⟨c4_2, ec4_2⟩ : ∃ z : Int32, z = 0 := ⟨_, rfl⟩
  replace hl : lv_has ls 4 [(3, .int (nI k4)), (2, .int c4_2), (0, .ref (A 0)), (1, .int k)] := by subst ek4; subst ec4_2; exact lv_sub hl [0, 1, 2, 3] rfl
  have hk4 : k4 ≤ n := by omega
  clear ek4 ec4_2
  obtain ⟨n4, hn4⟩ : ∃ z : Nat, n - k4 < z := ⟨_, Nat.lt_succ_self _⟩
  induction n4 generalizing k4 ls c4_2 with
  | zero => exact absurd hn4 (Nat.not_lt_zero _)
  | succ n4 ih4 =>
    refine lv_iload_n hx hb d_X_howManyAre_4 rfl (lv_at hl 0 rfl) ?_
    refine lv_aload_n hx hb d_X_howManyAre_5 rfl (lv_at hl 2 rfl) ?_
    refine gw_get (ci := 0) (fs := [.int lim, .int sc, .int E, .ref (A 1), .ref (A 3), .ref (A 4), .ref (A 5), .ref (A 6), .int (nI gc)]) hx hb hts in_X hown hE.K hW hf_x rfl 5 (by decide) (hts _ mw23) (fun _ h9 => h9) rfl d_X_howManyAre_6 ?_
    obtain ⟨_, hc1⟩ := hLK.cell
    refine gr_calli (va_runV (As := []) (rest := [.int (nI k4)]) ⟨hx, hb, hml, hown, hts⟩ (s_size l G M (A 4) 5 7 9 n hLK) (cwV 0 hts (gw_gv mw25 mw26 mw27 mw14 mw24) rfl rfl rfl (by decide +kernel) ⟨Nat.le_of_ble_eq_true rfl, Nat.le_of_ble_eq_true rfl⟩) (gw_pv hE hB hS hW rfl hc1) rfl rfl hl.1 rfl (lv_room (Nat.le_of_ble_eq_true rfl)) d_X_howManyAre_9 ⟨Nat.le_of_ble_eq_true rfl, Nat.le_of_ble_eq_true rfl⟩) (fun r2 hw3 => ?_)
    subst hw3
    refine lv_icmp_ge (tgt := 42) hx hb d_X_howManyAre_12 (by decide) (fun c12 => ?_) (fun c12 => ?_)
    · refine lv_iload_n hx hb d_X_howManyAre_42 rfl (lv_at hl 1 rfl) ?_
      exact gr_iret hx hb hr hlocks d_X_howManyAre_43 trivial
    · have hlt := gx_ltN c12 (by omega) (by omega)
      refine lv_aload_n hx hb d_X_howManyAre_15 rfl (lv_at hl 2 rfl) ?_
      refine gw_get (ci := 0) (fs := [.int lim, .int sc, .int E, .ref (A 1), .ref (A 3), .ref (A 4), .ref (A 5), .ref (A 6), .int (nI gc)]) hx hb hts in_X hown hE.K hW hf_x rfl 5 (by decide) (hts _ mw23) (fun _ h9 => h9) rfl d_X_howManyAre_16 ?_
      refine lv_iload_n hx hb d_X_howManyAre_19 rfl (lv_at hl 0 rfl) ?_
      obtain ⟨_, hc4⟩ := hLK.cell
      refine gr_callr (va_runV (As := [.int (nI k4)]) (rest := []) ⟨hx, hb, hml, hown, hts⟩ (s_get l G M (A 4) 5 7 9 n k4 hLK (by omega)) (cwV 1 hts (gw_gv mw30 mw31 mw32 mw14 mw29) rfl rfl rfl (by decide +kernel) ⟨Nat.le_of_ble_eq_true rfl, Nat.le_of_ble_eq_true rfl⟩) (gw_pv hE hB hS hW rfl hc4) rfl rfl hl.1 rfl (lv_room (Nat.le_of_ble_eq_true rfl)) d_X_howManyAre_20 ⟨Nat.le_of_ble_eq_true rfl, Nat.le_of_ble_eq_true rfl⟩) (fun r5 hw6 => ?_)
      obtain ⟨u7v0, u7v1, u7v2, u7v3, u7v4, hf_u7⟩ := hX.g9 hw6
      refine va_castY hx hb hown (hts _ mw33) (hE.nw mw34) (gw_recv hE.K hW rfl hf_u7) d_X_howManyAre_23 ?_
      refine gw_getN (ci := 2) (fs := [.int u7v0, .int u7v1, .int u7v2, .int u7v3, .int u7v4]) hx hb hts in_Gen hown hE.K hW hf_u7 rfl 1 (by decide) (hts _ mw36) (fun _ h9 => h9) rfl d_X_howManyAre_26 ?_
      refine lv_iload_n hx hb d_X_howManyAre_29 rfl (lv_at hl 3 rfl) ?_
      refine lv_icmp_ne (tgt := 36) hx hb d_X_howManyAre_30 (by decide) (fun c30 => ?_) (fun c30 => ?_)
      · refine lv_iinc (v := (nI k4) + 1) (lv' := [(3, .int ((nI k4) + 1)), (2, .int c4_2), (0, .ref (A 0)), (1, .int k)]) hx hb d_X_howManyAre_36 hl (k := 0) rfl rfl (by decide) rfl (fun ls hl => ?_)
        refine lv_goto (tgt := 4) hx hb d_X_howManyAre_39 (by decide) ?_
        rw [nI_1] at hl
        apply ih4 (ls := ls) (k4 := k4 + 1) (c4_2 := c4_2) <;> first | exact lv_sub hl [0, 1, 2, 3] rfl | omega
      · refine lv_iinc (v := c4_2 + 1) (lv' := [(2, .int (c4_2 + 1)), (3, .int (nI k4)), (0, .ref (A 0)), (1, .int k)]) hx hb d_X_howManyAre_33 hl (k := 1) rfl rfl (by decide) rfl (fun ls hl => ?_)
        refine lv_iinc (v := (nI k4) + 1) (lv' := [(3, .int ((nI k4) + 1)), (2, .int (c4_2 + 1)), (0, .ref (A 0)), (1, .int k)]) hx hb d_X_howManyAre_36 hl (k := 1) rfl rfl (by decide) rfl (fun ls hl => ?_)
        refine lv_goto (tgt := 4) hx hb d_X_howManyAre_39 (by decide) ?_
        rw [nI_1] at hl
        apply ih4 (ls := ls) (k4 := k4 + 1) (c4_2 := c4_2 + 1) <;> first | exact lv_sub hl [0, 1, 2, 3] rfl | omega

set_option maxHeartbeats 4000000 in
set_option maxRecDepth 100000 in
theorem r_jobThatMakes (l : Launch) (G : gw_G) (M : gw_M) (A : Nat → Nat) (lim sc E : Int32) (j n : Nat) (hX : gx_W G A lim sc E j n M) : Met l y_X_jobThatMakes [.code y_X_jobThatMakes b_X_jobThatMakes 3 (some .int)] ({ frames := 3, cells := 0, slots := 0, locals := 64 }) (gw_Pc G M [.ref (A 0)]) (gr_Qi (fun r => True)) 0 0 (fun _ => False) := by
  refine gw_startR (by decide) (Nat.le_of_ble_eq_true rfl) (fun p9 e9 s m b9 mt9 c9 hx hb hr hml hown hlocks hin hE hB hW ls hl => ?_)
  have hts := hE.ts ([.ref (A 0)] : List Value).toArray
  have hl : lv_has ls 3 [(0, .ref (A 0))] := hl
  have hown : s.vm.findClass "Generations" = some m.cls := hown
  have hS : va_S (gw_A G) s.heap s.heap [] := va_S.rf
  obtain ⟨gc, rs, f3, f8, hf_x, hf_row, hf_nums, hf_gone, hgc, hrs, hLJ, hLK, hNW, hZZ⟩ := id hX
  have hj9 := hLJ.le
  have hn9 := hLK.le
  refine lv_iconst (v := 0) hx hb d_X_jobThatMakes_0 (by decide) ?_
  refine lv_istore_n (lv' := [(1, .int 0), (0, .ref (A 0))]) hx hb d_X_jobThatMakes_1 rfl hl (by decide) rfl (fun ls hl => ?_)
  obtain ⟨k2, ek2⟩ : ∃ z : Nat, z = 0 := ⟨0, rfl⟩
  replace hl : lv_has ls 3 [(1, .int (nI k2)), (0, .ref (A 0))] := by subst ek2; exact lv_sub hl [0, 1] rfl
  have hk2 : k2 ≤ n := by omega
  clear ek2
  obtain ⟨n2, hn2⟩ : ∃ z : Nat, n - k2 < z := ⟨_, Nat.lt_succ_self _⟩
  induction n2 generalizing k2 ls with
  | zero => exact absurd hn2 (Nat.not_lt_zero _)
  | succ n2 ih2 =>
    refine lv_iload_n hx hb d_X_jobThatMakes_2 rfl (lv_at hl 0 rfl) ?_
    refine lv_aload_n hx hb d_X_jobThatMakes_3 rfl (lv_at hl 1 rfl) ?_
    refine gw_get (ci := 0) (fs := [.int lim, .int sc, .int E, .ref (A 1), .ref (A 3), .ref (A 4), .ref (A 5), .ref (A 6), .int (nI gc)]) hx hb hts in_X hown hE.K hW hf_x rfl 5 (by decide) (hts _ mw23) (fun _ h9 => h9) rfl d_X_jobThatMakes_4 ?_
    obtain ⟨_, hc1⟩ := hLK.cell
    refine gr_calli (va_runV (As := []) (rest := [.int (nI k2)]) ⟨hx, hb, hml, hown, hts⟩ (s_size l G M (A 4) 5 7 9 n hLK) (cwV 0 hts (gw_gv mw25 mw26 mw27 mw14 mw24) rfl rfl rfl (by decide +kernel) ⟨Nat.le_of_ble_eq_true rfl, Nat.le_of_ble_eq_true rfl⟩) (gw_pv hE hB hS hW rfl hc1) rfl rfl hl.1 rfl (lv_room (Nat.le_of_ble_eq_true rfl)) d_X_jobThatMakes_7 ⟨Nat.le_of_ble_eq_true rfl, Nat.le_of_ble_eq_true rfl⟩) (fun r2 hw3 => ?_)
    subst hw3
    refine lv_icmp_ge (tgt := 44) hx hb d_X_jobThatMakes_10 (by decide) (fun c10 => ?_) (fun c10 => ?_)
    · refine lv_iconst (v := 0) hx hb d_X_jobThatMakes_44 (by decide) ?_
      exact gr_iret hx hb hr hlocks d_X_jobThatMakes_45 trivial
    · have hlt := gx_ltN c10 (by omega) (by omega)
      refine lv_aload_n hx hb d_X_jobThatMakes_13 rfl (lv_at hl 1 rfl) ?_
      refine gw_get (ci := 0) (fs := [.int lim, .int sc, .int E, .ref (A 1), .ref (A 3), .ref (A 4), .ref (A 5), .ref (A 6), .int (nI gc)]) hx hb hts in_X hown hE.K hW hf_x rfl 5 (by decide) (hts _ mw23) (fun _ h9 => h9) rfl d_X_jobThatMakes_14 ?_
      refine lv_iload_n hx hb d_X_jobThatMakes_17 rfl (lv_at hl 0 rfl) ?_
      obtain ⟨_, hc4⟩ := hLK.cell
      refine gr_callr (va_runV (As := [.int (nI k2)]) (rest := []) ⟨hx, hb, hml, hown, hts⟩ (s_get l G M (A 4) 5 7 9 n k2 hLK (by omega)) (cwV 1 hts (gw_gv mw30 mw31 mw32 mw14 mw29) rfl rfl rfl (by decide +kernel) ⟨Nat.le_of_ble_eq_true rfl, Nat.le_of_ble_eq_true rfl⟩) (gw_pv hE hB hS hW rfl hc4) rfl rfl hl.1 rfl (lv_room (Nat.le_of_ble_eq_true rfl)) d_X_jobThatMakes_18 ⟨Nat.le_of_ble_eq_true rfl, Nat.le_of_ble_eq_true rfl⟩) (fun r5 hw6 => ?_)
      obtain ⟨u7v0, u7v1, u7v2, u7v3, u7v4, hf_u7⟩ := hX.g9 hw6
      refine va_castY hx hb hown (hts _ mw33) (hE.nw mw34) (gw_recv hE.K hW rfl hf_u7) d_X_jobThatMakes_21 ?_
      refine lv_astore_n (lv' := [(2, .ref r5), (1, .int (nI k2)), (0, .ref (A 0))]) hx hb d_X_jobThatMakes_24 rfl hl (by decide) rfl (fun ls hl => ?_)
      refine lv_aload_n hx hb d_X_jobThatMakes_25 rfl (lv_at hl 0 rfl) ?_
      refine gw_getN (ci := 2) (fs := [.int u7v0, .int u7v1, .int u7v2, .int u7v3, .int u7v4]) hx hb hts in_Gen hown hE.K hW hf_u7 rfl 1 (by decide) (hts _ mw36) (fun _ h9 => h9) rfl d_X_jobThatMakes_26 ?_
      refine lv_iconst (v := 2) hx hb d_X_jobThatMakes_29 (by decide) ?_
      refine lv_icmp_ne (tgt := 38) hx hb d_X_jobThatMakes_30 (by decide) (fun c30 => ?_) (fun c30 => ?_)
      · refine lv_iinc (v := (nI k2) + 1) (lv' := [(1, .int ((nI k2) + 1)), (2, .ref r5), (0, .ref (A 0))]) hx hb d_X_jobThatMakes_38 hl (k := 1) rfl rfl (by decide) rfl (fun ls hl => ?_)
        refine lv_goto (tgt := 2) hx hb d_X_jobThatMakes_41 (by decide) ?_
        rw [nI_1] at hl
        apply ih2 (ls := ls) (k2 := k2 + 1) <;> first | exact lv_sub hl [0, 2] rfl | omega
      · refine lv_aload_n hx hb d_X_jobThatMakes_33 rfl (lv_at hl 0 rfl) ?_
        refine gw_getN (ci := 2) (fs := [.int u7v0, .int u7v1, .int u7v2, .int u7v3, .int u7v4]) hx hb hts in_Gen hown hE.K hW hf_u7 rfl 3 (by decide) (hts _ mw37) (fun _ h9 => h9) rfl d_X_jobThatMakes_34 ?_
        exact gr_iret hx hb hr hlocks d_X_jobThatMakes_37 trivial

set_option maxHeartbeats 4000000 in
set_option maxRecDepth 100000 in
theorem r_anotherMakes (l : Launch) (G : gw_G) (M : gw_M) (A : Nat → Nat) (lim sc E : Int32) (j n : Nat) (hX : gx_W G A lim sc E j n M) (k : Int32) : Met l y_X_anotherMakes [.code y_X_anotherMakes b_X_anotherMakes 3 (some .boolean)] ({ frames := 4, cells := 0, slots := 0, locals := 86 }) (gw_Pc G M [.ref (A 0), .int k]) (gr_Qi (fun r => True)) 0 0 (fun _ => False) := by
  refine gw_startR (by decide) (Nat.le_of_ble_eq_true rfl) (fun p9 e9 s m b9 mt9 c9 hx hb hr hml hown hlocks hin hE hB hW ls hl => ?_)
  have hts := hE.ts ([.ref (A 0), .int k] : List Value).toArray
  have hl : lv_has ls 3 [(0, .ref (A 0)), (1, .int k)] := hl
  have hown : s.vm.findClass "Generations" = some m.cls := hown
  have hS : va_S (gw_A G) s.heap s.heap [] := va_S.rf
  obtain ⟨gc, rs, f3, f8, hf_x, hf_row, hf_nums, hf_gone, hgc, hrs, hLJ, hLK, hNW, hZZ⟩ := id hX
  have hj9 := hLJ.le
  have hn9 := hLK.le
  refine lv_aload_n hx hb d_X_anotherMakes_0 rfl (lv_at hl 0 rfl) ?_
  refine gr_calli (va_runV (As := []) (rest := []) ⟨hx, hb, hml, hown, hts⟩ (r_jobThatMakes l G M A lim sc E j n hX   ) (cwV 0 hts (gw_gv mw39 mw40 mw41 mw42 mw38) rfl rfl rfl (by decide +kernel) ⟨Nat.le_of_ble_eq_true rfl, Nat.le_of_ble_eq_true rfl⟩) (gw_pv hE hB hS hW rfl hf_x) rfl rfl hl.1 rfl (lv_room (Nat.le_of_ble_eq_true rfl)) d_X_anotherMakes_1 ⟨Nat.le_of_ble_eq_true rfl, Nat.le_of_ble_eq_true rfl⟩) (fun r1 hw2 => ?_)
  refine lv_istore_n (lv' := [(2, .int r1), (0, .ref (A 0)), (1, .int k)]) hx hb d_X_anotherMakes_4 rfl hl (by decide) rfl (fun ls hl => ?_)
  refine lv_iload_n hx hb d_X_anotherMakes_5 rfl (lv_at hl 0 rfl) ?_
  refine lv_if_eq (tgt := 18) hx hb d_X_anotherMakes_6 (by decide) (fun c6 => ?_) (fun c6 => ?_)
  · refine lv_iconst (v := 0) hx hb d_X_anotherMakes_18 (by decide) ?_
    exact gr_zret hx hb hr hlocks rfl d_X_anotherMakes_19 trivial
  · refine lv_iload_n hx hb d_X_anotherMakes_9 rfl (lv_at hl 0 rfl) ?_
    refine lv_iload_n hx hb d_X_anotherMakes_10 rfl (lv_at hl 2 rfl) ?_
    refine lv_icmp_eq (tgt := 18) hx hb d_X_anotherMakes_11 (by decide) (fun c11 => ?_) (fun c11 => ?_)
    · refine lv_iconst (v := 0) hx hb d_X_anotherMakes_18 (by decide) ?_
      exact gr_zret hx hb hr hlocks rfl d_X_anotherMakes_19 trivial
    · refine lv_iconst (v := 1) hx hb d_X_anotherMakes_14 (by decide) ?_
      refine lv_goto (tgt := 19) hx hb d_X_anotherMakes_15 (by decide) ?_
      exact gr_zret hx hb hr hlocks rfl d_X_anotherMakes_19 trivial

set_option maxHeartbeats 4000000 in
set_option maxRecDepth 100000 in
theorem r_at (l : Launch) (G : gw_G) (M : gw_M) (A : Nat → Nat) (lim sc E : Int32) (j n : Nat) (hX : gx_W G A lim sc E j n M) (k : Int32) : Met l y_Row_at [.code y_Row_at b_Row_at 2 (some .int)] ({ frames := 0, cells := 0, slots := 0, locals := 0 }) (gw_Pc G M [.ref (A 1), .int k]) (gr_Qi (fun r => True)) 0 0 (fun _ => False) := by
  refine gw_startR (by decide) (Nat.le_of_ble_eq_true rfl) (fun p9 e9 s m b9 mt9 c9 hx hb hr hml hown hlocks hin hE hB hW ls hl => ?_)
  have hts := hE.ts ([.ref (A 1), .int k] : List Value).toArray
  have hl : lv_has ls 2 [(0, .ref (A 1)), (1, .int k)] := hl
  have hown : s.vm.findClass "Generations$Row" = some m.cls := hown
  have hS : va_S (gw_A G) s.heap s.heap [] := va_S.rf
  obtain ⟨gc, rs, f3, f8, hf_x, hf_row, hf_nums, hf_gone, hgc, hrs, hLJ, hLK, hNW, hZZ⟩ := id hX
  have hj9 := hLJ.le
  have hn9 := hLK.le
  refine lv_iload_n hx hb d_Row_at_0 rfl (lv_at hl 1 rfl) ?_
  refine lv_if_lt (tgt := 21) hx hb d_Row_at_1 (by decide) (fun c1 => ?_) (fun c1 => ?_)
  · refine lv_iconst (v := -1) hx hb d_Row_at_21 (by decide) ?_
    exact gr_iret hx hb hr hlocks d_Row_at_22 trivial
  · refine lv_iload_n hx hb d_Row_at_4 rfl (lv_at hl 1 rfl) ?_
    refine lv_aload_n hx hb d_Row_at_5 rfl (lv_at hl 0 rfl) ?_
    refine gw_get (ci := 1) (fs := [.ref (A 2), .int (nI rs)]) hx hb hts in_Row hown hE.K hW hf_row rfl 1 (by decide) (hts _ mw43) (fun _ h9 => h9) rfl d_Row_at_6 ?_
    refine lv_icmp_ge (tgt := 21) hx hb d_Row_at_9 (by decide) (fun c9 => ?_) (fun c9 => ?_)
    · refine lv_iconst (v := -1) hx hb d_Row_at_21 (by decide) ?_
      exact gr_iret hx hb hr hlocks d_Row_at_22 trivial
    · refine lv_aload_n hx hb d_Row_at_12 rfl (lv_at hl 0 rfl) ?_
      refine gw_get (ci := 1) (fs := [.ref (A 2), .int (nI rs)]) hx hb hts in_Row hown hE.K hW hf_row rfl 0 (by decide) (hts _ mw44) (fun _ h9 => h9) rfl d_Row_at_13 ?_
      refine lv_iload_n hx hb d_Row_at_16 rfl (lv_at hl 1 rfl) ?_
      refine gw_iald (i := k) hx hb hE.K hW 0 hf_nums rfl (gx_inN c1 c9 (by omega) (by omega)) d_Row_at_17 ?_
      refine lv_goto (tgt := 22) hx hb d_Row_at_18 (by decide) ?_
      exact gr_iret hx hb hr hlocks d_Row_at_22 trivial

set_option maxHeartbeats 4000000 in
set_option maxRecDepth 100000 in
theorem r_list (l : Launch) (G : gw_G) (M : gw_M) (A : Nat → Nat) (lim sc E : Int32) (j n : Nat) (hX : gx_W G A lim sc E j n M) (k : Int32) : Met l y_X_list [.code y_X_list b_X_list 2 (some .int)] ({ frames := 1, cells := 0, slots := 0, locals := 21 }) (gw_Pc G M [.ref (A 0), .int k]) (gr_Qi (fun r => True)) 0 0 (fun _ => False) := by
  refine gw_startR (by decide) (Nat.le_of_ble_eq_true rfl) (fun p9 e9 s m b9 mt9 c9 hx hb hr hml hown hlocks hin hE hB hW ls hl => ?_)
  have hts := hE.ts ([.ref (A 0), .int k] : List Value).toArray
  have hl : lv_has ls 2 [(0, .ref (A 0)), (1, .int k)] := hl
  have hown : s.vm.findClass "Generations" = some m.cls := hown
  have hS : va_S (gw_A G) s.heap s.heap [] := va_S.rf
  obtain ⟨gc, rs, f3, f8, hf_x, hf_row, hf_nums, hf_gone, hgc, hrs, hLJ, hLK, hNW, hZZ⟩ := id hX
  have hj9 := hLJ.le
  have hn9 := hLK.le
  refine lv_aload_n hx hb d_X_list_0 rfl (lv_at hl 0 rfl) ?_
  refine gw_get (ci := 0) (fs := [.int lim, .int sc, .int E, .ref (A 1), .ref (A 3), .ref (A 4), .ref (A 5), .ref (A 6), .int (nI gc)]) hx hb hts in_X hown hE.K hW hf_x rfl 3 (by decide) (hts _ mw45) (fun _ h9 => h9) rfl d_X_list_1 ?_
  refine lv_iload_n hx hb d_X_list_4 rfl (lv_at hl 1 rfl) ?_
  refine gr_calli (va_runVN (As := [.int k]) (rest := []) ⟨hx, hb, hml, hown, hts⟩ (r_at l G M A lim sc E j n hX k  ) ⟨va_cnB 1 hts (gw_g1 mw46) rfl rfl rfl (hE.nw mw47) (hts _ mw48) (by decide +kernel) ⟨Nat.le_of_ble_eq_true rfl, Nat.le_of_ble_eq_true rfl⟩, hts _ mw49, hts _ mw50⟩ (gw_pv hE hB hS hW rfl hf_row) rfl rfl hl.1 rfl (lv_room (Nat.le_of_ble_eq_true rfl)) d_X_list_5 ⟨Nat.le_of_ble_eq_true rfl, Nat.le_of_ble_eq_true rfl⟩) (fun r1 hw2 => ?_)
  exact gr_iret hx hb hr hlocks d_X_list_8 trivial

set_option maxHeartbeats 4000000 in
set_option maxRecDepth 100000 in
theorem r_dropped (l : Launch) (G : gw_G) (M : gw_M) (A : Nat → Nat) (lim sc E : Int32) (j n : Nat) (hX : gx_W G A lim sc E j n M) (k : Int32) : Met l y_X_dropped [.code y_X_dropped b_X_dropped 2 (some .int)] ({ frames := 0, cells := 0, slots := 0, locals := 0 }) (gw_Pc G M [.ref (A 0), .int k]) (gr_Qi (fun r => True)) 0 0 (fun _ => False) := by
  refine gw_startR (by decide) (Nat.le_of_ble_eq_true rfl) (fun p9 e9 s m b9 mt9 c9 hx hb hr hml hown hlocks hin hE hB hW ls hl => ?_)
  have hts := hE.ts ([.ref (A 0), .int k] : List Value).toArray
  have hl : lv_has ls 2 [(0, .ref (A 0)), (1, .int k)] := hl
  have hown : s.vm.findClass "Generations" = some m.cls := hown
  have hS : va_S (gw_A G) s.heap s.heap [] := va_S.rf
  obtain ⟨gc, rs, f3, f8, hf_x, hf_row, hf_nums, hf_gone, hgc, hrs, hLJ, hLK, hNW, hZZ⟩ := id hX
  have hj9 := hLJ.le
  have hn9 := hLK.le
  refine lv_iload_n hx hb d_X_dropped_0 rfl (lv_at hl 1 rfl) ?_
  refine lv_if_lt (tgt := 21) hx hb d_X_dropped_1 (by decide) (fun c1 => ?_) (fun c1 => ?_)
  · refine lv_iconst (v := -1) hx hb d_X_dropped_21 (by decide) ?_
    exact gr_iret hx hb hr hlocks d_X_dropped_22 trivial
  · refine lv_iload_n hx hb d_X_dropped_4 rfl (lv_at hl 1 rfl) ?_
    refine lv_aload_n hx hb d_X_dropped_5 rfl (lv_at hl 0 rfl) ?_
    refine gw_get (ci := 0) (fs := [.int lim, .int sc, .int E, .ref (A 1), .ref (A 3), .ref (A 4), .ref (A 5), .ref (A 6), .int (nI gc)]) hx hb hts in_X hown hE.K hW hf_x rfl 8 (by decide) (hts _ mw51) (fun _ h9 => h9) rfl d_X_dropped_6 ?_
    refine lv_icmp_ge (tgt := 21) hx hb d_X_dropped_9 (by decide) (fun c9 => ?_) (fun c9 => ?_)
    · refine lv_iconst (v := -1) hx hb d_X_dropped_21 (by decide) ?_
      exact gr_iret hx hb hr hlocks d_X_dropped_22 trivial
    · refine lv_aload_n hx hb d_X_dropped_12 rfl (lv_at hl 0 rfl) ?_
      refine gw_get (ci := 0) (fs := [.int lim, .int sc, .int E, .ref (A 1), .ref (A 3), .ref (A 4), .ref (A 5), .ref (A 6), .int (nI gc)]) hx hb hts in_X hown hE.K hW hf_x rfl 7 (by decide) (hts _ mw52) (fun _ h9 => h9) rfl d_X_dropped_13 ?_
      refine lv_iload_n hx hb d_X_dropped_16 rfl (lv_at hl 1 rfl) ?_
      refine gw_iald (i := k) hx hb hE.K hW 0 hf_gone rfl (gx_inN c1 c9 (by omega) (by omega)) d_X_dropped_17 ?_
      refine lv_goto (tgt := 22) hx hb d_X_dropped_18 (by decide) ?_
      exact gr_iret hx hb hr hlocks d_X_dropped_22 trivial

set_option maxHeartbeats 4000000 in
set_option maxRecDepth 100000 in
theorem r_version (l : Launch) (G : gw_G) (M : gw_M) (A : Nat → Nat) (lim sc E : Int32) (j n : Nat) (hX : gx_W G A lim sc E j n M) (k : Int32) : Met l y_X_version [.code y_X_version b_X_version 3 (some .int)] ({ frames := 4, cells := 0, slots := 0, locals := 87 }) (gw_Pc G M [.ref (A 0), .int k]) (gr_Qi (fun r => True)) 0 0 (fun _ => False) := by
  refine gw_startR (by decide) (Nat.le_of_ble_eq_true rfl) (fun p9 e9 s m b9 mt9 c9 hx hb hr hml hown hlocks hin hE hB hW ls hl => ?_)
  have hts := hE.ts ([.ref (A 0), .int k] : List Value).toArray
  have hl : lv_has ls 3 [(0, .ref (A 0)), (1, .int k)] := hl
  have hown : s.vm.findClass "Generations" = some m.cls := hown
  have hS : va_S (gw_A G) s.heap s.heap [] := va_S.rf
  obtain ⟨gc, rs, f3, f8, hf_x, hf_row, hf_nums, hf_gone, hgc, hrs, hLJ, hLK, hNW, hZZ⟩ := id hX
  have hj9 := hLJ.le
  have hn9 := hLK.le
  refine lv_aload_n hx hb d_X_version_0 rfl (lv_at hl 0 rfl) ?_
  refine lv_iload_n hx hb d_X_version_1 rfl (lv_at hl 1 rfl) ?_
  refine gr_callr (va_runV (As := [.int k]) (rest := []) ⟨hx, hb, hml, hown, hts⟩ (r_find l G M A lim sc E j n hX k  ) (cwV 1 hts (gw_gv mw54 mw55 mw56 mw42 mw53) rfl rfl rfl (by decide +kernel) ⟨Nat.le_of_ble_eq_true rfl, Nat.le_of_ble_eq_true rfl⟩) (gw_pv hE hB hS hW rfl hf_x) rfl rfl hl.1 rfl (lv_room (Nat.le_of_ble_eq_true rfl)) d_X_version_2 ⟨Nat.le_of_ble_eq_true rfl, Nat.le_of_ble_eq_true rfl⟩) (fun r1 hw2 => ?_)
  refine lv_astore_n (lv' := [(2, .ref r1), (0, .ref (A 0)), (1, .int k)]) hx hb d_X_version_5 rfl hl (by decide) rfl (fun ls hl => ?_)
  refine lv_aload_n hx hb d_X_version_6 rfl (lv_at hl 0 rfl) ?_
  obtain ⟨u3v0, u3v1, u3v2, u3v3, u3v4, hf_u3⟩ := hX.g9 hw2
  refine gw_getN (ci := 2) (fs := [.int u3v0, .int u3v1, .int u3v2, .int u3v3, .int u3v4]) hx hb hts in_Gen hown hE.K hW hf_u3 rfl 1 (by decide) (hts _ mw36) (fun _ h9 => h9) rfl d_X_version_7 ?_
  refine lv_if_ne (tgt := 17) hx hb d_X_version_10 (by decide) (fun c10 => ?_) (fun c10 => ?_)
  · refine lv_aload_n hx hb d_X_version_17 rfl (lv_at hl 0 rfl) ?_
    refine gw_getN (ci := 2) (fs := [.int u3v0, .int u3v1, .int u3v2, .int u3v3, .int u3v4]) hx hb hts in_Gen hown hE.K hW hf_u3 rfl 2 (by decide) (hts _ mw57) (fun _ h9 => h9) rfl d_X_version_18 ?_
    exact gr_iret hx hb hr hlocks d_X_version_21 trivial
  · refine lv_iconst (v := -1) hx hb d_X_version_13 (by decide) ?_
    refine lv_goto (tgt := 21) hx hb d_X_version_14 (by decide) ?_
    exact gr_iret hx hb hr hlocks d_X_version_21 trivial

set_option maxHeartbeats 4000000 in
set_option maxRecDepth 100000 in
theorem r_state (l : Launch) (G : gw_G) (M : gw_M) (A : Nat → Nat) (lim sc E : Int32) (j n : Nat) (hX : gx_W G A lim sc E j n M) (k : Int32) : Met l y_X_state [.code y_X_state b_X_state 2 (some .int)] ({ frames := 4, cells := 0, slots := 0, locals := 87 }) (gw_Pc G M [.ref (A 0), .int k]) (gr_Qi (fun r => True)) 0 0 (fun _ => False) := by
  refine gw_startR (by decide) (Nat.le_of_ble_eq_true rfl) (fun p9 e9 s m b9 mt9 c9 hx hb hr hml hown hlocks hin hE hB hW ls hl => ?_)
  have hts := hE.ts ([.ref (A 0), .int k] : List Value).toArray
  have hl : lv_has ls 2 [(0, .ref (A 0)), (1, .int k)] := hl
  have hown : s.vm.findClass "Generations" = some m.cls := hown
  have hS : va_S (gw_A G) s.heap s.heap [] := va_S.rf
  obtain ⟨gc, rs, f3, f8, hf_x, hf_row, hf_nums, hf_gone, hgc, hrs, hLJ, hLK, hNW, hZZ⟩ := id hX
  have hj9 := hLJ.le
  have hn9 := hLK.le
  refine lv_iload_n hx hb d_X_state_0 rfl (lv_at hl 1 rfl) ?_
  refine gr_calli (va_runS (As := [.int k]) (rest := []) ⟨hx, hb, hml, hown, hts⟩ (r_isNumber l G M k  ) (cwS 1 hts (gw_gs mw59 mw60 mw42 mw58) rfl rfl rfl (by decide +kernel) ⟨Nat.le_of_ble_eq_true rfl, Nat.le_of_ble_eq_true rfl⟩) (gw_ps hE hB hS hW) rfl rfl hl.1 rfl (lv_room (Nat.le_of_ble_eq_true rfl)) d_X_state_1 ⟨Nat.le_of_ble_eq_true rfl, Nat.le_of_ble_eq_true rfl⟩) (fun r1 hw2 => ?_)
  refine lv_if_eq (tgt := 18) hx hb d_X_state_4 (by decide) (fun c4 => ?_) (fun c4 => ?_)
  · refine lv_iconst (v := -1) hx hb d_X_state_18 (by decide) ?_
    exact gr_iret hx hb hr hlocks d_X_state_19 trivial
  · refine lv_aload_n hx hb d_X_state_7 rfl (lv_at hl 0 rfl) ?_
    refine lv_iload_n hx hb d_X_state_8 rfl (lv_at hl 1 rfl) ?_
    refine gr_callr (va_runV (As := [.int k]) (rest := []) ⟨hx, hb, hml, hown, hts⟩ (r_find l G M A lim sc E j n hX k  ) (cwV 1 hts (gw_gv mw54 mw55 mw56 mw42 mw53) rfl rfl rfl (by decide +kernel) ⟨Nat.le_of_ble_eq_true rfl, Nat.le_of_ble_eq_true rfl⟩) (gw_pv hE hB hS hW rfl hf_x) rfl rfl hl.1 rfl (lv_room (Nat.le_of_ble_eq_true rfl)) d_X_state_9 ⟨Nat.le_of_ble_eq_true rfl, Nat.le_of_ble_eq_true rfl⟩) (fun r3 hw4 => ?_)
    obtain ⟨u5v0, u5v1, u5v2, u5v3, u5v4, hf_u5⟩ := hX.g9 hw4
    refine gw_getN (ci := 2) (fs := [.int u5v0, .int u5v1, .int u5v2, .int u5v3, .int u5v4]) hx hb hts in_Gen hown hE.K hW hf_u5 rfl 1 (by decide) (hts _ mw36) (fun _ h9 => h9) rfl d_X_state_12 ?_
    refine lv_goto (tgt := 19) hx hb d_X_state_15 (by decide) ?_
    exact gr_iret hx hb hr hlocks d_X_state_19 trivial

set_option maxHeartbeats 4000000 in
set_option maxRecDepth 100000 in
theorem r_count (l : Launch) (G : gw_G) (M : gw_M) (A : Nat → Nat) (lim sc E : Int32) (j n : Nat) (hX : gx_W G A lim sc E j n M) (k : Int32) : Met l y_X_count [.code y_X_count b_X_count 2 (some .int)] ({ frames := 4, cells := 0, slots := 0, locals := 87 }) (gw_Pc G M [.ref (A 0), .int k]) (gr_Qi (fun r => True)) 0 0 (fun _ => False) := by
  refine gw_startR (by decide) (Nat.le_of_ble_eq_true rfl) (fun p9 e9 s m b9 mt9 c9 hx hb hr hml hown hlocks hin hE hB hW ls hl => ?_)
  have hts := hE.ts ([.ref (A 0), .int k] : List Value).toArray
  have hl : lv_has ls 2 [(0, .ref (A 0)), (1, .int k)] := hl
  have hown : s.vm.findClass "Generations" = some m.cls := hown
  have hS : va_S (gw_A G) s.heap s.heap [] := va_S.rf
  obtain ⟨gc, rs, f3, f8, hf_x, hf_row, hf_nums, hf_gone, hgc, hrs, hLJ, hLK, hNW, hZZ⟩ := id hX
  have hj9 := hLJ.le
  have hn9 := hLK.le
  refine lv_iload_n hx hb d_X_count_0 rfl (lv_at hl 1 rfl) ?_
  rcases gx_sw5 k with h9 | h9 | h9 | h9 | h9 | h9 | h9
  · refine lv_tableOut (tgt := 84) hx hb d_X_count_1 h9 (by decide) ?_
    refine lv_iconst (v := -1) hx hb d_X_count_84 (by decide) ?_
    exact gr_iret hx hb hr hlocks d_X_count_85 trivial
  · refine lv_tableIn (tgt := 40) hx hb d_X_count_1 (by rw [h9]; decide) (by rw [h9]; decide) (by rw [h9]; rfl) (by decide) ?_
    refine lv_aload_n hx hb d_X_count_40 rfl (lv_at hl 0 rfl) ?_
    refine gw_get (ci := 0) (fs := [.int lim, .int sc, .int E, .ref (A 1), .ref (A 3), .ref (A 4), .ref (A 5), .ref (A 6), .int (nI gc)]) hx hb hts in_X hown hE.K hW hf_x rfl 3 (by decide) (hts _ mw45) (fun _ h9 => h9) rfl d_X_count_41 ?_
    refine gw_getN (ci := 1) (fs := [.ref (A 2), .int (nI rs)]) hx hb hts in_Row hown hE.K hW hf_row rfl 1 (by decide) (hts _ mw61) (fun _ h9 => h9) rfl d_X_count_44 ?_
    exact gr_iret hx hb hr hlocks d_X_count_47 trivial
  · refine lv_tableIn (tgt := 48) hx hb d_X_count_1 (by rw [h9]; decide) (by rw [h9]; decide) (by rw [h9]; rfl) (by decide) ?_
    refine lv_aload_n hx hb d_X_count_48 rfl (lv_at hl 0 rfl) ?_
    refine lv_iconst (v := 2) hx hb d_X_count_49 (by decide) ?_
    refine gr_calli (va_runV (As := [.int 2]) (rest := []) ⟨hx, hb, hml, hown, hts⟩ (r_howMany l G M A lim sc E j n hX 2  ) (cwV 1 hts (gw_gv mw63 mw64 mw65 mw42 mw62) rfl rfl rfl (by decide +kernel) ⟨Nat.le_of_ble_eq_true rfl, Nat.le_of_ble_eq_true rfl⟩) (gw_pv hE hB hS hW rfl hf_x) rfl rfl hl.1 rfl (lv_room (Nat.le_of_ble_eq_true rfl)) d_X_count_50 ⟨Nat.le_of_ble_eq_true rfl, Nat.le_of_ble_eq_true rfl⟩) (fun r1 hw2 => ?_)
    refine lv_aload_n hx hb d_X_count_53 rfl (lv_at hl 0 rfl) ?_
    refine lv_iconst (v := 3) hx hb d_X_count_54 (by decide) ?_
    refine gr_calli (va_runV (As := [.int 3]) (rest := [.int r1]) ⟨hx, hb, hml, hown, hts⟩ (r_howMany l G M A lim sc E j n hX 3  ) (cwV 1 hts (gw_gv mw63 mw64 mw65 mw42 mw62) rfl rfl rfl (by decide +kernel) ⟨Nat.le_of_ble_eq_true rfl, Nat.le_of_ble_eq_true rfl⟩) (gw_pv hE hB hS hW rfl hf_x) rfl rfl hl.1 rfl (lv_room (Nat.le_of_ble_eq_true rfl)) d_X_count_55 ⟨Nat.le_of_ble_eq_true rfl, Nat.le_of_ble_eq_true rfl⟩) (fun r3 hw4 => ?_)
    refine lv_iadd hx hb d_X_count_58 ?_
    exact gr_iret hx hb hr hlocks d_X_count_59 trivial
  · refine lv_tableIn (tgt := 60) hx hb d_X_count_1 (by rw [h9]; decide) (by rw [h9]; decide) (by rw [h9]; rfl) (by decide) ?_
    refine lv_aload_n hx hb d_X_count_60 rfl (lv_at hl 0 rfl) ?_
    refine lv_iconst (v := 4) hx hb d_X_count_61 (by decide) ?_
    refine gr_calli (va_runV (As := [.int 4]) (rest := []) ⟨hx, hb, hml, hown, hts⟩ (r_howMany l G M A lim sc E j n hX 4  ) (cwV 1 hts (gw_gv mw63 mw64 mw65 mw42 mw62) rfl rfl rfl (by decide +kernel) ⟨Nat.le_of_ble_eq_true rfl, Nat.le_of_ble_eq_true rfl⟩) (gw_pv hE hB hS hW rfl hf_x) rfl rfl hl.1 rfl (lv_room (Nat.le_of_ble_eq_true rfl)) d_X_count_62 ⟨Nat.le_of_ble_eq_true rfl, Nat.le_of_ble_eq_true rfl⟩) (fun r5 hw6 => ?_)
    exact gr_iret hx hb hr hlocks d_X_count_65 trivial
  · refine lv_tableIn (tgt := 66) hx hb d_X_count_1 (by rw [h9]; decide) (by rw [h9]; decide) (by rw [h9]; rfl) (by decide) ?_
    refine lv_aload_n hx hb d_X_count_66 rfl (lv_at hl 0 rfl) ?_
    refine gw_get (ci := 0) (fs := [.int lim, .int sc, .int E, .ref (A 1), .ref (A 3), .ref (A 4), .ref (A 5), .ref (A 6), .int (nI gc)]) hx hb hts in_X hown hE.K hW hf_x rfl 4 (by decide) (hts _ mw66) (fun _ h9 => h9) rfl d_X_count_67 ?_
    obtain ⟨_, hc7⟩ := hLJ.cell
    refine gr_calli (va_runV (As := []) (rest := []) ⟨hx, hb, hml, hown, hts⟩ (s_size l G M (A 3) 4 6 10 j hLJ) (cwV 0 hts (gw_gv mw25 mw26 mw27 mw14 mw24) rfl rfl rfl (by decide +kernel) ⟨Nat.le_of_ble_eq_true rfl, Nat.le_of_ble_eq_true rfl⟩) (gw_pv hE hB hS hW rfl hc7) rfl rfl hl.1 rfl (lv_room (Nat.le_of_ble_eq_true rfl)) d_X_count_70 ⟨Nat.le_of_ble_eq_true rfl, Nat.le_of_ble_eq_true rfl⟩) (fun r8 hw9 => ?_)
    subst hw9
    exact gr_iret hx hb hr hlocks d_X_count_73 trivial
  · refine lv_tableIn (tgt := 74) hx hb d_X_count_1 (by rw [h9]; decide) (by rw [h9]; decide) (by rw [h9]; rfl) (by decide) ?_
    refine lv_aload_n hx hb d_X_count_74 rfl (lv_at hl 0 rfl) ?_
    refine gr_calli (va_runV (As := []) (rest := []) ⟨hx, hb, hml, hown, hts⟩ (r_jobThatMakes l G M A lim sc E j n hX   ) (cwV 0 hts (gw_gv mw39 mw40 mw41 mw42 mw38) rfl rfl rfl (by decide +kernel) ⟨Nat.le_of_ble_eq_true rfl, Nat.le_of_ble_eq_true rfl⟩) (gw_pv hE hB hS hW rfl hf_x) rfl rfl hl.1 rfl (lv_room (Nat.le_of_ble_eq_true rfl)) d_X_count_75 ⟨Nat.le_of_ble_eq_true rfl, Nat.le_of_ble_eq_true rfl⟩) (fun r10 hw11 => ?_)
    exact gr_iret hx hb hr hlocks d_X_count_78 trivial
  · refine lv_tableIn (tgt := 79) hx hb d_X_count_1 (by rw [h9]; decide) (by rw [h9]; decide) (by rw [h9]; rfl) (by decide) ?_
    refine lv_aload_n hx hb d_X_count_79 rfl (lv_at hl 0 rfl) ?_
    refine gw_get (ci := 0) (fs := [.int lim, .int sc, .int E, .ref (A 1), .ref (A 3), .ref (A 4), .ref (A 5), .ref (A 6), .int (nI gc)]) hx hb hts in_X hown hE.K hW hf_x rfl 8 (by decide) (hts _ mw51) (fun _ h9 => h9) rfl d_X_count_80 ?_
    exact gr_iret hx hb hr hlocks d_X_count_83 trivial
end
section
abbrev b_AL_grow : ByteArray := prog_19_method_6_code
abbrev y_AL_grow : MethodName := ⟨"java/util/ArrayList", "grow", "(I)[Ljava/lang/Object;"⟩
abbrev b_AL_grow2 : ByteArray := prog_19_method_7_code
abbrev y_AL_grow2 : MethodName := ⟨"java/util/ArrayList", "grow", "()[Ljava/lang/Object;"⟩
abbrev b_AL_add : ByteArray := prog_19_method_24_code
abbrev y_AL_add : MethodName := ⟨"java/util/ArrayList", "add", "(Ljava/lang/Object;[Ljava/lang/Object;I)V"⟩
abbrev b_AL_add2 : ByteArray := prog_19_method_25_code
abbrev y_AL_add2 : MethodName := ⟨"java/util/ArrayList", "add", "(Ljava/lang/Object;)Z"⟩
set_option maxRecDepth 20000 in
theorem mw67 : (Cond.fieldLink "java/util/ArrayList" (39 : Nat) "java/util/ArrayList" "DEFAULTCAPACITY_EMPTY_ELEMENTDATA" "[Ljava/lang/Object;") ∈ gw_N0 := gw_in (List.mem_append_right _ (gw_tm (i := 54) rfl))
set_option maxRecDepth 20000 in
theorem mw68 : (Cond.methodLink "java/util/ArrayList" (79 : Nat) ({ cls := "java/lang/Math", name := "max", desc := "(II)I" } : Jvm.MethodName)) ∈ gw_N0 := gw_in (List.mem_append_right _ (gw_tm (i := 214) rfl))
set_option maxRecDepth 20000 in
theorem mw69 : (Cond.static ({ cls := "java/lang/Math", name := "max", desc := "(II)I" } : Jvm.MethodName)) ∈ gw_N0 := gw_in (List.mem_append_right _ (gw_tm (i := 99) rfl))
set_option maxRecDepth 20000 in
theorem mw70 : (Cond.initialized "java/lang/Math") ∈ gw_N0 := gw_in (List.mem_append_right _ (gw_tm (i := 7) rfl))
set_option maxRecDepth 20000 in
theorem mw71 : (Cond.code ({ cls := "java/lang/Math", name := "max", desc := "(II)I" } : Jvm.MethodName) prog_12_method_65_code (2 : Nat) (Option.some Jvm.ClassFile.FieldType.int)) ∈ gw_N0 := gw_in (List.mem_append_right _ (gw_tm (i := 100) rfl))
set_option maxRecDepth 20000 in
theorem mw72 : (Cond.classLink "java/util/ArrayList" (7 : Nat) "java/lang/Object") ∈ gw_N0 := gw_in (List.mem_append_right _ (gw_tm (i := 215) rfl))
set_option maxRecDepth 20000 in
theorem mw73 : (Cond.code ({ cls := "java/util/ArrayList", name := "grow", desc := "(I)[Ljava/lang/Object;" } : Jvm.MethodName) prog_19_method_6_code (4 : Nat) (Option.some (Jvm.ClassFile.FieldType.array (Jvm.ClassFile.FieldType.object "java/lang/Object")))) ∈ gw_N0 := gw_in (List.mem_append_right _ (gw_tm (i := 181) rfl))
set_option maxRecDepth 20000 in
theorem mw74 : (Cond.methodLink "java/util/ArrayList" (69 : Nat) ({ cls := "java/util/ArrayList", name := "grow", desc := "(I)[Ljava/lang/Object;" } : Jvm.MethodName)) ∈ gw_N0 := gw_in (List.mem_append_right _ (gw_tm (i := 178) rfl))
set_option maxRecDepth 20000 in
theorem mw75 : (Cond.instanceMethod ({ cls := "java/util/ArrayList", name := "grow", desc := "(I)[Ljava/lang/Object;" } : Jvm.MethodName)) ∈ gw_N0 := gw_in (List.mem_append_right _ (gw_tm (i := 180) rfl))
set_option maxRecDepth 20000 in
theorem mw76 : (Cond.selects "java/util/ArrayList" ⟨"java/util/ArrayList", "grow", "(I)[Ljava/lang/Object;"⟩ ⟨"java/util/ArrayList", "grow", "(I)[Ljava/lang/Object;"⟩) ∈ gw_N0 := gw_in (List.mem_append_left _ (List.mem_of_getElem? (i := 5) rfl))
set_option maxRecDepth 20000 in
theorem mw77 : (Cond.code ({ cls := "java/util/ArrayList", name := "grow", desc := "()[Ljava/lang/Object;" } : Jvm.MethodName) prog_19_method_7_code (1 : Nat) (Option.some (Jvm.ClassFile.FieldType.array (Jvm.ClassFile.FieldType.object "java/lang/Object")))) ∈ gw_N0 := gw_in (List.mem_append_right _ (gw_tm (i := 177) rfl))
set_option maxRecDepth 20000 in
theorem mw78 : (Cond.methodLink "java/util/ArrayList" (129 : Nat) ({ cls := "java/util/ArrayList", name := "grow", desc := "()[Ljava/lang/Object;" } : Jvm.MethodName)) ∈ gw_N0 := gw_in (List.mem_append_right _ (gw_tm (i := 174) rfl))
set_option maxRecDepth 20000 in
theorem mw79 : (Cond.instanceMethod ({ cls := "java/util/ArrayList", name := "grow", desc := "()[Ljava/lang/Object;" } : Jvm.MethodName)) ∈ gw_N0 := gw_in (List.mem_append_right _ (gw_tm (i := 176) rfl))
set_option maxRecDepth 20000 in
theorem mw80 : (Cond.selects "java/util/ArrayList" ⟨"java/util/ArrayList", "grow", "()[Ljava/lang/Object;"⟩ ⟨"java/util/ArrayList", "grow", "()[Ljava/lang/Object;"⟩) ∈ gw_N0 := gw_in (List.mem_append_left _ (List.mem_of_getElem? (i := 4) rfl))
set_option maxRecDepth 20000 in
theorem mw81 : (Cond.castable "Generations$Generation" "java/lang/Object") ∈ gw_N0 := gw_in (List.mem_append_right _ (gw_tm (i := 615) rfl))
set_option maxRecDepth 20000 in
theorem mw82 : (Cond.sameField "java/util/ArrayList" "java/util/AbstractList" "modCount" "I") ∈ gw_N0 := gw_in (List.mem_append_right _ (gw_tm (i := 60) rfl))
set_option maxRecDepth 20000 in
theorem mw83 : (Cond.fieldLink "java/util/ArrayList" (63 : Nat) "java/util/ArrayList" "modCount" "I") ∈ gw_N0 := gw_in (List.mem_append_right _ (gw_tm (i := 59) rfl))
set_option maxRecDepth 20000 in
theorem mw84 : (Cond.code ({ cls := "java/util/ArrayList", name := "add", desc := "(Ljava/lang/Object;[Ljava/lang/Object;I)V" } : Jvm.MethodName) prog_19_method_24_code (4 : Nat) (Option.none : Option Jvm.ClassFile.FieldType)) ∈ gw_N0 := gw_in (List.mem_append_right _ (gw_tm (i := 173) rfl))
set_option maxRecDepth 20000 in
theorem mw85 : (Cond.methodLink "java/util/ArrayList" (131 : Nat) ({ cls := "java/util/ArrayList", name := "add", desc := "(Ljava/lang/Object;[Ljava/lang/Object;I)V" } : Jvm.MethodName)) ∈ gw_N0 := gw_in (List.mem_append_right _ (gw_tm (i := 170) rfl))
set_option maxRecDepth 20000 in
theorem mw86 : (Cond.instanceMethod ({ cls := "java/util/ArrayList", name := "add", desc := "(Ljava/lang/Object;[Ljava/lang/Object;I)V" } : Jvm.MethodName)) ∈ gw_N0 := gw_in (List.mem_append_right _ (gw_tm (i := 172) rfl))
set_option maxRecDepth 20000 in
theorem mw87 : (Cond.selects "java/util/ArrayList" ⟨"java/util/ArrayList", "add", "(Ljava/lang/Object;[Ljava/lang/Object;I)V"⟩ ⟨"java/util/ArrayList", "add", "(Ljava/lang/Object;[Ljava/lang/Object;I)V"⟩) ∈ gw_N0 := gw_in (List.mem_append_left _ (List.mem_of_getElem? (i := 3) rfl))
set_option maxRecDepth 20000 in
theorem mw88 : (Cond.castable "Generations$Job" "java/lang/Object") ∈ gw_N0 := gw_in (List.mem_append_right _ (gw_tm (i := 617) rfl))
end
section
theorem d_AL_grow_0 : decode b_AL_grow 0 = .ok (.aload_n 0, 1) := by decide +kernel
theorem d_AL_grow_1 : decode b_AL_grow 1 = .ok (.getfield 9, 3) := by decide +kernel
theorem d_AL_grow_4 : decode b_AL_grow 4 = .ok (.arraylength, 1) := by decide +kernel
theorem d_AL_grow_5 : decode b_AL_grow 5 = .ok (.istore_n 2, 1) := by decide +kernel
theorem d_AL_grow_6 : decode b_AL_grow 6 = .ok (.iload_n 2, 1) := by decide +kernel
theorem d_AL_grow_7 : decode b_AL_grow 7 = .ok (.ifCond .gt 13, 3) := by decide +kernel
theorem d_AL_grow_10 : decode b_AL_grow 10 = .ok (.aload_n 0, 1) := by decide +kernel
theorem d_AL_grow_11 : decode b_AL_grow 11 = .ok (.getfield 9, 3) := by decide +kernel
theorem d_AL_grow_14 : decode b_AL_grow 14 = .ok (.getstatic 39, 3) := by decide +kernel
theorem d_AL_grow_17 : decode b_AL_grow 17 = .ok (.if_acmp .eq 28, 3) := by decide +kernel
theorem d_AL_grow_45 : decode b_AL_grow 45 = .ok (.aload_n 0, 1) := by decide +kernel
theorem d_AL_grow_46 : decode b_AL_grow 46 = .ok (.bipush 10, 2) := by decide +kernel
theorem d_AL_grow_48 : decode b_AL_grow 48 = .ok (.iload_n 1, 1) := by decide +kernel
theorem d_AL_grow_49 : decode b_AL_grow 49 = .ok (.invokestatic 79, 3) := by decide +kernel
theorem d_AL_grow_52 : decode b_AL_grow 52 = .ok (.anewarray 7, 3) := by decide +kernel
theorem d_AL_grow_55 : decode b_AL_grow 55 = .ok (.dup_x1, 1) := by decide +kernel
theorem d_AL_grow_56 : decode b_AL_grow 56 = .ok (.putfield 9, 3) := by decide +kernel
theorem d_AL_grow_59 : decode b_AL_grow 59 = .ok (.areturn, 1) := by decide +kernel
theorem d_AL_grow2_0 : decode b_AL_grow2 0 = .ok (.aload_n 0, 1) := by decide +kernel
theorem d_AL_grow2_1 : decode b_AL_grow2 1 = .ok (.aload_n 0, 1) := by decide +kernel
theorem d_AL_grow2_2 : decode b_AL_grow2 2 = .ok (.getfield 48, 3) := by decide +kernel
theorem d_AL_grow2_5 : decode b_AL_grow2 5 = .ok (.iconst 1, 1) := by decide +kernel
theorem d_AL_grow2_6 : decode b_AL_grow2 6 = .ok (.iadd, 1) := by decide +kernel
theorem d_AL_grow2_7 : decode b_AL_grow2 7 = .ok (.invokevirtual 69, 3) := by decide +kernel
theorem d_AL_grow2_10 : decode b_AL_grow2 10 = .ok (.areturn, 1) := by decide +kernel
theorem d_AL_add_0 : decode b_AL_add 0 = .ok (.iload_n 3, 1) := by decide +kernel
theorem d_AL_add_1 : decode b_AL_add 1 = .ok (.aload_n 2, 1) := by decide +kernel
theorem d_AL_add_2 : decode b_AL_add 2 = .ok (.arraylength, 1) := by decide +kernel
theorem d_AL_add_3 : decode b_AL_add 3 = .ok (.if_icmp .ne 8, 3) := by decide +kernel
theorem d_AL_add_6 : decode b_AL_add 6 = .ok (.aload_n 0, 1) := by decide +kernel
theorem d_AL_add_7 : decode b_AL_add 7 = .ok (.invokevirtual 129, 3) := by decide +kernel
theorem d_AL_add_10 : decode b_AL_add 10 = .ok (.astore_n 2, 1) := by decide +kernel
theorem d_AL_add_11 : decode b_AL_add 11 = .ok (.aload_n 2, 1) := by decide +kernel
theorem d_AL_add_12 : decode b_AL_add 12 = .ok (.iload_n 3, 1) := by decide +kernel
theorem d_AL_add_13 : decode b_AL_add 13 = .ok (.aload_n 1, 1) := by decide +kernel
theorem d_AL_add_14 : decode b_AL_add 14 = .ok (.aastore, 1) := by decide +kernel
theorem d_AL_add_15 : decode b_AL_add 15 = .ok (.aload_n 0, 1) := by decide +kernel
theorem d_AL_add_16 : decode b_AL_add 16 = .ok (.iload_n 3, 1) := by decide +kernel
theorem d_AL_add_17 : decode b_AL_add 17 = .ok (.iconst 1, 1) := by decide +kernel
theorem d_AL_add_18 : decode b_AL_add 18 = .ok (.iadd, 1) := by decide +kernel
theorem d_AL_add_19 : decode b_AL_add 19 = .ok (.putfield 48, 3) := by decide +kernel
theorem d_AL_add_22 : decode b_AL_add 22 = .ok (.return_, 1) := by decide +kernel
theorem d_AL_add2_0 : decode b_AL_add2 0 = .ok (.aload_n 0, 1) := by decide +kernel
theorem d_AL_add2_1 : decode b_AL_add2 1 = .ok (.dup, 1) := by decide +kernel
theorem d_AL_add2_2 : decode b_AL_add2 2 = .ok (.getfield 63, 3) := by decide +kernel
theorem d_AL_add2_5 : decode b_AL_add2 5 = .ok (.iconst 1, 1) := by decide +kernel
theorem d_AL_add2_6 : decode b_AL_add2 6 = .ok (.iadd, 1) := by decide +kernel
theorem d_AL_add2_7 : decode b_AL_add2 7 = .ok (.putfield 63, 3) := by decide +kernel
theorem d_AL_add2_10 : decode b_AL_add2 10 = .ok (.aload_n 0, 1) := by decide +kernel
theorem d_AL_add2_11 : decode b_AL_add2 11 = .ok (.aload_n 1, 1) := by decide +kernel
theorem d_AL_add2_12 : decode b_AL_add2 12 = .ok (.aload_n 0, 1) := by decide +kernel
theorem d_AL_add2_13 : decode b_AL_add2 13 = .ok (.getfield 9, 3) := by decide +kernel
theorem d_AL_add2_16 : decode b_AL_add2 16 = .ok (.aload_n 0, 1) := by decide +kernel
theorem d_AL_add2_17 : decode b_AL_add2 17 = .ok (.getfield 48, 3) := by decide +kernel
theorem d_AL_add2_20 : decode b_AL_add2 20 = .ok (.invokevirtual 131, 3) := by decide +kernel
theorem d_AL_add2_23 : decode b_AL_add2 23 = .ok (.iconst 1, 1) := by decide +kernel
theorem d_AL_add2_24 : decode b_AL_add2 24 = .ok (.ireturn, 1) := by decide +kernel
end
section
set_option maxHeartbeats 4000000 in
set_option maxRecDepth 100000 in
theorem a_growIK (l : Launch) (G : gw_G) (M : gw_M) (o : Nat) (k : Int32) (hf_o : M o = some (5, .inr (4, [.int k, .ref (G.2.2.1 0), .int (nI 0)]))) : Met l y_AL_grow [.code y_AL_grow b_AL_grow 4 (some (.array (.object "java/lang/Object")))] ({ frames := 1, cells := 1, slots := 10, locals := 14 }) (gw_Pc G M [.ref o, .int ((nI 0) + 1)]) (gw_Qr G (fun r M2 => ∃ (ar : Nat), ar = r ∧ M2 o = some (5, .inr (4, [.int k, .ref ar, .int (nI 0)])) ∧ M2 ar = some (7, .inl (G.2.1 1, 10, .inr (.inr (.inr (.inr (fun _ => none)))))) ∧ gw_fg (gw_out [5, 7]) M M2)) 1 10 (gw_A G) := by
  refine gw_start (by decide) (Nat.le_of_ble_eq_true rfl) (fun p9 e9 s m b9 mt9 c9 hx hb hr hml hown hlocks hin hE hB hW ls hl => ?_)
  have hts := hE.ts ([.ref o, .int ((nI 0) + 1)] : List Value).toArray
  have hl : lv_has ls 4 [(0, .ref o), (1, .int ((nI 0) + 1))] := hl
  have hS : va_S (gw_A G) s.heap s.heap [] := va_S.rf
  have hown : s.vm.findClass "java/util/ArrayList" = some m.cls := hown
  refine lv_aload_n hx hb d_AL_grow_0 rfl (lv_at hl 0 rfl) ?_
  refine gw_get (ci := 4) (fs := [.int k, .ref (G.2.2.1 0), .int (nI 0)]) hx hb hts in_AL hown hE.K hW hf_o rfl 1 (by decide) (hts _ mw5) (fun _ h9 => h9) rfl d_AL_grow_1 ?_
  refine va_tlen (v := 0) hx hb hE.2.2.2.1 hS rfl d_AL_grow_4 ?_
  refine lv_istore_n (lv' := [(2, .int 0), (0, .ref o), (1, .int ((nI 0) + 1))]) hx hb d_AL_grow_5 rfl hl (by decide) rfl (fun ls hl => ?_)
  refine lv_iload_n hx hb d_AL_grow_6 rfl (lv_at hl 0 rfl) ?_
  refine lv_if_gt (tgt := 20) hx hb d_AL_grow_7 (by decide) (fun c7 => ?_) (fun c7 => ?_)
  · exact absurd c7 (by decide)
  · refine lv_aload_n hx hb d_AL_grow_10 rfl (lv_at hl 1 rfl) ?_
    refine gw_get (ci := 4) (fs := [.int k, .ref (G.2.2.1 0), .int (nI 0)]) hx hb hts in_AL hown hE.K hW hf_o rfl 1 (by decide) (hts _ mw5) (fun _ h9 => h9) rfl d_AL_grow_11 ?_
    refine va_gets hx hb hE.2.2.1 hS hown (hts _ mw67) (fun _ h9 => h9) d_AL_grow_14 ?_
    refine lv_acmp_eq (rx := some (G.2.2.1 0)) (ry := some (G.2.2.1 0)) (tgt := 45) hx hb d_AL_grow_17 (by decide) (fun c17 => ?_) (fun c17 => ?_)
    · refine lv_aload_n hx hb d_AL_grow_45 rfl (lv_at hl 1 rfl) ?_
      refine lv_bipush (v := 10) hx hb d_AL_grow_46 (by decide) ?_
      refine lv_iload_n hx hb d_AL_grow_48 rfl (lv_at hl 2 rfl) ?_
      refine va_mmax (x := 10) (y := (nI 0) + 1) hx hb (hml.trans hl.1.symm) hown (hts _ mw68) (hts _ mw69) (hts _ mw70) (hts _ mw71) (Nat.le_of_ble_eq_true rfl) (Nat.le_of_ble_eq_true rfl) (Nat.le_of_ble_eq_true rfl) (Nat.le_of_ble_eq_true rfl) d_AL_grow_49 ?_
      refine gw_newq (N' := 10) hx hb hown (hts _ mw72) hE.ao hE.K hW hS hB (by decide) (by decide) (Nat.le_of_ble_eq_true rfl) (Nat.le_of_ble_eq_true rfl) (Nat.le_of_ble_eq_true rfl) d_AL_grow_52 1 rfl 7 (fun q1 H hq2 hW hS => ?_)
      refine W.widen (k := 1) (n := 10) (Nat.le_refl _) (Nat.le_refl _) ?_
      have hF3 : gw_fg (gw_out [5, 7]) M (gw_up M q1 7 (.inl (G.2.1 1, 10, .inr (.inr (.inr (.inr (fun _ => none))))))) := gw_fg.new gw_fg.rf hq2 (show ¬ ((gw_out [5, 7]) 7) by decide)
      obtain ⟨M4, eM4⟩ : ∃ z, z = gw_up M q1 7 (.inl (G.2.1 1, 10, .inr (.inr (.inr (.inr (fun _ => none)))))) := ⟨_, rfl⟩
      replace hW : gw_P G.1 vwCl G.2.2.2 M4 H := by rw [eM4]; exact hW
      have hf_o : M4 o = some (5, .inr (4, [.int k, .ref (G.2.2.1 0), .int (nI 0)])) := by rw [eM4]; exact gw_keepN hf_o hq2
      have hf_q1 : M4 q1 = some (7, .inl (G.2.1 1, 10, .inr (.inr (.inr (.inr (fun _ => none)))))) := by rw [eM4]; exact gw_up_self _ _ _ _
      rw [← eM4] at hF3
      refine lv_dup_x1 hx hb d_AL_grow_55 rfl rfl ?_
      refine gw_put (ci := 4) (fs := [.int k, .ref (G.2.2.1 0), .int (nI 0)]) (v := .ref q1) (ty := .array (.object "java/lang/Object")) hx hb hts in_AL t_AL t_AL_ok n_AL hown hE.K hW hS hf_o rfl 1 (by decide) (hts _ mw5) (fun _ h9 => h9) rfl (by decide +kernel) rfl rfl (Nat.le_of_ble_eq_true rfl) d_AL_grow_56 (fun H locs hW hS => ?_)
      have hF5 : gw_fg (gw_out [5, 7]) M (gw_up M4 o 5 (.inr (4, [.int k, .ref q1, .int (nI 0)]))) := gw_fg.up hF3 hf_o (show ¬ ((gw_out [5, 7]) 5) by decide) (show ¬ ((gw_out [5, 7]) 5) by decide)
      obtain ⟨M6, eM6⟩ : ∃ z, z = gw_up M4 o 5 (.inr (4, [.int k, .ref q1, .int (nI 0)])) := ⟨_, rfl⟩
      replace hW : gw_P G.1 vwCl G.2.2.2 M6 H := by rw [eM6]; exact hW
      have hf_q1 : M6 q1 = some (7, .inl (G.2.1 1, 10, .inr (.inr (.inr (.inr (fun _ => none)))))) := by rw [eM6]; exact gw_keep hf_q1 hf_o (by decide)
      have hf_o : M6 o = some (5, .inr (4, [.int k, .ref q1, .int (nI 0)])) := by rw [eM6]; exact gw_up_self _ _ _ _
      rw [← eM6] at hF5
      exact gw_aret hx hb hr hlocks (Or.inr ⟨_, rfl⟩) hS hW (Nat.le_of_ble_eq_true rfl) (Nat.le_of_ble_eq_true rfl) d_AL_grow_59 (⟨q1, rfl, hf_o, hf_q1, hF5⟩)
    · exact absurd rfl c17

set_option maxHeartbeats 4000000 in
set_option maxRecDepth 100000 in
theorem a_growK (l : Launch) (G : gw_G) (M : gw_M) (o : Nat) (k : Int32) (hf_o : M o = some (5, .inr (4, [.int k, .ref (G.2.2.1 0), .int (nI 0)]))) : Met l y_AL_grow2 [.code y_AL_grow2 b_AL_grow2 1 (some (.array (.object "java/lang/Object")))] ({ frames := 2, cells := 1, slots := 10, locals := 37 }) (gw_Pc G M [.ref o]) (gw_Qr G (fun r M2 => ∃ (ar : Nat), ar = r ∧ M2 o = some (5, .inr (4, [.int k, .ref ar, .int (nI 0)])) ∧ M2 ar = some (7, .inl (G.2.1 1, 10, .inr (.inr (.inr (.inr (fun _ => none)))))) ∧ gw_fg (gw_out [5, 7]) M M2)) 1 10 (gw_A G) := by
  refine gw_start (by decide) (Nat.le_of_ble_eq_true rfl) (fun p9 e9 s m b9 mt9 c9 hx hb hr hml hown hlocks hin hE hB hW ls hl => ?_)
  have hts := hE.ts ([.ref o] : List Value).toArray
  have hl : lv_has ls 1 [(0, .ref o)] := hl
  have hS : va_S (gw_A G) s.heap s.heap [] := va_S.rf
  have hown : s.vm.findClass "java/util/ArrayList" = some m.cls := hown
  refine lv_aload_n hx hb d_AL_grow2_0 rfl (lv_at hl 0 rfl) ?_
  refine lv_aload_n hx hb d_AL_grow2_1 rfl (lv_at hl 0 rfl) ?_
  refine gw_get (ci := 4) (fs := [.int k, .ref (G.2.2.1 0), .int (nI 0)]) hx hb hts in_AL hown hE.K hW hf_o rfl 2 (by decide) (hts _ mw0) (fun _ h9 => h9) rfl d_AL_grow2_2 ?_
  refine lv_iconst (v := 1) hx hb d_AL_grow2_5 (by decide) ?_
  refine lv_iadd hx hb d_AL_grow2_6 ?_
  refine gw_callr hS (va_runV (As := [.int ((nI 0) + 1)]) (rest := []) ⟨hx, hb, hml, hown, hts⟩ (a_growIK l G M o k hf_o ) (cwV 1 hts (gw_gv mw74 mw75 mw76 mw14 mw73) rfl rfl rfl (by decide +kernel) ⟨Nat.le_of_ble_eq_true rfl, Nat.le_of_ble_eq_true rfl⟩) (gw_pv hE hB hS hW rfl hf_o) rfl rfl hl.1 rfl (lv_room (Nat.le_of_ble_eq_true rfl)) d_AL_grow2_7 ⟨Nat.le_of_ble_eq_true rfl, Nat.le_of_ble_eq_true rfl⟩) (fun r1 M2 H locs hw3 hW hS => ?_)
  refine W.widen (k := 1) (n := 10) (Nat.le_refl _) (Nat.le_refl _) ?_
  obtain ⟨ar4, rfl, hf_o', hf_ar4', hfr5⟩ := hw3
  have hf_o : M2 o = some (5, .inr (4, [.int k, .ref ar4, .int (nI 0)])) := hf_o'
  have hf_ar4 : M2 ar4 = some (7, .inl (G.2.1 1, 10, .inr (.inr (.inr (.inr (fun _ => none)))))) := hf_ar4'
  have hF6 : gw_fg (gw_out [5, 7]) M M2 := gw_fg.tr gw_fg.rf (gw_fg.wk hfr5 (by decide))
  exact gw_aret hx hb hr hlocks (Or.inr ⟨_, rfl⟩) hS hW (Nat.le_of_ble_eq_true rfl) (Nat.le_of_ble_eq_true rfl) d_AL_grow2_10 (⟨ar4, rfl, hf_o, hf_ar4, hF6⟩)

set_option maxHeartbeats 4000000 in
set_option maxRecDepth 100000 in
theorem a_add3K (l : Launch) (G : gw_G) (M : gw_M) (o : Nat) (k : Int32) (g : Nat) (v1 : Int32) (v2 : Int32) (v3 : Int32) (v4 : Int32) (v5 : Int32) (hf_o : M o = some (5, .inr (4, [.int k, .ref (G.2.2.1 0), .int (nI 0)]))) (hf_g : M g = some (9, .inr (2, [.int v1, .int v2, .int v3, .int v4, .int v5]))) : Met l y_AL_add [.code y_AL_add b_AL_add 4 none] ({ frames := 3, cells := 1, slots := 10, locals := 57 }) (gw_Pc G M [.ref o, .ref g, .ref (G.2.2.1 0), .int (nI 0)]) (gw_Qv G (fun M2 => ∃ (ar : Nat), M2 o = some (5, .inr (4, [.int k, .ref ar, .int ((nI 0) + 1)])) ∧ M2 ar = some (7, .inl (G.2.1 1, 10, .inr (.inr (.inr (.inr (va_up (fun _ => none) (nI 0 : Int32).toNatClampNeg (some g))))))) ∧ gw_fg (gw_out [5, 7]) M M2)) 1 10 (gw_A G) := by
  refine gw_start (by decide) (Nat.le_of_ble_eq_true rfl) (fun p9 e9 s m b9 mt9 c9 hx hb hr hml hown hlocks hin hE hB hW ls hl => ?_)
  have hts := hE.ts ([.ref o, .ref g, .ref (G.2.2.1 0), .int (nI 0)] : List Value).toArray
  have hl : lv_has ls 4 [(0, .ref o), (1, .ref g), (2, .ref (G.2.2.1 0)), (3, .int (nI 0))] := hl
  have hS : va_S (gw_A G) s.heap s.heap [] := va_S.rf
  have hown : s.vm.findClass "java/util/ArrayList" = some m.cls := hown
  refine lv_iload_n hx hb d_AL_add_0 rfl (lv_at hl 3 rfl) ?_
  refine lv_aload_n hx hb d_AL_add_1 rfl (lv_at hl 2 rfl) ?_
  refine va_tlen (v := 0) hx hb hE.2.2.2.1 hS rfl d_AL_add_2 ?_
  refine lv_icmp_ne (tgt := 11) hx hb d_AL_add_3 (by decide) (fun c3 => ?_) (fun c3 => ?_)
  · exact absurd (by decide) c3
  · refine lv_aload_n hx hb d_AL_add_6 rfl (lv_at hl 0 rfl) ?_
    refine gw_callr hS (va_runV (As := []) (rest := []) ⟨hx, hb, hml, hown, hts⟩ (a_growK l G M o k hf_o ) (cwV 0 hts (gw_gv mw78 mw79 mw80 mw14 mw77) rfl rfl rfl (by decide +kernel) ⟨Nat.le_of_ble_eq_true rfl, Nat.le_of_ble_eq_true rfl⟩) (gw_pv hE hB hS hW rfl hf_o) rfl rfl hl.1 rfl (lv_room (Nat.le_of_ble_eq_true rfl)) d_AL_add_7 ⟨Nat.le_of_ble_eq_true rfl, Nat.le_of_ble_eq_true rfl⟩) (fun r1 M2 H locs hw3 hW hS => ?_)
    refine W.widen (k := 1) (n := 10) (Nat.le_refl _) (Nat.le_refl _) ?_
    obtain ⟨ar4, rfl, hf_o', hf_ar4', hfr5⟩ := hw3
    have hf_g : M2 g = some (9, .inr (2, [.int v1, .int v2, .int v3, .int v4, .int v5])) := (hfr5.1 _ _ _ (by decide)).mp hf_g
    have hf_o : M2 o = some (5, .inr (4, [.int k, .ref ar4, .int (nI 0)])) := hf_o'
    have hf_ar4 : M2 ar4 = some (7, .inl (G.2.1 1, 10, .inr (.inr (.inr (.inr (fun _ => none)))))) := hf_ar4'
    have hF6 : gw_fg (gw_out [5, 7]) M M2 := gw_fg.tr gw_fg.rf (gw_fg.wk hfr5 (by decide))
    refine lv_astore_n (lv' := [(2, .ref ar4), (0, .ref o), (1, .ref g), (3, .int (nI 0))]) hx hb d_AL_add_10 rfl hl (by decide) rfl (fun ls hl => ?_)
    refine lv_aload_n hx hb d_AL_add_11 rfl (lv_at hl 0 rfl) ?_
    refine lv_iload_n hx hb d_AL_add_12 rfl (lv_at hl 3 rfl) ?_
    refine lv_aload_n hx hb d_AL_add_13 rfl (lv_at hl 2 rfl) ?_
    refine gw_aastO (i := nI 0) (v := g) hx hb hE.K hW hS 1 2 hf_ar4 rfl (hE.nw mw81) hf_g rfl (show ¬ (nI 0 < 0 ∨ 10 ≤ (nI 0).toNatClampNeg) by decide) d_AL_add_14 (fun H locs hW hS => ?_)
    have hF7 : gw_fg (gw_out [5, 7]) M (gw_up M2 ar4 7 (.inl (G.2.1 1, 10, .inr (.inr (.inr (.inr (va_up (fun _ => none) (nI 0 : Int32).toNatClampNeg (some g)))))))) := gw_fg.up hF6 hf_ar4 (show ¬ ((gw_out [5, 7]) 7) by decide) (show ¬ ((gw_out [5, 7]) 7) by decide)
    obtain ⟨M8, eM8⟩ : ∃ z, z = gw_up M2 ar4 7 (.inl (G.2.1 1, 10, .inr (.inr (.inr (.inr (va_up (fun _ => none) (nI 0 : Int32).toNatClampNeg (some g))))))) := ⟨_, rfl⟩
    replace hW : gw_P G.1 vwCl G.2.2.2 M8 H := by rw [eM8]; exact hW
    have hf_o : M8 o = some (5, .inr (4, [.int k, .ref ar4, .int (nI 0)])) := by rw [eM8]; exact gw_keep hf_o hf_ar4 (by decide)
    have hf_g : M8 g = some (9, .inr (2, [.int v1, .int v2, .int v3, .int v4, .int v5])) := by rw [eM8]; exact gw_keep hf_g hf_ar4 (by decide)
    have hf_ar4 : M8 ar4 = some (7, .inl (G.2.1 1, 10, .inr (.inr (.inr (.inr (va_up (fun _ => none) (nI 0 : Int32).toNatClampNeg (some g))))))) := by rw [eM8]; exact gw_up_self _ _ _ _
    rw [← eM8] at hF7
    refine lv_aload_n hx hb d_AL_add_15 rfl (lv_at hl 1 rfl) ?_
    refine lv_iload_n hx hb d_AL_add_16 rfl (lv_at hl 3 rfl) ?_
    refine lv_iconst (v := 1) hx hb d_AL_add_17 (by decide) ?_
    refine lv_iadd hx hb d_AL_add_18 ?_
    refine gw_put (ci := 4) (fs := [.int k, .ref ar4, .int (nI 0)]) (v := .int ((nI 0) + 1)) (ty := .int) hx hb hts in_AL t_AL t_AL_ok n_AL hown hE.K hW hS hf_o rfl 2 (by decide) (hts _ mw0) (fun _ h9 => h9) rfl (by decide +kernel) rfl rfl (Nat.le_of_ble_eq_true rfl) d_AL_add_19 (fun H locs hW hS => ?_)
    have hF9 : gw_fg (gw_out [5, 7]) M (gw_up M8 o 5 (.inr (4, [.int k, .ref ar4, .int ((nI 0) + 1)]))) := gw_fg.up hF7 hf_o (show ¬ ((gw_out [5, 7]) 5) by decide) (show ¬ ((gw_out [5, 7]) 5) by decide)
    obtain ⟨M10, eM10⟩ : ∃ z, z = gw_up M8 o 5 (.inr (4, [.int k, .ref ar4, .int ((nI 0) + 1)])) := ⟨_, rfl⟩
    replace hW : gw_P G.1 vwCl G.2.2.2 M10 H := by rw [eM10]; exact hW
    have hf_g : M10 g = some (9, .inr (2, [.int v1, .int v2, .int v3, .int v4, .int v5])) := by rw [eM10]; exact gw_keep hf_g hf_o (by decide)
    have hf_ar4 : M10 ar4 = some (7, .inl (G.2.1 1, 10, .inr (.inr (.inr (.inr (va_up (fun _ => none) (nI 0 : Int32).toNatClampNeg (some g))))))) := by rw [eM10]; exact gw_keep hf_ar4 hf_o (by decide)
    have hf_o : M10 o = some (5, .inr (4, [.int k, .ref ar4, .int ((nI 0) + 1)])) := by rw [eM10]; exact gw_up_self _ _ _ _
    rw [← eM10] at hF9
    exact gw_vret hx hb hr hlocks hS hW (Nat.le_of_ble_eq_true rfl) (Nat.le_of_ble_eq_true rfl) d_AL_add_22 (⟨ar4, hf_o, hf_ar4, hF9⟩)

set_option maxHeartbeats 4000000 in
set_option maxRecDepth 100000 in
theorem a_addK (l : Launch) (G : gw_G) (M : gw_M) (o : Nat) (k : Int32) (g : Nat) (v1 : Int32) (v2 : Int32) (v3 : Int32) (v4 : Int32) (v5 : Int32) (hf_o : M o = some (5, .inr (4, [.int k, .ref (G.2.2.1 0), .int (nI 0)]))) (hf_g : M g = some (9, .inr (2, [.int v1, .int v2, .int v3, .int v4, .int v5]))) : Met l y_AL_add2 [.code y_AL_add2 b_AL_add2 2 (some .boolean)] ({ frames := 6, cells := 1, slots := 1000, locals := 200 }) (gw_Pc G M [.ref o, .ref g]) (gw_Qi G (fun r M2 => ∃ (ar : Nat), 1 = r ∧ M2 o = some (5, .inr (4, [.int (k + 1), .ref ar, .int ((nI 0) + 1)])) ∧ M2 ar = some (7, .inl (G.2.1 1, 10, .inr (.inr (.inr (.inr (va_up (fun _ => none) (nI 0 : Int32).toNatClampNeg (some g))))))) ∧ gw_fg (gw_out [5, 7]) M M2)) 1 1000 (gw_A G) := by
  refine gw_start (by decide) (Nat.le_of_ble_eq_true rfl) (fun p9 e9 s m b9 mt9 c9 hx hb hr hml hown hlocks hin hE hB hW ls hl => ?_)
  have hts := hE.ts ([.ref o, .ref g] : List Value).toArray
  have hl : lv_has ls 2 [(0, .ref o), (1, .ref g)] := hl
  have hS : va_S (gw_A G) s.heap s.heap [] := va_S.rf
  have hown : s.vm.findClass "java/util/ArrayList" = some m.cls := hown
  refine lv_aload_n hx hb d_AL_add2_0 rfl (lv_at hl 0 rfl) ?_
  refine lv_dup hx hb d_AL_add2_1 rfl ?_
  refine gw_get (ci := 4) (fs := [.int k, .ref (G.2.2.1 0), .int (nI 0)]) hx hb hts in_AL hown hE.K hW hf_o rfl 0 (by decide) (hts _ mw83) (fun x h9 => u_same (hts _ mw82) x h9) rfl d_AL_add2_2 ?_
  refine lv_iconst (v := 1) hx hb d_AL_add2_5 (by decide) ?_
  refine lv_iadd hx hb d_AL_add2_6 ?_
  refine gw_put (ci := 4) (fs := [.int k, .ref (G.2.2.1 0), .int (nI 0)]) (v := .int (k + 1)) (ty := .int) hx hb hts in_AL t_AL t_AL_ok n_AL hown hE.K hW hS hf_o rfl 0 (by decide) (hts _ mw83) (fun x h9 => u_same (hts _ mw82) x h9) rfl (by decide +kernel) rfl rfl (Nat.le_of_ble_eq_true rfl) d_AL_add2_7 (fun H locs hW hS => ?_)
  have hF1 : gw_fg (gw_out [5, 7]) M (gw_up M o 5 (.inr (4, [.int (k + 1), .ref (G.2.2.1 0), .int (nI 0)]))) := gw_fg.up gw_fg.rf hf_o (show ¬ ((gw_out [5, 7]) 5) by decide) (show ¬ ((gw_out [5, 7]) 5) by decide)
  obtain ⟨M2, eM2⟩ : ∃ z, z = gw_up M o 5 (.inr (4, [.int (k + 1), .ref (G.2.2.1 0), .int (nI 0)])) := ⟨_, rfl⟩
  replace hW : gw_P G.1 vwCl G.2.2.2 M2 H := by rw [eM2]; exact hW
  have hf_g : M2 g = some (9, .inr (2, [.int v1, .int v2, .int v3, .int v4, .int v5])) := by rw [eM2]; exact gw_keep hf_g hf_o (by decide)
  have hf_o : M2 o = some (5, .inr (4, [.int (k + 1), .ref (G.2.2.1 0), .int (nI 0)])) := by rw [eM2]; exact gw_up_self _ _ _ _
  rw [← eM2] at hF1
  refine lv_aload_n hx hb d_AL_add2_10 rfl (lv_at hl 0 rfl) ?_
  refine lv_aload_n hx hb d_AL_add2_11 rfl (lv_at hl 1 rfl) ?_
  refine lv_aload_n hx hb d_AL_add2_12 rfl (lv_at hl 0 rfl) ?_
  refine gw_get (ci := 4) (fs := [.int (k + 1), .ref (G.2.2.1 0), .int (nI 0)]) hx hb hts in_AL hown hE.K hW hf_o rfl 1 (by decide) (hts _ mw5) (fun _ h9 => h9) rfl d_AL_add2_13 ?_
  refine lv_aload_n hx hb d_AL_add2_16 rfl (lv_at hl 0 rfl) ?_
  refine gw_get (ci := 4) (fs := [.int (k + 1), .ref (G.2.2.1 0), .int (nI 0)]) hx hb hts in_AL hown hE.K hW hf_o rfl 2 (by decide) (hts _ mw0) (fun _ h9 => h9) rfl d_AL_add2_17 ?_
  refine gw_callv hS (va_runV (As := [.ref g, .ref (G.2.2.1 0), .int (nI 0)]) (rest := []) ⟨hx, hb, hml, hown, hts⟩ (a_add3K l G M2 o (k + 1) g v1 v2 v3 v4 v5 hf_o hf_g ) (cwV 3 hts (gw_gv mw85 mw86 mw87 mw14 mw84) rfl rfl rfl (by decide +kernel) ⟨Nat.le_of_ble_eq_true rfl, Nat.le_of_ble_eq_true rfl⟩) (gw_pv hE hB hS hW rfl hf_o) rfl rfl hl.1 rfl (lv_room (Nat.le_of_ble_eq_true rfl)) d_AL_add2_20 ⟨Nat.le_of_ble_eq_true rfl, Nat.le_of_ble_eq_true rfl⟩) (fun M4 H locs hw5 hW hS => ?_)
  refine W.widen (k := 1) (n := 10) (Nat.le_refl _) (Nat.le_refl _) ?_
  obtain ⟨ar6, hf_o', hf_ar6', hfr7⟩ := hw5
  have hf_g : M4 g = some (9, .inr (2, [.int v1, .int v2, .int v3, .int v4, .int v5])) := (hfr7.1 _ _ _ (by decide)).mp hf_g
  have hf_o : M4 o = some (5, .inr (4, [.int (k + 1), .ref ar6, .int ((nI 0) + 1)])) := hf_o'
  have hf_ar6 : M4 ar6 = some (7, .inl (G.2.1 1, 10, .inr (.inr (.inr (.inr (va_up (fun _ => none) (nI 0 : Int32).toNatClampNeg (some g))))))) := hf_ar6'
  have hF8 : gw_fg (gw_out [5, 7]) M M4 := gw_fg.tr hF1 (gw_fg.wk hfr7 (by decide))
  refine lv_iconst (v := 1) hx hb d_AL_add2_23 (by decide) ?_
  exact gw_zret hx hb hr hlocks rfl hS hW (Nat.le_of_ble_eq_true rfl) (Nat.le_of_ble_eq_true rfl) d_AL_add2_24 (⟨ar6, rfl, hf_o, hf_ar6, hF8⟩)

set_option maxHeartbeats 4000000 in
set_option maxRecDepth 100000 in
theorem a_growIJ (l : Launch) (G : gw_G) (M : gw_M) (o : Nat) (k : Int32) (hf_o : M o = some (4, .inr (4, [.int k, .ref (G.2.2.1 0), .int (nI 0)]))) : Met l y_AL_grow [.code y_AL_grow b_AL_grow 4 (some (.array (.object "java/lang/Object")))] ({ frames := 1, cells := 1, slots := 10, locals := 14 }) (gw_Pc G M [.ref o, .int ((nI 0) + 1)]) (gw_Qr G (fun r M2 => ∃ (ar : Nat), ar = r ∧ M2 o = some (4, .inr (4, [.int k, .ref ar, .int (nI 0)])) ∧ M2 ar = some (6, .inl (G.2.1 1, 10, .inr (.inr (.inr (.inr (fun _ => none)))))) ∧ gw_fg (gw_out [4, 6]) M M2)) 1 10 (gw_A G) := by
  refine gw_start (by decide) (Nat.le_of_ble_eq_true rfl) (fun p9 e9 s m b9 mt9 c9 hx hb hr hml hown hlocks hin hE hB hW ls hl => ?_)
  have hts := hE.ts ([.ref o, .int ((nI 0) + 1)] : List Value).toArray
  have hl : lv_has ls 4 [(0, .ref o), (1, .int ((nI 0) + 1))] := hl
  have hS : va_S (gw_A G) s.heap s.heap [] := va_S.rf
  have hown : s.vm.findClass "java/util/ArrayList" = some m.cls := hown
  refine lv_aload_n hx hb d_AL_grow_0 rfl (lv_at hl 0 rfl) ?_
  refine gw_get (ci := 4) (fs := [.int k, .ref (G.2.2.1 0), .int (nI 0)]) hx hb hts in_AL hown hE.K hW hf_o rfl 1 (by decide) (hts _ mw5) (fun _ h9 => h9) rfl d_AL_grow_1 ?_
  refine va_tlen (v := 0) hx hb hE.2.2.2.1 hS rfl d_AL_grow_4 ?_
  refine lv_istore_n (lv' := [(2, .int 0), (0, .ref o), (1, .int ((nI 0) + 1))]) hx hb d_AL_grow_5 rfl hl (by decide) rfl (fun ls hl => ?_)
  refine lv_iload_n hx hb d_AL_grow_6 rfl (lv_at hl 0 rfl) ?_
  refine lv_if_gt (tgt := 20) hx hb d_AL_grow_7 (by decide) (fun c7 => ?_) (fun c7 => ?_)
  · exact absurd c7 (by decide)
  · refine lv_aload_n hx hb d_AL_grow_10 rfl (lv_at hl 1 rfl) ?_
    refine gw_get (ci := 4) (fs := [.int k, .ref (G.2.2.1 0), .int (nI 0)]) hx hb hts in_AL hown hE.K hW hf_o rfl 1 (by decide) (hts _ mw5) (fun _ h9 => h9) rfl d_AL_grow_11 ?_
    refine va_gets hx hb hE.2.2.1 hS hown (hts _ mw67) (fun _ h9 => h9) d_AL_grow_14 ?_
    refine lv_acmp_eq (rx := some (G.2.2.1 0)) (ry := some (G.2.2.1 0)) (tgt := 45) hx hb d_AL_grow_17 (by decide) (fun c17 => ?_) (fun c17 => ?_)
    · refine lv_aload_n hx hb d_AL_grow_45 rfl (lv_at hl 1 rfl) ?_
      refine lv_bipush (v := 10) hx hb d_AL_grow_46 (by decide) ?_
      refine lv_iload_n hx hb d_AL_grow_48 rfl (lv_at hl 2 rfl) ?_
      refine va_mmax (x := 10) (y := (nI 0) + 1) hx hb (hml.trans hl.1.symm) hown (hts _ mw68) (hts _ mw69) (hts _ mw70) (hts _ mw71) (Nat.le_of_ble_eq_true rfl) (Nat.le_of_ble_eq_true rfl) (Nat.le_of_ble_eq_true rfl) (Nat.le_of_ble_eq_true rfl) d_AL_grow_49 ?_
      refine gw_newq (N' := 10) hx hb hown (hts _ mw72) hE.ao hE.K hW hS hB (by decide) (by decide) (Nat.le_of_ble_eq_true rfl) (Nat.le_of_ble_eq_true rfl) (Nat.le_of_ble_eq_true rfl) d_AL_grow_52 1 rfl 6 (fun q1 H hq2 hW hS => ?_)
      refine W.widen (k := 1) (n := 10) (Nat.le_refl _) (Nat.le_refl _) ?_
      have hF3 : gw_fg (gw_out [4, 6]) M (gw_up M q1 6 (.inl (G.2.1 1, 10, .inr (.inr (.inr (.inr (fun _ => none))))))) := gw_fg.new gw_fg.rf hq2 (show ¬ ((gw_out [4, 6]) 6) by decide)
      obtain ⟨M4, eM4⟩ : ∃ z, z = gw_up M q1 6 (.inl (G.2.1 1, 10, .inr (.inr (.inr (.inr (fun _ => none)))))) := ⟨_, rfl⟩
      replace hW : gw_P G.1 vwCl G.2.2.2 M4 H := by rw [eM4]; exact hW
      have hf_o : M4 o = some (4, .inr (4, [.int k, .ref (G.2.2.1 0), .int (nI 0)])) := by rw [eM4]; exact gw_keepN hf_o hq2
      have hf_q1 : M4 q1 = some (6, .inl (G.2.1 1, 10, .inr (.inr (.inr (.inr (fun _ => none)))))) := by rw [eM4]; exact gw_up_self _ _ _ _
      rw [← eM4] at hF3
      refine lv_dup_x1 hx hb d_AL_grow_55 rfl rfl ?_
      refine gw_put (ci := 4) (fs := [.int k, .ref (G.2.2.1 0), .int (nI 0)]) (v := .ref q1) (ty := .array (.object "java/lang/Object")) hx hb hts in_AL t_AL t_AL_ok n_AL hown hE.K hW hS hf_o rfl 1 (by decide) (hts _ mw5) (fun _ h9 => h9) rfl (by decide +kernel) rfl rfl (Nat.le_of_ble_eq_true rfl) d_AL_grow_56 (fun H locs hW hS => ?_)
      have hF5 : gw_fg (gw_out [4, 6]) M (gw_up M4 o 4 (.inr (4, [.int k, .ref q1, .int (nI 0)]))) := gw_fg.up hF3 hf_o (show ¬ ((gw_out [4, 6]) 4) by decide) (show ¬ ((gw_out [4, 6]) 4) by decide)
      obtain ⟨M6, eM6⟩ : ∃ z, z = gw_up M4 o 4 (.inr (4, [.int k, .ref q1, .int (nI 0)])) := ⟨_, rfl⟩
      replace hW : gw_P G.1 vwCl G.2.2.2 M6 H := by rw [eM6]; exact hW
      have hf_q1 : M6 q1 = some (6, .inl (G.2.1 1, 10, .inr (.inr (.inr (.inr (fun _ => none)))))) := by rw [eM6]; exact gw_keep hf_q1 hf_o (by decide)
      have hf_o : M6 o = some (4, .inr (4, [.int k, .ref q1, .int (nI 0)])) := by rw [eM6]; exact gw_up_self _ _ _ _
      rw [← eM6] at hF5
      exact gw_aret hx hb hr hlocks (Or.inr ⟨_, rfl⟩) hS hW (Nat.le_of_ble_eq_true rfl) (Nat.le_of_ble_eq_true rfl) d_AL_grow_59 (⟨q1, rfl, hf_o, hf_q1, hF5⟩)
    · exact absurd rfl c17

set_option maxHeartbeats 4000000 in
set_option maxRecDepth 100000 in
theorem a_growJ (l : Launch) (G : gw_G) (M : gw_M) (o : Nat) (k : Int32) (hf_o : M o = some (4, .inr (4, [.int k, .ref (G.2.2.1 0), .int (nI 0)]))) : Met l y_AL_grow2 [.code y_AL_grow2 b_AL_grow2 1 (some (.array (.object "java/lang/Object")))] ({ frames := 2, cells := 1, slots := 10, locals := 37 }) (gw_Pc G M [.ref o]) (gw_Qr G (fun r M2 => ∃ (ar : Nat), ar = r ∧ M2 o = some (4, .inr (4, [.int k, .ref ar, .int (nI 0)])) ∧ M2 ar = some (6, .inl (G.2.1 1, 10, .inr (.inr (.inr (.inr (fun _ => none)))))) ∧ gw_fg (gw_out [4, 6]) M M2)) 1 10 (gw_A G) := by
  refine gw_start (by decide) (Nat.le_of_ble_eq_true rfl) (fun p9 e9 s m b9 mt9 c9 hx hb hr hml hown hlocks hin hE hB hW ls hl => ?_)
  have hts := hE.ts ([.ref o] : List Value).toArray
  have hl : lv_has ls 1 [(0, .ref o)] := hl
  have hS : va_S (gw_A G) s.heap s.heap [] := va_S.rf
  have hown : s.vm.findClass "java/util/ArrayList" = some m.cls := hown
  refine lv_aload_n hx hb d_AL_grow2_0 rfl (lv_at hl 0 rfl) ?_
  refine lv_aload_n hx hb d_AL_grow2_1 rfl (lv_at hl 0 rfl) ?_
  refine gw_get (ci := 4) (fs := [.int k, .ref (G.2.2.1 0), .int (nI 0)]) hx hb hts in_AL hown hE.K hW hf_o rfl 2 (by decide) (hts _ mw0) (fun _ h9 => h9) rfl d_AL_grow2_2 ?_
  refine lv_iconst (v := 1) hx hb d_AL_grow2_5 (by decide) ?_
  refine lv_iadd hx hb d_AL_grow2_6 ?_
  refine gw_callr hS (va_runV (As := [.int ((nI 0) + 1)]) (rest := []) ⟨hx, hb, hml, hown, hts⟩ (a_growIJ l G M o k hf_o ) (cwV 1 hts (gw_gv mw74 mw75 mw76 mw14 mw73) rfl rfl rfl (by decide +kernel) ⟨Nat.le_of_ble_eq_true rfl, Nat.le_of_ble_eq_true rfl⟩) (gw_pv hE hB hS hW rfl hf_o) rfl rfl hl.1 rfl (lv_room (Nat.le_of_ble_eq_true rfl)) d_AL_grow2_7 ⟨Nat.le_of_ble_eq_true rfl, Nat.le_of_ble_eq_true rfl⟩) (fun r1 M2 H locs hw3 hW hS => ?_)
  refine W.widen (k := 1) (n := 10) (Nat.le_refl _) (Nat.le_refl _) ?_
  obtain ⟨ar4, rfl, hf_o', hf_ar4', hfr5⟩ := hw3
  have hf_o : M2 o = some (4, .inr (4, [.int k, .ref ar4, .int (nI 0)])) := hf_o'
  have hf_ar4 : M2 ar4 = some (6, .inl (G.2.1 1, 10, .inr (.inr (.inr (.inr (fun _ => none)))))) := hf_ar4'
  have hF6 : gw_fg (gw_out [4, 6]) M M2 := gw_fg.tr gw_fg.rf (gw_fg.wk hfr5 (by decide))
  exact gw_aret hx hb hr hlocks (Or.inr ⟨_, rfl⟩) hS hW (Nat.le_of_ble_eq_true rfl) (Nat.le_of_ble_eq_true rfl) d_AL_grow2_10 (⟨ar4, rfl, hf_o, hf_ar4, hF6⟩)

set_option maxHeartbeats 4000000 in
set_option maxRecDepth 100000 in
theorem a_add3J (l : Launch) (G : gw_G) (M : gw_M) (o : Nat) (k : Int32) (g : Nat) (v1 : Nat) (v2 : Int32) (hf_o : M o = some (4, .inr (4, [.int k, .ref (G.2.2.1 0), .int (nI 0)]))) (hf_g : M g = some (10, .inr (3, [.ref v1, .int v2]))) : Met l y_AL_add [.code y_AL_add b_AL_add 4 none] ({ frames := 3, cells := 1, slots := 10, locals := 57 }) (gw_Pc G M [.ref o, .ref g, .ref (G.2.2.1 0), .int (nI 0)]) (gw_Qv G (fun M2 => ∃ (ar : Nat), M2 o = some (4, .inr (4, [.int k, .ref ar, .int ((nI 0) + 1)])) ∧ M2 ar = some (6, .inl (G.2.1 1, 10, .inr (.inr (.inr (.inr (va_up (fun _ => none) (nI 0 : Int32).toNatClampNeg (some g))))))) ∧ gw_fg (gw_out [4, 6]) M M2)) 1 10 (gw_A G) := by
  refine gw_start (by decide) (Nat.le_of_ble_eq_true rfl) (fun p9 e9 s m b9 mt9 c9 hx hb hr hml hown hlocks hin hE hB hW ls hl => ?_)
  have hts := hE.ts ([.ref o, .ref g, .ref (G.2.2.1 0), .int (nI 0)] : List Value).toArray
  have hl : lv_has ls 4 [(0, .ref o), (1, .ref g), (2, .ref (G.2.2.1 0)), (3, .int (nI 0))] := hl
  have hS : va_S (gw_A G) s.heap s.heap [] := va_S.rf
  have hown : s.vm.findClass "java/util/ArrayList" = some m.cls := hown
  refine lv_iload_n hx hb d_AL_add_0 rfl (lv_at hl 3 rfl) ?_
  refine lv_aload_n hx hb d_AL_add_1 rfl (lv_at hl 2 rfl) ?_
  refine va_tlen (v := 0) hx hb hE.2.2.2.1 hS rfl d_AL_add_2 ?_
  refine lv_icmp_ne (tgt := 11) hx hb d_AL_add_3 (by decide) (fun c3 => ?_) (fun c3 => ?_)
  · exact absurd (by decide) c3
  · refine lv_aload_n hx hb d_AL_add_6 rfl (lv_at hl 0 rfl) ?_
    refine gw_callr hS (va_runV (As := []) (rest := []) ⟨hx, hb, hml, hown, hts⟩ (a_growJ l G M o k hf_o ) (cwV 0 hts (gw_gv mw78 mw79 mw80 mw14 mw77) rfl rfl rfl (by decide +kernel) ⟨Nat.le_of_ble_eq_true rfl, Nat.le_of_ble_eq_true rfl⟩) (gw_pv hE hB hS hW rfl hf_o) rfl rfl hl.1 rfl (lv_room (Nat.le_of_ble_eq_true rfl)) d_AL_add_7 ⟨Nat.le_of_ble_eq_true rfl, Nat.le_of_ble_eq_true rfl⟩) (fun r1 M2 H locs hw3 hW hS => ?_)
    refine W.widen (k := 1) (n := 10) (Nat.le_refl _) (Nat.le_refl _) ?_
    obtain ⟨ar4, rfl, hf_o', hf_ar4', hfr5⟩ := hw3
    have hf_g : M2 g = some (10, .inr (3, [.ref v1, .int v2])) := (hfr5.1 _ _ _ (by decide)).mp hf_g
    have hf_o : M2 o = some (4, .inr (4, [.int k, .ref ar4, .int (nI 0)])) := hf_o'
    have hf_ar4 : M2 ar4 = some (6, .inl (G.2.1 1, 10, .inr (.inr (.inr (.inr (fun _ => none)))))) := hf_ar4'
    have hF6 : gw_fg (gw_out [4, 6]) M M2 := gw_fg.tr gw_fg.rf (gw_fg.wk hfr5 (by decide))
    refine lv_astore_n (lv' := [(2, .ref ar4), (0, .ref o), (1, .ref g), (3, .int (nI 0))]) hx hb d_AL_add_10 rfl hl (by decide) rfl (fun ls hl => ?_)
    refine lv_aload_n hx hb d_AL_add_11 rfl (lv_at hl 0 rfl) ?_
    refine lv_iload_n hx hb d_AL_add_12 rfl (lv_at hl 3 rfl) ?_
    refine lv_aload_n hx hb d_AL_add_13 rfl (lv_at hl 2 rfl) ?_
    refine gw_aastO (i := nI 0) (v := g) hx hb hE.K hW hS 1 3 hf_ar4 rfl (hE.nw mw88) hf_g rfl (show ¬ (nI 0 < 0 ∨ 10 ≤ (nI 0).toNatClampNeg) by decide) d_AL_add_14 (fun H locs hW hS => ?_)
    have hF7 : gw_fg (gw_out [4, 6]) M (gw_up M2 ar4 6 (.inl (G.2.1 1, 10, .inr (.inr (.inr (.inr (va_up (fun _ => none) (nI 0 : Int32).toNatClampNeg (some g)))))))) := gw_fg.up hF6 hf_ar4 (show ¬ ((gw_out [4, 6]) 6) by decide) (show ¬ ((gw_out [4, 6]) 6) by decide)
    obtain ⟨M8, eM8⟩ : ∃ z, z = gw_up M2 ar4 6 (.inl (G.2.1 1, 10, .inr (.inr (.inr (.inr (va_up (fun _ => none) (nI 0 : Int32).toNatClampNeg (some g))))))) := ⟨_, rfl⟩
    replace hW : gw_P G.1 vwCl G.2.2.2 M8 H := by rw [eM8]; exact hW
    have hf_o : M8 o = some (4, .inr (4, [.int k, .ref ar4, .int (nI 0)])) := by rw [eM8]; exact gw_keep hf_o hf_ar4 (by decide)
    have hf_g : M8 g = some (10, .inr (3, [.ref v1, .int v2])) := by rw [eM8]; exact gw_keep hf_g hf_ar4 (by decide)
    have hf_ar4 : M8 ar4 = some (6, .inl (G.2.1 1, 10, .inr (.inr (.inr (.inr (va_up (fun _ => none) (nI 0 : Int32).toNatClampNeg (some g))))))) := by rw [eM8]; exact gw_up_self _ _ _ _
    rw [← eM8] at hF7
    refine lv_aload_n hx hb d_AL_add_15 rfl (lv_at hl 1 rfl) ?_
    refine lv_iload_n hx hb d_AL_add_16 rfl (lv_at hl 3 rfl) ?_
    refine lv_iconst (v := 1) hx hb d_AL_add_17 (by decide) ?_
    refine lv_iadd hx hb d_AL_add_18 ?_
    refine gw_put (ci := 4) (fs := [.int k, .ref ar4, .int (nI 0)]) (v := .int ((nI 0) + 1)) (ty := .int) hx hb hts in_AL t_AL t_AL_ok n_AL hown hE.K hW hS hf_o rfl 2 (by decide) (hts _ mw0) (fun _ h9 => h9) rfl (by decide +kernel) rfl rfl (Nat.le_of_ble_eq_true rfl) d_AL_add_19 (fun H locs hW hS => ?_)
    have hF9 : gw_fg (gw_out [4, 6]) M (gw_up M8 o 4 (.inr (4, [.int k, .ref ar4, .int ((nI 0) + 1)]))) := gw_fg.up hF7 hf_o (show ¬ ((gw_out [4, 6]) 4) by decide) (show ¬ ((gw_out [4, 6]) 4) by decide)
    obtain ⟨M10, eM10⟩ : ∃ z, z = gw_up M8 o 4 (.inr (4, [.int k, .ref ar4, .int ((nI 0) + 1)])) := ⟨_, rfl⟩
    replace hW : gw_P G.1 vwCl G.2.2.2 M10 H := by rw [eM10]; exact hW
    have hf_g : M10 g = some (10, .inr (3, [.ref v1, .int v2])) := by rw [eM10]; exact gw_keep hf_g hf_o (by decide)
    have hf_ar4 : M10 ar4 = some (6, .inl (G.2.1 1, 10, .inr (.inr (.inr (.inr (va_up (fun _ => none) (nI 0 : Int32).toNatClampNeg (some g))))))) := by rw [eM10]; exact gw_keep hf_ar4 hf_o (by decide)
    have hf_o : M10 o = some (4, .inr (4, [.int k, .ref ar4, .int ((nI 0) + 1)])) := by rw [eM10]; exact gw_up_self _ _ _ _
    rw [← eM10] at hF9
    exact gw_vret hx hb hr hlocks hS hW (Nat.le_of_ble_eq_true rfl) (Nat.le_of_ble_eq_true rfl) d_AL_add_22 (⟨ar4, hf_o, hf_ar4, hF9⟩)

set_option maxHeartbeats 4000000 in
set_option maxRecDepth 100000 in
theorem a_addJ (l : Launch) (G : gw_G) (M : gw_M) (o : Nat) (k : Int32) (g : Nat) (v1 : Nat) (v2 : Int32) (hf_o : M o = some (4, .inr (4, [.int k, .ref (G.2.2.1 0), .int (nI 0)]))) (hf_g : M g = some (10, .inr (3, [.ref v1, .int v2]))) : Met l y_AL_add2 [.code y_AL_add2 b_AL_add2 2 (some .boolean)] ({ frames := 6, cells := 1, slots := 1000, locals := 200 }) (gw_Pc G M [.ref o, .ref g]) (gw_Qi G (fun r M2 => ∃ (ar : Nat), 1 = r ∧ M2 o = some (4, .inr (4, [.int (k + 1), .ref ar, .int ((nI 0) + 1)])) ∧ M2 ar = some (6, .inl (G.2.1 1, 10, .inr (.inr (.inr (.inr (va_up (fun _ => none) (nI 0 : Int32).toNatClampNeg (some g))))))) ∧ gw_fg (gw_out [4, 6]) M M2)) 1 1000 (gw_A G) := by
  refine gw_start (by decide) (Nat.le_of_ble_eq_true rfl) (fun p9 e9 s m b9 mt9 c9 hx hb hr hml hown hlocks hin hE hB hW ls hl => ?_)
  have hts := hE.ts ([.ref o, .ref g] : List Value).toArray
  have hl : lv_has ls 2 [(0, .ref o), (1, .ref g)] := hl
  have hS : va_S (gw_A G) s.heap s.heap [] := va_S.rf
  have hown : s.vm.findClass "java/util/ArrayList" = some m.cls := hown
  refine lv_aload_n hx hb d_AL_add2_0 rfl (lv_at hl 0 rfl) ?_
  refine lv_dup hx hb d_AL_add2_1 rfl ?_
  refine gw_get (ci := 4) (fs := [.int k, .ref (G.2.2.1 0), .int (nI 0)]) hx hb hts in_AL hown hE.K hW hf_o rfl 0 (by decide) (hts _ mw83) (fun x h9 => u_same (hts _ mw82) x h9) rfl d_AL_add2_2 ?_
  refine lv_iconst (v := 1) hx hb d_AL_add2_5 (by decide) ?_
  refine lv_iadd hx hb d_AL_add2_6 ?_
  refine gw_put (ci := 4) (fs := [.int k, .ref (G.2.2.1 0), .int (nI 0)]) (v := .int (k + 1)) (ty := .int) hx hb hts in_AL t_AL t_AL_ok n_AL hown hE.K hW hS hf_o rfl 0 (by decide) (hts _ mw83) (fun x h9 => u_same (hts _ mw82) x h9) rfl (by decide +kernel) rfl rfl (Nat.le_of_ble_eq_true rfl) d_AL_add2_7 (fun H locs hW hS => ?_)
  have hF1 : gw_fg (gw_out [4, 6]) M (gw_up M o 4 (.inr (4, [.int (k + 1), .ref (G.2.2.1 0), .int (nI 0)]))) := gw_fg.up gw_fg.rf hf_o (show ¬ ((gw_out [4, 6]) 4) by decide) (show ¬ ((gw_out [4, 6]) 4) by decide)
  obtain ⟨M2, eM2⟩ : ∃ z, z = gw_up M o 4 (.inr (4, [.int (k + 1), .ref (G.2.2.1 0), .int (nI 0)])) := ⟨_, rfl⟩
  replace hW : gw_P G.1 vwCl G.2.2.2 M2 H := by rw [eM2]; exact hW
  have hf_g : M2 g = some (10, .inr (3, [.ref v1, .int v2])) := by rw [eM2]; exact gw_keep hf_g hf_o (by decide)
  have hf_o : M2 o = some (4, .inr (4, [.int (k + 1), .ref (G.2.2.1 0), .int (nI 0)])) := by rw [eM2]; exact gw_up_self _ _ _ _
  rw [← eM2] at hF1
  refine lv_aload_n hx hb d_AL_add2_10 rfl (lv_at hl 0 rfl) ?_
  refine lv_aload_n hx hb d_AL_add2_11 rfl (lv_at hl 1 rfl) ?_
  refine lv_aload_n hx hb d_AL_add2_12 rfl (lv_at hl 0 rfl) ?_
  refine gw_get (ci := 4) (fs := [.int (k + 1), .ref (G.2.2.1 0), .int (nI 0)]) hx hb hts in_AL hown hE.K hW hf_o rfl 1 (by decide) (hts _ mw5) (fun _ h9 => h9) rfl d_AL_add2_13 ?_
  refine lv_aload_n hx hb d_AL_add2_16 rfl (lv_at hl 0 rfl) ?_
  refine gw_get (ci := 4) (fs := [.int (k + 1), .ref (G.2.2.1 0), .int (nI 0)]) hx hb hts in_AL hown hE.K hW hf_o rfl 2 (by decide) (hts _ mw0) (fun _ h9 => h9) rfl d_AL_add2_17 ?_
  refine gw_callv hS (va_runV (As := [.ref g, .ref (G.2.2.1 0), .int (nI 0)]) (rest := []) ⟨hx, hb, hml, hown, hts⟩ (a_add3J l G M2 o (k + 1) g v1 v2 hf_o hf_g ) (cwV 3 hts (gw_gv mw85 mw86 mw87 mw14 mw84) rfl rfl rfl (by decide +kernel) ⟨Nat.le_of_ble_eq_true rfl, Nat.le_of_ble_eq_true rfl⟩) (gw_pv hE hB hS hW rfl hf_o) rfl rfl hl.1 rfl (lv_room (Nat.le_of_ble_eq_true rfl)) d_AL_add2_20 ⟨Nat.le_of_ble_eq_true rfl, Nat.le_of_ble_eq_true rfl⟩) (fun M4 H locs hw5 hW hS => ?_)
  refine W.widen (k := 1) (n := 10) (Nat.le_refl _) (Nat.le_refl _) ?_
  obtain ⟨ar6, hf_o', hf_ar6', hfr7⟩ := hw5
  have hf_g : M4 g = some (10, .inr (3, [.ref v1, .int v2])) := (hfr7.1 _ _ _ (by decide)).mp hf_g
  have hf_o : M4 o = some (4, .inr (4, [.int (k + 1), .ref ar6, .int ((nI 0) + 1)])) := hf_o'
  have hf_ar6 : M4 ar6 = some (6, .inl (G.2.1 1, 10, .inr (.inr (.inr (.inr (va_up (fun _ => none) (nI 0 : Int32).toNatClampNeg (some g))))))) := hf_ar6'
  have hF8 : gw_fg (gw_out [4, 6]) M M4 := gw_fg.tr hF1 (gw_fg.wk hfr7 (by decide))
  refine lv_iconst (v := 1) hx hb d_AL_add2_23 (by decide) ?_
  exact gw_zret hx hb hr hlocks rfl hS hW (Nat.le_of_ble_eq_true rfl) (Nat.le_of_ble_eq_true rfl) d_AL_add2_24 (⟨ar6, rfl, hf_o, hf_ar6, hF8⟩)

set_option maxHeartbeats 4000000 in
set_option maxRecDepth 100000 in
theorem b_add3K (l : Launch) (G : gw_G) (M : gw_M) (o : Nat) (k : Int32) (a : Nat) (n : Nat) (cap : Nat) (f : Nat → Option Nat) (g : Nat) (v1 : Int32) (v2 : Int32) (v3 : Int32) (v4 : Int32) (v5 : Int32) (hf_o : M o = some (5, .inr (4, [.int k, .ref a, .int (nI n)]))) (hf_a : M a = some (7, .inl (G.2.1 1, cap, .inr (.inr (.inr (.inr f)))))) (hf_g : M g = some (9, .inr (2, [.int v1, .int v2, .int v3, .int v4, .int v5]))) (hn : n < cap) (hc : cap ≤ 1000) : Met l y_AL_add [.code y_AL_add b_AL_add 4 none] ({ frames := 0, cells := 0, slots := 0, locals := 0 }) (gw_Pc G M [.ref o, .ref g, .ref a, .int (nI n)]) (gw_Qv G (fun M2 => M2 o = some (5, .inr (4, [.int k, .ref a, .int ((nI n) + 1)])) ∧ M2 a = some (7, .inl (G.2.1 1, cap, .inr (.inr (.inr (.inr (va_up f (nI n : Int32).toNatClampNeg (some g))))))) ∧ gw_fg (gw_out [5, 7]) M M2)) 0 0 (gw_A G) := by
  refine gw_start (by decide) (Nat.le_of_ble_eq_true rfl) (fun p9 e9 s m b9 mt9 c9 hx hb hr hml hown hlocks hin hE hB hW ls hl => ?_)
  have hts := hE.ts ([.ref o, .ref g, .ref a, .int (nI n)] : List Value).toArray
  have hl : lv_has ls 4 [(0, .ref o), (1, .ref g), (2, .ref a), (3, .int (nI n))] := hl
  have hS : va_S (gw_A G) s.heap s.heap [] := va_S.rf
  have hown : s.vm.findClass "java/util/ArrayList" = some m.cls := hown
  refine lv_iload_n hx hb d_AL_add_0 rfl (lv_at hl 3 rfl) ?_
  refine lv_aload_n hx hb d_AL_add_1 rfl (lv_at hl 2 rfl) ?_
  refine gw_alen (v := nI cap) hx hb hE.K hW 1 hf_a rfl rfl d_AL_add_2 ?_
  refine lv_icmp_ne (tgt := 11) hx hb d_AL_add_3 (by decide) (fun c3 => ?_) (fun c3 => ?_)
  · refine lv_aload_n hx hb d_AL_add_11 rfl (lv_at hl 2 rfl) ?_
    refine lv_iload_n hx hb d_AL_add_12 rfl (lv_at hl 3 rfl) ?_
    refine lv_aload_n hx hb d_AL_add_13 rfl (lv_at hl 1 rfl) ?_
    refine gw_aastO (i := nI n) (v := g) hx hb hE.K hW hS 1 2 hf_a rfl (hE.nw mw81) hf_g rfl (vp_in_nI hn (by omega)) d_AL_add_14 (fun H locs hW hS => ?_)
    have hF1 : gw_fg (gw_out [5, 7]) M (gw_up M a 7 (.inl (G.2.1 1, cap, .inr (.inr (.inr (.inr (va_up f (nI n : Int32).toNatClampNeg (some g)))))))) := gw_fg.up gw_fg.rf hf_a (show ¬ ((gw_out [5, 7]) 7) by decide) (show ¬ ((gw_out [5, 7]) 7) by decide)
    obtain ⟨M2, eM2⟩ : ∃ z, z = gw_up M a 7 (.inl (G.2.1 1, cap, .inr (.inr (.inr (.inr (va_up f (nI n : Int32).toNatClampNeg (some g))))))) := ⟨_, rfl⟩
    replace hW : gw_P G.1 vwCl G.2.2.2 M2 H := by rw [eM2]; exact hW
    have hf_o : M2 o = some (5, .inr (4, [.int k, .ref a, .int (nI n)])) := by rw [eM2]; exact gw_keep hf_o hf_a (by decide)
    have hf_g : M2 g = some (9, .inr (2, [.int v1, .int v2, .int v3, .int v4, .int v5])) := by rw [eM2]; exact gw_keep hf_g hf_a (by decide)
    have hf_a : M2 a = some (7, .inl (G.2.1 1, cap, .inr (.inr (.inr (.inr (va_up f (nI n : Int32).toNatClampNeg (some g))))))) := by rw [eM2]; exact gw_up_self _ _ _ _
    rw [← eM2] at hF1
    refine lv_aload_n hx hb d_AL_add_15 rfl (lv_at hl 0 rfl) ?_
    refine lv_iload_n hx hb d_AL_add_16 rfl (lv_at hl 3 rfl) ?_
    refine lv_iconst (v := 1) hx hb d_AL_add_17 (by decide) ?_
    refine lv_iadd hx hb d_AL_add_18 ?_
    refine gw_put (ci := 4) (fs := [.int k, .ref a, .int (nI n)]) (v := .int ((nI n) + 1)) (ty := .int) hx hb hts in_AL t_AL t_AL_ok n_AL hown hE.K hW hS hf_o rfl 2 (by decide) (hts _ mw0) (fun _ h9 => h9) rfl (by decide +kernel) rfl rfl (Nat.le_of_ble_eq_true rfl) d_AL_add_19 (fun H locs hW hS => ?_)
    have hF3 : gw_fg (gw_out [5, 7]) M (gw_up M2 o 5 (.inr (4, [.int k, .ref a, .int ((nI n) + 1)]))) := gw_fg.up hF1 hf_o (show ¬ ((gw_out [5, 7]) 5) by decide) (show ¬ ((gw_out [5, 7]) 5) by decide)
    obtain ⟨M4, eM4⟩ : ∃ z, z = gw_up M2 o 5 (.inr (4, [.int k, .ref a, .int ((nI n) + 1)])) := ⟨_, rfl⟩
    replace hW : gw_P G.1 vwCl G.2.2.2 M4 H := by rw [eM4]; exact hW
    have hf_g : M4 g = some (9, .inr (2, [.int v1, .int v2, .int v3, .int v4, .int v5])) := by rw [eM4]; exact gw_keep hf_g hf_o (by decide)
    have hf_a : M4 a = some (7, .inl (G.2.1 1, cap, .inr (.inr (.inr (.inr (va_up f (nI n : Int32).toNatClampNeg (some g))))))) := by rw [eM4]; exact gw_keep hf_a hf_o (by decide)
    have hf_o : M4 o = some (5, .inr (4, [.int k, .ref a, .int ((nI n) + 1)])) := by rw [eM4]; exact gw_up_self _ _ _ _
    rw [← eM4] at hF3
    exact gw_vret hx hb hr hlocks hS hW (Nat.le_of_ble_eq_true rfl) (Nat.le_of_ble_eq_true rfl) d_AL_add_22 (⟨hf_o, hf_a, hF3⟩)
  · exact absurd ((nI_eq (by omega) (by omega)).mp c3) (by omega)

set_option maxHeartbeats 4000000 in
set_option maxRecDepth 100000 in
theorem b_addK (l : Launch) (G : gw_G) (M : gw_M) (o : Nat) (k : Int32) (a : Nat) (n : Nat) (cap : Nat) (f : Nat → Option Nat) (g : Nat) (v1 : Int32) (v2 : Int32) (v3 : Int32) (v4 : Int32) (v5 : Int32) (hf_o : M o = some (5, .inr (4, [.int k, .ref a, .int (nI n)]))) (hf_a : M a = some (7, .inl (G.2.1 1, cap, .inr (.inr (.inr (.inr f)))))) (hf_g : M g = some (9, .inr (2, [.int v1, .int v2, .int v3, .int v4, .int v5]))) (hn : n < cap) (hc : cap ≤ 1000) : Met l y_AL_add2 [.code y_AL_add2 b_AL_add2 2 (some .boolean)] ({ frames := 6, cells := 1, slots := 1000, locals := 200 }) (gw_Pc G M [.ref o, .ref g]) (gw_Qi G (fun r M2 => 1 = r ∧ M2 o = some (5, .inr (4, [.int (k + 1), .ref a, .int ((nI n) + 1)])) ∧ M2 a = some (7, .inl (G.2.1 1, cap, .inr (.inr (.inr (.inr (va_up f (nI n : Int32).toNatClampNeg (some g))))))) ∧ gw_fg (gw_out [5, 7]) M M2)) 1 1000 (gw_A G) := by
  refine gw_start (by decide) (Nat.le_of_ble_eq_true rfl) (fun p9 e9 s m b9 mt9 c9 hx hb hr hml hown hlocks hin hE hB hW ls hl => ?_)
  have hts := hE.ts ([.ref o, .ref g] : List Value).toArray
  have hl : lv_has ls 2 [(0, .ref o), (1, .ref g)] := hl
  have hS : va_S (gw_A G) s.heap s.heap [] := va_S.rf
  have hown : s.vm.findClass "java/util/ArrayList" = some m.cls := hown
  refine lv_aload_n hx hb d_AL_add2_0 rfl (lv_at hl 0 rfl) ?_
  refine lv_dup hx hb d_AL_add2_1 rfl ?_
  refine gw_get (ci := 4) (fs := [.int k, .ref a, .int (nI n)]) hx hb hts in_AL hown hE.K hW hf_o rfl 0 (by decide) (hts _ mw83) (fun x h9 => u_same (hts _ mw82) x h9) rfl d_AL_add2_2 ?_
  refine lv_iconst (v := 1) hx hb d_AL_add2_5 (by decide) ?_
  refine lv_iadd hx hb d_AL_add2_6 ?_
  refine gw_put (ci := 4) (fs := [.int k, .ref a, .int (nI n)]) (v := .int (k + 1)) (ty := .int) hx hb hts in_AL t_AL t_AL_ok n_AL hown hE.K hW hS hf_o rfl 0 (by decide) (hts _ mw83) (fun x h9 => u_same (hts _ mw82) x h9) rfl (by decide +kernel) rfl rfl (Nat.le_of_ble_eq_true rfl) d_AL_add2_7 (fun H locs hW hS => ?_)
  have hF1 : gw_fg (gw_out [5, 7]) M (gw_up M o 5 (.inr (4, [.int (k + 1), .ref a, .int (nI n)]))) := gw_fg.up gw_fg.rf hf_o (show ¬ ((gw_out [5, 7]) 5) by decide) (show ¬ ((gw_out [5, 7]) 5) by decide)
  obtain ⟨M2, eM2⟩ : ∃ z, z = gw_up M o 5 (.inr (4, [.int (k + 1), .ref a, .int (nI n)])) := ⟨_, rfl⟩
  replace hW : gw_P G.1 vwCl G.2.2.2 M2 H := by rw [eM2]; exact hW
  have hf_a : M2 a = some (7, .inl (G.2.1 1, cap, .inr (.inr (.inr (.inr f))))) := by rw [eM2]; exact gw_keep hf_a hf_o (by decide)
  have hf_g : M2 g = some (9, .inr (2, [.int v1, .int v2, .int v3, .int v4, .int v5])) := by rw [eM2]; exact gw_keep hf_g hf_o (by decide)
  have hf_o : M2 o = some (5, .inr (4, [.int (k + 1), .ref a, .int (nI n)])) := by rw [eM2]; exact gw_up_self _ _ _ _
  rw [← eM2] at hF1
  refine lv_aload_n hx hb d_AL_add2_10 rfl (lv_at hl 0 rfl) ?_
  refine lv_aload_n hx hb d_AL_add2_11 rfl (lv_at hl 1 rfl) ?_
  refine lv_aload_n hx hb d_AL_add2_12 rfl (lv_at hl 0 rfl) ?_
  refine gw_get (ci := 4) (fs := [.int (k + 1), .ref a, .int (nI n)]) hx hb hts in_AL hown hE.K hW hf_o rfl 1 (by decide) (hts _ mw5) (fun _ h9 => h9) rfl d_AL_add2_13 ?_
  refine lv_aload_n hx hb d_AL_add2_16 rfl (lv_at hl 0 rfl) ?_
  refine gw_get (ci := 4) (fs := [.int (k + 1), .ref a, .int (nI n)]) hx hb hts in_AL hown hE.K hW hf_o rfl 2 (by decide) (hts _ mw0) (fun _ h9 => h9) rfl d_AL_add2_17 ?_
  refine gw_callv hS (va_runV (As := [.ref g, .ref a, .int (nI n)]) (rest := []) ⟨hx, hb, hml, hown, hts⟩ (b_add3K l G M2 o (k + 1) a n cap f g v1 v2 v3 v4 v5 hf_o hf_a hf_g (by assumption) (by assumption)) (cwV 3 hts (gw_gv mw85 mw86 mw87 mw14 mw84) rfl rfl rfl (by decide +kernel) ⟨Nat.le_of_ble_eq_true rfl, Nat.le_of_ble_eq_true rfl⟩) (gw_pv hE hB hS hW rfl hf_o) rfl rfl hl.1 rfl (lv_room (Nat.le_of_ble_eq_true rfl)) d_AL_add2_20 ⟨Nat.le_of_ble_eq_true rfl, Nat.le_of_ble_eq_true rfl⟩) (fun M4 H locs hw5 hW hS => ?_)
  obtain ⟨hf_o', hf_a', hfr6⟩ := hw5
  have hf_g : M4 g = some (9, .inr (2, [.int v1, .int v2, .int v3, .int v4, .int v5])) := (hfr6.1 _ _ _ (by decide)).mp hf_g
  have hf_o : M4 o = some (5, .inr (4, [.int (k + 1), .ref a, .int ((nI n) + 1)])) := hf_o'
  have hf_a : M4 a = some (7, .inl (G.2.1 1, cap, .inr (.inr (.inr (.inr (va_up f (nI n : Int32).toNatClampNeg (some g))))))) := hf_a'
  have hF7 : gw_fg (gw_out [5, 7]) M M4 := gw_fg.tr hF1 (gw_fg.wk hfr6 (by decide))
  refine lv_iconst (v := 1) hx hb d_AL_add2_23 (by decide) ?_
  exact gw_zret hx hb hr hlocks rfl hS hW (Nat.le_of_ble_eq_true rfl) (Nat.le_of_ble_eq_true rfl) d_AL_add2_24 (⟨rfl, hf_o, hf_a, hF7⟩)

set_option maxHeartbeats 4000000 in
set_option maxRecDepth 100000 in
theorem b_add3J (l : Launch) (G : gw_G) (M : gw_M) (o : Nat) (k : Int32) (a : Nat) (n : Nat) (cap : Nat) (f : Nat → Option Nat) (g : Nat) (v1 : Nat) (v2 : Int32) (hf_o : M o = some (4, .inr (4, [.int k, .ref a, .int (nI n)]))) (hf_a : M a = some (6, .inl (G.2.1 1, cap, .inr (.inr (.inr (.inr f)))))) (hf_g : M g = some (10, .inr (3, [.ref v1, .int v2]))) (hn : n < cap) (hc : cap ≤ 1000) : Met l y_AL_add [.code y_AL_add b_AL_add 4 none] ({ frames := 0, cells := 0, slots := 0, locals := 0 }) (gw_Pc G M [.ref o, .ref g, .ref a, .int (nI n)]) (gw_Qv G (fun M2 => M2 o = some (4, .inr (4, [.int k, .ref a, .int ((nI n) + 1)])) ∧ M2 a = some (6, .inl (G.2.1 1, cap, .inr (.inr (.inr (.inr (va_up f (nI n : Int32).toNatClampNeg (some g))))))) ∧ gw_fg (gw_out [4, 6]) M M2)) 0 0 (gw_A G) := by
  refine gw_start (by decide) (Nat.le_of_ble_eq_true rfl) (fun p9 e9 s m b9 mt9 c9 hx hb hr hml hown hlocks hin hE hB hW ls hl => ?_)
  have hts := hE.ts ([.ref o, .ref g, .ref a, .int (nI n)] : List Value).toArray
  have hl : lv_has ls 4 [(0, .ref o), (1, .ref g), (2, .ref a), (3, .int (nI n))] := hl
  have hS : va_S (gw_A G) s.heap s.heap [] := va_S.rf
  have hown : s.vm.findClass "java/util/ArrayList" = some m.cls := hown
  refine lv_iload_n hx hb d_AL_add_0 rfl (lv_at hl 3 rfl) ?_
  refine lv_aload_n hx hb d_AL_add_1 rfl (lv_at hl 2 rfl) ?_
  refine gw_alen (v := nI cap) hx hb hE.K hW 1 hf_a rfl rfl d_AL_add_2 ?_
  refine lv_icmp_ne (tgt := 11) hx hb d_AL_add_3 (by decide) (fun c3 => ?_) (fun c3 => ?_)
  · refine lv_aload_n hx hb d_AL_add_11 rfl (lv_at hl 2 rfl) ?_
    refine lv_iload_n hx hb d_AL_add_12 rfl (lv_at hl 3 rfl) ?_
    refine lv_aload_n hx hb d_AL_add_13 rfl (lv_at hl 1 rfl) ?_
    refine gw_aastO (i := nI n) (v := g) hx hb hE.K hW hS 1 3 hf_a rfl (hE.nw mw88) hf_g rfl (vp_in_nI hn (by omega)) d_AL_add_14 (fun H locs hW hS => ?_)
    have hF1 : gw_fg (gw_out [4, 6]) M (gw_up M a 6 (.inl (G.2.1 1, cap, .inr (.inr (.inr (.inr (va_up f (nI n : Int32).toNatClampNeg (some g)))))))) := gw_fg.up gw_fg.rf hf_a (show ¬ ((gw_out [4, 6]) 6) by decide) (show ¬ ((gw_out [4, 6]) 6) by decide)
    obtain ⟨M2, eM2⟩ : ∃ z, z = gw_up M a 6 (.inl (G.2.1 1, cap, .inr (.inr (.inr (.inr (va_up f (nI n : Int32).toNatClampNeg (some g))))))) := ⟨_, rfl⟩
    replace hW : gw_P G.1 vwCl G.2.2.2 M2 H := by rw [eM2]; exact hW
    have hf_o : M2 o = some (4, .inr (4, [.int k, .ref a, .int (nI n)])) := by rw [eM2]; exact gw_keep hf_o hf_a (by decide)
    have hf_g : M2 g = some (10, .inr (3, [.ref v1, .int v2])) := by rw [eM2]; exact gw_keep hf_g hf_a (by decide)
    have hf_a : M2 a = some (6, .inl (G.2.1 1, cap, .inr (.inr (.inr (.inr (va_up f (nI n : Int32).toNatClampNeg (some g))))))) := by rw [eM2]; exact gw_up_self _ _ _ _
    rw [← eM2] at hF1
    refine lv_aload_n hx hb d_AL_add_15 rfl (lv_at hl 0 rfl) ?_
    refine lv_iload_n hx hb d_AL_add_16 rfl (lv_at hl 3 rfl) ?_
    refine lv_iconst (v := 1) hx hb d_AL_add_17 (by decide) ?_
    refine lv_iadd hx hb d_AL_add_18 ?_
    refine gw_put (ci := 4) (fs := [.int k, .ref a, .int (nI n)]) (v := .int ((nI n) + 1)) (ty := .int) hx hb hts in_AL t_AL t_AL_ok n_AL hown hE.K hW hS hf_o rfl 2 (by decide) (hts _ mw0) (fun _ h9 => h9) rfl (by decide +kernel) rfl rfl (Nat.le_of_ble_eq_true rfl) d_AL_add_19 (fun H locs hW hS => ?_)
    have hF3 : gw_fg (gw_out [4, 6]) M (gw_up M2 o 4 (.inr (4, [.int k, .ref a, .int ((nI n) + 1)]))) := gw_fg.up hF1 hf_o (show ¬ ((gw_out [4, 6]) 4) by decide) (show ¬ ((gw_out [4, 6]) 4) by decide)
    obtain ⟨M4, eM4⟩ : ∃ z, z = gw_up M2 o 4 (.inr (4, [.int k, .ref a, .int ((nI n) + 1)])) := ⟨_, rfl⟩
    replace hW : gw_P G.1 vwCl G.2.2.2 M4 H := by rw [eM4]; exact hW
    have hf_g : M4 g = some (10, .inr (3, [.ref v1, .int v2])) := by rw [eM4]; exact gw_keep hf_g hf_o (by decide)
    have hf_a : M4 a = some (6, .inl (G.2.1 1, cap, .inr (.inr (.inr (.inr (va_up f (nI n : Int32).toNatClampNeg (some g))))))) := by rw [eM4]; exact gw_keep hf_a hf_o (by decide)
    have hf_o : M4 o = some (4, .inr (4, [.int k, .ref a, .int ((nI n) + 1)])) := by rw [eM4]; exact gw_up_self _ _ _ _
    rw [← eM4] at hF3
    exact gw_vret hx hb hr hlocks hS hW (Nat.le_of_ble_eq_true rfl) (Nat.le_of_ble_eq_true rfl) d_AL_add_22 (⟨hf_o, hf_a, hF3⟩)
  · exact absurd ((nI_eq (by omega) (by omega)).mp c3) (by omega)

set_option maxHeartbeats 4000000 in
set_option maxRecDepth 100000 in
theorem b_addJ (l : Launch) (G : gw_G) (M : gw_M) (o : Nat) (k : Int32) (a : Nat) (n : Nat) (cap : Nat) (f : Nat → Option Nat) (g : Nat) (v1 : Nat) (v2 : Int32) (hf_o : M o = some (4, .inr (4, [.int k, .ref a, .int (nI n)]))) (hf_a : M a = some (6, .inl (G.2.1 1, cap, .inr (.inr (.inr (.inr f)))))) (hf_g : M g = some (10, .inr (3, [.ref v1, .int v2]))) (hn : n < cap) (hc : cap ≤ 1000) : Met l y_AL_add2 [.code y_AL_add2 b_AL_add2 2 (some .boolean)] ({ frames := 6, cells := 1, slots := 1000, locals := 200 }) (gw_Pc G M [.ref o, .ref g]) (gw_Qi G (fun r M2 => 1 = r ∧ M2 o = some (4, .inr (4, [.int (k + 1), .ref a, .int ((nI n) + 1)])) ∧ M2 a = some (6, .inl (G.2.1 1, cap, .inr (.inr (.inr (.inr (va_up f (nI n : Int32).toNatClampNeg (some g))))))) ∧ gw_fg (gw_out [4, 6]) M M2)) 1 1000 (gw_A G) := by
  refine gw_start (by decide) (Nat.le_of_ble_eq_true rfl) (fun p9 e9 s m b9 mt9 c9 hx hb hr hml hown hlocks hin hE hB hW ls hl => ?_)
  have hts := hE.ts ([.ref o, .ref g] : List Value).toArray
  have hl : lv_has ls 2 [(0, .ref o), (1, .ref g)] := hl
  have hS : va_S (gw_A G) s.heap s.heap [] := va_S.rf
  have hown : s.vm.findClass "java/util/ArrayList" = some m.cls := hown
  refine lv_aload_n hx hb d_AL_add2_0 rfl (lv_at hl 0 rfl) ?_
  refine lv_dup hx hb d_AL_add2_1 rfl ?_
  refine gw_get (ci := 4) (fs := [.int k, .ref a, .int (nI n)]) hx hb hts in_AL hown hE.K hW hf_o rfl 0 (by decide) (hts _ mw83) (fun x h9 => u_same (hts _ mw82) x h9) rfl d_AL_add2_2 ?_
  refine lv_iconst (v := 1) hx hb d_AL_add2_5 (by decide) ?_
  refine lv_iadd hx hb d_AL_add2_6 ?_
  refine gw_put (ci := 4) (fs := [.int k, .ref a, .int (nI n)]) (v := .int (k + 1)) (ty := .int) hx hb hts in_AL t_AL t_AL_ok n_AL hown hE.K hW hS hf_o rfl 0 (by decide) (hts _ mw83) (fun x h9 => u_same (hts _ mw82) x h9) rfl (by decide +kernel) rfl rfl (Nat.le_of_ble_eq_true rfl) d_AL_add2_7 (fun H locs hW hS => ?_)
  have hF1 : gw_fg (gw_out [4, 6]) M (gw_up M o 4 (.inr (4, [.int (k + 1), .ref a, .int (nI n)]))) := gw_fg.up gw_fg.rf hf_o (show ¬ ((gw_out [4, 6]) 4) by decide) (show ¬ ((gw_out [4, 6]) 4) by decide)
  obtain ⟨M2, eM2⟩ : ∃ z, z = gw_up M o 4 (.inr (4, [.int (k + 1), .ref a, .int (nI n)])) := ⟨_, rfl⟩
  replace hW : gw_P G.1 vwCl G.2.2.2 M2 H := by rw [eM2]; exact hW
  have hf_a : M2 a = some (6, .inl (G.2.1 1, cap, .inr (.inr (.inr (.inr f))))) := by rw [eM2]; exact gw_keep hf_a hf_o (by decide)
  have hf_g : M2 g = some (10, .inr (3, [.ref v1, .int v2])) := by rw [eM2]; exact gw_keep hf_g hf_o (by decide)
  have hf_o : M2 o = some (4, .inr (4, [.int (k + 1), .ref a, .int (nI n)])) := by rw [eM2]; exact gw_up_self _ _ _ _
  rw [← eM2] at hF1
  refine lv_aload_n hx hb d_AL_add2_10 rfl (lv_at hl 0 rfl) ?_
  refine lv_aload_n hx hb d_AL_add2_11 rfl (lv_at hl 1 rfl) ?_
  refine lv_aload_n hx hb d_AL_add2_12 rfl (lv_at hl 0 rfl) ?_
  refine gw_get (ci := 4) (fs := [.int (k + 1), .ref a, .int (nI n)]) hx hb hts in_AL hown hE.K hW hf_o rfl 1 (by decide) (hts _ mw5) (fun _ h9 => h9) rfl d_AL_add2_13 ?_
  refine lv_aload_n hx hb d_AL_add2_16 rfl (lv_at hl 0 rfl) ?_
  refine gw_get (ci := 4) (fs := [.int (k + 1), .ref a, .int (nI n)]) hx hb hts in_AL hown hE.K hW hf_o rfl 2 (by decide) (hts _ mw0) (fun _ h9 => h9) rfl d_AL_add2_17 ?_
  refine gw_callv hS (va_runV (As := [.ref g, .ref a, .int (nI n)]) (rest := []) ⟨hx, hb, hml, hown, hts⟩ (b_add3J l G M2 o (k + 1) a n cap f g v1 v2 hf_o hf_a hf_g (by assumption) (by assumption)) (cwV 3 hts (gw_gv mw85 mw86 mw87 mw14 mw84) rfl rfl rfl (by decide +kernel) ⟨Nat.le_of_ble_eq_true rfl, Nat.le_of_ble_eq_true rfl⟩) (gw_pv hE hB hS hW rfl hf_o) rfl rfl hl.1 rfl (lv_room (Nat.le_of_ble_eq_true rfl)) d_AL_add2_20 ⟨Nat.le_of_ble_eq_true rfl, Nat.le_of_ble_eq_true rfl⟩) (fun M4 H locs hw5 hW hS => ?_)
  obtain ⟨hf_o', hf_a', hfr6⟩ := hw5
  have hf_g : M4 g = some (10, .inr (3, [.ref v1, .int v2])) := (hfr6.1 _ _ _ (by decide)).mp hf_g
  have hf_o : M4 o = some (4, .inr (4, [.int (k + 1), .ref a, .int ((nI n) + 1)])) := hf_o'
  have hf_a : M4 a = some (6, .inl (G.2.1 1, cap, .inr (.inr (.inr (.inr (va_up f (nI n : Int32).toNatClampNeg (some g))))))) := hf_a'
  have hF7 : gw_fg (gw_out [4, 6]) M M4 := gw_fg.tr hF1 (gw_fg.wk hfr6 (by decide))
  refine lv_iconst (v := 1) hx hb d_AL_add2_23 (by decide) ?_
  exact gw_zret hx hb hr hlocks rfl hS hW (Nat.le_of_ble_eq_true rfl) (Nat.le_of_ble_eq_true rfl) d_AL_add2_24 (⟨rfl, hf_o, hf_a, hF7⟩)
end
section
abbrev b_ArraysSupport_newLength : ByteArray := prog_26_method_27_code
abbrev y_ArraysSupport_newLength : MethodName := ⟨"jdk/internal/util/ArraysSupport", "newLength", "(III)I"⟩
abbrev b_Ars_copyOf : ByteArray := prog_20_method_120_code
abbrev y_Ars_copyOf : MethodName := ⟨"java/util/Arrays", "copyOf", "([Ljava/lang/Object;ILjava/lang/Class;)[Ljava/lang/Object;"⟩
abbrev b_Ars_copyOf2 : ByteArray := prog_20_method_119_code
abbrev y_Ars_copyOf2 : MethodName := ⟨"java/util/Arrays", "copyOf", "([Ljava/lang/Object;I)[Ljava/lang/Object;"⟩
set_option maxRecDepth 20000 in
theorem mw89 : (Cond.methodLink "jdk/internal/util/ArraysSupport" (194 : Nat) ({ cls := "java/lang/Math", name := "max", desc := "(II)I" } : Jvm.MethodName)) ∈ gw_N0 := gw_in (List.mem_append_right _ (gw_tm (i := 185) rfl))
set_option maxRecDepth 20000 in
theorem mw90 : (Cond.constant "jdk/internal/util/ArraysSupport" (200 : Nat) (2147483639 : Int32)) ∈ gw_N0 := gw_in (List.mem_append_right _ (gw_tm (i := 186) rfl))
set_option maxRecDepth 20000 in
theorem mw91 : (Cond.classLink "java/util/Arrays" (110 : Nat) "[Ljava/lang/Object;") ∈ gw_N0 := gw_in (List.mem_append_right _ (gw_tm (i := 207) rfl))
set_option maxRecDepth 20000 in
theorem mw92 : (Cond.classLink "java/util/Arrays" (2 : Nat) "java/lang/Object") ∈ gw_N0 := gw_in (List.mem_append_right _ (gw_tm (i := 209) rfl))
set_option maxRecDepth 20000 in
theorem mw93 : (Cond.methodLink "java/util/Arrays" (304 : Nat) ({ cls := "java/lang/Math", name := "min", desc := "(II)I" } : Jvm.MethodName)) ∈ gw_N0 := gw_in (List.mem_append_right _ (gw_tm (i := 210) rfl))
set_option maxRecDepth 20000 in
theorem mw94 : (Cond.static ({ cls := "java/lang/Math", name := "min", desc := "(II)I" } : Jvm.MethodName)) ∈ gw_N0 := gw_in (List.mem_append_right _ (gw_tm (i := 96) rfl))
set_option maxRecDepth 20000 in
theorem mw95 : (Cond.code ({ cls := "java/lang/Math", name := "min", desc := "(II)I" } : Jvm.MethodName) prog_12_method_69_code (2 : Nat) (Option.some Jvm.ClassFile.FieldType.int)) ∈ gw_N0 := gw_in (List.mem_append_right _ (gw_tm (i := 97) rfl))
set_option maxRecDepth 20000 in
theorem mw96 : (Cond.methodLink "java/util/Arrays" (150 : Nat) ({ cls := "java/lang/System", name := "arraycopy", desc := "(Ljava/lang/Object;ILjava/lang/Object;II)V" } : Jvm.MethodName)) ∈ gw_N0 := gw_in (List.mem_append_right _ (gw_tm (i := 211) rfl))
set_option maxRecDepth 20000 in
theorem mw97 : (Cond.native ({ cls := "java/lang/System", name := "arraycopy", desc := "(Ljava/lang/Object;ILjava/lang/Object;II)V" } : Jvm.MethodName)) ∈ gw_N0 := gw_in (List.mem_append_right _ (gw_tm (i := 213) rfl))
set_option maxRecDepth 20000 in
theorem mw98 : (Cond.static ({ cls := "java/lang/System", name := "arraycopy", desc := "(Ljava/lang/Object;ILjava/lang/Object;II)V" } : Jvm.MethodName)) ∈ gw_N0 := gw_in (List.mem_append_right _ (gw_tm (i := 212) rfl))
set_option maxRecDepth 20000 in
theorem mw99 : (Cond.initialized "java/lang/System") ∈ gw_N0 := gw_in (List.mem_append_right _ (gw_tm (i := 13) rfl))
set_option maxRecDepth 20000 in
theorem mw100 : (Cond.methodLink "java/util/Arrays" (86 : Nat) ({ cls := "java/lang/Object", name := "getClass", desc := "()Ljava/lang/Class;" } : Jvm.MethodName)) ∈ gw_N0 := gw_in (List.mem_append_right _ (gw_tm (i := 193) rfl))
set_option maxRecDepth 20000 in
theorem mw101 : (Cond.declares ({ cls := "java/lang/Object", name := "getClass", desc := "()Ljava/lang/Class;" } : Jvm.MethodName)) ∈ gw_N0 := gw_in (List.mem_append_right _ (gw_tm (i := 612) rfl))
set_option maxRecDepth 20000 in
theorem mw102 : (Cond.selects "[Ljava/lang/Object;" ({ cls := "java/lang/Object", name := "getClass", desc := "()Ljava/lang/Class;" } : Jvm.MethodName) ({ cls := "java/lang/Object", name := "getClass", desc := "()Ljava/lang/Class;" } : Jvm.MethodName)) ∈ gw_N0 := gw_in (List.mem_append_right _ (gw_tm (i := 611) rfl))
set_option maxRecDepth 20000 in
theorem mw103 : (Cond.instanceMethod ({ cls := "java/lang/Object", name := "getClass", desc := "()Ljava/lang/Class;" } : Jvm.MethodName)) ∈ gw_N0 := gw_in (List.mem_append_right _ (gw_tm (i := 194) rfl))
set_option maxRecDepth 20000 in
theorem mw104 : (Cond.native ({ cls := "java/lang/Object", name := "getClass", desc := "()Ljava/lang/Class;" } : Jvm.MethodName)) ∈ gw_N0 := gw_in (List.mem_append_right _ (gw_tm (i := 203) rfl))
set_option maxRecDepth 20000 in
theorem mw105 : (Cond.code ({ cls := "java/util/Arrays", name := "copyOf", desc := "([Ljava/lang/Object;ILjava/lang/Class;)[Ljava/lang/Object;" } : Jvm.MethodName) prog_20_method_120_code (4 : Nat) (Option.some (Jvm.ClassFile.FieldType.array (Jvm.ClassFile.FieldType.object "java/lang/Object")))) ∈ gw_N0 := gw_in (List.mem_append_right _ (gw_tm (i := 206) rfl))
set_option maxRecDepth 20000 in
theorem mw106 : (Cond.methodLink "java/util/Arrays" (300 : Nat) ({ cls := "java/util/Arrays", name := "copyOf", desc := "([Ljava/lang/Object;ILjava/lang/Class;)[Ljava/lang/Object;" } : Jvm.MethodName)) ∈ gw_N0 := gw_in (List.mem_append_right _ (gw_tm (i := 204) rfl))
set_option maxRecDepth 20000 in
theorem mw107 : (Cond.static ({ cls := "java/util/Arrays", name := "copyOf", desc := "([Ljava/lang/Object;ILjava/lang/Class;)[Ljava/lang/Object;" } : Jvm.MethodName)) ∈ gw_N0 := gw_in (List.mem_append_right _ (gw_tm (i := 205) rfl))
set_option maxRecDepth 20000 in
theorem mw108 : (Cond.initialized "java/util/Arrays") ∈ gw_N0 := gw_in (List.mem_append_right _ (gw_tm (i := 12) rfl))
set_option maxRecDepth 20000 in
theorem mw109 : (Cond.code ({ cls := "jdk/internal/util/ArraysSupport", name := "newLength", desc := "(III)I" } : Jvm.MethodName) prog_26_method_27_code (4 : Nat) (Option.some Jvm.ClassFile.FieldType.int)) ∈ gw_N0 := gw_in (List.mem_append_right _ (gw_tm (i := 184) rfl))
set_option maxRecDepth 20000 in
theorem mw110 : (Cond.methodLink "java/util/ArrayList" (73 : Nat) ({ cls := "jdk/internal/util/ArraysSupport", name := "newLength", desc := "(III)I" } : Jvm.MethodName)) ∈ gw_N0 := gw_in (List.mem_append_right _ (gw_tm (i := 182) rfl))
set_option maxRecDepth 20000 in
theorem mw111 : (Cond.static ({ cls := "jdk/internal/util/ArraysSupport", name := "newLength", desc := "(III)I" } : Jvm.MethodName)) ∈ gw_N0 := gw_in (List.mem_append_right _ (gw_tm (i := 183) rfl))
set_option maxRecDepth 20000 in
theorem mw112 : (Cond.initialized "jdk/internal/util/ArraysSupport") ∈ gw_N0 := gw_in (List.mem_append_right _ (gw_tm (i := 11) rfl))
set_option maxRecDepth 20000 in
theorem mw113 : (Cond.code ({ cls := "java/util/Arrays", name := "copyOf", desc := "([Ljava/lang/Object;I)[Ljava/lang/Object;" } : Jvm.MethodName) prog_20_method_119_code (2 : Nat) (Option.some (Jvm.ClassFile.FieldType.array (Jvm.ClassFile.FieldType.object "java/lang/Object")))) ∈ gw_N0 := gw_in (List.mem_append_right _ (gw_tm (i := 192) rfl))
set_option maxRecDepth 20000 in
theorem mw114 : (Cond.methodLink "java/util/ArrayList" (66 : Nat) ({ cls := "java/util/Arrays", name := "copyOf", desc := "([Ljava/lang/Object;I)[Ljava/lang/Object;" } : Jvm.MethodName)) ∈ gw_N0 := gw_in (List.mem_append_right _ (gw_tm (i := 190) rfl))
set_option maxRecDepth 20000 in
theorem mw115 : (Cond.static ({ cls := "java/util/Arrays", name := "copyOf", desc := "([Ljava/lang/Object;I)[Ljava/lang/Object;" } : Jvm.MethodName)) ∈ gw_N0 := gw_in (List.mem_append_right _ (gw_tm (i := 191) rfl))
end
section
theorem d_ArraysSupport_newLength_0 : decode b_ArraysSupport_newLength 0 = .ok (.iload_n 0, 1) := by decide +kernel
theorem d_ArraysSupport_newLength_1 : decode b_ArraysSupport_newLength 1 = .ok (.iload_n 1, 1) := by decide +kernel
theorem d_ArraysSupport_newLength_2 : decode b_ArraysSupport_newLength 2 = .ok (.iload_n 2, 1) := by decide +kernel
theorem d_ArraysSupport_newLength_3 : decode b_ArraysSupport_newLength 3 = .ok (.invokestatic 194, 3) := by decide +kernel
theorem d_ArraysSupport_newLength_6 : decode b_ArraysSupport_newLength 6 = .ok (.iadd, 1) := by decide +kernel
theorem d_ArraysSupport_newLength_7 : decode b_ArraysSupport_newLength 7 = .ok (.istore_n 3, 1) := by decide +kernel
theorem d_ArraysSupport_newLength_8 : decode b_ArraysSupport_newLength 8 = .ok (.iconst 0, 1) := by decide +kernel
theorem d_ArraysSupport_newLength_9 : decode b_ArraysSupport_newLength 9 = .ok (.iload_n 3, 1) := by decide +kernel
theorem d_ArraysSupport_newLength_10 : decode b_ArraysSupport_newLength 10 = .ok (.if_icmp .ge 11, 3) := by decide +kernel
theorem d_ArraysSupport_newLength_13 : decode b_ArraysSupport_newLength 13 = .ok (.iload_n 3, 1) := by decide +kernel
theorem d_ArraysSupport_newLength_14 : decode b_ArraysSupport_newLength 14 = .ok (.ldc 200, 2) := by decide +kernel
theorem d_ArraysSupport_newLength_16 : decode b_ArraysSupport_newLength 16 = .ok (.if_icmp .gt 5, 3) := by decide +kernel
theorem d_ArraysSupport_newLength_19 : decode b_ArraysSupport_newLength 19 = .ok (.iload_n 3, 1) := by decide +kernel
theorem d_ArraysSupport_newLength_20 : decode b_ArraysSupport_newLength 20 = .ok (.ireturn, 1) := by decide +kernel
theorem d_Ars_copyOf_0 : decode b_Ars_copyOf 0 = .ok (.aload_n 2, 1) := by decide +kernel
theorem d_Ars_copyOf_1 : decode b_Ars_copyOf 1 = .ok (.ldc 110, 2) := by decide +kernel
theorem d_Ars_copyOf_3 : decode b_Ars_copyOf 3 = .ok (.if_acmp .ne 10, 3) := by decide +kernel
theorem d_Ars_copyOf_6 : decode b_Ars_copyOf 6 = .ok (.iload_n 1, 1) := by decide +kernel
theorem d_Ars_copyOf_7 : decode b_Ars_copyOf 7 = .ok (.anewarray 2, 3) := by decide +kernel
theorem d_Ars_copyOf_10 : decode b_Ars_copyOf 10 = .ok (.goto 14, 3) := by decide +kernel
theorem d_Ars_copyOf_24 : decode b_Ars_copyOf 24 = .ok (.astore_n 3, 1) := by decide +kernel
theorem d_Ars_copyOf_25 : decode b_Ars_copyOf 25 = .ok (.aload_n 0, 1) := by decide +kernel
theorem d_Ars_copyOf_26 : decode b_Ars_copyOf 26 = .ok (.iconst 0, 1) := by decide +kernel
theorem d_Ars_copyOf_27 : decode b_Ars_copyOf 27 = .ok (.aload_n 3, 1) := by decide +kernel
theorem d_Ars_copyOf_28 : decode b_Ars_copyOf 28 = .ok (.iconst 0, 1) := by decide +kernel
theorem d_Ars_copyOf_29 : decode b_Ars_copyOf 29 = .ok (.aload_n 0, 1) := by decide +kernel
theorem d_Ars_copyOf_30 : decode b_Ars_copyOf 30 = .ok (.arraylength, 1) := by decide +kernel
theorem d_Ars_copyOf_31 : decode b_Ars_copyOf 31 = .ok (.iload_n 1, 1) := by decide +kernel
theorem d_Ars_copyOf_32 : decode b_Ars_copyOf 32 = .ok (.invokestatic 304, 3) := by decide +kernel
theorem d_Ars_copyOf_35 : decode b_Ars_copyOf 35 = .ok (.invokestatic 150, 3) := by decide +kernel
theorem d_Ars_copyOf_38 : decode b_Ars_copyOf 38 = .ok (.aload_n 3, 1) := by decide +kernel
theorem d_Ars_copyOf_39 : decode b_Ars_copyOf 39 = .ok (.areturn, 1) := by decide +kernel
theorem d_Ars_copyOf2_0 : decode b_Ars_copyOf2 0 = .ok (.aload_n 0, 1) := by decide +kernel
theorem d_Ars_copyOf2_1 : decode b_Ars_copyOf2 1 = .ok (.iload_n 1, 1) := by decide +kernel
theorem d_Ars_copyOf2_2 : decode b_Ars_copyOf2 2 = .ok (.aload_n 0, 1) := by decide +kernel
theorem d_Ars_copyOf2_3 : decode b_Ars_copyOf2 3 = .ok (.invokevirtual 86, 3) := by decide +kernel
theorem d_Ars_copyOf2_6 : decode b_Ars_copyOf2 6 = .ok (.invokestatic 300, 3) := by decide +kernel
theorem d_Ars_copyOf2_9 : decode b_Ars_copyOf2 9 = .ok (.areturn, 1) := by decide +kernel
theorem d_AL_grow_20 : decode b_AL_grow 20 = .ok (.iload_n 2, 1) := by decide +kernel
theorem d_AL_grow_21 : decode b_AL_grow 21 = .ok (.iload_n 1, 1) := by decide +kernel
theorem d_AL_grow_22 : decode b_AL_grow 22 = .ok (.iload_n 2, 1) := by decide +kernel
theorem d_AL_grow_23 : decode b_AL_grow 23 = .ok (.isub, 1) := by decide +kernel
theorem d_AL_grow_24 : decode b_AL_grow 24 = .ok (.iload_n 2, 1) := by decide +kernel
theorem d_AL_grow_25 : decode b_AL_grow 25 = .ok (.iconst 1, 1) := by decide +kernel
theorem d_AL_grow_26 : decode b_AL_grow 26 = .ok (.ishr, 1) := by decide +kernel
theorem d_AL_grow_27 : decode b_AL_grow 27 = .ok (.invokestatic 73, 3) := by decide +kernel
theorem d_AL_grow_30 : decode b_AL_grow 30 = .ok (.istore_n 3, 1) := by decide +kernel
theorem d_AL_grow_31 : decode b_AL_grow 31 = .ok (.aload_n 0, 1) := by decide +kernel
theorem d_AL_grow_32 : decode b_AL_grow 32 = .ok (.aload_n 0, 1) := by decide +kernel
theorem d_AL_grow_33 : decode b_AL_grow 33 = .ok (.getfield 9, 3) := by decide +kernel
theorem d_AL_grow_36 : decode b_AL_grow 36 = .ok (.iload_n 3, 1) := by decide +kernel
theorem d_AL_grow_37 : decode b_AL_grow 37 = .ok (.invokestatic 66, 3) := by decide +kernel
theorem d_AL_grow_40 : decode b_AL_grow 40 = .ok (.dup_x1, 1) := by decide +kernel
theorem d_AL_grow_41 : decode b_AL_grow 41 = .ok (.putfield 9, 3) := by decide +kernel
theorem d_AL_grow_44 : decode b_AL_grow 44 = .ok (.areturn, 1) := by decide +kernel
end
section
set_option maxHeartbeats 4000000 in
set_option maxRecDepth 100000 in
theorem s_newLength (l : Launch) (G : gw_G) (M : gw_M) (c : Nat) (h : Nat) (h1 : 1 ≤ c) (hh : h ≤ c) (hc : c ≤ 1000) : Met l y_ArraysSupport_newLength [.code y_ArraysSupport_newLength b_ArraysSupport_newLength 4 (some .int)] ({ frames := 1, cells := 0, slots := 0, locals := 14 }) (gw_Pc G M [.int (nI c), .int (nI 1), .int (nI h)]) (gr_Qi (fun r => ∃ d : Nat, 1 ≤ d ∧ d ≤ h + 1 ∧ nI (c + d) = r)) 0 0 (fun _ => False) := by
  refine gw_startR (by decide) (Nat.le_of_ble_eq_true rfl) (fun p9 e9 s m b9 mt9 c9 hx hb hr hml hown hlocks hin hE hB hW ls hl => ?_)
  have hts := hE.ts ([.int (nI c), .int (nI 1), .int (nI h)] : List Value).toArray
  have hl : lv_has ls 4 [(0, .int (nI c)), (1, .int (nI 1)), (2, .int (nI h))] := hl
  have hown : s.vm.findClass "jdk/internal/util/ArraysSupport" = some m.cls := hown
  have hS : va_S (gw_A G) s.heap s.heap [] := va_S.rf
  refine lv_iload_n hx hb d_ArraysSupport_newLength_0 rfl (lv_at hl 0 rfl) ?_
  refine lv_iload_n hx hb d_ArraysSupport_newLength_1 rfl (lv_at hl 1 rfl) ?_
  refine lv_iload_n hx hb d_ArraysSupport_newLength_2 rfl (lv_at hl 2 rfl) ?_
  refine va_mmax (x := nI 1) (y := nI h) hx hb (hml.trans hl.1.symm) hown (hts _ mw89) (hts _ mw69) (hts _ mw70) (hts _ mw71) (Nat.le_of_ble_eq_true rfl) (Nat.le_of_ble_eq_true rfl) (Nat.le_of_ble_eq_true rfl) (Nat.le_of_ble_eq_true rfl) d_ArraysSupport_newLength_3 ?_
  refine lv_iadd hx hb d_ArraysSupport_newLength_6 ?_
  obtain ⟨d, hd1, hd2, hd3⟩ := gx_mx h1 hh hc
  refine W.eq (g2 := F0 m 7 ls [.int (nI (c + d))]) (by rw [hd1]) ?_
  refine lv_istore_n (lv' := [(3, .int (nI (c + d))), (0, .int (nI c)), (1, .int (nI 1)), (2, .int (nI h))]) hx hb d_ArraysSupport_newLength_7 rfl hl (by decide) rfl (fun ls hl => ?_)
  refine lv_iconst (v := 0) hx hb d_ArraysSupport_newLength_8 (by decide) ?_
  refine lv_iload_n hx hb d_ArraysSupport_newLength_9 rfl (lv_at hl 0 rfl) ?_
  refine lv_icmp_ge (tgt := 21) hx hb d_ArraysSupport_newLength_10 (by decide) (fun c10 => ?_) (fun c10 => ?_)
  · exact absurd c10 (nI_nle (by omega) (by omega))
  · refine lv_iload_n hx hb d_ArraysSupport_newLength_13 rfl (lv_at hl 0 rfl) ?_
    refine lv_ldc (v := 2147483639) hx hb hown (hts _ mw90) d_ArraysSupport_newLength_14 ?_
    refine lv_icmp_gt (tgt := 21) hx hb d_ArraysSupport_newLength_16 (by decide) (fun c16 => ?_) (fun c16 => ?_)
    · exact absurd c16 (gx_big (by omega))
    · refine lv_iload_n hx hb d_ArraysSupport_newLength_19 rfl (lv_at hl 0 rfl) ?_
      exact gr_iret hx hb hr hlocks d_ArraysSupport_newLength_20 (⟨d, hd2, hd3, rfl⟩)

set_option maxHeartbeats 4000000 in
set_option maxRecDepth 100000 in
theorem c_copy3K (l : Launch) (G : gw_G) (M : gw_M) (a : Nat) (n : Nat) (q : Nat) (f : Nat → Option Nat) (hf_a : M a = some (7, .inl (G.2.1 1, n, .inr (.inr (.inr (.inr f)))))) (hnq : n ≤ q) (hq : q ≤ 1000) (hel : ∀ i : Nat, i < n → ∃ (y : Nat) (fs : List Value), f i = some y ∧ M y = some (9, .inr (2, fs))) : Met l y_Ars_copyOf [.code y_Ars_copyOf b_Ars_copyOf 4 (some (.array (.object "java/lang/Object")))] ({ frames := 1, cells := 1, slots := 1000, locals := 40 }) (gw_Pc G M [.ref a, .int (nI q), .ref (G.2.2.1 4)]) (gw_Qr G (fun r M2 => ∃ (c : Nat), c = r ∧ M2 c = some (7, .inl (G.2.1 1, q, .inr (.inr (.inr (.inr (va_cpy f (fun _ => none) 0 0 n)))))) ∧ gw_fg (gw_out [7]) M M2)) 1 1000 (gw_A G) := by
  refine gw_start (by decide) (Nat.le_of_ble_eq_true rfl) (fun p9 e9 s m b9 mt9 c9 hx hb hr hml hown hlocks hin hE hB hW ls hl => ?_)
  have hts := hE.ts ([.ref a, .int (nI q), .ref (G.2.2.1 4)] : List Value).toArray
  have hl : lv_has ls 4 [(0, .ref a), (1, .int (nI q)), (2, .ref (G.2.2.1 4))] := hl
  have hS : va_S (gw_A G) s.heap s.heap [] := va_S.rf
  have hown : s.vm.findClass "java/util/Arrays" = some m.cls := hown
  refine lv_aload_n hx hb d_Ars_copyOf_0 rfl (lv_at hl 2 rfl) ?_
  refine va_ldcM hx hb hown (hts _ mw91) hE.mi d_Ars_copyOf_1 ?_
  refine lv_acmp_ne (rx := some (G.2.2.1 4)) (ry := some (G.2.2.1 4)) (tgt := 13) hx hb d_Ars_copyOf_3 (by decide) (fun c3 => ?_) (fun c3 => ?_)
  · exact absurd rfl c3
  · refine lv_iload_n hx hb d_Ars_copyOf_6 rfl (lv_at hl 1 rfl) ?_
    refine gw_newq (N' := q) hx hb hown (hts _ mw92) hE.ao hE.K hW hS hB (nI_pos (by omega)) (nI_clamp (by omega)) (by omega) (Nat.le_of_ble_eq_true rfl) (by show 0 + q ≤ 1000; omega) d_Ars_copyOf_7 1 rfl 7 (fun q1 H hq2 hW hS => ?_)
    refine W.widen (k := 1) (n := 1000) (Nat.le_refl _) (by omega) ?_
    have hF3 : gw_fg (gw_out [7]) M (gw_up M q1 7 (.inl (G.2.1 1, q, .inr (.inr (.inr (.inr (fun _ => none))))))) := gw_fg.new gw_fg.rf hq2 (show ¬ ((gw_out [7]) 7) by decide)
    obtain ⟨M4, eM4⟩ : ∃ z, z = gw_up M q1 7 (.inl (G.2.1 1, q, .inr (.inr (.inr (.inr (fun _ => none)))))) := ⟨_, rfl⟩
    replace hW : gw_P G.1 vwCl G.2.2.2 M4 H := by rw [eM4]; exact hW
    have hf_a : M4 a = some (7, .inl (G.2.1 1, n, .inr (.inr (.inr (.inr f))))) := by rw [eM4]; exact gw_keepN hf_a hq2
    have hf_q1 : M4 q1 = some (7, .inl (G.2.1 1, q, .inr (.inr (.inr (.inr (fun _ => none)))))) := by rw [eM4]; exact gw_up_self _ _ _ _
    rw [← eM4] at hF3
    refine lv_goto (tgt := 24) hx hb d_Ars_copyOf_10 (by decide) ?_
    refine lv_astore_n (lv' := [(3, .ref q1), (0, .ref a), (1, .int (nI q)), (2, .ref (G.2.2.1 4))]) hx hb d_Ars_copyOf_24 rfl hl (by decide) rfl (fun ls hl => ?_)
    refine lv_aload_n hx hb d_Ars_copyOf_25 rfl (lv_at hl 1 rfl) ?_
    refine lv_iconst (v := 0) hx hb d_Ars_copyOf_26 (by decide) ?_
    refine lv_aload_n hx hb d_Ars_copyOf_27 rfl (lv_at hl 0 rfl) ?_
    refine lv_iconst (v := 0) hx hb d_Ars_copyOf_28 (by decide) ?_
    refine lv_aload_n hx hb d_Ars_copyOf_29 rfl (lv_at hl 1 rfl) ?_
    refine gw_alen (v := nI n) hx hb hE.K hW 1 hf_a rfl rfl d_Ars_copyOf_30 ?_
    refine lv_iload_n hx hb d_Ars_copyOf_31 rfl (lv_at hl 2 rfl) ?_
    refine va_mmin (x := nI n) (y := nI q) hx hb (hml.trans hl.1.symm) hown (hts _ mw93) (hts _ mw94) (hts _ mw70) (hts _ mw95) (Nat.le_of_ble_eq_true rfl) (Nat.le_of_ble_eq_true rfl) (Nat.le_of_ble_eq_true rfl) (Nat.le_of_ble_eq_true rfl) d_Ars_copyOf_32 ?_
    refine W.eq (g2 := F0 m 35 ls [.int (nI n), .int 0, .ref q1, .int 0, .ref a]) (by rw [gx_mn hnq (by omega)]) ?_
    have hcl9 : (nI n).toNatClampNeg = n := nI_clamp (by omega)
    have hc09 : (0 : Int32).toNatClampNeg = 0 := by decide
    refine gw_copyq (C := "Generations$Generation") (sp := 0) (dp := 0) (n := nI n) hx hb (hml.trans hl.1.symm) hown (hts _ mw96) (hts _ mw97) (hts _ mw98) (hts _ mw99) hE.K hW hS 1 1 hf_a hf_q1 rfl rfl (by decide) (by decide) (nI_pos (by omega)) (by rw [hcl9, hc09]; omega) (by rw [hcl9, hc09]; omega) (fun i hi y hy => ?_) (fun comp c0 e1 e2 => ?_) (Nat.le_of_ble_eq_true rfl) (Nat.le_of_ble_eq_true rfl) d_Ars_copyOf_35 (fun H locs hW hS => ?_)
    · rw [hcl9] at hi
      rw [hc09, Nat.zero_add] at hy
      obtain ⟨y2, fs, hy2, hM2⟩ := hel i hi
      rw [hy2] at hy
      rw [← Option.some.inj hy]
      exact gw_recv (ci := 2) hE.K hW rfl (show M4 y2 = some (9, .inr (2, fs)) by rw [eM4]; exact gw_keepN hM2 hq2)
    · obtain ⟨c3, c4, hc3, hc4, hasg⟩ := Cond.castable_spec (hts _ mw81)
      cases Option.some.inj (hc3.symm.trans e2)
      cases Option.some.inj (hc4.symm.trans e1)
      exact hasg
    rw [hcl9, hc09] at hW
    have hF5 : gw_fg (gw_out [7]) M (gw_up M4 q1 7 (.inl (G.2.1 1, q, .inr (.inr (.inr (.inr (va_cpy f (fun _ => none) 0 0 n))))))) := gw_fg.up hF3 hf_q1 (show ¬ ((gw_out [7]) 7) by decide) (show ¬ ((gw_out [7]) 7) by decide)
    obtain ⟨M6, eM6⟩ : ∃ z, z = gw_up M4 q1 7 (.inl (G.2.1 1, q, .inr (.inr (.inr (.inr (va_cpy f (fun _ => none) 0 0 n)))))) := ⟨_, rfl⟩
    replace hW : gw_P G.1 vwCl G.2.2.2 M6 H := by rw [eM6]; exact hW
    have hf_q1 : M6 q1 = some (7, .inl (G.2.1 1, q, .inr (.inr (.inr (.inr (va_cpy f (fun _ => none) 0 0 n)))))) := by rw [eM6]; exact gw_up_self _ _ _ _
    rw [← eM6] at hF5
    refine lv_aload_n hx hb d_Ars_copyOf_38 rfl (lv_at hl 0 rfl) ?_
    exact gw_aret hx hb hr hlocks (Or.inr ⟨_, rfl⟩) hS hW (Nat.le_of_ble_eq_true rfl) (Nat.le_of_ble_eq_true rfl) d_Ars_copyOf_39 (⟨q1, rfl, hf_q1, hF5⟩)

set_option maxHeartbeats 4000000 in
set_option maxRecDepth 100000 in
theorem c_copy3J (l : Launch) (G : gw_G) (M : gw_M) (a : Nat) (n : Nat) (q : Nat) (f : Nat → Option Nat) (hf_a : M a = some (6, .inl (G.2.1 1, n, .inr (.inr (.inr (.inr f)))))) (hnq : n ≤ q) (hq : q ≤ 1000) (hel : ∀ i : Nat, i < n → ∃ (y : Nat) (fs : List Value), f i = some y ∧ M y = some (10, .inr (3, fs))) : Met l y_Ars_copyOf [.code y_Ars_copyOf b_Ars_copyOf 4 (some (.array (.object "java/lang/Object")))] ({ frames := 1, cells := 1, slots := 1000, locals := 40 }) (gw_Pc G M [.ref a, .int (nI q), .ref (G.2.2.1 4)]) (gw_Qr G (fun r M2 => ∃ (c : Nat), c = r ∧ M2 c = some (6, .inl (G.2.1 1, q, .inr (.inr (.inr (.inr (va_cpy f (fun _ => none) 0 0 n)))))) ∧ gw_fg (gw_out [6]) M M2)) 1 1000 (gw_A G) := by
  refine gw_start (by decide) (Nat.le_of_ble_eq_true rfl) (fun p9 e9 s m b9 mt9 c9 hx hb hr hml hown hlocks hin hE hB hW ls hl => ?_)
  have hts := hE.ts ([.ref a, .int (nI q), .ref (G.2.2.1 4)] : List Value).toArray
  have hl : lv_has ls 4 [(0, .ref a), (1, .int (nI q)), (2, .ref (G.2.2.1 4))] := hl
  have hS : va_S (gw_A G) s.heap s.heap [] := va_S.rf
  have hown : s.vm.findClass "java/util/Arrays" = some m.cls := hown
  refine lv_aload_n hx hb d_Ars_copyOf_0 rfl (lv_at hl 2 rfl) ?_
  refine va_ldcM hx hb hown (hts _ mw91) hE.mi d_Ars_copyOf_1 ?_
  refine lv_acmp_ne (rx := some (G.2.2.1 4)) (ry := some (G.2.2.1 4)) (tgt := 13) hx hb d_Ars_copyOf_3 (by decide) (fun c3 => ?_) (fun c3 => ?_)
  · exact absurd rfl c3
  · refine lv_iload_n hx hb d_Ars_copyOf_6 rfl (lv_at hl 1 rfl) ?_
    refine gw_newq (N' := q) hx hb hown (hts _ mw92) hE.ao hE.K hW hS hB (nI_pos (by omega)) (nI_clamp (by omega)) (by omega) (Nat.le_of_ble_eq_true rfl) (by show 0 + q ≤ 1000; omega) d_Ars_copyOf_7 1 rfl 6 (fun q1 H hq2 hW hS => ?_)
    refine W.widen (k := 1) (n := 1000) (Nat.le_refl _) (by omega) ?_
    have hF3 : gw_fg (gw_out [6]) M (gw_up M q1 6 (.inl (G.2.1 1, q, .inr (.inr (.inr (.inr (fun _ => none))))))) := gw_fg.new gw_fg.rf hq2 (show ¬ ((gw_out [6]) 6) by decide)
    obtain ⟨M4, eM4⟩ : ∃ z, z = gw_up M q1 6 (.inl (G.2.1 1, q, .inr (.inr (.inr (.inr (fun _ => none)))))) := ⟨_, rfl⟩
    replace hW : gw_P G.1 vwCl G.2.2.2 M4 H := by rw [eM4]; exact hW
    have hf_a : M4 a = some (6, .inl (G.2.1 1, n, .inr (.inr (.inr (.inr f))))) := by rw [eM4]; exact gw_keepN hf_a hq2
    have hf_q1 : M4 q1 = some (6, .inl (G.2.1 1, q, .inr (.inr (.inr (.inr (fun _ => none)))))) := by rw [eM4]; exact gw_up_self _ _ _ _
    rw [← eM4] at hF3
    refine lv_goto (tgt := 24) hx hb d_Ars_copyOf_10 (by decide) ?_
    refine lv_astore_n (lv' := [(3, .ref q1), (0, .ref a), (1, .int (nI q)), (2, .ref (G.2.2.1 4))]) hx hb d_Ars_copyOf_24 rfl hl (by decide) rfl (fun ls hl => ?_)
    refine lv_aload_n hx hb d_Ars_copyOf_25 rfl (lv_at hl 1 rfl) ?_
    refine lv_iconst (v := 0) hx hb d_Ars_copyOf_26 (by decide) ?_
    refine lv_aload_n hx hb d_Ars_copyOf_27 rfl (lv_at hl 0 rfl) ?_
    refine lv_iconst (v := 0) hx hb d_Ars_copyOf_28 (by decide) ?_
    refine lv_aload_n hx hb d_Ars_copyOf_29 rfl (lv_at hl 1 rfl) ?_
    refine gw_alen (v := nI n) hx hb hE.K hW 1 hf_a rfl rfl d_Ars_copyOf_30 ?_
    refine lv_iload_n hx hb d_Ars_copyOf_31 rfl (lv_at hl 2 rfl) ?_
    refine va_mmin (x := nI n) (y := nI q) hx hb (hml.trans hl.1.symm) hown (hts _ mw93) (hts _ mw94) (hts _ mw70) (hts _ mw95) (Nat.le_of_ble_eq_true rfl) (Nat.le_of_ble_eq_true rfl) (Nat.le_of_ble_eq_true rfl) (Nat.le_of_ble_eq_true rfl) d_Ars_copyOf_32 ?_
    refine W.eq (g2 := F0 m 35 ls [.int (nI n), .int 0, .ref q1, .int 0, .ref a]) (by rw [gx_mn hnq (by omega)]) ?_
    have hcl9 : (nI n).toNatClampNeg = n := nI_clamp (by omega)
    have hc09 : (0 : Int32).toNatClampNeg = 0 := by decide
    refine gw_copyq (C := "Generations$Job") (sp := 0) (dp := 0) (n := nI n) hx hb (hml.trans hl.1.symm) hown (hts _ mw96) (hts _ mw97) (hts _ mw98) (hts _ mw99) hE.K hW hS 1 1 hf_a hf_q1 rfl rfl (by decide) (by decide) (nI_pos (by omega)) (by rw [hcl9, hc09]; omega) (by rw [hcl9, hc09]; omega) (fun i hi y hy => ?_) (fun comp c0 e1 e2 => ?_) (Nat.le_of_ble_eq_true rfl) (Nat.le_of_ble_eq_true rfl) d_Ars_copyOf_35 (fun H locs hW hS => ?_)
    · rw [hcl9] at hi
      rw [hc09, Nat.zero_add] at hy
      obtain ⟨y2, fs, hy2, hM2⟩ := hel i hi
      rw [hy2] at hy
      rw [← Option.some.inj hy]
      exact gw_recv (ci := 3) hE.K hW rfl (show M4 y2 = some (10, .inr (3, fs)) by rw [eM4]; exact gw_keepN hM2 hq2)
    · obtain ⟨c3, c4, hc3, hc4, hasg⟩ := Cond.castable_spec (hts _ mw88)
      cases Option.some.inj (hc3.symm.trans e2)
      cases Option.some.inj (hc4.symm.trans e1)
      exact hasg
    rw [hcl9, hc09] at hW
    have hF5 : gw_fg (gw_out [6]) M (gw_up M4 q1 6 (.inl (G.2.1 1, q, .inr (.inr (.inr (.inr (va_cpy f (fun _ => none) 0 0 n))))))) := gw_fg.up hF3 hf_q1 (show ¬ ((gw_out [6]) 6) by decide) (show ¬ ((gw_out [6]) 6) by decide)
    obtain ⟨M6, eM6⟩ : ∃ z, z = gw_up M4 q1 6 (.inl (G.2.1 1, q, .inr (.inr (.inr (.inr (va_cpy f (fun _ => none) 0 0 n)))))) := ⟨_, rfl⟩
    replace hW : gw_P G.1 vwCl G.2.2.2 M6 H := by rw [eM6]; exact hW
    have hf_q1 : M6 q1 = some (6, .inl (G.2.1 1, q, .inr (.inr (.inr (.inr (va_cpy f (fun _ => none) 0 0 n)))))) := by rw [eM6]; exact gw_up_self _ _ _ _
    rw [← eM6] at hF5
    refine lv_aload_n hx hb d_Ars_copyOf_38 rfl (lv_at hl 0 rfl) ?_
    exact gw_aret hx hb hr hlocks (Or.inr ⟨_, rfl⟩) hS hW (Nat.le_of_ble_eq_true rfl) (Nat.le_of_ble_eq_true rfl) d_Ars_copyOf_39 (⟨q1, rfl, hf_q1, hF5⟩)

set_option maxHeartbeats 4000000 in
set_option maxRecDepth 100000 in
theorem c_copy2K (l : Launch) (G : gw_G) (M : gw_M) (a : Nat) (n : Nat) (q : Nat) (f : Nat → Option Nat) (hf_a : M a = some (7, .inl (G.2.1 1, n, .inr (.inr (.inr (.inr f)))))) (hnq : n ≤ q) (hq : q ≤ 1000) (hel : ∀ i : Nat, i < n → ∃ (y : Nat) (fs : List Value), f i = some y ∧ M y = some (9, .inr (2, fs))) : Met l y_Ars_copyOf2 [.code y_Ars_copyOf2 b_Ars_copyOf2 2 (some (.array (.object "java/lang/Object")))] ({ frames := 2, cells := 1, slots := 1000, locals := 63 }) (gw_Pc G M [.ref a, .int (nI q)]) (gw_Qr G (fun r M2 => ∃ (c : Nat), c = r ∧ M2 c = some (7, .inl (G.2.1 1, q, .inr (.inr (.inr (.inr (va_cpy f (fun _ => none) 0 0 n)))))) ∧ gw_fg (gw_out [7]) M M2)) 1 1000 (gw_A G) := by
  refine gw_start (by decide) (Nat.le_of_ble_eq_true rfl) (fun p9 e9 s m b9 mt9 c9 hx hb hr hml hown hlocks hin hE hB hW ls hl => ?_)
  have hts := hE.ts ([.ref a, .int (nI q)] : List Value).toArray
  have hl : lv_has ls 2 [(0, .ref a), (1, .int (nI q))] := hl
  have hS : va_S (gw_A G) s.heap s.heap [] := va_S.rf
  have hown : s.vm.findClass "java/util/Arrays" = some m.cls := hown
  refine lv_aload_n hx hb d_Ars_copyOf2_0 rfl (lv_at hl 0 rfl) ?_
  refine lv_iload_n hx hb d_Ars_copyOf2_1 rfl (lv_at hl 1 rfl) ?_
  refine lv_aload_n hx hb d_Ars_copyOf2_2 rfl (lv_at hl 0 rfl) ?_
  refine va_getC (C := "[Ljava/lang/Object;") hx hb (hml.trans hl.1.symm) hown (hts _ mw100) (hts _ mw101) (hts _ mw102) (hts _ mw103) (hts _ mw104) hE.mi (gw_recvA hE.K hW hf_a) (Nat.le_of_ble_eq_true rfl) (Nat.le_of_ble_eq_true rfl) d_Ars_copyOf2_3 ?_
  refine gw_callr hS (va_runS (As := [.ref a, .int (nI q), .ref (G.2.2.1 4)]) (rest := []) ⟨hx, hb, hml, hown, hts⟩ (c_copy3K l G M a n q f hf_a hnq hq hel) (cwS 3 hts (gw_gs mw106 mw107 mw108 mw105) rfl rfl rfl (by decide +kernel) ⟨Nat.le_of_ble_eq_true rfl, Nat.le_of_ble_eq_true rfl⟩) (gw_ps hE hB hS hW) rfl rfl hl.1 rfl (lv_room (Nat.le_of_ble_eq_true rfl)) d_Ars_copyOf2_6 ⟨Nat.le_of_ble_eq_true rfl, Nat.le_of_ble_eq_true rfl⟩) (fun r1 M2 H locs hw3 hW hS => ?_)
  refine W.widen (k := 1) (n := 1000) (Nat.le_refl _) (Nat.le_refl _) ?_
  obtain ⟨c4, rfl, hf_c4', hfr5⟩ := hw3
  have hf_c4 : M2 c4 = some (7, .inl (G.2.1 1, q, .inr (.inr (.inr (.inr (va_cpy f (fun _ => none) 0 0 n)))))) := hf_c4'
  have hF6 : gw_fg (gw_out [7]) M M2 := gw_fg.tr gw_fg.rf (gw_fg.wk hfr5 (by decide))
  exact gw_aret hx hb hr hlocks (Or.inr ⟨_, rfl⟩) hS hW (Nat.le_of_ble_eq_true rfl) (Nat.le_of_ble_eq_true rfl) d_Ars_copyOf2_9 (⟨c4, rfl, hf_c4, hF6⟩)

set_option maxHeartbeats 4000000 in
set_option maxRecDepth 100000 in
theorem c_copy2J (l : Launch) (G : gw_G) (M : gw_M) (a : Nat) (n : Nat) (q : Nat) (f : Nat → Option Nat) (hf_a : M a = some (6, .inl (G.2.1 1, n, .inr (.inr (.inr (.inr f)))))) (hnq : n ≤ q) (hq : q ≤ 1000) (hel : ∀ i : Nat, i < n → ∃ (y : Nat) (fs : List Value), f i = some y ∧ M y = some (10, .inr (3, fs))) : Met l y_Ars_copyOf2 [.code y_Ars_copyOf2 b_Ars_copyOf2 2 (some (.array (.object "java/lang/Object")))] ({ frames := 2, cells := 1, slots := 1000, locals := 63 }) (gw_Pc G M [.ref a, .int (nI q)]) (gw_Qr G (fun r M2 => ∃ (c : Nat), c = r ∧ M2 c = some (6, .inl (G.2.1 1, q, .inr (.inr (.inr (.inr (va_cpy f (fun _ => none) 0 0 n)))))) ∧ gw_fg (gw_out [6]) M M2)) 1 1000 (gw_A G) := by
  refine gw_start (by decide) (Nat.le_of_ble_eq_true rfl) (fun p9 e9 s m b9 mt9 c9 hx hb hr hml hown hlocks hin hE hB hW ls hl => ?_)
  have hts := hE.ts ([.ref a, .int (nI q)] : List Value).toArray
  have hl : lv_has ls 2 [(0, .ref a), (1, .int (nI q))] := hl
  have hS : va_S (gw_A G) s.heap s.heap [] := va_S.rf
  have hown : s.vm.findClass "java/util/Arrays" = some m.cls := hown
  refine lv_aload_n hx hb d_Ars_copyOf2_0 rfl (lv_at hl 0 rfl) ?_
  refine lv_iload_n hx hb d_Ars_copyOf2_1 rfl (lv_at hl 1 rfl) ?_
  refine lv_aload_n hx hb d_Ars_copyOf2_2 rfl (lv_at hl 0 rfl) ?_
  refine va_getC (C := "[Ljava/lang/Object;") hx hb (hml.trans hl.1.symm) hown (hts _ mw100) (hts _ mw101) (hts _ mw102) (hts _ mw103) (hts _ mw104) hE.mi (gw_recvA hE.K hW hf_a) (Nat.le_of_ble_eq_true rfl) (Nat.le_of_ble_eq_true rfl) d_Ars_copyOf2_3 ?_
  refine gw_callr hS (va_runS (As := [.ref a, .int (nI q), .ref (G.2.2.1 4)]) (rest := []) ⟨hx, hb, hml, hown, hts⟩ (c_copy3J l G M a n q f hf_a hnq hq hel) (cwS 3 hts (gw_gs mw106 mw107 mw108 mw105) rfl rfl rfl (by decide +kernel) ⟨Nat.le_of_ble_eq_true rfl, Nat.le_of_ble_eq_true rfl⟩) (gw_ps hE hB hS hW) rfl rfl hl.1 rfl (lv_room (Nat.le_of_ble_eq_true rfl)) d_Ars_copyOf2_6 ⟨Nat.le_of_ble_eq_true rfl, Nat.le_of_ble_eq_true rfl⟩) (fun r1 M2 H locs hw3 hW hS => ?_)
  refine W.widen (k := 1) (n := 1000) (Nat.le_refl _) (Nat.le_refl _) ?_
  obtain ⟨c4, rfl, hf_c4', hfr5⟩ := hw3
  have hf_c4 : M2 c4 = some (6, .inl (G.2.1 1, q, .inr (.inr (.inr (.inr (va_cpy f (fun _ => none) 0 0 n)))))) := hf_c4'
  have hF6 : gw_fg (gw_out [6]) M M2 := gw_fg.tr gw_fg.rf (gw_fg.wk hfr5 (by decide))
  exact gw_aret hx hb hr hlocks (Or.inr ⟨_, rfl⟩) hS hW (Nat.le_of_ble_eq_true rfl) (Nat.le_of_ble_eq_true rfl) d_Ars_copyOf2_9 (⟨c4, rfl, hf_c4, hF6⟩)

set_option maxHeartbeats 4000000 in
set_option maxRecDepth 100000 in
theorem c_growIK (l : Launch) (G : gw_G) (M : gw_M) (o : Nat) (k : Int32) (a : Nat) (n : Nat) (f : Nat → Option Nat) (hf_o : M o = some (5, .inr (4, [.int k, .ref a, .int (nI n)]))) (hf_a : M a = some (7, .inl (G.2.1 1, n, .inr (.inr (.inr (.inr f)))))) (hn1 : 1 ≤ n) (hn2 : n ≤ 600) (hel : ∀ i : Nat, i < n → ∃ (y : Nat) (fs : List Value), f i = some y ∧ M y = some (9, .inr (2, fs))) : Met l y_AL_grow [.code y_AL_grow b_AL_grow 4 (some (.array (.object "java/lang/Object")))] ({ frames := 3, cells := 1, slots := 1000, locals := 84 }) (gw_Pc G M [.ref o, .int ((nI n) + 1)]) (gw_Qr G (fun r M2 => ∃ (c : Nat) (q : Nat), c = r ∧ M2 c = some (7, .inl (G.2.1 1, q, .inr (.inr (.inr (.inr (va_cpy f (fun _ => none) 0 0 n)))))) ∧ M2 o = some (5, .inr (4, [.int k, .ref c, .int (nI n)])) ∧ n < q ∧ q ≤ 1000 ∧ gw_fg (gw_out [5, 7]) M M2)) 1 1000 (gw_A G) := by
  refine gw_start (by decide) (Nat.le_of_ble_eq_true rfl) (fun p9 e9 s m b9 mt9 c9 hx hb hr hml hown hlocks hin hE hB hW ls hl => ?_)
  have hts := hE.ts ([.ref o, .int ((nI n) + 1)] : List Value).toArray
  have hl : lv_has ls 4 [(0, .ref o), (1, .int ((nI n) + 1))] := hl
  have hS : va_S (gw_A G) s.heap s.heap [] := va_S.rf
  have hown : s.vm.findClass "java/util/ArrayList" = some m.cls := hown
  refine lv_aload_n hx hb d_AL_grow_0 rfl (lv_at hl 0 rfl) ?_
  refine gw_get (ci := 4) (fs := [.int k, .ref a, .int (nI n)]) hx hb hts in_AL hown hE.K hW hf_o rfl 1 (by decide) (hts _ mw5) (fun _ h9 => h9) rfl d_AL_grow_1 ?_
  refine gw_alen (v := nI n) hx hb hE.K hW 1 hf_a rfl rfl d_AL_grow_4 ?_
  refine lv_istore_n (lv' := [(2, .int (nI n)), (0, .ref o), (1, .int ((nI n) + 1))]) hx hb d_AL_grow_5 rfl hl (by decide) rfl (fun ls hl => ?_)
  refine lv_iload_n hx hb d_AL_grow_6 rfl (lv_at hl 0 rfl) ?_
  refine lv_if_gt (tgt := 20) hx hb d_AL_grow_7 (by decide) (fun c7 => ?_) (fun c7 => ?_)
  · refine lv_iload_n hx hb d_AL_grow_20 rfl (lv_at hl 0 rfl) ?_
    refine lv_iload_n hx hb d_AL_grow_21 rfl (lv_at hl 2 rfl) ?_
    refine lv_iload_n hx hb d_AL_grow_22 rfl (lv_at hl 0 rfl) ?_
    refine lv_isub hx hb d_AL_grow_23 ?_
    refine lv_iload_n hx hb d_AL_grow_24 rfl (lv_at hl 0 rfl) ?_
    refine lv_iconst (v := 1) hx hb d_AL_grow_25 (by decide) ?_
    refine lv_ishr hx hb d_AL_grow_26 ?_
    refine W.eq (g2 := F0 m 27 ls [.int (nI (n / 2)), .int (nI 1), .int (nI n)]) (by rw [gx_half (by omega), gx_one]) ?_
    refine gr_calli (va_runS (As := [.int (nI n), .int (nI 1), .int (nI (n / 2))]) (rest := []) ⟨hx, hb, hml, hown, hts⟩ (s_newLength l G M n (n / 2)  hn1 (by omega) (by omega)) (va_cwS 3 hts (gw_gt mw110 mw111 mw112 mw109) rfl rfl rfl (by decide +kernel) ⟨Nat.le_of_ble_eq_true rfl, Nat.le_of_ble_eq_true rfl⟩) (gw_ps hE hB hS hW) rfl rfl hl.1 rfl (lv_room (Nat.le_of_ble_eq_true rfl)) d_AL_grow_27 ⟨Nat.le_of_ble_eq_true rfl, Nat.le_of_ble_eq_true rfl⟩) (fun r1 hw2 => ?_)
    obtain ⟨d, hd1, hd2, rfl⟩ := hw2
    obtain ⟨q, eq9⟩ : ∃ z : Nat, z = n + d := ⟨_, rfl⟩
    rw [← eq9]
    refine lv_istore_n (lv' := [(3, .int (nI q)), (2, .int (nI n)), (0, .ref o), (1, .int ((nI n) + 1))]) hx hb d_AL_grow_30 rfl hl (by decide) rfl (fun ls hl => ?_)
    refine lv_aload_n hx hb d_AL_grow_31 rfl (lv_at hl 2 rfl) ?_
    refine lv_aload_n hx hb d_AL_grow_32 rfl (lv_at hl 2 rfl) ?_
    refine gw_get (ci := 4) (fs := [.int k, .ref a, .int (nI n)]) hx hb hts in_AL hown hE.K hW hf_o rfl 1 (by decide) (hts _ mw5) (fun _ h9 => h9) rfl d_AL_grow_33 ?_
    refine lv_iload_n hx hb d_AL_grow_36 rfl (lv_at hl 0 rfl) ?_
    refine gw_callr hS (va_runS (As := [.ref a, .int (nI q)]) (rest := [.ref o]) ⟨hx, hb, hml, hown, hts⟩ (c_copy2K l G M a n q f hf_a (by omega) (by omega) hel) (va_cwS 2 hts (gw_gt mw114 mw115 mw108 mw113) rfl rfl rfl (by decide +kernel) ⟨Nat.le_of_ble_eq_true rfl, Nat.le_of_ble_eq_true rfl⟩) (gw_ps hE hB hS hW) rfl rfl hl.1 rfl (lv_room (Nat.le_of_ble_eq_true rfl)) d_AL_grow_37 ⟨Nat.le_of_ble_eq_true rfl, Nat.le_of_ble_eq_true rfl⟩) (fun r3 M4 H locs hw5 hW hS => ?_)
    refine W.widen (k := 1) (n := 1000) (Nat.le_refl _) (Nat.le_refl _) ?_
    obtain ⟨c6, rfl, hf_c6', hfr7⟩ := hw5
    have hf_o : M4 o = some (5, .inr (4, [.int k, .ref a, .int (nI n)])) := (hfr7.1 _ _ _ (by decide)).mp hf_o
    have hf_c6 : M4 c6 = some (7, .inl (G.2.1 1, q, .inr (.inr (.inr (.inr (va_cpy f (fun _ => none) 0 0 n)))))) := hf_c6'
    have hF8 : gw_fg (gw_out [5, 7]) M M4 := gw_fg.tr gw_fg.rf (gw_fg.wk hfr7 (by decide))
    refine lv_dup_x1 hx hb d_AL_grow_40 rfl rfl ?_
    refine gw_put (ci := 4) (fs := [.int k, .ref a, .int (nI n)]) (v := .ref c6) (ty := .array (.object "java/lang/Object")) hx hb hts in_AL t_AL t_AL_ok n_AL hown hE.K hW hS hf_o rfl 1 (by decide) (hts _ mw5) (fun _ h9 => h9) rfl (by decide +kernel) rfl rfl (Nat.le_of_ble_eq_true rfl) d_AL_grow_41 (fun H locs hW hS => ?_)
    have hF9 : gw_fg (gw_out [5, 7]) M (gw_up M4 o 5 (.inr (4, [.int k, .ref c6, .int (nI n)]))) := gw_fg.up hF8 hf_o (show ¬ ((gw_out [5, 7]) 5) by decide) (show ¬ ((gw_out [5, 7]) 5) by decide)
    obtain ⟨M10, eM10⟩ : ∃ z, z = gw_up M4 o 5 (.inr (4, [.int k, .ref c6, .int (nI n)])) := ⟨_, rfl⟩
    replace hW : gw_P G.1 vwCl G.2.2.2 M10 H := by rw [eM10]; exact hW
    have hf_c6 : M10 c6 = some (7, .inl (G.2.1 1, q, .inr (.inr (.inr (.inr (va_cpy f (fun _ => none) 0 0 n)))))) := by rw [eM10]; exact gw_keep hf_c6 hf_o (by decide)
    have hf_o : M10 o = some (5, .inr (4, [.int k, .ref c6, .int (nI n)])) := by rw [eM10]; exact gw_up_self _ _ _ _
    rw [← eM10] at hF9
    exact gw_aret hx hb hr hlocks (Or.inr ⟨_, rfl⟩) hS hW (Nat.le_of_ble_eq_true rfl) (Nat.le_of_ble_eq_true rfl) d_AL_grow_44 (⟨c6, q, rfl, hf_c6, hf_o, (by omega), (by omega), hF9⟩)
  · exact absurd (gx_gt0 hn1 (by omega)) c7

set_option maxHeartbeats 4000000 in
set_option maxRecDepth 100000 in
theorem c_growK (l : Launch) (G : gw_G) (M : gw_M) (o : Nat) (k : Int32) (a : Nat) (n : Nat) (f : Nat → Option Nat) (hf_o : M o = some (5, .inr (4, [.int k, .ref a, .int (nI n)]))) (hf_a : M a = some (7, .inl (G.2.1 1, n, .inr (.inr (.inr (.inr f)))))) (hn1 : 1 ≤ n) (hn2 : n ≤ 600) (hel : ∀ i : Nat, i < n → ∃ (y : Nat) (fs : List Value), f i = some y ∧ M y = some (9, .inr (2, fs))) : Met l y_AL_grow2 [.code y_AL_grow2 b_AL_grow2 1 (some (.array (.object "java/lang/Object")))] ({ frames := 4, cells := 1, slots := 1000, locals := 107 }) (gw_Pc G M [.ref o]) (gw_Qr G (fun r M2 => ∃ (c : Nat) (q : Nat), c = r ∧ M2 c = some (7, .inl (G.2.1 1, q, .inr (.inr (.inr (.inr (va_cpy f (fun _ => none) 0 0 n)))))) ∧ M2 o = some (5, .inr (4, [.int k, .ref c, .int (nI n)])) ∧ n < q ∧ q ≤ 1000 ∧ gw_fg (gw_out [5, 7]) M M2)) 1 1000 (gw_A G) := by
  refine gw_start (by decide) (Nat.le_of_ble_eq_true rfl) (fun p9 e9 s m b9 mt9 c9 hx hb hr hml hown hlocks hin hE hB hW ls hl => ?_)
  have hts := hE.ts ([.ref o] : List Value).toArray
  have hl : lv_has ls 1 [(0, .ref o)] := hl
  have hS : va_S (gw_A G) s.heap s.heap [] := va_S.rf
  have hown : s.vm.findClass "java/util/ArrayList" = some m.cls := hown
  refine lv_aload_n hx hb d_AL_grow2_0 rfl (lv_at hl 0 rfl) ?_
  refine lv_aload_n hx hb d_AL_grow2_1 rfl (lv_at hl 0 rfl) ?_
  refine gw_get (ci := 4) (fs := [.int k, .ref a, .int (nI n)]) hx hb hts in_AL hown hE.K hW hf_o rfl 2 (by decide) (hts _ mw0) (fun _ h9 => h9) rfl d_AL_grow2_2 ?_
  refine lv_iconst (v := 1) hx hb d_AL_grow2_5 (by decide) ?_
  refine lv_iadd hx hb d_AL_grow2_6 ?_
  refine gw_callr hS (va_runV (As := [.int ((nI n) + 1)]) (rest := []) ⟨hx, hb, hml, hown, hts⟩ (c_growIK l G M o k a n f hf_o hf_a hn1 hn2 hel) (cwV 1 hts (gw_gv mw74 mw75 mw76 mw14 mw73) rfl rfl rfl (by decide +kernel) ⟨Nat.le_of_ble_eq_true rfl, Nat.le_of_ble_eq_true rfl⟩) (gw_pv hE hB hS hW rfl hf_o) rfl rfl hl.1 rfl (lv_room (Nat.le_of_ble_eq_true rfl)) d_AL_grow2_7 ⟨Nat.le_of_ble_eq_true rfl, Nat.le_of_ble_eq_true rfl⟩) (fun r1 M2 H locs hw3 hW hS => ?_)
  refine W.widen (k := 1) (n := 1000) (Nat.le_refl _) (Nat.le_refl _) ?_
  obtain ⟨c4, q5, rfl, hf_c4', hf_o', hq1, hq2, hfr6⟩ := hw3
  have hf_c4 : M2 c4 = some (7, .inl (G.2.1 1, q5, .inr (.inr (.inr (.inr (va_cpy f (fun _ => none) 0 0 n)))))) := hf_c4'
  have hf_o : M2 o = some (5, .inr (4, [.int k, .ref c4, .int (nI n)])) := hf_o'
  have hF7 : gw_fg (gw_out [5, 7]) M M2 := gw_fg.tr gw_fg.rf (gw_fg.wk hfr6 (by decide))
  exact gw_aret hx hb hr hlocks (Or.inr ⟨_, rfl⟩) hS hW (Nat.le_of_ble_eq_true rfl) (Nat.le_of_ble_eq_true rfl) d_AL_grow2_10 (⟨c4, q5, rfl, hf_c4, hf_o, hq1, hq2, hF7⟩)

set_option maxHeartbeats 4000000 in
set_option maxRecDepth 100000 in
theorem c_add3K (l : Launch) (G : gw_G) (M : gw_M) (o : Nat) (k : Int32) (a : Nat) (n : Nat) (f : Nat → Option Nat) (g : Nat) (v1 : Int32) (v2 : Int32) (v3 : Int32) (v4 : Int32) (v5 : Int32) (hf_o : M o = some (5, .inr (4, [.int k, .ref a, .int (nI n)]))) (hf_a : M a = some (7, .inl (G.2.1 1, n, .inr (.inr (.inr (.inr f)))))) (hf_g : M g = some (9, .inr (2, [.int v1, .int v2, .int v3, .int v4, .int v5]))) (hn1 : 1 ≤ n) (hn2 : n ≤ 600) (hel : ∀ i : Nat, i < n → ∃ (y : Nat) (fs : List Value), f i = some y ∧ M y = some (9, .inr (2, fs))) : Met l y_AL_add [.code y_AL_add b_AL_add 4 none] ({ frames := 5, cells := 1, slots := 1000, locals := 127 }) (gw_Pc G M [.ref o, .ref g, .ref a, .int (nI n)]) (gw_Qv G (fun M2 => ∃ (c : Nat) (q : Nat), M2 o = some (5, .inr (4, [.int k, .ref c, .int ((nI n) + 1)])) ∧ M2 c = some (7, .inl (G.2.1 1, q, .inr (.inr (.inr (.inr (va_up (va_cpy f (fun _ => none) 0 0 n) (nI n : Int32).toNatClampNeg (some g))))))) ∧ n < q ∧ q ≤ 1000 ∧ gw_fg (gw_out [5, 7]) M M2)) 1 1000 (gw_A G) := by
  refine gw_start (by decide) (Nat.le_of_ble_eq_true rfl) (fun p9 e9 s m b9 mt9 c9 hx hb hr hml hown hlocks hin hE hB hW ls hl => ?_)
  have hts := hE.ts ([.ref o, .ref g, .ref a, .int (nI n)] : List Value).toArray
  have hl : lv_has ls 4 [(0, .ref o), (1, .ref g), (2, .ref a), (3, .int (nI n))] := hl
  have hS : va_S (gw_A G) s.heap s.heap [] := va_S.rf
  have hown : s.vm.findClass "java/util/ArrayList" = some m.cls := hown
  refine lv_iload_n hx hb d_AL_add_0 rfl (lv_at hl 3 rfl) ?_
  refine lv_aload_n hx hb d_AL_add_1 rfl (lv_at hl 2 rfl) ?_
  refine gw_alen (v := nI n) hx hb hE.K hW 1 hf_a rfl rfl d_AL_add_2 ?_
  refine lv_icmp_ne (tgt := 11) hx hb d_AL_add_3 (by decide) (fun c3 => ?_) (fun c3 => ?_)
  · exact absurd rfl c3
  · refine lv_aload_n hx hb d_AL_add_6 rfl (lv_at hl 0 rfl) ?_
    refine gw_callr hS (va_runV (As := []) (rest := []) ⟨hx, hb, hml, hown, hts⟩ (c_growK l G M o k a n f hf_o hf_a hn1 hn2 hel) (cwV 0 hts (gw_gv mw78 mw79 mw80 mw14 mw77) rfl rfl rfl (by decide +kernel) ⟨Nat.le_of_ble_eq_true rfl, Nat.le_of_ble_eq_true rfl⟩) (gw_pv hE hB hS hW rfl hf_o) rfl rfl hl.1 rfl (lv_room (Nat.le_of_ble_eq_true rfl)) d_AL_add_7 ⟨Nat.le_of_ble_eq_true rfl, Nat.le_of_ble_eq_true rfl⟩) (fun r1 M2 H locs hw3 hW hS => ?_)
    refine W.widen (k := 1) (n := 1000) (Nat.le_refl _) (Nat.le_refl _) ?_
    obtain ⟨c4, q5, rfl, hf_c4', hf_o', hq1, hq2, hfr6⟩ := hw3
    have hf_g : M2 g = some (9, .inr (2, [.int v1, .int v2, .int v3, .int v4, .int v5])) := (hfr6.1 _ _ _ (by decide)).mp hf_g
    have hf_c4 : M2 c4 = some (7, .inl (G.2.1 1, q5, .inr (.inr (.inr (.inr (va_cpy f (fun _ => none) 0 0 n)))))) := hf_c4'
    have hf_o : M2 o = some (5, .inr (4, [.int k, .ref c4, .int (nI n)])) := hf_o'
    have hF7 : gw_fg (gw_out [5, 7]) M M2 := gw_fg.tr gw_fg.rf (gw_fg.wk hfr6 (by decide))
    refine lv_astore_n (lv' := [(2, .ref c4), (0, .ref o), (1, .ref g), (3, .int (nI n))]) hx hb d_AL_add_10 rfl hl (by decide) rfl (fun ls hl => ?_)
    refine lv_aload_n hx hb d_AL_add_11 rfl (lv_at hl 0 rfl) ?_
    refine lv_iload_n hx hb d_AL_add_12 rfl (lv_at hl 3 rfl) ?_
    refine lv_aload_n hx hb d_AL_add_13 rfl (lv_at hl 2 rfl) ?_
    refine gw_aastO (i := nI n) (v := g) hx hb hE.K hW hS 1 2 hf_c4 rfl (hE.nw mw81) hf_g rfl (vp_in_nI hq1 (by omega)) d_AL_add_14 (fun H locs hW hS => ?_)
    have hF8 : gw_fg (gw_out [5, 7]) M (gw_up M2 c4 7 (.inl (G.2.1 1, q5, .inr (.inr (.inr (.inr (va_up (va_cpy f (fun _ => none) 0 0 n) (nI n : Int32).toNatClampNeg (some g)))))))) := gw_fg.up hF7 hf_c4 (show ¬ ((gw_out [5, 7]) 7) by decide) (show ¬ ((gw_out [5, 7]) 7) by decide)
    obtain ⟨M9, eM9⟩ : ∃ z, z = gw_up M2 c4 7 (.inl (G.2.1 1, q5, .inr (.inr (.inr (.inr (va_up (va_cpy f (fun _ => none) 0 0 n) (nI n : Int32).toNatClampNeg (some g))))))) := ⟨_, rfl⟩
    replace hW : gw_P G.1 vwCl G.2.2.2 M9 H := by rw [eM9]; exact hW
    have hf_o : M9 o = some (5, .inr (4, [.int k, .ref c4, .int (nI n)])) := by rw [eM9]; exact gw_keep hf_o hf_c4 (by decide)
    have hf_g : M9 g = some (9, .inr (2, [.int v1, .int v2, .int v3, .int v4, .int v5])) := by rw [eM9]; exact gw_keep hf_g hf_c4 (by decide)
    have hf_c4 : M9 c4 = some (7, .inl (G.2.1 1, q5, .inr (.inr (.inr (.inr (va_up (va_cpy f (fun _ => none) 0 0 n) (nI n : Int32).toNatClampNeg (some g))))))) := by rw [eM9]; exact gw_up_self _ _ _ _
    rw [← eM9] at hF8
    refine lv_aload_n hx hb d_AL_add_15 rfl (lv_at hl 1 rfl) ?_
    refine lv_iload_n hx hb d_AL_add_16 rfl (lv_at hl 3 rfl) ?_
    refine lv_iconst (v := 1) hx hb d_AL_add_17 (by decide) ?_
    refine lv_iadd hx hb d_AL_add_18 ?_
    refine gw_put (ci := 4) (fs := [.int k, .ref c4, .int (nI n)]) (v := .int ((nI n) + 1)) (ty := .int) hx hb hts in_AL t_AL t_AL_ok n_AL hown hE.K hW hS hf_o rfl 2 (by decide) (hts _ mw0) (fun _ h9 => h9) rfl (by decide +kernel) rfl rfl (Nat.le_of_ble_eq_true rfl) d_AL_add_19 (fun H locs hW hS => ?_)
    have hF10 : gw_fg (gw_out [5, 7]) M (gw_up M9 o 5 (.inr (4, [.int k, .ref c4, .int ((nI n) + 1)]))) := gw_fg.up hF8 hf_o (show ¬ ((gw_out [5, 7]) 5) by decide) (show ¬ ((gw_out [5, 7]) 5) by decide)
    obtain ⟨M11, eM11⟩ : ∃ z, z = gw_up M9 o 5 (.inr (4, [.int k, .ref c4, .int ((nI n) + 1)])) := ⟨_, rfl⟩
    replace hW : gw_P G.1 vwCl G.2.2.2 M11 H := by rw [eM11]; exact hW
    have hf_g : M11 g = some (9, .inr (2, [.int v1, .int v2, .int v3, .int v4, .int v5])) := by rw [eM11]; exact gw_keep hf_g hf_o (by decide)
    have hf_c4 : M11 c4 = some (7, .inl (G.2.1 1, q5, .inr (.inr (.inr (.inr (va_up (va_cpy f (fun _ => none) 0 0 n) (nI n : Int32).toNatClampNeg (some g))))))) := by rw [eM11]; exact gw_keep hf_c4 hf_o (by decide)
    have hf_o : M11 o = some (5, .inr (4, [.int k, .ref c4, .int ((nI n) + 1)])) := by rw [eM11]; exact gw_up_self _ _ _ _
    rw [← eM11] at hF10
    exact gw_vret hx hb hr hlocks hS hW (Nat.le_of_ble_eq_true rfl) (Nat.le_of_ble_eq_true rfl) d_AL_add_22 (⟨c4, q5, hf_o, hf_c4, hq1, hq2, hF10⟩)

set_option maxHeartbeats 4000000 in
set_option maxRecDepth 100000 in
theorem c_addK (l : Launch) (G : gw_G) (M : gw_M) (o : Nat) (k : Int32) (a : Nat) (n : Nat) (f : Nat → Option Nat) (g : Nat) (v1 : Int32) (v2 : Int32) (v3 : Int32) (v4 : Int32) (v5 : Int32) (hf_o : M o = some (5, .inr (4, [.int k, .ref a, .int (nI n)]))) (hf_a : M a = some (7, .inl (G.2.1 1, n, .inr (.inr (.inr (.inr f)))))) (hf_g : M g = some (9, .inr (2, [.int v1, .int v2, .int v3, .int v4, .int v5]))) (hn1 : 1 ≤ n) (hn2 : n ≤ 600) (hel : ∀ i : Nat, i < n → ∃ (y : Nat) (fs : List Value), f i = some y ∧ M y = some (9, .inr (2, fs))) : Met l y_AL_add2 [.code y_AL_add2 b_AL_add2 2 (some .boolean)] ({ frames := 6, cells := 1, slots := 1000, locals := 200 }) (gw_Pc G M [.ref o, .ref g]) (gw_Qi G (fun r M2 => ∃ (c : Nat) (q : Nat), 1 = r ∧ M2 o = some (5, .inr (4, [.int (k + 1), .ref c, .int ((nI n) + 1)])) ∧ M2 c = some (7, .inl (G.2.1 1, q, .inr (.inr (.inr (.inr (va_up (va_cpy f (fun _ => none) 0 0 n) (nI n : Int32).toNatClampNeg (some g))))))) ∧ n < q ∧ q ≤ 1000 ∧ gw_fg (gw_out [5, 7]) M M2)) 1 1000 (gw_A G) := by
  refine gw_start (by decide) (Nat.le_of_ble_eq_true rfl) (fun p9 e9 s m b9 mt9 c9 hx hb hr hml hown hlocks hin hE hB hW ls hl => ?_)
  have hts := hE.ts ([.ref o, .ref g] : List Value).toArray
  have hl : lv_has ls 2 [(0, .ref o), (1, .ref g)] := hl
  have hS : va_S (gw_A G) s.heap s.heap [] := va_S.rf
  have hown : s.vm.findClass "java/util/ArrayList" = some m.cls := hown
  refine lv_aload_n hx hb d_AL_add2_0 rfl (lv_at hl 0 rfl) ?_
  refine lv_dup hx hb d_AL_add2_1 rfl ?_
  refine gw_get (ci := 4) (fs := [.int k, .ref a, .int (nI n)]) hx hb hts in_AL hown hE.K hW hf_o rfl 0 (by decide) (hts _ mw83) (fun x h9 => u_same (hts _ mw82) x h9) rfl d_AL_add2_2 ?_
  refine lv_iconst (v := 1) hx hb d_AL_add2_5 (by decide) ?_
  refine lv_iadd hx hb d_AL_add2_6 ?_
  refine gw_put (ci := 4) (fs := [.int k, .ref a, .int (nI n)]) (v := .int (k + 1)) (ty := .int) hx hb hts in_AL t_AL t_AL_ok n_AL hown hE.K hW hS hf_o rfl 0 (by decide) (hts _ mw83) (fun x h9 => u_same (hts _ mw82) x h9) rfl (by decide +kernel) rfl rfl (Nat.le_of_ble_eq_true rfl) d_AL_add2_7 (fun H locs hW hS => ?_)
  have hF1 : gw_fg (gw_out [5, 7]) M (gw_up M o 5 (.inr (4, [.int (k + 1), .ref a, .int (nI n)]))) := gw_fg.up gw_fg.rf hf_o (show ¬ ((gw_out [5, 7]) 5) by decide) (show ¬ ((gw_out [5, 7]) 5) by decide)
  obtain ⟨M2, eM2⟩ : ∃ z, z = gw_up M o 5 (.inr (4, [.int (k + 1), .ref a, .int (nI n)])) := ⟨_, rfl⟩
  replace hW : gw_P G.1 vwCl G.2.2.2 M2 H := by rw [eM2]; exact hW
  have hf_a : M2 a = some (7, .inl (G.2.1 1, n, .inr (.inr (.inr (.inr f))))) := by rw [eM2]; exact gw_keep hf_a hf_o (by decide)
  have hf_g : M2 g = some (9, .inr (2, [.int v1, .int v2, .int v3, .int v4, .int v5])) := by rw [eM2]; exact gw_keep hf_g hf_o (by decide)
  have hf_o : M2 o = some (5, .inr (4, [.int (k + 1), .ref a, .int (nI n)])) := by rw [eM2]; exact gw_up_self _ _ _ _
  rw [← eM2] at hF1
  refine lv_aload_n hx hb d_AL_add2_10 rfl (lv_at hl 0 rfl) ?_
  refine lv_aload_n hx hb d_AL_add2_11 rfl (lv_at hl 1 rfl) ?_
  refine lv_aload_n hx hb d_AL_add2_12 rfl (lv_at hl 0 rfl) ?_
  refine gw_get (ci := 4) (fs := [.int (k + 1), .ref a, .int (nI n)]) hx hb hts in_AL hown hE.K hW hf_o rfl 1 (by decide) (hts _ mw5) (fun _ h9 => h9) rfl d_AL_add2_13 ?_
  refine lv_aload_n hx hb d_AL_add2_16 rfl (lv_at hl 0 rfl) ?_
  refine gw_get (ci := 4) (fs := [.int (k + 1), .ref a, .int (nI n)]) hx hb hts in_AL hown hE.K hW hf_o rfl 2 (by decide) (hts _ mw0) (fun _ h9 => h9) rfl d_AL_add2_17 ?_
  refine gw_callv hS (va_runV (As := [.ref g, .ref a, .int (nI n)]) (rest := []) ⟨hx, hb, hml, hown, hts⟩ (c_add3K l G M2 o (k + 1) a n f g v1 v2 v3 v4 v5 hf_o hf_a hf_g hn1 hn2 (fun i hi => by obtain ⟨y, fs, h1, h2⟩ := hel i hi; exact ⟨y, fs, h1, (hF1.1 _ _ _ (by decide)).mp h2⟩)) (cwV 3 hts (gw_gv mw85 mw86 mw87 mw14 mw84) rfl rfl rfl (by decide +kernel) ⟨Nat.le_of_ble_eq_true rfl, Nat.le_of_ble_eq_true rfl⟩) (gw_pv hE hB hS hW rfl hf_o) rfl rfl hl.1 rfl (lv_room (Nat.le_of_ble_eq_true rfl)) d_AL_add2_20 ⟨Nat.le_of_ble_eq_true rfl, Nat.le_of_ble_eq_true rfl⟩) (fun M4 H locs hw5 hW hS => ?_)
  refine W.widen (k := 1) (n := 1000) (Nat.le_refl _) (Nat.le_refl _) ?_
  obtain ⟨c6, q7, hf_o', hf_c6', hq1, hq2, hfr8⟩ := hw5
  have hf_g : M4 g = some (9, .inr (2, [.int v1, .int v2, .int v3, .int v4, .int v5])) := (hfr8.1 _ _ _ (by decide)).mp hf_g
  have hf_o : M4 o = some (5, .inr (4, [.int (k + 1), .ref c6, .int ((nI n) + 1)])) := hf_o'
  have hf_c6 : M4 c6 = some (7, .inl (G.2.1 1, q7, .inr (.inr (.inr (.inr (va_up (va_cpy f (fun _ => none) 0 0 n) (nI n : Int32).toNatClampNeg (some g))))))) := hf_c6'
  have hF9 : gw_fg (gw_out [5, 7]) M M4 := gw_fg.tr hF1 (gw_fg.wk hfr8 (by decide))
  refine lv_iconst (v := 1) hx hb d_AL_add2_23 (by decide) ?_
  exact gw_zret hx hb hr hlocks rfl hS hW (Nat.le_of_ble_eq_true rfl) (Nat.le_of_ble_eq_true rfl) d_AL_add2_24 (⟨c6, q7, rfl, hf_o, hf_c6, hq1, hq2, hF9⟩)

set_option maxHeartbeats 4000000 in
set_option maxRecDepth 100000 in
theorem c_growIJ (l : Launch) (G : gw_G) (M : gw_M) (o : Nat) (k : Int32) (a : Nat) (n : Nat) (f : Nat → Option Nat) (hf_o : M o = some (4, .inr (4, [.int k, .ref a, .int (nI n)]))) (hf_a : M a = some (6, .inl (G.2.1 1, n, .inr (.inr (.inr (.inr f)))))) (hn1 : 1 ≤ n) (hn2 : n ≤ 600) (hel : ∀ i : Nat, i < n → ∃ (y : Nat) (fs : List Value), f i = some y ∧ M y = some (10, .inr (3, fs))) : Met l y_AL_grow [.code y_AL_grow b_AL_grow 4 (some (.array (.object "java/lang/Object")))] ({ frames := 3, cells := 1, slots := 1000, locals := 84 }) (gw_Pc G M [.ref o, .int ((nI n) + 1)]) (gw_Qr G (fun r M2 => ∃ (c : Nat) (q : Nat), c = r ∧ M2 c = some (6, .inl (G.2.1 1, q, .inr (.inr (.inr (.inr (va_cpy f (fun _ => none) 0 0 n)))))) ∧ M2 o = some (4, .inr (4, [.int k, .ref c, .int (nI n)])) ∧ n < q ∧ q ≤ 1000 ∧ gw_fg (gw_out [4, 6]) M M2)) 1 1000 (gw_A G) := by
  refine gw_start (by decide) (Nat.le_of_ble_eq_true rfl) (fun p9 e9 s m b9 mt9 c9 hx hb hr hml hown hlocks hin hE hB hW ls hl => ?_)
  have hts := hE.ts ([.ref o, .int ((nI n) + 1)] : List Value).toArray
  have hl : lv_has ls 4 [(0, .ref o), (1, .int ((nI n) + 1))] := hl
  have hS : va_S (gw_A G) s.heap s.heap [] := va_S.rf
  have hown : s.vm.findClass "java/util/ArrayList" = some m.cls := hown
  refine lv_aload_n hx hb d_AL_grow_0 rfl (lv_at hl 0 rfl) ?_
  refine gw_get (ci := 4) (fs := [.int k, .ref a, .int (nI n)]) hx hb hts in_AL hown hE.K hW hf_o rfl 1 (by decide) (hts _ mw5) (fun _ h9 => h9) rfl d_AL_grow_1 ?_
  refine gw_alen (v := nI n) hx hb hE.K hW 1 hf_a rfl rfl d_AL_grow_4 ?_
  refine lv_istore_n (lv' := [(2, .int (nI n)), (0, .ref o), (1, .int ((nI n) + 1))]) hx hb d_AL_grow_5 rfl hl (by decide) rfl (fun ls hl => ?_)
  refine lv_iload_n hx hb d_AL_grow_6 rfl (lv_at hl 0 rfl) ?_
  refine lv_if_gt (tgt := 20) hx hb d_AL_grow_7 (by decide) (fun c7 => ?_) (fun c7 => ?_)
  · refine lv_iload_n hx hb d_AL_grow_20 rfl (lv_at hl 0 rfl) ?_
    refine lv_iload_n hx hb d_AL_grow_21 rfl (lv_at hl 2 rfl) ?_
    refine lv_iload_n hx hb d_AL_grow_22 rfl (lv_at hl 0 rfl) ?_
    refine lv_isub hx hb d_AL_grow_23 ?_
    refine lv_iload_n hx hb d_AL_grow_24 rfl (lv_at hl 0 rfl) ?_
    refine lv_iconst (v := 1) hx hb d_AL_grow_25 (by decide) ?_
    refine lv_ishr hx hb d_AL_grow_26 ?_
    refine W.eq (g2 := F0 m 27 ls [.int (nI (n / 2)), .int (nI 1), .int (nI n)]) (by rw [gx_half (by omega), gx_one]) ?_
    refine gr_calli (va_runS (As := [.int (nI n), .int (nI 1), .int (nI (n / 2))]) (rest := []) ⟨hx, hb, hml, hown, hts⟩ (s_newLength l G M n (n / 2)  hn1 (by omega) (by omega)) (va_cwS 3 hts (gw_gt mw110 mw111 mw112 mw109) rfl rfl rfl (by decide +kernel) ⟨Nat.le_of_ble_eq_true rfl, Nat.le_of_ble_eq_true rfl⟩) (gw_ps hE hB hS hW) rfl rfl hl.1 rfl (lv_room (Nat.le_of_ble_eq_true rfl)) d_AL_grow_27 ⟨Nat.le_of_ble_eq_true rfl, Nat.le_of_ble_eq_true rfl⟩) (fun r1 hw2 => ?_)
    obtain ⟨d, hd1, hd2, rfl⟩ := hw2
    obtain ⟨q, eq9⟩ : ∃ z : Nat, z = n + d := ⟨_, rfl⟩
    rw [← eq9]
    refine lv_istore_n (lv' := [(3, .int (nI q)), (2, .int (nI n)), (0, .ref o), (1, .int ((nI n) + 1))]) hx hb d_AL_grow_30 rfl hl (by decide) rfl (fun ls hl => ?_)
    refine lv_aload_n hx hb d_AL_grow_31 rfl (lv_at hl 2 rfl) ?_
    refine lv_aload_n hx hb d_AL_grow_32 rfl (lv_at hl 2 rfl) ?_
    refine gw_get (ci := 4) (fs := [.int k, .ref a, .int (nI n)]) hx hb hts in_AL hown hE.K hW hf_o rfl 1 (by decide) (hts _ mw5) (fun _ h9 => h9) rfl d_AL_grow_33 ?_
    refine lv_iload_n hx hb d_AL_grow_36 rfl (lv_at hl 0 rfl) ?_
    refine gw_callr hS (va_runS (As := [.ref a, .int (nI q)]) (rest := [.ref o]) ⟨hx, hb, hml, hown, hts⟩ (c_copy2J l G M a n q f hf_a (by omega) (by omega) hel) (va_cwS 2 hts (gw_gt mw114 mw115 mw108 mw113) rfl rfl rfl (by decide +kernel) ⟨Nat.le_of_ble_eq_true rfl, Nat.le_of_ble_eq_true rfl⟩) (gw_ps hE hB hS hW) rfl rfl hl.1 rfl (lv_room (Nat.le_of_ble_eq_true rfl)) d_AL_grow_37 ⟨Nat.le_of_ble_eq_true rfl, Nat.le_of_ble_eq_true rfl⟩) (fun r3 M4 H locs hw5 hW hS => ?_)
    refine W.widen (k := 1) (n := 1000) (Nat.le_refl _) (Nat.le_refl _) ?_
    obtain ⟨c6, rfl, hf_c6', hfr7⟩ := hw5
    have hf_o : M4 o = some (4, .inr (4, [.int k, .ref a, .int (nI n)])) := (hfr7.1 _ _ _ (by decide)).mp hf_o
    have hf_c6 : M4 c6 = some (6, .inl (G.2.1 1, q, .inr (.inr (.inr (.inr (va_cpy f (fun _ => none) 0 0 n)))))) := hf_c6'
    have hF8 : gw_fg (gw_out [4, 6]) M M4 := gw_fg.tr gw_fg.rf (gw_fg.wk hfr7 (by decide))
    refine lv_dup_x1 hx hb d_AL_grow_40 rfl rfl ?_
    refine gw_put (ci := 4) (fs := [.int k, .ref a, .int (nI n)]) (v := .ref c6) (ty := .array (.object "java/lang/Object")) hx hb hts in_AL t_AL t_AL_ok n_AL hown hE.K hW hS hf_o rfl 1 (by decide) (hts _ mw5) (fun _ h9 => h9) rfl (by decide +kernel) rfl rfl (Nat.le_of_ble_eq_true rfl) d_AL_grow_41 (fun H locs hW hS => ?_)
    have hF9 : gw_fg (gw_out [4, 6]) M (gw_up M4 o 4 (.inr (4, [.int k, .ref c6, .int (nI n)]))) := gw_fg.up hF8 hf_o (show ¬ ((gw_out [4, 6]) 4) by decide) (show ¬ ((gw_out [4, 6]) 4) by decide)
    obtain ⟨M10, eM10⟩ : ∃ z, z = gw_up M4 o 4 (.inr (4, [.int k, .ref c6, .int (nI n)])) := ⟨_, rfl⟩
    replace hW : gw_P G.1 vwCl G.2.2.2 M10 H := by rw [eM10]; exact hW
    have hf_c6 : M10 c6 = some (6, .inl (G.2.1 1, q, .inr (.inr (.inr (.inr (va_cpy f (fun _ => none) 0 0 n)))))) := by rw [eM10]; exact gw_keep hf_c6 hf_o (by decide)
    have hf_o : M10 o = some (4, .inr (4, [.int k, .ref c6, .int (nI n)])) := by rw [eM10]; exact gw_up_self _ _ _ _
    rw [← eM10] at hF9
    exact gw_aret hx hb hr hlocks (Or.inr ⟨_, rfl⟩) hS hW (Nat.le_of_ble_eq_true rfl) (Nat.le_of_ble_eq_true rfl) d_AL_grow_44 (⟨c6, q, rfl, hf_c6, hf_o, (by omega), (by omega), hF9⟩)
  · exact absurd (gx_gt0 hn1 (by omega)) c7

set_option maxHeartbeats 4000000 in
set_option maxRecDepth 100000 in
theorem c_growJ (l : Launch) (G : gw_G) (M : gw_M) (o : Nat) (k : Int32) (a : Nat) (n : Nat) (f : Nat → Option Nat) (hf_o : M o = some (4, .inr (4, [.int k, .ref a, .int (nI n)]))) (hf_a : M a = some (6, .inl (G.2.1 1, n, .inr (.inr (.inr (.inr f)))))) (hn1 : 1 ≤ n) (hn2 : n ≤ 600) (hel : ∀ i : Nat, i < n → ∃ (y : Nat) (fs : List Value), f i = some y ∧ M y = some (10, .inr (3, fs))) : Met l y_AL_grow2 [.code y_AL_grow2 b_AL_grow2 1 (some (.array (.object "java/lang/Object")))] ({ frames := 4, cells := 1, slots := 1000, locals := 107 }) (gw_Pc G M [.ref o]) (gw_Qr G (fun r M2 => ∃ (c : Nat) (q : Nat), c = r ∧ M2 c = some (6, .inl (G.2.1 1, q, .inr (.inr (.inr (.inr (va_cpy f (fun _ => none) 0 0 n)))))) ∧ M2 o = some (4, .inr (4, [.int k, .ref c, .int (nI n)])) ∧ n < q ∧ q ≤ 1000 ∧ gw_fg (gw_out [4, 6]) M M2)) 1 1000 (gw_A G) := by
  refine gw_start (by decide) (Nat.le_of_ble_eq_true rfl) (fun p9 e9 s m b9 mt9 c9 hx hb hr hml hown hlocks hin hE hB hW ls hl => ?_)
  have hts := hE.ts ([.ref o] : List Value).toArray
  have hl : lv_has ls 1 [(0, .ref o)] := hl
  have hS : va_S (gw_A G) s.heap s.heap [] := va_S.rf
  have hown : s.vm.findClass "java/util/ArrayList" = some m.cls := hown
  refine lv_aload_n hx hb d_AL_grow2_0 rfl (lv_at hl 0 rfl) ?_
  refine lv_aload_n hx hb d_AL_grow2_1 rfl (lv_at hl 0 rfl) ?_
  refine gw_get (ci := 4) (fs := [.int k, .ref a, .int (nI n)]) hx hb hts in_AL hown hE.K hW hf_o rfl 2 (by decide) (hts _ mw0) (fun _ h9 => h9) rfl d_AL_grow2_2 ?_
  refine lv_iconst (v := 1) hx hb d_AL_grow2_5 (by decide) ?_
  refine lv_iadd hx hb d_AL_grow2_6 ?_
  refine gw_callr hS (va_runV (As := [.int ((nI n) + 1)]) (rest := []) ⟨hx, hb, hml, hown, hts⟩ (c_growIJ l G M o k a n f hf_o hf_a hn1 hn2 hel) (cwV 1 hts (gw_gv mw74 mw75 mw76 mw14 mw73) rfl rfl rfl (by decide +kernel) ⟨Nat.le_of_ble_eq_true rfl, Nat.le_of_ble_eq_true rfl⟩) (gw_pv hE hB hS hW rfl hf_o) rfl rfl hl.1 rfl (lv_room (Nat.le_of_ble_eq_true rfl)) d_AL_grow2_7 ⟨Nat.le_of_ble_eq_true rfl, Nat.le_of_ble_eq_true rfl⟩) (fun r1 M2 H locs hw3 hW hS => ?_)
  refine W.widen (k := 1) (n := 1000) (Nat.le_refl _) (Nat.le_refl _) ?_
  obtain ⟨c4, q5, rfl, hf_c4', hf_o', hq1, hq2, hfr6⟩ := hw3
  have hf_c4 : M2 c4 = some (6, .inl (G.2.1 1, q5, .inr (.inr (.inr (.inr (va_cpy f (fun _ => none) 0 0 n)))))) := hf_c4'
  have hf_o : M2 o = some (4, .inr (4, [.int k, .ref c4, .int (nI n)])) := hf_o'
  have hF7 : gw_fg (gw_out [4, 6]) M M2 := gw_fg.tr gw_fg.rf (gw_fg.wk hfr6 (by decide))
  exact gw_aret hx hb hr hlocks (Or.inr ⟨_, rfl⟩) hS hW (Nat.le_of_ble_eq_true rfl) (Nat.le_of_ble_eq_true rfl) d_AL_grow2_10 (⟨c4, q5, rfl, hf_c4, hf_o, hq1, hq2, hF7⟩)

set_option maxHeartbeats 4000000 in
set_option maxRecDepth 100000 in
theorem c_add3J (l : Launch) (G : gw_G) (M : gw_M) (o : Nat) (k : Int32) (a : Nat) (n : Nat) (f : Nat → Option Nat) (g : Nat) (v1 : Nat) (v2 : Int32) (hf_o : M o = some (4, .inr (4, [.int k, .ref a, .int (nI n)]))) (hf_a : M a = some (6, .inl (G.2.1 1, n, .inr (.inr (.inr (.inr f)))))) (hf_g : M g = some (10, .inr (3, [.ref v1, .int v2]))) (hn1 : 1 ≤ n) (hn2 : n ≤ 600) (hel : ∀ i : Nat, i < n → ∃ (y : Nat) (fs : List Value), f i = some y ∧ M y = some (10, .inr (3, fs))) : Met l y_AL_add [.code y_AL_add b_AL_add 4 none] ({ frames := 5, cells := 1, slots := 1000, locals := 127 }) (gw_Pc G M [.ref o, .ref g, .ref a, .int (nI n)]) (gw_Qv G (fun M2 => ∃ (c : Nat) (q : Nat), M2 o = some (4, .inr (4, [.int k, .ref c, .int ((nI n) + 1)])) ∧ M2 c = some (6, .inl (G.2.1 1, q, .inr (.inr (.inr (.inr (va_up (va_cpy f (fun _ => none) 0 0 n) (nI n : Int32).toNatClampNeg (some g))))))) ∧ n < q ∧ q ≤ 1000 ∧ gw_fg (gw_out [4, 6]) M M2)) 1 1000 (gw_A G) := by
  refine gw_start (by decide) (Nat.le_of_ble_eq_true rfl) (fun p9 e9 s m b9 mt9 c9 hx hb hr hml hown hlocks hin hE hB hW ls hl => ?_)
  have hts := hE.ts ([.ref o, .ref g, .ref a, .int (nI n)] : List Value).toArray
  have hl : lv_has ls 4 [(0, .ref o), (1, .ref g), (2, .ref a), (3, .int (nI n))] := hl
  have hS : va_S (gw_A G) s.heap s.heap [] := va_S.rf
  have hown : s.vm.findClass "java/util/ArrayList" = some m.cls := hown
  refine lv_iload_n hx hb d_AL_add_0 rfl (lv_at hl 3 rfl) ?_
  refine lv_aload_n hx hb d_AL_add_1 rfl (lv_at hl 2 rfl) ?_
  refine gw_alen (v := nI n) hx hb hE.K hW 1 hf_a rfl rfl d_AL_add_2 ?_
  refine lv_icmp_ne (tgt := 11) hx hb d_AL_add_3 (by decide) (fun c3 => ?_) (fun c3 => ?_)
  · exact absurd rfl c3
  · refine lv_aload_n hx hb d_AL_add_6 rfl (lv_at hl 0 rfl) ?_
    refine gw_callr hS (va_runV (As := []) (rest := []) ⟨hx, hb, hml, hown, hts⟩ (c_growJ l G M o k a n f hf_o hf_a hn1 hn2 hel) (cwV 0 hts (gw_gv mw78 mw79 mw80 mw14 mw77) rfl rfl rfl (by decide +kernel) ⟨Nat.le_of_ble_eq_true rfl, Nat.le_of_ble_eq_true rfl⟩) (gw_pv hE hB hS hW rfl hf_o) rfl rfl hl.1 rfl (lv_room (Nat.le_of_ble_eq_true rfl)) d_AL_add_7 ⟨Nat.le_of_ble_eq_true rfl, Nat.le_of_ble_eq_true rfl⟩) (fun r1 M2 H locs hw3 hW hS => ?_)
    refine W.widen (k := 1) (n := 1000) (Nat.le_refl _) (Nat.le_refl _) ?_
    obtain ⟨c4, q5, rfl, hf_c4', hf_o', hq1, hq2, hfr6⟩ := hw3
    have hf_g : M2 g = some (10, .inr (3, [.ref v1, .int v2])) := (hfr6.1 _ _ _ (by decide)).mp hf_g
    have hf_c4 : M2 c4 = some (6, .inl (G.2.1 1, q5, .inr (.inr (.inr (.inr (va_cpy f (fun _ => none) 0 0 n)))))) := hf_c4'
    have hf_o : M2 o = some (4, .inr (4, [.int k, .ref c4, .int (nI n)])) := hf_o'
    have hF7 : gw_fg (gw_out [4, 6]) M M2 := gw_fg.tr gw_fg.rf (gw_fg.wk hfr6 (by decide))
    refine lv_astore_n (lv' := [(2, .ref c4), (0, .ref o), (1, .ref g), (3, .int (nI n))]) hx hb d_AL_add_10 rfl hl (by decide) rfl (fun ls hl => ?_)
    refine lv_aload_n hx hb d_AL_add_11 rfl (lv_at hl 0 rfl) ?_
    refine lv_iload_n hx hb d_AL_add_12 rfl (lv_at hl 3 rfl) ?_
    refine lv_aload_n hx hb d_AL_add_13 rfl (lv_at hl 2 rfl) ?_
    refine gw_aastO (i := nI n) (v := g) hx hb hE.K hW hS 1 3 hf_c4 rfl (hE.nw mw88) hf_g rfl (vp_in_nI hq1 (by omega)) d_AL_add_14 (fun H locs hW hS => ?_)
    have hF8 : gw_fg (gw_out [4, 6]) M (gw_up M2 c4 6 (.inl (G.2.1 1, q5, .inr (.inr (.inr (.inr (va_up (va_cpy f (fun _ => none) 0 0 n) (nI n : Int32).toNatClampNeg (some g)))))))) := gw_fg.up hF7 hf_c4 (show ¬ ((gw_out [4, 6]) 6) by decide) (show ¬ ((gw_out [4, 6]) 6) by decide)
    obtain ⟨M9, eM9⟩ : ∃ z, z = gw_up M2 c4 6 (.inl (G.2.1 1, q5, .inr (.inr (.inr (.inr (va_up (va_cpy f (fun _ => none) 0 0 n) (nI n : Int32).toNatClampNeg (some g))))))) := ⟨_, rfl⟩
    replace hW : gw_P G.1 vwCl G.2.2.2 M9 H := by rw [eM9]; exact hW
    have hf_o : M9 o = some (4, .inr (4, [.int k, .ref c4, .int (nI n)])) := by rw [eM9]; exact gw_keep hf_o hf_c4 (by decide)
    have hf_g : M9 g = some (10, .inr (3, [.ref v1, .int v2])) := by rw [eM9]; exact gw_keep hf_g hf_c4 (by decide)
    have hf_c4 : M9 c4 = some (6, .inl (G.2.1 1, q5, .inr (.inr (.inr (.inr (va_up (va_cpy f (fun _ => none) 0 0 n) (nI n : Int32).toNatClampNeg (some g))))))) := by rw [eM9]; exact gw_up_self _ _ _ _
    rw [← eM9] at hF8
    refine lv_aload_n hx hb d_AL_add_15 rfl (lv_at hl 1 rfl) ?_
    refine lv_iload_n hx hb d_AL_add_16 rfl (lv_at hl 3 rfl) ?_
    refine lv_iconst (v := 1) hx hb d_AL_add_17 (by decide) ?_
    refine lv_iadd hx hb d_AL_add_18 ?_
    refine gw_put (ci := 4) (fs := [.int k, .ref c4, .int (nI n)]) (v := .int ((nI n) + 1)) (ty := .int) hx hb hts in_AL t_AL t_AL_ok n_AL hown hE.K hW hS hf_o rfl 2 (by decide) (hts _ mw0) (fun _ h9 => h9) rfl (by decide +kernel) rfl rfl (Nat.le_of_ble_eq_true rfl) d_AL_add_19 (fun H locs hW hS => ?_)
    have hF10 : gw_fg (gw_out [4, 6]) M (gw_up M9 o 4 (.inr (4, [.int k, .ref c4, .int ((nI n) + 1)]))) := gw_fg.up hF8 hf_o (show ¬ ((gw_out [4, 6]) 4) by decide) (show ¬ ((gw_out [4, 6]) 4) by decide)
    obtain ⟨M11, eM11⟩ : ∃ z, z = gw_up M9 o 4 (.inr (4, [.int k, .ref c4, .int ((nI n) + 1)])) := ⟨_, rfl⟩
    replace hW : gw_P G.1 vwCl G.2.2.2 M11 H := by rw [eM11]; exact hW
    have hf_g : M11 g = some (10, .inr (3, [.ref v1, .int v2])) := by rw [eM11]; exact gw_keep hf_g hf_o (by decide)
    have hf_c4 : M11 c4 = some (6, .inl (G.2.1 1, q5, .inr (.inr (.inr (.inr (va_up (va_cpy f (fun _ => none) 0 0 n) (nI n : Int32).toNatClampNeg (some g))))))) := by rw [eM11]; exact gw_keep hf_c4 hf_o (by decide)
    have hf_o : M11 o = some (4, .inr (4, [.int k, .ref c4, .int ((nI n) + 1)])) := by rw [eM11]; exact gw_up_self _ _ _ _
    rw [← eM11] at hF10
    exact gw_vret hx hb hr hlocks hS hW (Nat.le_of_ble_eq_true rfl) (Nat.le_of_ble_eq_true rfl) d_AL_add_22 (⟨c4, q5, hf_o, hf_c4, hq1, hq2, hF10⟩)

set_option maxHeartbeats 4000000 in
set_option maxRecDepth 100000 in
theorem c_addJ (l : Launch) (G : gw_G) (M : gw_M) (o : Nat) (k : Int32) (a : Nat) (n : Nat) (f : Nat → Option Nat) (g : Nat) (v1 : Nat) (v2 : Int32) (hf_o : M o = some (4, .inr (4, [.int k, .ref a, .int (nI n)]))) (hf_a : M a = some (6, .inl (G.2.1 1, n, .inr (.inr (.inr (.inr f)))))) (hf_g : M g = some (10, .inr (3, [.ref v1, .int v2]))) (hn1 : 1 ≤ n) (hn2 : n ≤ 600) (hel : ∀ i : Nat, i < n → ∃ (y : Nat) (fs : List Value), f i = some y ∧ M y = some (10, .inr (3, fs))) : Met l y_AL_add2 [.code y_AL_add2 b_AL_add2 2 (some .boolean)] ({ frames := 6, cells := 1, slots := 1000, locals := 200 }) (gw_Pc G M [.ref o, .ref g]) (gw_Qi G (fun r M2 => ∃ (c : Nat) (q : Nat), 1 = r ∧ M2 o = some (4, .inr (4, [.int (k + 1), .ref c, .int ((nI n) + 1)])) ∧ M2 c = some (6, .inl (G.2.1 1, q, .inr (.inr (.inr (.inr (va_up (va_cpy f (fun _ => none) 0 0 n) (nI n : Int32).toNatClampNeg (some g))))))) ∧ n < q ∧ q ≤ 1000 ∧ gw_fg (gw_out [4, 6]) M M2)) 1 1000 (gw_A G) := by
  refine gw_start (by decide) (Nat.le_of_ble_eq_true rfl) (fun p9 e9 s m b9 mt9 c9 hx hb hr hml hown hlocks hin hE hB hW ls hl => ?_)
  have hts := hE.ts ([.ref o, .ref g] : List Value).toArray
  have hl : lv_has ls 2 [(0, .ref o), (1, .ref g)] := hl
  have hS : va_S (gw_A G) s.heap s.heap [] := va_S.rf
  have hown : s.vm.findClass "java/util/ArrayList" = some m.cls := hown
  refine lv_aload_n hx hb d_AL_add2_0 rfl (lv_at hl 0 rfl) ?_
  refine lv_dup hx hb d_AL_add2_1 rfl ?_
  refine gw_get (ci := 4) (fs := [.int k, .ref a, .int (nI n)]) hx hb hts in_AL hown hE.K hW hf_o rfl 0 (by decide) (hts _ mw83) (fun x h9 => u_same (hts _ mw82) x h9) rfl d_AL_add2_2 ?_
  refine lv_iconst (v := 1) hx hb d_AL_add2_5 (by decide) ?_
  refine lv_iadd hx hb d_AL_add2_6 ?_
  refine gw_put (ci := 4) (fs := [.int k, .ref a, .int (nI n)]) (v := .int (k + 1)) (ty := .int) hx hb hts in_AL t_AL t_AL_ok n_AL hown hE.K hW hS hf_o rfl 0 (by decide) (hts _ mw83) (fun x h9 => u_same (hts _ mw82) x h9) rfl (by decide +kernel) rfl rfl (Nat.le_of_ble_eq_true rfl) d_AL_add2_7 (fun H locs hW hS => ?_)
  have hF1 : gw_fg (gw_out [4, 6]) M (gw_up M o 4 (.inr (4, [.int (k + 1), .ref a, .int (nI n)]))) := gw_fg.up gw_fg.rf hf_o (show ¬ ((gw_out [4, 6]) 4) by decide) (show ¬ ((gw_out [4, 6]) 4) by decide)
  obtain ⟨M2, eM2⟩ : ∃ z, z = gw_up M o 4 (.inr (4, [.int (k + 1), .ref a, .int (nI n)])) := ⟨_, rfl⟩
  replace hW : gw_P G.1 vwCl G.2.2.2 M2 H := by rw [eM2]; exact hW
  have hf_a : M2 a = some (6, .inl (G.2.1 1, n, .inr (.inr (.inr (.inr f))))) := by rw [eM2]; exact gw_keep hf_a hf_o (by decide)
  have hf_g : M2 g = some (10, .inr (3, [.ref v1, .int v2])) := by rw [eM2]; exact gw_keep hf_g hf_o (by decide)
  have hf_o : M2 o = some (4, .inr (4, [.int (k + 1), .ref a, .int (nI n)])) := by rw [eM2]; exact gw_up_self _ _ _ _
  rw [← eM2] at hF1
  refine lv_aload_n hx hb d_AL_add2_10 rfl (lv_at hl 0 rfl) ?_
  refine lv_aload_n hx hb d_AL_add2_11 rfl (lv_at hl 1 rfl) ?_
  refine lv_aload_n hx hb d_AL_add2_12 rfl (lv_at hl 0 rfl) ?_
  refine gw_get (ci := 4) (fs := [.int (k + 1), .ref a, .int (nI n)]) hx hb hts in_AL hown hE.K hW hf_o rfl 1 (by decide) (hts _ mw5) (fun _ h9 => h9) rfl d_AL_add2_13 ?_
  refine lv_aload_n hx hb d_AL_add2_16 rfl (lv_at hl 0 rfl) ?_
  refine gw_get (ci := 4) (fs := [.int (k + 1), .ref a, .int (nI n)]) hx hb hts in_AL hown hE.K hW hf_o rfl 2 (by decide) (hts _ mw0) (fun _ h9 => h9) rfl d_AL_add2_17 ?_
  refine gw_callv hS (va_runV (As := [.ref g, .ref a, .int (nI n)]) (rest := []) ⟨hx, hb, hml, hown, hts⟩ (c_add3J l G M2 o (k + 1) a n f g v1 v2 hf_o hf_a hf_g hn1 hn2 (fun i hi => by obtain ⟨y, fs, h1, h2⟩ := hel i hi; exact ⟨y, fs, h1, (hF1.1 _ _ _ (by decide)).mp h2⟩)) (cwV 3 hts (gw_gv mw85 mw86 mw87 mw14 mw84) rfl rfl rfl (by decide +kernel) ⟨Nat.le_of_ble_eq_true rfl, Nat.le_of_ble_eq_true rfl⟩) (gw_pv hE hB hS hW rfl hf_o) rfl rfl hl.1 rfl (lv_room (Nat.le_of_ble_eq_true rfl)) d_AL_add2_20 ⟨Nat.le_of_ble_eq_true rfl, Nat.le_of_ble_eq_true rfl⟩) (fun M4 H locs hw5 hW hS => ?_)
  refine W.widen (k := 1) (n := 1000) (Nat.le_refl _) (Nat.le_refl _) ?_
  obtain ⟨c6, q7, hf_o', hf_c6', hq1, hq2, hfr8⟩ := hw5
  have hf_g : M4 g = some (10, .inr (3, [.ref v1, .int v2])) := (hfr8.1 _ _ _ (by decide)).mp hf_g
  have hf_o : M4 o = some (4, .inr (4, [.int (k + 1), .ref c6, .int ((nI n) + 1)])) := hf_o'
  have hf_c6 : M4 c6 = some (6, .inl (G.2.1 1, q7, .inr (.inr (.inr (.inr (va_up (va_cpy f (fun _ => none) 0 0 n) (nI n : Int32).toNatClampNeg (some g))))))) := hf_c6'
  have hF9 : gw_fg (gw_out [4, 6]) M M4 := gw_fg.tr hF1 (gw_fg.wk hfr8 (by decide))
  refine lv_iconst (v := 1) hx hb d_AL_add2_23 (by decide) ?_
  exact gw_zret hx hb hr hlocks rfl hS hW (Nat.le_of_ble_eq_true rfl) (Nat.le_of_ble_eq_true rfl) d_AL_add2_24 (⟨c6, q7, rfl, hf_o, hf_c6, hq1, hq2, hF9⟩)
end
section
theorem gw_monoi {l : Launch} {y : MethodName} {ws : List Cond} {rm : Room} {Pc : Array Value → State → Prop} {G : gw_G} {p1 p2 : Int32 → gw_M → Prop} {mc ms : Nat} {free : Addr → Prop} (h : Met l y ws rm Pc (gw_Qi G p1) mc ms free) (hp : ∀ r M2, p1 r M2 → p2 r M2) : Met l y ws rm Pc (gw_Qi G p2) mc ms free := by
  intro p e ha hc hk s m args below hf happ hP hK
  obtain ⟨k, o, h1, h2, h3, ⟨⟨r, u, hr, hq, hb⟩, hF⟩, hL⟩ := h p e ha hc hk s m args below hf happ hP hK
  exact ⟨k, o, h1, h2, h3, ⟨⟨r, u, hr, hp r u hq, hb⟩, hF⟩, hL⟩
theorem gx_up0 {g : Nat} {f : Nat → Option Nat} {n : Nat} (hn : n < 2 ^ 31) : va_up f (nI n).toNatClampNeg (some g) n = some g := by rw [nI_clamp hn]; exact va_up_self _ _ _
theorem gx_upn {g : Nat} {f : Nat → Option Nat} {n i : Nat} (hn : n < 2 ^ 31) (hi : i < n) : va_up f (nI n).toNatClampNeg (some g) i = f i := by rw [nI_clamp hn]; exact va_up_ne _ _ (by omega)
set_option maxHeartbeats 4000000 in
theorem s_addK (l : Launch) (G : gw_G) (M : gw_M) (o n g : Nat) (v1 : Int32) (v2 : Int32) (v3 : Int32) (v4 : Int32) (v5 : Int32) (hL : gl_L G M o 5 7 9 n) (hn : n ≤ 600) (hz : ∀ (a : Nat) (e : va_E), M a = some (9, e) → ∃ fs : List Value, e = .inr (2, fs)) (hg : M g = some (9, .inr (2, [.int v1, .int v2, .int v3, .int v4, .int v5]))) : Met l y_AL_add2 [.code y_AL_add2 b_AL_add2 2 (some .boolean)] ({ frames := 6, cells := 1, slots := 1000, locals := 200 }) (gw_Pc G M [.ref o, .ref g]) (gw_Qi G (fun r M2 => 1 = r ∧ gl_L G M2 o 5 7 9 (n + 1) ∧ gw_fg (gw_out [5, 7]) M M2)) 1 1000 (gw_A G) := by
  obtain ⟨k, ⟨rfl, hf⟩ | ⟨a, cap, f, hf, ha, hc, hc2, he⟩⟩ := hL
  · refine gw_monoi (a_addK l G M o k g v1 v2 v3 v4 v5 hf hg) (fun r M2 hq => ?_)
    obtain ⟨ar, e1, h1, h2, h3⟩ := hq
    refine ⟨e1, ⟨_, Or.inr ⟨ar, 10, _, h1, h2, by omega, ⟨by omega, by omega⟩, fun i hi => ?_⟩⟩, h3⟩
    have e0 : i = 0 := by omega
    subst e0
    exact ⟨g, _, gx_up0 (by omega), (h3.1 _ _ _ (by decide)).mp hg⟩
  · by_cases hcap : n < cap
    · refine gw_monoi (b_addK l G M o k a n cap f g v1 v2 v3 v4 v5 hf ha hg hcap hc2.2) (fun r M2 hq => ?_)
      obtain ⟨e1, h1, h2, h3⟩ := hq
      refine ⟨e1, ⟨_, Or.inr ⟨a, cap, _, by rw [← nI_1]; exact h1, h2, by omega, hc2, fun i hi => ?_⟩⟩, h3⟩
      by_cases q : i = n
      · subst q
        exact ⟨g, _, gx_up0 (by omega), (h3.1 _ _ _ (by decide)).mp hg⟩
      · obtain ⟨y, e, hy, hM⟩ := he i (by omega)
        exact ⟨y, e, by rw [gx_upn (by omega) (by omega)]; exact hy, (h3.1 _ _ _ (by decide)).mp hM⟩
    · have ecap : cap = n := by omega
      subst ecap
      · refine gw_monoi (c_addK l G M o k a cap f g v1 v2 v3 v4 v5 hf ha hg hc2.1 hn (fun i hi => ?_)) (fun r M2 hq => ?_)
        · obtain ⟨y, e, hy, hM⟩ := he i hi
          obtain ⟨fs, rfl⟩ := hz y e hM
          exact ⟨y, fs, hy, hM⟩
        · obtain ⟨c, q, e1, h1, h2, hq1, hq2, h3⟩ := hq
          refine ⟨e1, ⟨_, Or.inr ⟨c, q, _, by rw [← nI_1]; exact h1, h2, by omega, ⟨by omega, hq2⟩, fun i hi => ?_⟩⟩, h3⟩
          by_cases z : i = cap
          · subst z
            exact ⟨g, _, gx_up0 (by omega), (h3.1 _ _ _ (by decide)).mp hg⟩
          · obtain ⟨y, e, hy, hM⟩ := he i (by omega)
            exact ⟨y, e, by rw [gx_upn (by omega) (by omega), pk_cpy_in (by omega) (by omega)]; exact (by rw [show 0 + (i - 0) = i by omega]; exact hy), (h3.1 _ _ _ (by decide)).mp hM⟩
set_option maxHeartbeats 4000000 in
theorem s_addJ (l : Launch) (G : gw_G) (M : gw_M) (o n g : Nat) (v1 : Nat) (v2 : Int32) (hL : gl_L G M o 4 6 10 n) (hn : n ≤ 600) (hz : ∀ (a : Nat) (e : va_E), M a = some (10, e) → ∃ fs : List Value, e = .inr (3, fs)) (hg : M g = some (10, .inr (3, [.ref v1, .int v2]))) : Met l y_AL_add2 [.code y_AL_add2 b_AL_add2 2 (some .boolean)] ({ frames := 6, cells := 1, slots := 1000, locals := 200 }) (gw_Pc G M [.ref o, .ref g]) (gw_Qi G (fun r M2 => 1 = r ∧ gl_L G M2 o 4 6 10 (n + 1) ∧ gw_fg (gw_out [4, 6]) M M2)) 1 1000 (gw_A G) := by
  obtain ⟨k, ⟨rfl, hf⟩ | ⟨a, cap, f, hf, ha, hc, hc2, he⟩⟩ := hL
  · refine gw_monoi (a_addJ l G M o k g v1 v2 hf hg) (fun r M2 hq => ?_)
    obtain ⟨ar, e1, h1, h2, h3⟩ := hq
    refine ⟨e1, ⟨_, Or.inr ⟨ar, 10, _, h1, h2, by omega, ⟨by omega, by omega⟩, fun i hi => ?_⟩⟩, h3⟩
    have e0 : i = 0 := by omega
    subst e0
    exact ⟨g, _, gx_up0 (by omega), (h3.1 _ _ _ (by decide)).mp hg⟩
  · by_cases hcap : n < cap
    · refine gw_monoi (b_addJ l G M o k a n cap f g v1 v2 hf ha hg hcap hc2.2) (fun r M2 hq => ?_)
      obtain ⟨e1, h1, h2, h3⟩ := hq
      refine ⟨e1, ⟨_, Or.inr ⟨a, cap, _, by rw [← nI_1]; exact h1, h2, by omega, hc2, fun i hi => ?_⟩⟩, h3⟩
      by_cases q : i = n
      · subst q
        exact ⟨g, _, gx_up0 (by omega), (h3.1 _ _ _ (by decide)).mp hg⟩
      · obtain ⟨y, e, hy, hM⟩ := he i (by omega)
        exact ⟨y, e, by rw [gx_upn (by omega) (by omega)]; exact hy, (h3.1 _ _ _ (by decide)).mp hM⟩
    · have ecap : cap = n := by omega
      subst ecap
      · refine gw_monoi (c_addJ l G M o k a cap f g v1 v2 hf ha hg hc2.1 hn (fun i hi => ?_)) (fun r M2 hq => ?_)
        · obtain ⟨y, e, hy, hM⟩ := he i hi
          obtain ⟨fs, rfl⟩ := hz y e hM
          exact ⟨y, fs, hy, hM⟩
        · obtain ⟨c, q, e1, h1, h2, hq1, hq2, h3⟩ := hq
          refine ⟨e1, ⟨_, Or.inr ⟨c, q, _, by rw [← nI_1]; exact h1, h2, by omega, ⟨by omega, hq2⟩, fun i hi => ?_⟩⟩, h3⟩
          by_cases z : i = cap
          · subst z
            exact ⟨g, _, gx_up0 (by omega), (h3.1 _ _ _ (by decide)).mp hg⟩
          · obtain ⟨y, e, hy, hM⟩ := he i (by omega)
            exact ⟨y, e, by rw [gx_upn (by omega) (by omega), pk_cpy_in (by omega) (by omega)]; exact (by rw [show 0 + (i - 0) = i by omega]; exact hy), (h3.1 _ _ _ (by decide)).mp hM⟩
end
section
/-! STARTS over a general map, returns and calls that may throw, the row alone, arithmetic -/
section GUC
variable {p : Program} {l : Launch} {e : Env} {R : Room} {s : State} {m : MethodId} {args : Array Value} {below : List Frame} {meth : Method} {c : Code} {H : Heap} {locs : List Loc} {cells slots : Nat} {Q : State → Prop} {G : gw_G} {px : gw_M → Prop} {pc : Nat} {ls : Array Slot} {rest : List Value} {mc ms : Nat} {cc : ByteArray}
theorem gu_of {Qc : Array Value → State → Outcome → State → Prop} {g : JFrame} (h : W p l e R s m args below meth c H locs cells slots (MQ below Qc args s mc ms (gw_A G)) g) : W p l e R s m args below meth c H locs cells slots (gu_MQ below (gu_Nw G Qc mc ms) G px args s mc ms) g := by
  intro T hT X
  obtain ⟨t, a, o, b1, b2, b3⟩ := h T hT X
  exact ⟨t, a, o, b1, b2, Or.inl b3⟩
theorem gu_ofR {Qc : Array Value → State → Outcome → State → Prop} {g : JFrame} (h : W p l e R s m args below meth c s.heap [] 0 0 (MQ below Qc args s 0 0 (fun _ => False)) g) : W p l e R s m args below meth c s.heap [] 0 0 (gu_MQ below (gu_Nr Qc mc ms) G px args s mc ms) g := by
  intro T hT X
  obtain ⟨t, a, o, b1, b2, b3, L, b4, b5⟩ := h T hT X
  have eL : L = [] := List.eq_nil_iff_forall_not_mem.mpr (fun q hq => b5 q hq)
  subst eL
  obtain ⟨c1, c2, c3⟩ := b4
  exact ⟨t, a, o, b1, b2, Or.inl ⟨b3, c1, c2, c3.mono (Nat.zero_le _) (Nat.zero_le _)⟩⟩
/-- from here on over a general map -/
theorem gw_gen {I : gw_M → Prop} {P : Nat → Prop} {M : gw_M} {g : JFrame} (hI : I M) (hW : gw_P G.1 vwCl G.2.2.2 M s.heap) (k : ∀ (H : Heap) (locs : List Loc) (Mw : gw_M), gw_P G.1 vwCl G.2.2.2 Mw H → va_S (gw_A G) s.heap H locs → I Mw → gw_fg P M Mw → W p l e R s m args below meth c H locs cells slots Q g) : W p l e R s m args below meth c s.heap [] cells slots Q g := k s.heap [] M hW va_S.rf hI gw_fg.rf
theorem gu_calliW {y : MethodName} {bytes : ByteArray} {maxL nL n index : Nat} {ret : Option FieldType} {ws : List Cond} {rm : Room} {Ts : List Cond} {own C : String} {M : gw_M} {b : Addr} {As : List Value} {post : Int32 → gw_M → Prop} (hS : va_S (gw_A G) s.heap H locs) (S : CallFix p m c cc nL s args Ts own) (hM : gu_Met l y ws rm G M (.ref b :: As) (gu_Nw G (gw_Qi G post) mc ms) px mc ms) (cw : CallW R s args own C index y bytes maxL ret ws rm mc ms n) (hp : PreV s H C b (gw_Pc G M (.ref b :: As)) As)
    (hn : As.length = n) (hsize : ls.size = nL) {st0 : List Value} (hstack : st0 = As.reverse ++ .ref b :: rest) (hw : 2 * (F0 m pc ls rest).monitorRoom + (rest.map fun v => v.category).sum ≤ 8) (hdg : decode cc pc = .ok (.invokevirtual index, 3)) (hf : cells + mc ≤ R.cells ∧ slots + ms ≤ R.slots)
    (kx : ∀ (ce : Cell) (q : Addr) (M2 : gw_M) (H1 : Heap) (locs1 : List Loc), px M2 → gw_P G.1 vwCl G.2.2.2 M2 H1 → va_S (gw_A G) s.heap H1 locs1 → H1[q]? = some ce → ce.vm = .none → s.vm.findClass "java/lang/IllegalArgumentException" = some ce.cls → gt_W p l e R s m args below meth c H1 locs1 (cells + mc) (slots + ms) Q (F0 m pc ls rest) q)
    (kk : ∀ (r : Int32) (M2 : gw_M) (H1 : Heap) (locs1 : List Loc), post r M2 → gw_P G.1 vwCl G.2.2.2 M2 H1 → va_S (gw_A G) s.heap H1 locs1 → W p l e R s m args below meth c H1 locs1 (cells + mc) (slots + ms) Q (F0 m (pc + 3) ls (.int r :: rest))) : W p l e R s m args below meth c H locs cells slots Q (F0 m pc ls st0) := by
  refine gu_callV (PL := fun L => ∀ q ∈ L, gw_A G q.base) hS S hM cw hp hn hsize hstack hw hdg hf ?_ ?_ kx
  · intro st₀ t T' L v h0 hN hfe hPL h1 XT
    obtain ⟨⟨⟨r, M2, hv, hpo, hh⟩, hF⟩, -⟩ := hN
    cases hv
    have hz : H.size ≤ t.heap.size := by have h9 := hF.1; rw [h0] at h9; exact h9
    have hk : ∀ z : Nat, z < H.size → ¬ gw_A G z → t.heap[z]? = H[z]? := fun z z1 z2 => by
      have h9 := hF.2 z (by rw [h0]; exact z1) z2
      rw [h0] at h9
      exact h9
    have hS1 : va_S (gw_A G) s.heap t.heap (locs ++ L) := ⟨Nat.le_trans hS.1 hz, fun z z1 z2 => (hk z (Nat.lt_of_lt_of_le z1 hS.1) z2).trans (hS.2.1 z z1 z2), fun z hz9 => (List.mem_append.mp hz9).elim (hS.2.2 z) (hPL z)⟩
    exact kk r M2 t.heap (locs ++ L) hpo hh hS1 T' h1 XT
  · intro a st o t hN
    obtain ⟨⟨⟨r, M2, rfl, -, -⟩, -⟩, L, hfe, hL⟩ := hN
    exact ⟨_, L, rfl, hL, hfe⟩
theorem gu_callrW {y : MethodName} {bytes : ByteArray} {maxL nL n index : Nat} {ret : Option FieldType} {ws : List Cond} {rm : Room} {Ts : List Cond} {own C : String} {M : gw_M} {b : Addr} {As : List Value} {post : Nat → gw_M → Prop} (hS : va_S (gw_A G) s.heap H locs) (S : CallFix p m c cc nL s args Ts own) (hM : gu_Met l y ws rm G M (.ref b :: As) (gu_Nw G (gw_Qr G post) mc ms) px mc ms) (cw : CallW R s args own C index y bytes maxL ret ws rm mc ms n) (hp : PreV s H C b (gw_Pc G M (.ref b :: As)) As)
    (hn : As.length = n) (hsize : ls.size = nL) {st0 : List Value} (hstack : st0 = As.reverse ++ .ref b :: rest) (hw : 2 * (F0 m pc ls rest).monitorRoom + (rest.map fun v => v.category).sum ≤ 8) (hdg : decode cc pc = .ok (.invokevirtual index, 3)) (hf : cells + mc ≤ R.cells ∧ slots + ms ≤ R.slots)
    (kx : ∀ (ce : Cell) (q : Addr) (M2 : gw_M) (H1 : Heap) (locs1 : List Loc), px M2 → gw_P G.1 vwCl G.2.2.2 M2 H1 → va_S (gw_A G) s.heap H1 locs1 → H1[q]? = some ce → ce.vm = .none → s.vm.findClass "java/lang/IllegalArgumentException" = some ce.cls → gt_W p l e R s m args below meth c H1 locs1 (cells + mc) (slots + ms) Q (F0 m pc ls rest) q)
    (kk : ∀ (r : Nat) (M2 : gw_M) (H1 : Heap) (locs1 : List Loc), post r M2 → gw_P G.1 vwCl G.2.2.2 M2 H1 → va_S (gw_A G) s.heap H1 locs1 → W p l e R s m args below meth c H1 locs1 (cells + mc) (slots + ms) Q (F0 m (pc + 3) ls (.ref r :: rest))) : W p l e R s m args below meth c H locs cells slots Q (F0 m pc ls st0) := by
  refine gu_callV (PL := fun L => ∀ q ∈ L, gw_A G q.base) hS S hM cw hp hn hsize hstack hw hdg hf ?_ ?_ kx
  · intro st₀ t T' L v h0 hN hfe hPL h1 XT
    obtain ⟨⟨⟨u, r, hv, hpo, e9, hh⟩, hF⟩, -⟩ := hN
    cases hv
    subst e9
    have hz : H.size ≤ t.heap.size := by have h9 := hF.1; rw [h0] at h9; exact h9
    have hk : ∀ z : Nat, z < H.size → ¬ gw_A G z → t.heap[z]? = H[z]? := fun z z1 z2 => by
      have h9 := hF.2 z (by rw [h0]; exact z1) z2
      rw [h0] at h9
      exact h9
    have hS1 : va_S (gw_A G) s.heap t.heap (locs ++ L) := ⟨Nat.le_trans hS.1 hz, fun z z1 z2 => (hk z (Nat.lt_of_lt_of_le z1 hS.1) z2).trans (hS.2.1 z z1 z2), fun z hz9 => (List.mem_append.mp hz9).elim (hS.2.2 z) (hPL z)⟩
    exact kk u.1 u.2 t.heap (locs ++ L) hpo hh hS1 T' h1 XT
  · intro a st o t hN
    obtain ⟨⟨⟨u, r, rfl, -, -⟩, -⟩, L, hfe, hL⟩ := hN
    exact ⟨_, L, rfl, hL, hfe⟩
end GUC
/-- the class's world with the row's size named -/
def gx_V (G : gw_G) (A : Nat → Nat) (lim sc E : Int32) (j n rs : Nat) (M : gw_M) : Prop := ∃ (gc : Nat) (f3 f8 : Nat → Int32),
  M (A 0) = some (1, .inr (0, [.int lim, .int sc, .int E, .ref (A 1), .ref (A 3), .ref (A 4), .ref (A 5), .ref (A 6), .int (nI gc)])) ∧
  M (A 1) = some (2, .inr (1, [.ref (A 2), .int (nI rs)])) ∧ M (A 2) = some (3, .inl (G.2.1 0, 256, .inl f3)) ∧ M (A 6) = some (8, .inl (G.2.1 0, 512, .inl f8)) ∧
  gc ≤ 512 ∧ rs ≤ 256 ∧ gl_L G M (A 3) 4 6 10 j ∧ gl_L G M (A 4) 5 7 9 n ∧ gp_R M 9 (A 5) ∧ gx_Z (G.2.1 0) M
section GXV
variable {G : gw_G} {A : Nat → Nat} {lim sc E : Int32} {j n rs : Nat} {M : gw_M}
theorem gx_V.w (h : gx_V G A lim sc E j n rs M) : gx_W G A lim sc E j n M := by
  obtain ⟨gc, f3, f8, h⟩ := h
  exact ⟨gc, rs, f3, f8, h⟩
theorem gx_V.now (h : gx_V G A lim sc E j n rs M) : gp_R M 9 (A 5) := h.w.now
theorem gx_V.z (h : gx_V G A lim sc E j n rs M) : gx_Z (G.2.1 0) M := h.w.z
theorem gx_V.jobs (h : gx_V G A lim sc E j n rs M) : gl_L G M (A 3) 4 6 10 j := h.w.jobs
theorem gx_V.known (h : gx_V G A lim sc E j n rs M) : gl_L G M (A 4) 5 7 9 n := h.w.known
theorem gx_V.g9 {a : Nat} (h : gx_V G A lim sc E j n rs M) (ha : gp_R M 9 a) : ∃ v1 v2 v3 v4 v5 : Int32, M a = some (9, .inr (2, [.int v1, .int v2, .int v3, .int v4, .int v5])) := h.w.g9 ha
theorem gx_V.g10 {a : Nat} (h : gx_V G A lim sc E j n rs M) (ha : gp_R M 10 a) : ∃ (t : Nat) (en : Int32), M a = some (10, .inr (3, [.ref t, .int en])) ∧ gp_R M 11 t := h.w.g10 ha
theorem gx_V.g11 {a : Nat} (h : gx_V G A lim sc E j n rs M) (ha : gp_R M 11 a) : ∃ (k : Nat) (f : Nat → Int32), k ≤ 256 ∧ M a = some (11, .inl (G.2.1 0, k, .inl f)) := h.w.g11 ha
theorem gx_V.rs256 (h : gx_V G A lim sc E j n rs M) : rs ≤ 256 := by
  obtain ⟨gc, f3, f8, _, _, _, _, _, h6, _⟩ := h
  exact h6
/-- a Generation is written -/
theorem gx_V.up9 {a : Nat} {e0 : va_E} {v1 v2 v3 v4 v5 : Int32} (h : gx_V G A lim sc E j n rs M) (ha : M a = some (9, e0)) : gx_V G A lim sc E j n rs (gw_up M a 9 (.inr (2, [.int v1, .int v2, .int v3, .int v4, .int v5]))) := by
  have hp : gp_S M (gw_up M a 9 (.inr (2, [.int v1, .int v2, .int v3, .int v4, .int v5]))) := gp_up ha
  obtain ⟨gc, f3, f8, h1, h2, h3, h4, h5, h6, h7, h8, h9, h10⟩ := h
  exact ⟨gc, f3, f8, gw_upo ha (by decide) h1, gw_upo ha (by decide) h2, gw_upo ha (by decide) h3, gw_upo ha (by decide) h4, h5, h6, h7.st (fun _ _ q => gw_upo ha (by decide) q) (fun _ _ q => gw_upo ha (by decide) q) hp, h8.st (fun _ _ q => gw_upo ha (by decide) q) (fun _ _ q => gw_upo ha (by decide) q) hp, hp _ _ h9, h10.up ha (fun _ => ⟨v1, v2, v3, v4, v5, rfl⟩) (fun q => absurd q (by decide)) (fun q => absurd q (by decide))⟩
/-- a Job is written -/
theorem gx_V.up10 {a t : Nat} {e0 : va_E} {en : Int32} (h : gx_V G A lim sc E j n rs M) (ha : M a = some (10, e0)) (ht : gp_R M 11 t) : gx_V G A lim sc E j n rs (gw_up M a 10 (.inr (3, [.ref t, .int en]))) := by
  have hp : gp_S M (gw_up M a 10 (.inr (3, [.ref t, .int en]))) := gp_up ha
  obtain ⟨gc, f3, f8, h1, h2, h3, h4, h5, h6, h7, h8, h9, h10⟩ := h
  exact ⟨gc, f3, f8, gw_upo ha (by decide) h1, gw_upo ha (by decide) h2, gw_upo ha (by decide) h3, gw_upo ha (by decide) h4, h5, h6, h7.st (fun _ _ q => gw_upo ha (by decide) q) (fun _ _ q => gw_upo ha (by decide) q) hp, h8.st (fun _ _ q => gw_upo ha (by decide) q) (fun _ _ q => gw_upo ha (by decide) q) hp, hp _ _ h9, h10.up ha (fun q => absurd q (by decide)) (fun _ => ⟨t, en, rfl, ht⟩) (fun q => absurd q (by decide))⟩
/-- a new cell of a pool -/
theorem gx_V.newp {a r : Nat} {e : va_E} (h : gx_V G A lim sc E j n rs M) (ha : M a = none) (hz : gx_Z (G.2.1 0) (gw_up M a r e)) : gx_V G A lim sc E j n rs (gw_up M a r e) := by
  have hp : gp_S M (gw_up M a r e) := gp_new ha
  obtain ⟨gc, f3, f8, h1, h2, h3, h4, h5, h6, h7, h8, h9, -⟩ := h
  exact ⟨gc, f3, f8, gw_keepN h1 ha, gw_keepN h2 ha, gw_keepN h3 ha, gw_keepN h4 ha, h5, h6, h7.st (fun _ _ q => gw_keepN q ha) (fun _ _ q => gw_keepN q ha) hp, h8.st (fun _ _ q => gw_keepN q ha) (fun _ _ q => gw_keepN q ha) hp, hp _ _ h9, hz⟩
/-- the object itself is written -/
theorem gx_V.up1 {e0 : va_E} {E2 : Int32} {gc2 : Nat} (h : gx_V G A lim sc E j n rs M) (ha : M (A 0) = some (1, e0)) (hg : gc2 ≤ 512) : gx_V G A lim sc E2 j n rs (gw_up M (A 0) 1 (.inr (0, [.int lim, .int sc, .int E2, .ref (A 1), .ref (A 3), .ref (A 4), .ref (A 5), .ref (A 6), .int (nI gc2)]))) := by
  have hp : gp_S M (gw_up M (A 0) 1 (.inr (0, [.int lim, .int sc, .int E2, .ref (A 1), .ref (A 3), .ref (A 4), .ref (A 5), .ref (A 6), .int (nI gc2)]))) := gp_up ha
  obtain ⟨gc, f3, f8, h1, h2, h3, h4, h5, h6, h7, h8, h9, h10⟩ := h
  exact ⟨gc2, f3, f8, gw_up_self _ _ _ _, gw_upo ha (by decide) h2, gw_upo ha (by decide) h3, gw_upo ha (by decide) h4, hg, h6, h7.st (fun _ _ q => gw_upo ha (by decide) q) (fun _ _ q => gw_upo ha (by decide) q) hp, h8.st (fun _ _ q => gw_upo ha (by decide) q) (fun _ _ q => gw_upo ha (by decide) q) hp, hp _ _ h9, h10.up' ha (by decide)⟩
theorem gx_V.up2 {e0 : va_E} {rs2 : Nat} (h : gx_V G A lim sc E j n rs M) (ha : M (A 1) = some (2, e0)) (hg : rs2 ≤ 256) : gx_V G A lim sc E j n rs2 (gw_up M (A 1) 2 (.inr (1, [.ref (A 2), .int (nI rs2)]))) := by
  have hp : gp_S M (gw_up M (A 1) 2 (.inr (1, [.ref (A 2), .int (nI rs2)]))) := gp_up ha
  obtain ⟨gc, f3, f8, h1, h2, h3, h4, h5, h6, h7, h8, h9, h10⟩ := h
  exact ⟨gc, f3, f8, gw_upo ha (by decide) h1, gw_up_self _ _ _ _, gw_upo ha (by decide) h3, gw_upo ha (by decide) h4, h5, hg, h7.st (fun _ _ q => gw_upo ha (by decide) q) (fun _ _ q => gw_upo ha (by decide) q) hp, h8.st (fun _ _ q => gw_upo ha (by decide) q) (fun _ _ q => gw_upo ha (by decide) q) hp, hp _ _ h9, h10.up' ha (by decide)⟩
theorem gx_V.up3 {e0 : va_E} {f : Nat → Int32} (h : gx_V G A lim sc E j n rs M) (ha : M (A 2) = some (3, e0)) : gx_V G A lim sc E j n rs (gw_up M (A 2) 3 (.inl (G.2.1 0, 256, .inl f))) := by
  have hp : gp_S M (gw_up M (A 2) 3 (.inl (G.2.1 0, 256, .inl f))) := gp_up ha
  obtain ⟨gc, f3, f8, h1, h2, h3, h4, h5, h6, h7, h8, h9, h10⟩ := h
  exact ⟨gc, f, f8, gw_upo ha (by decide) h1, gw_upo ha (by decide) h2, gw_up_self _ _ _ _, gw_upo ha (by decide) h4, h5, h6, h7.st (fun _ _ q => gw_upo ha (by decide) q) (fun _ _ q => gw_upo ha (by decide) q) hp, h8.st (fun _ _ q => gw_upo ha (by decide) q) (fun _ _ q => gw_upo ha (by decide) q) hp, hp _ _ h9, h10.up' ha (by decide)⟩
theorem gx_V.up8 {e0 : va_E} {f : Nat → Int32} (h : gx_V G A lim sc E j n rs M) (ha : M (A 6) = some (8, e0)) : gx_V G A lim sc E j n rs (gw_up M (A 6) 8 (.inl (G.2.1 0, 512, .inl f))) := by
  have hp : gp_S M (gw_up M (A 6) 8 (.inl (G.2.1 0, 512, .inl f))) := gp_up ha
  obtain ⟨gc, f3, f8, h1, h2, h3, h4, h5, h6, h7, h8, h9, h10⟩ := h
  exact ⟨gc, f3, f, gw_upo ha (by decide) h1, gw_upo ha (by decide) h2, gw_upo ha (by decide) h3, gw_up_self _ _ _ _, h5, h6, h7.st (fun _ _ q => gw_upo ha (by decide) q) (fun _ _ q => gw_upo ha (by decide) q) hp, h8.st (fun _ _ q => gw_upo ha (by decide) q) (fun _ _ q => gw_upo ha (by decide) q) hp, hp _ _ h9, h10.up' ha (by decide)⟩
/-- a list has grown (only cells of its own two roles differ) -/
theorem gx_V.addJ {M2 : gw_M} (h : gx_V G A lim sc E j n rs M) (hf : gw_fr (gw_out [4, 6]) M M2) (hp : gp_S M M2) {j2 : Nat} (hl : gl_L G M2 (A 3) 4 6 10 j2) : gx_V G A lim sc E j2 n rs M2 := by
  obtain ⟨gc, f3, f8, h1, h2, h3, h4, h5, h6, -, h8, h9, h10⟩ := h
  refine ⟨gc, f3, f8, (hf _ _ _ (by decide)).mp h1, (hf _ _ _ (by decide)).mp h2, (hf _ _ _ (by decide)).mp h3, (hf _ _ _ (by decide)).mp h4, h5, h6, hl, h8.st (fun _ _ q => (hf _ _ _ (by decide)).mp q) (fun _ _ q => (hf _ _ _ (by decide)).mp q) hp, hp _ _ h9, fun a e q => h10.1 a e ((hf _ _ _ (by decide)).mpr q), fun a e q => ?_, fun a e q => h10.2.2 a e ((hf _ _ _ (by decide)).mpr q)⟩
  obtain ⟨t, en, e1, e2⟩ := h10.2.1 a e ((hf _ _ _ (by decide)).mpr q)
  exact ⟨t, en, e1, hp _ _ e2⟩
theorem gx_V.addK {M2 : gw_M} (h : gx_V G A lim sc E j n rs M) (hf : gw_fr (gw_out [5, 7]) M M2) (hp : gp_S M M2) {n2 : Nat} (hl : gl_L G M2 (A 4) 5 7 9 n2) : gx_V G A lim sc E j n2 rs M2 := by
  obtain ⟨gc, f3, f8, h1, h2, h3, h4, h5, h6, h7, -, h9, h10⟩ := h
  refine ⟨gc, f3, f8, (hf _ _ _ (by decide)).mp h1, (hf _ _ _ (by decide)).mp h2, (hf _ _ _ (by decide)).mp h3, (hf _ _ _ (by decide)).mp h4, h5, h6, h7.st (fun _ _ q => (hf _ _ _ (by decide)).mp q) (fun _ _ q => (hf _ _ _ (by decide)).mp q) hp, hl, hp _ _ h9, fun a e q => h10.1 a e ((hf _ _ _ (by decide)).mpr q), fun a e q => ?_, fun a e q => h10.2.2 a e ((hf _ _ _ (by decide)).mpr q)⟩
  obtain ⟨t, en, e1, e2⟩ := h10.2.1 a e ((hf _ _ _ (by decide)).mpr q)
  exact ⟨t, en, e1, hp _ _ e2⟩
/-- the reference's steps leave it -/
theorem gx_V.stays {M2 : gw_M} {L : List Nat} (h : gx_V G A lim sc E j n rs M) (hf : gw_fr (gw_out L) M M2) (hL : ∀ x ∈ L, 50 ≤ x) : gx_V G A lim sc E j n rs M2 := by
  have hk : ∀ (r a : Nat) (e : va_E), r < 50 → (M a = some (r, e) ↔ M2 a = some (r, e)) := fun r a e hr => hf a r e (fun q => by have := hL r q; omega)
  have hp9 : ∀ r a : Nat, r < 50 → gp_R M r a → gp_R M2 r a := fun r a hr ⟨e, q⟩ => ⟨e, (hk r a e hr).mp q⟩
  obtain ⟨gc, f3, f8, h1, h2, h3, h4, h5, h6, h7, h8, h9, h10⟩ := h
  refine ⟨gc, f3, f8, (hk _ _ _ (by decide)).mp h1, (hk _ _ _ (by decide)).mp h2, (hk _ _ _ (by decide)).mp h3, (hk _ _ _ (by decide)).mp h4, h5, h6, ?_, ?_, hp9 _ _ (by decide) h9, fun a e q => h10.1 a e ((hk _ _ _ (by decide)).mpr q), fun a e q => ?_, fun a e q => h10.2.2 a e ((hk _ _ _ (by decide)).mpr q)⟩
  · obtain ⟨k, ⟨e0, hf0⟩ | ⟨a, cap, f, hf0, ha, hc, hc2, he⟩⟩ := h7
    · exact ⟨k, Or.inl ⟨e0, (hk _ _ _ (by decide)).mp hf0⟩⟩
    · exact ⟨k, Or.inr ⟨a, cap, f, (hk _ _ _ (by decide)).mp hf0, (hk _ _ _ (by decide)).mp ha, hc, hc2, fun i hi => by obtain ⟨y, e, hy, hM⟩ := he i hi; exact ⟨y, e, hy, (hk _ _ _ (by decide)).mp hM⟩⟩⟩
  · obtain ⟨k, ⟨e0, hf0⟩ | ⟨a, cap, f, hf0, ha, hc, hc2, he⟩⟩ := h8
    · exact ⟨k, Or.inl ⟨e0, (hk _ _ _ (by decide)).mp hf0⟩⟩
    · exact ⟨k, Or.inr ⟨a, cap, f, (hk _ _ _ (by decide)).mp hf0, (hk _ _ _ (by decide)).mp ha, hc, hc2, fun i hi => by obtain ⟨y, e, hy, hM⟩ := he i hi; exact ⟨y, e, hy, (hk _ _ _ (by decide)).mp hM⟩⟩⟩
  · obtain ⟨t, en, e1, e2⟩ := h10.2.1 a e ((hk _ _ _ (by decide)).mpr q)
    exact ⟨t, en, e1, hp9 _ _ (by decide) e2⟩
/-- an array of role 11 is written -/
theorem gx_V.up11 {a k : Nat} {e0 : va_E} {f : Nat → Int32} (h : gx_V G A lim sc E j n rs M) (ha : M a = some (11, e0)) (hk : k ≤ 256) : gx_V G A lim sc E j n rs (gw_up M a 11 (.inl (G.2.1 0, k, .inl f))) := by
  have hp : gp_S M (gw_up M a 11 (.inl (G.2.1 0, k, .inl f))) := gp_up ha
  obtain ⟨gc, f3, f8, h1, h2, h3, h4, h5, h6, h7, h8, h9, h10⟩ := h
  exact ⟨gc, f3, f8, gw_upo ha (by decide) h1, gw_upo ha (by decide) h2, gw_upo ha (by decide) h3, gw_upo ha (by decide) h4, h5, h6, h7.st (fun _ _ q => gw_upo ha (by decide) q) (fun _ _ q => gw_upo ha (by decide) q) hp, h8.st (fun _ _ q => gw_upo ha (by decide) q) (fun _ _ q => gw_upo ha (by decide) q) hp, hp _ _ h9, h10.up ha (fun q => absurd q (by decide)) (fun q => absurd q (by decide)) (fun _ => ⟨k, f, hk, rfl⟩)⟩
/-- a Job that is made gets its role -/
theorem gp_rr {a r0 r : Nat} {e0 e : va_E} (ha : M a = some (r0, e0)) {r1 b : Nat} (hr : r0 ≠ r1) (hb : gp_R M r1 b) : gp_R (gw_up M a r e) r1 b := by
  obtain ⟨eb, hb⟩ := hb
  exact ⟨eb, gw_keep hb ha hr⟩
theorem gl_L.rr {o ro ra re n : Nat} (h : gl_L G M o ro ra re n) {a : Nat} {e0 e : va_E} {r0 r : Nat} (ha : M a = some (r0, e0)) (h1 : r0 ≠ ro) (h2 : r0 ≠ ra) (h3 : r0 ≠ re) : gl_L G (gw_up M a r e) o ro ra re n := by
  obtain ⟨k, ⟨e0, hf⟩ | ⟨a1, cap, f, hf, ha1, hc, hc2, he⟩⟩ := h
  · exact ⟨k, Or.inl ⟨e0, gw_keep hf ha h1⟩⟩
  · refine ⟨k, Or.inr ⟨a1, cap, f, gw_keep hf ha h1, gw_keep ha1 ha h2, hc, hc2, fun i hi => ?_⟩⟩
    obtain ⟨y, e, hy, hM⟩ := he i hi
    exact ⟨y, e, hy, gw_keep hM ha h3⟩
theorem gx_V.rr {a t : Nat} {e0 : va_E} {en : Int32} (h : gx_V G A lim sc E j n rs M) (ha : M a = some (60, e0)) (ht : gp_R M 11 t) : gx_V G A lim sc E j n rs (gw_up M a 10 (.inr (3, [.ref t, .int en]))) := by
  obtain ⟨gc, f3, f8, h1, h2, h3, h4, h5, h6, h7, h8, h9, h10⟩ := h
  refine ⟨gc, f3, f8, gw_keep h1 ha (by decide), gw_keep h2 ha (by decide), gw_keep h3 ha (by decide), gw_keep h4 ha (by decide), h5, h6, h7.rr ha (by decide) (by decide) (by decide), h8.rr ha (by decide) (by decide) (by decide), gp_rr ha (by decide) h9, fun b e q => ?_, fun b e q => ?_, fun b e q => ?_⟩
  · by_cases z : b = a
    · subst z; rw [gw_up_self] at q; cases q
    · rw [gw_up_ne z] at q; exact h10.1 b e q
  · by_cases z : b = a
    · subst z; rw [gw_up_self] at q; cases q; exact ⟨t, en, rfl, gp_rr ha (by decide) ht⟩
    · rw [gw_up_ne z] at q; obtain ⟨t1, en1, q1, q2⟩ := h10.2.1 b e q; exact ⟨t1, en1, q1, gp_rr ha (by decide) q2⟩
  · by_cases z : b = a
    · subst z; rw [gw_up_self] at q; cases q
    · rw [gw_up_ne z] at q; exact h10.2.2 b e q
end GXV
theorem gw_fg.rr {P : Nat → Prop} {M M1 : gw_M} {a r : Nat} {e : va_E} (h : gw_fg P M M1) (ha : M a = none) (hr : ¬ P r) : gw_fg P M (gw_up M1 a r e) := by
  refine ⟨fun b rb eb hP => ?_, fun rb b hb => ?_⟩
  · by_cases z : b = a
    · subst z
      rw [gw_up_self, ha]
      constructor
      · intro q; cases q
      · intro q; cases q; exact absurd hP hr
    · rw [gw_up_ne z]; exact h.1 b rb eb hP
  · obtain ⟨eb, hb⟩ := hb
    have z : b ≠ a := fun z => by rw [z, ha] at hb; cases hb
    obtain ⟨e2, h2⟩ := h.2 rb b ⟨eb, hb⟩
    exact ⟨e2, by rw [gw_up_ne z]; exact h2⟩
theorem gw_P.rr {D : va_G} {cl : List vw_C} {B0 : Nat} {M : gw_M} {H : Heap} {a r0 r : Nat} {e : va_E} (h : gw_P D cl B0 M H) (ha : M a = some (r0, e)) : gw_P D cl B0 (gw_up M a r e) H := by
  obtain ⟨ws, hP, hD, hM⟩ := h
  refine ⟨ws, hP, hD, fun b rb eb q => ?_⟩
  by_cases z : b = a
  · subst z
    rw [gw_up_self] at q
    cases q
    exact hM _ _ _ ha
  · rw [gw_up_ne z] at q
    exact hM _ _ _ q
/-- Int32, without wrapping around -/
theorem gi_add {a b : Int32} (h : -2147483648 ≤ a.toInt + b.toInt ∧ a.toInt + b.toInt < 2147483648) : (a + b).toInt = a.toInt + b.toInt := by
  rw [Int32.toInt_add]; simp only [Int.bmod]; split <;> omega
theorem gi_sub {a b : Int32} (h : -2147483648 ≤ a.toInt - b.toInt ∧ a.toInt - b.toInt < 2147483648) : (a - b).toInt = a.toInt - b.toInt := by
  rw [Int32.toInt_sub]; simp only [Int.bmod]; split <;> omega
theorem gi_mul {a b : Int32} (h : -2147483648 ≤ a.toInt * b.toInt ∧ a.toInt * b.toInt < 2147483648) : (a * b).toInt = a.toInt * b.toInt := by
  rw [Int32.toInt_mul]; simp only [Int.bmod]; split <;> omega
theorem gi_in {x : Int32} {N : Nat} (h0 : 0 ≤ x.toInt) (h1 : x.toInt < N) : vp_in x N := vp_in_iff.mpr ⟨h0, h1⟩
theorem gi_r (x : Int32) : -2147483648 ≤ x.toInt ∧ x.toInt < 2147483648 := ⟨Int32.le_toInt x, Int32.toInt_lt x⟩
theorem gi_nI {x : Int32} {k : Nat} (h : x.toInt = (k : Int)) (hk : k < 2 ^ 31) : x = nI k := Int32.toInt_inj.mp (by rw [nI_toInt hk]; exact h)
theorem gi_1 : (1 : Int32).toInt = 1 := by decide
theorem gi_0 : (0 : Int32).toInt = 0 := by decide
theorem gx_last {k : Nat} (h : ¬ nI k ≤ 0) (hk : k ≤ 256) : vp_in (nI k - 1) k := by
  have h1 := Int32.not_le.mp h
  rw [Int32.lt_iff_toInt_lt, nI_toInt (by omega), gi_0] at h1
  have h2 := gi_sub (a := nI k) (b := 1) (by rw [nI_toInt (by omega), gi_1]; omega)
  rw [nI_toInt (by omega), gi_1] at h2
  exact gi_in (by omega) (by omega)
theorem gx_cntN {k : Nat} {n : Int32} (h : ¬ n < 1 - nI k) (h0 : ¬ 0 < n) (hk : k ≤ 256) : vp_in (nI k - 1 + n) k := by
  have h1 := Int32.not_lt.mp h
  have h2 := Int32.not_lt.mp h0
  have e1 := gi_sub (a := 1) (b := nI k) (by rw [nI_toInt (by omega), gi_1]; omega)
  have e2 := gi_sub (a := nI k) (b := 1) (by rw [nI_toInt (by omega), gi_1]; omega)
  rw [nI_toInt (by omega), gi_1] at e1 e2
  rw [Int32.le_iff_toInt_le, e1] at h1
  rw [Int32.le_iff_toInt_le, gi_0] at h2
  have e3 := gi_add (a := nI k - 1) (b := n) (by rw [e2]; omega)
  rw [e2] at e3
  exact gi_in (by omega) (by omega)
theorem gw_startRF {l : Launch} {y : MethodName} {rm : Room} {G : gw_G} {M : gw_M} {av : List Value} {Qc : Array Value → State → Outcome → State → Prop} {cc : ByteArray} {maxL : Nat} {ret : Option FieldType} (hy : plainFor y = true) (hn : (lg_sl av).length ≤ maxL)
    (body : ∀ (p : Program) (e : Env) (s : State) (m : MethodId) (below : List Frame) (meth : Method) (c : Code), p.tables.exec = Jvm.exec → c.code = cc → meth.sig.returnType = ret → c.maxLocals = maxL → s.vm.findClass y.cls = some m.cls → meth.locks = false → meth.name = y.name → gw_E G s → G.2.2.2 ≤ s.heap.size → gw_P G.1 vwCl G.2.2.2 M s.heap →
      ∀ ls : Array Slot, lv_has ls maxL (lv_args 0 av) → W p l e rm s m av.toArray below meth c s.heap [] 0 0 (MQ below Qc av.toArray s 0 0 (fun _ => False)) (F0 m 0 ls [])) :
    Met l y [.code y cc maxL ret] rm (gw_Pc G M av) Qc 0 0 (fun _ => False) := by
  refine va_MetF (cc := cc) (maxL := maxL) (ret := ret) hy rfl ?_
  intro p e s m args below meth c s₁ B hml hv
  obtain ⟨rfl, hE, hB, hW⟩ := hv
  have hl := lv_entry av (n := maxL) hn
  rw [lg_entry_eq]
  generalize (lg_sl av ++ List.replicate (maxL - (lg_sl av).length) Slot.unset).toArray = ls at hl ⊢
  exact body p e s m below meth c B.exec B.bytes B.returns hml (findClass_of_methodNamed B.named) B.notSynchronized (name_of_methodNamed B.named B.method).1 hE hB hW ls hl
end
section
abbrev b_Math_floorMod : ByteArray := prog_12_method_50_code
abbrev y_Math_floorMod : MethodName := ⟨"java/lang/Math", "floorMod", "(II)I"⟩
abbrev b_Job_base : ByteArray := prog_3_method_2_code
abbrev y_Job_base : MethodName := ⟨"Generations$Job", "base", "()I"⟩
abbrev b_Job_plus : ByteArray := prog_3_method_3_code
abbrev y_Job_plus : MethodName := ⟨"Generations$Job", "plus", "(I)I"⟩
abbrev b_Job_countedFromNewest : ByteArray := prog_3_method_4_code
abbrev y_Job_countedFromNewest : MethodName := ⟨"Generations$Job", "countedFromNewest", "(I)I"⟩
abbrev b_Row_isAhead : ByteArray := prog_4_method_6_code
abbrev y_Row_isAhead : MethodName := ⟨"Generations$Row", "isAhead", "(II)Z"⟩
set_option maxRecDepth 20000 in
theorem mw116 : (Cond.fieldLink "Generations$Job" (9 : Nat) "Generations$Job" "rowThen" "[I") ∈ gw_N0 := gw_in (List.mem_append_right _ (gw_tm (i := 275) rfl))
set_option maxRecDepth 20000 in
theorem mw117 : (Cond.code ({ cls := "Generations$Job", name := "base", desc := "()I" } : Jvm.MethodName) prog_3_method_2_code (1 : Nat) (Option.some Jvm.ClassFile.FieldType.int)) ∈ gw_N0 := gw_in (List.mem_append_right _ (gw_tm (i := 407) rfl))
set_option maxRecDepth 20000 in
theorem mw118 : (Cond.methodLink "Generations$Job" (15 : Nat) ({ cls := "Generations$Job", name := "base", desc := "()I" } : Jvm.MethodName)) ∈ gw_N0 := gw_in (List.mem_append_right _ (gw_tm (i := 404) rfl))
set_option maxRecDepth 20000 in
theorem mw119 : (Cond.instanceMethod ({ cls := "Generations$Job", name := "base", desc := "()I" } : Jvm.MethodName)) ∈ gw_N0 := gw_in (List.mem_append_right _ (gw_tm (i := 406) rfl))
set_option maxRecDepth 20000 in
theorem mw120 : (Cond.selects "Generations$Job" ⟨"Generations$Job", "base", "()I"⟩ ⟨"Generations$Job", "base", "()I"⟩) ∈ gw_N0 := gw_in (List.mem_append_left _ (List.mem_of_getElem? (i := 19) rfl))
set_option maxRecDepth 20000 in
theorem mw121 : (Cond.initialized "Generations$Job") ∈ gw_N0 := gw_in (List.mem_append_right _ (gw_tm (i := 14) rfl))
set_option maxRecDepth 20000 in
theorem mw122 : (Cond.code ({ cls := "java/lang/Math", name := "floorMod", desc := "(II)I" } : Jvm.MethodName) prog_12_method_50_code (3 : Nat) (Option.some Jvm.ClassFile.FieldType.int)) ∈ gw_N0 := gw_in (List.mem_append_right _ (gw_tm (i := 233) rfl))
set_option maxRecDepth 20000 in
theorem mw123 : (Cond.methodLink "Generations$Job" (19 : Nat) ({ cls := "java/lang/Math", name := "floorMod", desc := "(II)I" } : Jvm.MethodName)) ∈ gw_N0 := gw_in (List.mem_append_right _ (gw_tm (i := 408) rfl))
set_option maxRecDepth 20000 in
theorem mw124 : (Cond.static ({ cls := "java/lang/Math", name := "floorMod", desc := "(II)I" } : Jvm.MethodName)) ∈ gw_N0 := gw_in (List.mem_append_right _ (gw_tm (i := 232) rfl))
set_option maxRecDepth 20000 in
theorem mw125 : (Cond.methodLink "Generations$Row" (35 : Nat) ({ cls := "java/lang/Math", name := "floorMod", desc := "(II)I" } : Jvm.MethodName)) ∈ gw_N0 := gw_in (List.mem_append_right _ (gw_tm (i := 231) rfl))
end
section
theorem d_Math_floorMod_0 : decode b_Math_floorMod 0 = .ok (.iload_n 0, 1) := by decide +kernel
theorem d_Math_floorMod_1 : decode b_Math_floorMod 1 = .ok (.iload_n 1, 1) := by decide +kernel
theorem d_Math_floorMod_2 : decode b_Math_floorMod 2 = .ok (.irem, 1) := by decide +kernel
theorem d_Math_floorMod_3 : decode b_Math_floorMod 3 = .ok (.istore_n 2, 1) := by decide +kernel
theorem d_Math_floorMod_4 : decode b_Math_floorMod 4 = .ok (.iload_n 0, 1) := by decide +kernel
theorem d_Math_floorMod_5 : decode b_Math_floorMod 5 = .ok (.iload_n 1, 1) := by decide +kernel
theorem d_Math_floorMod_6 : decode b_Math_floorMod 6 = .ok (.ixor, 1) := by decide +kernel
theorem d_Math_floorMod_7 : decode b_Math_floorMod 7 = .ok (.ifCond .ge 11, 3) := by decide +kernel
theorem d_Math_floorMod_18 : decode b_Math_floorMod 18 = .ok (.iload_n 2, 1) := by decide +kernel
theorem d_Math_floorMod_19 : decode b_Math_floorMod 19 = .ok (.ireturn, 1) := by decide +kernel
theorem d_Math_floorMod_10 : decode b_Math_floorMod 10 = .ok (.iload_n 2, 1) := by decide +kernel
theorem d_Math_floorMod_11 : decode b_Math_floorMod 11 = .ok (.ifCond .eq 7, 3) := by decide +kernel
theorem d_Math_floorMod_14 : decode b_Math_floorMod 14 = .ok (.iload_n 2, 1) := by decide +kernel
theorem d_Math_floorMod_15 : decode b_Math_floorMod 15 = .ok (.iload_n 1, 1) := by decide +kernel
theorem d_Math_floorMod_16 : decode b_Math_floorMod 16 = .ok (.iadd, 1) := by decide +kernel
theorem d_Math_floorMod_17 : decode b_Math_floorMod 17 = .ok (.ireturn, 1) := by decide +kernel
theorem d_Job_base_0 : decode b_Job_base 0 = .ok (.aload_n 0, 1) := by decide +kernel
theorem d_Job_base_1 : decode b_Job_base 1 = .ok (.getfield 9, 3) := by decide +kernel
theorem d_Job_base_4 : decode b_Job_base 4 = .ok (.arraylength, 1) := by decide +kernel
theorem d_Job_base_5 : decode b_Job_base 5 = .ok (.ifCond .le 18, 3) := by decide +kernel
theorem d_Job_base_23 : decode b_Job_base 23 = .ok (.iconst 0, 1) := by decide +kernel
theorem d_Job_base_24 : decode b_Job_base 24 = .ok (.ireturn, 1) := by decide +kernel
theorem d_Job_base_8 : decode b_Job_base 8 = .ok (.aload_n 0, 1) := by decide +kernel
theorem d_Job_base_9 : decode b_Job_base 9 = .ok (.getfield 9, 3) := by decide +kernel
theorem d_Job_base_12 : decode b_Job_base 12 = .ok (.aload_n 0, 1) := by decide +kernel
theorem d_Job_base_13 : decode b_Job_base 13 = .ok (.getfield 9, 3) := by decide +kernel
theorem d_Job_base_16 : decode b_Job_base 16 = .ok (.arraylength, 1) := by decide +kernel
theorem d_Job_base_17 : decode b_Job_base 17 = .ok (.iconst 1, 1) := by decide +kernel
theorem d_Job_base_18 : decode b_Job_base 18 = .ok (.isub, 1) := by decide +kernel
theorem d_Job_base_19 : decode b_Job_base 19 = .ok (.iaload, 1) := by decide +kernel
theorem d_Job_base_20 : decode b_Job_base 20 = .ok (.goto 4, 3) := by decide +kernel
theorem d_Job_plus_0 : decode b_Job_plus 0 = .ok (.aload_n 0, 1) := by decide +kernel
theorem d_Job_plus_1 : decode b_Job_plus 1 = .ok (.invokevirtual 15, 3) := by decide +kernel
theorem d_Job_plus_4 : decode b_Job_plus 4 = .ok (.iload_n 1, 1) := by decide +kernel
theorem d_Job_plus_5 : decode b_Job_plus 5 = .ok (.iadd, 1) := by decide +kernel
theorem d_Job_plus_6 : decode b_Job_plus 6 = .ok (.iconst 1, 1) := by decide +kernel
theorem d_Job_plus_7 : decode b_Job_plus 7 = .ok (.isub, 1) := by decide +kernel
theorem d_Job_plus_8 : decode b_Job_plus 8 = .ok (.sipush 9999, 3) := by decide +kernel
theorem d_Job_plus_11 : decode b_Job_plus 11 = .ok (.invokestatic 19, 3) := by decide +kernel
theorem d_Job_plus_14 : decode b_Job_plus 14 = .ok (.iconst 1, 1) := by decide +kernel
theorem d_Job_plus_15 : decode b_Job_plus 15 = .ok (.iadd, 1) := by decide +kernel
theorem d_Job_plus_16 : decode b_Job_plus 16 = .ok (.ireturn, 1) := by decide +kernel
theorem d_Job_countedFromNewest_0 : decode b_Job_countedFromNewest 0 = .ok (.iconst 1, 1) := by decide +kernel
theorem d_Job_countedFromNewest_1 : decode b_Job_countedFromNewest 1 = .ok (.aload_n 0, 1) := by decide +kernel
theorem d_Job_countedFromNewest_2 : decode b_Job_countedFromNewest 2 = .ok (.getfield 9, 3) := by decide +kernel
theorem d_Job_countedFromNewest_5 : decode b_Job_countedFromNewest 5 = .ok (.arraylength, 1) := by decide +kernel
theorem d_Job_countedFromNewest_6 : decode b_Job_countedFromNewest 6 = .ok (.isub, 1) := by decide +kernel
theorem d_Job_countedFromNewest_7 : decode b_Job_countedFromNewest 7 = .ok (.istore_n 2, 1) := by decide +kernel
theorem d_Job_countedFromNewest_8 : decode b_Job_countedFromNewest 8 = .ok (.iload_n 1, 1) := by decide +kernel
theorem d_Job_countedFromNewest_9 : decode b_Job_countedFromNewest 9 = .ok (.iload_n 2, 1) := by decide +kernel
theorem d_Job_countedFromNewest_10 : decode b_Job_countedFromNewest 10 = .ok (.if_icmp .lt 24, 3) := by decide +kernel
theorem d_Job_countedFromNewest_34 : decode b_Job_countedFromNewest 34 = .ok (.iconst (-1), 1) := by decide +kernel
theorem d_Job_countedFromNewest_35 : decode b_Job_countedFromNewest 35 = .ok (.ireturn, 1) := by decide +kernel
theorem d_Job_countedFromNewest_13 : decode b_Job_countedFromNewest 13 = .ok (.iload_n 1, 1) := by decide +kernel
theorem d_Job_countedFromNewest_14 : decode b_Job_countedFromNewest 14 = .ok (.ifCond .gt 20, 3) := by decide +kernel
theorem d_Job_countedFromNewest_17 : decode b_Job_countedFromNewest 17 = .ok (.aload_n 0, 1) := by decide +kernel
theorem d_Job_countedFromNewest_18 : decode b_Job_countedFromNewest 18 = .ok (.getfield 9, 3) := by decide +kernel
theorem d_Job_countedFromNewest_21 : decode b_Job_countedFromNewest 21 = .ok (.aload_n 0, 1) := by decide +kernel
theorem d_Job_countedFromNewest_22 : decode b_Job_countedFromNewest 22 = .ok (.getfield 9, 3) := by decide +kernel
theorem d_Job_countedFromNewest_25 : decode b_Job_countedFromNewest 25 = .ok (.arraylength, 1) := by decide +kernel
theorem d_Job_countedFromNewest_26 : decode b_Job_countedFromNewest 26 = .ok (.iconst 1, 1) := by decide +kernel
theorem d_Job_countedFromNewest_27 : decode b_Job_countedFromNewest 27 = .ok (.isub, 1) := by decide +kernel
theorem d_Job_countedFromNewest_28 : decode b_Job_countedFromNewest 28 = .ok (.iload_n 1, 1) := by decide +kernel
theorem d_Job_countedFromNewest_29 : decode b_Job_countedFromNewest 29 = .ok (.iadd, 1) := by decide +kernel
theorem d_Job_countedFromNewest_30 : decode b_Job_countedFromNewest 30 = .ok (.iaload, 1) := by decide +kernel
theorem d_Job_countedFromNewest_31 : decode b_Job_countedFromNewest 31 = .ok (.goto 4, 3) := by decide +kernel
theorem d_Row_isAhead_0 : decode b_Row_isAhead 0 = .ok (.iload_n 1, 1) := by decide +kernel
theorem d_Row_isAhead_1 : decode b_Row_isAhead 1 = .ok (.iload_n 0, 1) := by decide +kernel
theorem d_Row_isAhead_2 : decode b_Row_isAhead 2 = .ok (.isub, 1) := by decide +kernel
theorem d_Row_isAhead_3 : decode b_Row_isAhead 3 = .ok (.sipush 9999, 3) := by decide +kernel
theorem d_Row_isAhead_6 : decode b_Row_isAhead 6 = .ok (.invokestatic 35, 3) := by decide +kernel
theorem d_Row_isAhead_9 : decode b_Row_isAhead 9 = .ok (.istore_n 2, 1) := by decide +kernel
theorem d_Row_isAhead_10 : decode b_Row_isAhead 10 = .ok (.iload_n 2, 1) := by decide +kernel
theorem d_Row_isAhead_11 : decode b_Row_isAhead 11 = .ok (.iconst 1, 1) := by decide +kernel
theorem d_Row_isAhead_12 : decode b_Row_isAhead 12 = .ok (.if_icmp .lt 14, 3) := by decide +kernel
theorem d_Row_isAhead_26 : decode b_Row_isAhead 26 = .ok (.iconst 0, 1) := by decide +kernel
theorem d_Row_isAhead_27 : decode b_Row_isAhead 27 = .ok (.ireturn, 1) := by decide +kernel
theorem d_Row_isAhead_15 : decode b_Row_isAhead 15 = .ok (.iload_n 2, 1) := by decide +kernel
theorem d_Row_isAhead_16 : decode b_Row_isAhead 16 = .ok (.sipush 4999, 3) := by decide +kernel
theorem d_Row_isAhead_19 : decode b_Row_isAhead 19 = .ok (.if_icmp .gt 7, 3) := by decide +kernel
theorem d_Row_isAhead_22 : decode b_Row_isAhead 22 = .ok (.iconst 1, 1) := by decide +kernel
theorem d_Row_isAhead_23 : decode b_Row_isAhead 23 = .ok (.goto 4, 3) := by decide +kernel
end
section
theorem gi_c0 : (0 : Int32).toNatClampNeg = 0 := by decide
theorem gx_lt256 {a : Nat} (h : a ≤ 255) : nI a < 256 := nI_lt (b := 256) (by omega) (by omega)
theorem gx_ne256 {a : Nat} (h : a ≤ 255) : ¬ nI a = 256 := fun q => by have := (nI_eq (a := a) (b := 256) (by omega) (by omega)).mp q; omega
theorem gx_mn256 {a : Nat} (h : a ≤ 255) : (if nI a < 256 then nI a else 256) = nI a := if_pos (gx_lt256 h)
theorem gx_ge1 {a : Nat} (h : ¬ nI a ≤ 0) (ha : a < 2 ^ 31) : 1 ≤ a := by
  rcases Nat.eq_zero_or_pos a with q | q
  · subst q; exact absurd (by decide) h
  · exact q
theorem gx_pred {a : Nat} (h : 1 ≤ a) : nI a - 1 = nI (a - 1) := by
  obtain ⟨b, rfl⟩ : ∃ b, a = b + 1 := ⟨a - 1, by omega⟩
  exact nI_pred b
theorem gx_dec {a : Nat} (h : 1 ≤ a) : nI a + (-1) = nI (a - 1) := by
  obtain ⟨b, rfl⟩ : ∃ b, a = b + 1 := ⟨a - 1, by omega⟩
  exact pk_m1 b
theorem gx_in1 {a N : Nat} (h : 1 ≤ a) (hN : a ≤ N ∧ N < 2 ^ 31) : vp_in (nI a - 1) N := by rw [gx_pred h]; exact vp_in_nI (by omega) hN.2
theorem gx_nlt {a b : Nat} (h : ¬ nI a < nI b) (ha : a < 2 ^ 31) (hb : b < 2 ^ 31) : b ≤ a := by
  rcases Nat.lt_or_ge a b with q | q
  · exact absurd (nI_lt q hb) h
  · exact q
set_option maxHeartbeats 4000000 in
set_option maxRecDepth 100000 in
theorem r_floorMod (l : Launch) (G : gw_G) (M : gw_M) (x : Int32) : Met l y_Math_floorMod [.code y_Math_floorMod b_Math_floorMod 3 (some .int)] ({ frames := 0, cells := 0, slots := 0, locals := 0 }) (gw_Pc G M [.int x, .int 9999]) (gr_Qi (fun r => True)) 0 0 (fun _ => False) := by
  refine gw_startRF (by decide +kernel) (Nat.le_of_ble_eq_true rfl) (fun p9 e9 s m b9 mt9 c9 hx hb hr hml hown hlocks hin hE hB hW ls hl => ?_)
  have hts := hE.ts ([.int x, .int 9999] : List Value).toArray
  have hl : lv_has ls 3 [(0, .int x), (1, .int 9999)] := hl
  have hown : s.vm.findClass "java/lang/Math" = some m.cls := hown
  have hS : va_S (gw_A G) s.heap s.heap [] := va_S.rf
  refine lv_iload_n hx hb d_Math_floorMod_0 rfl (lv_at hl 0 rfl) ?_
  refine lv_iload_n hx hb d_Math_floorMod_1 rfl (lv_at hl 1 rfl) ?_
  refine lv_irem hx hb d_Math_floorMod_2 (by decide) ?_
  refine lv_istore_n (lv' := [(2, .int (x - x / 9999 * 9999)), (0, .int x), (1, .int 9999)]) hx hb d_Math_floorMod_3 rfl hl (by decide) rfl (fun ls hl => ?_)
  refine lv_iload_n hx hb d_Math_floorMod_4 rfl (lv_at hl 1 rfl) ?_
  refine lv_iload_n hx hb d_Math_floorMod_5 rfl (lv_at hl 2 rfl) ?_
  refine lv_ixor hx hb d_Math_floorMod_6 ?_
  refine lv_if_ge (tgt := 18) hx hb d_Math_floorMod_7 (by decide) (fun c7 => ?_) (fun c7 => ?_)
  · refine lv_iload_n hx hb d_Math_floorMod_18 rfl (lv_at hl 0 rfl) ?_
    exact gr_iret hx hb hr hlocks d_Math_floorMod_19 trivial
  · refine lv_iload_n hx hb d_Math_floorMod_10 rfl (lv_at hl 0 rfl) ?_
    refine lv_if_eq (tgt := 18) hx hb d_Math_floorMod_11 (by decide) (fun c11 => ?_) (fun c11 => ?_)
    · refine lv_iload_n hx hb d_Math_floorMod_18 rfl (lv_at hl 0 rfl) ?_
      exact gr_iret hx hb hr hlocks d_Math_floorMod_19 trivial
    · refine lv_iload_n hx hb d_Math_floorMod_14 rfl (lv_at hl 0 rfl) ?_
      refine lv_iload_n hx hb d_Math_floorMod_15 rfl (lv_at hl 2 rfl) ?_
      refine lv_iadd hx hb d_Math_floorMod_16 ?_
      exact gr_iret hx hb hr hlocks d_Math_floorMod_17 trivial

set_option maxHeartbeats 4000000 in
set_option maxRecDepth 100000 in
theorem r_base (l : Launch) (G : gw_G) (M : gw_M) (g : Nat) (t : Nat) (en : Int32) (k : Nat) (f : Nat → Int32) (hf_g : M g = some (10, .inr (3, [.ref t, .int en]))) (hf_t : M t = some (11, .inl (G.2.1 0, k, .inl f))) (hk : k ≤ 256) : Met l y_Job_base [.code y_Job_base b_Job_base 1 (some .int)] ({ frames := 0, cells := 0, slots := 0, locals := 0 }) (gw_Pc G M [.ref g]) (gr_Qi (fun r => True)) 0 0 (fun _ => False) := by
  refine gw_startR (by decide) (Nat.le_of_ble_eq_true rfl) (fun p9 e9 s m b9 mt9 c9 hx hb hr hml hown hlocks hin hE hB hW ls hl => ?_)
  have hts := hE.ts ([.ref g] : List Value).toArray
  have hl : lv_has ls 1 [(0, .ref g)] := hl
  have hown : s.vm.findClass "Generations$Job" = some m.cls := hown
  have hS : va_S (gw_A G) s.heap s.heap [] := va_S.rf
  refine lv_aload_n hx hb d_Job_base_0 rfl (lv_at hl 0 rfl) ?_
  refine gw_get (ci := 3) (fs := [.ref t, .int en]) hx hb hts in_Job hown hE.K hW hf_g rfl 0 (by decide) (hts _ mw116) (fun _ h9 => h9) rfl d_Job_base_1 ?_
  refine gw_alen (v := nI k) hx hb hE.K hW 0 hf_t rfl rfl d_Job_base_4 ?_
  refine lv_if_le (tgt := 23) hx hb d_Job_base_5 (by decide) (fun c5 => ?_) (fun c5 => ?_)
  · refine lv_iconst (v := 0) hx hb d_Job_base_23 (by decide) ?_
    exact gr_iret hx hb hr hlocks d_Job_base_24 trivial
  · refine lv_aload_n hx hb d_Job_base_8 rfl (lv_at hl 0 rfl) ?_
    refine gw_get (ci := 3) (fs := [.ref t, .int en]) hx hb hts in_Job hown hE.K hW hf_g rfl 0 (by decide) (hts _ mw116) (fun _ h9 => h9) rfl d_Job_base_9 ?_
    refine lv_aload_n hx hb d_Job_base_12 rfl (lv_at hl 0 rfl) ?_
    refine gw_get (ci := 3) (fs := [.ref t, .int en]) hx hb hts in_Job hown hE.K hW hf_g rfl 0 (by decide) (hts _ mw116) (fun _ h9 => h9) rfl d_Job_base_13 ?_
    refine gw_alen (v := nI k) hx hb hE.K hW 0 hf_t rfl rfl d_Job_base_16 ?_
    refine lv_iconst (v := 1) hx hb d_Job_base_17 (by decide) ?_
    refine lv_isub hx hb d_Job_base_18 ?_
    refine gw_iald (i := (nI k) - 1) hx hb hE.K hW 0 hf_t rfl (gx_last c5 hk) d_Job_base_19 ?_
    refine lv_goto (tgt := 24) hx hb d_Job_base_20 (by decide) ?_
    exact gr_iret hx hb hr hlocks d_Job_base_24 trivial

set_option maxHeartbeats 4000000 in
set_option maxRecDepth 100000 in
theorem r_plus (l : Launch) (G : gw_G) (M : gw_M) (g : Nat) (t : Nat) (en : Int32) (k : Nat) (f : Nat → Int32) (q : Int32) (hf_g : M g = some (10, .inr (3, [.ref t, .int en]))) (hf_t : M t = some (11, .inl (G.2.1 0, k, .inl f))) (hk : k ≤ 256) : Met l y_Job_plus [.code y_Job_plus b_Job_plus 2 (some .int)] ({ frames := 1, cells := 0, slots := 0, locals := 22 }) (gw_Pc G M [.ref g, .int q]) (gr_Qi (fun r => True)) 0 0 (fun _ => False) := by
  refine gw_startR (by decide) (Nat.le_of_ble_eq_true rfl) (fun p9 e9 s m b9 mt9 c9 hx hb hr hml hown hlocks hin hE hB hW ls hl => ?_)
  have hts := hE.ts ([.ref g, .int q] : List Value).toArray
  have hl : lv_has ls 2 [(0, .ref g), (1, .int q)] := hl
  have hown : s.vm.findClass "Generations$Job" = some m.cls := hown
  have hS : va_S (gw_A G) s.heap s.heap [] := va_S.rf
  refine lv_aload_n hx hb d_Job_plus_0 rfl (lv_at hl 0 rfl) ?_
  refine gr_calli (va_runV (As := []) (rest := []) ⟨hx, hb, hml, hown, hts⟩ (r_base l G M g t en k f hf_g hf_t (by assumption)) (cwV 0 hts (gw_gv mw118 mw119 mw120 mw121 mw117) rfl rfl rfl (by decide +kernel) ⟨Nat.le_of_ble_eq_true rfl, Nat.le_of_ble_eq_true rfl⟩) (gw_pv hE hB hS hW rfl hf_g) rfl rfl hl.1 rfl (lv_room (Nat.le_of_ble_eq_true rfl)) d_Job_plus_1 ⟨Nat.le_of_ble_eq_true rfl, Nat.le_of_ble_eq_true rfl⟩) (fun r1 hw2 => ?_)
  refine lv_iload_n hx hb d_Job_plus_4 rfl (lv_at hl 1 rfl) ?_
  refine lv_iadd hx hb d_Job_plus_5 ?_
  refine lv_iconst (v := 1) hx hb d_Job_plus_6 (by decide) ?_
  refine lv_isub hx hb d_Job_plus_7 ?_
  refine lv_sipush (v := 9999) hx hb d_Job_plus_8 (by decide) ?_
  refine gr_calli (va_runS (As := [.int ((r1 + q) - 1), .int 9999]) (rest := []) ⟨hx, hb, hml, hown, hts⟩ (r_floorMod l G M ((r1 + q) - 1)  ) (va_cwS 2 hts (gw_gt mw123 mw124 mw70 mw122) rfl rfl rfl (by decide +kernel) ⟨Nat.le_of_ble_eq_true rfl, Nat.le_of_ble_eq_true rfl⟩) (gw_ps hE hB hS hW) rfl rfl hl.1 rfl (lv_room (Nat.le_of_ble_eq_true rfl)) d_Job_plus_11 ⟨Nat.le_of_ble_eq_true rfl, Nat.le_of_ble_eq_true rfl⟩) (fun r3 hw4 => ?_)
  refine lv_iconst (v := 1) hx hb d_Job_plus_14 (by decide) ?_
  refine lv_iadd hx hb d_Job_plus_15 ?_
  exact gr_iret hx hb hr hlocks d_Job_plus_16 trivial

set_option maxHeartbeats 4000000 in
set_option maxRecDepth 100000 in
theorem r_counted (l : Launch) (G : gw_G) (M : gw_M) (g : Nat) (t : Nat) (en : Int32) (k : Nat) (f : Nat → Int32) (q : Int32) (hf_g : M g = some (10, .inr (3, [.ref t, .int en]))) (hf_t : M t = some (11, .inl (G.2.1 0, k, .inl f))) (hk : k ≤ 256) : Met l y_Job_countedFromNewest [.code y_Job_countedFromNewest b_Job_countedFromNewest 3 (some .int)] ({ frames := 0, cells := 0, slots := 0, locals := 0 }) (gw_Pc G M [.ref g, .int q]) (gr_Qi (fun r => True)) 0 0 (fun _ => False) := by
  refine gw_startR (by decide) (Nat.le_of_ble_eq_true rfl) (fun p9 e9 s m b9 mt9 c9 hx hb hr hml hown hlocks hin hE hB hW ls hl => ?_)
  have hts := hE.ts ([.ref g, .int q] : List Value).toArray
  have hl : lv_has ls 3 [(0, .ref g), (1, .int q)] := hl
  have hown : s.vm.findClass "Generations$Job" = some m.cls := hown
  have hS : va_S (gw_A G) s.heap s.heap [] := va_S.rf
  refine lv_iconst (v := 1) hx hb d_Job_countedFromNewest_0 (by decide) ?_
  refine lv_aload_n hx hb d_Job_countedFromNewest_1 rfl (lv_at hl 0 rfl) ?_
  refine gw_get (ci := 3) (fs := [.ref t, .int en]) hx hb hts in_Job hown hE.K hW hf_g rfl 0 (by decide) (hts _ mw116) (fun _ h9 => h9) rfl d_Job_countedFromNewest_2 ?_
  refine gw_alen (v := nI k) hx hb hE.K hW 0 hf_t rfl rfl d_Job_countedFromNewest_5 ?_
  refine lv_isub hx hb d_Job_countedFromNewest_6 ?_
  refine lv_istore_n (lv' := [(2, .int (1 - (nI k))), (0, .ref g), (1, .int q)]) hx hb d_Job_countedFromNewest_7 rfl hl (by decide) rfl (fun ls hl => ?_)
  refine lv_iload_n hx hb d_Job_countedFromNewest_8 rfl (lv_at hl 2 rfl) ?_
  refine lv_iload_n hx hb d_Job_countedFromNewest_9 rfl (lv_at hl 0 rfl) ?_
  refine lv_icmp_lt (tgt := 34) hx hb d_Job_countedFromNewest_10 (by decide) (fun c10 => ?_) (fun c10 => ?_)
  · refine lv_iconst (v := -1) hx hb d_Job_countedFromNewest_34 (by decide) ?_
    exact gr_iret hx hb hr hlocks d_Job_countedFromNewest_35 trivial
  · refine lv_iload_n hx hb d_Job_countedFromNewest_13 rfl (lv_at hl 2 rfl) ?_
    refine lv_if_gt (tgt := 34) hx hb d_Job_countedFromNewest_14 (by decide) (fun c14 => ?_) (fun c14 => ?_)
    · refine lv_iconst (v := -1) hx hb d_Job_countedFromNewest_34 (by decide) ?_
      exact gr_iret hx hb hr hlocks d_Job_countedFromNewest_35 trivial
    · refine lv_aload_n hx hb d_Job_countedFromNewest_17 rfl (lv_at hl 1 rfl) ?_
      refine gw_get (ci := 3) (fs := [.ref t, .int en]) hx hb hts in_Job hown hE.K hW hf_g rfl 0 (by decide) (hts _ mw116) (fun _ h9 => h9) rfl d_Job_countedFromNewest_18 ?_
      refine lv_aload_n hx hb d_Job_countedFromNewest_21 rfl (lv_at hl 1 rfl) ?_
      refine gw_get (ci := 3) (fs := [.ref t, .int en]) hx hb hts in_Job hown hE.K hW hf_g rfl 0 (by decide) (hts _ mw116) (fun _ h9 => h9) rfl d_Job_countedFromNewest_22 ?_
      refine gw_alen (v := nI k) hx hb hE.K hW 0 hf_t rfl rfl d_Job_countedFromNewest_25 ?_
      refine lv_iconst (v := 1) hx hb d_Job_countedFromNewest_26 (by decide) ?_
      refine lv_isub hx hb d_Job_countedFromNewest_27 ?_
      refine lv_iload_n hx hb d_Job_countedFromNewest_28 rfl (lv_at hl 2 rfl) ?_
      refine lv_iadd hx hb d_Job_countedFromNewest_29 ?_
      refine gw_iald (i := ((nI k) - 1) + q) hx hb hE.K hW 0 hf_t rfl (gx_cntN c10 c14 hk) d_Job_countedFromNewest_30 ?_
      refine lv_goto (tgt := 35) hx hb d_Job_countedFromNewest_31 (by decide) ?_
      exact gr_iret hx hb hr hlocks d_Job_countedFromNewest_35 trivial

set_option maxHeartbeats 4000000 in
set_option maxRecDepth 100000 in
theorem r_isAhead (l : Launch) (G : gw_G) (M : gw_M) (x : Int32) (q : Int32) : Met l y_Row_isAhead [.code y_Row_isAhead b_Row_isAhead 3 (some .boolean)] ({ frames := 1, cells := 0, slots := 0, locals := 22 }) (gw_Pc G M [.int x, .int q]) (gr_Qi (fun r => True)) 0 0 (fun _ => False) := by
  refine gw_startR (by decide) (Nat.le_of_ble_eq_true rfl) (fun p9 e9 s m b9 mt9 c9 hx hb hr hml hown hlocks hin hE hB hW ls hl => ?_)
  have hts := hE.ts ([.int x, .int q] : List Value).toArray
  have hl : lv_has ls 3 [(0, .int x), (1, .int q)] := hl
  have hown : s.vm.findClass "Generations$Row" = some m.cls := hown
  have hS : va_S (gw_A G) s.heap s.heap [] := va_S.rf
  refine lv_iload_n hx hb d_Row_isAhead_0 rfl (lv_at hl 1 rfl) ?_
  refine lv_iload_n hx hb d_Row_isAhead_1 rfl (lv_at hl 0 rfl) ?_
  refine lv_isub hx hb d_Row_isAhead_2 ?_
  refine lv_sipush (v := 9999) hx hb d_Row_isAhead_3 (by decide) ?_
  refine gr_calli (va_runS (As := [.int (q - x), .int 9999]) (rest := []) ⟨hx, hb, hml, hown, hts⟩ (r_floorMod l G M (q - x)  ) (va_cwS 2 hts (gw_gt mw125 mw124 mw70 mw122) rfl rfl rfl (by decide +kernel) ⟨Nat.le_of_ble_eq_true rfl, Nat.le_of_ble_eq_true rfl⟩) (gw_ps hE hB hS hW) rfl rfl hl.1 rfl (lv_room (Nat.le_of_ble_eq_true rfl)) d_Row_isAhead_6 ⟨Nat.le_of_ble_eq_true rfl, Nat.le_of_ble_eq_true rfl⟩) (fun r1 hw2 => ?_)
  refine lv_istore_n (lv' := [(2, .int r1), (0, .int x), (1, .int q)]) hx hb d_Row_isAhead_9 rfl hl (by decide) rfl (fun ls hl => ?_)
  refine lv_iload_n hx hb d_Row_isAhead_10 rfl (lv_at hl 0 rfl) ?_
  refine lv_iconst (v := 1) hx hb d_Row_isAhead_11 (by decide) ?_
  refine lv_icmp_lt (tgt := 26) hx hb d_Row_isAhead_12 (by decide) (fun c12 => ?_) (fun c12 => ?_)
  · refine lv_iconst (v := 0) hx hb d_Row_isAhead_26 (by decide) ?_
    exact gr_zret hx hb hr hlocks rfl d_Row_isAhead_27 trivial
  · refine lv_iload_n hx hb d_Row_isAhead_15 rfl (lv_at hl 0 rfl) ?_
    refine lv_sipush (v := 4999) hx hb d_Row_isAhead_16 (by decide) ?_
    refine lv_icmp_gt (tgt := 26) hx hb d_Row_isAhead_19 (by decide) (fun c19 => ?_) (fun c19 => ?_)
    · refine lv_iconst (v := 0) hx hb d_Row_isAhead_26 (by decide) ?_
      exact gr_zret hx hb hr hlocks rfl d_Row_isAhead_27 trivial
    · refine lv_iconst (v := 1) hx hb d_Row_isAhead_22 (by decide) ?_
      refine lv_goto (tgt := 27) hx hb d_Row_isAhead_23 (by decide) ?_
      exact gr_zret hx hb hr hlocks rfl d_Row_isAhead_27 trivial
end
section
abbrev b_Gen_init : ByteArray := prog_2_method_1_code
abbrev y_Gen_init : MethodName := ⟨"Generations$Generation", "<init>", "(I)V"⟩
abbrev b_Gen_beginAnew : ByteArray := prog_2_method_2_code
abbrev y_Gen_beginAnew : MethodName := ⟨"Generations$Generation", "beginAnew", "(I)V"⟩
abbrev b_Row_put : ByteArray := prog_4_method_4_code
abbrev y_Row_put : MethodName := ⟨"Generations$Row", "put", "(I)V"⟩
abbrev b_Row_removeOldest : ByteArray := prog_4_method_5_code
abbrev y_Row_removeOldest : MethodName := ⟨"Generations$Row", "removeOldest", "(I)V"⟩
abbrev b_X_letGo : ByteArray := prog_1_method_24_code
abbrev y_X_letGo : MethodName := ⟨"Generations", "letGo", "(I)V"⟩
set_option maxRecDepth 20000 in
theorem mw126 : (Cond.methodLink "Generations$Generation" (3 : Nat) ({ cls := "java/lang/Object", name := "<init>", desc := "()V" } : Jvm.MethodName)) ∈ gw_N0 := gw_in (List.mem_append_right _ (gw_tm (i := 73) rfl))
set_option maxRecDepth 20000 in
theorem mw127 : (Cond.instanceMethod ({ cls := "java/lang/Object", name := "<init>", desc := "()V" } : Jvm.MethodName)) ∈ gw_N0 := gw_in (List.mem_append_right _ (gw_tm (i := 25) rfl))
set_option maxRecDepth 20000 in
theorem mw128 : (Cond.code ({ cls := "java/lang/Object", name := "<init>", desc := "()V" } : Jvm.MethodName) object_method_1_code (1 : Nat) (Option.none : Option Jvm.ClassFile.FieldType)) ∈ gw_N0 := gw_in (List.mem_append_right _ (gw_tm (i := 26) rfl))
set_option maxRecDepth 20000 in
theorem mw129 : (Cond.fieldLink "Generations$Generation" (18 : Nat) "Generations$Generation" "number" "I") ∈ gw_N0 := gw_in (List.mem_append_right _ (gw_tm (i := 74) rfl))
set_option maxRecDepth 20000 in
theorem mw130 : (Cond.fieldLink "Generations$Generation" (21 : Nat) "Generations$Generation" "version" "I") ∈ gw_N0 := gw_in (List.mem_append_right _ (gw_tm (i := 78) rfl))
set_option maxRecDepth 20000 in
theorem mw131 : (Cond.code ({ cls := "Generations$Row", name := "isAhead", desc := "(II)Z" } : Jvm.MethodName) prog_4_method_6_code (3 : Nat) (Option.some Jvm.ClassFile.FieldType.boolean)) ∈ gw_N0 := gw_in (List.mem_append_right _ (gw_tm (i := 230) rfl))
set_option maxRecDepth 20000 in
theorem mw132 : (Cond.methodLink "Generations$Row" (25 : Nat) ({ cls := "Generations$Row", name := "isAhead", desc := "(II)Z" } : Jvm.MethodName)) ∈ gw_N0 := gw_in (List.mem_append_right _ (gw_tm (i := 228) rfl))
set_option maxRecDepth 20000 in
theorem mw133 : (Cond.static ({ cls := "Generations$Row", name := "isAhead", desc := "(II)Z" } : Jvm.MethodName)) ∈ gw_N0 := gw_in (List.mem_append_right _ (gw_tm (i := 229) rfl))
set_option maxRecDepth 20000 in
theorem mw134 : (Cond.methodLink "Generations$Row" (29 : Nat) ({ cls := "java/lang/System", name := "arraycopy", desc := "(Ljava/lang/Object;ILjava/lang/Object;II)V" } : Jvm.MethodName)) ∈ gw_N0 := gw_in (List.mem_append_right _ (gw_tm (i := 250) rfl))
set_option maxRecDepth 20000 in
theorem mw135 : (Cond.fieldLink "Generations" (52 : Nat) "Generations" "scratches" "Z") ∈ gw_N0 := gw_in (List.mem_append_right _ (gw_tm (i := 102) rfl))
end
section
theorem d_Gen_init_0 : decode b_Gen_init 0 = .ok (.aload_n 0, 1) := by decide +kernel
theorem d_Gen_init_1 : decode b_Gen_init 1 = .ok (.invokespecial 3, 3) := by decide +kernel
theorem d_Gen_init_4 : decode b_Gen_init 4 = .ok (.aload_n 0, 1) := by decide +kernel
theorem d_Gen_init_5 : decode b_Gen_init 5 = .ok (.iconst 0, 1) := by decide +kernel
theorem d_Gen_init_6 : decode b_Gen_init 6 = .ok (.putfield 9, 3) := by decide +kernel
theorem d_Gen_init_9 : decode b_Gen_init 9 = .ok (.aload_n 0, 1) := by decide +kernel
theorem d_Gen_init_10 : decode b_Gen_init 10 = .ok (.iconst 0, 1) := by decide +kernel
theorem d_Gen_init_11 : decode b_Gen_init 11 = .ok (.putfield 15, 3) := by decide +kernel
theorem d_Gen_init_14 : decode b_Gen_init 14 = .ok (.aload_n 0, 1) := by decide +kernel
theorem d_Gen_init_15 : decode b_Gen_init 15 = .ok (.iload_n 1, 1) := by decide +kernel
theorem d_Gen_init_16 : decode b_Gen_init 16 = .ok (.putfield 18, 3) := by decide +kernel
theorem d_Gen_init_19 : decode b_Gen_init 19 = .ok (.return_, 1) := by decide +kernel
theorem d_Gen_beginAnew_0 : decode b_Gen_beginAnew 0 = .ok (.aload_n 0, 1) := by decide +kernel
theorem d_Gen_beginAnew_1 : decode b_Gen_beginAnew 1 = .ok (.iload_n 1, 1) := by decide +kernel
theorem d_Gen_beginAnew_2 : decode b_Gen_beginAnew 2 = .ok (.putfield 15, 3) := by decide +kernel
theorem d_Gen_beginAnew_5 : decode b_Gen_beginAnew 5 = .ok (.aload_n 0, 1) := by decide +kernel
theorem d_Gen_beginAnew_6 : decode b_Gen_beginAnew 6 = .ok (.iconst 0, 1) := by decide +kernel
theorem d_Gen_beginAnew_7 : decode b_Gen_beginAnew 7 = .ok (.putfield 21, 3) := by decide +kernel
theorem d_Gen_beginAnew_10 : decode b_Gen_beginAnew 10 = .ok (.aload_n 0, 1) := by decide +kernel
theorem d_Gen_beginAnew_11 : decode b_Gen_beginAnew 11 = .ok (.iconst 0, 1) := by decide +kernel
theorem d_Gen_beginAnew_12 : decode b_Gen_beginAnew 12 = .ok (.putfield 24, 3) := by decide +kernel
theorem d_Gen_beginAnew_15 : decode b_Gen_beginAnew 15 = .ok (.return_, 1) := by decide +kernel
theorem d_Row_put_0 : decode b_Row_put 0 = .ok (.aload_n 0, 1) := by decide +kernel
theorem d_Row_put_1 : decode b_Row_put 1 = .ok (.getfield 15, 3) := by decide +kernel
theorem d_Row_put_4 : decode b_Row_put 4 = .ok (.aload_n 0, 1) := by decide +kernel
theorem d_Row_put_5 : decode b_Row_put 5 = .ok (.getfield 9, 3) := by decide +kernel
theorem d_Row_put_8 : decode b_Row_put 8 = .ok (.arraylength, 1) := by decide +kernel
theorem d_Row_put_9 : decode b_Row_put 9 = .ok (.if_icmp .lt 4, 3) := by decide +kernel
theorem d_Row_put_13 : decode b_Row_put 13 = .ok (.aload_n 0, 1) := by decide +kernel
theorem d_Row_put_14 : decode b_Row_put 14 = .ok (.getfield 15, 3) := by decide +kernel
theorem d_Row_put_17 : decode b_Row_put 17 = .ok (.istore_n 2, 1) := by decide +kernel
theorem d_Row_put_18 : decode b_Row_put 18 = .ok (.iload_n 2, 1) := by decide +kernel
theorem d_Row_put_19 : decode b_Row_put 19 = .ok (.ifCond .le 38, 3) := by decide +kernel
theorem d_Row_put_57 : decode b_Row_put 57 = .ok (.aload_n 0, 1) := by decide +kernel
theorem d_Row_put_58 : decode b_Row_put 58 = .ok (.getfield 9, 3) := by decide +kernel
theorem d_Row_put_61 : decode b_Row_put 61 = .ok (.iload_n 2, 1) := by decide +kernel
theorem d_Row_put_62 : decode b_Row_put 62 = .ok (.iload_n 1, 1) := by decide +kernel
theorem d_Row_put_63 : decode b_Row_put 63 = .ok (.iastore, 1) := by decide +kernel
theorem d_Row_put_64 : decode b_Row_put 64 = .ok (.aload_n 0, 1) := by decide +kernel
theorem d_Row_put_65 : decode b_Row_put 65 = .ok (.dup, 1) := by decide +kernel
theorem d_Row_put_66 : decode b_Row_put 66 = .ok (.getfield 15, 3) := by decide +kernel
theorem d_Row_put_69 : decode b_Row_put 69 = .ok (.iconst 1, 1) := by decide +kernel
theorem d_Row_put_70 : decode b_Row_put 70 = .ok (.iadd, 1) := by decide +kernel
theorem d_Row_put_71 : decode b_Row_put 71 = .ok (.putfield 15, 3) := by decide +kernel
theorem d_Row_put_74 : decode b_Row_put 74 = .ok (.return_, 1) := by decide +kernel
theorem d_Row_put_22 : decode b_Row_put 22 = .ok (.aload_n 0, 1) := by decide +kernel
theorem d_Row_put_23 : decode b_Row_put 23 = .ok (.getfield 9, 3) := by decide +kernel
theorem d_Row_put_26 : decode b_Row_put 26 = .ok (.iload_n 2, 1) := by decide +kernel
theorem d_Row_put_27 : decode b_Row_put 27 = .ok (.iconst 1, 1) := by decide +kernel
theorem d_Row_put_28 : decode b_Row_put 28 = .ok (.isub, 1) := by decide +kernel
theorem d_Row_put_29 : decode b_Row_put 29 = .ok (.iaload, 1) := by decide +kernel
theorem d_Row_put_30 : decode b_Row_put 30 = .ok (.iload_n 1, 1) := by decide +kernel
theorem d_Row_put_31 : decode b_Row_put 31 = .ok (.invokestatic 25, 3) := by decide +kernel
theorem d_Row_put_34 : decode b_Row_put 34 = .ok (.ifCond .ne 23, 3) := by decide +kernel
theorem d_Row_put_37 : decode b_Row_put 37 = .ok (.aload_n 0, 1) := by decide +kernel
theorem d_Row_put_38 : decode b_Row_put 38 = .ok (.getfield 9, 3) := by decide +kernel
theorem d_Row_put_41 : decode b_Row_put 41 = .ok (.iload_n 2, 1) := by decide +kernel
theorem d_Row_put_42 : decode b_Row_put 42 = .ok (.aload_n 0, 1) := by decide +kernel
theorem d_Row_put_43 : decode b_Row_put 43 = .ok (.getfield 9, 3) := by decide +kernel
theorem d_Row_put_46 : decode b_Row_put 46 = .ok (.iload_n 2, 1) := by decide +kernel
theorem d_Row_put_47 : decode b_Row_put 47 = .ok (.iconst 1, 1) := by decide +kernel
theorem d_Row_put_48 : decode b_Row_put 48 = .ok (.isub, 1) := by decide +kernel
theorem d_Row_put_49 : decode b_Row_put 49 = .ok (.iaload, 1) := by decide +kernel
theorem d_Row_put_50 : decode b_Row_put 50 = .ok (.iastore, 1) := by decide +kernel
theorem d_Row_put_51 : decode b_Row_put 51 = .ok (.iinc 2 (-1), 3) := by decide +kernel
theorem d_Row_put_54 : decode b_Row_put 54 = .ok (.goto (-36), 3) := by decide +kernel
theorem d_Row_removeOldest_0 : decode b_Row_removeOldest 0 = .ok (.aload_n 0, 1) := by decide +kernel
theorem d_Row_removeOldest_1 : decode b_Row_removeOldest 1 = .ok (.getfield 15, 3) := by decide +kernel
theorem d_Row_removeOldest_4 : decode b_Row_removeOldest 4 = .ok (.iload_n 1, 1) := by decide +kernel
theorem d_Row_removeOldest_5 : decode b_Row_removeOldest 5 = .ok (.isub, 1) := by decide +kernel
theorem d_Row_removeOldest_6 : decode b_Row_removeOldest 6 = .ok (.istore_n 2, 1) := by decide +kernel
theorem d_Row_removeOldest_7 : decode b_Row_removeOldest 7 = .ok (.iload_n 1, 1) := by decide +kernel
theorem d_Row_removeOldest_8 : decode b_Row_removeOldest 8 = .ok (.ifCond .lt 7, 3) := by decide +kernel
theorem d_Row_removeOldest_11 : decode b_Row_removeOldest 11 = .ok (.iload_n 2, 1) := by decide +kernel
theorem d_Row_removeOldest_12 : decode b_Row_removeOldest 12 = .ok (.ifCond .ge 4, 3) := by decide +kernel
theorem d_Row_removeOldest_16 : decode b_Row_removeOldest 16 = .ok (.aload_n 0, 1) := by decide +kernel
theorem d_Row_removeOldest_17 : decode b_Row_removeOldest 17 = .ok (.getfield 9, 3) := by decide +kernel
theorem d_Row_removeOldest_20 : decode b_Row_removeOldest 20 = .ok (.iload_n 1, 1) := by decide +kernel
theorem d_Row_removeOldest_21 : decode b_Row_removeOldest 21 = .ok (.aload_n 0, 1) := by decide +kernel
theorem d_Row_removeOldest_22 : decode b_Row_removeOldest 22 = .ok (.getfield 9, 3) := by decide +kernel
theorem d_Row_removeOldest_25 : decode b_Row_removeOldest 25 = .ok (.iconst 0, 1) := by decide +kernel
theorem d_Row_removeOldest_26 : decode b_Row_removeOldest 26 = .ok (.iload_n 2, 1) := by decide +kernel
theorem d_Row_removeOldest_27 : decode b_Row_removeOldest 27 = .ok (.invokestatic 29, 3) := by decide +kernel
theorem d_Row_removeOldest_30 : decode b_Row_removeOldest 30 = .ok (.aload_n 0, 1) := by decide +kernel
theorem d_Row_removeOldest_31 : decode b_Row_removeOldest 31 = .ok (.iload_n 2, 1) := by decide +kernel
theorem d_Row_removeOldest_32 : decode b_Row_removeOldest 32 = .ok (.putfield 15, 3) := by decide +kernel
theorem d_Row_removeOldest_35 : decode b_Row_removeOldest 35 = .ok (.return_, 1) := by decide +kernel
theorem d_X_letGo_0 : decode b_X_letGo 0 = .ok (.aload_n 0, 1) := by decide +kernel
theorem d_X_letGo_1 : decode b_X_letGo 1 = .ok (.iload_n 1, 1) := by decide +kernel
theorem d_X_letGo_2 : decode b_X_letGo 2 = .ok (.invokevirtual 60, 3) := by decide +kernel
theorem d_X_letGo_5 : decode b_X_letGo 5 = .ok (.astore_n 2, 1) := by decide +kernel
theorem d_X_letGo_6 : decode b_X_letGo 6 = .ok (.aload_n 2, 1) := by decide +kernel
theorem d_X_letGo_7 : decode b_X_letGo 7 = .ok (.aload_n 0, 1) := by decide +kernel
theorem d_X_letGo_8 : decode b_X_letGo 8 = .ok (.getfield 52, 3) := by decide +kernel
theorem d_X_letGo_11 : decode b_X_letGo 11 = .ok (.ifCond .eq 7, 3) := by decide +kernel
theorem d_X_letGo_18 : decode b_X_letGo 18 = .ok (.iconst 4, 1) := by decide +kernel
theorem d_X_letGo_19 : decode b_X_letGo 19 = .ok (.putfield 64, 3) := by decide +kernel
theorem d_X_letGo_22 : decode b_X_letGo 22 = .ok (.aload_n 0, 1) := by decide +kernel
theorem d_X_letGo_23 : decode b_X_letGo 23 = .ok (.getfield 138, 3) := by decide +kernel
theorem d_X_letGo_26 : decode b_X_letGo 26 = .ok (.aload_n 0, 1) := by decide +kernel
theorem d_X_letGo_27 : decode b_X_letGo 27 = .ok (.getfield 35, 3) := by decide +kernel
theorem d_X_letGo_30 : decode b_X_letGo 30 = .ok (.arraylength, 1) := by decide +kernel
theorem d_X_letGo_31 : decode b_X_letGo 31 = .ok (.if_icmp .ge 23, 3) := by decide +kernel
theorem d_X_letGo_54 : decode b_X_letGo 54 = .ok (.return_, 1) := by decide +kernel
theorem d_X_letGo_34 : decode b_X_letGo 34 = .ok (.aload_n 0, 1) := by decide +kernel
theorem d_X_letGo_35 : decode b_X_letGo 35 = .ok (.getfield 35, 3) := by decide +kernel
theorem d_X_letGo_38 : decode b_X_letGo 38 = .ok (.aload_n 0, 1) := by decide +kernel
theorem d_X_letGo_39 : decode b_X_letGo 39 = .ok (.getfield 138, 3) := by decide +kernel
theorem d_X_letGo_42 : decode b_X_letGo 42 = .ok (.iload_n 1, 1) := by decide +kernel
theorem d_X_letGo_43 : decode b_X_letGo 43 = .ok (.iastore, 1) := by decide +kernel
theorem d_X_letGo_44 : decode b_X_letGo 44 = .ok (.aload_n 0, 1) := by decide +kernel
theorem d_X_letGo_45 : decode b_X_letGo 45 = .ok (.dup, 1) := by decide +kernel
theorem d_X_letGo_46 : decode b_X_letGo 46 = .ok (.getfield 138, 3) := by decide +kernel
theorem d_X_letGo_49 : decode b_X_letGo 49 = .ok (.iconst 1, 1) := by decide +kernel
theorem d_X_letGo_50 : decode b_X_letGo 50 = .ok (.iadd, 1) := by decide +kernel
theorem d_X_letGo_51 : decode b_X_letGo 51 = .ok (.putfield 138, 3) := by decide +kernel
theorem d_X_letGo_14 : decode b_X_letGo 14 = .ok (.iconst 0, 1) := by decide +kernel
theorem d_X_letGo_15 : decode b_X_letGo 15 = .ok (.goto 4, 3) := by decide +kernel
end
section
set_option maxHeartbeats 4000000 in
set_option maxRecDepth 100000 in
theorem v_genInit (l : Launch) (G : gw_G) (M : gw_M) (A : Nat → Nat) (lim sc E : Int32) (j n rs : Nat) (hX : gx_V G A lim sc E j n rs M) (g : Nat) (k : Int32) (hg_g : gp_R M 9 g) : Met l y_Gen_init [.code y_Gen_init b_Gen_init 2 none] ({ frames := 1, cells := 0, slots := 0, locals := 12 }) (gw_Pc G M [.ref g, .int k]) (gw_Qv G (fun M2 => gx_V G A lim sc E j n rs M2 ∧ gw_fg (gw_out [1, 2, 3, 4, 5, 6, 7, 8, 9, 10, 11]) M M2)) 0 0 (gw_A G) := by
  refine gw_start (by decide) (Nat.le_of_ble_eq_true rfl) (fun p9 e9 s m b9 mt9 c9 hx hb hr hml hown hlocks hin hE hB hW ls hl => ?_)
  have hts := hE.ts ([.ref g, .int k] : List Value).toArray
  have hl : lv_has ls 2 [(0, .ref g), (1, .int k)] := hl
  have hown : s.vm.findClass "Generations$Generation" = some m.cls := hown
  have hin : mt9.name = "<init>" := hin
  have hj9 := hX.jobs.le
  have hn9 := hX.known.le
  have hr9 := hX.rs256
  refine gw_gen (I := fun z => gx_V G A lim sc E j n rs z) (P := gw_out [1, 2, 3, 4, 5, 6, 7, 8, 9, 10, 11]) hX hW (fun H locs Mw hW hS hX hF => ?_)
  have hX : gx_V G A lim sc E j n rs Mw := hX
  replace hg_g := hF.2 _ _ hg_g
  refine lv_aload_n hx hb d_Gen_init_0 rfl (lv_at hl 0 rfl) ?_
  refine W.objInit hx hb hown (hts _ mw126) (hts _ mw127) (hts _ mw128) rfl (by rw [hml]; exact hl.1) rfl d_Gen_init_1 (Nat.le_of_ble_eq_true rfl) (Nat.le_of_ble_eq_true rfl) ?_
  refine W.eq (g2 := F0 m 4 ls []) rfl ?_
  refine lv_aload_n hx hb d_Gen_init_4 rfl (lv_at hl 0 rfl) ?_
  refine lv_iconst (v := 0) hx hb d_Gen_init_5 (by decide) ?_
  obtain ⟨u1v0, u1v1, u1v2, u1v3, u1v4, hf_u1⟩ := hX.g9 hg_g
  refine gw_put (ci := 2) (fs := [.int u1v0, .int u1v1, .int u1v2, .int u1v3, .int u1v4]) (v := .int 0) (ty := .int) hx hb hts in_Gen t_Gen t_Gen_ok n_Gen hown hE.K hW hS hf_u1 rfl 1 (by decide) (hts _ mw15) (fun _ h9 => h9) rfl (by decide +kernel) rfl rfl (Nat.le_of_ble_eq_true rfl) d_Gen_init_6 (fun H locs hW hS => ?_)
  have hXn : gx_V G A lim sc E j n rs (gw_up Mw g 9 (.inr (2, [.int u1v0, .int 0, .int u1v2, .int u1v3, .int u1v4]))) := hX.up9 hf_u1
  have hPn : gp_S Mw (gw_up Mw g 9 (.inr (2, [.int u1v0, .int 0, .int u1v2, .int u1v3, .int u1v4]))) := gp_up hf_u1
  have hF2 : gw_fg (gw_out [1, 2, 3, 4, 5, 6, 7, 8, 9, 10, 11]) M (gw_up Mw g 9 (.inr (2, [.int u1v0, .int 0, .int u1v2, .int u1v3, .int u1v4]))) := gw_fg.up hF hf_u1 (show ¬ ((gw_out [1, 2, 3, 4, 5, 6, 7, 8, 9, 10, 11]) 9) by decide) (show ¬ ((gw_out [1, 2, 3, 4, 5, 6, 7, 8, 9, 10, 11]) 9) by decide)
  obtain ⟨M3, eM3⟩ : ∃ z, z = gw_up Mw g 9 (.inr (2, [.int u1v0, .int 0, .int u1v2, .int u1v3, .int u1v4])) := ⟨_, rfl⟩
  replace hW : gw_P G.1 vwCl G.2.2.2 M3 H := by rw [eM3]; exact hW
  have hf_u1 : M3 g = some (9, .inr (2, [.int u1v0, .int 0, .int u1v2, .int u1v3, .int u1v4])) := by rw [eM3]; exact gw_up_self _ _ _ _
  rw [← eM3] at hF2
  rw [← eM3] at hXn hPn
  replace hX := hXn
  replace hg_g := hPn _ _ hg_g
  clear hXn hPn
  refine lv_aload_n hx hb d_Gen_init_9 rfl (lv_at hl 0 rfl) ?_
  refine lv_iconst (v := 0) hx hb d_Gen_init_10 (by decide) ?_
  refine gw_put (ci := 2) (fs := [.int u1v0, .int 0, .int u1v2, .int u1v3, .int u1v4]) (v := .int 0) (ty := .int) hx hb hts in_Gen t_Gen t_Gen_ok n_Gen hown hE.K hW hS hf_u1 rfl 3 (by decide) (hts _ mw16) (fun _ h9 => h9) rfl (by decide +kernel) rfl rfl (Nat.le_of_ble_eq_true rfl) d_Gen_init_11 (fun H locs hW hS => ?_)
  have hXn : gx_V G A lim sc E j n rs (gw_up M3 g 9 (.inr (2, [.int u1v0, .int 0, .int u1v2, .int 0, .int u1v4]))) := hX.up9 hf_u1
  have hPn : gp_S M3 (gw_up M3 g 9 (.inr (2, [.int u1v0, .int 0, .int u1v2, .int 0, .int u1v4]))) := gp_up hf_u1
  have hF4 : gw_fg (gw_out [1, 2, 3, 4, 5, 6, 7, 8, 9, 10, 11]) M (gw_up M3 g 9 (.inr (2, [.int u1v0, .int 0, .int u1v2, .int 0, .int u1v4]))) := gw_fg.up hF2 hf_u1 (show ¬ ((gw_out [1, 2, 3, 4, 5, 6, 7, 8, 9, 10, 11]) 9) by decide) (show ¬ ((gw_out [1, 2, 3, 4, 5, 6, 7, 8, 9, 10, 11]) 9) by decide)
  obtain ⟨M5, eM5⟩ : ∃ z, z = gw_up M3 g 9 (.inr (2, [.int u1v0, .int 0, .int u1v2, .int 0, .int u1v4])) := ⟨_, rfl⟩
  replace hW : gw_P G.1 vwCl G.2.2.2 M5 H := by rw [eM5]; exact hW
  have hf_u1 : M5 g = some (9, .inr (2, [.int u1v0, .int 0, .int u1v2, .int 0, .int u1v4])) := by rw [eM5]; exact gw_up_self _ _ _ _
  rw [← eM5] at hF4
  rw [← eM5] at hXn hPn
  replace hX := hXn
  replace hg_g := hPn _ _ hg_g
  clear hXn hPn
  refine lv_aload_n hx hb d_Gen_init_14 rfl (lv_at hl 0 rfl) ?_
  refine lv_iload_n hx hb d_Gen_init_15 rfl (lv_at hl 1 rfl) ?_
  refine gw_putF (ci := 2) (fs := [.int u1v0, .int 0, .int u1v2, .int 0, .int u1v4]) (v := .int k) (ty := .int) hx hb hts in_Gen t_Gen t_Gen_ok n_Gen hown hE.K hW hS hf_u1 rfl 0 (by decide) (hts _ mw129) (fun _ h9 => h9) rfl hin rfl (by decide +kernel) rfl rfl (Nat.le_of_ble_eq_true rfl) d_Gen_init_16 (fun H locs hW hS => ?_)
  have hXn : gx_V G A lim sc E j n rs (gw_up M5 g 9 (.inr (2, [.int k, .int 0, .int u1v2, .int 0, .int u1v4]))) := hX.up9 hf_u1
  have hPn : gp_S M5 (gw_up M5 g 9 (.inr (2, [.int k, .int 0, .int u1v2, .int 0, .int u1v4]))) := gp_up hf_u1
  have hF6 : gw_fg (gw_out [1, 2, 3, 4, 5, 6, 7, 8, 9, 10, 11]) M (gw_up M5 g 9 (.inr (2, [.int k, .int 0, .int u1v2, .int 0, .int u1v4]))) := gw_fg.up hF4 hf_u1 (show ¬ ((gw_out [1, 2, 3, 4, 5, 6, 7, 8, 9, 10, 11]) 9) by decide) (show ¬ ((gw_out [1, 2, 3, 4, 5, 6, 7, 8, 9, 10, 11]) 9) by decide)
  obtain ⟨M7, eM7⟩ : ∃ z, z = gw_up M5 g 9 (.inr (2, [.int k, .int 0, .int u1v2, .int 0, .int u1v4])) := ⟨_, rfl⟩
  replace hW : gw_P G.1 vwCl G.2.2.2 M7 H := by rw [eM7]; exact hW
  have hf_u1 : M7 g = some (9, .inr (2, [.int k, .int 0, .int u1v2, .int 0, .int u1v4])) := by rw [eM7]; exact gw_up_self _ _ _ _
  rw [← eM7] at hF6
  rw [← eM7] at hXn hPn
  replace hX := hXn
  replace hg_g := hPn _ _ hg_g
  clear hXn hPn
  exact gw_vret hx hb hr hlocks hS hW (Nat.le_of_ble_eq_true rfl) (Nat.le_of_ble_eq_true rfl) d_Gen_init_19 ⟨hX, hF6⟩

set_option maxHeartbeats 4000000 in
set_option maxRecDepth 100000 in
theorem v_beginAnew (l : Launch) (G : gw_G) (M : gw_M) (A : Nat → Nat) (lim sc E : Int32) (j n rs : Nat) (hX : gx_V G A lim sc E j n rs M) (g : Nat) (k : Int32) (hg_g : gp_R M 9 g) : Met l y_Gen_beginAnew [.code y_Gen_beginAnew b_Gen_beginAnew 2 none] ({ frames := 0, cells := 0, slots := 0, locals := 0 }) (gw_Pc G M [.ref g, .int k]) (gw_Qv G (fun M2 => gx_V G A lim sc E j n rs M2 ∧ gw_fg (gw_out [1, 2, 3, 4, 5, 6, 7, 8, 9, 10, 11]) M M2)) 0 0 (gw_A G) := by
  refine gw_start (by decide) (Nat.le_of_ble_eq_true rfl) (fun p9 e9 s m b9 mt9 c9 hx hb hr hml hown hlocks hin hE hB hW ls hl => ?_)
  have hts := hE.ts ([.ref g, .int k] : List Value).toArray
  have hl : lv_has ls 2 [(0, .ref g), (1, .int k)] := hl
  have hown : s.vm.findClass "Generations$Generation" = some m.cls := hown
  have hj9 := hX.jobs.le
  have hn9 := hX.known.le
  have hr9 := hX.rs256
  refine gw_gen (I := fun z => gx_V G A lim sc E j n rs z) (P := gw_out [1, 2, 3, 4, 5, 6, 7, 8, 9, 10, 11]) hX hW (fun H locs Mw hW hS hX hF => ?_)
  have hX : gx_V G A lim sc E j n rs Mw := hX
  replace hg_g := hF.2 _ _ hg_g
  refine lv_aload_n hx hb d_Gen_beginAnew_0 rfl (lv_at hl 0 rfl) ?_
  refine lv_iload_n hx hb d_Gen_beginAnew_1 rfl (lv_at hl 1 rfl) ?_
  obtain ⟨u1v0, u1v1, u1v2, u1v3, u1v4, hf_u1⟩ := hX.g9 hg_g
  refine gw_put (ci := 2) (fs := [.int u1v0, .int u1v1, .int u1v2, .int u1v3, .int u1v4]) (v := .int k) (ty := .int) hx hb hts in_Gen t_Gen t_Gen_ok n_Gen hown hE.K hW hS hf_u1 rfl 3 (by decide) (hts _ mw16) (fun _ h9 => h9) rfl (by decide +kernel) rfl rfl (Nat.le_of_ble_eq_true rfl) d_Gen_beginAnew_2 (fun H locs hW hS => ?_)
  have hXn : gx_V G A lim sc E j n rs (gw_up Mw g 9 (.inr (2, [.int u1v0, .int u1v1, .int u1v2, .int k, .int u1v4]))) := hX.up9 hf_u1
  have hPn : gp_S Mw (gw_up Mw g 9 (.inr (2, [.int u1v0, .int u1v1, .int u1v2, .int k, .int u1v4]))) := gp_up hf_u1
  have hF2 : gw_fg (gw_out [1, 2, 3, 4, 5, 6, 7, 8, 9, 10, 11]) M (gw_up Mw g 9 (.inr (2, [.int u1v0, .int u1v1, .int u1v2, .int k, .int u1v4]))) := gw_fg.up hF hf_u1 (show ¬ ((gw_out [1, 2, 3, 4, 5, 6, 7, 8, 9, 10, 11]) 9) by decide) (show ¬ ((gw_out [1, 2, 3, 4, 5, 6, 7, 8, 9, 10, 11]) 9) by decide)
  obtain ⟨M3, eM3⟩ : ∃ z, z = gw_up Mw g 9 (.inr (2, [.int u1v0, .int u1v1, .int u1v2, .int k, .int u1v4])) := ⟨_, rfl⟩
  replace hW : gw_P G.1 vwCl G.2.2.2 M3 H := by rw [eM3]; exact hW
  have hf_u1 : M3 g = some (9, .inr (2, [.int u1v0, .int u1v1, .int u1v2, .int k, .int u1v4])) := by rw [eM3]; exact gw_up_self _ _ _ _
  rw [← eM3] at hF2
  rw [← eM3] at hXn hPn
  replace hX := hXn
  replace hg_g := hPn _ _ hg_g
  clear hXn hPn
  refine lv_aload_n hx hb d_Gen_beginAnew_5 rfl (lv_at hl 0 rfl) ?_
  refine lv_iconst (v := 0) hx hb d_Gen_beginAnew_6 (by decide) ?_
  refine gw_put (ci := 2) (fs := [.int u1v0, .int u1v1, .int u1v2, .int k, .int u1v4]) (v := .int 0) (ty := .int) hx hb hts in_Gen t_Gen t_Gen_ok n_Gen hown hE.K hW hS hf_u1 rfl 2 (by decide) (hts _ mw130) (fun _ h9 => h9) rfl (by decide +kernel) rfl rfl (Nat.le_of_ble_eq_true rfl) d_Gen_beginAnew_7 (fun H locs hW hS => ?_)
  have hXn : gx_V G A lim sc E j n rs (gw_up M3 g 9 (.inr (2, [.int u1v0, .int u1v1, .int 0, .int k, .int u1v4]))) := hX.up9 hf_u1
  have hPn : gp_S M3 (gw_up M3 g 9 (.inr (2, [.int u1v0, .int u1v1, .int 0, .int k, .int u1v4]))) := gp_up hf_u1
  have hF4 : gw_fg (gw_out [1, 2, 3, 4, 5, 6, 7, 8, 9, 10, 11]) M (gw_up M3 g 9 (.inr (2, [.int u1v0, .int u1v1, .int 0, .int k, .int u1v4]))) := gw_fg.up hF2 hf_u1 (show ¬ ((gw_out [1, 2, 3, 4, 5, 6, 7, 8, 9, 10, 11]) 9) by decide) (show ¬ ((gw_out [1, 2, 3, 4, 5, 6, 7, 8, 9, 10, 11]) 9) by decide)
  obtain ⟨M5, eM5⟩ : ∃ z, z = gw_up M3 g 9 (.inr (2, [.int u1v0, .int u1v1, .int 0, .int k, .int u1v4])) := ⟨_, rfl⟩
  replace hW : gw_P G.1 vwCl G.2.2.2 M5 H := by rw [eM5]; exact hW
  have hf_u1 : M5 g = some (9, .inr (2, [.int u1v0, .int u1v1, .int 0, .int k, .int u1v4])) := by rw [eM5]; exact gw_up_self _ _ _ _
  rw [← eM5] at hF4
  rw [← eM5] at hXn hPn
  replace hX := hXn
  replace hg_g := hPn _ _ hg_g
  clear hXn hPn
  refine lv_aload_n hx hb d_Gen_beginAnew_10 rfl (lv_at hl 0 rfl) ?_
  refine lv_iconst (v := 0) hx hb d_Gen_beginAnew_11 (by decide) ?_
  refine gw_put (ci := 2) (fs := [.int u1v0, .int u1v1, .int 0, .int k, .int u1v4]) (v := .int 0) (ty := .int) hx hb hts in_Gen t_Gen t_Gen_ok n_Gen hown hE.K hW hS hf_u1 rfl 4 (by decide) (hts _ mw22) (fun _ h9 => h9) rfl (by decide +kernel) rfl rfl (Nat.le_of_ble_eq_true rfl) d_Gen_beginAnew_12 (fun H locs hW hS => ?_)
  have hXn : gx_V G A lim sc E j n rs (gw_up M5 g 9 (.inr (2, [.int u1v0, .int u1v1, .int 0, .int k, .int 0]))) := hX.up9 hf_u1
  have hPn : gp_S M5 (gw_up M5 g 9 (.inr (2, [.int u1v0, .int u1v1, .int 0, .int k, .int 0]))) := gp_up hf_u1
  have hF6 : gw_fg (gw_out [1, 2, 3, 4, 5, 6, 7, 8, 9, 10, 11]) M (gw_up M5 g 9 (.inr (2, [.int u1v0, .int u1v1, .int 0, .int k, .int 0]))) := gw_fg.up hF4 hf_u1 (show ¬ ((gw_out [1, 2, 3, 4, 5, 6, 7, 8, 9, 10, 11]) 9) by decide) (show ¬ ((gw_out [1, 2, 3, 4, 5, 6, 7, 8, 9, 10, 11]) 9) by decide)
  obtain ⟨M7, eM7⟩ : ∃ z, z = gw_up M5 g 9 (.inr (2, [.int u1v0, .int u1v1, .int 0, .int k, .int 0])) := ⟨_, rfl⟩
  replace hW : gw_P G.1 vwCl G.2.2.2 M7 H := by rw [eM7]; exact hW
  have hf_u1 : M7 g = some (9, .inr (2, [.int u1v0, .int u1v1, .int 0, .int k, .int 0])) := by rw [eM7]; exact gw_up_self _ _ _ _
  rw [← eM7] at hF6
  rw [← eM7] at hXn hPn
  replace hX := hXn
  replace hg_g := hPn _ _ hg_g
  clear hXn hPn
  exact gw_vret hx hb hr hlocks hS hW (Nat.le_of_ble_eq_true rfl) (Nat.le_of_ble_eq_true rfl) d_Gen_beginAnew_15 ⟨hX, hF6⟩

set_option maxHeartbeats 4000000 in
set_option maxRecDepth 100000 in
theorem v_put (l : Launch) (G : gw_G) (M : gw_M) (A : Nat → Nat) (lim sc E : Int32) (j n rs : Nat) (hX : gx_V G A lim sc E j n rs M) (k : Int32) (h255 : rs ≤ 255) : Met l y_Row_put [.code y_Row_put b_Row_put 3 none] ({ frames := 2, cells := 0, slots := 0, locals := 44 }) (gw_Pc G M [.ref (A 1), .int k]) (gw_Qv G (fun M2 => gx_V G A lim sc E j n (rs + 1) M2 ∧ gw_fg (gw_out [1, 2, 3, 4, 5, 6, 7, 8, 9, 10, 11]) M M2)) 0 0 (gw_A G) := by
  refine gw_start (by decide) (Nat.le_of_ble_eq_true rfl) (fun p9 e9 s m b9 mt9 c9 hx hb hr hml hown hlocks hin hE hB hW ls hl => ?_)
  have hts := hE.ts ([.ref (A 1), .int k] : List Value).toArray
  have hl : lv_has ls 3 [(0, .ref (A 1)), (1, .int k)] := hl
  have hown : s.vm.findClass "Generations$Row" = some m.cls := hown
  have hj9 := hX.jobs.le
  have hn9 := hX.known.le
  have hr9 := hX.rs256
  refine gw_gen (I := fun z => gx_V G A lim sc E j n rs z) (P := gw_out [1, 2, 3, 4, 5, 6, 7, 8, 9, 10, 11]) hX hW (fun H locs Mw hW hS hX hF => ?_)
  have hX : gx_V G A lim sc E j n rs Mw := hX
  refine lv_aload_n hx hb d_Row_put_0 rfl (lv_at hl 0 rfl) ?_
  obtain ⟨gco1, f3o1, f8o1, hf_x, hf_row, hf_nums, hf_gone, hgco1, hrso1, -, -, -, -⟩ := id hX
  refine gw_get (ci := 1) (fs := [.ref (A 2), .int (nI rs)]) hx hb hts in_Row hown hE.K hW hf_row rfl 1 (by decide) (hts _ mw43) (fun _ h9 => h9) rfl d_Row_put_1 ?_
  refine lv_aload_n hx hb d_Row_put_4 rfl (lv_at hl 0 rfl) ?_
  refine gw_get (ci := 1) (fs := [.ref (A 2), .int (nI rs)]) hx hb hts in_Row hown hE.K hW hf_row rfl 0 (by decide) (hts _ mw44) (fun _ h9 => h9) rfl d_Row_put_5 ?_
  refine gw_alen (v := 256) hx hb hE.K hW 0 hf_nums rfl rfl d_Row_put_8 ?_
  refine lv_icmp_lt (tgt := 13) hx hb d_Row_put_9 (by decide) (fun c9 => ?_) (fun c9 => ?_)
  · refine lv_aload_n hx hb d_Row_put_13 rfl (lv_at hl 0 rfl) ?_
    refine gw_get (ci := 1) (fs := [.ref (A 2), .int (nI rs)]) hx hb hts in_Row hown hE.K hW hf_row rfl 1 (by decide) (hts _ mw43) (fun _ h9 => h9) rfl d_Row_put_14 ?_
    refine lv_istore_n (lv' := [(2, .int (nI rs)), (0, .ref (A 1)), (1, .int k)]) hx hb d_Row_put_17 rfl hl (by decide) rfl (fun ls hl => ?_)
    obtain ⟨k18, ek18⟩ : ∃ z : Nat, z = rs := ⟨_, rfl⟩
    replace hl : lv_has ls 3 [(2, .int (nI k18)), (0, .ref (A 1)), (1, .int k)] := by subst ek18; exact lv_sub hl [0, 1, 2] rfl
    have hk18 : k18 ≤ rs := by omega
    clear ek18
    clear hf_x hf_row hf_nums hf_gone
    obtain ⟨n18, hn18⟩ : ∃ z : Nat, k18 < z := ⟨_, Nat.lt_succ_self _⟩
    induction n18 generalizing k18 ls H locs Mw with
    | zero => exact absurd hn18 (Nat.not_lt_zero _)
    | succ n18 ih18 =>
      refine lv_iload_n hx hb d_Row_put_18 rfl (lv_at hl 0 rfl) ?_
      refine lv_if_le (tgt := 57) hx hb d_Row_put_19 (by decide) (fun c19 => ?_) (fun c19 => ?_)
      · refine lv_aload_n hx hb d_Row_put_57 rfl (lv_at hl 1 rfl) ?_
        obtain ⟨gco2, f3o2, f8o2, hf_x, hf_row, hf_nums, hf_gone, hgco2, hrso2, -, -, -, -⟩ := id hX
        refine gw_get (ci := 1) (fs := [.ref (A 2), .int (nI rs)]) hx hb hts in_Row hown hE.K hW hf_row rfl 0 (by decide) (hts _ mw44) (fun _ h9 => h9) rfl d_Row_put_58 ?_
        refine lv_iload_n hx hb d_Row_put_61 rfl (lv_at hl 0 rfl) ?_
        refine lv_iload_n hx hb d_Row_put_62 rfl (lv_at hl 2 rfl) ?_
        refine gw_iast (i := nI k18) (x := k) hx hb hE.K hW hS 0 hf_nums rfl (vp_in_nI (by omega) (by omega)) d_Row_put_63 (fun H locs hW hS => ?_)
        have hXn : gx_V G A lim sc E j n rs (gw_up Mw (A 2) 3 (.inl (G.2.1 0, 256, .inl (upd f3o2 (nI k18 : Int32).toNatClampNeg k)))) := hX.up3 hf_nums
        have hPn : gp_S Mw (gw_up Mw (A 2) 3 (.inl (G.2.1 0, 256, .inl (upd f3o2 (nI k18 : Int32).toNatClampNeg k)))) := gp_up hf_nums
        have hF3 : gw_fg (gw_out [1, 2, 3, 4, 5, 6, 7, 8, 9, 10, 11]) M (gw_up Mw (A 2) 3 (.inl (G.2.1 0, 256, .inl (upd f3o2 (nI k18 : Int32).toNatClampNeg k)))) := gw_fg.up hF hf_nums (show ¬ ((gw_out [1, 2, 3, 4, 5, 6, 7, 8, 9, 10, 11]) 3) by decide) (show ¬ ((gw_out [1, 2, 3, 4, 5, 6, 7, 8, 9, 10, 11]) 3) by decide)
        obtain ⟨M4, eM4⟩ : ∃ z, z = gw_up Mw (A 2) 3 (.inl (G.2.1 0, 256, .inl (upd f3o2 (nI k18 : Int32).toNatClampNeg k))) := ⟨_, rfl⟩
        replace hW : gw_P G.1 vwCl G.2.2.2 M4 H := by rw [eM4]; exact hW
        have hf_x : M4 (A 0) = some (1, .inr (0, [.int lim, .int sc, .int E, .ref (A 1), .ref (A 3), .ref (A 4), .ref (A 5), .ref (A 6), .int (nI gco2)])) := by rw [eM4]; exact gw_keep hf_x hf_nums (by decide)
        have hf_row : M4 (A 1) = some (2, .inr (1, [.ref (A 2), .int (nI rs)])) := by rw [eM4]; exact gw_keep hf_row hf_nums (by decide)
        have hf_gone : M4 (A 6) = some (8, .inl (G.2.1 0, 512, .inl f8o2)) := by rw [eM4]; exact gw_keep hf_gone hf_nums (by decide)
        have hf_nums : M4 (A 2) = some (3, .inl (G.2.1 0, 256, .inl (upd f3o2 (nI k18 : Int32).toNatClampNeg k))) := by rw [eM4]; exact gw_up_self _ _ _ _
        rw [← eM4] at hF3
        rw [← eM4] at hXn hPn
        replace hX := hXn
        clear hXn hPn
        refine lv_aload_n hx hb d_Row_put_64 rfl (lv_at hl 1 rfl) ?_
        refine lv_dup hx hb d_Row_put_65 rfl ?_
        refine gw_get (ci := 1) (fs := [.ref (A 2), .int (nI rs)]) hx hb hts in_Row hown hE.K hW hf_row rfl 1 (by decide) (hts _ mw43) (fun _ h9 => h9) rfl d_Row_put_66 ?_
        refine lv_iconst (v := 1) hx hb d_Row_put_69 (by decide) ?_
        refine lv_iadd hx hb d_Row_put_70 ?_
        refine W.eq (g2 := F0 m 71 ls [.int (nI (rs + 1)), .ref (A 1)]) (by rw [nI_1]) ?_
        refine gw_put (ci := 1) (fs := [.ref (A 2), .int (nI rs)]) (v := .int (nI (rs + 1))) (ty := .int) hx hb hts in_Row t_Row t_Row_ok n_Row hown hE.K hW hS hf_row rfl 1 (by decide) (hts _ mw43) (fun _ h9 => h9) rfl (by decide +kernel) rfl rfl (Nat.le_of_ble_eq_true rfl) d_Row_put_71 (fun H locs hW hS => ?_)
        have hXn : gx_V G A lim sc E j n (rs + 1) (gw_up M4 (A 1) 2 (.inr (1, [.ref (A 2), .int (nI (rs + 1))]))) := hX.up2 hf_row (by omega)
        have hPn : gp_S M4 (gw_up M4 (A 1) 2 (.inr (1, [.ref (A 2), .int (nI (rs + 1))]))) := gp_up hf_row
        have hF5 : gw_fg (gw_out [1, 2, 3, 4, 5, 6, 7, 8, 9, 10, 11]) M (gw_up M4 (A 1) 2 (.inr (1, [.ref (A 2), .int (nI (rs + 1))]))) := gw_fg.up hF3 hf_row (show ¬ ((gw_out [1, 2, 3, 4, 5, 6, 7, 8, 9, 10, 11]) 2) by decide) (show ¬ ((gw_out [1, 2, 3, 4, 5, 6, 7, 8, 9, 10, 11]) 2) by decide)
        obtain ⟨M6, eM6⟩ : ∃ z, z = gw_up M4 (A 1) 2 (.inr (1, [.ref (A 2), .int (nI (rs + 1))])) := ⟨_, rfl⟩
        replace hW : gw_P G.1 vwCl G.2.2.2 M6 H := by rw [eM6]; exact hW
        have hf_x : M6 (A 0) = some (1, .inr (0, [.int lim, .int sc, .int E, .ref (A 1), .ref (A 3), .ref (A 4), .ref (A 5), .ref (A 6), .int (nI gco2)])) := by rw [eM6]; exact gw_keep hf_x hf_row (by decide)
        have hf_gone : M6 (A 6) = some (8, .inl (G.2.1 0, 512, .inl f8o2)) := by rw [eM6]; exact gw_keep hf_gone hf_row (by decide)
        have hf_nums : M6 (A 2) = some (3, .inl (G.2.1 0, 256, .inl (upd f3o2 (nI k18 : Int32).toNatClampNeg k))) := by rw [eM6]; exact gw_keep hf_nums hf_row (by decide)
        have hf_row : M6 (A 1) = some (2, .inr (1, [.ref (A 2), .int (nI (rs + 1))])) := by rw [eM6]; exact gw_up_self _ _ _ _
        rw [← eM6] at hF5
        rw [← eM6] at hXn hPn
        replace hX := hXn
        clear hXn hPn
        exact gw_vret hx hb hr hlocks hS hW (Nat.le_of_ble_eq_true rfl) (Nat.le_of_ble_eq_true rfl) d_Row_put_74 ⟨hX, hF5⟩
      · have hk1 : 1 ≤ k18 := gx_ge1 c19 (by omega)
        refine lv_aload_n hx hb d_Row_put_22 rfl (lv_at hl 1 rfl) ?_
        obtain ⟨gco7, f3o7, f8o7, hf_x, hf_row, hf_nums, hf_gone, hgco7, hrso7, -, -, -, -⟩ := id hX
        refine gw_get (ci := 1) (fs := [.ref (A 2), .int (nI rs)]) hx hb hts in_Row hown hE.K hW hf_row rfl 0 (by decide) (hts _ mw44) (fun _ h9 => h9) rfl d_Row_put_23 ?_
        refine lv_iload_n hx hb d_Row_put_26 rfl (lv_at hl 0 rfl) ?_
        refine lv_iconst (v := 1) hx hb d_Row_put_27 (by decide) ?_
        refine lv_isub hx hb d_Row_put_28 ?_
        refine gw_iald (i := (nI k18) - 1) hx hb hE.K hW 0 hf_nums rfl (gx_in1 hk1 (by omega)) d_Row_put_29 ?_
        refine lv_iload_n hx hb d_Row_put_30 rfl (lv_at hl 2 rfl) ?_
        refine gr_calli (va_runS (As := [.int (f3o7 ((nI k18) - 1 : Int32).toNatClampNeg), .int k]) (rest := []) ⟨hx, hb, hml, hown, hts⟩ (r_isAhead l G Mw (f3o7 ((nI k18) - 1 : Int32).toNatClampNeg) k  ) (cwS 2 hts (gw_gs mw132 mw133 mw48 mw131) rfl rfl rfl (by decide +kernel) ⟨Nat.le_of_ble_eq_true rfl, Nat.le_of_ble_eq_true rfl⟩) (gw_ps hE hB hS hW) rfl rfl hl.1 rfl (lv_room (Nat.le_of_ble_eq_true rfl)) d_Row_put_31 ⟨Nat.le_of_ble_eq_true rfl, Nat.le_of_ble_eq_true rfl⟩) (fun r8 hw9 => ?_)
        refine lv_if_ne (tgt := 57) hx hb d_Row_put_34 (by decide) (fun c34 => ?_) (fun c34 => ?_)
        · refine lv_aload_n hx hb d_Row_put_57 rfl (lv_at hl 1 rfl) ?_
          refine gw_get (ci := 1) (fs := [.ref (A 2), .int (nI rs)]) hx hb hts in_Row hown hE.K hW hf_row rfl 0 (by decide) (hts _ mw44) (fun _ h9 => h9) rfl d_Row_put_58 ?_
          refine lv_iload_n hx hb d_Row_put_61 rfl (lv_at hl 0 rfl) ?_
          refine lv_iload_n hx hb d_Row_put_62 rfl (lv_at hl 2 rfl) ?_
          refine gw_iast (i := nI k18) (x := k) hx hb hE.K hW hS 0 hf_nums rfl (vp_in_nI (by omega) (by omega)) d_Row_put_63 (fun H locs hW hS => ?_)
          have hXn : gx_V G A lim sc E j n rs (gw_up Mw (A 2) 3 (.inl (G.2.1 0, 256, .inl (upd f3o7 (nI k18 : Int32).toNatClampNeg k)))) := hX.up3 hf_nums
          have hPn : gp_S Mw (gw_up Mw (A 2) 3 (.inl (G.2.1 0, 256, .inl (upd f3o7 (nI k18 : Int32).toNatClampNeg k)))) := gp_up hf_nums
          have hF10 : gw_fg (gw_out [1, 2, 3, 4, 5, 6, 7, 8, 9, 10, 11]) M (gw_up Mw (A 2) 3 (.inl (G.2.1 0, 256, .inl (upd f3o7 (nI k18 : Int32).toNatClampNeg k)))) := gw_fg.up hF hf_nums (show ¬ ((gw_out [1, 2, 3, 4, 5, 6, 7, 8, 9, 10, 11]) 3) by decide) (show ¬ ((gw_out [1, 2, 3, 4, 5, 6, 7, 8, 9, 10, 11]) 3) by decide)
          obtain ⟨M11, eM11⟩ : ∃ z, z = gw_up Mw (A 2) 3 (.inl (G.2.1 0, 256, .inl (upd f3o7 (nI k18 : Int32).toNatClampNeg k))) := ⟨_, rfl⟩
          replace hW : gw_P G.1 vwCl G.2.2.2 M11 H := by rw [eM11]; exact hW
          have hf_x : M11 (A 0) = some (1, .inr (0, [.int lim, .int sc, .int E, .ref (A 1), .ref (A 3), .ref (A 4), .ref (A 5), .ref (A 6), .int (nI gco7)])) := by rw [eM11]; exact gw_keep hf_x hf_nums (by decide)
          have hf_row : M11 (A 1) = some (2, .inr (1, [.ref (A 2), .int (nI rs)])) := by rw [eM11]; exact gw_keep hf_row hf_nums (by decide)
          have hf_gone : M11 (A 6) = some (8, .inl (G.2.1 0, 512, .inl f8o7)) := by rw [eM11]; exact gw_keep hf_gone hf_nums (by decide)
          have hf_nums : M11 (A 2) = some (3, .inl (G.2.1 0, 256, .inl (upd f3o7 (nI k18 : Int32).toNatClampNeg k))) := by rw [eM11]; exact gw_up_self _ _ _ _
          rw [← eM11] at hF10
          rw [← eM11] at hXn hPn
          replace hX := hXn
          clear hXn hPn
          refine lv_aload_n hx hb d_Row_put_64 rfl (lv_at hl 1 rfl) ?_
          refine lv_dup hx hb d_Row_put_65 rfl ?_
          refine gw_get (ci := 1) (fs := [.ref (A 2), .int (nI rs)]) hx hb hts in_Row hown hE.K hW hf_row rfl 1 (by decide) (hts _ mw43) (fun _ h9 => h9) rfl d_Row_put_66 ?_
          refine lv_iconst (v := 1) hx hb d_Row_put_69 (by decide) ?_
          refine lv_iadd hx hb d_Row_put_70 ?_
          refine W.eq (g2 := F0 m 71 ls [.int (nI (rs + 1)), .ref (A 1)]) (by rw [nI_1]) ?_
          refine gw_put (ci := 1) (fs := [.ref (A 2), .int (nI rs)]) (v := .int (nI (rs + 1))) (ty := .int) hx hb hts in_Row t_Row t_Row_ok n_Row hown hE.K hW hS hf_row rfl 1 (by decide) (hts _ mw43) (fun _ h9 => h9) rfl (by decide +kernel) rfl rfl (Nat.le_of_ble_eq_true rfl) d_Row_put_71 (fun H locs hW hS => ?_)
          have hXn : gx_V G A lim sc E j n (rs + 1) (gw_up M11 (A 1) 2 (.inr (1, [.ref (A 2), .int (nI (rs + 1))]))) := hX.up2 hf_row (by omega)
          have hPn : gp_S M11 (gw_up M11 (A 1) 2 (.inr (1, [.ref (A 2), .int (nI (rs + 1))]))) := gp_up hf_row
          have hF12 : gw_fg (gw_out [1, 2, 3, 4, 5, 6, 7, 8, 9, 10, 11]) M (gw_up M11 (A 1) 2 (.inr (1, [.ref (A 2), .int (nI (rs + 1))]))) := gw_fg.up hF10 hf_row (show ¬ ((gw_out [1, 2, 3, 4, 5, 6, 7, 8, 9, 10, 11]) 2) by decide) (show ¬ ((gw_out [1, 2, 3, 4, 5, 6, 7, 8, 9, 10, 11]) 2) by decide)
          obtain ⟨M13, eM13⟩ : ∃ z, z = gw_up M11 (A 1) 2 (.inr (1, [.ref (A 2), .int (nI (rs + 1))])) := ⟨_, rfl⟩
          replace hW : gw_P G.1 vwCl G.2.2.2 M13 H := by rw [eM13]; exact hW
          have hf_x : M13 (A 0) = some (1, .inr (0, [.int lim, .int sc, .int E, .ref (A 1), .ref (A 3), .ref (A 4), .ref (A 5), .ref (A 6), .int (nI gco7)])) := by rw [eM13]; exact gw_keep hf_x hf_row (by decide)
          have hf_gone : M13 (A 6) = some (8, .inl (G.2.1 0, 512, .inl f8o7)) := by rw [eM13]; exact gw_keep hf_gone hf_row (by decide)
          have hf_nums : M13 (A 2) = some (3, .inl (G.2.1 0, 256, .inl (upd f3o7 (nI k18 : Int32).toNatClampNeg k))) := by rw [eM13]; exact gw_keep hf_nums hf_row (by decide)
          have hf_row : M13 (A 1) = some (2, .inr (1, [.ref (A 2), .int (nI (rs + 1))])) := by rw [eM13]; exact gw_up_self _ _ _ _
          rw [← eM13] at hF12
          rw [← eM13] at hXn hPn
          replace hX := hXn
          clear hXn hPn
          exact gw_vret hx hb hr hlocks hS hW (Nat.le_of_ble_eq_true rfl) (Nat.le_of_ble_eq_true rfl) d_Row_put_74 ⟨hX, hF12⟩
        · refine lv_aload_n hx hb d_Row_put_37 rfl (lv_at hl 1 rfl) ?_
          refine gw_get (ci := 1) (fs := [.ref (A 2), .int (nI rs)]) hx hb hts in_Row hown hE.K hW hf_row rfl 0 (by decide) (hts _ mw44) (fun _ h9 => h9) rfl d_Row_put_38 ?_
          refine lv_iload_n hx hb d_Row_put_41 rfl (lv_at hl 0 rfl) ?_
          refine lv_aload_n hx hb d_Row_put_42 rfl (lv_at hl 1 rfl) ?_
          refine gw_get (ci := 1) (fs := [.ref (A 2), .int (nI rs)]) hx hb hts in_Row hown hE.K hW hf_row rfl 0 (by decide) (hts _ mw44) (fun _ h9 => h9) rfl d_Row_put_43 ?_
          refine lv_iload_n hx hb d_Row_put_46 rfl (lv_at hl 0 rfl) ?_
          refine lv_iconst (v := 1) hx hb d_Row_put_47 (by decide) ?_
          refine lv_isub hx hb d_Row_put_48 ?_
          refine gw_iald (i := (nI k18) - 1) hx hb hE.K hW 0 hf_nums rfl (gx_in1 hk1 (by omega)) d_Row_put_49 ?_
          refine gw_iast (i := nI k18) (x := f3o7 ((nI k18) - 1 : Int32).toNatClampNeg) hx hb hE.K hW hS 0 hf_nums rfl (vp_in_nI (by omega) (by omega)) d_Row_put_50 (fun H locs hW hS => ?_)
          have hXn : gx_V G A lim sc E j n rs (gw_up Mw (A 2) 3 (.inl (G.2.1 0, 256, .inl (upd f3o7 (nI k18 : Int32).toNatClampNeg (f3o7 ((nI k18) - 1 : Int32).toNatClampNeg))))) := hX.up3 hf_nums
          have hPn : gp_S Mw (gw_up Mw (A 2) 3 (.inl (G.2.1 0, 256, .inl (upd f3o7 (nI k18 : Int32).toNatClampNeg (f3o7 ((nI k18) - 1 : Int32).toNatClampNeg))))) := gp_up hf_nums
          have hF14 : gw_fg (gw_out [1, 2, 3, 4, 5, 6, 7, 8, 9, 10, 11]) M (gw_up Mw (A 2) 3 (.inl (G.2.1 0, 256, .inl (upd f3o7 (nI k18 : Int32).toNatClampNeg (f3o7 ((nI k18) - 1 : Int32).toNatClampNeg))))) := gw_fg.up hF hf_nums (show ¬ ((gw_out [1, 2, 3, 4, 5, 6, 7, 8, 9, 10, 11]) 3) by decide) (show ¬ ((gw_out [1, 2, 3, 4, 5, 6, 7, 8, 9, 10, 11]) 3) by decide)
          obtain ⟨M15, eM15⟩ : ∃ z, z = gw_up Mw (A 2) 3 (.inl (G.2.1 0, 256, .inl (upd f3o7 (nI k18 : Int32).toNatClampNeg (f3o7 ((nI k18) - 1 : Int32).toNatClampNeg)))) := ⟨_, rfl⟩
          replace hW : gw_P G.1 vwCl G.2.2.2 M15 H := by rw [eM15]; exact hW
          have hf_x : M15 (A 0) = some (1, .inr (0, [.int lim, .int sc, .int E, .ref (A 1), .ref (A 3), .ref (A 4), .ref (A 5), .ref (A 6), .int (nI gco7)])) := by rw [eM15]; exact gw_keep hf_x hf_nums (by decide)
          have hf_row : M15 (A 1) = some (2, .inr (1, [.ref (A 2), .int (nI rs)])) := by rw [eM15]; exact gw_keep hf_row hf_nums (by decide)
          have hf_gone : M15 (A 6) = some (8, .inl (G.2.1 0, 512, .inl f8o7)) := by rw [eM15]; exact gw_keep hf_gone hf_nums (by decide)
          have hf_nums : M15 (A 2) = some (3, .inl (G.2.1 0, 256, .inl (upd f3o7 (nI k18 : Int32).toNatClampNeg (f3o7 ((nI k18) - 1 : Int32).toNatClampNeg)))) := by rw [eM15]; exact gw_up_self _ _ _ _
          rw [← eM15] at hF14
          rw [← eM15] at hXn hPn
          replace hX := hXn
          clear hXn hPn
          refine lv_iinc (v := (nI k18) + (-1)) (lv' := [(2, .int ((nI k18) + (-1))), (0, .ref (A 1)), (1, .int k)]) hx hb d_Row_put_51 hl (k := 0) rfl rfl (by decide) rfl (fun ls hl => ?_)
          refine lv_goto (tgt := 18) hx hb d_Row_put_54 (by decide) ?_
          rw [gx_dec (show 1 ≤ k18 by omega)] at hl
          apply ih18 (ls := ls) (k18 := k18 - 1) (H := H) (locs := locs) (Mw := M15) <;> first | exact lv_sub hl [0, 1, 2] rfl | exact hX | exact hW | exact hS | exact hF14 | omega | assumption
  · exact absurd (gx_lt256 h255) c9

set_option maxHeartbeats 4000000 in
set_option maxRecDepth 100000 in
theorem v_removeOldest (l : Launch) (G : gw_G) (M : gw_M) (A : Nat → Nat) (lim sc E : Int32) (j n rs : Nat) (hX : gx_V G A lim sc E j n rs M) (q : Nat) (hq : q ≤ rs) : Met l y_Row_removeOldest [.code y_Row_removeOldest b_Row_removeOldest 3 none] ({ frames := 1, cells := 0, slots := 0, locals := 40 }) (gw_Pc G M [.ref (A 1), .int (nI q)]) (gw_Qv G (fun M2 => gx_V G A lim sc E j n (rs - q) M2 ∧ gw_fg (gw_out [1, 2, 3, 4, 5, 6, 7, 8, 9, 10, 11]) M M2)) 0 0 (gw_A G) := by
  refine gw_start (by decide) (Nat.le_of_ble_eq_true rfl) (fun p9 e9 s m b9 mt9 c9 hx hb hr hml hown hlocks hin hE hB hW ls hl => ?_)
  have hts := hE.ts ([.ref (A 1), .int (nI q)] : List Value).toArray
  have hl : lv_has ls 3 [(0, .ref (A 1)), (1, .int (nI q))] := hl
  have hown : s.vm.findClass "Generations$Row" = some m.cls := hown
  have hj9 := hX.jobs.le
  have hn9 := hX.known.le
  have hr9 := hX.rs256
  refine gw_gen (I := fun z => gx_V G A lim sc E j n rs z) (P := gw_out [1, 2, 3, 4, 5, 6, 7, 8, 9, 10, 11]) hX hW (fun H locs Mw hW hS hX hF => ?_)
  have hX : gx_V G A lim sc E j n rs Mw := hX
  refine lv_aload_n hx hb d_Row_removeOldest_0 rfl (lv_at hl 0 rfl) ?_
  obtain ⟨gco1, f3o1, f8o1, hf_x, hf_row, hf_nums, hf_gone, hgco1, hrso1, -, -, -, -⟩ := id hX
  refine gw_get (ci := 1) (fs := [.ref (A 2), .int (nI rs)]) hx hb hts in_Row hown hE.K hW hf_row rfl 1 (by decide) (hts _ mw43) (fun _ h9 => h9) rfl d_Row_removeOldest_1 ?_
  refine lv_iload_n hx hb d_Row_removeOldest_4 rfl (lv_at hl 1 rfl) ?_
  refine lv_isub hx hb d_Row_removeOldest_5 ?_
  refine W.eq (g2 := F0 m 6 ls [.int (nI (rs - q))]) (by rw [pk_sub (by omega)]) ?_
  refine lv_istore_n (lv' := [(2, .int (nI (rs - q))), (0, .ref (A 1)), (1, .int (nI q))]) hx hb d_Row_removeOldest_6 rfl hl (by decide) rfl (fun ls hl => ?_)
  refine lv_iload_n hx hb d_Row_removeOldest_7 rfl (lv_at hl 2 rfl) ?_
  refine lv_if_lt (tgt := 15) hx hb d_Row_removeOldest_8 (by decide) (fun c8 => ?_) (fun c8 => ?_)
  · exact absurd c8 (nI_pos (by omega))
  · refine lv_iload_n hx hb d_Row_removeOldest_11 rfl (lv_at hl 0 rfl) ?_
    refine lv_if_ge (tgt := 16) hx hb d_Row_removeOldest_12 (by decide) (fun c12 => ?_) (fun c12 => ?_)
    · refine lv_aload_n hx hb d_Row_removeOldest_16 rfl (lv_at hl 1 rfl) ?_
      refine gw_get (ci := 1) (fs := [.ref (A 2), .int (nI rs)]) hx hb hts in_Row hown hE.K hW hf_row rfl 0 (by decide) (hts _ mw44) (fun _ h9 => h9) rfl d_Row_removeOldest_17 ?_
      refine lv_iload_n hx hb d_Row_removeOldest_20 rfl (lv_at hl 2 rfl) ?_
      refine lv_aload_n hx hb d_Row_removeOldest_21 rfl (lv_at hl 1 rfl) ?_
      refine gw_get (ci := 1) (fs := [.ref (A 2), .int (nI rs)]) hx hb hts in_Row hown hE.K hW hf_row rfl 0 (by decide) (hts _ mw44) (fun _ h9 => h9) rfl d_Row_removeOldest_22 ?_
      refine lv_iconst (v := 0) hx hb d_Row_removeOldest_25 (by decide) ?_
      refine lv_iload_n hx hb d_Row_removeOldest_26 rfl (lv_at hl 0 rfl) ?_
      refine gw_copyi (sp := nI q) (dp := 0) (n := nI (rs - q)) hx hb (hml.trans hl.1.symm) hown (hts _ mw134) (hts _ mw97) (hts _ mw98) (hts _ mw99) hE.K hW hS 0 0 hf_nums hf_nums rfl rfl (nI_pos (by omega)) (by decide) (nI_pos (by omega)) (by rw [nI_clamp (by omega), nI_clamp (by omega)]; omega) (by rw [nI_clamp (by omega), gi_c0]; omega) (Nat.le_of_ble_eq_true rfl) (Nat.le_of_ble_eq_true rfl) d_Row_removeOldest_27 (fun H locs hW hS => ?_)
      have hXn : gx_V G A lim sc E j n rs (gw_up Mw (A 2) 3 (.inl (G.2.1 0, 256, .inl (va_cpy f3o1 f3o1 (nI q : Int32).toNatClampNeg (0 : Int32).toNatClampNeg (nI (rs - q) : Int32).toNatClampNeg)))) := hX.up3 hf_nums
      have hPn : gp_S Mw (gw_up Mw (A 2) 3 (.inl (G.2.1 0, 256, .inl (va_cpy f3o1 f3o1 (nI q : Int32).toNatClampNeg (0 : Int32).toNatClampNeg (nI (rs - q) : Int32).toNatClampNeg)))) := gp_up hf_nums
      have hF2 : gw_fg (gw_out [1, 2, 3, 4, 5, 6, 7, 8, 9, 10, 11]) M (gw_up Mw (A 2) 3 (.inl (G.2.1 0, 256, .inl (va_cpy f3o1 f3o1 (nI q : Int32).toNatClampNeg (0 : Int32).toNatClampNeg (nI (rs - q) : Int32).toNatClampNeg)))) := gw_fg.up hF hf_nums (show ¬ ((gw_out [1, 2, 3, 4, 5, 6, 7, 8, 9, 10, 11]) 3) by decide) (show ¬ ((gw_out [1, 2, 3, 4, 5, 6, 7, 8, 9, 10, 11]) 3) by decide)
      obtain ⟨M3, eM3⟩ : ∃ z, z = gw_up Mw (A 2) 3 (.inl (G.2.1 0, 256, .inl (va_cpy f3o1 f3o1 (nI q : Int32).toNatClampNeg (0 : Int32).toNatClampNeg (nI (rs - q) : Int32).toNatClampNeg))) := ⟨_, rfl⟩
      replace hW : gw_P G.1 vwCl G.2.2.2 M3 H := by rw [eM3]; exact hW
      have hf_x : M3 (A 0) = some (1, .inr (0, [.int lim, .int sc, .int E, .ref (A 1), .ref (A 3), .ref (A 4), .ref (A 5), .ref (A 6), .int (nI gco1)])) := by rw [eM3]; exact gw_keep hf_x hf_nums (by decide)
      have hf_row : M3 (A 1) = some (2, .inr (1, [.ref (A 2), .int (nI rs)])) := by rw [eM3]; exact gw_keep hf_row hf_nums (by decide)
      have hf_gone : M3 (A 6) = some (8, .inl (G.2.1 0, 512, .inl f8o1)) := by rw [eM3]; exact gw_keep hf_gone hf_nums (by decide)
      have hf_nums : M3 (A 2) = some (3, .inl (G.2.1 0, 256, .inl (va_cpy f3o1 f3o1 (nI q : Int32).toNatClampNeg (0 : Int32).toNatClampNeg (nI (rs - q) : Int32).toNatClampNeg))) := by rw [eM3]; exact gw_up_self _ _ _ _
      rw [← eM3] at hF2
      rw [← eM3] at hXn hPn
      replace hX := hXn
      clear hXn hPn
      refine lv_aload_n hx hb d_Row_removeOldest_30 rfl (lv_at hl 1 rfl) ?_
      refine lv_iload_n hx hb d_Row_removeOldest_31 rfl (lv_at hl 0 rfl) ?_
      refine gw_put (ci := 1) (fs := [.ref (A 2), .int (nI rs)]) (v := .int (nI (rs - q))) (ty := .int) hx hb hts in_Row t_Row t_Row_ok n_Row hown hE.K hW hS hf_row rfl 1 (by decide) (hts _ mw43) (fun _ h9 => h9) rfl (by decide +kernel) rfl rfl (Nat.le_of_ble_eq_true rfl) d_Row_removeOldest_32 (fun H locs hW hS => ?_)
      have hXn : gx_V G A lim sc E j n (rs - q) (gw_up M3 (A 1) 2 (.inr (1, [.ref (A 2), .int (nI (rs - q))]))) := hX.up2 hf_row (by omega)
      have hPn : gp_S M3 (gw_up M3 (A 1) 2 (.inr (1, [.ref (A 2), .int (nI (rs - q))]))) := gp_up hf_row
      have hF4 : gw_fg (gw_out [1, 2, 3, 4, 5, 6, 7, 8, 9, 10, 11]) M (gw_up M3 (A 1) 2 (.inr (1, [.ref (A 2), .int (nI (rs - q))]))) := gw_fg.up hF2 hf_row (show ¬ ((gw_out [1, 2, 3, 4, 5, 6, 7, 8, 9, 10, 11]) 2) by decide) (show ¬ ((gw_out [1, 2, 3, 4, 5, 6, 7, 8, 9, 10, 11]) 2) by decide)
      obtain ⟨M5, eM5⟩ : ∃ z, z = gw_up M3 (A 1) 2 (.inr (1, [.ref (A 2), .int (nI (rs - q))])) := ⟨_, rfl⟩
      replace hW : gw_P G.1 vwCl G.2.2.2 M5 H := by rw [eM5]; exact hW
      have hf_x : M5 (A 0) = some (1, .inr (0, [.int lim, .int sc, .int E, .ref (A 1), .ref (A 3), .ref (A 4), .ref (A 5), .ref (A 6), .int (nI gco1)])) := by rw [eM5]; exact gw_keep hf_x hf_row (by decide)
      have hf_gone : M5 (A 6) = some (8, .inl (G.2.1 0, 512, .inl f8o1)) := by rw [eM5]; exact gw_keep hf_gone hf_row (by decide)
      have hf_nums : M5 (A 2) = some (3, .inl (G.2.1 0, 256, .inl (va_cpy f3o1 f3o1 (nI q : Int32).toNatClampNeg (0 : Int32).toNatClampNeg (nI (rs - q) : Int32).toNatClampNeg))) := by rw [eM5]; exact gw_keep hf_nums hf_row (by decide)
      have hf_row : M5 (A 1) = some (2, .inr (1, [.ref (A 2), .int (nI (rs - q))])) := by rw [eM5]; exact gw_up_self _ _ _ _
      rw [← eM5] at hF4
      rw [← eM5] at hXn hPn
      replace hX := hXn
      clear hXn hPn
      exact gw_vret hx hb hr hlocks hS hW (Nat.le_of_ble_eq_true rfl) (Nat.le_of_ble_eq_true rfl) d_Row_removeOldest_35 ⟨hX, hF4⟩
    · exact absurd (nI_pos' (by omega)) c12

set_option maxHeartbeats 4000000 in
set_option maxRecDepth 100000 in
theorem v_letGo (l : Launch) (G : gw_G) (M : gw_M) (A : Nat → Nat) (lim sc E : Int32) (j n rs : Nat) (hX : gx_V G A lim sc E j n rs M) (k : Int32) : Met l y_X_letGo [.code y_X_letGo b_X_letGo 3 none] ({ frames := 4, cells := 0, slots := 0, locals := 87 }) (gw_Pc G M [.ref (A 0), .int k]) (gw_Qv G (fun M2 => gx_V G A lim sc E j n rs M2 ∧ gw_fg (gw_out [1, 2, 3, 4, 5, 6, 7, 8, 9, 10, 11]) M M2)) 0 0 (gw_A G) := by
  refine gw_start (by decide) (Nat.le_of_ble_eq_true rfl) (fun p9 e9 s m b9 mt9 c9 hx hb hr hml hown hlocks hin hE hB hW ls hl => ?_)
  have hts := hE.ts ([.ref (A 0), .int k] : List Value).toArray
  have hl : lv_has ls 3 [(0, .ref (A 0)), (1, .int k)] := hl
  have hown : s.vm.findClass "Generations" = some m.cls := hown
  have hj9 := hX.jobs.le
  have hn9 := hX.known.le
  have hr9 := hX.rs256
  refine gw_gen (I := fun z => gx_V G A lim sc E j n rs z) (P := gw_out [1, 2, 3, 4, 5, 6, 7, 8, 9, 10, 11]) hX hW (fun H locs Mw hW hS hX hF => ?_)
  have hX : gx_V G A lim sc E j n rs Mw := hX
  refine lv_aload_n hx hb d_X_letGo_0 rfl (lv_at hl 0 rfl) ?_
  refine lv_iload_n hx hb d_X_letGo_1 rfl (lv_at hl 1 rfl) ?_
  obtain ⟨gco1, f3o1, f8o1, hf_x, hf_row, hf_nums, hf_gone, hgco1, hrso1, -, -, -, -⟩ := id hX
  refine gr_callr (va_runV (As := [.int k]) (rest := []) ⟨hx, hb, hml, hown, hts⟩ (r_find l G Mw A lim sc E j n hX.w k  ) (cwV 1 hts (gw_gv mw54 mw55 mw56 mw42 mw53) rfl rfl rfl (by decide +kernel) ⟨Nat.le_of_ble_eq_true rfl, Nat.le_of_ble_eq_true rfl⟩) (gw_pv hE hB hS hW rfl hf_x) rfl rfl hl.1 rfl (lv_room (Nat.le_of_ble_eq_true rfl)) d_X_letGo_2 ⟨Nat.le_of_ble_eq_true rfl, Nat.le_of_ble_eq_true rfl⟩) (fun r2 hw3 => ?_)
  refine lv_astore_n (lv' := [(2, .ref r2), (0, .ref (A 0)), (1, .int k)]) hx hb d_X_letGo_5 rfl hl (by decide) rfl (fun ls hl => ?_)
  refine lv_aload_n hx hb d_X_letGo_6 rfl (lv_at hl 0 rfl) ?_
  refine lv_aload_n hx hb d_X_letGo_7 rfl (lv_at hl 1 rfl) ?_
  refine gw_get (ci := 0) (fs := [.int lim, .int sc, .int E, .ref (A 1), .ref (A 3), .ref (A 4), .ref (A 5), .ref (A 6), .int (nI gco1)]) hx hb hts in_X hown hE.K hW hf_x rfl 1 (by decide) (hts _ mw135) (fun _ h9 => h9) rfl d_X_letGo_8 ?_
  refine lv_if_eq (tgt := 18) hx hb d_X_letGo_11 (by decide) (fun c11 => ?_) (fun c11 => ?_)
  · refine lv_iconst (v := 4) hx hb d_X_letGo_18 (by decide) ?_
    obtain ⟨u4v0, u4v1, u4v2, u4v3, u4v4, hf_u4⟩ := hX.g9 hw3
    refine gw_putN (ci := 2) (fs := [.int u4v0, .int u4v1, .int u4v2, .int u4v3, .int u4v4]) (v := .int 4) (ty := .int) hx hb hts in_Gen t_Gen t_Gen_ok n_Gen hown hE.K hW hS hf_u4 rfl 1 (by decide) (hts _ mw36) (fun _ h9 => h9) rfl (by decide +kernel) rfl rfl (Nat.le_of_ble_eq_true rfl) d_X_letGo_19 (fun H locs hW hS => ?_)
    have hXn : gx_V G A lim sc E j n rs (gw_up Mw r2 9 (.inr (2, [.int u4v0, .int 4, .int u4v2, .int u4v3, .int u4v4]))) := hX.up9 hf_u4
    have hPn : gp_S Mw (gw_up Mw r2 9 (.inr (2, [.int u4v0, .int 4, .int u4v2, .int u4v3, .int u4v4]))) := gp_up hf_u4
    have hF5 : gw_fg (gw_out [1, 2, 3, 4, 5, 6, 7, 8, 9, 10, 11]) M (gw_up Mw r2 9 (.inr (2, [.int u4v0, .int 4, .int u4v2, .int u4v3, .int u4v4]))) := gw_fg.up hF hf_u4 (show ¬ ((gw_out [1, 2, 3, 4, 5, 6, 7, 8, 9, 10, 11]) 9) by decide) (show ¬ ((gw_out [1, 2, 3, 4, 5, 6, 7, 8, 9, 10, 11]) 9) by decide)
    obtain ⟨M6, eM6⟩ : ∃ z, z = gw_up Mw r2 9 (.inr (2, [.int u4v0, .int 4, .int u4v2, .int u4v3, .int u4v4])) := ⟨_, rfl⟩
    replace hW : gw_P G.1 vwCl G.2.2.2 M6 H := by rw [eM6]; exact hW
    have hf_x : M6 (A 0) = some (1, .inr (0, [.int lim, .int sc, .int E, .ref (A 1), .ref (A 3), .ref (A 4), .ref (A 5), .ref (A 6), .int (nI gco1)])) := by rw [eM6]; exact gw_keep hf_x hf_u4 (by decide)
    have hf_row : M6 (A 1) = some (2, .inr (1, [.ref (A 2), .int (nI rs)])) := by rw [eM6]; exact gw_keep hf_row hf_u4 (by decide)
    have hf_nums : M6 (A 2) = some (3, .inl (G.2.1 0, 256, .inl f3o1)) := by rw [eM6]; exact gw_keep hf_nums hf_u4 (by decide)
    have hf_gone : M6 (A 6) = some (8, .inl (G.2.1 0, 512, .inl f8o1)) := by rw [eM6]; exact gw_keep hf_gone hf_u4 (by decide)
    have hf_u4 : M6 r2 = some (9, .inr (2, [.int u4v0, .int 4, .int u4v2, .int u4v3, .int u4v4])) := by rw [eM6]; exact gw_up_self _ _ _ _
    rw [← eM6] at hF5
    rw [← eM6] at hXn hPn
    replace hX := hXn
    replace hw3 := hPn _ _ hw3
    clear hXn hPn
    refine lv_aload_n hx hb d_X_letGo_22 rfl (lv_at hl 1 rfl) ?_
    refine gw_get (ci := 0) (fs := [.int lim, .int sc, .int E, .ref (A 1), .ref (A 3), .ref (A 4), .ref (A 5), .ref (A 6), .int (nI gco1)]) hx hb hts in_X hown hE.K hW hf_x rfl 8 (by decide) (hts _ mw51) (fun _ h9 => h9) rfl d_X_letGo_23 ?_
    refine lv_aload_n hx hb d_X_letGo_26 rfl (lv_at hl 1 rfl) ?_
    refine gw_get (ci := 0) (fs := [.int lim, .int sc, .int E, .ref (A 1), .ref (A 3), .ref (A 4), .ref (A 5), .ref (A 6), .int (nI gco1)]) hx hb hts in_X hown hE.K hW hf_x rfl 7 (by decide) (hts _ mw52) (fun _ h9 => h9) rfl d_X_letGo_27 ?_
    refine gw_alen (v := 512) hx hb hE.K hW 0 hf_gone rfl rfl d_X_letGo_30 ?_
    refine lv_icmp_ge (tgt := 54) hx hb d_X_letGo_31 (by decide) (fun c31 => ?_) (fun c31 => ?_)
    · exact gw_vret hx hb hr hlocks hS hW (Nat.le_of_ble_eq_true rfl) (Nat.le_of_ble_eq_true rfl) d_X_letGo_54 ⟨hX, hF5⟩
    · have hgl := gx_ltN (a := gco1) (b := 512) c31 (by omega) (by omega)
      refine lv_aload_n hx hb d_X_letGo_34 rfl (lv_at hl 1 rfl) ?_
      refine gw_get (ci := 0) (fs := [.int lim, .int sc, .int E, .ref (A 1), .ref (A 3), .ref (A 4), .ref (A 5), .ref (A 6), .int (nI gco1)]) hx hb hts in_X hown hE.K hW hf_x rfl 7 (by decide) (hts _ mw52) (fun _ h9 => h9) rfl d_X_letGo_35 ?_
      refine lv_aload_n hx hb d_X_letGo_38 rfl (lv_at hl 1 rfl) ?_
      refine gw_get (ci := 0) (fs := [.int lim, .int sc, .int E, .ref (A 1), .ref (A 3), .ref (A 4), .ref (A 5), .ref (A 6), .int (nI gco1)]) hx hb hts in_X hown hE.K hW hf_x rfl 8 (by decide) (hts _ mw51) (fun _ h9 => h9) rfl d_X_letGo_39 ?_
      refine lv_iload_n hx hb d_X_letGo_42 rfl (lv_at hl 2 rfl) ?_
      refine gw_iast (i := nI gco1) (x := k) hx hb hE.K hW hS 0 hf_gone rfl (vp_in_nI hgl (by omega)) d_X_letGo_43 (fun H locs hW hS => ?_)
      have hXn : gx_V G A lim sc E j n rs (gw_up M6 (A 6) 8 (.inl (G.2.1 0, 512, .inl (upd f8o1 (nI gco1 : Int32).toNatClampNeg k)))) := hX.up8 hf_gone
      have hPn : gp_S M6 (gw_up M6 (A 6) 8 (.inl (G.2.1 0, 512, .inl (upd f8o1 (nI gco1 : Int32).toNatClampNeg k)))) := gp_up hf_gone
      have hF7 : gw_fg (gw_out [1, 2, 3, 4, 5, 6, 7, 8, 9, 10, 11]) M (gw_up M6 (A 6) 8 (.inl (G.2.1 0, 512, .inl (upd f8o1 (nI gco1 : Int32).toNatClampNeg k)))) := gw_fg.up hF5 hf_gone (show ¬ ((gw_out [1, 2, 3, 4, 5, 6, 7, 8, 9, 10, 11]) 8) by decide) (show ¬ ((gw_out [1, 2, 3, 4, 5, 6, 7, 8, 9, 10, 11]) 8) by decide)
      obtain ⟨M8, eM8⟩ : ∃ z, z = gw_up M6 (A 6) 8 (.inl (G.2.1 0, 512, .inl (upd f8o1 (nI gco1 : Int32).toNatClampNeg k))) := ⟨_, rfl⟩
      replace hW : gw_P G.1 vwCl G.2.2.2 M8 H := by rw [eM8]; exact hW
      have hf_x : M8 (A 0) = some (1, .inr (0, [.int lim, .int sc, .int E, .ref (A 1), .ref (A 3), .ref (A 4), .ref (A 5), .ref (A 6), .int (nI gco1)])) := by rw [eM8]; exact gw_keep hf_x hf_gone (by decide)
      have hf_row : M8 (A 1) = some (2, .inr (1, [.ref (A 2), .int (nI rs)])) := by rw [eM8]; exact gw_keep hf_row hf_gone (by decide)
      have hf_nums : M8 (A 2) = some (3, .inl (G.2.1 0, 256, .inl f3o1)) := by rw [eM8]; exact gw_keep hf_nums hf_gone (by decide)
      have hf_u4 : M8 r2 = some (9, .inr (2, [.int u4v0, .int 4, .int u4v2, .int u4v3, .int u4v4])) := by rw [eM8]; exact gw_keep hf_u4 hf_gone (by decide)
      have hf_gone : M8 (A 6) = some (8, .inl (G.2.1 0, 512, .inl (upd f8o1 (nI gco1 : Int32).toNatClampNeg k))) := by rw [eM8]; exact gw_up_self _ _ _ _
      rw [← eM8] at hF7
      rw [← eM8] at hXn hPn
      replace hX := hXn
      replace hw3 := hPn _ _ hw3
      clear hXn hPn
      refine lv_aload_n hx hb d_X_letGo_44 rfl (lv_at hl 1 rfl) ?_
      refine lv_dup hx hb d_X_letGo_45 rfl ?_
      refine gw_get (ci := 0) (fs := [.int lim, .int sc, .int E, .ref (A 1), .ref (A 3), .ref (A 4), .ref (A 5), .ref (A 6), .int (nI gco1)]) hx hb hts in_X hown hE.K hW hf_x rfl 8 (by decide) (hts _ mw51) (fun _ h9 => h9) rfl d_X_letGo_46 ?_
      refine lv_iconst (v := 1) hx hb d_X_letGo_49 (by decide) ?_
      refine lv_iadd hx hb d_X_letGo_50 ?_
      refine W.eq (g2 := F0 m 51 ls [.int (nI (gco1 + 1)), .ref (A 0)]) (by rw [nI_1]) ?_
      refine gw_put (ci := 0) (fs := [.int lim, .int sc, .int E, .ref (A 1), .ref (A 3), .ref (A 4), .ref (A 5), .ref (A 6), .int (nI gco1)]) (v := .int (nI (gco1 + 1))) (ty := .int) hx hb hts in_X t_X t_X_ok n_X hown hE.K hW hS hf_x rfl 8 (by decide) (hts _ mw51) (fun _ h9 => h9) rfl (by decide +kernel) rfl rfl (Nat.le_of_ble_eq_true rfl) d_X_letGo_51 (fun H locs hW hS => ?_)
      have hXn : gx_V G A lim sc E j n rs (gw_up M8 (A 0) 1 (.inr (0, [.int lim, .int sc, .int E, .ref (A 1), .ref (A 3), .ref (A 4), .ref (A 5), .ref (A 6), .int (nI (gco1 + 1))]))) := hX.up1 hf_x (by omega)
      have hPn : gp_S M8 (gw_up M8 (A 0) 1 (.inr (0, [.int lim, .int sc, .int E, .ref (A 1), .ref (A 3), .ref (A 4), .ref (A 5), .ref (A 6), .int (nI (gco1 + 1))]))) := gp_up hf_x
      have hF9 : gw_fg (gw_out [1, 2, 3, 4, 5, 6, 7, 8, 9, 10, 11]) M (gw_up M8 (A 0) 1 (.inr (0, [.int lim, .int sc, .int E, .ref (A 1), .ref (A 3), .ref (A 4), .ref (A 5), .ref (A 6), .int (nI (gco1 + 1))]))) := gw_fg.up hF7 hf_x (show ¬ ((gw_out [1, 2, 3, 4, 5, 6, 7, 8, 9, 10, 11]) 1) by decide) (show ¬ ((gw_out [1, 2, 3, 4, 5, 6, 7, 8, 9, 10, 11]) 1) by decide)
      obtain ⟨M10, eM10⟩ : ∃ z, z = gw_up M8 (A 0) 1 (.inr (0, [.int lim, .int sc, .int E, .ref (A 1), .ref (A 3), .ref (A 4), .ref (A 5), .ref (A 6), .int (nI (gco1 + 1))])) := ⟨_, rfl⟩
      replace hW : gw_P G.1 vwCl G.2.2.2 M10 H := by rw [eM10]; exact hW
      have hf_row : M10 (A 1) = some (2, .inr (1, [.ref (A 2), .int (nI rs)])) := by rw [eM10]; exact gw_keep hf_row hf_x (by decide)
      have hf_nums : M10 (A 2) = some (3, .inl (G.2.1 0, 256, .inl f3o1)) := by rw [eM10]; exact gw_keep hf_nums hf_x (by decide)
      have hf_u4 : M10 r2 = some (9, .inr (2, [.int u4v0, .int 4, .int u4v2, .int u4v3, .int u4v4])) := by rw [eM10]; exact gw_keep hf_u4 hf_x (by decide)
      have hf_gone : M10 (A 6) = some (8, .inl (G.2.1 0, 512, .inl (upd f8o1 (nI gco1 : Int32).toNatClampNeg k))) := by rw [eM10]; exact gw_keep hf_gone hf_x (by decide)
      have hf_x : M10 (A 0) = some (1, .inr (0, [.int lim, .int sc, .int E, .ref (A 1), .ref (A 3), .ref (A 4), .ref (A 5), .ref (A 6), .int (nI (gco1 + 1))])) := by rw [eM10]; exact gw_up_self _ _ _ _
      rw [← eM10] at hF9
      rw [← eM10] at hXn hPn
      replace hX := hXn
      replace hw3 := hPn _ _ hw3
      clear hXn hPn
      exact gw_vret hx hb hr hlocks hS hW (Nat.le_of_ble_eq_true rfl) (Nat.le_of_ble_eq_true rfl) d_X_letGo_54 ⟨hX, hF9⟩
  · refine lv_iconst (v := 0) hx hb d_X_letGo_14 (by decide) ?_
    refine lv_goto (tgt := 19) hx hb d_X_letGo_15 (by decide) ?_
    obtain ⟨u11v0, u11v1, u11v2, u11v3, u11v4, hf_u11⟩ := hX.g9 hw3
    refine gw_putN (ci := 2) (fs := [.int u11v0, .int u11v1, .int u11v2, .int u11v3, .int u11v4]) (v := .int 0) (ty := .int) hx hb hts in_Gen t_Gen t_Gen_ok n_Gen hown hE.K hW hS hf_u11 rfl 1 (by decide) (hts _ mw36) (fun _ h9 => h9) rfl (by decide +kernel) rfl rfl (Nat.le_of_ble_eq_true rfl) d_X_letGo_19 (fun H locs hW hS => ?_)
    have hXn : gx_V G A lim sc E j n rs (gw_up Mw r2 9 (.inr (2, [.int u11v0, .int 0, .int u11v2, .int u11v3, .int u11v4]))) := hX.up9 hf_u11
    have hPn : gp_S Mw (gw_up Mw r2 9 (.inr (2, [.int u11v0, .int 0, .int u11v2, .int u11v3, .int u11v4]))) := gp_up hf_u11
    have hF12 : gw_fg (gw_out [1, 2, 3, 4, 5, 6, 7, 8, 9, 10, 11]) M (gw_up Mw r2 9 (.inr (2, [.int u11v0, .int 0, .int u11v2, .int u11v3, .int u11v4]))) := gw_fg.up hF hf_u11 (show ¬ ((gw_out [1, 2, 3, 4, 5, 6, 7, 8, 9, 10, 11]) 9) by decide) (show ¬ ((gw_out [1, 2, 3, 4, 5, 6, 7, 8, 9, 10, 11]) 9) by decide)
    obtain ⟨M13, eM13⟩ : ∃ z, z = gw_up Mw r2 9 (.inr (2, [.int u11v0, .int 0, .int u11v2, .int u11v3, .int u11v4])) := ⟨_, rfl⟩
    replace hW : gw_P G.1 vwCl G.2.2.2 M13 H := by rw [eM13]; exact hW
    have hf_x : M13 (A 0) = some (1, .inr (0, [.int lim, .int sc, .int E, .ref (A 1), .ref (A 3), .ref (A 4), .ref (A 5), .ref (A 6), .int (nI gco1)])) := by rw [eM13]; exact gw_keep hf_x hf_u11 (by decide)
    have hf_row : M13 (A 1) = some (2, .inr (1, [.ref (A 2), .int (nI rs)])) := by rw [eM13]; exact gw_keep hf_row hf_u11 (by decide)
    have hf_nums : M13 (A 2) = some (3, .inl (G.2.1 0, 256, .inl f3o1)) := by rw [eM13]; exact gw_keep hf_nums hf_u11 (by decide)
    have hf_gone : M13 (A 6) = some (8, .inl (G.2.1 0, 512, .inl f8o1)) := by rw [eM13]; exact gw_keep hf_gone hf_u11 (by decide)
    have hf_u11 : M13 r2 = some (9, .inr (2, [.int u11v0, .int 0, .int u11v2, .int u11v3, .int u11v4])) := by rw [eM13]; exact gw_up_self _ _ _ _
    rw [← eM13] at hF12
    rw [← eM13] at hXn hPn
    replace hX := hXn
    replace hw3 := hPn _ _ hw3
    clear hXn hPn
    refine lv_aload_n hx hb d_X_letGo_22 rfl (lv_at hl 1 rfl) ?_
    refine gw_get (ci := 0) (fs := [.int lim, .int sc, .int E, .ref (A 1), .ref (A 3), .ref (A 4), .ref (A 5), .ref (A 6), .int (nI gco1)]) hx hb hts in_X hown hE.K hW hf_x rfl 8 (by decide) (hts _ mw51) (fun _ h9 => h9) rfl d_X_letGo_23 ?_
    refine lv_aload_n hx hb d_X_letGo_26 rfl (lv_at hl 1 rfl) ?_
    refine gw_get (ci := 0) (fs := [.int lim, .int sc, .int E, .ref (A 1), .ref (A 3), .ref (A 4), .ref (A 5), .ref (A 6), .int (nI gco1)]) hx hb hts in_X hown hE.K hW hf_x rfl 7 (by decide) (hts _ mw52) (fun _ h9 => h9) rfl d_X_letGo_27 ?_
    refine gw_alen (v := 512) hx hb hE.K hW 0 hf_gone rfl rfl d_X_letGo_30 ?_
    refine lv_icmp_ge (tgt := 54) hx hb d_X_letGo_31 (by decide) (fun c31 => ?_) (fun c31 => ?_)
    · exact gw_vret hx hb hr hlocks hS hW (Nat.le_of_ble_eq_true rfl) (Nat.le_of_ble_eq_true rfl) d_X_letGo_54 ⟨hX, hF12⟩
    · have hgl := gx_ltN (a := gco1) (b := 512) c31 (by omega) (by omega)
      refine lv_aload_n hx hb d_X_letGo_34 rfl (lv_at hl 1 rfl) ?_
      refine gw_get (ci := 0) (fs := [.int lim, .int sc, .int E, .ref (A 1), .ref (A 3), .ref (A 4), .ref (A 5), .ref (A 6), .int (nI gco1)]) hx hb hts in_X hown hE.K hW hf_x rfl 7 (by decide) (hts _ mw52) (fun _ h9 => h9) rfl d_X_letGo_35 ?_
      refine lv_aload_n hx hb d_X_letGo_38 rfl (lv_at hl 1 rfl) ?_
      refine gw_get (ci := 0) (fs := [.int lim, .int sc, .int E, .ref (A 1), .ref (A 3), .ref (A 4), .ref (A 5), .ref (A 6), .int (nI gco1)]) hx hb hts in_X hown hE.K hW hf_x rfl 8 (by decide) (hts _ mw51) (fun _ h9 => h9) rfl d_X_letGo_39 ?_
      refine lv_iload_n hx hb d_X_letGo_42 rfl (lv_at hl 2 rfl) ?_
      refine gw_iast (i := nI gco1) (x := k) hx hb hE.K hW hS 0 hf_gone rfl (vp_in_nI hgl (by omega)) d_X_letGo_43 (fun H locs hW hS => ?_)
      have hXn : gx_V G A lim sc E j n rs (gw_up M13 (A 6) 8 (.inl (G.2.1 0, 512, .inl (upd f8o1 (nI gco1 : Int32).toNatClampNeg k)))) := hX.up8 hf_gone
      have hPn : gp_S M13 (gw_up M13 (A 6) 8 (.inl (G.2.1 0, 512, .inl (upd f8o1 (nI gco1 : Int32).toNatClampNeg k)))) := gp_up hf_gone
      have hF14 : gw_fg (gw_out [1, 2, 3, 4, 5, 6, 7, 8, 9, 10, 11]) M (gw_up M13 (A 6) 8 (.inl (G.2.1 0, 512, .inl (upd f8o1 (nI gco1 : Int32).toNatClampNeg k)))) := gw_fg.up hF12 hf_gone (show ¬ ((gw_out [1, 2, 3, 4, 5, 6, 7, 8, 9, 10, 11]) 8) by decide) (show ¬ ((gw_out [1, 2, 3, 4, 5, 6, 7, 8, 9, 10, 11]) 8) by decide)
      obtain ⟨M15, eM15⟩ : ∃ z, z = gw_up M13 (A 6) 8 (.inl (G.2.1 0, 512, .inl (upd f8o1 (nI gco1 : Int32).toNatClampNeg k))) := ⟨_, rfl⟩
      replace hW : gw_P G.1 vwCl G.2.2.2 M15 H := by rw [eM15]; exact hW
      have hf_x : M15 (A 0) = some (1, .inr (0, [.int lim, .int sc, .int E, .ref (A 1), .ref (A 3), .ref (A 4), .ref (A 5), .ref (A 6), .int (nI gco1)])) := by rw [eM15]; exact gw_keep hf_x hf_gone (by decide)
      have hf_row : M15 (A 1) = some (2, .inr (1, [.ref (A 2), .int (nI rs)])) := by rw [eM15]; exact gw_keep hf_row hf_gone (by decide)
      have hf_nums : M15 (A 2) = some (3, .inl (G.2.1 0, 256, .inl f3o1)) := by rw [eM15]; exact gw_keep hf_nums hf_gone (by decide)
      have hf_u11 : M15 r2 = some (9, .inr (2, [.int u11v0, .int 0, .int u11v2, .int u11v3, .int u11v4])) := by rw [eM15]; exact gw_keep hf_u11 hf_gone (by decide)
      have hf_gone : M15 (A 6) = some (8, .inl (G.2.1 0, 512, .inl (upd f8o1 (nI gco1 : Int32).toNatClampNeg k))) := by rw [eM15]; exact gw_up_self _ _ _ _
      rw [← eM15] at hF14
      rw [← eM15] at hXn hPn
      replace hX := hXn
      replace hw3 := hPn _ _ hw3
      clear hXn hPn
      refine lv_aload_n hx hb d_X_letGo_44 rfl (lv_at hl 1 rfl) ?_
      refine lv_dup hx hb d_X_letGo_45 rfl ?_
      refine gw_get (ci := 0) (fs := [.int lim, .int sc, .int E, .ref (A 1), .ref (A 3), .ref (A 4), .ref (A 5), .ref (A 6), .int (nI gco1)]) hx hb hts in_X hown hE.K hW hf_x rfl 8 (by decide) (hts _ mw51) (fun _ h9 => h9) rfl d_X_letGo_46 ?_
      refine lv_iconst (v := 1) hx hb d_X_letGo_49 (by decide) ?_
      refine lv_iadd hx hb d_X_letGo_50 ?_
      refine W.eq (g2 := F0 m 51 ls [.int (nI (gco1 + 1)), .ref (A 0)]) (by rw [nI_1]) ?_
      refine gw_put (ci := 0) (fs := [.int lim, .int sc, .int E, .ref (A 1), .ref (A 3), .ref (A 4), .ref (A 5), .ref (A 6), .int (nI gco1)]) (v := .int (nI (gco1 + 1))) (ty := .int) hx hb hts in_X t_X t_X_ok n_X hown hE.K hW hS hf_x rfl 8 (by decide) (hts _ mw51) (fun _ h9 => h9) rfl (by decide +kernel) rfl rfl (Nat.le_of_ble_eq_true rfl) d_X_letGo_51 (fun H locs hW hS => ?_)
      have hXn : gx_V G A lim sc E j n rs (gw_up M15 (A 0) 1 (.inr (0, [.int lim, .int sc, .int E, .ref (A 1), .ref (A 3), .ref (A 4), .ref (A 5), .ref (A 6), .int (nI (gco1 + 1))]))) := hX.up1 hf_x (by omega)
      have hPn : gp_S M15 (gw_up M15 (A 0) 1 (.inr (0, [.int lim, .int sc, .int E, .ref (A 1), .ref (A 3), .ref (A 4), .ref (A 5), .ref (A 6), .int (nI (gco1 + 1))]))) := gp_up hf_x
      have hF16 : gw_fg (gw_out [1, 2, 3, 4, 5, 6, 7, 8, 9, 10, 11]) M (gw_up M15 (A 0) 1 (.inr (0, [.int lim, .int sc, .int E, .ref (A 1), .ref (A 3), .ref (A 4), .ref (A 5), .ref (A 6), .int (nI (gco1 + 1))]))) := gw_fg.up hF14 hf_x (show ¬ ((gw_out [1, 2, 3, 4, 5, 6, 7, 8, 9, 10, 11]) 1) by decide) (show ¬ ((gw_out [1, 2, 3, 4, 5, 6, 7, 8, 9, 10, 11]) 1) by decide)
      obtain ⟨M17, eM17⟩ : ∃ z, z = gw_up M15 (A 0) 1 (.inr (0, [.int lim, .int sc, .int E, .ref (A 1), .ref (A 3), .ref (A 4), .ref (A 5), .ref (A 6), .int (nI (gco1 + 1))])) := ⟨_, rfl⟩
      replace hW : gw_P G.1 vwCl G.2.2.2 M17 H := by rw [eM17]; exact hW
      have hf_row : M17 (A 1) = some (2, .inr (1, [.ref (A 2), .int (nI rs)])) := by rw [eM17]; exact gw_keep hf_row hf_x (by decide)
      have hf_nums : M17 (A 2) = some (3, .inl (G.2.1 0, 256, .inl f3o1)) := by rw [eM17]; exact gw_keep hf_nums hf_x (by decide)
      have hf_u11 : M17 r2 = some (9, .inr (2, [.int u11v0, .int 0, .int u11v2, .int u11v3, .int u11v4])) := by rw [eM17]; exact gw_keep hf_u11 hf_x (by decide)
      have hf_gone : M17 (A 6) = some (8, .inl (G.2.1 0, 512, .inl (upd f8o1 (nI gco1 : Int32).toNatClampNeg k))) := by rw [eM17]; exact gw_keep hf_gone hf_x (by decide)
      have hf_x : M17 (A 0) = some (1, .inr (0, [.int lim, .int sc, .int E, .ref (A 1), .ref (A 3), .ref (A 4), .ref (A 5), .ref (A 6), .int (nI (gco1 + 1))])) := by rw [eM17]; exact gw_up_self _ _ _ _
      rw [← eM17] at hF16
      rw [← eM17] at hXn hPn
      replace hX := hXn
      replace hw3 := hPn _ _ hw3
      clear hXn hPn
      exact gw_vret hx hb hr hlocks hS hW (Nat.le_of_ble_eq_true rfl) (Nat.le_of_ble_eq_true rfl) d_X_letGo_54 ⟨hX, hF16⟩
end
section
abbrev b_X_holdToLimit : ByteArray := prog_1_method_23_code
abbrev y_X_holdToLimit : MethodName := ⟨"Generations", "holdToLimit", "()V"⟩
abbrev b_X_bringIntoRow : ByteArray := prog_1_method_22_code
abbrev y_X_bringIntoRow : MethodName := ⟨"Generations", "bringIntoRow", "(LGenerations$Generation;)V"⟩
abbrev b_X_placeFor : ByteArray := prog_1_method_18_code
abbrev y_X_placeFor : MethodName := ⟨"Generations", "placeFor", "(I)LGenerations$Generation;"⟩
abbrev b_X_catalogue : ByteArray := prog_1_method_2_code
abbrev y_X_catalogue : MethodName := ⟨"Generations", "catalogue", "(I)I"⟩
abbrev b_X_reclaim : ByteArray := prog_1_method_10_code
abbrev y_X_reclaim : MethodName := ⟨"Generations", "reclaim", "(I)I"⟩
abbrev b_X_empty : ByteArray := prog_1_method_11_code
abbrev y_X_empty : MethodName := ⟨"Generations", "empty", "(Z)I"⟩
set_option maxRecDepth 20000 in
theorem mw136 : (Cond.fieldLink "Generations" (48 : Nat) "Generations" "limit" "I") ∈ gw_N0 := gw_in (List.mem_append_right _ (gw_tm (i := 101) rfl))
set_option maxRecDepth 20000 in
theorem mw137 : (Cond.fieldLink "Generations" (155 : Nat) "Generations" "emptyRule" "Z") ∈ gw_N0 := gw_in (List.mem_append_right _ (gw_tm (i := 103) rfl))
set_option maxRecDepth 20000 in
theorem mw138 : (Cond.code ({ cls := "Generations$Row", name := "removeOldest", desc := "(I)V" } : Jvm.MethodName) prog_4_method_5_code (3 : Nat) (Option.none : Option Jvm.ClassFile.FieldType)) ∈ gw_N0 := gw_in (List.mem_append_right _ (gw_tm (i := 249) rfl))
set_option maxRecDepth 20000 in
theorem mw139 : (Cond.methodLinkNest "Generations" (178 : Nat) ({ cls := "Generations$Row", name := "removeOldest", desc := "(I)V" } : Jvm.MethodName) "Generations") ∈ gw_N0 := gw_in (List.mem_append_right _ (gw_tm (i := 246) rfl))
set_option maxRecDepth 20000 in
theorem mw140 : (Cond.instanceMethod ({ cls := "Generations$Row", name := "removeOldest", desc := "(I)V" } : Jvm.MethodName)) ∈ gw_N0 := gw_in (List.mem_append_right _ (gw_tm (i := 248) rfl))
set_option maxRecDepth 20000 in
theorem mw141 : (Cond.selects "Generations$Row" ⟨"Generations$Row", "removeOldest", "(I)V"⟩ ⟨"Generations$Row", "removeOldest", "(I)V"⟩) ∈ gw_N0 := gw_in (List.mem_append_left _ (List.mem_of_getElem? (i := 12) rfl))
set_option maxRecDepth 20000 in
theorem mw142 : (Cond.code ({ cls := "Generations", name := "letGo", desc := "(I)V" } : Jvm.MethodName) prog_1_method_24_code (3 : Nat) (Option.none : Option Jvm.ClassFile.FieldType)) ∈ gw_N0 := gw_in (List.mem_append_right _ (gw_tm (i := 245) rfl))
set_option maxRecDepth 20000 in
theorem mw143 : (Cond.methodLink "Generations" (175 : Nat) ({ cls := "Generations", name := "letGo", desc := "(I)V" } : Jvm.MethodName)) ∈ gw_N0 := gw_in (List.mem_append_right _ (gw_tm (i := 242) rfl))
set_option maxRecDepth 20000 in
theorem mw144 : (Cond.instanceMethod ({ cls := "Generations", name := "letGo", desc := "(I)V" } : Jvm.MethodName)) ∈ gw_N0 := gw_in (List.mem_append_right _ (gw_tm (i := 244) rfl))
set_option maxRecDepth 20000 in
theorem mw145 : (Cond.selects "Generations" ⟨"Generations", "letGo", "(I)V"⟩ ⟨"Generations", "letGo", "(I)V"⟩) ∈ gw_N0 := gw_in (List.mem_append_left _ (List.mem_of_getElem? (i := 11) rfl))
set_option maxRecDepth 20000 in
theorem mw146 : (Cond.code ({ cls := "Generations$Row", name := "put", desc := "(I)V" } : Jvm.MethodName) prog_4_method_4_code (3 : Nat) (Option.none : Option Jvm.ClassFile.FieldType)) ∈ gw_N0 := gw_in (List.mem_append_right _ (gw_tm (i := 227) rfl))
set_option maxRecDepth 20000 in
theorem mw147 : (Cond.methodLinkNest "Generations" (169 : Nat) ({ cls := "Generations$Row", name := "put", desc := "(I)V" } : Jvm.MethodName) "Generations") ∈ gw_N0 := gw_in (List.mem_append_right _ (gw_tm (i := 224) rfl))
set_option maxRecDepth 20000 in
theorem mw148 : (Cond.instanceMethod ({ cls := "Generations$Row", name := "put", desc := "(I)V" } : Jvm.MethodName)) ∈ gw_N0 := gw_in (List.mem_append_right _ (gw_tm (i := 226) rfl))
set_option maxRecDepth 20000 in
theorem mw149 : (Cond.selects "Generations$Row" ⟨"Generations$Row", "put", "(I)V"⟩ ⟨"Generations$Row", "put", "(I)V"⟩) ∈ gw_N0 := gw_in (List.mem_append_left _ (List.mem_of_getElem? (i := 8) rfl))
set_option maxRecDepth 20000 in
theorem mw150 : (Cond.code ({ cls := "Generations", name := "holdToLimit", desc := "()V" } : Jvm.MethodName) prog_1_method_23_code (3 : Nat) (Option.none : Option Jvm.ClassFile.FieldType)) ∈ gw_N0 := gw_in (List.mem_append_right _ (gw_tm (i := 237) rfl))
set_option maxRecDepth 20000 in
theorem mw151 : (Cond.methodLink "Generations" (172 : Nat) ({ cls := "Generations", name := "holdToLimit", desc := "()V" } : Jvm.MethodName)) ∈ gw_N0 := gw_in (List.mem_append_right _ (gw_tm (i := 234) rfl))
set_option maxRecDepth 20000 in
theorem mw152 : (Cond.instanceMethod ({ cls := "Generations", name := "holdToLimit", desc := "()V" } : Jvm.MethodName)) ∈ gw_N0 := gw_in (List.mem_append_right _ (gw_tm (i := 236) rfl))
set_option maxRecDepth 20000 in
theorem mw153 : (Cond.selects "Generations" ⟨"Generations", "holdToLimit", "()V"⟩ ⟨"Generations", "holdToLimit", "()V"⟩) ∈ gw_N0 := gw_in (List.mem_append_left _ (List.mem_of_getElem? (i := 9) rfl))
set_option maxRecDepth 20000 in
theorem mw154 : (Cond.instantiable "Generations$Generation" (5 : Nat)) ∈ gw_N0 := gw_in (List.mem_append_right _ (gw_tm (i := 69) rfl))
set_option maxRecDepth 20000 in
theorem mw155 : (Cond.code ({ cls := "Generations$Generation", name := "<init>", desc := "(I)V" } : Jvm.MethodName) prog_2_method_1_code (2 : Nat) (Option.none : Option Jvm.ClassFile.FieldType)) ∈ gw_N0 := gw_in (List.mem_append_right _ (gw_tm (i := 72) rfl))
set_option maxRecDepth 20000 in
theorem mw156 : (Cond.methodLinkNest "Generations" (28 : Nat) ({ cls := "Generations$Generation", name := "<init>", desc := "(I)V" } : Jvm.MethodName) "Generations") ∈ gw_N0 := gw_in (List.mem_append_right _ (gw_tm (i := 70) rfl))
set_option maxRecDepth 20000 in
theorem mw157 : (Cond.instanceMethod ({ cls := "Generations$Generation", name := "<init>", desc := "(I)V" } : Jvm.MethodName)) ∈ gw_N0 := gw_in (List.mem_append_right _ (gw_tm (i := 71) rfl))
set_option maxRecDepth 20000 in
theorem mw158 : (Cond.code ({ cls := "java/util/ArrayList", name := "add", desc := "(Ljava/lang/Object;)Z" } : Jvm.MethodName) prog_19_method_25_code (2 : Nat) (Option.some Jvm.ClassFile.FieldType.boolean)) ∈ gw_N0 := gw_in (List.mem_append_right _ (gw_tm (i := 169) rfl))
set_option maxRecDepth 20000 in
theorem mw159 : (Cond.methodLink "Generations" (96 : Nat) ({ cls := "java/util/ArrayList", name := "add", desc := "(Ljava/lang/Object;)Z" } : Jvm.MethodName)) ∈ gw_N0 := gw_in (List.mem_append_right _ (gw_tm (i := 166) rfl))
set_option maxRecDepth 20000 in
theorem mw160 : (Cond.instanceMethod ({ cls := "java/util/ArrayList", name := "add", desc := "(Ljava/lang/Object;)Z" } : Jvm.MethodName)) ∈ gw_N0 := gw_in (List.mem_append_right _ (gw_tm (i := 167) rfl))
set_option maxRecDepth 20000 in
theorem mw161 : (Cond.selects "java/util/ArrayList" ({ cls := "java/util/ArrayList", name := "add", desc := "(Ljava/lang/Object;)Z" } : Jvm.MethodName) ({ cls := "java/util/ArrayList", name := "add", desc := "(Ljava/lang/Object;)Z" } : Jvm.MethodName)) ∈ gw_N0 := gw_in (List.mem_append_right _ (gw_tm (i := 168) rfl))
set_option maxRecDepth 20000 in
theorem mw162 : (Cond.methodLinkNest "Generations" (67 : Nat) ({ cls := "Generations$Generation", name := "isDeferred", desc := "()Z" } : Jvm.MethodName) "Generations") ∈ gw_N0 := gw_in (List.mem_append_right _ (gw_tm (i := 158) rfl))
set_option maxRecDepth 20000 in
theorem mw163 : (Cond.code ({ cls := "Generations", name := "bringIntoRow", desc := "(LGenerations$Generation;)V" } : Jvm.MethodName) prog_1_method_22_code (2 : Nat) (Option.none : Option Jvm.ClassFile.FieldType)) ∈ gw_N0 := gw_in (List.mem_append_right _ (gw_tm (i := 223) rfl))
set_option maxRecDepth 20000 in
theorem mw164 : (Cond.methodLink "Generations" (77 : Nat) ({ cls := "Generations", name := "bringIntoRow", desc := "(LGenerations$Generation;)V" } : Jvm.MethodName)) ∈ gw_N0 := gw_in (List.mem_append_right _ (gw_tm (i := 220) rfl))
set_option maxRecDepth 20000 in
theorem mw165 : (Cond.instanceMethod ({ cls := "Generations", name := "bringIntoRow", desc := "(LGenerations$Generation;)V" } : Jvm.MethodName)) ∈ gw_N0 := gw_in (List.mem_append_right _ (gw_tm (i := 222) rfl))
set_option maxRecDepth 20000 in
theorem mw166 : (Cond.selects "Generations" ⟨"Generations", "bringIntoRow", "(LGenerations$Generation;)V"⟩ ⟨"Generations", "bringIntoRow", "(LGenerations$Generation;)V"⟩) ∈ gw_N0 := gw_in (List.mem_append_left _ (List.mem_of_getElem? (i := 7) rfl))
set_option maxRecDepth 20000 in
theorem mw167 : (Cond.code ({ cls := "Generations", name := "placeFor", desc := "(I)LGenerations$Generation;" } : Jvm.MethodName) prog_1_method_18_code (3 : Nat) (Option.some (Jvm.ClassFile.FieldType.object "Generations$Generation"))) ∈ gw_N0 := gw_in (List.mem_append_right _ (gw_tm (i := 165) rfl))
set_option maxRecDepth 20000 in
theorem mw168 : (Cond.methodLink "Generations" (71 : Nat) ({ cls := "Generations", name := "placeFor", desc := "(I)LGenerations$Generation;" } : Jvm.MethodName)) ∈ gw_N0 := gw_in (List.mem_append_right _ (gw_tm (i := 162) rfl))
set_option maxRecDepth 20000 in
theorem mw169 : (Cond.instanceMethod ({ cls := "Generations", name := "placeFor", desc := "(I)LGenerations$Generation;" } : Jvm.MethodName)) ∈ gw_N0 := gw_in (List.mem_append_right _ (gw_tm (i := 164) rfl))
set_option maxRecDepth 20000 in
theorem mw170 : (Cond.selects "Generations" ⟨"Generations", "placeFor", "(I)LGenerations$Generation;"⟩ ⟨"Generations", "placeFor", "(I)LGenerations$Generation;"⟩) ∈ gw_N0 := gw_in (List.mem_append_left _ (List.mem_of_getElem? (i := 2) rfl))
set_option maxRecDepth 20000 in
theorem mw171 : (Cond.code ({ cls := "Generations$Generation", name := "beginAnew", desc := "(I)V" } : Jvm.MethodName) prog_2_method_2_code (2 : Nat) (Option.none : Option Jvm.ClassFile.FieldType)) ∈ gw_N0 := gw_in (List.mem_append_right _ (gw_tm (i := 219) rfl))
set_option maxRecDepth 20000 in
theorem mw172 : (Cond.methodLinkNest "Generations" (74 : Nat) ({ cls := "Generations$Generation", name := "beginAnew", desc := "(I)V" } : Jvm.MethodName) "Generations") ∈ gw_N0 := gw_in (List.mem_append_right _ (gw_tm (i := 216) rfl))
set_option maxRecDepth 20000 in
theorem mw173 : (Cond.instanceMethod ({ cls := "Generations$Generation", name := "beginAnew", desc := "(I)V" } : Jvm.MethodName)) ∈ gw_N0 := gw_in (List.mem_append_right _ (gw_tm (i := 218) rfl))
set_option maxRecDepth 20000 in
theorem mw174 : (Cond.selects "Generations$Generation" ⟨"Generations$Generation", "beginAnew", "(I)V"⟩ ⟨"Generations$Generation", "beginAnew", "(I)V"⟩) ∈ gw_N0 := gw_in (List.mem_append_left _ (List.mem_of_getElem? (i := 6) rfl))
end
section
theorem d_X_holdToLimit_0 : decode b_X_holdToLimit 0 = .ok (.aload_n 0, 1) := by decide +kernel
theorem d_X_holdToLimit_1 : decode b_X_holdToLimit 1 = .ok (.getfield 10, 3) := by decide +kernel
theorem d_X_holdToLimit_4 : decode b_X_holdToLimit 4 = .ok (.getfield 81, 3) := by decide +kernel
theorem d_X_holdToLimit_7 : decode b_X_holdToLimit 7 = .ok (.aload_n 0, 1) := by decide +kernel
theorem d_X_holdToLimit_8 : decode b_X_holdToLimit 8 = .ok (.getfield 48, 3) := by decide +kernel
theorem d_X_holdToLimit_11 : decode b_X_holdToLimit 11 = .ok (.if_icmp .gt 4, 3) := by decide +kernel
theorem d_X_holdToLimit_15 : decode b_X_holdToLimit 15 = .ok (.aload_n 0, 1) := by decide +kernel
theorem d_X_holdToLimit_16 : decode b_X_holdToLimit 16 = .ok (.getfield 155, 3) := by decide +kernel
theorem d_X_holdToLimit_19 : decode b_X_holdToLimit 19 = .ok (.ifCond .eq 15, 3) := by decide +kernel
theorem d_X_holdToLimit_34 : decode b_X_holdToLimit 34 = .ok (.aload_n 0, 1) := by decide +kernel
theorem d_X_holdToLimit_35 : decode b_X_holdToLimit 35 = .ok (.getfield 10, 3) := by decide +kernel
theorem d_X_holdToLimit_38 : decode b_X_holdToLimit 38 = .ok (.getfield 81, 3) := by decide +kernel
theorem d_X_holdToLimit_41 : decode b_X_holdToLimit 41 = .ok (.aload_n 0, 1) := by decide +kernel
theorem d_X_holdToLimit_42 : decode b_X_holdToLimit 42 = .ok (.getfield 48, 3) := by decide +kernel
theorem d_X_holdToLimit_45 : decode b_X_holdToLimit 45 = .ok (.isub, 1) := by decide +kernel
theorem d_X_holdToLimit_46 : decode b_X_holdToLimit 46 = .ok (.istore_n 1, 1) := by decide +kernel
theorem d_X_holdToLimit_47 : decode b_X_holdToLimit 47 = .ok (.iconst 0, 1) := by decide +kernel
theorem d_X_holdToLimit_48 : decode b_X_holdToLimit 48 = .ok (.istore_n 2, 1) := by decide +kernel
theorem d_X_holdToLimit_49 : decode b_X_holdToLimit 49 = .ok (.iload_n 2, 1) := by decide +kernel
theorem d_X_holdToLimit_50 : decode b_X_holdToLimit 50 = .ok (.iload_n 1, 1) := by decide +kernel
theorem d_X_holdToLimit_51 : decode b_X_holdToLimit 51 = .ok (.if_icmp .ge 21, 3) := by decide +kernel
theorem d_X_holdToLimit_72 : decode b_X_holdToLimit 72 = .ok (.aload_n 0, 1) := by decide +kernel
theorem d_X_holdToLimit_73 : decode b_X_holdToLimit 73 = .ok (.getfield 10, 3) := by decide +kernel
theorem d_X_holdToLimit_76 : decode b_X_holdToLimit 76 = .ok (.iload_n 1, 1) := by decide +kernel
theorem d_X_holdToLimit_77 : decode b_X_holdToLimit 77 = .ok (.invokevirtual 178, 3) := by decide +kernel
theorem d_X_holdToLimit_80 : decode b_X_holdToLimit 80 = .ok (.return_, 1) := by decide +kernel
theorem d_X_holdToLimit_54 : decode b_X_holdToLimit 54 = .ok (.aload_n 0, 1) := by decide +kernel
theorem d_X_holdToLimit_55 : decode b_X_holdToLimit 55 = .ok (.aload_n 0, 1) := by decide +kernel
theorem d_X_holdToLimit_56 : decode b_X_holdToLimit 56 = .ok (.getfield 10, 3) := by decide +kernel
theorem d_X_holdToLimit_59 : decode b_X_holdToLimit 59 = .ok (.iload_n 2, 1) := by decide +kernel
theorem d_X_holdToLimit_60 : decode b_X_holdToLimit 60 = .ok (.invokevirtual 149, 3) := by decide +kernel
theorem d_X_holdToLimit_63 : decode b_X_holdToLimit 63 = .ok (.invokevirtual 175, 3) := by decide +kernel
theorem d_X_holdToLimit_66 : decode b_X_holdToLimit 66 = .ok (.iinc 2 1, 3) := by decide +kernel
theorem d_X_holdToLimit_69 : decode b_X_holdToLimit 69 = .ok (.goto (-20), 3) := by decide +kernel
theorem d_X_holdToLimit_22 : decode b_X_holdToLimit 22 = .ok (.aload_n 0, 1) := by decide +kernel
theorem d_X_holdToLimit_23 : decode b_X_holdToLimit 23 = .ok (.getfield 10, 3) := by decide +kernel
theorem d_X_holdToLimit_26 : decode b_X_holdToLimit 26 = .ok (.getfield 81, 3) := by decide +kernel
theorem d_X_holdToLimit_29 : decode b_X_holdToLimit 29 = .ok (.iconst 1, 1) := by decide +kernel
theorem d_X_holdToLimit_30 : decode b_X_holdToLimit 30 = .ok (.isub, 1) := by decide +kernel
theorem d_X_holdToLimit_31 : decode b_X_holdToLimit 31 = .ok (.goto 15, 3) := by decide +kernel
theorem d_X_holdToLimit_14 : decode b_X_holdToLimit 14 = .ok (.return_, 1) := by decide +kernel
theorem d_X_bringIntoRow_0 : decode b_X_bringIntoRow 0 = .ok (.aload_n 1, 1) := by decide +kernel
theorem d_X_bringIntoRow_1 : decode b_X_bringIntoRow 1 = .ok (.iconst 1, 1) := by decide +kernel
theorem d_X_bringIntoRow_2 : decode b_X_bringIntoRow 2 = .ok (.putfield 64, 3) := by decide +kernel
theorem d_X_bringIntoRow_5 : decode b_X_bringIntoRow 5 = .ok (.aload_n 0, 1) := by decide +kernel
theorem d_X_bringIntoRow_6 : decode b_X_bringIntoRow 6 = .ok (.getfield 10, 3) := by decide +kernel
theorem d_X_bringIntoRow_9 : decode b_X_bringIntoRow 9 = .ok (.aload_n 1, 1) := by decide +kernel
theorem d_X_bringIntoRow_10 : decode b_X_bringIntoRow 10 = .ok (.getfield 166, 3) := by decide +kernel
theorem d_X_bringIntoRow_13 : decode b_X_bringIntoRow 13 = .ok (.invokevirtual 169, 3) := by decide +kernel
theorem d_X_bringIntoRow_16 : decode b_X_bringIntoRow 16 = .ok (.aload_n 0, 1) := by decide +kernel
theorem d_X_bringIntoRow_17 : decode b_X_bringIntoRow 17 = .ok (.invokevirtual 172, 3) := by decide +kernel
theorem d_X_bringIntoRow_20 : decode b_X_bringIntoRow 20 = .ok (.return_, 1) := by decide +kernel
theorem d_X_placeFor_0 : decode b_X_placeFor 0 = .ok (.aload_n 0, 1) := by decide +kernel
theorem d_X_placeFor_1 : decode b_X_placeFor 1 = .ok (.iload_n 1, 1) := by decide +kernel
theorem d_X_placeFor_2 : decode b_X_placeFor 2 = .ok (.invokevirtual 60, 3) := by decide +kernel
theorem d_X_placeFor_5 : decode b_X_placeFor 5 = .ok (.astore_n 2, 1) := by decide +kernel
theorem d_X_placeFor_6 : decode b_X_placeFor 6 = .ok (.aload_n 2, 1) := by decide +kernel
theorem d_X_placeFor_7 : decode b_X_placeFor 7 = .ok (.getfield 166, 3) := by decide +kernel
theorem d_X_placeFor_10 : decode b_X_placeFor 10 = .ok (.iload_n 1, 1) := by decide +kernel
theorem d_X_placeFor_11 : decode b_X_placeFor 11 = .ok (.if_icmp .eq 21, 3) := by decide +kernel
theorem d_X_placeFor_32 : decode b_X_placeFor 32 = .ok (.aload_n 2, 1) := by decide +kernel
theorem d_X_placeFor_33 : decode b_X_placeFor 33 = .ok (.areturn, 1) := by decide +kernel
theorem d_X_placeFor_14 : decode b_X_placeFor 14 = .ok (.new 26, 3) := by decide +kernel
theorem d_X_placeFor_17 : decode b_X_placeFor 17 = .ok (.dup, 1) := by decide +kernel
theorem d_X_placeFor_18 : decode b_X_placeFor 18 = .ok (.iload_n 1, 1) := by decide +kernel
theorem d_X_placeFor_19 : decode b_X_placeFor 19 = .ok (.invokespecial 28, 3) := by decide +kernel
theorem d_X_placeFor_22 : decode b_X_placeFor 22 = .ok (.astore_n 2, 1) := by decide +kernel
theorem d_X_placeFor_23 : decode b_X_placeFor 23 = .ok (.aload_n 0, 1) := by decide +kernel
theorem d_X_placeFor_24 : decode b_X_placeFor 24 = .ok (.getfield 23, 3) := by decide +kernel
theorem d_X_placeFor_27 : decode b_X_placeFor 27 = .ok (.aload_n 2, 1) := by decide +kernel
theorem d_X_placeFor_28 : decode b_X_placeFor 28 = .ok (.invokevirtual 96, 3) := by decide +kernel
theorem d_X_placeFor_31 : decode b_X_placeFor 31 = .ok (.pop, 1) := by decide +kernel
theorem d_X_catalogue_0 : decode b_X_catalogue 0 = .ok (.iload_n 1, 1) := by decide +kernel
theorem d_X_catalogue_1 : decode b_X_catalogue 1 = .ok (.invokestatic 56, 3) := by decide +kernel
theorem d_X_catalogue_4 : decode b_X_catalogue 4 = .ok (.ifCond .ne 5, 3) := by decide +kernel
theorem d_X_catalogue_9 : decode b_X_catalogue 9 = .ok (.aload_n 0, 1) := by decide +kernel
theorem d_X_catalogue_10 : decode b_X_catalogue 10 = .ok (.iload_n 1, 1) := by decide +kernel
theorem d_X_catalogue_11 : decode b_X_catalogue 11 = .ok (.invokevirtual 60, 3) := by decide +kernel
theorem d_X_catalogue_14 : decode b_X_catalogue 14 = .ok (.astore_n 2, 1) := by decide +kernel
theorem d_X_catalogue_15 : decode b_X_catalogue 15 = .ok (.aload_n 2, 1) := by decide +kernel
theorem d_X_catalogue_16 : decode b_X_catalogue 16 = .ok (.getfield 64, 3) := by decide +kernel
theorem d_X_catalogue_19 : decode b_X_catalogue 19 = .ok (.iconst 1, 1) := by decide +kernel
theorem d_X_catalogue_20 : decode b_X_catalogue 20 = .ok (.if_icmp .eq 10, 3) := by decide +kernel
theorem d_X_catalogue_30 : decode b_X_catalogue 30 = .ok (.iconst (-1), 1) := by decide +kernel
theorem d_X_catalogue_31 : decode b_X_catalogue 31 = .ok (.ireturn, 1) := by decide +kernel
theorem d_X_catalogue_23 : decode b_X_catalogue 23 = .ok (.aload_n 2, 1) := by decide +kernel
theorem d_X_catalogue_24 : decode b_X_catalogue 24 = .ok (.invokevirtual 67, 3) := by decide +kernel
theorem d_X_catalogue_27 : decode b_X_catalogue 27 = .ok (.ifCond .eq 5, 3) := by decide +kernel
theorem d_X_catalogue_32 : decode b_X_catalogue 32 = .ok (.aload_n 2, 1) := by decide +kernel
theorem d_X_catalogue_33 : decode b_X_catalogue 33 = .ok (.getfield 64, 3) := by decide +kernel
theorem d_X_catalogue_36 : decode b_X_catalogue 36 = .ok (.ifCond .ne 14, 3) := by decide +kernel
theorem d_X_catalogue_50 : decode b_X_catalogue 50 = .ok (.aload_n 0, 1) := by decide +kernel
theorem d_X_catalogue_51 : decode b_X_catalogue 51 = .ok (.aload_n 2, 1) := by decide +kernel
theorem d_X_catalogue_52 : decode b_X_catalogue 52 = .ok (.invokevirtual 77, 3) := by decide +kernel
theorem d_X_catalogue_55 : decode b_X_catalogue 55 = .ok (.aload_n 0, 1) := by decide +kernel
theorem d_X_catalogue_56 : decode b_X_catalogue 56 = .ok (.getfield 10, 3) := by decide +kernel
theorem d_X_catalogue_59 : decode b_X_catalogue 59 = .ok (.getfield 81, 3) := by decide +kernel
theorem d_X_catalogue_62 : decode b_X_catalogue 62 = .ok (.ireturn, 1) := by decide +kernel
theorem d_X_catalogue_39 : decode b_X_catalogue 39 = .ok (.aload_n 0, 1) := by decide +kernel
theorem d_X_catalogue_40 : decode b_X_catalogue 40 = .ok (.iload_n 1, 1) := by decide +kernel
theorem d_X_catalogue_41 : decode b_X_catalogue 41 = .ok (.invokevirtual 71, 3) := by decide +kernel
theorem d_X_catalogue_44 : decode b_X_catalogue 44 = .ok (.astore_n 2, 1) := by decide +kernel
theorem d_X_catalogue_45 : decode b_X_catalogue 45 = .ok (.aload_n 2, 1) := by decide +kernel
theorem d_X_catalogue_46 : decode b_X_catalogue 46 = .ok (.iconst 0, 1) := by decide +kernel
theorem d_X_catalogue_47 : decode b_X_catalogue 47 = .ok (.invokevirtual 74, 3) := by decide +kernel
theorem d_X_catalogue_7 : decode b_X_catalogue 7 = .ok (.iconst (-1), 1) := by decide +kernel
theorem d_X_catalogue_8 : decode b_X_catalogue 8 = .ok (.ireturn, 1) := by decide +kernel
theorem d_X_reclaim_0 : decode b_X_reclaim 0 = .ok (.aload_n 0, 1) := by decide +kernel
theorem d_X_reclaim_1 : decode b_X_reclaim 1 = .ok (.iload_n 1, 1) := by decide +kernel
theorem d_X_reclaim_2 : decode b_X_reclaim 2 = .ok (.invokevirtual 60, 3) := by decide +kernel
theorem d_X_reclaim_5 : decode b_X_reclaim 5 = .ok (.astore_n 2, 1) := by decide +kernel
theorem d_X_reclaim_6 : decode b_X_reclaim 6 = .ok (.aload_n 2, 1) := by decide +kernel
theorem d_X_reclaim_7 : decode b_X_reclaim 7 = .ok (.getfield 64, 3) := by decide +kernel
theorem d_X_reclaim_10 : decode b_X_reclaim 10 = .ok (.iconst 3, 1) := by decide +kernel
theorem d_X_reclaim_11 : decode b_X_reclaim 11 = .ok (.if_icmp .eq 13, 3) := by decide +kernel
theorem d_X_reclaim_24 : decode b_X_reclaim 24 = .ok (.aload_n 2, 1) := by decide +kernel
theorem d_X_reclaim_25 : decode b_X_reclaim 25 = .ok (.dup, 1) := by decide +kernel
theorem d_X_reclaim_26 : decode b_X_reclaim 26 = .ok (.getfield 152, 3) := by decide +kernel
theorem d_X_reclaim_29 : decode b_X_reclaim 29 = .ok (.iconst 1, 1) := by decide +kernel
theorem d_X_reclaim_30 : decode b_X_reclaim 30 = .ok (.iadd, 1) := by decide +kernel
end
section
theorem d_X_reclaim_31 : decode b_X_reclaim 31 = .ok (.putfield 152, 3) := by decide +kernel
theorem d_X_reclaim_34 : decode b_X_reclaim 34 = .ok (.aload_n 0, 1) := by decide +kernel
theorem d_X_reclaim_35 : decode b_X_reclaim 35 = .ok (.aload_n 2, 1) := by decide +kernel
theorem d_X_reclaim_36 : decode b_X_reclaim 36 = .ok (.invokevirtual 77, 3) := by decide +kernel
theorem d_X_reclaim_39 : decode b_X_reclaim 39 = .ok (.iconst 1, 1) := by decide +kernel
theorem d_X_reclaim_40 : decode b_X_reclaim 40 = .ok (.ireturn, 1) := by decide +kernel
theorem d_X_reclaim_14 : decode b_X_reclaim 14 = .ok (.aload_n 2, 1) := by decide +kernel
theorem d_X_reclaim_15 : decode b_X_reclaim 15 = .ok (.getfield 64, 3) := by decide +kernel
theorem d_X_reclaim_18 : decode b_X_reclaim 18 = .ok (.iconst 4, 1) := by decide +kernel
theorem d_X_reclaim_19 : decode b_X_reclaim 19 = .ok (.if_icmp .eq 5, 3) := by decide +kernel
theorem d_X_reclaim_22 : decode b_X_reclaim 22 = .ok (.iconst 0, 1) := by decide +kernel
theorem d_X_reclaim_23 : decode b_X_reclaim 23 = .ok (.ireturn, 1) := by decide +kernel
theorem d_X_empty_0 : decode b_X_empty 0 = .ok (.aload_n 0, 1) := by decide +kernel
theorem d_X_empty_1 : decode b_X_empty 1 = .ok (.getfield 155, 3) := by decide +kernel
theorem d_X_empty_4 : decode b_X_empty 4 = .ok (.ifCond .eq 7, 3) := by decide +kernel
theorem d_X_empty_11 : decode b_X_empty 11 = .ok (.iconst 0, 1) := by decide +kernel
theorem d_X_empty_12 : decode b_X_empty 12 = .ok (.istore_n 2, 1) := by decide +kernel
theorem d_X_empty_13 : decode b_X_empty 13 = .ok (.aload_n 0, 1) := by decide +kernel
theorem d_X_empty_14 : decode b_X_empty 14 = .ok (.iload_n 1, 1) := by decide +kernel
theorem d_X_empty_15 : decode b_X_empty 15 = .ok (.putfield 155, 3) := by decide +kernel
theorem d_X_empty_18 : decode b_X_empty 18 = .ok (.iload_n 2, 1) := by decide +kernel
theorem d_X_empty_19 : decode b_X_empty 19 = .ok (.ireturn, 1) := by decide +kernel
theorem d_X_empty_7 : decode b_X_empty 7 = .ok (.iconst 1, 1) := by decide +kernel
theorem d_X_empty_8 : decode b_X_empty 8 = .ok (.goto 4, 3) := by decide +kernel
end
section
set_option maxHeartbeats 4000000 in
set_option maxRecDepth 100000 in
theorem v_hold (l : Launch) (G : gw_G) (M : gw_M) (A : Nat → Nat) (lim sc E : Int32) (j n rs : Nat) (hX : gx_V G A lim sc E j n rs M) (lm : Nat) (hlm : lim = nI lm) (hl1 : 1 ≤ lm) (hl2 : lm ≤ 255) : Met l y_X_holdToLimit [.code y_X_holdToLimit b_X_holdToLimit 3 none] ({ frames := 5, cells := 0, slots := 0, locals := 109 }) (gw_Pc G M [.ref (A 0)]) (gw_Qv G (fun M2 => ∃ rs2 : Nat, rs2 ≤ 255 ∧ gx_V G A lim sc E j n rs2 M2 ∧ gw_fg (gw_out [1, 2, 3, 4, 5, 6, 7, 8, 9, 10, 11]) M M2)) 0 0 (gw_A G) := by
  refine gw_start (by decide) (Nat.le_of_ble_eq_true rfl) (fun p9 e9 s m b9 mt9 c9 hx hb hr hml hown hlocks hin hE hB hW ls hl => ?_)
  have hts := hE.ts ([.ref (A 0)] : List Value).toArray
  have hl : lv_has ls 3 [(0, .ref (A 0))] := hl
  have hown : s.vm.findClass "Generations" = some m.cls := hown
  have hj9 := hX.jobs.le
  have hn9 := hX.known.le
  have hr9 := hX.rs256
  refine gw_gen (I := fun z => gx_V G A lim sc E j n rs z) (P := gw_out [1, 2, 3, 4, 5, 6, 7, 8, 9, 10, 11]) hX hW (fun H locs Mw hW hS hX hF => ?_)
  have hX : gx_V G A lim sc E j n rs Mw := hX
  refine lv_aload_n hx hb d_X_holdToLimit_0 rfl (lv_at hl 0 rfl) ?_
  obtain ⟨gco1, f3o1, f8o1, hf_x, hf_row, hf_nums, hf_gone, hgco1, hrso1, -, -, -, -⟩ := id hX
  refine gw_get (ci := 0) (fs := [.int lim, .int sc, .int E, .ref (A 1), .ref (A 3), .ref (A 4), .ref (A 5), .ref (A 6), .int (nI gco1)]) hx hb hts in_X hown hE.K hW hf_x rfl 3 (by decide) (hts _ mw45) (fun _ h9 => h9) rfl d_X_holdToLimit_1 ?_
  refine gw_getN (ci := 1) (fs := [.ref (A 2), .int (nI rs)]) hx hb hts in_Row hown hE.K hW hf_row rfl 1 (by decide) (hts _ mw61) (fun _ h9 => h9) rfl d_X_holdToLimit_4 ?_
  refine lv_aload_n hx hb d_X_holdToLimit_7 rfl (lv_at hl 0 rfl) ?_
  refine gw_get (ci := 0) (fs := [.int lim, .int sc, .int E, .ref (A 1), .ref (A 3), .ref (A 4), .ref (A 5), .ref (A 6), .int (nI gco1)]) hx hb hts in_X hown hE.K hW hf_x rfl 0 (by decide) (hts _ mw136) (fun _ h9 => h9) rfl d_X_holdToLimit_8 ?_
  refine lv_icmp_gt (tgt := 15) hx hb d_X_holdToLimit_11 (by decide) (fun c11 => ?_) (fun c11 => ?_)
  · have hgt := (nI_ltI (a := lm) (b := rs) (by omega) (by omega)).mp (by rw [← hlm]; exact c11)
    refine lv_aload_n hx hb d_X_holdToLimit_15 rfl (lv_at hl 0 rfl) ?_
    refine gw_get (ci := 0) (fs := [.int lim, .int sc, .int E, .ref (A 1), .ref (A 3), .ref (A 4), .ref (A 5), .ref (A 6), .int (nI gco1)]) hx hb hts in_X hown hE.K hW hf_x rfl 2 (by decide) (hts _ mw137) (fun _ h9 => h9) rfl d_X_holdToLimit_16 ?_
    refine lv_if_eq (tgt := 34) hx hb d_X_holdToLimit_19 (by decide) (fun c19 => ?_) (fun c19 => ?_)
    · refine lv_aload_n hx hb d_X_holdToLimit_34 rfl (lv_at hl 0 rfl) ?_
      refine gw_get (ci := 0) (fs := [.int lim, .int sc, .int E, .ref (A 1), .ref (A 3), .ref (A 4), .ref (A 5), .ref (A 6), .int (nI gco1)]) hx hb hts in_X hown hE.K hW hf_x rfl 3 (by decide) (hts _ mw45) (fun _ h9 => h9) rfl d_X_holdToLimit_35 ?_
      refine gw_getN (ci := 1) (fs := [.ref (A 2), .int (nI rs)]) hx hb hts in_Row hown hE.K hW hf_row rfl 1 (by decide) (hts _ mw61) (fun _ h9 => h9) rfl d_X_holdToLimit_38 ?_
      refine lv_aload_n hx hb d_X_holdToLimit_41 rfl (lv_at hl 0 rfl) ?_
      refine gw_get (ci := 0) (fs := [.int lim, .int sc, .int E, .ref (A 1), .ref (A 3), .ref (A 4), .ref (A 5), .ref (A 6), .int (nI gco1)]) hx hb hts in_X hown hE.K hW hf_x rfl 0 (by decide) (hts _ mw136) (fun _ h9 => h9) rfl d_X_holdToLimit_42 ?_
      refine lv_isub hx hb d_X_holdToLimit_45 ?_
      obtain ⟨go, hg1, hg2, hgo⟩ : ∃ z : Nat, 1 ≤ z ∧ z ≤ rs ∧ (nI rs) - lim = nI z := ⟨rs - lm, by omega, by omega, by rw [hlm, pk_sub (by omega)]⟩
      refine W.eq (g2 := F0 m 46 ls [.int (nI go)]) (by rw [hgo]) ?_
      refine lv_istore_n (lv' := [(1, .int (nI go)), (0, .ref (A 0))]) hx hb d_X_holdToLimit_46 rfl hl (by decide) rfl (fun ls hl => ?_)
      refine lv_iconst (v := 0) hx hb d_X_holdToLimit_47 (by decide) ?_
      refine lv_istore_n (lv' := [(2, .int 0), (1, .int (nI go)), (0, .ref (A 0))]) hx hb d_X_holdToLimit_48 rfl hl (by decide) rfl (fun ls hl => ?_)
      obtain ⟨k49, ek49⟩ : ∃ z : Nat, z = 0 := ⟨_, rfl⟩
      replace hl : lv_has ls 3 [(2, .int (nI k49)), (1, .int (nI go)), (0, .ref (A 0))] := by subst ek49; exact lv_sub hl [0, 1, 2] rfl
      have hk49 : k49 ≤ go := by omega
      clear ek49
      clear hf_x hf_row hf_nums hf_gone
      obtain ⟨n49, hn49⟩ : ∃ z : Nat, go - k49 < z := ⟨_, Nat.lt_succ_self _⟩
      induction n49 generalizing k49 ls H locs Mw with
      | zero => exact absurd hn49 (Nat.not_lt_zero _)
      | succ n49 ih49 =>
        refine lv_iload_n hx hb d_X_holdToLimit_49 rfl (lv_at hl 0 rfl) ?_
        refine lv_iload_n hx hb d_X_holdToLimit_50 rfl (lv_at hl 1 rfl) ?_
        refine lv_icmp_ge (tgt := 72) hx hb d_X_holdToLimit_51 (by decide) (fun c51 => ?_) (fun c51 => ?_)
        · refine lv_aload_n hx hb d_X_holdToLimit_72 rfl (lv_at hl 2 rfl) ?_
          obtain ⟨gco2, f3o2, f8o2, hf_x, hf_row, hf_nums, hf_gone, hgco2, hrso2, -, -, -, -⟩ := id hX
          refine gw_get (ci := 0) (fs := [.int lim, .int sc, .int E, .ref (A 1), .ref (A 3), .ref (A 4), .ref (A 5), .ref (A 6), .int (nI gco2)]) hx hb hts in_X hown hE.K hW hf_x rfl 3 (by decide) (hts _ mw45) (fun _ h9 => h9) rfl d_X_holdToLimit_73 ?_
          refine lv_iload_n hx hb d_X_holdToLimit_76 rfl (lv_at hl 1 rfl) ?_
          refine gw_callv hS (va_runVN (As := [.int (nI go)]) (rest := []) ⟨hx, hb, hml, hown, hts⟩ (v_removeOldest l G Mw A lim sc E j n rs hX go  (by omega)) ⟨va_cnB 1 hts (gw_g1 mw138) rfl rfl rfl (hE.nw mw139) (hts _ mw48) (by decide +kernel) ⟨Nat.le_of_ble_eq_true rfl, Nat.le_of_ble_eq_true rfl⟩, hts _ mw140, hts _ mw141⟩ (gw_pv hE hB hS hW rfl hf_row) rfl rfl hl.1 rfl (lv_room (Nat.le_of_ble_eq_true rfl)) d_X_holdToLimit_77 ⟨Nat.le_of_ble_eq_true rfl, Nat.le_of_ble_eq_true rfl⟩) (fun M4 H locs hw5 hW hS => ?_)
          obtain ⟨hX, hfr6⟩ := hw5
          have hF7 : gw_fg (gw_out [1, 2, 3, 4, 5, 6, 7, 8, 9, 10, 11]) M M4 := gw_fg.tr hF (gw_fg.wk hfr6 (by decide))
          clear hfr6
          exact gw_vret hx hb hr hlocks hS hW (Nat.le_of_ble_eq_true rfl) (Nat.le_of_ble_eq_true rfl) d_X_holdToLimit_80 ⟨rs - go, (by omega), hX, hF7⟩
        · have hlt := gx_ltN c51 (by omega) (by omega)
          refine lv_aload_n hx hb d_X_holdToLimit_54 rfl (lv_at hl 2 rfl) ?_
          refine lv_aload_n hx hb d_X_holdToLimit_55 rfl (lv_at hl 2 rfl) ?_
          obtain ⟨gco8, f3o8, f8o8, hf_x, hf_row, hf_nums, hf_gone, hgco8, hrso8, -, -, -, -⟩ := id hX
          refine gw_get (ci := 0) (fs := [.int lim, .int sc, .int E, .ref (A 1), .ref (A 3), .ref (A 4), .ref (A 5), .ref (A 6), .int (nI gco8)]) hx hb hts in_X hown hE.K hW hf_x rfl 3 (by decide) (hts _ mw45) (fun _ h9 => h9) rfl d_X_holdToLimit_56 ?_
          refine lv_iload_n hx hb d_X_holdToLimit_59 rfl (lv_at hl 0 rfl) ?_
          refine gr_calli (va_runVN (As := [.int (nI k49)]) (rest := [.ref (A 0)]) ⟨hx, hb, hml, hown, hts⟩ (r_at l G Mw A lim sc E j n hX.w (nI k49)  ) ⟨va_cnB 1 hts (gw_g1 mw46) rfl rfl rfl (hE.nw mw47) (hts _ mw48) (by decide +kernel) ⟨Nat.le_of_ble_eq_true rfl, Nat.le_of_ble_eq_true rfl⟩, hts _ mw49, hts _ mw50⟩ (gw_pv hE hB hS hW rfl hf_row) rfl rfl hl.1 rfl (lv_room (Nat.le_of_ble_eq_true rfl)) d_X_holdToLimit_60 ⟨Nat.le_of_ble_eq_true rfl, Nat.le_of_ble_eq_true rfl⟩) (fun r9 hw10 => ?_)
          refine gw_callv hS (va_runV (As := [.int r9]) (rest := []) ⟨hx, hb, hml, hown, hts⟩ (v_letGo l G Mw A lim sc E j n rs hX r9  ) (cwV 1 hts (gw_gv mw143 mw144 mw145 mw42 mw142) rfl rfl rfl (by decide +kernel) ⟨Nat.le_of_ble_eq_true rfl, Nat.le_of_ble_eq_true rfl⟩) (gw_pv hE hB hS hW rfl hf_x) rfl rfl hl.1 rfl (lv_room (Nat.le_of_ble_eq_true rfl)) d_X_holdToLimit_63 ⟨Nat.le_of_ble_eq_true rfl, Nat.le_of_ble_eq_true rfl⟩) (fun M12 H locs hw13 hW hS => ?_)
          obtain ⟨hX, hfr14⟩ := hw13
          have hF15 : gw_fg (gw_out [1, 2, 3, 4, 5, 6, 7, 8, 9, 10, 11]) M M12 := gw_fg.tr hF (gw_fg.wk hfr14 (by decide))
          clear hfr14
          refine lv_iinc (v := (nI k49) + 1) (lv' := [(2, .int ((nI k49) + 1)), (1, .int (nI go)), (0, .ref (A 0))]) hx hb d_X_holdToLimit_66 hl (k := 0) rfl rfl (by decide) rfl (fun ls hl => ?_)
          refine lv_goto (tgt := 49) hx hb d_X_holdToLimit_69 (by decide) ?_
          rw [nI_1] at hl
          apply ih49 (ls := ls) (k49 := k49 + 1) (H := H) (locs := locs) (Mw := M12) <;> first | exact lv_sub hl [0, 1, 2] rfl | exact hX | exact hW | exact hS | exact hF15 | omega | assumption
    · refine lv_aload_n hx hb d_X_holdToLimit_22 rfl (lv_at hl 0 rfl) ?_
      refine gw_get (ci := 0) (fs := [.int lim, .int sc, .int E, .ref (A 1), .ref (A 3), .ref (A 4), .ref (A 5), .ref (A 6), .int (nI gco1)]) hx hb hts in_X hown hE.K hW hf_x rfl 3 (by decide) (hts _ mw45) (fun _ h9 => h9) rfl d_X_holdToLimit_23 ?_
      refine gw_getN (ci := 1) (fs := [.ref (A 2), .int (nI rs)]) hx hb hts in_Row hown hE.K hW hf_row rfl 1 (by decide) (hts _ mw61) (fun _ h9 => h9) rfl d_X_holdToLimit_26 ?_
      refine lv_iconst (v := 1) hx hb d_X_holdToLimit_29 (by decide) ?_
      refine lv_isub hx hb d_X_holdToLimit_30 ?_
      refine lv_goto (tgt := 46) hx hb d_X_holdToLimit_31 (by decide) ?_
      obtain ⟨go, hg1, hg2, hgo⟩ : ∃ z : Nat, 1 ≤ z ∧ z ≤ rs ∧ (nI rs) - 1 = nI z := ⟨rs - 1, by omega, by omega, gx_pred (by omega)⟩
      refine W.eq (g2 := F0 m 46 ls [.int (nI go)]) (by rw [hgo]) ?_
      refine lv_istore_n (lv' := [(1, .int (nI go)), (0, .ref (A 0))]) hx hb d_X_holdToLimit_46 rfl hl (by decide) rfl (fun ls hl => ?_)
      refine lv_iconst (v := 0) hx hb d_X_holdToLimit_47 (by decide) ?_
      refine lv_istore_n (lv' := [(2, .int 0), (1, .int (nI go)), (0, .ref (A 0))]) hx hb d_X_holdToLimit_48 rfl hl (by decide) rfl (fun ls hl => ?_)
      obtain ⟨k49, ek49⟩ : ∃ z : Nat, z = 0 := ⟨_, rfl⟩
      replace hl : lv_has ls 3 [(2, .int (nI k49)), (1, .int (nI go)), (0, .ref (A 0))] := by subst ek49; exact lv_sub hl [0, 1, 2] rfl
      have hk49 : k49 ≤ go := by omega
      clear ek49
      clear hf_x hf_row hf_nums hf_gone
      obtain ⟨n49, hn49⟩ : ∃ z : Nat, go - k49 < z := ⟨_, Nat.lt_succ_self _⟩
      induction n49 generalizing k49 ls H locs Mw with
      | zero => exact absurd hn49 (Nat.not_lt_zero _)
      | succ n49 ih49 =>
        refine lv_iload_n hx hb d_X_holdToLimit_49 rfl (lv_at hl 0 rfl) ?_
        refine lv_iload_n hx hb d_X_holdToLimit_50 rfl (lv_at hl 1 rfl) ?_
        refine lv_icmp_ge (tgt := 72) hx hb d_X_holdToLimit_51 (by decide) (fun c51 => ?_) (fun c51 => ?_)
        · refine lv_aload_n hx hb d_X_holdToLimit_72 rfl (lv_at hl 2 rfl) ?_
          obtain ⟨gco16, f3o16, f8o16, hf_x, hf_row, hf_nums, hf_gone, hgco16, hrso16, -, -, -, -⟩ := id hX
          refine gw_get (ci := 0) (fs := [.int lim, .int sc, .int E, .ref (A 1), .ref (A 3), .ref (A 4), .ref (A 5), .ref (A 6), .int (nI gco16)]) hx hb hts in_X hown hE.K hW hf_x rfl 3 (by decide) (hts _ mw45) (fun _ h9 => h9) rfl d_X_holdToLimit_73 ?_
          refine lv_iload_n hx hb d_X_holdToLimit_76 rfl (lv_at hl 1 rfl) ?_
          refine gw_callv hS (va_runVN (As := [.int (nI go)]) (rest := []) ⟨hx, hb, hml, hown, hts⟩ (v_removeOldest l G Mw A lim sc E j n rs hX go  (by omega)) ⟨va_cnB 1 hts (gw_g1 mw138) rfl rfl rfl (hE.nw mw139) (hts _ mw48) (by decide +kernel) ⟨Nat.le_of_ble_eq_true rfl, Nat.le_of_ble_eq_true rfl⟩, hts _ mw140, hts _ mw141⟩ (gw_pv hE hB hS hW rfl hf_row) rfl rfl hl.1 rfl (lv_room (Nat.le_of_ble_eq_true rfl)) d_X_holdToLimit_77 ⟨Nat.le_of_ble_eq_true rfl, Nat.le_of_ble_eq_true rfl⟩) (fun M18 H locs hw19 hW hS => ?_)
          obtain ⟨hX, hfr20⟩ := hw19
          have hF21 : gw_fg (gw_out [1, 2, 3, 4, 5, 6, 7, 8, 9, 10, 11]) M M18 := gw_fg.tr hF (gw_fg.wk hfr20 (by decide))
          clear hfr20
          exact gw_vret hx hb hr hlocks hS hW (Nat.le_of_ble_eq_true rfl) (Nat.le_of_ble_eq_true rfl) d_X_holdToLimit_80 ⟨rs - go, (by omega), hX, hF21⟩
        · have hlt := gx_ltN c51 (by omega) (by omega)
          refine lv_aload_n hx hb d_X_holdToLimit_54 rfl (lv_at hl 2 rfl) ?_
          refine lv_aload_n hx hb d_X_holdToLimit_55 rfl (lv_at hl 2 rfl) ?_
          obtain ⟨gco22, f3o22, f8o22, hf_x, hf_row, hf_nums, hf_gone, hgco22, hrso22, -, -, -, -⟩ := id hX
          refine gw_get (ci := 0) (fs := [.int lim, .int sc, .int E, .ref (A 1), .ref (A 3), .ref (A 4), .ref (A 5), .ref (A 6), .int (nI gco22)]) hx hb hts in_X hown hE.K hW hf_x rfl 3 (by decide) (hts _ mw45) (fun _ h9 => h9) rfl d_X_holdToLimit_56 ?_
          refine lv_iload_n hx hb d_X_holdToLimit_59 rfl (lv_at hl 0 rfl) ?_
          refine gr_calli (va_runVN (As := [.int (nI k49)]) (rest := [.ref (A 0)]) ⟨hx, hb, hml, hown, hts⟩ (r_at l G Mw A lim sc E j n hX.w (nI k49)  ) ⟨va_cnB 1 hts (gw_g1 mw46) rfl rfl rfl (hE.nw mw47) (hts _ mw48) (by decide +kernel) ⟨Nat.le_of_ble_eq_true rfl, Nat.le_of_ble_eq_true rfl⟩, hts _ mw49, hts _ mw50⟩ (gw_pv hE hB hS hW rfl hf_row) rfl rfl hl.1 rfl (lv_room (Nat.le_of_ble_eq_true rfl)) d_X_holdToLimit_60 ⟨Nat.le_of_ble_eq_true rfl, Nat.le_of_ble_eq_true rfl⟩) (fun r23 hw24 => ?_)
          refine gw_callv hS (va_runV (As := [.int r23]) (rest := []) ⟨hx, hb, hml, hown, hts⟩ (v_letGo l G Mw A lim sc E j n rs hX r23  ) (cwV 1 hts (gw_gv mw143 mw144 mw145 mw42 mw142) rfl rfl rfl (by decide +kernel) ⟨Nat.le_of_ble_eq_true rfl, Nat.le_of_ble_eq_true rfl⟩) (gw_pv hE hB hS hW rfl hf_x) rfl rfl hl.1 rfl (lv_room (Nat.le_of_ble_eq_true rfl)) d_X_holdToLimit_63 ⟨Nat.le_of_ble_eq_true rfl, Nat.le_of_ble_eq_true rfl⟩) (fun M26 H locs hw27 hW hS => ?_)
          obtain ⟨hX, hfr28⟩ := hw27
          have hF29 : gw_fg (gw_out [1, 2, 3, 4, 5, 6, 7, 8, 9, 10, 11]) M M26 := gw_fg.tr hF (gw_fg.wk hfr28 (by decide))
          clear hfr28
          refine lv_iinc (v := (nI k49) + 1) (lv' := [(2, .int ((nI k49) + 1)), (1, .int (nI go)), (0, .ref (A 0))]) hx hb d_X_holdToLimit_66 hl (k := 0) rfl rfl (by decide) rfl (fun ls hl => ?_)
          refine lv_goto (tgt := 49) hx hb d_X_holdToLimit_69 (by decide) ?_
          rw [nI_1] at hl
          apply ih49 (ls := ls) (k49 := k49 + 1) (H := H) (locs := locs) (Mw := M26) <;> first | exact lv_sub hl [0, 1, 2] rfl | exact hX | exact hW | exact hS | exact hF29 | omega | assumption
  · have hle := gx_nlt (a := lm) (b := rs) (by rw [← hlm]; exact c11) (by omega) (by omega)
    exact gw_vret hx hb hr hlocks hS hW (Nat.le_of_ble_eq_true rfl) (Nat.le_of_ble_eq_true rfl) d_X_holdToLimit_14 ⟨rs, (by omega), hX, hF⟩

set_option maxHeartbeats 4000000 in
set_option maxRecDepth 100000 in
theorem v_bring (l : Launch) (G : gw_G) (M : gw_M) (A : Nat → Nat) (lim sc E : Int32) (j n rs : Nat) (hX : gx_V G A lim sc E j n rs M) (g : Nat) (lm : Nat) (hg_g : gp_R M 9 g) (hlm : lim = nI lm) (hl1 : 1 ≤ lm) (hl2 : lm ≤ 255) (h255 : rs ≤ 255) : Met l y_X_bringIntoRow [.code y_X_bringIntoRow b_X_bringIntoRow 2 none] ({ frames := 6, cells := 0, slots := 0, locals := 131 }) (gw_Pc G M [.ref (A 0), .ref g]) (gw_Qv G (fun M2 => ∃ rs2 : Nat, rs2 ≤ 255 ∧ gx_V G A lim sc E j n rs2 M2 ∧ gw_fg (gw_out [1, 2, 3, 4, 5, 6, 7, 8, 9, 10, 11]) M M2)) 0 0 (gw_A G) := by
  refine gw_start (by decide) (Nat.le_of_ble_eq_true rfl) (fun p9 e9 s m b9 mt9 c9 hx hb hr hml hown hlocks hin hE hB hW ls hl => ?_)
  have hts := hE.ts ([.ref (A 0), .ref g] : List Value).toArray
  have hl : lv_has ls 2 [(0, .ref (A 0)), (1, .ref g)] := hl
  have hown : s.vm.findClass "Generations" = some m.cls := hown
  have hj9 := hX.jobs.le
  have hn9 := hX.known.le
  have hr9 := hX.rs256
  refine gw_gen (I := fun z => gx_V G A lim sc E j n rs z) (P := gw_out [1, 2, 3, 4, 5, 6, 7, 8, 9, 10, 11]) hX hW (fun H locs Mw hW hS hX hF => ?_)
  have hX : gx_V G A lim sc E j n rs Mw := hX
  replace hg_g := hF.2 _ _ hg_g
  refine lv_aload_n hx hb d_X_bringIntoRow_0 rfl (lv_at hl 1 rfl) ?_
  refine lv_iconst (v := 1) hx hb d_X_bringIntoRow_1 (by decide) ?_
  obtain ⟨u1v0, u1v1, u1v2, u1v3, u1v4, hf_u1⟩ := hX.g9 hg_g
  refine gw_putN (ci := 2) (fs := [.int u1v0, .int u1v1, .int u1v2, .int u1v3, .int u1v4]) (v := .int 1) (ty := .int) hx hb hts in_Gen t_Gen t_Gen_ok n_Gen hown hE.K hW hS hf_u1 rfl 1 (by decide) (hts _ mw36) (fun _ h9 => h9) rfl (by decide +kernel) rfl rfl (Nat.le_of_ble_eq_true rfl) d_X_bringIntoRow_2 (fun H locs hW hS => ?_)
  have hXn : gx_V G A lim sc E j n rs (gw_up Mw g 9 (.inr (2, [.int u1v0, .int 1, .int u1v2, .int u1v3, .int u1v4]))) := hX.up9 hf_u1
  have hPn : gp_S Mw (gw_up Mw g 9 (.inr (2, [.int u1v0, .int 1, .int u1v2, .int u1v3, .int u1v4]))) := gp_up hf_u1
  have hF2 : gw_fg (gw_out [1, 2, 3, 4, 5, 6, 7, 8, 9, 10, 11]) M (gw_up Mw g 9 (.inr (2, [.int u1v0, .int 1, .int u1v2, .int u1v3, .int u1v4]))) := gw_fg.up hF hf_u1 (show ¬ ((gw_out [1, 2, 3, 4, 5, 6, 7, 8, 9, 10, 11]) 9) by decide) (show ¬ ((gw_out [1, 2, 3, 4, 5, 6, 7, 8, 9, 10, 11]) 9) by decide)
  obtain ⟨M3, eM3⟩ : ∃ z, z = gw_up Mw g 9 (.inr (2, [.int u1v0, .int 1, .int u1v2, .int u1v3, .int u1v4])) := ⟨_, rfl⟩
  replace hW : gw_P G.1 vwCl G.2.2.2 M3 H := by rw [eM3]; exact hW
  have hf_u1 : M3 g = some (9, .inr (2, [.int u1v0, .int 1, .int u1v2, .int u1v3, .int u1v4])) := by rw [eM3]; exact gw_up_self _ _ _ _
  rw [← eM3] at hF2
  rw [← eM3] at hXn hPn
  replace hX := hXn
  replace hg_g := hPn _ _ hg_g
  clear hXn hPn
  refine lv_aload_n hx hb d_X_bringIntoRow_5 rfl (lv_at hl 0 rfl) ?_
  obtain ⟨gco4, f3o4, f8o4, hf_x, hf_row, hf_nums, hf_gone, hgco4, hrso4, -, -, -, -⟩ := id hX
  refine gw_get (ci := 0) (fs := [.int lim, .int sc, .int E, .ref (A 1), .ref (A 3), .ref (A 4), .ref (A 5), .ref (A 6), .int (nI gco4)]) hx hb hts in_X hown hE.K hW hf_x rfl 3 (by decide) (hts _ mw45) (fun _ h9 => h9) rfl d_X_bringIntoRow_6 ?_
  refine lv_aload_n hx hb d_X_bringIntoRow_9 rfl (lv_at hl 1 rfl) ?_
  refine gw_getN (ci := 2) (fs := [.int u1v0, .int 1, .int u1v2, .int u1v3, .int u1v4]) hx hb hts in_Gen hown hE.K hW hf_u1 rfl 0 (by decide) (hts _ mw35) (fun _ h9 => h9) rfl d_X_bringIntoRow_10 ?_
  refine gw_callv hS (va_runVN (As := [.int u1v0]) (rest := []) ⟨hx, hb, hml, hown, hts⟩ (v_put l G M3 A lim sc E j n rs hX u1v0  (by omega)) ⟨va_cnB 1 hts (gw_g1 mw146) rfl rfl rfl (hE.nw mw147) (hts _ mw48) (by decide +kernel) ⟨Nat.le_of_ble_eq_true rfl, Nat.le_of_ble_eq_true rfl⟩, hts _ mw148, hts _ mw149⟩ (gw_pv hE hB hS hW rfl hf_row) rfl rfl hl.1 rfl (lv_room (Nat.le_of_ble_eq_true rfl)) d_X_bringIntoRow_13 ⟨Nat.le_of_ble_eq_true rfl, Nat.le_of_ble_eq_true rfl⟩) (fun M6 H locs hw7 hW hS => ?_)
  obtain ⟨hX, hfr8⟩ := hw7
  have hF9 : gw_fg (gw_out [1, 2, 3, 4, 5, 6, 7, 8, 9, 10, 11]) M M6 := gw_fg.tr hF2 (gw_fg.wk hfr8 (by decide))
  replace hg_g := hfr8.2 _ _ hg_g
  clear hfr8
  refine lv_aload_n hx hb d_X_bringIntoRow_16 rfl (lv_at hl 0 rfl) ?_
  obtain ⟨gco10, f3o10, f8o10, hf_x, hf_row, hf_nums, hf_gone, hgco10, hrso10, -, -, -, -⟩ := id hX
  refine gw_callv hS (va_runV (As := []) (rest := []) ⟨hx, hb, hml, hown, hts⟩ (v_hold l G M6 A lim sc E j n (rs + 1) hX lm  hlm (by omega) (by omega)) (cwV 0 hts (gw_gv mw151 mw152 mw153 mw42 mw150) rfl rfl rfl (by decide +kernel) ⟨Nat.le_of_ble_eq_true rfl, Nat.le_of_ble_eq_true rfl⟩) (gw_pv hE hB hS hW rfl hf_x) rfl rfl hl.1 rfl (lv_room (Nat.le_of_ble_eq_true rfl)) d_X_bringIntoRow_17 ⟨Nat.le_of_ble_eq_true rfl, Nat.le_of_ble_eq_true rfl⟩) (fun M12 H locs hw13 hW hS => ?_)
  obtain ⟨rs215, hb16, hX, hfr14⟩ := hw13
  have hF17 : gw_fg (gw_out [1, 2, 3, 4, 5, 6, 7, 8, 9, 10, 11]) M M12 := gw_fg.tr hF9 (gw_fg.wk hfr14 (by decide))
  replace hg_g := hfr14.2 _ _ hg_g
  clear hfr14
  exact gw_vret hx hb hr hlocks hS hW (Nat.le_of_ble_eq_true rfl) (Nat.le_of_ble_eq_true rfl) d_X_bringIntoRow_20 ⟨rs215, (by omega), hX, hF17⟩

set_option maxHeartbeats 4000000 in
set_option maxRecDepth 100000 in
theorem v_placeFor (l : Launch) (G : gw_G) (M : gw_M) (A : Nat → Nat) (lim sc E : Int32) (j n rs : Nat) (hX : gx_V G A lim sc E j n rs M) (k : Int32) (hn6 : n ≤ 600) : Met l y_X_placeFor [.code y_X_placeFor b_X_placeFor 3 (some (.object "Generations$Generation"))] ({ frames := 7, cells := 2, slots := 1005, locals := 221 }) (gw_Pc G M [.ref (A 0), .int k]) (gw_Qr G (fun r M2 => ∃ n2 : Nat, n2 ≤ n + 1 ∧ gp_R M2 9 r ∧ gx_V G A lim sc E j n2 rs M2 ∧ gw_fg (gw_out [1, 2, 3, 4, 5, 6, 7, 8, 9, 10, 11]) M M2)) 2 1005 (gw_A G) := by
  refine gw_start (by decide) (Nat.le_of_ble_eq_true rfl) (fun p9 e9 s m b9 mt9 c9 hx hb hr hml hown hlocks hin hE hB hW ls hl => ?_)
  have hts := hE.ts ([.ref (A 0), .int k] : List Value).toArray
  have hl : lv_has ls 3 [(0, .ref (A 0)), (1, .int k)] := hl
  have hown : s.vm.findClass "Generations" = some m.cls := hown
  have hj9 := hX.jobs.le
  have hn9 := hX.known.le
  have hr9 := hX.rs256
  refine gw_gen (I := fun z => gx_V G A lim sc E j n rs z) (P := gw_out [1, 2, 3, 4, 5, 6, 7, 8, 9, 10, 11]) hX hW (fun H locs Mw hW hS hX hF => ?_)
  have hX : gx_V G A lim sc E j n rs Mw := hX
  refine lv_aload_n hx hb d_X_placeFor_0 rfl (lv_at hl 0 rfl) ?_
  refine lv_iload_n hx hb d_X_placeFor_1 rfl (lv_at hl 1 rfl) ?_
  obtain ⟨gco1, f3o1, f8o1, hf_x, hf_row, hf_nums, hf_gone, hgco1, hrso1, -, -, -, -⟩ := id hX
  refine gr_callr (va_runV (As := [.int k]) (rest := []) ⟨hx, hb, hml, hown, hts⟩ (r_find l G Mw A lim sc E j n hX.w k  ) (cwV 1 hts (gw_gv mw54 mw55 mw56 mw42 mw53) rfl rfl rfl (by decide +kernel) ⟨Nat.le_of_ble_eq_true rfl, Nat.le_of_ble_eq_true rfl⟩) (gw_pv hE hB hS hW rfl hf_x) rfl rfl hl.1 rfl (lv_room (Nat.le_of_ble_eq_true rfl)) d_X_placeFor_2 ⟨Nat.le_of_ble_eq_true rfl, Nat.le_of_ble_eq_true rfl⟩) (fun r2 hw3 => ?_)
  refine lv_astore_n (lv' := [(2, .ref r2), (0, .ref (A 0)), (1, .int k)]) hx hb d_X_placeFor_5 rfl hl (by decide) rfl (fun ls hl => ?_)
  refine lv_aload_n hx hb d_X_placeFor_6 rfl (lv_at hl 0 rfl) ?_
  obtain ⟨u4v0, u4v1, u4v2, u4v3, u4v4, hf_u4⟩ := hX.g9 hw3
  refine gw_getN (ci := 2) (fs := [.int u4v0, .int u4v1, .int u4v2, .int u4v3, .int u4v4]) hx hb hts in_Gen hown hE.K hW hf_u4 rfl 0 (by decide) (hts _ mw35) (fun _ h9 => h9) rfl d_X_placeFor_7 ?_
  refine lv_iload_n hx hb d_X_placeFor_10 rfl (lv_at hl 2 rfl) ?_
  refine lv_icmp_eq (tgt := 32) hx hb d_X_placeFor_11 (by decide) (fun c11 => ?_) (fun c11 => ?_)
  · refine lv_aload_n hx hb d_X_placeFor_32 rfl (lv_at hl 0 rfl) ?_
    exact gw_aret hx hb hr hlocks (Or.inl ⟨_, rfl⟩) hS hW (Nat.le_of_ble_eq_true rfl) (Nat.le_of_ble_eq_true rfl) d_X_placeFor_33 ⟨n, (by omega), hw3, hX, hF⟩
  · refine gw_new (ci := 2) (fs := [.int 0, .int 0, .int 0, .int 0, .int 0]) hx hb hts in_Gen t_Gen t_Gen_ok hown (hts _ mw33) (hts _ mw154) (hts _ mw21) hE.K hW hS hB rfl (fun j hj => by rcases (show j = 0 ∨ j = 1 ∨ j = 2 ∨ j = 3 ∨ j = 4 by omega) with rfl | rfl | rfl | rfl | rfl <;> rfl) (Nat.le_of_ble_eq_true rfl) (Nat.le_of_ble_eq_true rfl) d_X_placeFor_14 9 (fun q5 H hq6 hW hS => ?_)
    refine W.widen (k := 1) (n := 5) (Nat.le_refl _) (Nat.le_refl _) ?_
    have hXn : gx_V G A lim sc E j n rs (gw_up Mw q5 9 (.inr (2, [.int 0, .int 0, .int 0, .int 0, .int 0]))) := hX.newp hq6 (hX.z.new hq6 (fun _ => ⟨0, 0, 0, 0, 0, rfl⟩) (fun q => absurd q (by decide)) (fun q => absurd q (by decide)))
    have hPn : gp_S Mw (gw_up Mw q5 9 (.inr (2, [.int 0, .int 0, .int 0, .int 0, .int 0]))) := gp_new hq6
    have hF7 : gw_fg (gw_out [1, 2, 3, 4, 5, 6, 7, 8, 9, 10, 11]) M (gw_up Mw q5 9 (.inr (2, [.int 0, .int 0, .int 0, .int 0, .int 0]))) := gw_fg.new hF hq6 (show ¬ ((gw_out [1, 2, 3, 4, 5, 6, 7, 8, 9, 10, 11]) 9) by decide)
    obtain ⟨M8, eM8⟩ : ∃ z, z = gw_up Mw q5 9 (.inr (2, [.int 0, .int 0, .int 0, .int 0, .int 0])) := ⟨_, rfl⟩
    replace hW : gw_P G.1 vwCl G.2.2.2 M8 H := by rw [eM8]; exact hW
    have hf_x : M8 (A 0) = some (1, .inr (0, [.int lim, .int sc, .int E, .ref (A 1), .ref (A 3), .ref (A 4), .ref (A 5), .ref (A 6), .int (nI gco1)])) := by rw [eM8]; exact gw_keepN hf_x hq6
    have hf_row : M8 (A 1) = some (2, .inr (1, [.ref (A 2), .int (nI rs)])) := by rw [eM8]; exact gw_keepN hf_row hq6
    have hf_nums : M8 (A 2) = some (3, .inl (G.2.1 0, 256, .inl f3o1)) := by rw [eM8]; exact gw_keepN hf_nums hq6
    have hf_gone : M8 (A 6) = some (8, .inl (G.2.1 0, 512, .inl f8o1)) := by rw [eM8]; exact gw_keepN hf_gone hq6
    have hf_u4 : M8 r2 = some (9, .inr (2, [.int u4v0, .int u4v1, .int u4v2, .int u4v3, .int u4v4])) := by rw [eM8]; exact gw_keepN hf_u4 hq6
    have hf_q5 : M8 q5 = some (9, .inr (2, [.int 0, .int 0, .int 0, .int 0, .int 0])) := by rw [eM8]; exact gw_up_self _ _ _ _
    rw [← eM8] at hF7
    rw [← eM8] at hXn hPn
    replace hX := hXn
    replace hw3 := hPn _ _ hw3
    clear hXn hPn
    have hp_q5 : gp_R M8 9 q5 := ⟨_, hf_q5⟩
    refine lv_dup hx hb d_X_placeFor_17 rfl ?_
    refine lv_iload_n hx hb d_X_placeFor_18 rfl (lv_at hl 2 rfl) ?_
    refine gw_callv hS (va_runIN (As := [.int k]) (rest := [.ref q5]) ⟨hx, hb, hml, hown, hts⟩ (v_genInit l G M8 A lim sc E j n rs hX q5 k hp_q5 ) ⟨va_cnB 1 hts (gw_g1 mw155) rfl rfl rfl (hE.nw mw156) (hts _ mw21) (by decide +kernel) ⟨Nat.le_of_ble_eq_true rfl, Nat.le_of_ble_eq_true rfl⟩, rfl, hts _ mw157⟩ (gw_ps hE hB hS hW) rfl rfl hl.1 rfl (lv_room (Nat.le_of_ble_eq_true rfl)) d_X_placeFor_19 ⟨Nat.le_of_ble_eq_true rfl, Nat.le_of_ble_eq_true rfl⟩) (fun M10 H locs hw11 hW hS => ?_)
    obtain ⟨hX, hfr12⟩ := hw11
    have hF13 : gw_fg (gw_out [1, 2, 3, 4, 5, 6, 7, 8, 9, 10, 11]) M M10 := gw_fg.tr hF7 (gw_fg.wk hfr12 (by decide))
    replace hw3 := hfr12.2 _ _ hw3
    replace hp_q5 := hfr12.2 _ _ hp_q5
    clear hfr12
    refine lv_astore_n (lv' := [(2, .ref q5), (0, .ref (A 0)), (1, .int k)]) hx hb d_X_placeFor_22 rfl hl (by decide) rfl (fun ls hl => ?_)
    refine lv_aload_n hx hb d_X_placeFor_23 rfl (lv_at hl 1 rfl) ?_
    obtain ⟨gco14, f3o14, f8o14, hf_x, hf_row, hf_nums, hf_gone, hgco14, hrso14, -, -, -, -⟩ := id hX
    refine gw_get (ci := 0) (fs := [.int lim, .int sc, .int E, .ref (A 1), .ref (A 3), .ref (A 4), .ref (A 5), .ref (A 6), .int (nI gco14)]) hx hb hts in_X hown hE.K hW hf_x rfl 5 (by decide) (hts _ mw23) (fun _ h9 => h9) rfl d_X_placeFor_24 ?_
    refine lv_aload_n hx hb d_X_placeFor_27 rfl (lv_at hl 0 rfl) ?_
    obtain ⟨u15v0, u15v1, u15v2, u15v3, u15v4, hf_u15⟩ := hX.g9 hp_q5
    obtain ⟨_, hc16⟩ := hX.known.cell
    refine gw_calli hS (va_runV (As := [.ref q5]) (rest := []) ⟨hx, hb, hml, hown, hts⟩ (s_addK l G M10 (A 4) n q5 u15v0 u15v1 u15v2 u15v3 u15v4 hX.known (by omega) (fun a e q => by obtain ⟨_, _, _, _, _, rfl⟩ := hX.z.1 a e q; exact ⟨_, rfl⟩) hf_u15) (cwV 1 hts (gw_gv mw159 mw160 mw161 mw14 mw158) rfl rfl rfl (by decide +kernel) ⟨Nat.le_of_ble_eq_true rfl, Nat.le_of_ble_eq_true rfl⟩) (gw_pv hE hB hS hW rfl hc16) rfl rfl hl.1 rfl (lv_room (Nat.le_of_ble_eq_true rfl)) d_X_placeFor_28 ⟨Nat.le_of_ble_eq_true rfl, Nat.le_of_ble_eq_true rfl⟩) (fun r17 M18 H locs hw19 hW hS => ?_)
    refine W.widen (k := 2) (n := 1005) (Nat.le_refl _) (Nat.le_refl _) ?_
    obtain ⟨rfl, hL21, hfr20⟩ := hw19
    replace hX : gx_V G A lim sc E j (n + 1) rs M18 := hX.addK hfr20.1 hfr20.2 hL21
    have hF22 : gw_fg (gw_out [1, 2, 3, 4, 5, 6, 7, 8, 9, 10, 11]) M M18 := gw_fg.tr hF13 (gw_fg.wk hfr20 (by decide))
    replace hw3 := hfr20.2 _ _ hw3
    replace hp_q5 := hfr20.2 _ _ hp_q5
    clear hfr20 hL21
    refine lv_pop hx hb d_X_placeFor_31 rfl ?_
    refine lv_aload_n hx hb d_X_placeFor_32 rfl (lv_at hl 0 rfl) ?_
    exact gw_aret hx hb hr hlocks (Or.inl ⟨_, rfl⟩) hS hW (Nat.le_of_ble_eq_true rfl) (Nat.le_of_ble_eq_true rfl) d_X_placeFor_33 ⟨n + 1, (by omega), hp_q5, hX, hF22⟩

set_option maxHeartbeats 4000000 in
set_option maxRecDepth 100000 in
theorem v_catalogue (l : Launch) (G : gw_G) (M : gw_M) (A : Nat → Nat) (lim sc E : Int32) (j n rs : Nat) (hX : gx_V G A lim sc E j n rs M) (k : Int32) (lm : Nat) (hlm : lim = nI lm) (hl1 : 1 ≤ lm) (hl2 : lm ≤ 255) (h255 : rs ≤ 255) (hn6 : n ≤ 600) : Met l y_X_catalogue [.code y_X_catalogue b_X_catalogue 3 (some .int)] ({ frames := 8, cells := 2, slots := 1005, locals := 243 }) (gw_Pc G M [.ref (A 0), .int k]) (gw_Qi G (fun r M2 => ∃ n2 : Nat, ∃ rs2 : Nat, n2 ≤ n + 1 ∧ rs2 ≤ 255 ∧ gx_V G A lim sc E j n2 rs2 M2 ∧ gw_fg (gw_out [1, 2, 3, 4, 5, 6, 7, 8, 9, 10, 11]) M M2)) 2 1005 (gw_A G) := by
  refine gw_start (by decide) (Nat.le_of_ble_eq_true rfl) (fun p9 e9 s m b9 mt9 c9 hx hb hr hml hown hlocks hin hE hB hW ls hl => ?_)
  have hts := hE.ts ([.ref (A 0), .int k] : List Value).toArray
  have hl : lv_has ls 3 [(0, .ref (A 0)), (1, .int k)] := hl
  have hown : s.vm.findClass "Generations" = some m.cls := hown
  have hj9 := hX.jobs.le
  have hn9 := hX.known.le
  have hr9 := hX.rs256
  refine gw_gen (I := fun z => gx_V G A lim sc E j n rs z) (P := gw_out [1, 2, 3, 4, 5, 6, 7, 8, 9, 10, 11]) hX hW (fun H locs Mw hW hS hX hF => ?_)
  have hX : gx_V G A lim sc E j n rs Mw := hX
  refine lv_iload_n hx hb d_X_catalogue_0 rfl (lv_at hl 1 rfl) ?_
  refine gr_calli (va_runS (As := [.int k]) (rest := []) ⟨hx, hb, hml, hown, hts⟩ (r_isNumber l G Mw k  ) (cwS 1 hts (gw_gs mw59 mw60 mw42 mw58) rfl rfl rfl (by decide +kernel) ⟨Nat.le_of_ble_eq_true rfl, Nat.le_of_ble_eq_true rfl⟩) (gw_ps hE hB hS hW) rfl rfl hl.1 rfl (lv_room (Nat.le_of_ble_eq_true rfl)) d_X_catalogue_1 ⟨Nat.le_of_ble_eq_true rfl, Nat.le_of_ble_eq_true rfl⟩) (fun r1 hw2 => ?_)
  refine lv_if_ne (tgt := 9) hx hb d_X_catalogue_4 (by decide) (fun c4 => ?_) (fun c4 => ?_)
  · refine lv_aload_n hx hb d_X_catalogue_9 rfl (lv_at hl 0 rfl) ?_
    refine lv_iload_n hx hb d_X_catalogue_10 rfl (lv_at hl 1 rfl) ?_
    obtain ⟨gco3, f3o3, f8o3, hf_x, hf_row, hf_nums, hf_gone, hgco3, hrso3, -, -, -, -⟩ := id hX
    refine gr_callr (va_runV (As := [.int k]) (rest := []) ⟨hx, hb, hml, hown, hts⟩ (r_find l G Mw A lim sc E j n hX.w k  ) (cwV 1 hts (gw_gv mw54 mw55 mw56 mw42 mw53) rfl rfl rfl (by decide +kernel) ⟨Nat.le_of_ble_eq_true rfl, Nat.le_of_ble_eq_true rfl⟩) (gw_pv hE hB hS hW rfl hf_x) rfl rfl hl.1 rfl (lv_room (Nat.le_of_ble_eq_true rfl)) d_X_catalogue_11 ⟨Nat.le_of_ble_eq_true rfl, Nat.le_of_ble_eq_true rfl⟩) (fun r4 hw5 => ?_)
    refine lv_astore_n (lv' := [(2, .ref r4), (0, .ref (A 0)), (1, .int k)]) hx hb d_X_catalogue_14 rfl hl (by decide) rfl (fun ls hl => ?_)
    refine lv_aload_n hx hb d_X_catalogue_15 rfl (lv_at hl 0 rfl) ?_
    obtain ⟨u6v0, u6v1, u6v2, u6v3, u6v4, hf_u6⟩ := hX.g9 hw5
    refine gw_getN (ci := 2) (fs := [.int u6v0, .int u6v1, .int u6v2, .int u6v3, .int u6v4]) hx hb hts in_Gen hown hE.K hW hf_u6 rfl 1 (by decide) (hts _ mw36) (fun _ h9 => h9) rfl d_X_catalogue_16 ?_
    refine lv_iconst (v := 1) hx hb d_X_catalogue_19 (by decide) ?_
    refine lv_icmp_eq (tgt := 30) hx hb d_X_catalogue_20 (by decide) (fun c20 => ?_) (fun c20 => ?_)
    · refine lv_iconst (v := -1) hx hb d_X_catalogue_30 (by decide) ?_
      exact gw_iret hx hb hr hlocks hS hW (Nat.le_of_ble_eq_true rfl) (Nat.le_of_ble_eq_true rfl) d_X_catalogue_31 ⟨n, rs, (by omega), (by omega), hX, hF⟩
    · refine lv_aload_n hx hb d_X_catalogue_23 rfl (lv_at hl 0 rfl) ?_
      refine gr_calli (va_runVN (As := []) (rest := []) ⟨hx, hb, hml, hown, hts⟩ (r_isDeferred l G Mw r4 u6v0 u6v1 u6v2 u6v3 u6v4 hf_u6 ) ⟨va_cnB 0 hts (gw_g1 mw17) rfl rfl rfl (hE.nw mw162) (hts _ mw21) (by decide +kernel) ⟨Nat.le_of_ble_eq_true rfl, Nat.le_of_ble_eq_true rfl⟩, hts _ mw19, hts _ mw20⟩ (gw_pv hE hB hS hW rfl hf_u6) rfl rfl hl.1 rfl (lv_room (Nat.le_of_ble_eq_true rfl)) d_X_catalogue_24 ⟨Nat.le_of_ble_eq_true rfl, Nat.le_of_ble_eq_true rfl⟩) (fun r7 hw8 => ?_)
      refine lv_if_eq (tgt := 32) hx hb d_X_catalogue_27 (by decide) (fun c27 => ?_) (fun c27 => ?_)
      · refine lv_aload_n hx hb d_X_catalogue_32 rfl (lv_at hl 0 rfl) ?_
        refine gw_getN (ci := 2) (fs := [.int u6v0, .int u6v1, .int u6v2, .int u6v3, .int u6v4]) hx hb hts in_Gen hown hE.K hW hf_u6 rfl 1 (by decide) (hts _ mw36) (fun _ h9 => h9) rfl d_X_catalogue_33 ?_
        refine lv_if_ne (tgt := 50) hx hb d_X_catalogue_36 (by decide) (fun c36 => ?_) (fun c36 => ?_)
        · refine lv_aload_n hx hb d_X_catalogue_50 rfl (lv_at hl 1 rfl) ?_
          refine lv_aload_n hx hb d_X_catalogue_51 rfl (lv_at hl 0 rfl) ?_
          refine gw_callv hS (va_runV (As := [.ref r4]) (rest := []) ⟨hx, hb, hml, hown, hts⟩ (v_bring l G Mw A lim sc E j n rs hX r4 lm hw5 hlm (by omega) (by omega) (by omega)) (cwV 1 hts (gw_gv mw164 mw165 mw166 mw42 mw163) rfl rfl rfl (by decide +kernel) ⟨Nat.le_of_ble_eq_true rfl, Nat.le_of_ble_eq_true rfl⟩) (gw_pv hE hB hS hW rfl hf_x) rfl rfl hl.1 rfl (lv_room (Nat.le_of_ble_eq_true rfl)) d_X_catalogue_52 ⟨Nat.le_of_ble_eq_true rfl, Nat.le_of_ble_eq_true rfl⟩) (fun M10 H locs hw11 hW hS => ?_)
          obtain ⟨rs213, hb14, hX, hfr12⟩ := hw11
          have hF15 : gw_fg (gw_out [1, 2, 3, 4, 5, 6, 7, 8, 9, 10, 11]) M M10 := gw_fg.tr hF (gw_fg.wk hfr12 (by decide))
          replace hw5 := hfr12.2 _ _ hw5
          clear hfr12
          refine lv_aload_n hx hb d_X_catalogue_55 rfl (lv_at hl 1 rfl) ?_
          obtain ⟨gco16, f3o16, f8o16, hf_x, hf_row, hf_nums, hf_gone, hgco16, hrso16, -, -, -, -⟩ := id hX
          refine gw_get (ci := 0) (fs := [.int lim, .int sc, .int E, .ref (A 1), .ref (A 3), .ref (A 4), .ref (A 5), .ref (A 6), .int (nI gco16)]) hx hb hts in_X hown hE.K hW hf_x rfl 3 (by decide) (hts _ mw45) (fun _ h9 => h9) rfl d_X_catalogue_56 ?_
          refine gw_getN (ci := 1) (fs := [.ref (A 2), .int (nI rs213)]) hx hb hts in_Row hown hE.K hW hf_row rfl 1 (by decide) (hts _ mw61) (fun _ h9 => h9) rfl d_X_catalogue_59 ?_
          exact gw_iret hx hb hr hlocks hS hW (Nat.le_of_ble_eq_true rfl) (Nat.le_of_ble_eq_true rfl) d_X_catalogue_62 ⟨n, rs213, (by omega), (by omega), hX, hF15⟩
        · refine lv_aload_n hx hb d_X_catalogue_39 rfl (lv_at hl 1 rfl) ?_
          refine lv_iload_n hx hb d_X_catalogue_40 rfl (lv_at hl 2 rfl) ?_
          refine gw_callr hS (va_runV (As := [.int k]) (rest := []) ⟨hx, hb, hml, hown, hts⟩ (v_placeFor l G Mw A lim sc E j n rs hX k  (by omega)) (cwV 1 hts (gw_gv mw168 mw169 mw170 mw42 mw167) rfl rfl rfl (by decide +kernel) ⟨Nat.le_of_ble_eq_true rfl, Nat.le_of_ble_eq_true rfl⟩) (gw_pv hE hB hS hW rfl hf_x) rfl rfl hl.1 rfl (lv_room (Nat.le_of_ble_eq_true rfl)) d_X_catalogue_41 ⟨Nat.le_of_ble_eq_true rfl, Nat.le_of_ble_eq_true rfl⟩) (fun r17 M18 H locs hw19 hW hS => ?_)
          refine W.widen (k := 2) (n := 1005) (Nat.le_refl _) (Nat.le_refl _) ?_
          obtain ⟨n221, hb22, hp_23, hX, hfr20⟩ := hw19
          have hF24 : gw_fg (gw_out [1, 2, 3, 4, 5, 6, 7, 8, 9, 10, 11]) M M18 := gw_fg.tr hF (gw_fg.wk hfr20 (by decide))
          replace hw5 := hfr20.2 _ _ hw5
          clear hfr20
          refine lv_astore_n (lv' := [(2, .ref r17), (0, .ref (A 0)), (1, .int k)]) hx hb d_X_catalogue_44 rfl hl (by decide) rfl (fun ls hl => ?_)
          refine lv_aload_n hx hb d_X_catalogue_45 rfl (lv_at hl 0 rfl) ?_
          refine lv_iconst (v := 0) hx hb d_X_catalogue_46 (by decide) ?_
          obtain ⟨u25v0, u25v1, u25v2, u25v3, u25v4, hf_u25⟩ := hX.g9 hp_23
          refine gw_callv hS (va_runVN (As := [.int 0]) (rest := []) ⟨hx, hb, hml, hown, hts⟩ (v_beginAnew l G M18 A lim sc E j n221 rs hX r17 0 hp_23 ) ⟨va_cnB 1 hts (gw_g1 mw171) rfl rfl rfl (hE.nw mw172) (hts _ mw21) (by decide +kernel) ⟨Nat.le_of_ble_eq_true rfl, Nat.le_of_ble_eq_true rfl⟩, hts _ mw173, hts _ mw174⟩ (gw_pv hE hB hS hW rfl hf_u25) rfl rfl hl.1 rfl (lv_room (Nat.le_of_ble_eq_true rfl)) d_X_catalogue_47 ⟨Nat.le_of_ble_eq_true rfl, Nat.le_of_ble_eq_true rfl⟩) (fun M27 H locs hw28 hW hS => ?_)
          obtain ⟨hX, hfr29⟩ := hw28
          have hF30 : gw_fg (gw_out [1, 2, 3, 4, 5, 6, 7, 8, 9, 10, 11]) M M27 := gw_fg.tr hF24 (gw_fg.wk hfr29 (by decide))
          replace hw5 := hfr29.2 _ _ hw5
          replace hp_23 := hfr29.2 _ _ hp_23
          clear hfr29
          refine lv_aload_n hx hb d_X_catalogue_50 rfl (lv_at hl 1 rfl) ?_
          refine lv_aload_n hx hb d_X_catalogue_51 rfl (lv_at hl 0 rfl) ?_
          obtain ⟨gco31, f3o31, f8o31, hf_x, hf_row, hf_nums, hf_gone, hgco31, hrso31, -, -, -, -⟩ := id hX
          refine gw_callv hS (va_runV (As := [.ref r17]) (rest := []) ⟨hx, hb, hml, hown, hts⟩ (v_bring l G M27 A lim sc E j n221 rs hX r17 lm hp_23 hlm (by omega) (by omega) (by omega)) (cwV 1 hts (gw_gv mw164 mw165 mw166 mw42 mw163) rfl rfl rfl (by decide +kernel) ⟨Nat.le_of_ble_eq_true rfl, Nat.le_of_ble_eq_true rfl⟩) (gw_pv hE hB hS hW rfl hf_x) rfl rfl hl.1 rfl (lv_room (Nat.le_of_ble_eq_true rfl)) d_X_catalogue_52 ⟨Nat.le_of_ble_eq_true rfl, Nat.le_of_ble_eq_true rfl⟩) (fun M33 H locs hw34 hW hS => ?_)
          obtain ⟨rs236, hb37, hX, hfr35⟩ := hw34
          have hF38 : gw_fg (gw_out [1, 2, 3, 4, 5, 6, 7, 8, 9, 10, 11]) M M33 := gw_fg.tr hF30 (gw_fg.wk hfr35 (by decide))
          replace hw5 := hfr35.2 _ _ hw5
          replace hp_23 := hfr35.2 _ _ hp_23
          clear hfr35
          refine lv_aload_n hx hb d_X_catalogue_55 rfl (lv_at hl 1 rfl) ?_
          obtain ⟨gco39, f3o39, f8o39, hf_x, hf_row, hf_nums, hf_gone, hgco39, hrso39, -, -, -, -⟩ := id hX
          refine gw_get (ci := 0) (fs := [.int lim, .int sc, .int E, .ref (A 1), .ref (A 3), .ref (A 4), .ref (A 5), .ref (A 6), .int (nI gco39)]) hx hb hts in_X hown hE.K hW hf_x rfl 3 (by decide) (hts _ mw45) (fun _ h9 => h9) rfl d_X_catalogue_56 ?_
          refine gw_getN (ci := 1) (fs := [.ref (A 2), .int (nI rs236)]) hx hb hts in_Row hown hE.K hW hf_row rfl 1 (by decide) (hts _ mw61) (fun _ h9 => h9) rfl d_X_catalogue_59 ?_
          exact gw_iret hx hb hr hlocks hS hW (Nat.le_of_ble_eq_true rfl) (Nat.le_of_ble_eq_true rfl) d_X_catalogue_62 ⟨n221, rs236, (by omega), (by omega), hX, hF38⟩
      · refine lv_iconst (v := -1) hx hb d_X_catalogue_30 (by decide) ?_
        exact gw_iret hx hb hr hlocks hS hW (Nat.le_of_ble_eq_true rfl) (Nat.le_of_ble_eq_true rfl) d_X_catalogue_31 ⟨n, rs, (by omega), (by omega), hX, hF⟩
  · refine lv_iconst (v := -1) hx hb d_X_catalogue_7 (by decide) ?_
    exact gw_iret hx hb hr hlocks hS hW (Nat.le_of_ble_eq_true rfl) (Nat.le_of_ble_eq_true rfl) d_X_catalogue_8 ⟨n, rs, (by omega), (by omega), hX, hF⟩

set_option maxHeartbeats 4000000 in
set_option maxRecDepth 100000 in
theorem v_reclaim (l : Launch) (G : gw_G) (M : gw_M) (A : Nat → Nat) (lim sc E : Int32) (j n rs : Nat) (hX : gx_V G A lim sc E j n rs M) (k : Int32) (lm : Nat) (hlm : lim = nI lm) (hl1 : 1 ≤ lm) (hl2 : lm ≤ 255) (h255 : rs ≤ 255) : Met l y_X_reclaim [.code y_X_reclaim b_X_reclaim 3 (some .int)] ({ frames := 7, cells := 0, slots := 0, locals := 152 }) (gw_Pc G M [.ref (A 0), .int k]) (gw_Qi G (fun r M2 => ∃ rs2 : Nat, rs2 ≤ 255 ∧ gx_V G A lim sc E j n rs2 M2 ∧ gw_fg (gw_out [1, 2, 3, 4, 5, 6, 7, 8, 9, 10, 11]) M M2)) 0 0 (gw_A G) := by
  refine gw_start (by decide) (Nat.le_of_ble_eq_true rfl) (fun p9 e9 s m b9 mt9 c9 hx hb hr hml hown hlocks hin hE hB hW ls hl => ?_)
  have hts := hE.ts ([.ref (A 0), .int k] : List Value).toArray
  have hl : lv_has ls 3 [(0, .ref (A 0)), (1, .int k)] := hl
  have hown : s.vm.findClass "Generations" = some m.cls := hown
  have hj9 := hX.jobs.le
  have hn9 := hX.known.le
  have hr9 := hX.rs256
  refine gw_gen (I := fun z => gx_V G A lim sc E j n rs z) (P := gw_out [1, 2, 3, 4, 5, 6, 7, 8, 9, 10, 11]) hX hW (fun H locs Mw hW hS hX hF => ?_)
  have hX : gx_V G A lim sc E j n rs Mw := hX
  refine lv_aload_n hx hb d_X_reclaim_0 rfl (lv_at hl 0 rfl) ?_
  refine lv_iload_n hx hb d_X_reclaim_1 rfl (lv_at hl 1 rfl) ?_
  obtain ⟨gco1, f3o1, f8o1, hf_x, hf_row, hf_nums, hf_gone, hgco1, hrso1, -, -, -, -⟩ := id hX
  refine gr_callr (va_runV (As := [.int k]) (rest := []) ⟨hx, hb, hml, hown, hts⟩ (r_find l G Mw A lim sc E j n hX.w k  ) (cwV 1 hts (gw_gv mw54 mw55 mw56 mw42 mw53) rfl rfl rfl (by decide +kernel) ⟨Nat.le_of_ble_eq_true rfl, Nat.le_of_ble_eq_true rfl⟩) (gw_pv hE hB hS hW rfl hf_x) rfl rfl hl.1 rfl (lv_room (Nat.le_of_ble_eq_true rfl)) d_X_reclaim_2 ⟨Nat.le_of_ble_eq_true rfl, Nat.le_of_ble_eq_true rfl⟩) (fun r2 hw3 => ?_)
  refine lv_astore_n (lv' := [(2, .ref r2), (0, .ref (A 0)), (1, .int k)]) hx hb d_X_reclaim_5 rfl hl (by decide) rfl (fun ls hl => ?_)
  refine lv_aload_n hx hb d_X_reclaim_6 rfl (lv_at hl 0 rfl) ?_
  obtain ⟨u4v0, u4v1, u4v2, u4v3, u4v4, hf_u4⟩ := hX.g9 hw3
  refine gw_getN (ci := 2) (fs := [.int u4v0, .int u4v1, .int u4v2, .int u4v3, .int u4v4]) hx hb hts in_Gen hown hE.K hW hf_u4 rfl 1 (by decide) (hts _ mw36) (fun _ h9 => h9) rfl d_X_reclaim_7 ?_
  refine lv_iconst (v := 3) hx hb d_X_reclaim_10 (by decide) ?_
  refine lv_icmp_eq (tgt := 24) hx hb d_X_reclaim_11 (by decide) (fun c11 => ?_) (fun c11 => ?_)
  · refine lv_aload_n hx hb d_X_reclaim_24 rfl (lv_at hl 0 rfl) ?_
    refine lv_dup hx hb d_X_reclaim_25 rfl ?_
    refine gw_getN (ci := 2) (fs := [.int u4v0, .int u4v1, .int u4v2, .int u4v3, .int u4v4]) hx hb hts in_Gen hown hE.K hW hf_u4 rfl 2 (by decide) (hts _ mw57) (fun _ h9 => h9) rfl d_X_reclaim_26 ?_
    refine lv_iconst (v := 1) hx hb d_X_reclaim_29 (by decide) ?_
    refine lv_iadd hx hb d_X_reclaim_30 ?_
    refine gw_putN (ci := 2) (fs := [.int u4v0, .int u4v1, .int u4v2, .int u4v3, .int u4v4]) (v := .int (u4v2 + 1)) (ty := .int) hx hb hts in_Gen t_Gen t_Gen_ok n_Gen hown hE.K hW hS hf_u4 rfl 2 (by decide) (hts _ mw57) (fun _ h9 => h9) rfl (by decide +kernel) rfl rfl (Nat.le_of_ble_eq_true rfl) d_X_reclaim_31 (fun H locs hW hS => ?_)
    have hXn : gx_V G A lim sc E j n rs (gw_up Mw r2 9 (.inr (2, [.int u4v0, .int u4v1, .int (u4v2 + 1), .int u4v3, .int u4v4]))) := hX.up9 hf_u4
    have hPn : gp_S Mw (gw_up Mw r2 9 (.inr (2, [.int u4v0, .int u4v1, .int (u4v2 + 1), .int u4v3, .int u4v4]))) := gp_up hf_u4
    have hF5 : gw_fg (gw_out [1, 2, 3, 4, 5, 6, 7, 8, 9, 10, 11]) M (gw_up Mw r2 9 (.inr (2, [.int u4v0, .int u4v1, .int (u4v2 + 1), .int u4v3, .int u4v4]))) := gw_fg.up hF hf_u4 (show ¬ ((gw_out [1, 2, 3, 4, 5, 6, 7, 8, 9, 10, 11]) 9) by decide) (show ¬ ((gw_out [1, 2, 3, 4, 5, 6, 7, 8, 9, 10, 11]) 9) by decide)
    obtain ⟨M6, eM6⟩ : ∃ z, z = gw_up Mw r2 9 (.inr (2, [.int u4v0, .int u4v1, .int (u4v2 + 1), .int u4v3, .int u4v4])) := ⟨_, rfl⟩
    replace hW : gw_P G.1 vwCl G.2.2.2 M6 H := by rw [eM6]; exact hW
    have hf_x : M6 (A 0) = some (1, .inr (0, [.int lim, .int sc, .int E, .ref (A 1), .ref (A 3), .ref (A 4), .ref (A 5), .ref (A 6), .int (nI gco1)])) := by rw [eM6]; exact gw_keep hf_x hf_u4 (by decide)
    have hf_row : M6 (A 1) = some (2, .inr (1, [.ref (A 2), .int (nI rs)])) := by rw [eM6]; exact gw_keep hf_row hf_u4 (by decide)
    have hf_nums : M6 (A 2) = some (3, .inl (G.2.1 0, 256, .inl f3o1)) := by rw [eM6]; exact gw_keep hf_nums hf_u4 (by decide)
    have hf_gone : M6 (A 6) = some (8, .inl (G.2.1 0, 512, .inl f8o1)) := by rw [eM6]; exact gw_keep hf_gone hf_u4 (by decide)
    have hf_u4 : M6 r2 = some (9, .inr (2, [.int u4v0, .int u4v1, .int (u4v2 + 1), .int u4v3, .int u4v4])) := by rw [eM6]; exact gw_up_self _ _ _ _
    rw [← eM6] at hF5
    rw [← eM6] at hXn hPn
    replace hX := hXn
    replace hw3 := hPn _ _ hw3
    clear hXn hPn
    refine lv_aload_n hx hb d_X_reclaim_34 rfl (lv_at hl 1 rfl) ?_
    refine lv_aload_n hx hb d_X_reclaim_35 rfl (lv_at hl 0 rfl) ?_
    refine gw_callv hS (va_runV (As := [.ref r2]) (rest := []) ⟨hx, hb, hml, hown, hts⟩ (v_bring l G M6 A lim sc E j n rs hX r2 lm hw3 hlm (by omega) (by omega) (by omega)) (cwV 1 hts (gw_gv mw164 mw165 mw166 mw42 mw163) rfl rfl rfl (by decide +kernel) ⟨Nat.le_of_ble_eq_true rfl, Nat.le_of_ble_eq_true rfl⟩) (gw_pv hE hB hS hW rfl hf_x) rfl rfl hl.1 rfl (lv_room (Nat.le_of_ble_eq_true rfl)) d_X_reclaim_36 ⟨Nat.le_of_ble_eq_true rfl, Nat.le_of_ble_eq_true rfl⟩) (fun M8 H locs hw9 hW hS => ?_)
    obtain ⟨rs211, hb12, hX, hfr10⟩ := hw9
    have hF13 : gw_fg (gw_out [1, 2, 3, 4, 5, 6, 7, 8, 9, 10, 11]) M M8 := gw_fg.tr hF5 (gw_fg.wk hfr10 (by decide))
    replace hw3 := hfr10.2 _ _ hw3
    clear hfr10
    refine lv_iconst (v := 1) hx hb d_X_reclaim_39 (by decide) ?_
    exact gw_iret hx hb hr hlocks hS hW (Nat.le_of_ble_eq_true rfl) (Nat.le_of_ble_eq_true rfl) d_X_reclaim_40 ⟨rs211, (by omega), hX, hF13⟩
  · refine lv_aload_n hx hb d_X_reclaim_14 rfl (lv_at hl 0 rfl) ?_
    refine gw_getN (ci := 2) (fs := [.int u4v0, .int u4v1, .int u4v2, .int u4v3, .int u4v4]) hx hb hts in_Gen hown hE.K hW hf_u4 rfl 1 (by decide) (hts _ mw36) (fun _ h9 => h9) rfl d_X_reclaim_15 ?_
    refine lv_iconst (v := 4) hx hb d_X_reclaim_18 (by decide) ?_
    refine lv_icmp_eq (tgt := 24) hx hb d_X_reclaim_19 (by decide) (fun c19 => ?_) (fun c19 => ?_)
    · refine lv_aload_n hx hb d_X_reclaim_24 rfl (lv_at hl 0 rfl) ?_
      refine lv_dup hx hb d_X_reclaim_25 rfl ?_
      refine gw_getN (ci := 2) (fs := [.int u4v0, .int u4v1, .int u4v2, .int u4v3, .int u4v4]) hx hb hts in_Gen hown hE.K hW hf_u4 rfl 2 (by decide) (hts _ mw57) (fun _ h9 => h9) rfl d_X_reclaim_26 ?_
      refine lv_iconst (v := 1) hx hb d_X_reclaim_29 (by decide) ?_
      refine lv_iadd hx hb d_X_reclaim_30 ?_
      refine gw_putN (ci := 2) (fs := [.int u4v0, .int u4v1, .int u4v2, .int u4v3, .int u4v4]) (v := .int (u4v2 + 1)) (ty := .int) hx hb hts in_Gen t_Gen t_Gen_ok n_Gen hown hE.K hW hS hf_u4 rfl 2 (by decide) (hts _ mw57) (fun _ h9 => h9) rfl (by decide +kernel) rfl rfl (Nat.le_of_ble_eq_true rfl) d_X_reclaim_31 (fun H locs hW hS => ?_)
      have hXn : gx_V G A lim sc E j n rs (gw_up Mw r2 9 (.inr (2, [.int u4v0, .int u4v1, .int (u4v2 + 1), .int u4v3, .int u4v4]))) := hX.up9 hf_u4
      have hPn : gp_S Mw (gw_up Mw r2 9 (.inr (2, [.int u4v0, .int u4v1, .int (u4v2 + 1), .int u4v3, .int u4v4]))) := gp_up hf_u4
      have hF14 : gw_fg (gw_out [1, 2, 3, 4, 5, 6, 7, 8, 9, 10, 11]) M (gw_up Mw r2 9 (.inr (2, [.int u4v0, .int u4v1, .int (u4v2 + 1), .int u4v3, .int u4v4]))) := gw_fg.up hF hf_u4 (show ¬ ((gw_out [1, 2, 3, 4, 5, 6, 7, 8, 9, 10, 11]) 9) by decide) (show ¬ ((gw_out [1, 2, 3, 4, 5, 6, 7, 8, 9, 10, 11]) 9) by decide)
      obtain ⟨M15, eM15⟩ : ∃ z, z = gw_up Mw r2 9 (.inr (2, [.int u4v0, .int u4v1, .int (u4v2 + 1), .int u4v3, .int u4v4])) := ⟨_, rfl⟩
      replace hW : gw_P G.1 vwCl G.2.2.2 M15 H := by rw [eM15]; exact hW
      have hf_x : M15 (A 0) = some (1, .inr (0, [.int lim, .int sc, .int E, .ref (A 1), .ref (A 3), .ref (A 4), .ref (A 5), .ref (A 6), .int (nI gco1)])) := by rw [eM15]; exact gw_keep hf_x hf_u4 (by decide)
      have hf_row : M15 (A 1) = some (2, .inr (1, [.ref (A 2), .int (nI rs)])) := by rw [eM15]; exact gw_keep hf_row hf_u4 (by decide)
      have hf_nums : M15 (A 2) = some (3, .inl (G.2.1 0, 256, .inl f3o1)) := by rw [eM15]; exact gw_keep hf_nums hf_u4 (by decide)
      have hf_gone : M15 (A 6) = some (8, .inl (G.2.1 0, 512, .inl f8o1)) := by rw [eM15]; exact gw_keep hf_gone hf_u4 (by decide)
      have hf_u4 : M15 r2 = some (9, .inr (2, [.int u4v0, .int u4v1, .int (u4v2 + 1), .int u4v3, .int u4v4])) := by rw [eM15]; exact gw_up_self _ _ _ _
      rw [← eM15] at hF14
      rw [← eM15] at hXn hPn
      replace hX := hXn
      replace hw3 := hPn _ _ hw3
      clear hXn hPn
      refine lv_aload_n hx hb d_X_reclaim_34 rfl (lv_at hl 1 rfl) ?_
      refine lv_aload_n hx hb d_X_reclaim_35 rfl (lv_at hl 0 rfl) ?_
      refine gw_callv hS (va_runV (As := [.ref r2]) (rest := []) ⟨hx, hb, hml, hown, hts⟩ (v_bring l G M15 A lim sc E j n rs hX r2 lm hw3 hlm (by omega) (by omega) (by omega)) (cwV 1 hts (gw_gv mw164 mw165 mw166 mw42 mw163) rfl rfl rfl (by decide +kernel) ⟨Nat.le_of_ble_eq_true rfl, Nat.le_of_ble_eq_true rfl⟩) (gw_pv hE hB hS hW rfl hf_x) rfl rfl hl.1 rfl (lv_room (Nat.le_of_ble_eq_true rfl)) d_X_reclaim_36 ⟨Nat.le_of_ble_eq_true rfl, Nat.le_of_ble_eq_true rfl⟩) (fun M17 H locs hw18 hW hS => ?_)
      obtain ⟨rs220, hb21, hX, hfr19⟩ := hw18
      have hF22 : gw_fg (gw_out [1, 2, 3, 4, 5, 6, 7, 8, 9, 10, 11]) M M17 := gw_fg.tr hF14 (gw_fg.wk hfr19 (by decide))
      replace hw3 := hfr19.2 _ _ hw3
      clear hfr19
      refine lv_iconst (v := 1) hx hb d_X_reclaim_39 (by decide) ?_
      exact gw_iret hx hb hr hlocks hS hW (Nat.le_of_ble_eq_true rfl) (Nat.le_of_ble_eq_true rfl) d_X_reclaim_40 ⟨rs220, (by omega), hX, hF22⟩
    · refine lv_iconst (v := 0) hx hb d_X_reclaim_22 (by decide) ?_
      exact gw_iret hx hb hr hlocks hS hW (Nat.le_of_ble_eq_true rfl) (Nat.le_of_ble_eq_true rfl) d_X_reclaim_23 ⟨rs, (by omega), hX, hF⟩

set_option maxHeartbeats 4000000 in
set_option maxRecDepth 100000 in
theorem v_empty (l : Launch) (G : gw_G) (M : gw_M) (A : Nat → Nat) (lim sc E : Int32) (j n rs : Nat) (hX : gx_V G A lim sc E j n rs M) (on : Int32) (hn_z : narrow .boolean (.int on) = .int on) (hf_z : fits .boolean (.int on) = true) : Met l y_X_empty [.code y_X_empty b_X_empty 3 (some .int)] ({ frames := 0, cells := 0, slots := 0, locals := 0 }) (gw_Pc G M [.ref (A 0), .int on]) (gw_Qi G (fun r M2 => (if E = 0 then 0 else 1) = r ∧ gx_V G A lim sc on j n rs M2 ∧ gw_fg (gw_out [1, 2, 3, 4, 5, 6, 7, 8, 9, 10, 11]) M M2)) 0 0 (gw_A G) := by
  refine gw_start (by decide) (Nat.le_of_ble_eq_true rfl) (fun p9 e9 s m b9 mt9 c9 hx hb hr hml hown hlocks hin hE hB hW ls hl => ?_)
  have hts := hE.ts ([.ref (A 0), .int on] : List Value).toArray
  have hl : lv_has ls 3 [(0, .ref (A 0)), (1, .int on)] := hl
  have hown : s.vm.findClass "Generations" = some m.cls := hown
  have hj9 := hX.jobs.le
  have hn9 := hX.known.le
  have hr9 := hX.rs256
  refine gw_gen (I := fun z => gx_V G A lim sc E j n rs z) (P := gw_out [1, 2, 3, 4, 5, 6, 7, 8, 9, 10, 11]) hX hW (fun H locs Mw hW hS hX hF => ?_)
  have hX : gx_V G A lim sc E j n rs Mw := hX
  refine lv_aload_n hx hb d_X_empty_0 rfl (lv_at hl 0 rfl) ?_
  obtain ⟨gco1, f3o1, f8o1, hf_x, hf_row, hf_nums, hf_gone, hgco1, hrso1, -, -, -, -⟩ := id hX
  refine gw_get (ci := 0) (fs := [.int lim, .int sc, .int E, .ref (A 1), .ref (A 3), .ref (A 4), .ref (A 5), .ref (A 6), .int (nI gco1)]) hx hb hts in_X hown hE.K hW hf_x rfl 2 (by decide) (hts _ mw137) (fun _ h9 => h9) rfl d_X_empty_1 ?_
  refine lv_if_eq (tgt := 11) hx hb d_X_empty_4 (by decide) (fun c4 => ?_) (fun c4 => ?_)
  · refine lv_iconst (v := 0) hx hb d_X_empty_11 (by decide) ?_
    refine lv_istore_n (lv' := [(2, .int 0), (0, .ref (A 0)), (1, .int on)]) hx hb d_X_empty_12 rfl hl (by decide) rfl (fun ls hl => ?_)
    refine lv_aload_n hx hb d_X_empty_13 rfl (lv_at hl 1 rfl) ?_
    refine lv_iload_n hx hb d_X_empty_14 rfl (lv_at hl 2 rfl) ?_
    refine gw_put (ci := 0) (fs := [.int lim, .int sc, .int E, .ref (A 1), .ref (A 3), .ref (A 4), .ref (A 5), .ref (A 6), .int (nI gco1)]) (v := .int on) (ty := .boolean) hx hb hts in_X t_X t_X_ok n_X hown hE.K hW hS hf_x rfl 2 (by decide) (hts _ mw137) (fun _ h9 => h9) rfl (by decide +kernel) hn_z hf_z (Nat.le_of_ble_eq_true rfl) d_X_empty_15 (fun H locs hW hS => ?_)
    have hXn : gx_V G A lim sc on j n rs (gw_up Mw (A 0) 1 (.inr (0, [.int lim, .int sc, .int on, .ref (A 1), .ref (A 3), .ref (A 4), .ref (A 5), .ref (A 6), .int (nI gco1)]))) := hX.up1 hf_x (by omega)
    have hPn : gp_S Mw (gw_up Mw (A 0) 1 (.inr (0, [.int lim, .int sc, .int on, .ref (A 1), .ref (A 3), .ref (A 4), .ref (A 5), .ref (A 6), .int (nI gco1)]))) := gp_up hf_x
    have hF2 : gw_fg (gw_out [1, 2, 3, 4, 5, 6, 7, 8, 9, 10, 11]) M (gw_up Mw (A 0) 1 (.inr (0, [.int lim, .int sc, .int on, .ref (A 1), .ref (A 3), .ref (A 4), .ref (A 5), .ref (A 6), .int (nI gco1)]))) := gw_fg.up hF hf_x (show ¬ ((gw_out [1, 2, 3, 4, 5, 6, 7, 8, 9, 10, 11]) 1) by decide) (show ¬ ((gw_out [1, 2, 3, 4, 5, 6, 7, 8, 9, 10, 11]) 1) by decide)
    obtain ⟨M3, eM3⟩ : ∃ z, z = gw_up Mw (A 0) 1 (.inr (0, [.int lim, .int sc, .int on, .ref (A 1), .ref (A 3), .ref (A 4), .ref (A 5), .ref (A 6), .int (nI gco1)])) := ⟨_, rfl⟩
    replace hW : gw_P G.1 vwCl G.2.2.2 M3 H := by rw [eM3]; exact hW
    have hf_row : M3 (A 1) = some (2, .inr (1, [.ref (A 2), .int (nI rs)])) := by rw [eM3]; exact gw_keep hf_row hf_x (by decide)
    have hf_nums : M3 (A 2) = some (3, .inl (G.2.1 0, 256, .inl f3o1)) := by rw [eM3]; exact gw_keep hf_nums hf_x (by decide)
    have hf_gone : M3 (A 6) = some (8, .inl (G.2.1 0, 512, .inl f8o1)) := by rw [eM3]; exact gw_keep hf_gone hf_x (by decide)
    have hf_x : M3 (A 0) = some (1, .inr (0, [.int lim, .int sc, .int on, .ref (A 1), .ref (A 3), .ref (A 4), .ref (A 5), .ref (A 6), .int (nI gco1)])) := by rw [eM3]; exact gw_up_self _ _ _ _
    rw [← eM3] at hF2
    rw [← eM3] at hXn hPn
    replace hX := hXn
    clear hXn hPn
    refine lv_iload_n hx hb d_X_empty_18 rfl (lv_at hl 0 rfl) ?_
    exact gw_iret hx hb hr hlocks hS hW (Nat.le_of_ble_eq_true rfl) (Nat.le_of_ble_eq_true rfl) d_X_empty_19 ⟨(if_pos c4), hX, hF2⟩
  · refine lv_iconst (v := 1) hx hb d_X_empty_7 (by decide) ?_
    refine lv_goto (tgt := 12) hx hb d_X_empty_8 (by decide) ?_
    refine lv_istore_n (lv' := [(2, .int 1), (0, .ref (A 0)), (1, .int on)]) hx hb d_X_empty_12 rfl hl (by decide) rfl (fun ls hl => ?_)
    refine lv_aload_n hx hb d_X_empty_13 rfl (lv_at hl 1 rfl) ?_
    refine lv_iload_n hx hb d_X_empty_14 rfl (lv_at hl 2 rfl) ?_
    refine gw_put (ci := 0) (fs := [.int lim, .int sc, .int E, .ref (A 1), .ref (A 3), .ref (A 4), .ref (A 5), .ref (A 6), .int (nI gco1)]) (v := .int on) (ty := .boolean) hx hb hts in_X t_X t_X_ok n_X hown hE.K hW hS hf_x rfl 2 (by decide) (hts _ mw137) (fun _ h9 => h9) rfl (by decide +kernel) hn_z hf_z (Nat.le_of_ble_eq_true rfl) d_X_empty_15 (fun H locs hW hS => ?_)
    have hXn : gx_V G A lim sc on j n rs (gw_up Mw (A 0) 1 (.inr (0, [.int lim, .int sc, .int on, .ref (A 1), .ref (A 3), .ref (A 4), .ref (A 5), .ref (A 6), .int (nI gco1)]))) := hX.up1 hf_x (by omega)
    have hPn : gp_S Mw (gw_up Mw (A 0) 1 (.inr (0, [.int lim, .int sc, .int on, .ref (A 1), .ref (A 3), .ref (A 4), .ref (A 5), .ref (A 6), .int (nI gco1)]))) := gp_up hf_x
    have hF4 : gw_fg (gw_out [1, 2, 3, 4, 5, 6, 7, 8, 9, 10, 11]) M (gw_up Mw (A 0) 1 (.inr (0, [.int lim, .int sc, .int on, .ref (A 1), .ref (A 3), .ref (A 4), .ref (A 5), .ref (A 6), .int (nI gco1)]))) := gw_fg.up hF hf_x (show ¬ ((gw_out [1, 2, 3, 4, 5, 6, 7, 8, 9, 10, 11]) 1) by decide) (show ¬ ((gw_out [1, 2, 3, 4, 5, 6, 7, 8, 9, 10, 11]) 1) by decide)
    obtain ⟨M5, eM5⟩ : ∃ z, z = gw_up Mw (A 0) 1 (.inr (0, [.int lim, .int sc, .int on, .ref (A 1), .ref (A 3), .ref (A 4), .ref (A 5), .ref (A 6), .int (nI gco1)])) := ⟨_, rfl⟩
    replace hW : gw_P G.1 vwCl G.2.2.2 M5 H := by rw [eM5]; exact hW
    have hf_row : M5 (A 1) = some (2, .inr (1, [.ref (A 2), .int (nI rs)])) := by rw [eM5]; exact gw_keep hf_row hf_x (by decide)
    have hf_nums : M5 (A 2) = some (3, .inl (G.2.1 0, 256, .inl f3o1)) := by rw [eM5]; exact gw_keep hf_nums hf_x (by decide)
    have hf_gone : M5 (A 6) = some (8, .inl (G.2.1 0, 512, .inl f8o1)) := by rw [eM5]; exact gw_keep hf_gone hf_x (by decide)
    have hf_x : M5 (A 0) = some (1, .inr (0, [.int lim, .int sc, .int on, .ref (A 1), .ref (A 3), .ref (A 4), .ref (A 5), .ref (A 6), .int (nI gco1)])) := by rw [eM5]; exact gw_up_self _ _ _ _
    rw [← eM5] at hF4
    rw [← eM5] at hXn hPn
    replace hX := hXn
    clear hXn hPn
    refine lv_iload_n hx hb d_X_empty_18 rfl (lv_at hl 0 rfl) ?_
    exact gw_iret hx hb hr hlocks hS hW (Nat.le_of_ble_eq_true rfl) (Nat.le_of_ble_eq_true rfl) d_X_empty_19 ⟨(if_neg c4), hX, hF4⟩
end
section
abbrev b_Ars_copyOf3 : ByteArray := prog_20_method_123_code
abbrev y_Ars_copyOf3 : MethodName := ⟨"java/util/Arrays", "copyOf", "([II)[I"⟩
abbrev b_Row_copy : ByteArray := prog_4_method_3_code
abbrev y_Row_copy : MethodName := ⟨"Generations$Row", "copy", "()[I"⟩
abbrev b_Job_init : ByteArray := prog_3_method_1_code
abbrev y_Job_init : MethodName := ⟨"Generations$Job", "<init>", "([I)V"⟩
set_option maxRecDepth 20000 in
theorem mw175 : (Cond.arrayClass Jvm.ClassFile.FieldType.int) ∈ gw_N0 := gw_in (List.mem_append_right _ (gw_tm (i := 41) rfl))
set_option maxRecDepth 20000 in
theorem mw176 : (Cond.code ({ cls := "java/util/Arrays", name := "copyOf", desc := "([II)[I" } : Jvm.MethodName) prog_20_method_123_code (3 : Nat) (Option.some (Jvm.ClassFile.FieldType.array Jvm.ClassFile.FieldType.int))) ∈ gw_N0 := gw_in (List.mem_append_right _ (gw_tm (i := 263) rfl))
set_option maxRecDepth 20000 in
theorem mw177 : (Cond.methodLink "Generations$Row" (19 : Nat) ({ cls := "java/util/Arrays", name := "copyOf", desc := "([II)[I" } : Jvm.MethodName)) ∈ gw_N0 := gw_in (List.mem_append_right _ (gw_tm (i := 261) rfl))
set_option maxRecDepth 20000 in
theorem mw178 : (Cond.static ({ cls := "java/util/Arrays", name := "copyOf", desc := "([II)[I" } : Jvm.MethodName)) ∈ gw_N0 := gw_in (List.mem_append_right _ (gw_tm (i := 262) rfl))
set_option maxRecDepth 20000 in
theorem mw179 : (Cond.methodLink "Generations$Job" (3 : Nat) ({ cls := "java/lang/Object", name := "<init>", desc := "()V" } : Jvm.MethodName)) ∈ gw_N0 := gw_in (List.mem_append_right _ (gw_tm (i := 274) rfl))
end
section
theorem d_Ars_copyOf3_0 : decode b_Ars_copyOf3 0 = .ok (.iload_n 1, 1) := by decide +kernel
theorem d_Ars_copyOf3_1 : decode b_Ars_copyOf3 1 = .ok (.aload_n 0, 1) := by decide +kernel
theorem d_Ars_copyOf3_2 : decode b_Ars_copyOf3 2 = .ok (.arraylength, 1) := by decide +kernel
theorem d_Ars_copyOf3_3 : decode b_Ars_copyOf3 3 = .ok (.if_icmp .ne 11, 3) := by decide +kernel
theorem d_Ars_copyOf3_14 : decode b_Ars_copyOf3 14 = .ok (.iload_n 1, 1) := by decide +kernel
theorem d_Ars_copyOf3_15 : decode b_Ars_copyOf3 15 = .ok (.newarray .int, 2) := by decide +kernel
theorem d_Ars_copyOf3_17 : decode b_Ars_copyOf3 17 = .ok (.astore_n 2, 1) := by decide +kernel
theorem d_Ars_copyOf3_18 : decode b_Ars_copyOf3 18 = .ok (.aload_n 0, 1) := by decide +kernel
theorem d_Ars_copyOf3_19 : decode b_Ars_copyOf3 19 = .ok (.iconst 0, 1) := by decide +kernel
theorem d_Ars_copyOf3_20 : decode b_Ars_copyOf3 20 = .ok (.aload_n 2, 1) := by decide +kernel
theorem d_Ars_copyOf3_21 : decode b_Ars_copyOf3 21 = .ok (.iconst 0, 1) := by decide +kernel
theorem d_Ars_copyOf3_22 : decode b_Ars_copyOf3 22 = .ok (.aload_n 0, 1) := by decide +kernel
theorem d_Ars_copyOf3_23 : decode b_Ars_copyOf3 23 = .ok (.arraylength, 1) := by decide +kernel
theorem d_Ars_copyOf3_24 : decode b_Ars_copyOf3 24 = .ok (.iload_n 1, 1) := by decide +kernel
theorem d_Ars_copyOf3_25 : decode b_Ars_copyOf3 25 = .ok (.invokestatic 304, 3) := by decide +kernel
theorem d_Ars_copyOf3_28 : decode b_Ars_copyOf3 28 = .ok (.invokestatic 150, 3) := by decide +kernel
theorem d_Ars_copyOf3_31 : decode b_Ars_copyOf3 31 = .ok (.aload_n 2, 1) := by decide +kernel
theorem d_Ars_copyOf3_32 : decode b_Ars_copyOf3 32 = .ok (.areturn, 1) := by decide +kernel
theorem d_Row_copy_0 : decode b_Row_copy 0 = .ok (.aload_n 0, 1) := by decide +kernel
theorem d_Row_copy_1 : decode b_Row_copy 1 = .ok (.getfield 9, 3) := by decide +kernel
theorem d_Row_copy_4 : decode b_Row_copy 4 = .ok (.aload_n 0, 1) := by decide +kernel
theorem d_Row_copy_5 : decode b_Row_copy 5 = .ok (.getfield 15, 3) := by decide +kernel
theorem d_Row_copy_8 : decode b_Row_copy 8 = .ok (.invokestatic 19, 3) := by decide +kernel
theorem d_Row_copy_11 : decode b_Row_copy 11 = .ok (.areturn, 1) := by decide +kernel
theorem d_Job_init_0 : decode b_Job_init 0 = .ok (.aload_n 0, 1) := by decide +kernel
theorem d_Job_init_1 : decode b_Job_init 1 = .ok (.invokespecial 3, 3) := by decide +kernel
theorem d_Job_init_4 : decode b_Job_init 4 = .ok (.aload_n 0, 1) := by decide +kernel
theorem d_Job_init_5 : decode b_Job_init 5 = .ok (.aload_n 1, 1) := by decide +kernel
theorem d_Job_init_6 : decode b_Job_init 6 = .ok (.putfield 9, 3) := by decide +kernel
theorem d_Job_init_9 : decode b_Job_init 9 = .ok (.return_, 1) := by decide +kernel
end
section
set_option maxHeartbeats 4000000 in
set_option maxRecDepth 100000 in
theorem v_copyOf (l : Launch) (G : gw_G) (M : gw_M) (A : Nat → Nat) (lim sc E : Int32) (j n rs : Nat) (hX : gx_V G A lim sc E j n rs M) (h255 : rs ≤ 255) : Met l y_Ars_copyOf3 [.code y_Ars_copyOf3 b_Ars_copyOf3 3 (some (.array .int))] ({ frames := 1, cells := 1, slots := 256, locals := 40 }) (gw_Pc G M [.ref (A 2), .int (nI rs)]) (gw_Qr G (fun r M2 => gp_R M2 11 r ∧ gx_V G A lim sc E j n rs M2 ∧ gw_fg (gw_out [1, 2, 3, 4, 5, 6, 7, 8, 9, 10, 11]) M M2)) 1 256 (gw_A G) := by
  refine gw_start (by decide) (Nat.le_of_ble_eq_true rfl) (fun p9 e9 s m b9 mt9 c9 hx hb hr hml hown hlocks hin hE hB hW ls hl => ?_)
  have hts := hE.ts ([.ref (A 2), .int (nI rs)] : List Value).toArray
  have hl : lv_has ls 3 [(0, .ref (A 2)), (1, .int (nI rs))] := hl
  have hown : s.vm.findClass "java/util/Arrays" = some m.cls := hown
  have hj9 := hX.jobs.le
  have hn9 := hX.known.le
  have hr9 := hX.rs256
  refine gw_gen (I := fun z => gx_V G A lim sc E j n rs z) (P := gw_out [1, 2, 3, 4, 5, 6, 7, 8, 9, 10, 11]) hX hW (fun H locs Mw hW hS hX hF => ?_)
  have hX : gx_V G A lim sc E j n rs Mw := hX
  refine lv_iload_n hx hb d_Ars_copyOf3_0 rfl (lv_at hl 1 rfl) ?_
  refine lv_aload_n hx hb d_Ars_copyOf3_1 rfl (lv_at hl 0 rfl) ?_
  obtain ⟨gco1, f3o1, f8o1, hf_x, hf_row, hf_nums, hf_gone, hgco1, hrso1, -, -, -, -⟩ := id hX
  refine gw_alen (v := 256) hx hb hE.K hW 0 hf_nums rfl rfl d_Ars_copyOf3_2 ?_
  refine lv_icmp_ne (tgt := 14) hx hb d_Ars_copyOf3_3 (by decide) (fun c3 => ?_) (fun c3 => ?_)
  · refine lv_iload_n hx hb d_Ars_copyOf3_14 rfl (lv_at hl 1 rfl) ?_
    refine gw_newa (atype := .int) (ty := .int) (n := nI rs) (a0 := (rs, .inl (fun _ => 0))) (N' := rs) hx hb (hts (.arrayClass .int) mw175) rfl hE.K hW hS hB (gw_zi rs) (nI_pos (by omega)) (nI_clamp (by omega)) (show rs * 4 ≤ 536870912 by omega) (Nat.le_of_ble_eq_true rfl) (by show 0 + rs ≤ 256; omega) d_Ars_copyOf3_15 0 rfl (fun cA h1 h2 => gw_ri _ _ h1 h2) 11 (fun q2 H hq3 hW hS => ?_)
    refine W.widen (k := 1) (n := 256) (Nat.le_refl _) (by omega) ?_
    have hXn : gx_V G A lim sc E j n rs (gw_up Mw q2 11 (.inl (G.2.1 0, rs, .inl (fun _ => 0)))) := hX.newp hq3 (hX.z.new hq3 (fun q => absurd q (by decide)) (fun q => absurd q (by decide)) (fun _ => ⟨_, _, by omega, rfl⟩))
    have hPn : gp_S Mw (gw_up Mw q2 11 (.inl (G.2.1 0, rs, .inl (fun _ => 0)))) := gp_new hq3
    have hF4 : gw_fg (gw_out [1, 2, 3, 4, 5, 6, 7, 8, 9, 10, 11]) M (gw_up Mw q2 11 (.inl (G.2.1 0, rs, .inl (fun _ => 0)))) := gw_fg.new hF hq3 (show ¬ ((gw_out [1, 2, 3, 4, 5, 6, 7, 8, 9, 10, 11]) 11) by decide)
    obtain ⟨M5, eM5⟩ : ∃ z, z = gw_up Mw q2 11 (.inl (G.2.1 0, rs, .inl (fun _ => 0))) := ⟨_, rfl⟩
    replace hW : gw_P G.1 vwCl G.2.2.2 M5 H := by rw [eM5]; exact hW
    have hf_x : M5 (A 0) = some (1, .inr (0, [.int lim, .int sc, .int E, .ref (A 1), .ref (A 3), .ref (A 4), .ref (A 5), .ref (A 6), .int (nI gco1)])) := by rw [eM5]; exact gw_keepN hf_x hq3
    have hf_row : M5 (A 1) = some (2, .inr (1, [.ref (A 2), .int (nI rs)])) := by rw [eM5]; exact gw_keepN hf_row hq3
    have hf_nums : M5 (A 2) = some (3, .inl (G.2.1 0, 256, .inl f3o1)) := by rw [eM5]; exact gw_keepN hf_nums hq3
    have hf_gone : M5 (A 6) = some (8, .inl (G.2.1 0, 512, .inl f8o1)) := by rw [eM5]; exact gw_keepN hf_gone hq3
    have hf_q2 : M5 q2 = some (11, .inl (G.2.1 0, rs, .inl (fun _ => 0))) := by rw [eM5]; exact gw_up_self _ _ _ _
    rw [← eM5] at hF4
    rw [← eM5] at hXn hPn
    replace hX := hXn
    clear hXn hPn
    have hp_q2 : gp_R M5 11 q2 := ⟨_, hf_q2⟩
    refine lv_astore_n (lv' := [(2, .ref q2), (0, .ref (A 2)), (1, .int (nI rs))]) hx hb d_Ars_copyOf3_17 rfl hl (by decide) rfl (fun ls hl => ?_)
    refine lv_aload_n hx hb d_Ars_copyOf3_18 rfl (lv_at hl 1 rfl) ?_
    refine lv_iconst (v := 0) hx hb d_Ars_copyOf3_19 (by decide) ?_
    refine lv_aload_n hx hb d_Ars_copyOf3_20 rfl (lv_at hl 0 rfl) ?_
    refine lv_iconst (v := 0) hx hb d_Ars_copyOf3_21 (by decide) ?_
    refine lv_aload_n hx hb d_Ars_copyOf3_22 rfl (lv_at hl 1 rfl) ?_
    refine gw_alen (v := 256) hx hb hE.K hW 0 hf_nums rfl rfl d_Ars_copyOf3_23 ?_
    refine lv_iload_n hx hb d_Ars_copyOf3_24 rfl (lv_at hl 2 rfl) ?_
    refine va_mmin (x := 256) (y := nI rs) hx hb (hml.trans hl.1.symm) hown (hts _ mw93) (hts _ mw94) (hts _ mw70) (hts _ mw95) (Nat.le_of_ble_eq_true rfl) (Nat.le_of_ble_eq_true rfl) (Nat.le_of_ble_eq_true rfl) (Nat.le_of_ble_eq_true rfl) d_Ars_copyOf3_25 ?_
    refine W.eq (g2 := F0 m 28 ls [.int (nI rs), .int 0, .ref q2, .int 0, .ref (A 2)]) (by rw [gx_mn256 h255]) ?_
    refine gw_copyi (sp := 0) (dp := 0) (n := nI rs) hx hb (hml.trans hl.1.symm) hown (hts _ mw96) (hts _ mw97) (hts _ mw98) (hts _ mw99) hE.K hW hS 0 0 hf_nums hf_q2 rfl rfl (by decide) (by decide) (nI_pos (by omega)) (by rw [gi_c0, nI_clamp (by omega)]; omega) (by rw [gi_c0, nI_clamp (by omega)]; omega) (Nat.le_of_ble_eq_true rfl) (Nat.le_of_ble_eq_true rfl) d_Ars_copyOf3_28 (fun H locs hW hS => ?_)
    have hXn : gx_V G A lim sc E j n rs (gw_up M5 q2 11 (.inl (G.2.1 0, rs, .inl (va_cpy f3o1 (fun _ => 0) (0 : Int32).toNatClampNeg (0 : Int32).toNatClampNeg (nI rs : Int32).toNatClampNeg)))) := hX.up11 hf_q2 (by omega)
    have hPn : gp_S M5 (gw_up M5 q2 11 (.inl (G.2.1 0, rs, .inl (va_cpy f3o1 (fun _ => 0) (0 : Int32).toNatClampNeg (0 : Int32).toNatClampNeg (nI rs : Int32).toNatClampNeg)))) := gp_up hf_q2
    have hF6 : gw_fg (gw_out [1, 2, 3, 4, 5, 6, 7, 8, 9, 10, 11]) M (gw_up M5 q2 11 (.inl (G.2.1 0, rs, .inl (va_cpy f3o1 (fun _ => 0) (0 : Int32).toNatClampNeg (0 : Int32).toNatClampNeg (nI rs : Int32).toNatClampNeg)))) := gw_fg.up hF4 hf_q2 (show ¬ ((gw_out [1, 2, 3, 4, 5, 6, 7, 8, 9, 10, 11]) 11) by decide) (show ¬ ((gw_out [1, 2, 3, 4, 5, 6, 7, 8, 9, 10, 11]) 11) by decide)
    obtain ⟨M7, eM7⟩ : ∃ z, z = gw_up M5 q2 11 (.inl (G.2.1 0, rs, .inl (va_cpy f3o1 (fun _ => 0) (0 : Int32).toNatClampNeg (0 : Int32).toNatClampNeg (nI rs : Int32).toNatClampNeg))) := ⟨_, rfl⟩
    replace hW : gw_P G.1 vwCl G.2.2.2 M7 H := by rw [eM7]; exact hW
    have hf_x : M7 (A 0) = some (1, .inr (0, [.int lim, .int sc, .int E, .ref (A 1), .ref (A 3), .ref (A 4), .ref (A 5), .ref (A 6), .int (nI gco1)])) := by rw [eM7]; exact gw_keep hf_x hf_q2 (by decide)
    have hf_row : M7 (A 1) = some (2, .inr (1, [.ref (A 2), .int (nI rs)])) := by rw [eM7]; exact gw_keep hf_row hf_q2 (by decide)
    have hf_nums : M7 (A 2) = some (3, .inl (G.2.1 0, 256, .inl f3o1)) := by rw [eM7]; exact gw_keep hf_nums hf_q2 (by decide)
    have hf_gone : M7 (A 6) = some (8, .inl (G.2.1 0, 512, .inl f8o1)) := by rw [eM7]; exact gw_keep hf_gone hf_q2 (by decide)
    have hf_q2 : M7 q2 = some (11, .inl (G.2.1 0, rs, .inl (va_cpy f3o1 (fun _ => 0) (0 : Int32).toNatClampNeg (0 : Int32).toNatClampNeg (nI rs : Int32).toNatClampNeg))) := by rw [eM7]; exact gw_up_self _ _ _ _
    rw [← eM7] at hF6
    rw [← eM7] at hXn hPn
    replace hX := hXn
    replace hp_q2 := hPn _ _ hp_q2
    clear hXn hPn
    refine lv_aload_n hx hb d_Ars_copyOf3_31 rfl (lv_at hl 0 rfl) ?_
    exact gw_aret hx hb hr hlocks (Or.inr ⟨_, rfl⟩) hS hW (Nat.le_of_ble_eq_true rfl) (Nat.le_of_ble_eq_true rfl) d_Ars_copyOf3_32 ⟨hp_q2, hX, hF6⟩
  · exact absurd c3 (gx_ne256 h255)

set_option maxHeartbeats 4000000 in
set_option maxRecDepth 100000 in
theorem v_copy (l : Launch) (G : gw_G) (M : gw_M) (A : Nat → Nat) (lim sc E : Int32) (j n rs : Nat) (hX : gx_V G A lim sc E j n rs M) (h255 : rs ≤ 255) : Met l y_Row_copy [.code y_Row_copy b_Row_copy 1 (some (.array .int))] ({ frames := 2, cells := 1, slots := 256, locals := 62 }) (gw_Pc G M [.ref (A 1)]) (gw_Qr G (fun r M2 => gp_R M2 11 r ∧ gx_V G A lim sc E j n rs M2 ∧ gw_fg (gw_out [1, 2, 3, 4, 5, 6, 7, 8, 9, 10, 11]) M M2)) 1 256 (gw_A G) := by
  refine gw_start (by decide) (Nat.le_of_ble_eq_true rfl) (fun p9 e9 s m b9 mt9 c9 hx hb hr hml hown hlocks hin hE hB hW ls hl => ?_)
  have hts := hE.ts ([.ref (A 1)] : List Value).toArray
  have hl : lv_has ls 1 [(0, .ref (A 1))] := hl
  have hown : s.vm.findClass "Generations$Row" = some m.cls := hown
  have hj9 := hX.jobs.le
  have hn9 := hX.known.le
  have hr9 := hX.rs256
  refine gw_gen (I := fun z => gx_V G A lim sc E j n rs z) (P := gw_out [1, 2, 3, 4, 5, 6, 7, 8, 9, 10, 11]) hX hW (fun H locs Mw hW hS hX hF => ?_)
  have hX : gx_V G A lim sc E j n rs Mw := hX
  refine lv_aload_n hx hb d_Row_copy_0 rfl (lv_at hl 0 rfl) ?_
  obtain ⟨gco1, f3o1, f8o1, hf_x, hf_row, hf_nums, hf_gone, hgco1, hrso1, -, -, -, -⟩ := id hX
  refine gw_get (ci := 1) (fs := [.ref (A 2), .int (nI rs)]) hx hb hts in_Row hown hE.K hW hf_row rfl 0 (by decide) (hts _ mw44) (fun _ h9 => h9) rfl d_Row_copy_1 ?_
  refine lv_aload_n hx hb d_Row_copy_4 rfl (lv_at hl 0 rfl) ?_
  refine gw_get (ci := 1) (fs := [.ref (A 2), .int (nI rs)]) hx hb hts in_Row hown hE.K hW hf_row rfl 1 (by decide) (hts _ mw43) (fun _ h9 => h9) rfl d_Row_copy_5 ?_
  refine gw_callr hS (va_runS (As := [.ref (A 2), .int (nI rs)]) (rest := []) ⟨hx, hb, hml, hown, hts⟩ (v_copyOf l G Mw A lim sc E j n rs hX   (by omega)) (va_cwS 2 hts (gw_gt mw177 mw178 mw108 mw176) rfl rfl rfl (by decide +kernel) ⟨Nat.le_of_ble_eq_true rfl, Nat.le_of_ble_eq_true rfl⟩) (gw_ps hE hB hS hW) rfl rfl hl.1 rfl (lv_room (Nat.le_of_ble_eq_true rfl)) d_Row_copy_8 ⟨Nat.le_of_ble_eq_true rfl, Nat.le_of_ble_eq_true rfl⟩) (fun r2 M3 H locs hw4 hW hS => ?_)
  refine W.widen (k := 1) (n := 256) (Nat.le_refl _) (Nat.le_refl _) ?_
  obtain ⟨hp_6, hX, hfr5⟩ := hw4
  have hF7 : gw_fg (gw_out [1, 2, 3, 4, 5, 6, 7, 8, 9, 10, 11]) M M3 := gw_fg.tr hF (gw_fg.wk hfr5 (by decide))
  clear hfr5
  exact gw_aret hx hb hr hlocks (Or.inr ⟨_, rfl⟩) hS hW (Nat.le_of_ble_eq_true rfl) (Nat.le_of_ble_eq_true rfl) d_Row_copy_11 ⟨hp_6, hX, hF7⟩

set_option maxHeartbeats 4000000 in
set_option maxRecDepth 100000 in
theorem e_jobInit (l : Launch) (G : gw_G) (M : gw_M) (a : Nat) (t : Nat) (hf_a : M a = some (60, .inr (3, [.null, .int 0]))) : Met l y_Job_init [.code y_Job_init b_Job_init 2 none] ({ frames := 1, cells := 0, slots := 0, locals := 12 }) (gw_Pc G M [.ref a, .ref t]) (gw_Qv G (fun M2 => M2 a = some (60, .inr (3, [.ref t, .int 0])) ∧ gw_fg (gw_out [60]) M M2)) 0 0 (gw_A G) := by
  refine gw_start (by decide) (Nat.le_of_ble_eq_true rfl) (fun p9 e9 s m b9 mt9 c9 hx hb hr hml hown hlocks hin hE hB hW ls hl => ?_)
  have hts := hE.ts ([.ref a, .ref t] : List Value).toArray
  have hl : lv_has ls 2 [(0, .ref a), (1, .ref t)] := hl
  have hS : va_S (gw_A G) s.heap s.heap [] := va_S.rf
  have hown : s.vm.findClass "Generations$Job" = some m.cls := hown
  have hin : mt9.name = "<init>" := hin
  refine lv_aload_n hx hb d_Job_init_0 rfl (lv_at hl 0 rfl) ?_
  refine W.objInit hx hb hown (hts _ mw179) (hts _ mw127) (hts _ mw128) rfl (by rw [hml]; exact hl.1) rfl d_Job_init_1 (Nat.le_of_ble_eq_true rfl) (Nat.le_of_ble_eq_true rfl) ?_
  refine W.eq (g2 := F0 m 4 ls []) rfl ?_
  refine lv_aload_n hx hb d_Job_init_4 rfl (lv_at hl 0 rfl) ?_
  refine lv_aload_n hx hb d_Job_init_5 rfl (lv_at hl 1 rfl) ?_
  refine gw_putF (ci := 3) (fs := [.null, .int 0]) (v := .ref t) (ty := .array .int) hx hb hts in_Job t_Job t_Job_ok n_Job hown hE.K hW hS hf_a rfl 0 (by decide) (hts _ mw116) (fun _ h9 => h9) rfl hin rfl (by decide +kernel) rfl rfl (Nat.le_of_ble_eq_true rfl) d_Job_init_6 (fun H locs hW hS => ?_)
  have hF1 : gw_fg (gw_out [60]) M (gw_up M a 60 (.inr (3, [.ref t, .int 0]))) := gw_fg.up gw_fg.rf hf_a (show ¬ ((gw_out [60]) 60) by decide) (show ¬ ((gw_out [60]) 60) by decide)
  obtain ⟨M2, eM2⟩ : ∃ z, z = gw_up M a 60 (.inr (3, [.ref t, .int 0])) := ⟨_, rfl⟩
  replace hW : gw_P G.1 vwCl G.2.2.2 M2 H := by rw [eM2]; exact hW
  have hf_a : M2 a = some (60, .inr (3, [.ref t, .int 0])) := by rw [eM2]; exact gw_up_self _ _ _ _
  rw [← eM2] at hF1
  exact gw_vret hx hb hr hlocks hS hW (Nat.le_of_ble_eq_true rfl) (Nat.le_of_ble_eq_true rfl) d_Job_init_9 (⟨hf_a, hF1⟩)
end
section
abbrev b_X_job : ByteArray := prog_1_method_3_code
abbrev y_X_job : MethodName := ⟨"Generations", "job", "()I"⟩
abbrev b_X_jobCalled : ByteArray := prog_1_method_16_code
abbrev y_X_jobCalled : MethodName := ⟨"Generations", "jobCalled", "(I)LGenerations$Job;"⟩
set_option maxRecDepth 20000 in
theorem mw180 : (Cond.classLink "Generations" (87 : Nat) "Generations$Job") ∈ gw_N0 := gw_in (List.mem_append_right _ (gw_tm (i := 255) rfl))
set_option maxRecDepth 20000 in
theorem mw181 : (Cond.instantiable "Generations$Job" (2 : Nat)) ∈ gw_N0 := gw_in (List.mem_append_right _ (gw_tm (i := 256) rfl))
set_option maxRecDepth 20000 in
theorem mw182 : (Cond.code ({ cls := "Generations$Row", name := "copy", desc := "()[I" } : Jvm.MethodName) prog_4_method_3_code (1 : Nat) (Option.some (Jvm.ClassFile.FieldType.array Jvm.ClassFile.FieldType.int))) ∈ gw_N0 := gw_in (List.mem_append_right _ (gw_tm (i := 260) rfl))
set_option maxRecDepth 20000 in
theorem mw183 : (Cond.methodLinkNest "Generations" (89 : Nat) ({ cls := "Generations$Row", name := "copy", desc := "()[I" } : Jvm.MethodName) "Generations") ∈ gw_N0 := gw_in (List.mem_append_right _ (gw_tm (i := 257) rfl))
set_option maxRecDepth 20000 in
theorem mw184 : (Cond.instanceMethod ({ cls := "Generations$Row", name := "copy", desc := "()[I" } : Jvm.MethodName)) ∈ gw_N0 := gw_in (List.mem_append_right _ (gw_tm (i := 259) rfl))
set_option maxRecDepth 20000 in
theorem mw185 : (Cond.selects "Generations$Row" ⟨"Generations$Row", "copy", "()[I"⟩ ⟨"Generations$Row", "copy", "()[I"⟩) ∈ gw_N0 := gw_in (List.mem_append_left _ (List.mem_of_getElem? (i := 13) rfl))
set_option maxRecDepth 20000 in
theorem mw186 : (Cond.code ({ cls := "Generations$Job", name := "<init>", desc := "([I)V" } : Jvm.MethodName) prog_3_method_1_code (2 : Nat) (Option.none : Option Jvm.ClassFile.FieldType)) ∈ gw_N0 := gw_in (List.mem_append_right _ (gw_tm (i := 273) rfl))
set_option maxRecDepth 20000 in
theorem mw187 : (Cond.methodLinkNest "Generations" (93 : Nat) ({ cls := "Generations$Job", name := "<init>", desc := "([I)V" } : Jvm.MethodName) "Generations") ∈ gw_N0 := gw_in (List.mem_append_right _ (gw_tm (i := 271) rfl))
set_option maxRecDepth 20000 in
theorem mw188 : (Cond.instanceMethod ({ cls := "Generations$Job", name := "<init>", desc := "([I)V" } : Jvm.MethodName)) ∈ gw_N0 := gw_in (List.mem_append_right _ (gw_tm (i := 272) rfl))
set_option maxRecDepth 20000 in
theorem mw189 : (Cond.classLink "Generations" (104 : Nat) "java/lang/IllegalArgumentException") ∈ gw_N0 := gw_in (List.mem_append_right _ (gw_tm (i := 333) rfl))
set_option maxRecDepth 20000 in
theorem mw190 : (Cond.initialized "java/lang/IllegalArgumentException") ∈ gw_N0 := gw_in (List.mem_append_right _ (gw_tm (i := 18) rfl))
set_option maxRecDepth 20000 in
theorem mw191 : (Cond.castable "Generations$Job" "Generations$Job") ∈ gw_N0 := gw_in (List.mem_append_right _ (gw_tm (i := 609) rfl))
end
section
theorem d_X_job_0 : decode b_X_job 0 = .ok (.aload_n 0, 1) := by decide +kernel
theorem d_X_job_1 : decode b_X_job 1 = .ok (.getfield 19, 3) := by decide +kernel
theorem d_X_job_4 : decode b_X_job 4 = .ok (.invokevirtual 84, 3) := by decide +kernel
theorem d_X_job_7 : decode b_X_job 7 = .ok (.bipush 40, 2) := by decide +kernel
theorem d_X_job_9 : decode b_X_job 9 = .ok (.if_icmp .lt 5, 3) := by decide +kernel
theorem d_X_job_12 : decode b_X_job 12 = .ok (.iconst (-1), 1) := by decide +kernel
theorem d_X_job_13 : decode b_X_job 13 = .ok (.ireturn, 1) := by decide +kernel
theorem d_X_job_14 : decode b_X_job 14 = .ok (.aload_n 0, 1) := by decide +kernel
theorem d_X_job_15 : decode b_X_job 15 = .ok (.getfield 19, 3) := by decide +kernel
theorem d_X_job_18 : decode b_X_job 18 = .ok (.new 87, 3) := by decide +kernel
theorem d_X_job_21 : decode b_X_job 21 = .ok (.dup, 1) := by decide +kernel
theorem d_X_job_22 : decode b_X_job 22 = .ok (.aload_n 0, 1) := by decide +kernel
theorem d_X_job_23 : decode b_X_job 23 = .ok (.getfield 10, 3) := by decide +kernel
theorem d_X_job_26 : decode b_X_job 26 = .ok (.invokevirtual 89, 3) := by decide +kernel
theorem d_X_job_29 : decode b_X_job 29 = .ok (.invokespecial 93, 3) := by decide +kernel
theorem d_X_job_32 : decode b_X_job 32 = .ok (.invokevirtual 96, 3) := by decide +kernel
theorem d_X_job_35 : decode b_X_job 35 = .ok (.pop, 1) := by decide +kernel
theorem d_X_job_36 : decode b_X_job 36 = .ok (.aload_n 0, 1) := by decide +kernel
theorem d_X_job_37 : decode b_X_job 37 = .ok (.getfield 19, 3) := by decide +kernel
theorem d_X_job_40 : decode b_X_job 40 = .ok (.invokevirtual 84, 3) := by decide +kernel
theorem d_X_job_43 : decode b_X_job 43 = .ok (.ireturn, 1) := by decide +kernel
theorem d_X_jobCalled_0 : decode b_X_jobCalled 0 = .ok (.iload_n 1, 1) := by decide +kernel
theorem d_X_jobCalled_1 : decode b_X_jobCalled 1 = .ok (.iconst 1, 1) := by decide +kernel
theorem d_X_jobCalled_2 : decode b_X_jobCalled 2 = .ok (.if_icmp .lt 14, 3) := by decide +kernel
theorem d_X_jobCalled_16 : decode b_X_jobCalled 16 = .ok (.new 104, 3) := by decide +kernel
theorem d_X_jobCalled_19 : decode b_X_jobCalled 19 = .ok (.dup, 1) := by decide +kernel
theorem d_X_jobCalled_20 : decode b_X_jobCalled 20 = .ok (.ldc 164, 2) := by decide +kernel
theorem d_X_jobCalled_22 : decode b_X_jobCalled 22 = .ok (.invokespecial 108, 3) := by decide +kernel
theorem d_X_jobCalled_25 : decode b_X_jobCalled 25 = .ok (.athrow, 1) := by decide +kernel
theorem d_X_jobCalled_5 : decode b_X_jobCalled 5 = .ok (.iload_n 1, 1) := by decide +kernel
theorem d_X_jobCalled_6 : decode b_X_jobCalled 6 = .ok (.aload_n 0, 1) := by decide +kernel
theorem d_X_jobCalled_7 : decode b_X_jobCalled 7 = .ok (.getfield 19, 3) := by decide +kernel
theorem d_X_jobCalled_10 : decode b_X_jobCalled 10 = .ok (.invokevirtual 84, 3) := by decide +kernel
theorem d_X_jobCalled_13 : decode b_X_jobCalled 13 = .ok (.if_icmp .le 13, 3) := by decide +kernel
theorem d_X_jobCalled_26 : decode b_X_jobCalled 26 = .ok (.aload_n 0, 1) := by decide +kernel
theorem d_X_jobCalled_27 : decode b_X_jobCalled 27 = .ok (.getfield 19, 3) := by decide +kernel
theorem d_X_jobCalled_30 : decode b_X_jobCalled 30 = .ok (.iload_n 1, 1) := by decide +kernel
theorem d_X_jobCalled_31 : decode b_X_jobCalled 31 = .ok (.iconst 1, 1) := by decide +kernel
theorem d_X_jobCalled_32 : decode b_X_jobCalled 32 = .ok (.isub, 1) := by decide +kernel
theorem d_X_jobCalled_33 : decode b_X_jobCalled 33 = .ok (.invokevirtual 141, 3) := by decide +kernel
theorem d_X_jobCalled_36 : decode b_X_jobCalled 36 = .ok (.checkcast 87, 3) := by decide +kernel
theorem d_X_jobCalled_39 : decode b_X_jobCalled 39 = .ok (.areturn, 1) := by decide +kernel
end
section
theorem gp_none {M M1 : gw_M} {q : Nat} (h : gp_S M M1) (hq : M1 q = none) : M q = none := by
  cases z : M q with
  | none => rfl
  | some x =>
    obtain ⟨r, e⟩ := x
    obtain ⟨e2, h2⟩ := h r q ⟨e, z⟩
    rw [hq] at h2
    cases h2
theorem gx_jc {k : Int32} {j : Nat} (h1 : ¬ k < 1) (h2 : k ≤ nI j) (hj : j ≤ 1000) : ∃ i : Nat, i < j ∧ k - 1 = nI i := by
  have a1 := Int32.not_lt.mp h1
  rw [Int32.le_iff_toInt_le, gi_1] at a1
  rw [Int32.le_iff_toInt_le, nI_toInt (by omega)] at h2
  have e1 := gi_sub (a := k) (b := 1) (by rw [gi_1]; omega)
  rw [gi_1] at e1
  exact ⟨(k.toInt - 1).toNat, by omega, gi_nI (by rw [e1]; omega) (by omega)⟩
set_option maxHeartbeats 4000000 in
set_option maxRecDepth 100000 in
theorem v_jobF (l : Launch) (G : gw_G) (M : gw_M) (A : Nat → Nat) (lim sc E : Int32) (j n rs : Nat) (hX : gx_V G A lim sc E j n rs M) (hj40 : 40 ≤ j) : Met l y_X_job [.code y_X_job b_X_job 1 (some .int)] ({ frames := 1, cells := 0, slots := 0, locals := 20 }) (gw_Pc G M [.ref (A 0)]) (gw_Qi G (fun r M2 => -1 = r ∧ gx_V G A lim sc E j n rs M2 ∧ gw_fg (gw_out [1, 2, 3, 4, 5, 6, 7, 8, 9, 10, 11]) M M2)) 0 0 (gw_A G) := by
  refine gw_start (by decide) (Nat.le_of_ble_eq_true rfl) (fun p9 e9 s m b9 mt9 c9 hx hb hr hml hown hlocks hin hE hB hW ls hl => ?_)
  have hts := hE.ts ([.ref (A 0)] : List Value).toArray
  have hl : lv_has ls 1 [(0, .ref (A 0))] := hl
  have hown : s.vm.findClass "Generations" = some m.cls := hown
  have hj9 := hX.jobs.le
  have hn9 := hX.known.le
  have hr9 := hX.rs256
  refine gw_gen (I := fun z => gx_V G A lim sc E j n rs z) (P := gw_out [1, 2, 3, 4, 5, 6, 7, 8, 9, 10, 11]) hX hW (fun H locs Mw hW hS hX hF => ?_)
  have hX : gx_V G A lim sc E j n rs Mw := hX
  refine lv_aload_n hx hb d_X_job_0 rfl (lv_at hl 0 rfl) ?_
  obtain ⟨gco1, f3o1, f8o1, hf_x, hf_row, hf_nums, hf_gone, hgco1, hrso1, -, -, -, -⟩ := id hX
  refine gw_get (ci := 0) (fs := [.int lim, .int sc, .int E, .ref (A 1), .ref (A 3), .ref (A 4), .ref (A 5), .ref (A 6), .int (nI gco1)]) hx hb hts in_X hown hE.K hW hf_x rfl 4 (by decide) (hts _ mw66) (fun _ h9 => h9) rfl d_X_job_1 ?_
  obtain ⟨_, hc2⟩ := hX.jobs.cell
  refine gr_calli (va_runV (As := []) (rest := []) ⟨hx, hb, hml, hown, hts⟩ (s_size l G Mw (A 3) 4 6 10 j hX.jobs) (cwV 0 hts (gw_gv mw25 mw26 mw27 mw14 mw24) rfl rfl rfl (by decide +kernel) ⟨Nat.le_of_ble_eq_true rfl, Nat.le_of_ble_eq_true rfl⟩) (gw_pv hE hB hS hW rfl hc2) rfl rfl hl.1 rfl (lv_room (Nat.le_of_ble_eq_true rfl)) d_X_job_4 ⟨Nat.le_of_ble_eq_true rfl, Nat.le_of_ble_eq_true rfl⟩) (fun r3 hw4 => ?_)
  subst hw4
  refine lv_bipush (v := 40) hx hb d_X_job_7 (by decide) ?_
  refine lv_icmp_lt (tgt := 14) hx hb d_X_job_9 (by decide) (fun c9 => ?_) (fun c9 => ?_)
  · exact absurd ((nI_ltI (b := 40) (by omega) (by omega)).mp c9) (by omega)
  · refine lv_iconst (v := -1) hx hb d_X_job_12 (by decide) ?_
    exact gw_iret hx hb hr hlocks hS hW (Nat.le_of_ble_eq_true rfl) (Nat.le_of_ble_eq_true rfl) d_X_job_13 ⟨rfl, hX, hF⟩

set_option maxHeartbeats 4000000 in
set_option maxRecDepth 100000 in
theorem v_jobN (l : Launch) (G : gw_G) (M : gw_M) (A : Nat → Nat) (lim sc E : Int32) (j n rs : Nat) (hX : gx_V G A lim sc E j n rs M) (hj40 : j < 40) (h255 : rs ≤ 255) : Met l y_X_job [.code y_X_job b_X_job 1 (some .int)] ({ frames := 7, cells := 3, slots := 1258, locals := 221 }) (gw_Pc G M [.ref (A 0)]) (gw_Qi G (fun r M2 => nI (j + 1) = r ∧ gx_V G A lim sc E (j + 1) n rs M2 ∧ gw_fg (gw_out [1, 2, 3, 4, 5, 6, 7, 8, 9, 10, 11, 60]) M M2)) 3 1258 (gw_A G) := by
  refine gw_start (by decide) (Nat.le_of_ble_eq_true rfl) (fun p9 e9 s m b9 mt9 c9 hx hb hr hml hown hlocks hin hE hB hW ls hl => ?_)
  have hts := hE.ts ([.ref (A 0)] : List Value).toArray
  have hl : lv_has ls 1 [(0, .ref (A 0))] := hl
  have hown : s.vm.findClass "Generations" = some m.cls := hown
  have hj9 := hX.jobs.le
  have hn9 := hX.known.le
  have hr9 := hX.rs256
  refine gw_gen (I := fun z => gx_V G A lim sc E j n rs z) (P := gw_out [1, 2, 3, 4, 5, 6, 7, 8, 9, 10, 11, 60]) hX hW (fun H locs Mw hW hS hX hF => ?_)
  have hX : gx_V G A lim sc E j n rs Mw := hX
  refine lv_aload_n hx hb d_X_job_0 rfl (lv_at hl 0 rfl) ?_
  obtain ⟨gco1, f3o1, f8o1, hf_x, hf_row, hf_nums, hf_gone, hgco1, hrso1, -, -, -, -⟩ := id hX
  refine gw_get (ci := 0) (fs := [.int lim, .int sc, .int E, .ref (A 1), .ref (A 3), .ref (A 4), .ref (A 5), .ref (A 6), .int (nI gco1)]) hx hb hts in_X hown hE.K hW hf_x rfl 4 (by decide) (hts _ mw66) (fun _ h9 => h9) rfl d_X_job_1 ?_
  obtain ⟨_, hc2⟩ := hX.jobs.cell
  refine gr_calli (va_runV (As := []) (rest := []) ⟨hx, hb, hml, hown, hts⟩ (s_size l G Mw (A 3) 4 6 10 j hX.jobs) (cwV 0 hts (gw_gv mw25 mw26 mw27 mw14 mw24) rfl rfl rfl (by decide +kernel) ⟨Nat.le_of_ble_eq_true rfl, Nat.le_of_ble_eq_true rfl⟩) (gw_pv hE hB hS hW rfl hc2) rfl rfl hl.1 rfl (lv_room (Nat.le_of_ble_eq_true rfl)) d_X_job_4 ⟨Nat.le_of_ble_eq_true rfl, Nat.le_of_ble_eq_true rfl⟩) (fun r3 hw4 => ?_)
  subst hw4
  refine lv_bipush (v := 40) hx hb d_X_job_7 (by decide) ?_
  refine lv_icmp_lt (tgt := 14) hx hb d_X_job_9 (by decide) (fun c9 => ?_) (fun c9 => ?_)
  · refine lv_aload_n hx hb d_X_job_14 rfl (lv_at hl 0 rfl) ?_
    refine gw_get (ci := 0) (fs := [.int lim, .int sc, .int E, .ref (A 1), .ref (A 3), .ref (A 4), .ref (A 5), .ref (A 6), .int (nI gco1)]) hx hb hts in_X hown hE.K hW hf_x rfl 4 (by decide) (hts _ mw66) (fun _ h9 => h9) rfl d_X_job_15 ?_
    refine gw_new (ci := 3) (fs := [.null, .int 0]) hx hb hts in_Job t_Job t_Job_ok hown (hts _ mw180) (hts _ mw181) (hts _ mw121) hE.K hW hS hB rfl (fun j hj => by rcases (show j = 0 ∨ j = 1 by omega) with rfl | rfl <;> rfl) (Nat.le_of_ble_eq_true rfl) (Nat.le_of_ble_eq_true rfl) d_X_job_18 60 (fun q5 H hq6 hW hS => ?_)
    refine W.widen (k := 1) (n := 2) (Nat.le_refl _) (Nat.le_refl _) ?_
    have hXn : gx_V G A lim sc E j n rs (gw_up Mw q5 60 (.inr (3, [.null, .int 0]))) := hX.newp hq6 (hX.z.new' hq6 (by decide))
    have hPn : gp_S Mw (gw_up Mw q5 60 (.inr (3, [.null, .int 0]))) := gp_new hq6
    have hF7 : gw_fg (gw_out [1, 2, 3, 4, 5, 6, 7, 8, 9, 10, 11, 60]) M (gw_up Mw q5 60 (.inr (3, [.null, .int 0]))) := gw_fg.new hF hq6 (show ¬ ((gw_out [1, 2, 3, 4, 5, 6, 7, 8, 9, 10, 11, 60]) 60) by decide)
    obtain ⟨M8, eM8⟩ : ∃ z, z = gw_up Mw q5 60 (.inr (3, [.null, .int 0])) := ⟨_, rfl⟩
    replace hW : gw_P G.1 vwCl G.2.2.2 M8 H := by rw [eM8]; exact hW
    have hf_x : M8 (A 0) = some (1, .inr (0, [.int lim, .int sc, .int E, .ref (A 1), .ref (A 3), .ref (A 4), .ref (A 5), .ref (A 6), .int (nI gco1)])) := by rw [eM8]; exact gw_keepN hf_x hq6
    have hf_row : M8 (A 1) = some (2, .inr (1, [.ref (A 2), .int (nI rs)])) := by rw [eM8]; exact gw_keepN hf_row hq6
    have hf_nums : M8 (A 2) = some (3, .inl (G.2.1 0, 256, .inl f3o1)) := by rw [eM8]; exact gw_keepN hf_nums hq6
    have hf_gone : M8 (A 6) = some (8, .inl (G.2.1 0, 512, .inl f8o1)) := by rw [eM8]; exact gw_keepN hf_gone hq6
    have hf_q5 : M8 q5 = some (60, .inr (3, [.null, .int 0])) := by rw [eM8]; exact gw_up_self _ _ _ _
    rw [← eM8] at hF7
    rw [← eM8] at hXn hPn
    replace hX := hXn
    clear hXn hPn
    have hp_q5 : gp_R M8 60 q5 := ⟨_, hf_q5⟩
    refine lv_dup hx hb d_X_job_21 rfl ?_
    refine lv_aload_n hx hb d_X_job_22 rfl (lv_at hl 0 rfl) ?_
    refine gw_get (ci := 0) (fs := [.int lim, .int sc, .int E, .ref (A 1), .ref (A 3), .ref (A 4), .ref (A 5), .ref (A 6), .int (nI gco1)]) hx hb hts in_X hown hE.K hW hf_x rfl 3 (by decide) (hts _ mw45) (fun _ h9 => h9) rfl d_X_job_23 ?_
    refine gw_callr hS (va_runVN (As := []) (rest := [.ref q5, .ref q5, .ref (A 3)]) ⟨hx, hb, hml, hown, hts⟩ (v_copy l G M8 A lim sc E j n rs hX   (by omega)) ⟨va_cnB 0 hts (gw_g1 mw182) rfl rfl rfl (hE.nw mw183) (hts _ mw48) (by decide +kernel) ⟨Nat.le_of_ble_eq_true rfl, Nat.le_of_ble_eq_true rfl⟩, hts _ mw184, hts _ mw185⟩ (gw_pv hE hB hS hW rfl hf_row) rfl rfl hl.1 rfl (lv_room (Nat.le_of_ble_eq_true rfl)) d_X_job_26 ⟨Nat.le_of_ble_eq_true rfl, Nat.le_of_ble_eq_true rfl⟩) (fun r9 M10 H locs hw11 hW hS => ?_)
    refine W.widen (k := 2) (n := 258) (Nat.le_refl _) (Nat.le_refl _) ?_
    obtain ⟨hp_13, hX, hfr12⟩ := hw11
    have hF14 : gw_fg (gw_out [1, 2, 3, 4, 5, 6, 7, 8, 9, 10, 11, 60]) M M10 := gw_fg.tr hF7 (gw_fg.wk hfr12 (by decide))
    replace hp_q5 := hfr12.2 _ _ hp_q5
    replace hf_q5 := (hfr12.1 _ _ _ (by decide)).mp hf_q5
    clear hfr12
    refine gw_callv hS (va_runIN (As := [.ref r9]) (rest := [.ref q5, .ref (A 3)]) ⟨hx, hb, hml, hown, hts⟩ (e_jobInit l G M10 q5 r9 hf_q5) ⟨va_cnB 1 hts (gw_g1 mw186) rfl rfl rfl (hE.nw mw187) (hts _ mw121) (by decide +kernel) ⟨Nat.le_of_ble_eq_true rfl, Nat.le_of_ble_eq_true rfl⟩, rfl, hts _ mw188⟩ (gw_ps hE hB hS hW) rfl rfl hl.1 rfl (lv_room (Nat.le_of_ble_eq_true rfl)) d_X_job_29 ⟨Nat.le_of_ble_eq_true rfl, Nat.le_of_ble_eq_true rfl⟩) (fun M15 H locs hw16 hW hS => ?_)
    obtain ⟨hf_q5, hfr17⟩ := hw16
    have hF18 : gw_fg (gw_out [1, 2, 3, 4, 5, 6, 7, 8, 9, 10, 11, 60]) M M15 := gw_fg.tr hF14 (gw_fg.wk hfr17 (by decide))
    replace hX : gx_V G A lim sc E j n rs M15 := hX.stays hfr17.1 (by decide)
    replace hp_q5 := hfr17.2 _ _ hp_q5
    replace hp_13 := hfr17.2 _ _ hp_13
    obtain ⟨M19, eM19⟩ : ∃ z, z = gw_up M15 q5 10 (.inr (3, [.ref r9, .int 0])) := ⟨_, rfl⟩
    have hF20 : gw_fg (gw_out [1, 2, 3, 4, 5, 6, 7, 8, 9, 10, 11, 60]) M M19 := by rw [eM19]; exact gw_fg.rr hF18 (gp_none hF.2 hq6) (by decide)
    replace hW : gw_P G.1 vwCl G.2.2.2 M19 H := by rw [eM19]; exact gw_P.rr hW hf_q5
    replace hX : gx_V G A lim sc E j n rs M19 := by rw [eM19]; exact hX.rr hf_q5 hp_13
    replace hp_13 : gp_R M19 11 r9 := by rw [eM19]; exact gp_rr hf_q5 (by decide) hp_13
    replace hf_q5 : M19 q5 = some (10, .inr (3, [.ref r9, .int 0])) := by rw [eM19]; exact gw_up_self _ _ _ _
    obtain ⟨_, hc21⟩ := hX.jobs.cell
    refine gw_calli hS (va_runV (As := [.ref q5]) (rest := []) ⟨hx, hb, hml, hown, hts⟩ (s_addJ l G M19 (A 3) j q5 r9 0 hX.jobs (by omega) (fun a e q => by obtain ⟨_, _, rfl, _⟩ := hX.z.2.1 a e q; exact ⟨_, rfl⟩) hf_q5) (cwV 1 hts (gw_gv mw159 mw160 mw161 mw14 mw158) rfl rfl rfl (by decide +kernel) ⟨Nat.le_of_ble_eq_true rfl, Nat.le_of_ble_eq_true rfl⟩) (gw_pv hE hB hS hW rfl hc21) rfl rfl hl.1 rfl (lv_room (Nat.le_of_ble_eq_true rfl)) d_X_job_32 ⟨Nat.le_of_ble_eq_true rfl, Nat.le_of_ble_eq_true rfl⟩) (fun r22 M23 H locs hw24 hW hS => ?_)
    refine W.widen (k := 3) (n := 1258) (Nat.le_refl _) (Nat.le_refl _) ?_
    obtain ⟨rfl, hL26, hfr25⟩ := hw24
    replace hX : gx_V G A lim sc E (j + 1) n rs M23 := hX.addJ hfr25.1 hfr25.2 hL26
    have hF27 : gw_fg (gw_out [1, 2, 3, 4, 5, 6, 7, 8, 9, 10, 11, 60]) M M23 := gw_fg.tr hF20 (gw_fg.wk hfr25 (by decide))
    replace hp_13 := hfr25.2 _ _ hp_13
    clear hfr25 hL26
    refine lv_pop hx hb d_X_job_35 rfl ?_
    refine lv_aload_n hx hb d_X_job_36 rfl (lv_at hl 0 rfl) ?_
    obtain ⟨gco28, f3o28, f8o28, hf_x, hf_row, hf_nums, hf_gone, hgco28, hrso28, -, -, -, -⟩ := id hX
    refine gw_get (ci := 0) (fs := [.int lim, .int sc, .int E, .ref (A 1), .ref (A 3), .ref (A 4), .ref (A 5), .ref (A 6), .int (nI gco28)]) hx hb hts in_X hown hE.K hW hf_x rfl 4 (by decide) (hts _ mw66) (fun _ h9 => h9) rfl d_X_job_37 ?_
    obtain ⟨_, hc29⟩ := hX.jobs.cell
    refine gr_calli (va_runV (As := []) (rest := []) ⟨hx, hb, hml, hown, hts⟩ (s_size l G M23 (A 3) 4 6 10 (j + 1) hX.jobs) (cwV 0 hts (gw_gv mw25 mw26 mw27 mw14 mw24) rfl rfl rfl (by decide +kernel) ⟨Nat.le_of_ble_eq_true rfl, Nat.le_of_ble_eq_true rfl⟩) (gw_pv hE hB hS hW rfl hc29) rfl rfl hl.1 rfl (lv_room (Nat.le_of_ble_eq_true rfl)) d_X_job_40 ⟨Nat.le_of_ble_eq_true rfl, Nat.le_of_ble_eq_true rfl⟩) (fun r30 hw31 => ?_)
    subst hw31
    exact gw_iret hx hb hr hlocks hS hW (Nat.le_of_ble_eq_true rfl) (Nat.le_of_ble_eq_true rfl) d_X_job_43 ⟨rfl, hX, hF27⟩
  · exact absurd (nI_lt (b := 40) hj40 (by omega)) c9

set_option maxHeartbeats 4000000 in
set_option maxRecDepth 100000 in
theorem u_jobCalled (l : Launch) (hl9 : l.stackTraces = false) (G : gw_G) (M : gw_M) (A : Nat → Nat) (lim sc E : Int32) (j n rs : Nat) (hX : gx_V G A lim sc E j n rs M) (k : Int32) : gu_Met l y_X_jobCalled [.code y_X_jobCalled b_X_jobCalled 2 (some (.object "Generations$Job"))] ({ frames := 6, cells := 1, slots := 6, locals := 82 }) G M [.ref (A 0), .int k] (gu_Nr (gr_Qr (fun r => gp_R M 10 r)) 1 6) (fun M2 => M = M2) 1 6 := by
  refine gu_start (by decide) (Nat.le_of_ble_eq_true rfl) (fun p9 e9 s m b9 mt9 c9 hEx hx hb hr hml hown hlocks hin hE hB hW ls hl => ?_)
  have hts := hE.ts ([.ref (A 0), .int k] : List Value).toArray
  have hl : lv_has ls 2 [(0, .ref (A 0)), (1, .int k)] := hl
  have hown : s.vm.findClass "Generations" = some m.cls := hown
  have hS : va_S (gw_A G) s.heap s.heap [] := va_S.rf
  have hj9 := hX.jobs.le
  refine lv_iload_n hx hb d_X_jobCalled_0 rfl (lv_at hl 1 rfl) ?_
  refine lv_iconst (v := 1) hx hb d_X_jobCalled_1 (by decide) ?_
  refine lv_icmp_lt (tgt := 16) hx hb d_X_jobCalled_2 (by decide) (fun c2 => ?_) (fun c2 => ?_)
  · exact gu_throwS (own := "Generations") (text := "there is no such job") (names := ["java/lang/RuntimeException", "java/lang/Exception"]) (sa := G.2.2.1 1) hx hb hl9 hown (by decide +kernel) (hts _ mw189) (hts _ mw190) hE.2.2.2.2.2.2.1.1 hE.2.2.2.2.2.2.1.2 (gt_hat hE _ gt_ws3) (hl.1.trans hml.symm) d_X_jobCalled_16 d_X_jobCalled_19 d_X_jobCalled_20 d_X_jobCalled_22 d_X_jobCalled_25 hEx (Nat.le_of_ble_eq_true rfl) (Nat.le_of_ble_eq_true rfl) (Nat.le_of_ble_eq_true rfl) (Nat.le_of_ble_eq_true rfl) (Nat.le_of_ble_eq_true rfl) (Nat.le_of_ble_eq_true rfl) hlocks hW rfl
  · refine lv_iload_n hx hb d_X_jobCalled_5 rfl (lv_at hl 1 rfl) ?_
    refine lv_aload_n hx hb d_X_jobCalled_6 rfl (lv_at hl 0 rfl) ?_
    obtain ⟨gco1, f3o1, f8o1, hf_x, hf_row, hf_nums, hf_gone, hgco1, hrso1, -, -, -, -⟩ := id hX
    refine gw_get (ci := 0) (fs := [.int lim, .int sc, .int E, .ref (A 1), .ref (A 3), .ref (A 4), .ref (A 5), .ref (A 6), .int (nI gco1)]) hx hb hts in_X hown hE.K hW hf_x rfl 4 (by decide) (hts _ mw66) (fun _ h9 => h9) rfl d_X_jobCalled_7 ?_
    obtain ⟨_, hc2⟩ := hX.jobs.cell
    refine gr_calli (va_runV (As := []) (rest := [.int k]) ⟨hx, hb, hml, hown, hts⟩ (s_size l G M (A 3) 4 6 10 j hX.jobs) (cwV 0 hts (gw_gv mw25 mw26 mw27 mw14 mw24) rfl rfl rfl (by decide +kernel) ⟨Nat.le_of_ble_eq_true rfl, Nat.le_of_ble_eq_true rfl⟩) (gw_pv hE hB hS hW rfl hc2) rfl rfl hl.1 rfl (lv_room (Nat.le_of_ble_eq_true rfl)) d_X_jobCalled_10 ⟨Nat.le_of_ble_eq_true rfl, Nat.le_of_ble_eq_true rfl⟩) (fun r3 hw4 => ?_)
    subst hw4
    refine lv_icmp_le (tgt := 26) hx hb d_X_jobCalled_13 (by decide) (fun c13 => ?_) (fun c13 => ?_)
    · refine lv_aload_n hx hb d_X_jobCalled_26 rfl (lv_at hl 0 rfl) ?_
      refine gw_get (ci := 0) (fs := [.int lim, .int sc, .int E, .ref (A 1), .ref (A 3), .ref (A 4), .ref (A 5), .ref (A 6), .int (nI gco1)]) hx hb hts in_X hown hE.K hW hf_x rfl 4 (by decide) (hts _ mw66) (fun _ h9 => h9) rfl d_X_jobCalled_27 ?_
      refine lv_iload_n hx hb d_X_jobCalled_30 rfl (lv_at hl 1 rfl) ?_
      refine lv_iconst (v := 1) hx hb d_X_jobCalled_31 (by decide) ?_
      refine lv_isub hx hb d_X_jobCalled_32 ?_
      obtain ⟨i9, hi9, ei9⟩ := gx_jc c2 c13 (by omega)
      refine W.eq (g2 := F0 m 33 ls [.int (nI i9), .ref (A 3)]) (by rw [ei9]) ?_
      obtain ⟨_, hc5⟩ := hX.jobs.cell
      refine gr_callr (va_runV (As := [.int (nI i9)]) (rest := []) ⟨hx, hb, hml, hown, hts⟩ (s_get l G M (A 3) 4 6 10 j i9 hX.jobs (by omega)) (cwV 1 hts (gw_gv mw30 mw31 mw32 mw14 mw29) rfl rfl rfl (by decide +kernel) ⟨Nat.le_of_ble_eq_true rfl, Nat.le_of_ble_eq_true rfl⟩) (gw_pv hE hB hS hW rfl hc5) rfl rfl hl.1 rfl (lv_room (Nat.le_of_ble_eq_true rfl)) d_X_jobCalled_33 ⟨Nat.le_of_ble_eq_true rfl, Nat.le_of_ble_eq_true rfl⟩) (fun r6 hw7 => ?_)
      obtain ⟨u8t, u8e, hf_u8, hp_u8⟩ := hX.g10 hw7
      refine va_castY hx hb hown (hts _ mw180) (hE.nw mw191) (gw_recv hE.K hW rfl hf_u8) d_X_jobCalled_36 ?_
      exact gu_ofR (gr_aret hx hb hr hlocks (Or.inl ⟨_, rfl⟩) d_X_jobCalled_39 hw7)
    · exact gu_throwS (own := "Generations") (text := "there is no such job") (names := ["java/lang/RuntimeException", "java/lang/Exception"]) (sa := G.2.2.1 1) hx hb hl9 hown (by decide +kernel) (hts _ mw189) (hts _ mw190) hE.2.2.2.2.2.2.1.1 hE.2.2.2.2.2.2.1.2 (gt_hat hE _ gt_ws3) (hl.1.trans hml.symm) d_X_jobCalled_16 d_X_jobCalled_19 d_X_jobCalled_20 d_X_jobCalled_22 d_X_jobCalled_25 hEx (Nat.le_of_ble_eq_true rfl) (Nat.le_of_ble_eq_true rfl) (Nat.le_of_ble_eq_true rfl) (Nat.le_of_ble_eq_true rfl) (Nat.le_of_ble_eq_true rfl) (Nat.le_of_ble_eq_true rfl) hlocks hW rfl
end
section
abbrev b_X_relative : ByteArray := prog_1_method_4_code
abbrev y_X_relative : MethodName := ⟨"Generations", "relative", "(II)I"⟩
abbrev b_X_make : ByteArray := prog_1_method_5_code
abbrev y_X_make : MethodName := ⟨"Generations", "make", "(II)I"⟩
abbrev b_X_end : ByteArray := prog_1_method_6_code
abbrev y_X_end : MethodName := ⟨"Generations", "end", "(IIZ)I"⟩
abbrev b_X_restart : ByteArray := prog_1_method_8_code
abbrev y_X_restart : MethodName := ⟨"Generations", "restart", "(II)I"⟩
set_option maxRecDepth 20000 in
theorem mw192 : (Cond.code ({ cls := "Generations", name := "jobCalled", desc := "(I)LGenerations$Job;" } : Jvm.MethodName) prog_1_method_16_code (2 : Nat) (Option.some (Jvm.ClassFile.FieldType.object "Generations$Job"))) ∈ gw_N0 := gw_in (List.mem_append_right _ (gw_tm (i := 332) rfl))
set_option maxRecDepth 20000 in
theorem mw193 : (Cond.methodLink "Generations" (100 : Nat) ({ cls := "Generations", name := "jobCalled", desc := "(I)LGenerations$Job;" } : Jvm.MethodName)) ∈ gw_N0 := gw_in (List.mem_append_right _ (gw_tm (i := 329) rfl))
set_option maxRecDepth 20000 in
theorem mw194 : (Cond.instanceMethod ({ cls := "Generations", name := "jobCalled", desc := "(I)LGenerations$Job;" } : Jvm.MethodName)) ∈ gw_N0 := gw_in (List.mem_append_right _ (gw_tm (i := 331) rfl))
set_option maxRecDepth 20000 in
theorem mw195 : (Cond.selects "Generations" ⟨"Generations", "jobCalled", "(I)LGenerations$Job;"⟩ ⟨"Generations", "jobCalled", "(I)LGenerations$Job;"⟩) ∈ gw_N0 := gw_in (List.mem_append_left _ (List.mem_of_getElem? (i := 16) rfl))
set_option maxRecDepth 20000 in
theorem mw196 : (Cond.code ({ cls := "Generations$Job", name := "countedFromNewest", desc := "(I)I" } : Jvm.MethodName) prog_3_method_4_code (3 : Nat) (Option.some Jvm.ClassFile.FieldType.int)) ∈ gw_N0 := gw_in (List.mem_append_right _ (gw_tm (i := 417) rfl))
set_option maxRecDepth 20000 in
theorem mw197 : (Cond.methodLinkNest "Generations" (118 : Nat) ({ cls := "Generations$Job", name := "countedFromNewest", desc := "(I)I" } : Jvm.MethodName) "Generations") ∈ gw_N0 := gw_in (List.mem_append_right _ (gw_tm (i := 414) rfl))
set_option maxRecDepth 20000 in
theorem mw198 : (Cond.instanceMethod ({ cls := "Generations$Job", name := "countedFromNewest", desc := "(I)I" } : Jvm.MethodName)) ∈ gw_N0 := gw_in (List.mem_append_right _ (gw_tm (i := 416) rfl))
set_option maxRecDepth 20000 in
theorem mw199 : (Cond.selects "Generations$Job" ⟨"Generations$Job", "countedFromNewest", "(I)I"⟩ ⟨"Generations$Job", "countedFromNewest", "(I)I"⟩) ∈ gw_N0 := gw_in (List.mem_append_left _ (List.mem_of_getElem? (i := 21) rfl))
set_option maxRecDepth 20000 in
theorem mw200 : (Cond.code ({ cls := "Generations$Job", name := "plus", desc := "(I)I" } : Jvm.MethodName) prog_3_method_3_code (2 : Nat) (Option.some Jvm.ClassFile.FieldType.int)) ∈ gw_N0 := gw_in (List.mem_append_right _ (gw_tm (i := 403) rfl))
set_option maxRecDepth 20000 in
theorem mw201 : (Cond.methodLinkNest "Generations" (111 : Nat) ({ cls := "Generations$Job", name := "plus", desc := "(I)I" } : Jvm.MethodName) "Generations") ∈ gw_N0 := gw_in (List.mem_append_right _ (gw_tm (i := 400) rfl))
set_option maxRecDepth 20000 in
theorem mw202 : (Cond.instanceMethod ({ cls := "Generations$Job", name := "plus", desc := "(I)I" } : Jvm.MethodName)) ∈ gw_N0 := gw_in (List.mem_append_right _ (gw_tm (i := 402) rfl))
set_option maxRecDepth 20000 in
theorem mw203 : (Cond.selects "Generations$Job" ⟨"Generations$Job", "plus", "(I)I"⟩ ⟨"Generations$Job", "plus", "(I)I"⟩) ∈ gw_N0 := gw_in (List.mem_append_left _ (List.mem_of_getElem? (i := 18) rfl))
set_option maxRecDepth 20000 in
theorem mw204 : (Cond.code ({ cls := "Generations$Generation", name := "isNewOneOf", desc := "(I)Z" } : Jvm.MethodName) prog_2_method_4_code (2 : Nat) (Option.some Jvm.ClassFile.FieldType.boolean)) ∈ gw_N0 := gw_in (List.mem_append_right _ (gw_tm (i := 412) rfl))
set_option maxRecDepth 20000 in
theorem mw205 : (Cond.methodLinkNest "Generations" (115 : Nat) ({ cls := "Generations$Generation", name := "isNewOneOf", desc := "(I)Z" } : Jvm.MethodName) "Generations") ∈ gw_N0 := gw_in (List.mem_append_right _ (gw_tm (i := 409) rfl))
set_option maxRecDepth 20000 in
theorem mw206 : (Cond.instanceMethod ({ cls := "Generations$Generation", name := "isNewOneOf", desc := "(I)Z" } : Jvm.MethodName)) ∈ gw_N0 := gw_in (List.mem_append_right _ (gw_tm (i := 411) rfl))
set_option maxRecDepth 20000 in
theorem mw207 : (Cond.selects "Generations$Generation" ⟨"Generations$Generation", "isNewOneOf", "(I)Z"⟩ ⟨"Generations$Generation", "isNewOneOf", "(I)Z"⟩) ∈ gw_N0 := gw_in (List.mem_append_left _ (List.mem_of_getElem? (i := 20) rfl))
set_option maxRecDepth 20000 in
theorem mw208 : (Cond.code ({ cls := "Generations$Generation", name := "isInTheWayOf", desc := "(I)Z" } : Jvm.MethodName) prog_2_method_5_code (2 : Nat) (Option.some Jvm.ClassFile.FieldType.boolean)) ∈ gw_N0 := gw_in (List.mem_append_right _ (gw_tm (i := 429) rfl))
set_option maxRecDepth 20000 in
theorem mw209 : (Cond.methodLinkNest "Generations" (123 : Nat) ({ cls := "Generations$Generation", name := "isInTheWayOf", desc := "(I)Z" } : Jvm.MethodName) "Generations") ∈ gw_N0 := gw_in (List.mem_append_right _ (gw_tm (i := 426) rfl))
set_option maxRecDepth 20000 in
theorem mw210 : (Cond.instanceMethod ({ cls := "Generations$Generation", name := "isInTheWayOf", desc := "(I)Z" } : Jvm.MethodName)) ∈ gw_N0 := gw_in (List.mem_append_right _ (gw_tm (i := 428) rfl))
set_option maxRecDepth 20000 in
theorem mw211 : (Cond.selects "Generations$Generation" ⟨"Generations$Generation", "isInTheWayOf", "(I)Z"⟩ ⟨"Generations$Generation", "isInTheWayOf", "(I)Z"⟩) ∈ gw_N0 := gw_in (List.mem_append_left _ (List.mem_of_getElem? (i := 22) rfl))
set_option maxRecDepth 20000 in
theorem mw212 : (Cond.code ({ cls := "Generations", name := "anotherMakes", desc := "(I)Z" } : Jvm.MethodName) prog_1_method_21_code (3 : Nat) (Option.some Jvm.ClassFile.FieldType.boolean)) ∈ gw_N0 := gw_in (List.mem_append_right _ (gw_tm (i := 433) rfl))
set_option maxRecDepth 20000 in
theorem mw213 : (Cond.methodLink "Generations" (126 : Nat) ({ cls := "Generations", name := "anotherMakes", desc := "(I)Z" } : Jvm.MethodName)) ∈ gw_N0 := gw_in (List.mem_append_right _ (gw_tm (i := 430) rfl))
set_option maxRecDepth 20000 in
theorem mw214 : (Cond.instanceMethod ({ cls := "Generations", name := "anotherMakes", desc := "(I)Z" } : Jvm.MethodName)) ∈ gw_N0 := gw_in (List.mem_append_right _ (gw_tm (i := 432) rfl))
set_option maxRecDepth 20000 in
theorem mw215 : (Cond.selects "Generations" ⟨"Generations", "anotherMakes", "(I)Z"⟩ ⟨"Generations", "anotherMakes", "(I)Z"⟩) ∈ gw_N0 := gw_in (List.mem_append_left _ (List.mem_of_getElem? (i := 23) rfl))
set_option maxRecDepth 20000 in
theorem mw216 : (Cond.fieldLinkNest "Generations" (132 : Nat) "Generations$Job" "ends" "I" "Generations") ∈ gw_N0 := gw_in (List.mem_append_right _ (gw_tm (i := 276) rfl))
set_option maxRecDepth 20000 in
theorem mw217 : (Cond.fieldLinkNest "Generations" (135 : Nat) "Generations$Generation" "failedAtEnd" "I" "Generations") ∈ gw_N0 := gw_in (List.mem_append_right _ (gw_tm (i := 83) rfl))
set_option maxRecDepth 20000 in
theorem mw218 : (Cond.code ({ cls := "Generations$Generation", name := "failedFor", desc := "(II)Z" } : Jvm.MethodName) prog_2_method_6_code (3 : Nat) (Option.some Jvm.ClassFile.FieldType.boolean)) ∈ gw_N0 := gw_in (List.mem_append_right _ (gw_tm (i := 451) rfl))
set_option maxRecDepth 20000 in
theorem mw219 : (Cond.methodLinkNest "Generations" (145 : Nat) ({ cls := "Generations$Generation", name := "failedFor", desc := "(II)Z" } : Jvm.MethodName) "Generations") ∈ gw_N0 := gw_in (List.mem_append_right _ (gw_tm (i := 448) rfl))
set_option maxRecDepth 20000 in
theorem mw220 : (Cond.instanceMethod ({ cls := "Generations$Generation", name := "failedFor", desc := "(II)Z" } : Jvm.MethodName)) ∈ gw_N0 := gw_in (List.mem_append_right _ (gw_tm (i := 450) rfl))
set_option maxRecDepth 20000 in
theorem mw221 : (Cond.selects "Generations$Generation" ⟨"Generations$Generation", "failedFor", "(II)Z"⟩ ⟨"Generations$Generation", "failedFor", "(II)Z"⟩) ∈ gw_N0 := gw_in (List.mem_append_left _ (List.mem_of_getElem? (i := 24) rfl))
end
section
theorem d_X_relative_0 : decode b_X_relative 0 = .ok (.aload_n 0, 1) := by decide +kernel
theorem d_X_relative_1 : decode b_X_relative 1 = .ok (.iload_n 1, 1) := by decide +kernel
theorem d_X_relative_2 : decode b_X_relative 2 = .ok (.invokevirtual 100, 3) := by decide +kernel
theorem d_X_relative_5 : decode b_X_relative 5 = .ok (.astore_n 3, 1) := by decide +kernel
theorem d_X_relative_6 : decode b_X_relative 6 = .ok (.iload_n 2, 1) := by decide +kernel
theorem d_X_relative_7 : decode b_X_relative 7 = .ok (.bipush 99, 2) := by decide +kernel
theorem d_X_relative_9 : decode b_X_relative 9 = .ok (.if_icmp .le 13, 3) := by decide +kernel
theorem d_X_relative_22 : decode b_X_relative 22 = .ok (.iload_n 2, 1) := by decide +kernel
theorem d_X_relative_23 : decode b_X_relative 23 = .ok (.ifCond .le 30, 3) := by decide +kernel
theorem d_X_relative_53 : decode b_X_relative 53 = .ok (.aload_n 3, 1) := by decide +kernel
theorem d_X_relative_54 : decode b_X_relative 54 = .ok (.iload_n 2, 1) := by decide +kernel
theorem d_X_relative_55 : decode b_X_relative 55 = .ok (.invokevirtual 118, 3) := by decide +kernel
theorem d_X_relative_58 : decode b_X_relative 58 = .ok (.istore 4, 2) := by decide +kernel
theorem d_X_relative_60 : decode b_X_relative 60 = .ok (.aload_n 0, 1) := by decide +kernel
theorem d_X_relative_61 : decode b_X_relative 61 = .ok (.iload 4, 2) := by decide +kernel
theorem d_X_relative_63 : decode b_X_relative 63 = .ok (.invokevirtual 60, 3) := by decide +kernel
theorem d_X_relative_66 : decode b_X_relative 66 = .ok (.getfield 64, 3) := by decide +kernel
theorem d_X_relative_69 : decode b_X_relative 69 = .ok (.iconst 1, 1) := by decide +kernel
theorem d_X_relative_70 : decode b_X_relative 70 = .ok (.if_icmp .ne 8, 3) := by decide +kernel
theorem d_X_relative_78 : decode b_X_relative 78 = .ok (.iconst (-1), 1) := by decide +kernel
theorem d_X_relative_79 : decode b_X_relative 79 = .ok (.ireturn, 1) := by decide +kernel
theorem d_X_relative_73 : decode b_X_relative 73 = .ok (.iload 4, 2) := by decide +kernel
theorem d_X_relative_75 : decode b_X_relative 75 = .ok (.goto 4, 3) := by decide +kernel
theorem d_X_relative_26 : decode b_X_relative 26 = .ok (.aload_n 3, 1) := by decide +kernel
theorem d_X_relative_27 : decode b_X_relative 27 = .ok (.iload_n 2, 1) := by decide +kernel
theorem d_X_relative_28 : decode b_X_relative 28 = .ok (.invokevirtual 111, 3) := by decide +kernel
theorem d_X_relative_31 : decode b_X_relative 31 = .ok (.istore 4, 2) := by decide +kernel
theorem d_X_relative_33 : decode b_X_relative 33 = .ok (.aload_n 0, 1) := by decide +kernel
theorem d_X_relative_34 : decode b_X_relative 34 = .ok (.iload 4, 2) := by decide +kernel
theorem d_X_relative_36 : decode b_X_relative 36 = .ok (.invokevirtual 60, 3) := by decide +kernel
theorem d_X_relative_39 : decode b_X_relative 39 = .ok (.iload_n 1, 1) := by decide +kernel
theorem d_X_relative_40 : decode b_X_relative 40 = .ok (.invokevirtual 115, 3) := by decide +kernel
theorem d_X_relative_43 : decode b_X_relative 43 = .ok (.ifCond .eq 8, 3) := by decide +kernel
theorem d_X_relative_51 : decode b_X_relative 51 = .ok (.iconst (-1), 1) := by decide +kernel
theorem d_X_relative_52 : decode b_X_relative 52 = .ok (.ireturn, 1) := by decide +kernel
theorem d_X_relative_46 : decode b_X_relative 46 = .ok (.iload 4, 2) := by decide +kernel
theorem d_X_relative_48 : decode b_X_relative 48 = .ok (.goto 4, 3) := by decide +kernel
theorem d_X_relative_12 : decode b_X_relative 12 = .ok (.new 104, 3) := by decide +kernel
theorem d_X_relative_15 : decode b_X_relative 15 = .ok (.dup, 1) := by decide +kernel
theorem d_X_relative_16 : decode b_X_relative 16 = .ok (.ldc 106, 2) := by decide +kernel
theorem d_X_relative_18 : decode b_X_relative 18 = .ok (.invokespecial 108, 3) := by decide +kernel
theorem d_X_relative_21 : decode b_X_relative 21 = .ok (.athrow, 1) := by decide +kernel
theorem d_X_make_0 : decode b_X_make 0 = .ok (.aload_n 0, 1) := by decide +kernel
theorem d_X_make_1 : decode b_X_make 1 = .ok (.iload_n 1, 1) := by decide +kernel
theorem d_X_make_2 : decode b_X_make 2 = .ok (.invokevirtual 100, 3) := by decide +kernel
theorem d_X_make_5 : decode b_X_make 5 = .ok (.astore_n 3, 1) := by decide +kernel
theorem d_X_make_6 : decode b_X_make 6 = .ok (.iload_n 2, 1) := by decide +kernel
theorem d_X_make_7 : decode b_X_make 7 = .ok (.iconst 1, 1) := by decide +kernel
theorem d_X_make_8 : decode b_X_make 8 = .ok (.if_icmp .lt 9, 3) := by decide +kernel
theorem d_X_make_17 : decode b_X_make 17 = .ok (.new 104, 3) := by decide +kernel
theorem d_X_make_20 : decode b_X_make 20 = .ok (.dup, 1) := by decide +kernel
theorem d_X_make_21 : decode b_X_make 21 = .ok (.ldc 121, 2) := by decide +kernel
theorem d_X_make_23 : decode b_X_make 23 = .ok (.invokespecial 108, 3) := by decide +kernel
theorem d_X_make_26 : decode b_X_make 26 = .ok (.athrow, 1) := by decide +kernel
theorem d_X_make_11 : decode b_X_make 11 = .ok (.iload_n 2, 1) := by decide +kernel
theorem d_X_make_12 : decode b_X_make 12 = .ok (.bipush 99, 2) := by decide +kernel
theorem d_X_make_14 : decode b_X_make 14 = .ok (.if_icmp .le 13, 3) := by decide +kernel
theorem d_X_make_27 : decode b_X_make 27 = .ok (.aload_n 3, 1) := by decide +kernel
theorem d_X_make_28 : decode b_X_make 28 = .ok (.iload_n 2, 1) := by decide +kernel
theorem d_X_make_29 : decode b_X_make 29 = .ok (.invokevirtual 111, 3) := by decide +kernel
theorem d_X_make_32 : decode b_X_make 32 = .ok (.istore 4, 2) := by decide +kernel
theorem d_X_make_34 : decode b_X_make 34 = .ok (.aload_n 0, 1) := by decide +kernel
theorem d_X_make_35 : decode b_X_make 35 = .ok (.iload 4, 2) := by decide +kernel
theorem d_X_make_37 : decode b_X_make 37 = .ok (.invokevirtual 60, 3) := by decide +kernel
theorem d_X_make_40 : decode b_X_make 40 = .ok (.astore 5, 2) := by decide +kernel
theorem d_X_make_42 : decode b_X_make 42 = .ok (.aload 5, 2) := by decide +kernel
theorem d_X_make_44 : decode b_X_make 44 = .ok (.iload_n 1, 1) := by decide +kernel
theorem d_X_make_45 : decode b_X_make 45 = .ok (.invokevirtual 115, 3) := by decide +kernel
theorem d_X_make_48 : decode b_X_make 48 = .ok (.ifCond .eq 6, 3) := by decide +kernel
theorem d_X_make_54 : decode b_X_make 54 = .ok (.aload 5, 2) := by decide +kernel
theorem d_X_make_56 : decode b_X_make 56 = .ok (.iload_n 1, 1) := by decide +kernel
theorem d_X_make_57 : decode b_X_make 57 = .ok (.invokevirtual 123, 3) := by decide +kernel
theorem d_X_make_60 : decode b_X_make 60 = .ok (.ifCond .ne 11, 3) := by decide +kernel
theorem d_X_make_71 : decode b_X_make 71 = .ok (.iconst (-1), 1) := by decide +kernel
theorem d_X_make_72 : decode b_X_make 72 = .ok (.ireturn, 1) := by decide +kernel
theorem d_X_make_63 : decode b_X_make 63 = .ok (.aload_n 0, 1) := by decide +kernel
theorem d_X_make_64 : decode b_X_make 64 = .ok (.iload_n 1, 1) := by decide +kernel
theorem d_X_make_65 : decode b_X_make 65 = .ok (.invokevirtual 126, 3) := by decide +kernel
theorem d_X_make_68 : decode b_X_make 68 = .ok (.ifCond .eq 5, 3) := by decide +kernel
theorem d_X_make_73 : decode b_X_make 73 = .ok (.aload_n 0, 1) := by decide +kernel
theorem d_X_make_74 : decode b_X_make 74 = .ok (.iload 4, 2) := by decide +kernel
theorem d_X_make_76 : decode b_X_make 76 = .ok (.invokevirtual 71, 3) := by decide +kernel
theorem d_X_make_79 : decode b_X_make 79 = .ok (.astore 6, 2) := by decide +kernel
theorem d_X_make_81 : decode b_X_make 81 = .ok (.aload 6, 2) := by decide +kernel
theorem d_X_make_83 : decode b_X_make 83 = .ok (.iload_n 1, 1) := by decide +kernel
theorem d_X_make_84 : decode b_X_make 84 = .ok (.invokevirtual 74, 3) := by decide +kernel
theorem d_X_make_87 : decode b_X_make 87 = .ok (.aload 6, 2) := by decide +kernel
theorem d_X_make_89 : decode b_X_make 89 = .ok (.iconst 2, 1) := by decide +kernel
theorem d_X_make_90 : decode b_X_make 90 = .ok (.putfield 64, 3) := by decide +kernel
theorem d_X_make_93 : decode b_X_make 93 = .ok (.iload 4, 2) := by decide +kernel
theorem d_X_make_95 : decode b_X_make 95 = .ok (.ireturn, 1) := by decide +kernel
theorem d_X_make_51 : decode b_X_make 51 = .ok (.iload 4, 2) := by decide +kernel
theorem d_X_make_53 : decode b_X_make 53 = .ok (.ireturn, 1) := by decide +kernel
theorem d_X_end_0 : decode b_X_end 0 = .ok (.aload_n 0, 1) := by decide +kernel
theorem d_X_end_1 : decode b_X_end 1 = .ok (.iload_n 1, 1) := by decide +kernel
theorem d_X_end_2 : decode b_X_end 2 = .ok (.invokevirtual 100, 3) := by decide +kernel
theorem d_X_end_5 : decode b_X_end 5 = .ok (.astore 4, 2) := by decide +kernel
theorem d_X_end_7 : decode b_X_end 7 = .ok (.aload_n 0, 1) := by decide +kernel
theorem d_X_end_8 : decode b_X_end 8 = .ok (.iload_n 2, 1) := by decide +kernel
theorem d_X_end_9 : decode b_X_end 9 = .ok (.invokevirtual 60, 3) := by decide +kernel
theorem d_X_end_12 : decode b_X_end 12 = .ok (.astore 5, 2) := by decide +kernel
theorem d_X_end_14 : decode b_X_end 14 = .ok (.aload 5, 2) := by decide +kernel
theorem d_X_end_16 : decode b_X_end 16 = .ok (.getfield 64, 3) := by decide +kernel
theorem d_X_end_19 : decode b_X_end 19 = .ok (.iconst 2, 1) := by decide +kernel
theorem d_X_end_20 : decode b_X_end 20 = .ok (.if_icmp .ne 12, 3) := by decide +kernel
theorem d_X_end_32 : decode b_X_end 32 = .ok (.iconst (-1), 1) := by decide +kernel
theorem d_X_end_33 : decode b_X_end 33 = .ok (.ireturn, 1) := by decide +kernel
theorem d_X_end_23 : decode b_X_end 23 = .ok (.aload 5, 2) := by decide +kernel
theorem d_X_end_25 : decode b_X_end 25 = .ok (.getfield 129, 3) := by decide +kernel
theorem d_X_end_28 : decode b_X_end 28 = .ok (.iload_n 1, 1) := by decide +kernel
theorem d_X_end_29 : decode b_X_end 29 = .ok (.if_icmp .eq 5, 3) := by decide +kernel
theorem d_X_end_34 : decode b_X_end 34 = .ok (.aload 4, 2) := by decide +kernel
theorem d_X_end_36 : decode b_X_end 36 = .ok (.dup, 1) := by decide +kernel
theorem d_X_end_37 : decode b_X_end 37 = .ok (.getfield 132, 3) := by decide +kernel
theorem d_X_end_40 : decode b_X_end 40 = .ok (.iconst 1, 1) := by decide +kernel
theorem d_X_end_41 : decode b_X_end 41 = .ok (.iadd, 1) := by decide +kernel
theorem d_X_end_42 : decode b_X_end 42 = .ok (.putfield 132, 3) := by decide +kernel
theorem d_X_end_45 : decode b_X_end 45 = .ok (.iload_n 3, 1) := by decide +kernel
theorem d_X_end_46 : decode b_X_end 46 = .ok (.ifCond .eq 21, 3) := by decide +kernel
theorem d_X_end_67 : decode b_X_end 67 = .ok (.aload_n 0, 1) := by decide +kernel
end
section
theorem d_X_end_68 : decode b_X_end 68 = .ok (.aload 5, 2) := by decide +kernel
theorem d_X_end_70 : decode b_X_end 70 = .ok (.invokevirtual 77, 3) := by decide +kernel
theorem d_X_end_73 : decode b_X_end 73 = .ok (.iconst 1, 1) := by decide +kernel
theorem d_X_end_74 : decode b_X_end 74 = .ok (.ireturn, 1) := by decide +kernel
theorem d_X_end_49 : decode b_X_end 49 = .ok (.aload 5, 2) := by decide +kernel
theorem d_X_end_51 : decode b_X_end 51 = .ok (.iconst 3, 1) := by decide +kernel
theorem d_X_end_52 : decode b_X_end 52 = .ok (.putfield 64, 3) := by decide +kernel
theorem d_X_end_55 : decode b_X_end 55 = .ok (.aload 5, 2) := by decide +kernel
theorem d_X_end_57 : decode b_X_end 57 = .ok (.aload 4, 2) := by decide +kernel
theorem d_X_end_59 : decode b_X_end 59 = .ok (.getfield 132, 3) := by decide +kernel
theorem d_X_end_62 : decode b_X_end 62 = .ok (.putfield 135, 3) := by decide +kernel
theorem d_X_end_65 : decode b_X_end 65 = .ok (.iconst 0, 1) := by decide +kernel
theorem d_X_end_66 : decode b_X_end 66 = .ok (.ireturn, 1) := by decide +kernel
theorem d_X_restart_0 : decode b_X_restart 0 = .ok (.aload_n 0, 1) := by decide +kernel
theorem d_X_restart_1 : decode b_X_restart 1 = .ok (.iload_n 1, 1) := by decide +kernel
theorem d_X_restart_2 : decode b_X_restart 2 = .ok (.invokevirtual 100, 3) := by decide +kernel
theorem d_X_restart_5 : decode b_X_restart 5 = .ok (.astore_n 3, 1) := by decide +kernel
theorem d_X_restart_6 : decode b_X_restart 6 = .ok (.aload_n 0, 1) := by decide +kernel
theorem d_X_restart_7 : decode b_X_restart 7 = .ok (.iload_n 1, 1) := by decide +kernel
theorem d_X_restart_8 : decode b_X_restart 8 = .ok (.invokevirtual 126, 3) := by decide +kernel
theorem d_X_restart_11 : decode b_X_restart 11 = .ok (.ifCond .ne 18, 3) := by decide +kernel
theorem d_X_restart_29 : decode b_X_restart 29 = .ok (.iconst (-1), 1) := by decide +kernel
theorem d_X_restart_30 : decode b_X_restart 30 = .ok (.ireturn, 1) := by decide +kernel
theorem d_X_restart_14 : decode b_X_restart 14 = .ok (.iload_n 2, 1) := by decide +kernel
theorem d_X_restart_15 : decode b_X_restart 15 = .ok (.iconst 1, 1) := by decide +kernel
theorem d_X_restart_16 : decode b_X_restart 16 = .ok (.if_icmp .lt 13, 3) := by decide +kernel
theorem d_X_restart_19 : decode b_X_restart 19 = .ok (.iload_n 2, 1) := by decide +kernel
theorem d_X_restart_20 : decode b_X_restart 20 = .ok (.aload_n 3, 1) := by decide +kernel
theorem d_X_restart_21 : decode b_X_restart 21 = .ok (.getfield 132, 3) := by decide +kernel
theorem d_X_restart_24 : decode b_X_restart 24 = .ok (.iconst 1, 1) := by decide +kernel
theorem d_X_restart_25 : decode b_X_restart 25 = .ok (.iadd, 1) := by decide +kernel
theorem d_X_restart_26 : decode b_X_restart 26 = .ok (.if_icmp .le 5, 3) := by decide +kernel
theorem d_X_restart_31 : decode b_X_restart 31 = .ok (.iconst 0, 1) := by decide +kernel
theorem d_X_restart_32 : decode b_X_restart 32 = .ok (.istore 4, 2) := by decide +kernel
theorem d_X_restart_34 : decode b_X_restart 34 = .ok (.iconst 0, 1) := by decide +kernel
theorem d_X_restart_35 : decode b_X_restart 35 = .ok (.istore 5, 2) := by decide +kernel
theorem d_X_restart_37 : decode b_X_restart 37 = .ok (.iload 5, 2) := by decide +kernel
theorem d_X_restart_39 : decode b_X_restart 39 = .ok (.aload_n 0, 1) := by decide +kernel
theorem d_X_restart_40 : decode b_X_restart 40 = .ok (.getfield 23, 3) := by decide +kernel
theorem d_X_restart_43 : decode b_X_restart 43 = .ok (.invokevirtual 84, 3) := by decide +kernel
theorem d_X_restart_46 : decode b_X_restart 46 = .ok (.if_icmp .ge 42, 3) := by decide +kernel
theorem d_X_restart_88 : decode b_X_restart 88 = .ok (.iload 4, 2) := by decide +kernel
theorem d_X_restart_90 : decode b_X_restart 90 = .ok (.ireturn, 1) := by decide +kernel
theorem d_X_restart_49 : decode b_X_restart 49 = .ok (.aload_n 0, 1) := by decide +kernel
theorem d_X_restart_50 : decode b_X_restart 50 = .ok (.getfield 23, 3) := by decide +kernel
theorem d_X_restart_53 : decode b_X_restart 53 = .ok (.iload 5, 2) := by decide +kernel
theorem d_X_restart_55 : decode b_X_restart 55 = .ok (.invokevirtual 141, 3) := by decide +kernel
theorem d_X_restart_58 : decode b_X_restart 58 = .ok (.checkcast 26, 3) := by decide +kernel
theorem d_X_restart_61 : decode b_X_restart 61 = .ok (.astore 6, 2) := by decide +kernel
theorem d_X_restart_63 : decode b_X_restart 63 = .ok (.aload 6, 2) := by decide +kernel
theorem d_X_restart_65 : decode b_X_restart 65 = .ok (.iload_n 1, 1) := by decide +kernel
theorem d_X_restart_66 : decode b_X_restart 66 = .ok (.iload_n 2, 1) := by decide +kernel
theorem d_X_restart_67 : decode b_X_restart 67 = .ok (.invokevirtual 145, 3) := by decide +kernel
theorem d_X_restart_70 : decode b_X_restart 70 = .ok (.ifCond .eq 12, 3) := by decide +kernel
theorem d_X_restart_82 : decode b_X_restart 82 = .ok (.iinc 5 1, 3) := by decide +kernel
theorem d_X_restart_85 : decode b_X_restart 85 = .ok (.goto (-48), 3) := by decide +kernel
theorem d_X_restart_73 : decode b_X_restart 73 = .ok (.aload 6, 2) := by decide +kernel
theorem d_X_restart_75 : decode b_X_restart 75 = .ok (.iconst 2, 1) := by decide +kernel
theorem d_X_restart_76 : decode b_X_restart 76 = .ok (.putfield 64, 3) := by decide +kernel
theorem d_X_restart_79 : decode b_X_restart 79 = .ok (.iinc 4 1, 3) := by decide +kernel
end
section
set_option maxHeartbeats 4000000 in
set_option maxRecDepth 100000 in
theorem v_relative (l : Launch) (hl9 : l.stackTraces = false) (G : gw_G) (M : gw_M) (A : Nat → Nat) (lim sc E : Int32) (j n rs : Nat) (hX : gx_V G A lim sc E j n rs M) (k : Int32) (q : Int32) : gu_Met l y_X_relative [.code y_X_relative b_X_relative 5 (some .int)] ({ frames := 7, cells := 2, slots := 12, locals := 103 }) G M [.ref (A 0), .int k, .int q] (gu_Nw G (gw_Qi G (fun r M2 => gx_V G A lim sc E j n rs M2 ∧ gw_fg (gw_out [1, 2, 3, 4, 5, 6, 7, 8, 9, 10, 11]) M M2)) 2 12) (fun M2 => M = M2) 2 12 := by
  refine gu_start (by decide) (Nat.le_of_ble_eq_true rfl) (fun p9 e9 s m b9 mt9 c9 hEx hx hb hr hml hown hlocks hin hE hB hW ls hl => ?_)
  have hts := hE.ts ([.ref (A 0), .int k, .int q] : List Value).toArray
  have hl : lv_has ls 5 [(0, .ref (A 0)), (1, .int k), (2, .int q)] := hl
  have hown : s.vm.findClass "Generations" = some m.cls := hown
  have hj9 := hX.jobs.le
  have hn9 := hX.known.le
  have hr9 := hX.rs256
  have hS : va_S (gw_A G) s.heap s.heap [] := va_S.rf
  refine lv_aload_n hx hb d_X_relative_0 rfl (lv_at hl 0 rfl) ?_
  refine lv_iload_n hx hb d_X_relative_1 rfl (lv_at hl 1 rfl) ?_
  obtain ⟨gco1, f3o1, f8o1, hf_x, hf_row, hf_nums, hf_gone, hgco1, hrso1, -, -, -, -⟩ := id hX
  refine gu_callr (As := [.int k]) (rest := []) hS ⟨hx, hb, hml, hown, hts⟩ (u_jobCalled l hl9 G M A lim sc E j n rs hX k) (cwV 1 hts (gw_gv mw193 mw194 mw195 mw42 mw192) rfl rfl rfl (by decide +kernel) ⟨Nat.le_of_ble_eq_true rfl, Nat.le_of_ble_eq_true rfl⟩) (gw_pv hE hB hS hW rfl hf_x) rfl hl.1 rfl (lv_room (Nat.le_of_ble_eq_true rfl)) d_X_relative_2 ⟨Nat.le_of_ble_eq_true rfl, Nat.le_of_ble_eq_true rfl⟩ (fun ce q9 M9 H locs hw9 hW hS hce hcv hcl => ?_) (fun r2 hp_3 => ?_)
  · exact gu_out hEx hlocks hce hcv hcl hS hW hw9 (Nat.le_of_ble_eq_true rfl) (Nat.le_of_ble_eq_true rfl)
  · refine W.widen (k := 1) (n := 6) (Nat.le_refl _) (Nat.le_refl _) ?_
    refine lv_astore_n (lv' := [(3, .ref r2), (0, .ref (A 0)), (1, .int k), (2, .int q)]) hx hb d_X_relative_5 rfl hl (by decide) rfl (fun ls hl => ?_)
    refine lv_iload_n hx hb d_X_relative_6 rfl (lv_at hl 3 rfl) ?_
    refine lv_bipush (v := 99) hx hb d_X_relative_7 (by decide) ?_
    refine lv_icmp_le (tgt := 22) hx hb d_X_relative_9 (by decide) (fun c9 => ?_) (fun c9 => ?_)
    · refine gw_gen (I := fun z => gx_V G A lim sc E j n rs z) (P := gw_out [1, 2, 3, 4, 5, 6, 7, 8, 9, 10, 11]) hX hW (fun H locs Mw hW hS hX hF => ?_)
      have hX : gx_V G A lim sc E j n rs Mw := hX
      replace hp_3 := hF.2 _ _ hp_3
      refine lv_iload_n hx hb d_X_relative_22 rfl (lv_at hl 3 rfl) ?_
      refine lv_if_le (tgt := 53) hx hb d_X_relative_23 (by decide) (fun c23 => ?_) (fun c23 => ?_)
      · refine lv_aload_n hx hb d_X_relative_53 rfl (lv_at hl 0 rfl) ?_
        refine lv_iload_n hx hb d_X_relative_54 rfl (lv_at hl 3 rfl) ?_
        obtain ⟨u4t, u4e, hf_u4, hp_u4⟩ := hX.g10 hp_3
        obtain ⟨u5k, u5f, hk_u5, hf_u5⟩ := hX.g11 hp_u4
        refine gr_calli (va_runVN (As := [.int q]) (rest := []) ⟨hx, hb, hml, hown, hts⟩ (r_counted l G Mw r2 u4t u4e u5k u5f q hf_u4 hf_u5 (by assumption)) ⟨va_cnB 1 hts (gw_g1 mw196) rfl rfl rfl (hE.nw mw197) (hts _ mw121) (by decide +kernel) ⟨Nat.le_of_ble_eq_true rfl, Nat.le_of_ble_eq_true rfl⟩, hts _ mw198, hts _ mw199⟩ (gw_pv hE hB hS hW rfl hf_u4) rfl rfl hl.1 rfl (lv_room (Nat.le_of_ble_eq_true rfl)) d_X_relative_55 ⟨Nat.le_of_ble_eq_true rfl, Nat.le_of_ble_eq_true rfl⟩) (fun r6 hw7 => ?_)
        refine lv_istore (lv' := [(4, .int r6), (3, .ref r2), (0, .ref (A 0)), (1, .int k), (2, .int q)]) hx hb d_X_relative_58 hl (by decide) rfl (fun ls hl => ?_)
        refine lv_aload_n hx hb d_X_relative_60 rfl (lv_at hl 2 rfl) ?_
        refine lv_iload hx hb d_X_relative_61 (lv_at hl 0 rfl) ?_
        obtain ⟨gco8, f3o8, f8o8, hf_x, hf_row, hf_nums, hf_gone, hgco8, hrso8, -, -, -, -⟩ := id hX
        refine gr_callr (va_runV (As := [.int r6]) (rest := []) ⟨hx, hb, hml, hown, hts⟩ (r_find l G Mw A lim sc E j n hX.w r6  ) (cwV 1 hts (gw_gv mw54 mw55 mw56 mw42 mw53) rfl rfl rfl (by decide +kernel) ⟨Nat.le_of_ble_eq_true rfl, Nat.le_of_ble_eq_true rfl⟩) (gw_pv hE hB hS hW rfl hf_x) rfl rfl hl.1 rfl (lv_room (Nat.le_of_ble_eq_true rfl)) d_X_relative_63 ⟨Nat.le_of_ble_eq_true rfl, Nat.le_of_ble_eq_true rfl⟩) (fun r9 hw10 => ?_)
        obtain ⟨u11v0, u11v1, u11v2, u11v3, u11v4, hf_u11⟩ := hX.g9 hw10
        refine gw_getN (ci := 2) (fs := [.int u11v0, .int u11v1, .int u11v2, .int u11v3, .int u11v4]) hx hb hts in_Gen hown hE.K hW hf_u11 rfl 1 (by decide) (hts _ mw36) (fun _ h9 => h9) rfl d_X_relative_66 ?_
        refine lv_iconst (v := 1) hx hb d_X_relative_69 (by decide) ?_
        refine lv_icmp_ne (tgt := 78) hx hb d_X_relative_70 (by decide) (fun c70 => ?_) (fun c70 => ?_)
        · refine lv_iconst (v := -1) hx hb d_X_relative_78 (by decide) ?_
          refine gu_of ?_
          exact gw_iret hx hb hr hlocks hS hW (Nat.le_of_ble_eq_true rfl) (Nat.le_of_ble_eq_true rfl) d_X_relative_79 ⟨hX, hF⟩
        · refine lv_iload hx hb d_X_relative_73 (lv_at hl 0 rfl) ?_
          refine lv_goto (tgt := 79) hx hb d_X_relative_75 (by decide) ?_
          refine gu_of ?_
          exact gw_iret hx hb hr hlocks hS hW (Nat.le_of_ble_eq_true rfl) (Nat.le_of_ble_eq_true rfl) d_X_relative_79 ⟨hX, hF⟩
      · refine lv_aload_n hx hb d_X_relative_26 rfl (lv_at hl 0 rfl) ?_
        refine lv_iload_n hx hb d_X_relative_27 rfl (lv_at hl 3 rfl) ?_
        obtain ⟨u12t, u12e, hf_u12, hp_u12⟩ := hX.g10 hp_3
        obtain ⟨u13k, u13f, hk_u13, hf_u13⟩ := hX.g11 hp_u12
        refine gr_calli (va_runVN (As := [.int q]) (rest := []) ⟨hx, hb, hml, hown, hts⟩ (r_plus l G Mw r2 u12t u12e u13k u13f q hf_u12 hf_u13 (by assumption)) ⟨va_cnB 1 hts (gw_g1 mw200) rfl rfl rfl (hE.nw mw201) (hts _ mw121) (by decide +kernel) ⟨Nat.le_of_ble_eq_true rfl, Nat.le_of_ble_eq_true rfl⟩, hts _ mw202, hts _ mw203⟩ (gw_pv hE hB hS hW rfl hf_u12) rfl rfl hl.1 rfl (lv_room (Nat.le_of_ble_eq_true rfl)) d_X_relative_28 ⟨Nat.le_of_ble_eq_true rfl, Nat.le_of_ble_eq_true rfl⟩) (fun r14 hw15 => ?_)
        refine lv_istore (lv' := [(4, .int r14), (3, .ref r2), (0, .ref (A 0)), (1, .int k), (2, .int q)]) hx hb d_X_relative_31 hl (by decide) rfl (fun ls hl => ?_)
        refine lv_aload_n hx hb d_X_relative_33 rfl (lv_at hl 2 rfl) ?_
        refine lv_iload hx hb d_X_relative_34 (lv_at hl 0 rfl) ?_
        obtain ⟨gco16, f3o16, f8o16, hf_x, hf_row, hf_nums, hf_gone, hgco16, hrso16, -, -, -, -⟩ := id hX
        refine gr_callr (va_runV (As := [.int r14]) (rest := []) ⟨hx, hb, hml, hown, hts⟩ (r_find l G Mw A lim sc E j n hX.w r14  ) (cwV 1 hts (gw_gv mw54 mw55 mw56 mw42 mw53) rfl rfl rfl (by decide +kernel) ⟨Nat.le_of_ble_eq_true rfl, Nat.le_of_ble_eq_true rfl⟩) (gw_pv hE hB hS hW rfl hf_x) rfl rfl hl.1 rfl (lv_room (Nat.le_of_ble_eq_true rfl)) d_X_relative_36 ⟨Nat.le_of_ble_eq_true rfl, Nat.le_of_ble_eq_true rfl⟩) (fun r17 hw18 => ?_)
        refine lv_iload_n hx hb d_X_relative_39 rfl (lv_at hl 3 rfl) ?_
        obtain ⟨u19v0, u19v1, u19v2, u19v3, u19v4, hf_u19⟩ := hX.g9 hw18
        refine gr_calli (va_runVN (As := [.int k]) (rest := []) ⟨hx, hb, hml, hown, hts⟩ (r_isNewOneOf l G Mw r17 u19v0 u19v1 u19v2 u19v3 u19v4 k hf_u19 ) ⟨va_cnB 1 hts (gw_g1 mw204) rfl rfl rfl (hE.nw mw205) (hts _ mw21) (by decide +kernel) ⟨Nat.le_of_ble_eq_true rfl, Nat.le_of_ble_eq_true rfl⟩, hts _ mw206, hts _ mw207⟩ (gw_pv hE hB hS hW rfl hf_u19) rfl rfl hl.1 rfl (lv_room (Nat.le_of_ble_eq_true rfl)) d_X_relative_40 ⟨Nat.le_of_ble_eq_true rfl, Nat.le_of_ble_eq_true rfl⟩) (fun r20 hw21 => ?_)
        refine lv_if_eq (tgt := 51) hx hb d_X_relative_43 (by decide) (fun c43 => ?_) (fun c43 => ?_)
        · refine lv_iconst (v := -1) hx hb d_X_relative_51 (by decide) ?_
          refine gu_of ?_
          exact gw_iret hx hb hr hlocks hS hW (Nat.le_of_ble_eq_true rfl) (Nat.le_of_ble_eq_true rfl) d_X_relative_52 ⟨hX, hF⟩
        · refine lv_iload hx hb d_X_relative_46 (lv_at hl 0 rfl) ?_
          refine lv_goto (tgt := 52) hx hb d_X_relative_48 (by decide) ?_
          refine gu_of ?_
          exact gw_iret hx hb hr hlocks hS hW (Nat.le_of_ble_eq_true rfl) (Nat.le_of_ble_eq_true rfl) d_X_relative_52 ⟨hX, hF⟩
    · exact gu_throwS (own := "Generations") (text := "n is above 99") (names := ["java/lang/RuntimeException", "java/lang/Exception"]) (sa := G.2.2.1 2) hx hb hl9 hown (by decide +kernel) (hts _ mw189) (hts _ mw190) hE.2.2.2.2.2.2.2.1.1 hE.2.2.2.2.2.2.2.1.2 (gt_hat hE _ gt_ws3) (hl.1.trans hml.symm) d_X_relative_12 d_X_relative_15 d_X_relative_16 d_X_relative_18 d_X_relative_21 hEx (Nat.le_of_ble_eq_true rfl) (Nat.le_of_ble_eq_true rfl) (Nat.le_of_ble_eq_true rfl) (Nat.le_of_ble_eq_true rfl) (Nat.le_of_ble_eq_true rfl) (Nat.le_of_ble_eq_true rfl) hlocks hW rfl

set_option maxHeartbeats 4000000 in
set_option maxRecDepth 100000 in
theorem v_make (l : Launch) (hl9 : l.stackTraces = false) (G : gw_G) (M : gw_M) (A : Nat → Nat) (lim sc E : Int32) (j n rs : Nat) (hX : gx_V G A lim sc E j n rs M) (k : Int32) (q : Int32) (hn6 : n ≤ 600) : gu_Met l y_X_make [.code y_X_make b_X_make 7 (some .int)] ({ frames := 8, cells := 3, slots := 1011, locals := 243 }) G M [.ref (A 0), .int k, .int q] (gu_Nw G (gw_Qi G (fun r M2 => ∃ n2 : Nat, n2 ≤ n + 1 ∧ gx_V G A lim sc E j n2 rs M2 ∧ gw_fg (gw_out [1, 2, 3, 4, 5, 6, 7, 8, 9, 10, 11]) M M2)) 3 1011) (fun M2 => M = M2) 3 1011 := by
  refine gu_start (by decide) (Nat.le_of_ble_eq_true rfl) (fun p9 e9 s m b9 mt9 c9 hEx hx hb hr hml hown hlocks hin hE hB hW ls hl => ?_)
  have hts := hE.ts ([.ref (A 0), .int k, .int q] : List Value).toArray
  have hl : lv_has ls 7 [(0, .ref (A 0)), (1, .int k), (2, .int q)] := hl
  have hown : s.vm.findClass "Generations" = some m.cls := hown
  have hj9 := hX.jobs.le
  have hn9 := hX.known.le
  have hr9 := hX.rs256
  have hS : va_S (gw_A G) s.heap s.heap [] := va_S.rf
  refine lv_aload_n hx hb d_X_make_0 rfl (lv_at hl 0 rfl) ?_
  refine lv_iload_n hx hb d_X_make_1 rfl (lv_at hl 1 rfl) ?_
  obtain ⟨gco1, f3o1, f8o1, hf_x, hf_row, hf_nums, hf_gone, hgco1, hrso1, -, -, -, -⟩ := id hX
  refine gu_callr (As := [.int k]) (rest := []) hS ⟨hx, hb, hml, hown, hts⟩ (u_jobCalled l hl9 G M A lim sc E j n rs hX k) (cwV 1 hts (gw_gv mw193 mw194 mw195 mw42 mw192) rfl rfl rfl (by decide +kernel) ⟨Nat.le_of_ble_eq_true rfl, Nat.le_of_ble_eq_true rfl⟩) (gw_pv hE hB hS hW rfl hf_x) rfl hl.1 rfl (lv_room (Nat.le_of_ble_eq_true rfl)) d_X_make_2 ⟨Nat.le_of_ble_eq_true rfl, Nat.le_of_ble_eq_true rfl⟩ (fun ce q9 M9 H locs hw9 hW hS hce hcv hcl => ?_) (fun r2 hp_3 => ?_)
  · exact gu_out hEx hlocks hce hcv hcl hS hW hw9 (Nat.le_of_ble_eq_true rfl) (Nat.le_of_ble_eq_true rfl)
  · refine W.widen (k := 1) (n := 6) (Nat.le_refl _) (Nat.le_refl _) ?_
    refine lv_astore_n (lv' := [(3, .ref r2), (0, .ref (A 0)), (1, .int k), (2, .int q)]) hx hb d_X_make_5 rfl hl (by decide) rfl (fun ls hl => ?_)
    refine lv_iload_n hx hb d_X_make_6 rfl (lv_at hl 3 rfl) ?_
    refine lv_iconst (v := 1) hx hb d_X_make_7 (by decide) ?_
    refine lv_icmp_lt (tgt := 17) hx hb d_X_make_8 (by decide) (fun c8 => ?_) (fun c8 => ?_)
    · exact gu_throwS (own := "Generations") (text := "n is not 1 .. 99") (names := ["java/lang/RuntimeException", "java/lang/Exception"]) (sa := G.2.2.1 3) hx hb hl9 hown (by decide +kernel) (hts _ mw189) (hts _ mw190) hE.2.2.2.2.2.2.2.2.1.1 hE.2.2.2.2.2.2.2.2.1.2 (gt_hat hE _ gt_ws3) (hl.1.trans hml.symm) d_X_make_17 d_X_make_20 d_X_make_21 d_X_make_23 d_X_make_26 hEx (Nat.le_of_ble_eq_true rfl) (Nat.le_of_ble_eq_true rfl) (Nat.le_of_ble_eq_true rfl) (Nat.le_of_ble_eq_true rfl) (Nat.le_of_ble_eq_true rfl) (Nat.le_of_ble_eq_true rfl) hlocks hW rfl
    · refine lv_iload_n hx hb d_X_make_11 rfl (lv_at hl 3 rfl) ?_
      refine lv_bipush (v := 99) hx hb d_X_make_12 (by decide) ?_
      refine lv_icmp_le (tgt := 27) hx hb d_X_make_14 (by decide) (fun c14 => ?_) (fun c14 => ?_)
      · refine gw_gen (I := fun z => gx_V G A lim sc E j n rs z) (P := gw_out [1, 2, 3, 4, 5, 6, 7, 8, 9, 10, 11]) hX hW (fun H locs Mw hW hS hX hF => ?_)
        have hX : gx_V G A lim sc E j n rs Mw := hX
        replace hp_3 := hF.2 _ _ hp_3
        refine lv_aload_n hx hb d_X_make_27 rfl (lv_at hl 0 rfl) ?_
        refine lv_iload_n hx hb d_X_make_28 rfl (lv_at hl 3 rfl) ?_
        obtain ⟨u4t, u4e, hf_u4, hp_u4⟩ := hX.g10 hp_3
        obtain ⟨u5k, u5f, hk_u5, hf_u5⟩ := hX.g11 hp_u4
        refine gr_calli (va_runVN (As := [.int q]) (rest := []) ⟨hx, hb, hml, hown, hts⟩ (r_plus l G Mw r2 u4t u4e u5k u5f q hf_u4 hf_u5 (by assumption)) ⟨va_cnB 1 hts (gw_g1 mw200) rfl rfl rfl (hE.nw mw201) (hts _ mw121) (by decide +kernel) ⟨Nat.le_of_ble_eq_true rfl, Nat.le_of_ble_eq_true rfl⟩, hts _ mw202, hts _ mw203⟩ (gw_pv hE hB hS hW rfl hf_u4) rfl rfl hl.1 rfl (lv_room (Nat.le_of_ble_eq_true rfl)) d_X_make_29 ⟨Nat.le_of_ble_eq_true rfl, Nat.le_of_ble_eq_true rfl⟩) (fun r6 hw7 => ?_)
        refine lv_istore (lv' := [(4, .int r6), (3, .ref r2), (0, .ref (A 0)), (1, .int k), (2, .int q)]) hx hb d_X_make_32 hl (by decide) rfl (fun ls hl => ?_)
        refine lv_aload_n hx hb d_X_make_34 rfl (lv_at hl 2 rfl) ?_
        refine lv_iload hx hb d_X_make_35 (lv_at hl 0 rfl) ?_
        obtain ⟨gco8, f3o8, f8o8, hf_x, hf_row, hf_nums, hf_gone, hgco8, hrso8, -, -, -, -⟩ := id hX
        refine gr_callr (va_runV (As := [.int r6]) (rest := []) ⟨hx, hb, hml, hown, hts⟩ (r_find l G Mw A lim sc E j n hX.w r6  ) (cwV 1 hts (gw_gv mw54 mw55 mw56 mw42 mw53) rfl rfl rfl (by decide +kernel) ⟨Nat.le_of_ble_eq_true rfl, Nat.le_of_ble_eq_true rfl⟩) (gw_pv hE hB hS hW rfl hf_x) rfl rfl hl.1 rfl (lv_room (Nat.le_of_ble_eq_true rfl)) d_X_make_37 ⟨Nat.le_of_ble_eq_true rfl, Nat.le_of_ble_eq_true rfl⟩) (fun r9 hw10 => ?_)
        refine lv_astore (lv' := [(5, .ref r9), (4, .int r6), (3, .ref r2), (0, .ref (A 0)), (1, .int k), (2, .int q)]) hx hb d_X_make_40 hl (by decide) rfl (fun ls hl => ?_)
        refine lv_aload hx hb d_X_make_42 (lv_at hl 0 rfl) ?_
        refine lv_iload_n hx hb d_X_make_44 rfl (lv_at hl 4 rfl) ?_
        obtain ⟨u11v0, u11v1, u11v2, u11v3, u11v4, hf_u11⟩ := hX.g9 hw10
        refine gr_calli (va_runVN (As := [.int k]) (rest := []) ⟨hx, hb, hml, hown, hts⟩ (r_isNewOneOf l G Mw r9 u11v0 u11v1 u11v2 u11v3 u11v4 k hf_u11 ) ⟨va_cnB 1 hts (gw_g1 mw204) rfl rfl rfl (hE.nw mw205) (hts _ mw21) (by decide +kernel) ⟨Nat.le_of_ble_eq_true rfl, Nat.le_of_ble_eq_true rfl⟩, hts _ mw206, hts _ mw207⟩ (gw_pv hE hB hS hW rfl hf_u11) rfl rfl hl.1 rfl (lv_room (Nat.le_of_ble_eq_true rfl)) d_X_make_45 ⟨Nat.le_of_ble_eq_true rfl, Nat.le_of_ble_eq_true rfl⟩) (fun r12 hw13 => ?_)
        refine lv_if_eq (tgt := 54) hx hb d_X_make_48 (by decide) (fun c48 => ?_) (fun c48 => ?_)
        · refine lv_aload hx hb d_X_make_54 (lv_at hl 0 rfl) ?_
          refine lv_iload_n hx hb d_X_make_56 rfl (lv_at hl 4 rfl) ?_
          refine gr_calli (va_runVN (As := [.int k]) (rest := []) ⟨hx, hb, hml, hown, hts⟩ (r_isInTheWayOf l G Mw r9 u11v0 u11v1 u11v2 u11v3 u11v4 k hf_u11 ) ⟨va_cnB 1 hts (gw_g1 mw208) rfl rfl rfl (hE.nw mw209) (hts _ mw21) (by decide +kernel) ⟨Nat.le_of_ble_eq_true rfl, Nat.le_of_ble_eq_true rfl⟩, hts _ mw210, hts _ mw211⟩ (gw_pv hE hB hS hW rfl hf_u11) rfl rfl hl.1 rfl (lv_room (Nat.le_of_ble_eq_true rfl)) d_X_make_57 ⟨Nat.le_of_ble_eq_true rfl, Nat.le_of_ble_eq_true rfl⟩) (fun r14 hw15 => ?_)
          refine lv_if_ne (tgt := 71) hx hb d_X_make_60 (by decide) (fun c60 => ?_) (fun c60 => ?_)
          · refine lv_iconst (v := -1) hx hb d_X_make_71 (by decide) ?_
            refine gu_of ?_
            exact gw_iret hx hb hr hlocks hS hW (Nat.le_of_ble_eq_true rfl) (Nat.le_of_ble_eq_true rfl) d_X_make_72 ⟨n, (by omega), hX, hF⟩
          · refine lv_aload_n hx hb d_X_make_63 rfl (lv_at hl 3 rfl) ?_
            refine lv_iload_n hx hb d_X_make_64 rfl (lv_at hl 4 rfl) ?_
            refine gr_calli (va_runV (As := [.int k]) (rest := []) ⟨hx, hb, hml, hown, hts⟩ (r_anotherMakes l G Mw A lim sc E j n hX.w k  ) (cwV 1 hts (gw_gv mw213 mw214 mw215 mw42 mw212) rfl rfl rfl (by decide +kernel) ⟨Nat.le_of_ble_eq_true rfl, Nat.le_of_ble_eq_true rfl⟩) (gw_pv hE hB hS hW rfl hf_x) rfl rfl hl.1 rfl (lv_room (Nat.le_of_ble_eq_true rfl)) d_X_make_65 ⟨Nat.le_of_ble_eq_true rfl, Nat.le_of_ble_eq_true rfl⟩) (fun r16 hw17 => ?_)
            refine lv_if_eq (tgt := 73) hx hb d_X_make_68 (by decide) (fun c68 => ?_) (fun c68 => ?_)
            · refine lv_aload_n hx hb d_X_make_73 rfl (lv_at hl 3 rfl) ?_
              refine lv_iload hx hb d_X_make_74 (lv_at hl 1 rfl) ?_
              refine gw_callr hS (va_runV (As := [.int r6]) (rest := []) ⟨hx, hb, hml, hown, hts⟩ (v_placeFor l G Mw A lim sc E j n rs hX r6  (by omega)) (cwV 1 hts (gw_gv mw168 mw169 mw170 mw42 mw167) rfl rfl rfl (by decide +kernel) ⟨Nat.le_of_ble_eq_true rfl, Nat.le_of_ble_eq_true rfl⟩) (gw_pv hE hB hS hW rfl hf_x) rfl rfl hl.1 rfl (lv_room (Nat.le_of_ble_eq_true rfl)) d_X_make_76 ⟨Nat.le_of_ble_eq_true rfl, Nat.le_of_ble_eq_true rfl⟩) (fun r18 M19 H locs hw20 hW hS => ?_)
              refine W.widen (k := 3) (n := 1011) (Nat.le_refl _) (Nat.le_refl _) ?_
              obtain ⟨n222, hb23, hp_24, hX, hfr21⟩ := hw20
              have hF25 : gw_fg (gw_out [1, 2, 3, 4, 5, 6, 7, 8, 9, 10, 11]) M M19 := gw_fg.tr hF (gw_fg.wk hfr21 (by decide))
              replace hp_3 := hfr21.2 _ _ hp_3
              replace hp_u4 := hfr21.2 _ _ hp_u4
              replace hw10 := hfr21.2 _ _ hw10
              clear hfr21
              refine lv_astore (lv' := [(6, .ref r18), (5, .ref r9), (4, .int r6), (3, .ref r2), (0, .ref (A 0)), (1, .int k), (2, .int q)]) hx hb d_X_make_79 hl (by decide) rfl (fun ls hl => ?_)
              refine lv_aload hx hb d_X_make_81 (lv_at hl 0 rfl) ?_
              refine lv_iload_n hx hb d_X_make_83 rfl (lv_at hl 5 rfl) ?_
              obtain ⟨u26v0, u26v1, u26v2, u26v3, u26v4, hf_u26⟩ := hX.g9 hp_24
              refine gw_callv hS (va_runVN (As := [.int k]) (rest := []) ⟨hx, hb, hml, hown, hts⟩ (v_beginAnew l G M19 A lim sc E j n222 rs hX r18 k hp_24 ) ⟨va_cnB 1 hts (gw_g1 mw171) rfl rfl rfl (hE.nw mw172) (hts _ mw21) (by decide +kernel) ⟨Nat.le_of_ble_eq_true rfl, Nat.le_of_ble_eq_true rfl⟩, hts _ mw173, hts _ mw174⟩ (gw_pv hE hB hS hW rfl hf_u26) rfl rfl hl.1 rfl (lv_room (Nat.le_of_ble_eq_true rfl)) d_X_make_84 ⟨Nat.le_of_ble_eq_true rfl, Nat.le_of_ble_eq_true rfl⟩) (fun M28 H locs hw29 hW hS => ?_)
              obtain ⟨hX, hfr30⟩ := hw29
              have hF31 : gw_fg (gw_out [1, 2, 3, 4, 5, 6, 7, 8, 9, 10, 11]) M M28 := gw_fg.tr hF25 (gw_fg.wk hfr30 (by decide))
              replace hp_3 := hfr30.2 _ _ hp_3
              replace hp_u4 := hfr30.2 _ _ hp_u4
              replace hw10 := hfr30.2 _ _ hw10
              replace hp_24 := hfr30.2 _ _ hp_24
              clear hfr30
              refine lv_aload hx hb d_X_make_87 (lv_at hl 0 rfl) ?_
              refine lv_iconst (v := 2) hx hb d_X_make_89 (by decide) ?_
              obtain ⟨u32v0, u32v1, u32v2, u32v3, u32v4, hf_u32⟩ := hX.g9 hp_24
              refine gw_putN (ci := 2) (fs := [.int u32v0, .int u32v1, .int u32v2, .int u32v3, .int u32v4]) (v := .int 2) (ty := .int) hx hb hts in_Gen t_Gen t_Gen_ok n_Gen hown hE.K hW hS hf_u32 rfl 1 (by decide) (hts _ mw36) (fun _ h9 => h9) rfl (by decide +kernel) rfl rfl (Nat.le_of_ble_eq_true rfl) d_X_make_90 (fun H locs hW hS => ?_)
              have hXn : gx_V G A lim sc E j n222 rs (gw_up M28 r18 9 (.inr (2, [.int u32v0, .int 2, .int u32v2, .int u32v3, .int u32v4]))) := hX.up9 hf_u32
              have hPn : gp_S M28 (gw_up M28 r18 9 (.inr (2, [.int u32v0, .int 2, .int u32v2, .int u32v3, .int u32v4]))) := gp_up hf_u32
              have hF33 : gw_fg (gw_out [1, 2, 3, 4, 5, 6, 7, 8, 9, 10, 11]) M (gw_up M28 r18 9 (.inr (2, [.int u32v0, .int 2, .int u32v2, .int u32v3, .int u32v4]))) := gw_fg.up hF31 hf_u32 (show ¬ ((gw_out [1, 2, 3, 4, 5, 6, 7, 8, 9, 10, 11]) 9) by decide) (show ¬ ((gw_out [1, 2, 3, 4, 5, 6, 7, 8, 9, 10, 11]) 9) by decide)
              obtain ⟨M34, eM34⟩ : ∃ z, z = gw_up M28 r18 9 (.inr (2, [.int u32v0, .int 2, .int u32v2, .int u32v3, .int u32v4])) := ⟨_, rfl⟩
              replace hW : gw_P G.1 vwCl G.2.2.2 M34 H := by rw [eM34]; exact hW
              have hf_u32 : M34 r18 = some (9, .inr (2, [.int u32v0, .int 2, .int u32v2, .int u32v3, .int u32v4])) := by rw [eM34]; exact gw_up_self _ _ _ _
              rw [← eM34] at hF33
              rw [← eM34] at hXn hPn
              replace hX := hXn
              replace hp_3 := hPn _ _ hp_3
              replace hp_u4 := hPn _ _ hp_u4
              replace hw10 := hPn _ _ hw10
              replace hp_24 := hPn _ _ hp_24
              clear hXn hPn
              refine lv_iload hx hb d_X_make_93 (lv_at hl 2 rfl) ?_
              refine gu_of ?_
              exact gw_iret hx hb hr hlocks hS hW (Nat.le_of_ble_eq_true rfl) (Nat.le_of_ble_eq_true rfl) d_X_make_95 ⟨n222, (by omega), hX, hF33⟩
            · refine lv_iconst (v := -1) hx hb d_X_make_71 (by decide) ?_
              refine gu_of ?_
              exact gw_iret hx hb hr hlocks hS hW (Nat.le_of_ble_eq_true rfl) (Nat.le_of_ble_eq_true rfl) d_X_make_72 ⟨n, (by omega), hX, hF⟩
        · refine lv_iload hx hb d_X_make_51 (lv_at hl 1 rfl) ?_
          refine gu_of ?_
          exact gw_iret hx hb hr hlocks hS hW (Nat.le_of_ble_eq_true rfl) (Nat.le_of_ble_eq_true rfl) d_X_make_53 ⟨n, (by omega), hX, hF⟩
      · exact gu_throwS (own := "Generations") (text := "n is not 1 .. 99") (names := ["java/lang/RuntimeException", "java/lang/Exception"]) (sa := G.2.2.1 3) hx hb hl9 hown (by decide +kernel) (hts _ mw189) (hts _ mw190) hE.2.2.2.2.2.2.2.2.1.1 hE.2.2.2.2.2.2.2.2.1.2 (gt_hat hE _ gt_ws3) (hl.1.trans hml.symm) d_X_make_17 d_X_make_20 d_X_make_21 d_X_make_23 d_X_make_26 hEx (Nat.le_of_ble_eq_true rfl) (Nat.le_of_ble_eq_true rfl) (Nat.le_of_ble_eq_true rfl) (Nat.le_of_ble_eq_true rfl) (Nat.le_of_ble_eq_true rfl) (Nat.le_of_ble_eq_true rfl) hlocks hW rfl

set_option maxHeartbeats 4000000 in
set_option maxRecDepth 100000 in
theorem v_end (l : Launch) (hl9 : l.stackTraces = false) (G : gw_G) (M : gw_M) (A : Nat → Nat) (lim sc E : Int32) (j n rs : Nat) (hX : gx_V G A lim sc E j n rs M) (k : Int32) (q : Int32) (z : Int32) (lm : Nat) (hlm : lim = nI lm) (hl1 : 1 ≤ lm) (hl2 : lm ≤ 255) (h255 : rs ≤ 255) : gu_Met l y_X_end [.code y_X_end b_X_end 6 (some .int)] ({ frames := 7, cells := 1, slots := 6, locals := 152 }) G M [.ref (A 0), .int k, .int q, .int z] (gu_Nw G (gw_Qi G (fun r M2 => ∃ rs2 : Nat, rs2 ≤ 255 ∧ gx_V G A lim sc E j n rs2 M2 ∧ gw_fg (gw_out [1, 2, 3, 4, 5, 6, 7, 8, 9, 10, 11]) M M2)) 1 6) (fun M2 => M = M2) 1 6 := by
  refine gu_start (by decide) (Nat.le_of_ble_eq_true rfl) (fun p9 e9 s m b9 mt9 c9 hEx hx hb hr hml hown hlocks hin hE hB hW ls hl => ?_)
  have hts := hE.ts ([.ref (A 0), .int k, .int q, .int z] : List Value).toArray
  have hl : lv_has ls 6 [(0, .ref (A 0)), (1, .int k), (2, .int q), (3, .int z)] := hl
  have hown : s.vm.findClass "Generations" = some m.cls := hown
  have hj9 := hX.jobs.le
  have hn9 := hX.known.le
  have hr9 := hX.rs256
  have hS : va_S (gw_A G) s.heap s.heap [] := va_S.rf
  refine lv_aload_n hx hb d_X_end_0 rfl (lv_at hl 0 rfl) ?_
  refine lv_iload_n hx hb d_X_end_1 rfl (lv_at hl 1 rfl) ?_
  obtain ⟨gco1, f3o1, f8o1, hf_x, hf_row, hf_nums, hf_gone, hgco1, hrso1, -, -, -, -⟩ := id hX
  refine gu_callr (As := [.int k]) (rest := []) hS ⟨hx, hb, hml, hown, hts⟩ (u_jobCalled l hl9 G M A lim sc E j n rs hX k) (cwV 1 hts (gw_gv mw193 mw194 mw195 mw42 mw192) rfl rfl rfl (by decide +kernel) ⟨Nat.le_of_ble_eq_true rfl, Nat.le_of_ble_eq_true rfl⟩) (gw_pv hE hB hS hW rfl hf_x) rfl hl.1 rfl (lv_room (Nat.le_of_ble_eq_true rfl)) d_X_end_2 ⟨Nat.le_of_ble_eq_true rfl, Nat.le_of_ble_eq_true rfl⟩ (fun ce q9 M9 H locs hw9 hW hS hce hcv hcl => ?_) (fun r2 hp_3 => ?_)
  · exact gu_out hEx hlocks hce hcv hcl hS hW hw9 (Nat.le_of_ble_eq_true rfl) (Nat.le_of_ble_eq_true rfl)
  · refine W.widen (k := 1) (n := 6) (Nat.le_refl _) (Nat.le_refl _) ?_
    refine gw_gen (I := fun z => gx_V G A lim sc E j n rs z) (P := gw_out [1, 2, 3, 4, 5, 6, 7, 8, 9, 10, 11]) hX hW (fun H locs Mw hW hS hX hF => ?_)
    have hX : gx_V G A lim sc E j n rs Mw := hX
    replace hp_3 := hF.2 _ _ hp_3
    refine lv_astore (lv' := [(4, .ref r2), (0, .ref (A 0)), (1, .int k), (2, .int q), (3, .int z)]) hx hb d_X_end_5 hl (by decide) rfl (fun ls hl => ?_)
    refine lv_aload_n hx hb d_X_end_7 rfl (lv_at hl 1 rfl) ?_
    refine lv_iload_n hx hb d_X_end_8 rfl (lv_at hl 3 rfl) ?_
    obtain ⟨gco4, f3o4, f8o4, hf_x, hf_row, hf_nums, hf_gone, hgco4, hrso4, -, -, -, -⟩ := id hX
    refine gr_callr (va_runV (As := [.int q]) (rest := []) ⟨hx, hb, hml, hown, hts⟩ (r_find l G Mw A lim sc E j n hX.w q  ) (cwV 1 hts (gw_gv mw54 mw55 mw56 mw42 mw53) rfl rfl rfl (by decide +kernel) ⟨Nat.le_of_ble_eq_true rfl, Nat.le_of_ble_eq_true rfl⟩) (gw_pv hE hB hS hW rfl hf_x) rfl rfl hl.1 rfl (lv_room (Nat.le_of_ble_eq_true rfl)) d_X_end_9 ⟨Nat.le_of_ble_eq_true rfl, Nat.le_of_ble_eq_true rfl⟩) (fun r5 hw6 => ?_)
    refine lv_astore (lv' := [(5, .ref r5), (4, .ref r2), (0, .ref (A 0)), (1, .int k), (2, .int q), (3, .int z)]) hx hb d_X_end_12 hl (by decide) rfl (fun ls hl => ?_)
    refine lv_aload hx hb d_X_end_14 (lv_at hl 0 rfl) ?_
    obtain ⟨u7v0, u7v1, u7v2, u7v3, u7v4, hf_u7⟩ := hX.g9 hw6
    refine gw_getN (ci := 2) (fs := [.int u7v0, .int u7v1, .int u7v2, .int u7v3, .int u7v4]) hx hb hts in_Gen hown hE.K hW hf_u7 rfl 1 (by decide) (hts _ mw36) (fun _ h9 => h9) rfl d_X_end_16 ?_
    refine lv_iconst (v := 2) hx hb d_X_end_19 (by decide) ?_
    refine lv_icmp_ne (tgt := 32) hx hb d_X_end_20 (by decide) (fun c20 => ?_) (fun c20 => ?_)
    · refine lv_iconst (v := -1) hx hb d_X_end_32 (by decide) ?_
      refine gu_of ?_
      exact gw_iret hx hb hr hlocks hS hW (Nat.le_of_ble_eq_true rfl) (Nat.le_of_ble_eq_true rfl) d_X_end_33 ⟨rs, (by omega), hX, hF⟩
    · refine lv_aload hx hb d_X_end_23 (lv_at hl 0 rfl) ?_
      refine gw_getN (ci := 2) (fs := [.int u7v0, .int u7v1, .int u7v2, .int u7v3, .int u7v4]) hx hb hts in_Gen hown hE.K hW hf_u7 rfl 3 (by decide) (hts _ mw37) (fun _ h9 => h9) rfl d_X_end_25 ?_
      refine lv_iload_n hx hb d_X_end_28 rfl (lv_at hl 3 rfl) ?_
      refine lv_icmp_eq (tgt := 34) hx hb d_X_end_29 (by decide) (fun c29 => ?_) (fun c29 => ?_)
      · refine lv_aload hx hb d_X_end_34 (lv_at hl 1 rfl) ?_
        refine lv_dup hx hb d_X_end_36 rfl ?_
        obtain ⟨u8t, u8e, hf_u8, hp_u8⟩ := hX.g10 hp_3
        refine gw_getN (ci := 3) (fs := [.ref u8t, .int u8e]) hx hb hts in_Job hown hE.K hW hf_u8 rfl 1 (by decide) (hts _ mw216) (fun _ h9 => h9) rfl d_X_end_37 ?_
        refine lv_iconst (v := 1) hx hb d_X_end_40 (by decide) ?_
        refine lv_iadd hx hb d_X_end_41 ?_
        refine gw_putN (ci := 3) (fs := [.ref u8t, .int u8e]) (v := .int (u8e + 1)) (ty := .int) hx hb hts in_Job t_Job t_Job_ok n_Job hown hE.K hW hS hf_u8 rfl 1 (by decide) (hts _ mw216) (fun _ h9 => h9) rfl (by decide +kernel) rfl rfl (Nat.le_of_ble_eq_true rfl) d_X_end_42 (fun H locs hW hS => ?_)
        have hXn : gx_V G A lim sc E j n rs (gw_up Mw r2 10 (.inr (3, [.ref u8t, .int (u8e + 1)]))) := hX.up10 hf_u8 hp_u8
        have hPn : gp_S Mw (gw_up Mw r2 10 (.inr (3, [.ref u8t, .int (u8e + 1)]))) := gp_up hf_u8
        have hF9 : gw_fg (gw_out [1, 2, 3, 4, 5, 6, 7, 8, 9, 10, 11]) M (gw_up Mw r2 10 (.inr (3, [.ref u8t, .int (u8e + 1)]))) := gw_fg.up hF hf_u8 (show ¬ ((gw_out [1, 2, 3, 4, 5, 6, 7, 8, 9, 10, 11]) 10) by decide) (show ¬ ((gw_out [1, 2, 3, 4, 5, 6, 7, 8, 9, 10, 11]) 10) by decide)
        obtain ⟨M10, eM10⟩ : ∃ z, z = gw_up Mw r2 10 (.inr (3, [.ref u8t, .int (u8e + 1)])) := ⟨_, rfl⟩
        replace hW : gw_P G.1 vwCl G.2.2.2 M10 H := by rw [eM10]; exact hW
        have hf_x : M10 (A 0) = some (1, .inr (0, [.int lim, .int sc, .int E, .ref (A 1), .ref (A 3), .ref (A 4), .ref (A 5), .ref (A 6), .int (nI gco4)])) := by rw [eM10]; exact gw_keep hf_x hf_u8 (by decide)
        have hf_row : M10 (A 1) = some (2, .inr (1, [.ref (A 2), .int (nI rs)])) := by rw [eM10]; exact gw_keep hf_row hf_u8 (by decide)
        have hf_nums : M10 (A 2) = some (3, .inl (G.2.1 0, 256, .inl f3o4)) := by rw [eM10]; exact gw_keep hf_nums hf_u8 (by decide)
        have hf_gone : M10 (A 6) = some (8, .inl (G.2.1 0, 512, .inl f8o4)) := by rw [eM10]; exact gw_keep hf_gone hf_u8 (by decide)
        have hf_u7 : M10 r5 = some (9, .inr (2, [.int u7v0, .int u7v1, .int u7v2, .int u7v3, .int u7v4])) := by rw [eM10]; exact gw_keep hf_u7 hf_u8 (by decide)
        have hf_u8 : M10 r2 = some (10, .inr (3, [.ref u8t, .int (u8e + 1)])) := by rw [eM10]; exact gw_up_self _ _ _ _
        rw [← eM10] at hF9
        rw [← eM10] at hXn hPn
        replace hX := hXn
        replace hp_3 := hPn _ _ hp_3
        replace hw6 := hPn _ _ hw6
        replace hp_u8 := hPn _ _ hp_u8
        clear hXn hPn
        refine lv_iload_n hx hb d_X_end_45 rfl (lv_at hl 5 rfl) ?_
        refine lv_if_eq (tgt := 67) hx hb d_X_end_46 (by decide) (fun c46 => ?_) (fun c46 => ?_)
        · refine lv_aload_n hx hb d_X_end_67 rfl (lv_at hl 2 rfl) ?_
          refine lv_aload hx hb d_X_end_68 (lv_at hl 0 rfl) ?_
          refine gw_callv hS (va_runV (As := [.ref r5]) (rest := []) ⟨hx, hb, hml, hown, hts⟩ (v_bring l G M10 A lim sc E j n rs hX r5 lm hw6 hlm (by omega) (by omega) (by omega)) (cwV 1 hts (gw_gv mw164 mw165 mw166 mw42 mw163) rfl rfl rfl (by decide +kernel) ⟨Nat.le_of_ble_eq_true rfl, Nat.le_of_ble_eq_true rfl⟩) (gw_pv hE hB hS hW rfl hf_x) rfl rfl hl.1 rfl (lv_room (Nat.le_of_ble_eq_true rfl)) d_X_end_70 ⟨Nat.le_of_ble_eq_true rfl, Nat.le_of_ble_eq_true rfl⟩) (fun M12 H locs hw13 hW hS => ?_)
          obtain ⟨rs215, hb16, hX, hfr14⟩ := hw13
          have hF17 : gw_fg (gw_out [1, 2, 3, 4, 5, 6, 7, 8, 9, 10, 11]) M M12 := gw_fg.tr hF9 (gw_fg.wk hfr14 (by decide))
          replace hp_3 := hfr14.2 _ _ hp_3
          replace hw6 := hfr14.2 _ _ hw6
          replace hp_u8 := hfr14.2 _ _ hp_u8
          clear hfr14
          refine lv_iconst (v := 1) hx hb d_X_end_73 (by decide) ?_
          refine gu_of ?_
          exact gw_iret hx hb hr hlocks hS hW (Nat.le_of_ble_eq_true rfl) (Nat.le_of_ble_eq_true rfl) d_X_end_74 ⟨rs215, (by omega), hX, hF17⟩
        · refine lv_aload hx hb d_X_end_49 (lv_at hl 0 rfl) ?_
          refine lv_iconst (v := 3) hx hb d_X_end_51 (by decide) ?_
          refine gw_putN (ci := 2) (fs := [.int u7v0, .int u7v1, .int u7v2, .int u7v3, .int u7v4]) (v := .int 3) (ty := .int) hx hb hts in_Gen t_Gen t_Gen_ok n_Gen hown hE.K hW hS hf_u7 rfl 1 (by decide) (hts _ mw36) (fun _ h9 => h9) rfl (by decide +kernel) rfl rfl (Nat.le_of_ble_eq_true rfl) d_X_end_52 (fun H locs hW hS => ?_)
          have hXn : gx_V G A lim sc E j n rs (gw_up M10 r5 9 (.inr (2, [.int u7v0, .int 3, .int u7v2, .int u7v3, .int u7v4]))) := hX.up9 hf_u7
          have hPn : gp_S M10 (gw_up M10 r5 9 (.inr (2, [.int u7v0, .int 3, .int u7v2, .int u7v3, .int u7v4]))) := gp_up hf_u7
          have hF18 : gw_fg (gw_out [1, 2, 3, 4, 5, 6, 7, 8, 9, 10, 11]) M (gw_up M10 r5 9 (.inr (2, [.int u7v0, .int 3, .int u7v2, .int u7v3, .int u7v4]))) := gw_fg.up hF9 hf_u7 (show ¬ ((gw_out [1, 2, 3, 4, 5, 6, 7, 8, 9, 10, 11]) 9) by decide) (show ¬ ((gw_out [1, 2, 3, 4, 5, 6, 7, 8, 9, 10, 11]) 9) by decide)
          obtain ⟨M19, eM19⟩ : ∃ z, z = gw_up M10 r5 9 (.inr (2, [.int u7v0, .int 3, .int u7v2, .int u7v3, .int u7v4])) := ⟨_, rfl⟩
          replace hW : gw_P G.1 vwCl G.2.2.2 M19 H := by rw [eM19]; exact hW
          have hf_x : M19 (A 0) = some (1, .inr (0, [.int lim, .int sc, .int E, .ref (A 1), .ref (A 3), .ref (A 4), .ref (A 5), .ref (A 6), .int (nI gco4)])) := by rw [eM19]; exact gw_keep hf_x hf_u7 (by decide)
          have hf_row : M19 (A 1) = some (2, .inr (1, [.ref (A 2), .int (nI rs)])) := by rw [eM19]; exact gw_keep hf_row hf_u7 (by decide)
          have hf_nums : M19 (A 2) = some (3, .inl (G.2.1 0, 256, .inl f3o4)) := by rw [eM19]; exact gw_keep hf_nums hf_u7 (by decide)
          have hf_gone : M19 (A 6) = some (8, .inl (G.2.1 0, 512, .inl f8o4)) := by rw [eM19]; exact gw_keep hf_gone hf_u7 (by decide)
          have hf_u8 : M19 r2 = some (10, .inr (3, [.ref u8t, .int (u8e + 1)])) := by rw [eM19]; exact gw_keep hf_u8 hf_u7 (by decide)
          have hf_u7 : M19 r5 = some (9, .inr (2, [.int u7v0, .int 3, .int u7v2, .int u7v3, .int u7v4])) := by rw [eM19]; exact gw_up_self _ _ _ _
          rw [← eM19] at hF18
          rw [← eM19] at hXn hPn
          replace hX := hXn
          replace hp_3 := hPn _ _ hp_3
          replace hw6 := hPn _ _ hw6
          replace hp_u8 := hPn _ _ hp_u8
          clear hXn hPn
          refine lv_aload hx hb d_X_end_55 (lv_at hl 0 rfl) ?_
          refine lv_aload hx hb d_X_end_57 (lv_at hl 1 rfl) ?_
          refine gw_getN (ci := 3) (fs := [.ref u8t, .int (u8e + 1)]) hx hb hts in_Job hown hE.K hW hf_u8 rfl 1 (by decide) (hts _ mw216) (fun _ h9 => h9) rfl d_X_end_59 ?_
          refine gw_putN (ci := 2) (fs := [.int u7v0, .int 3, .int u7v2, .int u7v3, .int u7v4]) (v := .int (u8e + 1)) (ty := .int) hx hb hts in_Gen t_Gen t_Gen_ok n_Gen hown hE.K hW hS hf_u7 rfl 4 (by decide) (hts _ mw217) (fun _ h9 => h9) rfl (by decide +kernel) rfl rfl (Nat.le_of_ble_eq_true rfl) d_X_end_62 (fun H locs hW hS => ?_)
          have hXn : gx_V G A lim sc E j n rs (gw_up M19 r5 9 (.inr (2, [.int u7v0, .int 3, .int u7v2, .int u7v3, .int (u8e + 1)]))) := hX.up9 hf_u7
          have hPn : gp_S M19 (gw_up M19 r5 9 (.inr (2, [.int u7v0, .int 3, .int u7v2, .int u7v3, .int (u8e + 1)]))) := gp_up hf_u7
          have hF20 : gw_fg (gw_out [1, 2, 3, 4, 5, 6, 7, 8, 9, 10, 11]) M (gw_up M19 r5 9 (.inr (2, [.int u7v0, .int 3, .int u7v2, .int u7v3, .int (u8e + 1)]))) := gw_fg.up hF18 hf_u7 (show ¬ ((gw_out [1, 2, 3, 4, 5, 6, 7, 8, 9, 10, 11]) 9) by decide) (show ¬ ((gw_out [1, 2, 3, 4, 5, 6, 7, 8, 9, 10, 11]) 9) by decide)
          obtain ⟨M21, eM21⟩ : ∃ z, z = gw_up M19 r5 9 (.inr (2, [.int u7v0, .int 3, .int u7v2, .int u7v3, .int (u8e + 1)])) := ⟨_, rfl⟩
          replace hW : gw_P G.1 vwCl G.2.2.2 M21 H := by rw [eM21]; exact hW
          have hf_x : M21 (A 0) = some (1, .inr (0, [.int lim, .int sc, .int E, .ref (A 1), .ref (A 3), .ref (A 4), .ref (A 5), .ref (A 6), .int (nI gco4)])) := by rw [eM21]; exact gw_keep hf_x hf_u7 (by decide)
          have hf_row : M21 (A 1) = some (2, .inr (1, [.ref (A 2), .int (nI rs)])) := by rw [eM21]; exact gw_keep hf_row hf_u7 (by decide)
          have hf_nums : M21 (A 2) = some (3, .inl (G.2.1 0, 256, .inl f3o4)) := by rw [eM21]; exact gw_keep hf_nums hf_u7 (by decide)
          have hf_gone : M21 (A 6) = some (8, .inl (G.2.1 0, 512, .inl f8o4)) := by rw [eM21]; exact gw_keep hf_gone hf_u7 (by decide)
          have hf_u8 : M21 r2 = some (10, .inr (3, [.ref u8t, .int (u8e + 1)])) := by rw [eM21]; exact gw_keep hf_u8 hf_u7 (by decide)
          have hf_u7 : M21 r5 = some (9, .inr (2, [.int u7v0, .int 3, .int u7v2, .int u7v3, .int (u8e + 1)])) := by rw [eM21]; exact gw_up_self _ _ _ _
          rw [← eM21] at hF20
          rw [← eM21] at hXn hPn
          replace hX := hXn
          replace hp_3 := hPn _ _ hp_3
          replace hw6 := hPn _ _ hw6
          replace hp_u8 := hPn _ _ hp_u8
          clear hXn hPn
          refine lv_iconst (v := 0) hx hb d_X_end_65 (by decide) ?_
          refine gu_of ?_
          exact gw_iret hx hb hr hlocks hS hW (Nat.le_of_ble_eq_true rfl) (Nat.le_of_ble_eq_true rfl) d_X_end_66 ⟨rs, (by omega), hX, hF20⟩
      · refine lv_iconst (v := -1) hx hb d_X_end_32 (by decide) ?_
        refine gu_of ?_
        exact gw_iret hx hb hr hlocks hS hW (Nat.le_of_ble_eq_true rfl) (Nat.le_of_ble_eq_true rfl) d_X_end_33 ⟨rs, (by omega), hX, hF⟩

set_option maxHeartbeats 4000000 in
set_option maxRecDepth 100000 in
theorem v_restart (l : Launch) (hl9 : l.stackTraces = false) (G : gw_G) (M : gw_M) (A : Nat → Nat) (lim sc E : Int32) (j n rs : Nat) (hX : gx_V G A lim sc E j n rs M) (k : Int32) (q : Int32) : gu_Met l y_X_restart [.code y_X_restart b_X_restart 7 (some .int)] ({ frames := 7, cells := 1, slots := 6, locals := 108 }) G M [.ref (A 0), .int k, .int q] (gu_Nw G (gw_Qi G (fun r M2 => gx_V G A lim sc E j n rs M2 ∧ gw_fg (gw_out [1, 2, 3, 4, 5, 6, 7, 8, 9, 10, 11]) M M2)) 1 6) (fun M2 => M = M2) 1 6 := by
  refine gu_start (by decide) (Nat.le_of_ble_eq_true rfl) (fun p9 e9 s m b9 mt9 c9 hEx hx hb hr hml hown hlocks hin hE hB hW ls hl => ?_)
  have hts := hE.ts ([.ref (A 0), .int k, .int q] : List Value).toArray
  have hl : lv_has ls 7 [(0, .ref (A 0)), (1, .int k), (2, .int q)] := hl
  have hown : s.vm.findClass "Generations" = some m.cls := hown
  have hj9 := hX.jobs.le
  have hn9 := hX.known.le
  have hr9 := hX.rs256
  have hS : va_S (gw_A G) s.heap s.heap [] := va_S.rf
  refine lv_aload_n hx hb d_X_restart_0 rfl (lv_at hl 0 rfl) ?_
  refine lv_iload_n hx hb d_X_restart_1 rfl (lv_at hl 1 rfl) ?_
  obtain ⟨gco1, f3o1, f8o1, hf_x, hf_row, hf_nums, hf_gone, hgco1, hrso1, -, -, -, -⟩ := id hX
  refine gu_callr (As := [.int k]) (rest := []) hS ⟨hx, hb, hml, hown, hts⟩ (u_jobCalled l hl9 G M A lim sc E j n rs hX k) (cwV 1 hts (gw_gv mw193 mw194 mw195 mw42 mw192) rfl rfl rfl (by decide +kernel) ⟨Nat.le_of_ble_eq_true rfl, Nat.le_of_ble_eq_true rfl⟩) (gw_pv hE hB hS hW rfl hf_x) rfl hl.1 rfl (lv_room (Nat.le_of_ble_eq_true rfl)) d_X_restart_2 ⟨Nat.le_of_ble_eq_true rfl, Nat.le_of_ble_eq_true rfl⟩ (fun ce q9 M9 H locs hw9 hW hS hce hcv hcl => ?_) (fun r2 hp_3 => ?_)
  · exact gu_out hEx hlocks hce hcv hcl hS hW hw9 (Nat.le_of_ble_eq_true rfl) (Nat.le_of_ble_eq_true rfl)
  · refine W.widen (k := 1) (n := 6) (Nat.le_refl _) (Nat.le_refl _) ?_
    refine gw_gen (I := fun z => gx_V G A lim sc E j n rs z) (P := gw_out [1, 2, 3, 4, 5, 6, 7, 8, 9, 10, 11]) hX hW (fun H locs Mw hW hS hX hF => ?_)
    have hX : gx_V G A lim sc E j n rs Mw := hX
    replace hp_3 := hF.2 _ _ hp_3
    refine lv_astore_n (lv' := [(3, .ref r2), (0, .ref (A 0)), (1, .int k), (2, .int q)]) hx hb d_X_restart_5 rfl hl (by decide) rfl (fun ls hl => ?_)
    refine lv_aload_n hx hb d_X_restart_6 rfl (lv_at hl 1 rfl) ?_
    refine lv_iload_n hx hb d_X_restart_7 rfl (lv_at hl 2 rfl) ?_
    obtain ⟨gco4, f3o4, f8o4, hf_x, hf_row, hf_nums, hf_gone, hgco4, hrso4, -, -, -, -⟩ := id hX
    refine gr_calli (va_runV (As := [.int k]) (rest := []) ⟨hx, hb, hml, hown, hts⟩ (r_anotherMakes l G Mw A lim sc E j n hX.w k  ) (cwV 1 hts (gw_gv mw213 mw214 mw215 mw42 mw212) rfl rfl rfl (by decide +kernel) ⟨Nat.le_of_ble_eq_true rfl, Nat.le_of_ble_eq_true rfl⟩) (gw_pv hE hB hS hW rfl hf_x) rfl rfl hl.1 rfl (lv_room (Nat.le_of_ble_eq_true rfl)) d_X_restart_8 ⟨Nat.le_of_ble_eq_true rfl, Nat.le_of_ble_eq_true rfl⟩) (fun r5 hw6 => ?_)
    refine lv_if_ne (tgt := 29) hx hb d_X_restart_11 (by decide) (fun c11 => ?_) (fun c11 => ?_)
    · refine lv_iconst (v := -1) hx hb d_X_restart_29 (by decide) ?_
      refine gu_of ?_
      exact gw_iret hx hb hr hlocks hS hW (Nat.le_of_ble_eq_true rfl) (Nat.le_of_ble_eq_true rfl) d_X_restart_30 ⟨hX, hF⟩
    · refine lv_iload_n hx hb d_X_restart_14 rfl (lv_at hl 3 rfl) ?_
      refine lv_iconst (v := 1) hx hb d_X_restart_15 (by decide) ?_
      refine lv_icmp_lt (tgt := 29) hx hb d_X_restart_16 (by decide) (fun c16 => ?_) (fun c16 => ?_)
      · refine lv_iconst (v := -1) hx hb d_X_restart_29 (by decide) ?_
        refine gu_of ?_
        exact gw_iret hx hb hr hlocks hS hW (Nat.le_of_ble_eq_true rfl) (Nat.le_of_ble_eq_true rfl) d_X_restart_30 ⟨hX, hF⟩
      · refine lv_iload_n hx hb d_X_restart_19 rfl (lv_at hl 3 rfl) ?_
        refine lv_aload_n hx hb d_X_restart_20 rfl (lv_at hl 0 rfl) ?_
        obtain ⟨u7t, u7e, hf_u7, hp_u7⟩ := hX.g10 hp_3
        refine gw_getN (ci := 3) (fs := [.ref u7t, .int u7e]) hx hb hts in_Job hown hE.K hW hf_u7 rfl 1 (by decide) (hts _ mw216) (fun _ h9 => h9) rfl d_X_restart_21 ?_
        refine lv_iconst (v := 1) hx hb d_X_restart_24 (by decide) ?_
        refine lv_iadd hx hb d_X_restart_25 ?_
        refine lv_icmp_le (tgt := 31) hx hb d_X_restart_26 (by decide) (fun c26 => ?_) (fun c26 => ?_)
        · refine lv_iconst (v := 0) hx hb d_X_restart_31 (by decide) ?_
          refine lv_istore (lv' := [(4, .int 0), (3, .ref r2), (0, .ref (A 0)), (1, .int k), (2, .int q)]) hx hb d_X_restart_32 hl (by decide) rfl (fun ls hl => ?_)
          refine lv_iconst (v := 0) hx hb d_X_restart_34 (by decide) ?_
          refine lv_istore (lv' := [(5, .int 0), (4, .int 0), (3, .ref r2), (0, .ref (A 0)), (1, .int k), (2, .int q)]) hx hb d_X_restart_35 hl (by decide) rfl (fun ls hl => ?_)
          obtain ⟨k37, ek37⟩ : ∃ z : Nat, z = 0 := ⟨_, rfl⟩
          obtain ⟨c37_4, ec37_4⟩ : ∃ z : Int32, z = 0 := ⟨_, rfl⟩
          replace hl : lv_has ls 7 [(5, .int (nI k37)), (4, .int c37_4), (3, .ref r2), (0, .ref (A 0)), (1, .int k), (2, .int q)] := by subst ek37; subst ec37_4; exact lv_sub hl [0, 1, 2, 3, 4, 5] rfl
          have hk37 : k37 ≤ n := by omega
          clear ek37 ec37_4
          clear hf_x hf_row hf_nums hf_gone hf_u7
          obtain ⟨n37, hn37⟩ : ∃ z : Nat, n - k37 < z := ⟨_, Nat.lt_succ_self _⟩
          induction n37 generalizing k37 ls H locs Mw c37_4 with
          | zero => exact absurd hn37 (Nat.not_lt_zero _)
          | succ n37 ih37 =>
            refine lv_iload hx hb d_X_restart_37 (lv_at hl 0 rfl) ?_
            refine lv_aload_n hx hb d_X_restart_39 rfl (lv_at hl 3 rfl) ?_
            obtain ⟨gco8, f3o8, f8o8, hf_x, hf_row, hf_nums, hf_gone, hgco8, hrso8, -, -, -, -⟩ := id hX
            refine gw_get (ci := 0) (fs := [.int lim, .int sc, .int E, .ref (A 1), .ref (A 3), .ref (A 4), .ref (A 5), .ref (A 6), .int (nI gco8)]) hx hb hts in_X hown hE.K hW hf_x rfl 5 (by decide) (hts _ mw23) (fun _ h9 => h9) rfl d_X_restart_40 ?_
            obtain ⟨_, hc9⟩ := hX.known.cell
            refine gr_calli (va_runV (As := []) (rest := [.int (nI k37)]) ⟨hx, hb, hml, hown, hts⟩ (s_size l G Mw (A 4) 5 7 9 n hX.known) (cwV 0 hts (gw_gv mw25 mw26 mw27 mw14 mw24) rfl rfl rfl (by decide +kernel) ⟨Nat.le_of_ble_eq_true rfl, Nat.le_of_ble_eq_true rfl⟩) (gw_pv hE hB hS hW rfl hc9) rfl rfl hl.1 rfl (lv_room (Nat.le_of_ble_eq_true rfl)) d_X_restart_43 ⟨Nat.le_of_ble_eq_true rfl, Nat.le_of_ble_eq_true rfl⟩) (fun r10 hw11 => ?_)
            subst hw11
            refine lv_icmp_ge (tgt := 88) hx hb d_X_restart_46 (by decide) (fun c46 => ?_) (fun c46 => ?_)
            · refine lv_iload hx hb d_X_restart_88 (lv_at hl 1 rfl) ?_
              refine gu_of ?_
              exact gw_iret hx hb hr hlocks hS hW (Nat.le_of_ble_eq_true rfl) (Nat.le_of_ble_eq_true rfl) d_X_restart_90 ⟨hX, hF⟩
            · have hlt := gx_ltN c46 (by omega) (by omega)
              refine lv_aload_n hx hb d_X_restart_49 rfl (lv_at hl 3 rfl) ?_
              refine gw_get (ci := 0) (fs := [.int lim, .int sc, .int E, .ref (A 1), .ref (A 3), .ref (A 4), .ref (A 5), .ref (A 6), .int (nI gco8)]) hx hb hts in_X hown hE.K hW hf_x rfl 5 (by decide) (hts _ mw23) (fun _ h9 => h9) rfl d_X_restart_50 ?_
              refine lv_iload hx hb d_X_restart_53 (lv_at hl 0 rfl) ?_
              obtain ⟨_, hc12⟩ := hX.known.cell
              refine gr_callr (va_runV (As := [.int (nI k37)]) (rest := []) ⟨hx, hb, hml, hown, hts⟩ (s_get l G Mw (A 4) 5 7 9 n k37 hX.known (by omega)) (cwV 1 hts (gw_gv mw30 mw31 mw32 mw14 mw29) rfl rfl rfl (by decide +kernel) ⟨Nat.le_of_ble_eq_true rfl, Nat.le_of_ble_eq_true rfl⟩) (gw_pv hE hB hS hW rfl hc12) rfl rfl hl.1 rfl (lv_room (Nat.le_of_ble_eq_true rfl)) d_X_restart_55 ⟨Nat.le_of_ble_eq_true rfl, Nat.le_of_ble_eq_true rfl⟩) (fun r13 hw14 => ?_)
              obtain ⟨u15v0, u15v1, u15v2, u15v3, u15v4, hf_u15⟩ := hX.g9 hw14
              refine va_castY hx hb hown (hts _ mw33) (hE.nw mw34) (gw_recv hE.K hW rfl hf_u15) d_X_restart_58 ?_
              refine lv_astore (lv' := [(6, .ref r13), (5, .int (nI k37)), (4, .int c37_4), (3, .ref r2), (0, .ref (A 0)), (1, .int k), (2, .int q)]) hx hb d_X_restart_61 hl (by decide) rfl (fun ls hl => ?_)
              refine lv_aload hx hb d_X_restart_63 (lv_at hl 0 rfl) ?_
              refine lv_iload_n hx hb d_X_restart_65 rfl (lv_at hl 5 rfl) ?_
              refine lv_iload_n hx hb d_X_restart_66 rfl (lv_at hl 6 rfl) ?_
              refine gr_calli (va_runVN (As := [.int k, .int q]) (rest := []) ⟨hx, hb, hml, hown, hts⟩ (r_failedFor l G Mw r13 u15v0 u15v1 u15v2 u15v3 u15v4 k q hf_u15 ) ⟨va_cnB 2 hts (gw_g1 mw218) rfl rfl rfl (hE.nw mw219) (hts _ mw21) (by decide +kernel) ⟨Nat.le_of_ble_eq_true rfl, Nat.le_of_ble_eq_true rfl⟩, hts _ mw220, hts _ mw221⟩ (gw_pv hE hB hS hW rfl hf_u15) rfl rfl hl.1 rfl (lv_room (Nat.le_of_ble_eq_true rfl)) d_X_restart_67 ⟨Nat.le_of_ble_eq_true rfl, Nat.le_of_ble_eq_true rfl⟩) (fun r16 hw17 => ?_)
              refine lv_if_eq (tgt := 82) hx hb d_X_restart_70 (by decide) (fun c70 => ?_) (fun c70 => ?_)
              · refine lv_iinc (v := (nI k37) + 1) (lv' := [(5, .int ((nI k37) + 1)), (6, .ref r13), (4, .int c37_4), (3, .ref r2), (0, .ref (A 0)), (1, .int k), (2, .int q)]) hx hb d_X_restart_82 hl (k := 1) rfl rfl (by decide) rfl (fun ls hl => ?_)
                refine lv_goto (tgt := 37) hx hb d_X_restart_85 (by decide) ?_
                rw [nI_1] at hl
                apply ih37 (ls := ls) (k37 := k37 + 1) (H := H) (locs := locs) (Mw := Mw) (c37_4 := c37_4) <;> first | exact lv_sub hl [0, 2, 3, 4, 5, 6] rfl | exact hX | exact hW | exact hS | exact hF | omega | assumption
              · refine lv_aload hx hb d_X_restart_73 (lv_at hl 0 rfl) ?_
                refine lv_iconst (v := 2) hx hb d_X_restart_75 (by decide) ?_
                refine gw_putN (ci := 2) (fs := [.int u15v0, .int u15v1, .int u15v2, .int u15v3, .int u15v4]) (v := .int 2) (ty := .int) hx hb hts in_Gen t_Gen t_Gen_ok n_Gen hown hE.K hW hS hf_u15 rfl 1 (by decide) (hts _ mw36) (fun _ h9 => h9) rfl (by decide +kernel) rfl rfl (Nat.le_of_ble_eq_true rfl) d_X_restart_76 (fun H locs hW hS => ?_)
                have hXn : gx_V G A lim sc E j n rs (gw_up Mw r13 9 (.inr (2, [.int u15v0, .int 2, .int u15v2, .int u15v3, .int u15v4]))) := hX.up9 hf_u15
                have hPn : gp_S Mw (gw_up Mw r13 9 (.inr (2, [.int u15v0, .int 2, .int u15v2, .int u15v3, .int u15v4]))) := gp_up hf_u15
                have hF18 : gw_fg (gw_out [1, 2, 3, 4, 5, 6, 7, 8, 9, 10, 11]) M (gw_up Mw r13 9 (.inr (2, [.int u15v0, .int 2, .int u15v2, .int u15v3, .int u15v4]))) := gw_fg.up hF hf_u15 (show ¬ ((gw_out [1, 2, 3, 4, 5, 6, 7, 8, 9, 10, 11]) 9) by decide) (show ¬ ((gw_out [1, 2, 3, 4, 5, 6, 7, 8, 9, 10, 11]) 9) by decide)
                obtain ⟨M19, eM19⟩ : ∃ z, z = gw_up Mw r13 9 (.inr (2, [.int u15v0, .int 2, .int u15v2, .int u15v3, .int u15v4])) := ⟨_, rfl⟩
                replace hW : gw_P G.1 vwCl G.2.2.2 M19 H := by rw [eM19]; exact hW
                have hf_x : M19 (A 0) = some (1, .inr (0, [.int lim, .int sc, .int E, .ref (A 1), .ref (A 3), .ref (A 4), .ref (A 5), .ref (A 6), .int (nI gco8)])) := by rw [eM19]; exact gw_keep hf_x hf_u15 (by decide)
                have hf_row : M19 (A 1) = some (2, .inr (1, [.ref (A 2), .int (nI rs)])) := by rw [eM19]; exact gw_keep hf_row hf_u15 (by decide)
                have hf_nums : M19 (A 2) = some (3, .inl (G.2.1 0, 256, .inl f3o8)) := by rw [eM19]; exact gw_keep hf_nums hf_u15 (by decide)
                have hf_gone : M19 (A 6) = some (8, .inl (G.2.1 0, 512, .inl f8o8)) := by rw [eM19]; exact gw_keep hf_gone hf_u15 (by decide)
                have hf_u15 : M19 r13 = some (9, .inr (2, [.int u15v0, .int 2, .int u15v2, .int u15v3, .int u15v4])) := by rw [eM19]; exact gw_up_self _ _ _ _
                rw [← eM19] at hF18
                rw [← eM19] at hXn hPn
                replace hX := hXn
                replace hp_3 := hPn _ _ hp_3
                replace hp_u7 := hPn _ _ hp_u7
                replace hw14 := hPn _ _ hw14
                clear hXn hPn
                refine lv_iinc (v := c37_4 + 1) (lv' := [(4, .int (c37_4 + 1)), (6, .ref r13), (5, .int (nI k37)), (3, .ref r2), (0, .ref (A 0)), (1, .int k), (2, .int q)]) hx hb d_X_restart_79 hl (k := 2) rfl rfl (by decide) rfl (fun ls hl => ?_)
                refine lv_iinc (v := (nI k37) + 1) (lv' := [(5, .int ((nI k37) + 1)), (4, .int (c37_4 + 1)), (6, .ref r13), (3, .ref r2), (0, .ref (A 0)), (1, .int k), (2, .int q)]) hx hb d_X_restart_82 hl (k := 2) rfl rfl (by decide) rfl (fun ls hl => ?_)
                refine lv_goto (tgt := 37) hx hb d_X_restart_85 (by decide) ?_
                rw [nI_1] at hl
                apply ih37 (ls := ls) (k37 := k37 + 1) (H := H) (locs := locs) (Mw := M19) (c37_4 := c37_4 + 1) <;> first | exact lv_sub hl [0, 1, 3, 4, 5, 6] rfl | exact hX | exact hW | exact hS | exact hF18 | omega | assumption
        · refine lv_iconst (v := -1) hx hb d_X_restart_29 (by decide) ?_
          refine gu_of ?_
          exact gw_iret hx hb hr hlocks hS hW (Nat.le_of_ble_eq_true rfl) (Nat.le_of_ble_eq_true rfl) d_X_restart_30 ⟨hX, hF⟩
end
section
/-! THE REFERENCE'S WORLD: B 0 the object, 1 there, 2 row, 3 found, 4 foundSize, 5 ends, 6 made, 7 drops -/
def gm_k (v : Int32) : Prop := 0 ≤ v.toInt ∧ v.toInt < 10000
def gm_s (v : Int32) : Prop := 0 ≤ v.toInt ∧ v.toInt < 256
theorem gm_nI {k : Nat} (h : k < 10000) : gm_k (nI k) := by unfold gm_k; rw [nI_toInt (by omega)]; omega
theorem gm_snI {k : Nat} (h : k < 256) : gm_s (nI k) := by unfold gm_s; rw [nI_toInt (by omega)]; omega
theorem gm_in {v : Int32} (h : gm_k v) : vp_in v 10000 := gi_in h.1 h.2
theorem gm_of {v : Int32} (h : gm_k v) : ∃ c : Nat, c < 10000 ∧ v = nI c := by
  obtain ⟨h1, h2⟩ := h
  exact ⟨v.toInt.toNat, by omega, gi_nI (by omega) (by omega)⟩
theorem gm_sof {v : Int32} (h : gm_s v) : ∃ c : Nat, c < 256 ∧ v = nI c := by
  obtain ⟨h1, h2⟩ := h
  exact ⟨v.toInt.toNat, by omega, gi_nI (by omega) (by omega)⟩
theorem gm_upd {P : Int32 → Prop} {f : Nat → Int32} {a : Nat} {v : Int32} (h : ∀ i, P (f i)) (hv : P v) : ∀ i, P (upd f a v i) := by
  intro i
  unfold upd
  split
  · exact hv
  · exact h i
def gm_X (G : gw_G) (B : Nat → Nat) (lm : Nat) (sm E : Int32) (jb sz dr : Nat) (M : gw_M) : Prop := ∃ (cd mk : Int32) (f1 f2 f3 f4 f5 f6 f7 : Nat → Int32),
  M (B 0) = some (100, .inr (5, [.int cd, .int (nI lm), .int sm, .int E, .ref (B 1), .ref (B 2), .int (nI sz), .ref (B 3), .ref (B 4), .ref (B 5), .ref (B 6), .int (nI jb), .int mk, .ref (B 7), .int (nI dr)])) ∧
  M (B 1) = some (101, .inl (G.2.1 0, 10000, .inl f1)) ∧ M (B 2) = some (102, .inl (G.2.1 0, 300, .inl f2)) ∧ M (B 3) = some (103, .inl (G.2.1 0, 10240, .inl f3)) ∧ M (B 4) = some (104, .inl (G.2.1 0, 41, .inl f4)) ∧ M (B 5) = some (105, .inl (G.2.1 0, 41, .inl f5)) ∧ M (B 6) = some (106, .inl (G.2.1 0, 4100, .inl f6)) ∧ M (B 7) = some (107, .inl (G.2.1 0, 2048, .inl f7)) ∧
  (∀ i, gm_k (f2 i)) ∧ (∀ i, gm_k (f3 i)) ∧ (∀ i, gm_s (f4 i)) ∧ (1 ≤ lm ∧ lm ≤ 255) ∧ jb ≤ 40
section GMX
variable {G : gw_G} {B : Nat → Nat} {lm : Nat} {sm E : Int32} {jb sz dr : Nat} {M : gw_M}
theorem gm_X.jb40 (h : gm_X G B lm sm E jb sz dr M) : jb ≤ 40 := by
  obtain ⟨_, _, _, _, _, _, _, _, _, _, _, _, _, _, _, _, _, _, _, _, _, h⟩ := h
  exact h
theorem gm_X.lm255 (h : gm_X G B lm sm E jb sz dr M) : 1 ≤ lm ∧ lm ≤ 255 := by
  obtain ⟨_, _, _, _, _, _, _, _, _, _, _, _, _, _, _, _, _, _, _, _, h, _⟩ := h
  exact h
theorem gm_X.up100 {e0 : va_E} {cd2 mk2 E2 : Int32} {jb2 sz2 dr2 : Nat} (h : gm_X G B lm sm E jb sz dr M) (ha : M (B 0) = some (100, e0)) (hj : jb2 ≤ 40) : gm_X G B lm sm E2 jb2 sz2 dr2 (gw_up M (B 0) 100 (.inr (5, [.int cd2, .int (nI lm), .int sm, .int E2, .ref (B 1), .ref (B 2), .int (nI sz2), .ref (B 3), .ref (B 4), .ref (B 5), .ref (B 6), .int (nI jb2), .int mk2, .ref (B 7), .int (nI dr2)]))) := by
  obtain ⟨cd, mk, f1, f2, f3, f4, f5, f6, f7, h0, h1, h2, h3, h4, h5, h6, h7, k2, k3, k4, kl, kj⟩ := h
  exact ⟨cd2, mk2, f1, f2, f3, f4, f5, f6, f7, gw_up_self _ _ _ _, gw_upo ha (by decide) h1, gw_upo ha (by decide) h2, gw_upo ha (by decide) h3, gw_upo ha (by decide) h4, gw_upo ha (by decide) h5, gw_upo ha (by decide) h6, gw_upo ha (by decide) h7, k2, k3, k4, kl, hj⟩
theorem gm_X.up101 {e0 : va_E} {f : Nat → Int32} (h : gm_X G B lm sm E jb sz dr M) (ha : M (B 1) = some (101, e0)) : gm_X G B lm sm E jb sz dr (gw_up M (B 1) 101 (.inl (G.2.1 0, 10000, .inl f))) := by
  obtain ⟨cd, mk, f1, f2, f3, f4, f5, f6, f7, h0, h1, h2, h3, h4, h5, h6, h7, k2, k3, k4, kl, kj⟩ := h
  exact ⟨cd, mk, f, f2, f3, f4, f5, f6, f7, gw_upo ha (by decide) h0, gw_up_self _ _ _ _, gw_upo ha (by decide) h2, gw_upo ha (by decide) h3, gw_upo ha (by decide) h4, gw_upo ha (by decide) h5, gw_upo ha (by decide) h6, gw_upo ha (by decide) h7, k2, k3, k4, kl, kj⟩
theorem gm_X.up102 {e0 : va_E} {f : Nat → Int32} (h : gm_X G B lm sm E jb sz dr M) (ha : M (B 2) = some (102, e0)) (hk : ∀ i, gm_k (f i)) : gm_X G B lm sm E jb sz dr (gw_up M (B 2) 102 (.inl (G.2.1 0, 300, .inl f))) := by
  obtain ⟨cd, mk, f1, f2, f3, f4, f5, f6, f7, h0, h1, h2, h3, h4, h5, h6, h7, k2, k3, k4, kl, kj⟩ := h
  exact ⟨cd, mk, f1, f, f3, f4, f5, f6, f7, gw_upo ha (by decide) h0, gw_upo ha (by decide) h1, gw_up_self _ _ _ _, gw_upo ha (by decide) h3, gw_upo ha (by decide) h4, gw_upo ha (by decide) h5, gw_upo ha (by decide) h6, gw_upo ha (by decide) h7, hk, k3, k4, kl, kj⟩
theorem gm_X.up103 {e0 : va_E} {f : Nat → Int32} (h : gm_X G B lm sm E jb sz dr M) (ha : M (B 3) = some (103, e0)) (hk : ∀ i, gm_k (f i)) : gm_X G B lm sm E jb sz dr (gw_up M (B 3) 103 (.inl (G.2.1 0, 10240, .inl f))) := by
  obtain ⟨cd, mk, f1, f2, f3, f4, f5, f6, f7, h0, h1, h2, h3, h4, h5, h6, h7, k2, k3, k4, kl, kj⟩ := h
  exact ⟨cd, mk, f1, f2, f, f4, f5, f6, f7, gw_upo ha (by decide) h0, gw_upo ha (by decide) h1, gw_upo ha (by decide) h2, gw_up_self _ _ _ _, gw_upo ha (by decide) h4, gw_upo ha (by decide) h5, gw_upo ha (by decide) h6, gw_upo ha (by decide) h7, k2, hk, k4, kl, kj⟩
theorem gm_X.up104 {e0 : va_E} {f : Nat → Int32} (h : gm_X G B lm sm E jb sz dr M) (ha : M (B 4) = some (104, e0)) (hk : ∀ i, gm_s (f i)) : gm_X G B lm sm E jb sz dr (gw_up M (B 4) 104 (.inl (G.2.1 0, 41, .inl f))) := by
  obtain ⟨cd, mk, f1, f2, f3, f4, f5, f6, f7, h0, h1, h2, h3, h4, h5, h6, h7, k2, k3, k4, kl, kj⟩ := h
  exact ⟨cd, mk, f1, f2, f3, f, f5, f6, f7, gw_upo ha (by decide) h0, gw_upo ha (by decide) h1, gw_upo ha (by decide) h2, gw_upo ha (by decide) h3, gw_up_self _ _ _ _, gw_upo ha (by decide) h5, gw_upo ha (by decide) h6, gw_upo ha (by decide) h7, k2, k3, hk, kl, kj⟩
theorem gm_X.up105 {e0 : va_E} {f : Nat → Int32} (h : gm_X G B lm sm E jb sz dr M) (ha : M (B 5) = some (105, e0)) : gm_X G B lm sm E jb sz dr (gw_up M (B 5) 105 (.inl (G.2.1 0, 41, .inl f))) := by
  obtain ⟨cd, mk, f1, f2, f3, f4, f5, f6, f7, h0, h1, h2, h3, h4, h5, h6, h7, k2, k3, k4, kl, kj⟩ := h
  exact ⟨cd, mk, f1, f2, f3, f4, f, f6, f7, gw_upo ha (by decide) h0, gw_upo ha (by decide) h1, gw_upo ha (by decide) h2, gw_upo ha (by decide) h3, gw_upo ha (by decide) h4, gw_up_self _ _ _ _, gw_upo ha (by decide) h6, gw_upo ha (by decide) h7, k2, k3, k4, kl, kj⟩
theorem gm_X.up106 {e0 : va_E} {f : Nat → Int32} (h : gm_X G B lm sm E jb sz dr M) (ha : M (B 6) = some (106, e0)) : gm_X G B lm sm E jb sz dr (gw_up M (B 6) 106 (.inl (G.2.1 0, 4100, .inl f))) := by
  obtain ⟨cd, mk, f1, f2, f3, f4, f5, f6, f7, h0, h1, h2, h3, h4, h5, h6, h7, k2, k3, k4, kl, kj⟩ := h
  exact ⟨cd, mk, f1, f2, f3, f4, f5, f, f7, gw_upo ha (by decide) h0, gw_upo ha (by decide) h1, gw_upo ha (by decide) h2, gw_upo ha (by decide) h3, gw_upo ha (by decide) h4, gw_upo ha (by decide) h5, gw_up_self _ _ _ _, gw_upo ha (by decide) h7, k2, k3, k4, kl, kj⟩
theorem gm_X.up107 {e0 : va_E} {f : Nat → Int32} (h : gm_X G B lm sm E jb sz dr M) (ha : M (B 7) = some (107, e0)) : gm_X G B lm sm E jb sz dr (gw_up M (B 7) 107 (.inl (G.2.1 0, 2048, .inl f))) := by
  obtain ⟨cd, mk, f1, f2, f3, f4, f5, f6, f7, h0, h1, h2, h3, h4, h5, h6, h7, k2, k3, k4, kl, kj⟩ := h
  exact ⟨cd, mk, f1, f2, f3, f4, f5, f6, f, gw_upo ha (by decide) h0, gw_upo ha (by decide) h1, gw_upo ha (by decide) h2, gw_upo ha (by decide) h3, gw_upo ha (by decide) h4, gw_upo ha (by decide) h5, gw_upo ha (by decide) h6, gw_up_self _ _ _ _, k2, k3, k4, kl, kj⟩
/-- what the class does leaves it -/
theorem gm_X.stays {M2 : gw_M} {L : List Nat} (h : gm_X G B lm sm E jb sz dr M) (hf : gw_fr (gw_out L) M M2) (hL : ∀ x ∈ L, x < 100) : gm_X G B lm sm E jb sz dr M2 := by
  have hk : ∀ (r a : Nat) (e : va_E), 100 ≤ r → M a = some (r, e) → M2 a = some (r, e) := fun r a e hr => (hf a r e (fun q => by have := hL r q; omega)).mp
  obtain ⟨cd, mk, f1, f2, f3, f4, f5, f6, f7, h0, h1, h2, h3, h4, h5, h6, h7, k2, k3, k4, kl, kj⟩ := h
  exact ⟨cd, mk, f1, f2, f3, f4, f5, f6, f7, hk _ _ _ (by decide) h0, hk _ _ _ (by decide) h1, hk _ _ _ (by decide) h2, hk _ _ _ (by decide) h3, hk _ _ _ (by decide) h4, hk _ _ _ (by decide) h5, hk _ _ _ (by decide) h6, hk _ _ _ (by decide) h7, k2, k3, k4, kl, kj⟩
end GMX
/-- places in the reference's arrays -/
theorem gm_c256 : (256 : Int32) = nI 256 := rfl
theorem gm_c100 : (100 : Int32) = nI 100 := rfl
theorem gm_c9999 : (9999 : Int32) = nI 9999 := rfl
theorem gm_fi {q k : Nat} (hq : q < 40) (hk : k < 256) : vp_in (256 * (nI (q + 1) - 1) + nI k) 10240 := by
  rw [nI_pred, gm_c256, pk_mul, nI_add]; exact vp_in_nI (by omega) (by omega)
theorem gm_mi {q w : Nat} (h1 : 1 ≤ w) (hw : w < 100) (hq : q ≤ 40) : vp_in (100 * nI q + nI w - 1) 4100 := by
  rw [gm_c100, pk_mul, nI_add, gx_pred (by omega)]; exact vp_in_nI (by omega) (by omega)
theorem gm_ni {q : Nat} {v : Int32} (h1 : 1 ≤ q) (hq : q ≤ 40) (hv : gm_s v) (h0 : ¬ v = 0) : vp_in (256 * (nI q - 1) + v - 1) 10240 := by
  obtain ⟨c, hc, rfl⟩ := gm_sof hv
  have hc0 : c ≠ 0 := fun z => h0 (by rw [z]; rfl)
  rw [gx_pred h1, gm_c256, pk_mul, nI_add, gx_pred (by omega)]; exact vp_in_nI (by omega) (by omega)
theorem gm_no {b : Int32} {w : Nat} (hb : gm_k b) (h1 : 1 ≤ w) (hw : w < 100) : gm_k (b + nI w - 1 - (b + nI w - 1) / 9999 * 9999 + 1) := by
  obtain ⟨c, hc, rfl⟩ := gm_of hb
  rw [nI_add, gx_pred (by omega), gm_c9999, pk_rem (by omega) (by omega) (by omega), nI_1]
  have := Nat.mod_lt (c + w - 1) (show 0 < 9999 by omega)
  exact gm_nI (by omega)
theorem gm_ri {q : Nat} {v p : Int32} (h1 : 1 ≤ q) (hq : q ≤ 40) (hv : gm_s v) (hp : p ≤ 0) (h : 0 - v < p) : vp_in (256 * (nI q - 1) + v - 1 + p) 10240 := by
  have hs := hv
  obtain ⟨c, hc, rfl⟩ := gm_sof hv
  have e0 := gi_sub (a := 0) (b := nI c) (by rw [nI_toInt (by omega), gi_0]; omega)
  rw [nI_toInt (by omega), gi_0] at e0
  rw [Int32.lt_iff_toInt_lt, e0] at h
  rw [Int32.le_iff_toInt_le, gi_0] at hp
  rw [gx_pred h1, gm_c256, pk_mul, nI_add, gx_pred (by omega)]
  have e1 := gi_add (a := nI (256 * (q - 1) + c - 1)) (b := p) (by rw [nI_toInt (by omega)]; omega)
  rw [nI_toInt (by omega)] at e1
  exact gi_in (by rw [e1]; omega) (by rw [e1]; omega)
theorem gm_job {k : Int32} {jb : Nat} (h1 : ¬ k ≤ 0) (h2 : ¬ nI jb < k) (hj : jb ≤ 40) : ∃ q : Nat, 1 ≤ q ∧ q ≤ jb ∧ k = nI q := by
  have a1 := Int32.not_le.mp h1
  have a2 := Int32.not_lt.mp h2
  rw [Int32.lt_iff_toInt_lt, gi_0] at a1
  rw [Int32.le_iff_toInt_le, nI_toInt (by omega)] at a2
  exact ⟨k.toInt.toNat, by omega, by omega, gi_nI (by omega) (by omega)⟩
theorem gm_num {k : Int32} (h1 : ¬ k ≤ 0) (h2 : ¬ 9999 < k) : gm_k k := by
  have a1 := Int32.not_le.mp h1
  have a2 := Int32.not_lt.mp h2
  rw [Int32.lt_iff_toInt_lt, gi_0] at a1
  rw [Int32.le_iff_toInt_le, show (9999 : Int32).toInt = 9999 by decide] at a2
  exact ⟨by omega, by omega⟩
theorem gm_99 {k : Int32} (h1 : ¬ k ≤ 0) (h2 : k ≤ 99) : ∃ w : Nat, 1 ≤ w ∧ w < 100 ∧ k = nI w := by
  have a1 := Int32.not_le.mp h1
  rw [Int32.lt_iff_toInt_lt, gi_0] at a1
  rw [Int32.le_iff_toInt_le, show (99 : Int32).toInt = 99 by decide] at h2
  exact ⟨k.toInt.toNat, by omega, by omega, gi_nI (by omega) (by omega)⟩
theorem gm_991 {k : Int32} (h1 : ¬ k < 1) (h2 : k ≤ 99) : ∃ w : Nat, 1 ≤ w ∧ w < 100 ∧ k = nI w := by
  have a1 := Int32.not_lt.mp h1
  rw [Int32.le_iff_toInt_le, gi_1] at a1
  rw [Int32.le_iff_toInt_le, show (99 : Int32).toInt = 99 by decide] at h2
  exact ⟨k.toInt.toNat, by omega, by omega, gi_nI (by omega) (by omega)⟩
theorem gm_k0 : gm_k 0 := by unfold gm_k; decide
theorem gm_le {k a : Nat} {x : Int32} (h : ¬ x < nI k) (hx : x = nI a) (ha : a < 2 ^ 31) (hk : k < 2 ^ 31) : k ≤ a := by subst hx; exact gx_nlt h ha hk
theorem gm_lt {k a : Nat} {x : Int32} (h : ¬ x ≤ nI k) (hx : x = nI a) (ha : a < 2 ^ 31) (hk : k < 2 ^ 31) : k < a := by subst hx; exact gx_ltN h hk ha
end
section
abbrev b_Mo_isNumber : ByteArray := prog_6_method_4_code
abbrev y_Mo_isNumber : MethodName := ⟨"GenerationsModel", "isNumber", "(I)Z"⟩
abbrev b_Mo_isAhead : ByteArray := prog_6_method_10_code
abbrev y_Mo_isAhead : MethodName := ⟨"GenerationsModel", "isAhead", "(II)Z"⟩
abbrev b_Mo_fails : ByteArray := prog_6_method_3_code
abbrev y_Mo_fails : MethodName := ⟨"GenerationsModel", "fails", "(Z)Z"⟩
abbrev b_Mo_what : ByteArray := prog_6_method_5_code
abbrev y_Mo_what : MethodName := ⟨"GenerationsModel", "what", "(I)I"⟩
abbrev b_Mo_owner : ByteArray := prog_6_method_6_code
abbrev y_Mo_owner : MethodName := ⟨"GenerationsModel", "owner", "(I)I"⟩
abbrev b_Mo_versionOf : ByteArray := prog_6_method_7_code
abbrev y_Mo_versionOf : MethodName := ⟨"GenerationsModel", "versionOf", "(I)I"⟩
abbrev b_Mo_be : ByteArray := prog_6_method_8_code
abbrev y_Mo_be : MethodName := ⟨"GenerationsModel", "be", "(IIII)V"⟩
abbrev b_Mo_become : ByteArray := prog_6_method_9_code
abbrev y_Mo_become : MethodName := ⟨"GenerationsModel", "become", "(II)V"⟩
set_option maxRecDepth 20000 in
theorem mw222 : (Cond.fieldLink "GenerationsModel" (39 : Nat) "GenerationsModel" "code" "I") ∈ gw_N0 := gw_in (List.mem_append_right _ (gw_tm (i := 458) rfl))
set_option maxRecDepth 20000 in
theorem mw223 : (Cond.fieldLink "GenerationsModel" (7 : Nat) "GenerationsModel" "there" "[I") ∈ gw_N0 := gw_in (List.mem_append_right _ (gw_tm (i := 462) rfl))
set_option maxRecDepth 20000 in
theorem mw224 : (Cond.code ({ cls := "GenerationsModel", name := "owner", desc := "(I)I" } : Jvm.MethodName) prog_6_method_6_code (2 : Nat) (Option.some Jvm.ClassFile.FieldType.int)) ∈ gw_N0 := gw_in (List.mem_append_right _ (gw_tm (i := 529) rfl))
set_option maxRecDepth 20000 in
theorem mw225 : (Cond.methodLink "GenerationsModel" (42 : Nat) ({ cls := "GenerationsModel", name := "owner", desc := "(I)I" } : Jvm.MethodName)) ∈ gw_N0 := gw_in (List.mem_append_right _ (gw_tm (i := 526) rfl))
set_option maxRecDepth 20000 in
theorem mw226 : (Cond.instanceMethod ({ cls := "GenerationsModel", name := "owner", desc := "(I)I" } : Jvm.MethodName)) ∈ gw_N0 := gw_in (List.mem_append_right _ (gw_tm (i := 528) rfl))
set_option maxRecDepth 20000 in
theorem mw227 : (Cond.selects "GenerationsModel" ⟨"GenerationsModel", "owner", "(I)I"⟩ ⟨"GenerationsModel", "owner", "(I)I"⟩) ∈ gw_N0 := gw_in (List.mem_append_left _ (List.mem_of_getElem? (i := 28) rfl))
set_option maxRecDepth 20000 in
theorem mw228 : (Cond.initialized "GenerationsModel") ∈ gw_N0 := gw_in (List.mem_append_right _ (gw_tm (i := 8) rfl))
set_option maxRecDepth 20000 in
theorem mw229 : (Cond.code ({ cls := "GenerationsModel", name := "versionOf", desc := "(I)I" } : Jvm.MethodName) prog_6_method_7_code (2 : Nat) (Option.some Jvm.ClassFile.FieldType.int)) ∈ gw_N0 := gw_in (List.mem_append_right _ (gw_tm (i := 533) rfl))
set_option maxRecDepth 20000 in
theorem mw230 : (Cond.methodLink "GenerationsModel" (46 : Nat) ({ cls := "GenerationsModel", name := "versionOf", desc := "(I)I" } : Jvm.MethodName)) ∈ gw_N0 := gw_in (List.mem_append_right _ (gw_tm (i := 530) rfl))
set_option maxRecDepth 20000 in
theorem mw231 : (Cond.instanceMethod ({ cls := "GenerationsModel", name := "versionOf", desc := "(I)I" } : Jvm.MethodName)) ∈ gw_N0 := gw_in (List.mem_append_right _ (gw_tm (i := 532) rfl))
set_option maxRecDepth 20000 in
theorem mw232 : (Cond.selects "GenerationsModel" ⟨"GenerationsModel", "versionOf", "(I)I"⟩ ⟨"GenerationsModel", "versionOf", "(I)I"⟩) ∈ gw_N0 := gw_in (List.mem_append_left _ (List.mem_of_getElem? (i := 29) rfl))
set_option maxRecDepth 20000 in
theorem mw233 : (Cond.code ({ cls := "GenerationsModel", name := "be", desc := "(IIII)V" } : Jvm.MethodName) prog_6_method_8_code (5 : Nat) (Option.none : Option Jvm.ClassFile.FieldType)) ∈ gw_N0 := gw_in (List.mem_append_right _ (gw_tm (i := 537) rfl))
set_option maxRecDepth 20000 in
theorem mw234 : (Cond.methodLink "GenerationsModel" (49 : Nat) ({ cls := "GenerationsModel", name := "be", desc := "(IIII)V" } : Jvm.MethodName)) ∈ gw_N0 := gw_in (List.mem_append_right _ (gw_tm (i := 534) rfl))
set_option maxRecDepth 20000 in
theorem mw235 : (Cond.instanceMethod ({ cls := "GenerationsModel", name := "be", desc := "(IIII)V" } : Jvm.MethodName)) ∈ gw_N0 := gw_in (List.mem_append_right _ (gw_tm (i := 536) rfl))
set_option maxRecDepth 20000 in
theorem mw236 : (Cond.selects "GenerationsModel" ⟨"GenerationsModel", "be", "(IIII)V"⟩ ⟨"GenerationsModel", "be", "(IIII)V"⟩) ∈ gw_N0 := gw_in (List.mem_append_left _ (List.mem_of_getElem? (i := 30) rfl))
end
section
theorem d_Mo_isNumber_0 : decode b_Mo_isNumber 0 = .ok (.iload_n 0, 1) := by decide +kernel
theorem d_Mo_isNumber_1 : decode b_Mo_isNumber 1 = .ok (.ifCond .le 14, 3) := by decide +kernel
theorem d_Mo_isNumber_15 : decode b_Mo_isNumber 15 = .ok (.iconst 0, 1) := by decide +kernel
theorem d_Mo_isNumber_16 : decode b_Mo_isNumber 16 = .ok (.ireturn, 1) := by decide +kernel
theorem d_Mo_isNumber_4 : decode b_Mo_isNumber 4 = .ok (.iload_n 0, 1) := by decide +kernel
theorem d_Mo_isNumber_5 : decode b_Mo_isNumber 5 = .ok (.sipush 9999, 3) := by decide +kernel
theorem d_Mo_isNumber_8 : decode b_Mo_isNumber 8 = .ok (.if_icmp .gt 7, 3) := by decide +kernel
theorem d_Mo_isNumber_11 : decode b_Mo_isNumber 11 = .ok (.iconst 1, 1) := by decide +kernel
theorem d_Mo_isNumber_12 : decode b_Mo_isNumber 12 = .ok (.goto 4, 3) := by decide +kernel
theorem d_Mo_isAhead_0 : decode b_Mo_isAhead 0 = .ok (.iload_n 1, 1) := by decide +kernel
theorem d_Mo_isAhead_1 : decode b_Mo_isAhead 1 = .ok (.iload_n 0, 1) := by decide +kernel
theorem d_Mo_isAhead_2 : decode b_Mo_isAhead 2 = .ok (.isub, 1) := by decide +kernel
theorem d_Mo_isAhead_3 : decode b_Mo_isAhead 3 = .ok (.sipush 9999, 3) := by decide +kernel
theorem d_Mo_isAhead_6 : decode b_Mo_isAhead 6 = .ok (.iadd, 1) := by decide +kernel
theorem d_Mo_isAhead_7 : decode b_Mo_isAhead 7 = .ok (.sipush 9999, 3) := by decide +kernel
theorem d_Mo_isAhead_10 : decode b_Mo_isAhead 10 = .ok (.irem, 1) := by decide +kernel
theorem d_Mo_isAhead_11 : decode b_Mo_isAhead 11 = .ok (.istore_n 2, 1) := by decide +kernel
theorem d_Mo_isAhead_12 : decode b_Mo_isAhead 12 = .ok (.iload_n 2, 1) := by decide +kernel
theorem d_Mo_isAhead_13 : decode b_Mo_isAhead 13 = .ok (.ifCond .le 14, 3) := by decide +kernel
theorem d_Mo_isAhead_27 : decode b_Mo_isAhead 27 = .ok (.iconst 0, 1) := by decide +kernel
theorem d_Mo_isAhead_28 : decode b_Mo_isAhead 28 = .ok (.ireturn, 1) := by decide +kernel
theorem d_Mo_isAhead_16 : decode b_Mo_isAhead 16 = .ok (.iload_n 2, 1) := by decide +kernel
theorem d_Mo_isAhead_17 : decode b_Mo_isAhead 17 = .ok (.sipush 5000, 3) := by decide +kernel
theorem d_Mo_isAhead_20 : decode b_Mo_isAhead 20 = .ok (.if_icmp .ge 7, 3) := by decide +kernel
theorem d_Mo_isAhead_23 : decode b_Mo_isAhead 23 = .ok (.iconst 1, 1) := by decide +kernel
theorem d_Mo_isAhead_24 : decode b_Mo_isAhead 24 = .ok (.goto 4, 3) := by decide +kernel
theorem d_Mo_fails_0 : decode b_Mo_fails 0 = .ok (.aload_n 0, 1) := by decide +kernel
theorem d_Mo_fails_1 : decode b_Mo_fails 1 = .ok (.iload_n 1, 1) := by decide +kernel
theorem d_Mo_fails_2 : decode b_Mo_fails 2 = .ok (.ifCond .eq 7, 3) := by decide +kernel
theorem d_Mo_fails_9 : decode b_Mo_fails 9 = .ok (.iconst 0, 1) := by decide +kernel
theorem d_Mo_fails_10 : decode b_Mo_fails 10 = .ok (.putfield 39, 3) := by decide +kernel
theorem d_Mo_fails_13 : decode b_Mo_fails 13 = .ok (.iload_n 1, 1) := by decide +kernel
theorem d_Mo_fails_14 : decode b_Mo_fails 14 = .ok (.ireturn, 1) := by decide +kernel
theorem d_Mo_fails_5 : decode b_Mo_fails 5 = .ok (.iconst 1, 1) := by decide +kernel
theorem d_Mo_fails_6 : decode b_Mo_fails 6 = .ok (.goto 4, 3) := by decide +kernel
theorem d_Mo_what_0 : decode b_Mo_what 0 = .ok (.aload_n 0, 1) := by decide +kernel
theorem d_Mo_what_1 : decode b_Mo_what 1 = .ok (.getfield 7, 3) := by decide +kernel
theorem d_Mo_what_4 : decode b_Mo_what 4 = .ok (.iload_n 1, 1) := by decide +kernel
theorem d_Mo_what_5 : decode b_Mo_what 5 = .ok (.iaload, 1) := by decide +kernel
theorem d_Mo_what_6 : decode b_Mo_what 6 = .ok (.bipush 7, 2) := by decide +kernel
theorem d_Mo_what_8 : decode b_Mo_what 8 = .ok (.iand, 1) := by decide +kernel
theorem d_Mo_what_9 : decode b_Mo_what 9 = .ok (.ireturn, 1) := by decide +kernel
theorem d_Mo_owner_0 : decode b_Mo_owner 0 = .ok (.aload_n 0, 1) := by decide +kernel
theorem d_Mo_owner_1 : decode b_Mo_owner 1 = .ok (.getfield 7, 3) := by decide +kernel
theorem d_Mo_owner_4 : decode b_Mo_owner 4 = .ok (.iload_n 1, 1) := by decide +kernel
theorem d_Mo_owner_5 : decode b_Mo_owner 5 = .ok (.iaload, 1) := by decide +kernel
theorem d_Mo_owner_6 : decode b_Mo_owner 6 = .ok (.iconst 3, 1) := by decide +kernel
theorem d_Mo_owner_7 : decode b_Mo_owner 7 = .ok (.ishr, 1) := by decide +kernel
theorem d_Mo_owner_8 : decode b_Mo_owner 8 = .ok (.bipush 63, 2) := by decide +kernel
theorem d_Mo_owner_10 : decode b_Mo_owner 10 = .ok (.iand, 1) := by decide +kernel
theorem d_Mo_owner_11 : decode b_Mo_owner 11 = .ok (.ireturn, 1) := by decide +kernel
theorem d_Mo_versionOf_0 : decode b_Mo_versionOf 0 = .ok (.aload_n 0, 1) := by decide +kernel
theorem d_Mo_versionOf_1 : decode b_Mo_versionOf 1 = .ok (.getfield 7, 3) := by decide +kernel
theorem d_Mo_versionOf_4 : decode b_Mo_versionOf 4 = .ok (.iload_n 1, 1) := by decide +kernel
theorem d_Mo_versionOf_5 : decode b_Mo_versionOf 5 = .ok (.iaload, 1) := by decide +kernel
theorem d_Mo_versionOf_6 : decode b_Mo_versionOf 6 = .ok (.bipush 9, 2) := by decide +kernel
theorem d_Mo_versionOf_8 : decode b_Mo_versionOf 8 = .ok (.ishr, 1) := by decide +kernel
theorem d_Mo_versionOf_9 : decode b_Mo_versionOf 9 = .ok (.ireturn, 1) := by decide +kernel
theorem d_Mo_be_0 : decode b_Mo_be 0 = .ok (.aload_n 0, 1) := by decide +kernel
theorem d_Mo_be_1 : decode b_Mo_be 1 = .ok (.getfield 7, 3) := by decide +kernel
theorem d_Mo_be_4 : decode b_Mo_be 4 = .ok (.iload_n 1, 1) := by decide +kernel
theorem d_Mo_be_5 : decode b_Mo_be 5 = .ok (.iload_n 2, 1) := by decide +kernel
theorem d_Mo_be_6 : decode b_Mo_be 6 = .ok (.iload_n 3, 1) := by decide +kernel
theorem d_Mo_be_7 : decode b_Mo_be 7 = .ok (.iconst 3, 1) := by decide +kernel
theorem d_Mo_be_8 : decode b_Mo_be 8 = .ok (.ishl, 1) := by decide +kernel
theorem d_Mo_be_9 : decode b_Mo_be 9 = .ok (.ior, 1) := by decide +kernel
theorem d_Mo_be_10 : decode b_Mo_be 10 = .ok (.iload 4, 2) := by decide +kernel
theorem d_Mo_be_12 : decode b_Mo_be 12 = .ok (.bipush 9, 2) := by decide +kernel
theorem d_Mo_be_14 : decode b_Mo_be 14 = .ok (.ishl, 1) := by decide +kernel
theorem d_Mo_be_15 : decode b_Mo_be 15 = .ok (.ior, 1) := by decide +kernel
theorem d_Mo_be_16 : decode b_Mo_be 16 = .ok (.iastore, 1) := by decide +kernel
theorem d_Mo_be_17 : decode b_Mo_be 17 = .ok (.return_, 1) := by decide +kernel
theorem d_Mo_become_0 : decode b_Mo_become 0 = .ok (.aload_n 0, 1) := by decide +kernel
theorem d_Mo_become_1 : decode b_Mo_become 1 = .ok (.iload_n 1, 1) := by decide +kernel
theorem d_Mo_become_2 : decode b_Mo_become 2 = .ok (.iload_n 2, 1) := by decide +kernel
theorem d_Mo_become_3 : decode b_Mo_become 3 = .ok (.aload_n 0, 1) := by decide +kernel
theorem d_Mo_become_4 : decode b_Mo_become 4 = .ok (.iload_n 1, 1) := by decide +kernel
theorem d_Mo_become_5 : decode b_Mo_become 5 = .ok (.invokevirtual 42, 3) := by decide +kernel
theorem d_Mo_become_8 : decode b_Mo_become 8 = .ok (.aload_n 0, 1) := by decide +kernel
theorem d_Mo_become_9 : decode b_Mo_become 9 = .ok (.iload_n 1, 1) := by decide +kernel
theorem d_Mo_become_10 : decode b_Mo_become 10 = .ok (.invokevirtual 46, 3) := by decide +kernel
theorem d_Mo_become_13 : decode b_Mo_become 13 = .ok (.invokevirtual 49, 3) := by decide +kernel
theorem d_Mo_become_16 : decode b_Mo_become 16 = .ok (.return_, 1) := by decide +kernel
end
section
set_option maxHeartbeats 4000000 in
set_option maxRecDepth 100000 in
theorem m_isNumber (l : Launch) (G : gw_G) (M : gw_M) (k : Int32) : Met l y_Mo_isNumber [.code y_Mo_isNumber b_Mo_isNumber 1 (some .boolean)] ({ frames := 0, cells := 0, slots := 0, locals := 0 }) (gw_Pc G M [.int k]) (gr_Qi (fun r => r = 0 ∨ gm_k k)) 0 0 (fun _ => False) := by
  refine gw_startR (by decide) (Nat.le_of_ble_eq_true rfl) (fun p9 e9 s m b9 mt9 c9 hx hb hr hml hown hlocks hin hE hB hW ls hl => ?_)
  have hts := hE.ts ([.int k] : List Value).toArray
  have hl : lv_has ls 1 [(0, .int k)] := hl
  have hown : s.vm.findClass "GenerationsModel" = some m.cls := hown
  have hS : va_S (gw_A G) s.heap s.heap [] := va_S.rf
  refine lv_iload_n hx hb d_Mo_isNumber_0 rfl (lv_at hl 0 rfl) ?_
  refine lv_if_le (tgt := 15) hx hb d_Mo_isNumber_1 (by decide) (fun c1 => ?_) (fun c1 => ?_)
  · refine lv_iconst (v := 0) hx hb d_Mo_isNumber_15 (by decide) ?_
    exact gr_zret hx hb hr hlocks rfl d_Mo_isNumber_16 (Or.inl rfl)
  · refine lv_iload_n hx hb d_Mo_isNumber_4 rfl (lv_at hl 0 rfl) ?_
    refine lv_sipush (v := 9999) hx hb d_Mo_isNumber_5 (by decide) ?_
    refine lv_icmp_gt (tgt := 15) hx hb d_Mo_isNumber_8 (by decide) (fun c8 => ?_) (fun c8 => ?_)
    · refine lv_iconst (v := 0) hx hb d_Mo_isNumber_15 (by decide) ?_
      exact gr_zret hx hb hr hlocks rfl d_Mo_isNumber_16 (Or.inl rfl)
    · refine lv_iconst (v := 1) hx hb d_Mo_isNumber_11 (by decide) ?_
      refine lv_goto (tgt := 16) hx hb d_Mo_isNumber_12 (by decide) ?_
      exact gr_zret hx hb hr hlocks rfl d_Mo_isNumber_16 (Or.inr (gm_num c1 c8))

set_option maxHeartbeats 4000000 in
set_option maxRecDepth 100000 in
theorem m_isAhead (l : Launch) (G : gw_G) (M : gw_M) (x : Int32) (q : Int32) : Met l y_Mo_isAhead [.code y_Mo_isAhead b_Mo_isAhead 3 (some .boolean)] ({ frames := 0, cells := 0, slots := 0, locals := 0 }) (gw_Pc G M [.int x, .int q]) (gr_Qi (fun r => True)) 0 0 (fun _ => False) := by
  refine gw_startR (by decide) (Nat.le_of_ble_eq_true rfl) (fun p9 e9 s m b9 mt9 c9 hx hb hr hml hown hlocks hin hE hB hW ls hl => ?_)
  have hts := hE.ts ([.int x, .int q] : List Value).toArray
  have hl : lv_has ls 3 [(0, .int x), (1, .int q)] := hl
  have hown : s.vm.findClass "GenerationsModel" = some m.cls := hown
  have hS : va_S (gw_A G) s.heap s.heap [] := va_S.rf
  refine lv_iload_n hx hb d_Mo_isAhead_0 rfl (lv_at hl 1 rfl) ?_
  refine lv_iload_n hx hb d_Mo_isAhead_1 rfl (lv_at hl 0 rfl) ?_
  refine lv_isub hx hb d_Mo_isAhead_2 ?_
  refine lv_sipush (v := 9999) hx hb d_Mo_isAhead_3 (by decide) ?_
  refine lv_iadd hx hb d_Mo_isAhead_6 ?_
  refine lv_sipush (v := 9999) hx hb d_Mo_isAhead_7 (by decide) ?_
  refine lv_irem hx hb d_Mo_isAhead_10 (by decide) ?_
  refine lv_istore_n (lv' := [(2, .int (((q - x) + 9999) - ((q - x) + 9999) / 9999 * 9999)), (0, .int x), (1, .int q)]) hx hb d_Mo_isAhead_11 rfl hl (by decide) rfl (fun ls hl => ?_)
  refine lv_iload_n hx hb d_Mo_isAhead_12 rfl (lv_at hl 0 rfl) ?_
  refine lv_if_le (tgt := 27) hx hb d_Mo_isAhead_13 (by decide) (fun c13 => ?_) (fun c13 => ?_)
  · refine lv_iconst (v := 0) hx hb d_Mo_isAhead_27 (by decide) ?_
    exact gr_zret hx hb hr hlocks rfl d_Mo_isAhead_28 trivial
  · refine lv_iload_n hx hb d_Mo_isAhead_16 rfl (lv_at hl 0 rfl) ?_
    refine lv_sipush (v := 5000) hx hb d_Mo_isAhead_17 (by decide) ?_
    refine lv_icmp_ge (tgt := 27) hx hb d_Mo_isAhead_20 (by decide) (fun c20 => ?_) (fun c20 => ?_)
    · refine lv_iconst (v := 0) hx hb d_Mo_isAhead_27 (by decide) ?_
      exact gr_zret hx hb hr hlocks rfl d_Mo_isAhead_28 trivial
    · refine lv_iconst (v := 1) hx hb d_Mo_isAhead_23 (by decide) ?_
      refine lv_goto (tgt := 28) hx hb d_Mo_isAhead_24 (by decide) ?_
      exact gr_zret hx hb hr hlocks rfl d_Mo_isAhead_28 trivial

set_option maxHeartbeats 4000000 in
set_option maxRecDepth 100000 in
theorem m_fails (l : Launch) (G : gw_G) (M : gw_M) (B : Nat → Nat) (lm : Nat) (sm E : Int32) (jb sz dr : Nat) (hX : gm_X G B lm sm E jb sz dr M) (z : Int32) (hz : narrow .boolean (.int z) = .int z) : Met l y_Mo_fails [.code y_Mo_fails b_Mo_fails 2 (some .boolean)] ({ frames := 0, cells := 0, slots := 0, locals := 0 }) (gw_Pc G M [.ref (B 0), .int z]) (gw_Qi G (fun r M2 => z = r ∧ gm_X G B lm sm E jb sz dr M2 ∧ gw_fg (gw_out [100, 101, 102, 103, 104, 105, 106, 107]) M M2)) 0 0 (gw_A G) := by
  refine gw_start (by decide) (Nat.le_of_ble_eq_true rfl) (fun p9 e9 s m b9 mt9 c9 hx hb hr hml hown hlocks hin hE hB hW ls hl => ?_)
  have hts := hE.ts ([.ref (B 0), .int z] : List Value).toArray
  have hl : lv_has ls 2 [(0, .ref (B 0)), (1, .int z)] := hl
  have hown : s.vm.findClass "GenerationsModel" = some m.cls := hown
  have hj9 := hX.jb40
  have hm9 := hX.lm255
  refine gw_gen (I := fun z => gm_X G B lm sm E jb sz dr z) (P := gw_out [100, 101, 102, 103, 104, 105, 106, 107]) hX hW (fun H locs Mw hW hS hX hF => ?_)
  have hX : gm_X G B lm sm E jb sz dr Mw := hX
  refine lv_aload_n hx hb d_Mo_fails_0 rfl (lv_at hl 0 rfl) ?_
  refine lv_iload_n hx hb d_Mo_fails_1 rfl (lv_at hl 1 rfl) ?_
  refine lv_if_eq (tgt := 9) hx hb d_Mo_fails_2 (by decide) (fun c2 => ?_) (fun c2 => ?_)
  · refine lv_iconst (v := 0) hx hb d_Mo_fails_9 (by decide) ?_
    obtain ⟨cdo1, mko1, f1o1, f2o1, f3o1, f4o1, f5o1, f6o1, f7o1, hf_0, hf_1, hf_2, hf_3, hf_4, hf_5, hf_6, hf_7, hk2o1, hk3o1, hk4o1, -, -⟩ := id hX
    refine gw_put (ci := 5) (fs := [.int cdo1, .int (nI lm), .int sm, .int E, .ref (B 1), .ref (B 2), .int (nI sz), .ref (B 3), .ref (B 4), .ref (B 5), .ref (B 6), .int (nI jb), .int mko1, .ref (B 7), .int (nI dr)]) (v := .int 0) (ty := .int) hx hb hts in_Mo t_Mo t_Mo_ok n_Mo hown hE.K hW hS hf_0 rfl 0 (by decide) (hts _ mw222) (fun _ h9 => h9) rfl (by decide +kernel) rfl rfl (Nat.le_of_ble_eq_true rfl) d_Mo_fails_10 (fun H locs hW hS => ?_)
    have hXn : gm_X G B lm sm E jb sz dr (gw_up Mw (B 0) 100 (.inr (5, [.int 0, .int (nI lm), .int sm, .int E, .ref (B 1), .ref (B 2), .int (nI sz), .ref (B 3), .ref (B 4), .ref (B 5), .ref (B 6), .int (nI jb), .int mko1, .ref (B 7), .int (nI dr)]))) := hX.up100 hf_0 (by omega)
    have hF2 : gw_fg (gw_out [100, 101, 102, 103, 104, 105, 106, 107]) M (gw_up Mw (B 0) 100 (.inr (5, [.int 0, .int (nI lm), .int sm, .int E, .ref (B 1), .ref (B 2), .int (nI sz), .ref (B 3), .ref (B 4), .ref (B 5), .ref (B 6), .int (nI jb), .int mko1, .ref (B 7), .int (nI dr)]))) := gw_fg.up hF hf_0 (show ¬ ((gw_out [100, 101, 102, 103, 104, 105, 106, 107]) 100) by decide) (show ¬ ((gw_out [100, 101, 102, 103, 104, 105, 106, 107]) 100) by decide)
    obtain ⟨M3, eM3⟩ : ∃ z, z = gw_up Mw (B 0) 100 (.inr (5, [.int 0, .int (nI lm), .int sm, .int E, .ref (B 1), .ref (B 2), .int (nI sz), .ref (B 3), .ref (B 4), .ref (B 5), .ref (B 6), .int (nI jb), .int mko1, .ref (B 7), .int (nI dr)])) := ⟨_, rfl⟩
    replace hW : gw_P G.1 vwCl G.2.2.2 M3 H := by rw [eM3]; exact hW
    have hf_1 : M3 (B 1) = some (101, .inl (G.2.1 0, 10000, .inl f1o1)) := by rw [eM3]; exact gw_keep hf_1 hf_0 (by decide)
    have hf_2 : M3 (B 2) = some (102, .inl (G.2.1 0, 300, .inl f2o1)) := by rw [eM3]; exact gw_keep hf_2 hf_0 (by decide)
    have hf_3 : M3 (B 3) = some (103, .inl (G.2.1 0, 10240, .inl f3o1)) := by rw [eM3]; exact gw_keep hf_3 hf_0 (by decide)
    have hf_4 : M3 (B 4) = some (104, .inl (G.2.1 0, 41, .inl f4o1)) := by rw [eM3]; exact gw_keep hf_4 hf_0 (by decide)
    have hf_5 : M3 (B 5) = some (105, .inl (G.2.1 0, 41, .inl f5o1)) := by rw [eM3]; exact gw_keep hf_5 hf_0 (by decide)
    have hf_6 : M3 (B 6) = some (106, .inl (G.2.1 0, 4100, .inl f6o1)) := by rw [eM3]; exact gw_keep hf_6 hf_0 (by decide)
    have hf_7 : M3 (B 7) = some (107, .inl (G.2.1 0, 2048, .inl f7o1)) := by rw [eM3]; exact gw_keep hf_7 hf_0 (by decide)
    have hf_0 : M3 (B 0) = some (100, .inr (5, [.int 0, .int (nI lm), .int sm, .int E, .ref (B 1), .ref (B 2), .int (nI sz), .ref (B 3), .ref (B 4), .ref (B 5), .ref (B 6), .int (nI jb), .int mko1, .ref (B 7), .int (nI dr)])) := by rw [eM3]; exact gw_up_self _ _ _ _
    rw [← eM3] at hF2
    rw [← eM3] at hXn
    replace hX := hXn
    clear hXn
    refine lv_iload_n hx hb d_Mo_fails_13 rfl (lv_at hl 1 rfl) ?_
    exact gw_zret hx hb hr hlocks hz hS hW (Nat.le_of_ble_eq_true rfl) (Nat.le_of_ble_eq_true rfl) d_Mo_fails_14 ⟨rfl, hX, hF2⟩
  · refine lv_iconst (v := 1) hx hb d_Mo_fails_5 (by decide) ?_
    refine lv_goto (tgt := 10) hx hb d_Mo_fails_6 (by decide) ?_
    obtain ⟨cdo4, mko4, f1o4, f2o4, f3o4, f4o4, f5o4, f6o4, f7o4, hf_0, hf_1, hf_2, hf_3, hf_4, hf_5, hf_6, hf_7, hk2o4, hk3o4, hk4o4, -, -⟩ := id hX
    refine gw_put (ci := 5) (fs := [.int cdo4, .int (nI lm), .int sm, .int E, .ref (B 1), .ref (B 2), .int (nI sz), .ref (B 3), .ref (B 4), .ref (B 5), .ref (B 6), .int (nI jb), .int mko4, .ref (B 7), .int (nI dr)]) (v := .int 1) (ty := .int) hx hb hts in_Mo t_Mo t_Mo_ok n_Mo hown hE.K hW hS hf_0 rfl 0 (by decide) (hts _ mw222) (fun _ h9 => h9) rfl (by decide +kernel) rfl rfl (Nat.le_of_ble_eq_true rfl) d_Mo_fails_10 (fun H locs hW hS => ?_)
    have hXn : gm_X G B lm sm E jb sz dr (gw_up Mw (B 0) 100 (.inr (5, [.int 1, .int (nI lm), .int sm, .int E, .ref (B 1), .ref (B 2), .int (nI sz), .ref (B 3), .ref (B 4), .ref (B 5), .ref (B 6), .int (nI jb), .int mko4, .ref (B 7), .int (nI dr)]))) := hX.up100 hf_0 (by omega)
    have hF5 : gw_fg (gw_out [100, 101, 102, 103, 104, 105, 106, 107]) M (gw_up Mw (B 0) 100 (.inr (5, [.int 1, .int (nI lm), .int sm, .int E, .ref (B 1), .ref (B 2), .int (nI sz), .ref (B 3), .ref (B 4), .ref (B 5), .ref (B 6), .int (nI jb), .int mko4, .ref (B 7), .int (nI dr)]))) := gw_fg.up hF hf_0 (show ¬ ((gw_out [100, 101, 102, 103, 104, 105, 106, 107]) 100) by decide) (show ¬ ((gw_out [100, 101, 102, 103, 104, 105, 106, 107]) 100) by decide)
    obtain ⟨M6, eM6⟩ : ∃ z, z = gw_up Mw (B 0) 100 (.inr (5, [.int 1, .int (nI lm), .int sm, .int E, .ref (B 1), .ref (B 2), .int (nI sz), .ref (B 3), .ref (B 4), .ref (B 5), .ref (B 6), .int (nI jb), .int mko4, .ref (B 7), .int (nI dr)])) := ⟨_, rfl⟩
    replace hW : gw_P G.1 vwCl G.2.2.2 M6 H := by rw [eM6]; exact hW
    have hf_1 : M6 (B 1) = some (101, .inl (G.2.1 0, 10000, .inl f1o4)) := by rw [eM6]; exact gw_keep hf_1 hf_0 (by decide)
    have hf_2 : M6 (B 2) = some (102, .inl (G.2.1 0, 300, .inl f2o4)) := by rw [eM6]; exact gw_keep hf_2 hf_0 (by decide)
    have hf_3 : M6 (B 3) = some (103, .inl (G.2.1 0, 10240, .inl f3o4)) := by rw [eM6]; exact gw_keep hf_3 hf_0 (by decide)
    have hf_4 : M6 (B 4) = some (104, .inl (G.2.1 0, 41, .inl f4o4)) := by rw [eM6]; exact gw_keep hf_4 hf_0 (by decide)
    have hf_5 : M6 (B 5) = some (105, .inl (G.2.1 0, 41, .inl f5o4)) := by rw [eM6]; exact gw_keep hf_5 hf_0 (by decide)
    have hf_6 : M6 (B 6) = some (106, .inl (G.2.1 0, 4100, .inl f6o4)) := by rw [eM6]; exact gw_keep hf_6 hf_0 (by decide)
    have hf_7 : M6 (B 7) = some (107, .inl (G.2.1 0, 2048, .inl f7o4)) := by rw [eM6]; exact gw_keep hf_7 hf_0 (by decide)
    have hf_0 : M6 (B 0) = some (100, .inr (5, [.int 1, .int (nI lm), .int sm, .int E, .ref (B 1), .ref (B 2), .int (nI sz), .ref (B 3), .ref (B 4), .ref (B 5), .ref (B 6), .int (nI jb), .int mko4, .ref (B 7), .int (nI dr)])) := by rw [eM6]; exact gw_up_self _ _ _ _
    rw [← eM6] at hF5
    rw [← eM6] at hXn
    replace hX := hXn
    clear hXn
    refine lv_iload_n hx hb d_Mo_fails_13 rfl (lv_at hl 1 rfl) ?_
    exact gw_zret hx hb hr hlocks hz hS hW (Nat.le_of_ble_eq_true rfl) (Nat.le_of_ble_eq_true rfl) d_Mo_fails_14 ⟨rfl, hX, hF5⟩

set_option maxHeartbeats 4000000 in
set_option maxRecDepth 100000 in
theorem m_what (l : Launch) (G : gw_G) (M : gw_M) (B : Nat → Nat) (lm : Nat) (sm E : Int32) (jb sz dr : Nat) (hX : gm_X G B lm sm E jb sz dr M) (k : Int32) (hk : gm_k k) : Met l y_Mo_what [.code y_Mo_what b_Mo_what 2 (some .int)] ({ frames := 0, cells := 0, slots := 0, locals := 0 }) (gw_Pc G M [.ref (B 0), .int k]) (gw_Qi G (fun r M2 => gm_X G B lm sm E jb sz dr M2 ∧ gw_fg (gw_out [100, 101, 102, 103, 104, 105, 106, 107]) M M2)) 0 0 (gw_A G) := by
  refine gw_start (by decide) (Nat.le_of_ble_eq_true rfl) (fun p9 e9 s m b9 mt9 c9 hx hb hr hml hown hlocks hin hE hB hW ls hl => ?_)
  have hts := hE.ts ([.ref (B 0), .int k] : List Value).toArray
  have hl : lv_has ls 2 [(0, .ref (B 0)), (1, .int k)] := hl
  have hown : s.vm.findClass "GenerationsModel" = some m.cls := hown
  have hj9 := hX.jb40
  have hm9 := hX.lm255
  refine gw_gen (I := fun z => gm_X G B lm sm E jb sz dr z) (P := gw_out [100, 101, 102, 103, 104, 105, 106, 107]) hX hW (fun H locs Mw hW hS hX hF => ?_)
  have hX : gm_X G B lm sm E jb sz dr Mw := hX
  refine lv_aload_n hx hb d_Mo_what_0 rfl (lv_at hl 0 rfl) ?_
  obtain ⟨cdo1, mko1, f1o1, f2o1, f3o1, f4o1, f5o1, f6o1, f7o1, hf_0, hf_1, hf_2, hf_3, hf_4, hf_5, hf_6, hf_7, hk2o1, hk3o1, hk4o1, -, -⟩ := id hX
  refine gw_get (ci := 5) (fs := [.int cdo1, .int (nI lm), .int sm, .int E, .ref (B 1), .ref (B 2), .int (nI sz), .ref (B 3), .ref (B 4), .ref (B 5), .ref (B 6), .int (nI jb), .int mko1, .ref (B 7), .int (nI dr)]) hx hb hts in_Mo hown hE.K hW hf_0 rfl 4 (by decide) (hts _ mw223) (fun _ h9 => h9) rfl d_Mo_what_1 ?_
  refine lv_iload_n hx hb d_Mo_what_4 rfl (lv_at hl 1 rfl) ?_
  refine gw_iald (i := k) hx hb hE.K hW 0 hf_1 rfl (gm_in hk) d_Mo_what_5 ?_
  refine lv_bipush (v := 7) hx hb d_Mo_what_6 (by decide) ?_
  refine lv_iand hx hb d_Mo_what_8 ?_
  exact gw_iret hx hb hr hlocks hS hW (Nat.le_of_ble_eq_true rfl) (Nat.le_of_ble_eq_true rfl) d_Mo_what_9 ⟨hX, hF⟩

set_option maxHeartbeats 4000000 in
set_option maxRecDepth 100000 in
theorem m_owner (l : Launch) (G : gw_G) (M : gw_M) (B : Nat → Nat) (lm : Nat) (sm E : Int32) (jb sz dr : Nat) (hX : gm_X G B lm sm E jb sz dr M) (k : Int32) (hk : gm_k k) : Met l y_Mo_owner [.code y_Mo_owner b_Mo_owner 2 (some .int)] ({ frames := 0, cells := 0, slots := 0, locals := 0 }) (gw_Pc G M [.ref (B 0), .int k]) (gw_Qi G (fun r M2 => gm_X G B lm sm E jb sz dr M2 ∧ gw_fg (gw_out [100, 101, 102, 103, 104, 105, 106, 107]) M M2)) 0 0 (gw_A G) := by
  refine gw_start (by decide) (Nat.le_of_ble_eq_true rfl) (fun p9 e9 s m b9 mt9 c9 hx hb hr hml hown hlocks hin hE hB hW ls hl => ?_)
  have hts := hE.ts ([.ref (B 0), .int k] : List Value).toArray
  have hl : lv_has ls 2 [(0, .ref (B 0)), (1, .int k)] := hl
  have hown : s.vm.findClass "GenerationsModel" = some m.cls := hown
  have hj9 := hX.jb40
  have hm9 := hX.lm255
  refine gw_gen (I := fun z => gm_X G B lm sm E jb sz dr z) (P := gw_out [100, 101, 102, 103, 104, 105, 106, 107]) hX hW (fun H locs Mw hW hS hX hF => ?_)
  have hX : gm_X G B lm sm E jb sz dr Mw := hX
  refine lv_aload_n hx hb d_Mo_owner_0 rfl (lv_at hl 0 rfl) ?_
  obtain ⟨cdo1, mko1, f1o1, f2o1, f3o1, f4o1, f5o1, f6o1, f7o1, hf_0, hf_1, hf_2, hf_3, hf_4, hf_5, hf_6, hf_7, hk2o1, hk3o1, hk4o1, -, -⟩ := id hX
  refine gw_get (ci := 5) (fs := [.int cdo1, .int (nI lm), .int sm, .int E, .ref (B 1), .ref (B 2), .int (nI sz), .ref (B 3), .ref (B 4), .ref (B 5), .ref (B 6), .int (nI jb), .int mko1, .ref (B 7), .int (nI dr)]) hx hb hts in_Mo hown hE.K hW hf_0 rfl 4 (by decide) (hts _ mw223) (fun _ h9 => h9) rfl d_Mo_owner_1 ?_
  refine lv_iload_n hx hb d_Mo_owner_4 rfl (lv_at hl 1 rfl) ?_
  refine gw_iald (i := k) hx hb hE.K hW 0 hf_1 rfl (gm_in hk) d_Mo_owner_5 ?_
  refine lv_iconst (v := 3) hx hb d_Mo_owner_6 (by decide) ?_
  refine lv_ishr hx hb d_Mo_owner_7 ?_
  refine lv_bipush (v := 63) hx hb d_Mo_owner_8 (by decide) ?_
  refine lv_iand hx hb d_Mo_owner_10 ?_
  exact gw_iret hx hb hr hlocks hS hW (Nat.le_of_ble_eq_true rfl) (Nat.le_of_ble_eq_true rfl) d_Mo_owner_11 ⟨hX, hF⟩

set_option maxHeartbeats 4000000 in
set_option maxRecDepth 100000 in
theorem m_versionOf (l : Launch) (G : gw_G) (M : gw_M) (B : Nat → Nat) (lm : Nat) (sm E : Int32) (jb sz dr : Nat) (hX : gm_X G B lm sm E jb sz dr M) (k : Int32) (hk : gm_k k) : Met l y_Mo_versionOf [.code y_Mo_versionOf b_Mo_versionOf 2 (some .int)] ({ frames := 0, cells := 0, slots := 0, locals := 0 }) (gw_Pc G M [.ref (B 0), .int k]) (gw_Qi G (fun r M2 => gm_X G B lm sm E jb sz dr M2 ∧ gw_fg (gw_out [100, 101, 102, 103, 104, 105, 106, 107]) M M2)) 0 0 (gw_A G) := by
  refine gw_start (by decide) (Nat.le_of_ble_eq_true rfl) (fun p9 e9 s m b9 mt9 c9 hx hb hr hml hown hlocks hin hE hB hW ls hl => ?_)
  have hts := hE.ts ([.ref (B 0), .int k] : List Value).toArray
  have hl : lv_has ls 2 [(0, .ref (B 0)), (1, .int k)] := hl
  have hown : s.vm.findClass "GenerationsModel" = some m.cls := hown
  have hj9 := hX.jb40
  have hm9 := hX.lm255
  refine gw_gen (I := fun z => gm_X G B lm sm E jb sz dr z) (P := gw_out [100, 101, 102, 103, 104, 105, 106, 107]) hX hW (fun H locs Mw hW hS hX hF => ?_)
  have hX : gm_X G B lm sm E jb sz dr Mw := hX
  refine lv_aload_n hx hb d_Mo_versionOf_0 rfl (lv_at hl 0 rfl) ?_
  obtain ⟨cdo1, mko1, f1o1, f2o1, f3o1, f4o1, f5o1, f6o1, f7o1, hf_0, hf_1, hf_2, hf_3, hf_4, hf_5, hf_6, hf_7, hk2o1, hk3o1, hk4o1, -, -⟩ := id hX
  refine gw_get (ci := 5) (fs := [.int cdo1, .int (nI lm), .int sm, .int E, .ref (B 1), .ref (B 2), .int (nI sz), .ref (B 3), .ref (B 4), .ref (B 5), .ref (B 6), .int (nI jb), .int mko1, .ref (B 7), .int (nI dr)]) hx hb hts in_Mo hown hE.K hW hf_0 rfl 4 (by decide) (hts _ mw223) (fun _ h9 => h9) rfl d_Mo_versionOf_1 ?_
  refine lv_iload_n hx hb d_Mo_versionOf_4 rfl (lv_at hl 1 rfl) ?_
  refine gw_iald (i := k) hx hb hE.K hW 0 hf_1 rfl (gm_in hk) d_Mo_versionOf_5 ?_
  refine lv_bipush (v := 9) hx hb d_Mo_versionOf_6 (by decide) ?_
  refine lv_ishr hx hb d_Mo_versionOf_8 ?_
  exact gw_iret hx hb hr hlocks hS hW (Nat.le_of_ble_eq_true rfl) (Nat.le_of_ble_eq_true rfl) d_Mo_versionOf_9 ⟨hX, hF⟩

set_option maxHeartbeats 4000000 in
set_option maxRecDepth 100000 in
theorem m_be (l : Launch) (G : gw_G) (M : gw_M) (B : Nat → Nat) (lm : Nat) (sm E : Int32) (jb sz dr : Nat) (hX : gm_X G B lm sm E jb sz dr M) (k : Int32) (p : Int32) (q : Int32) (w : Int32) (hk : gm_k k) : Met l y_Mo_be [.code y_Mo_be b_Mo_be 5 none] ({ frames := 0, cells := 0, slots := 0, locals := 0 }) (gw_Pc G M [.ref (B 0), .int k, .int p, .int q, .int w]) (gw_Qv G (fun M2 => gm_X G B lm sm E jb sz dr M2 ∧ gw_fg (gw_out [100, 101, 102, 103, 104, 105, 106, 107]) M M2)) 0 0 (gw_A G) := by
  refine gw_start (by decide) (Nat.le_of_ble_eq_true rfl) (fun p9 e9 s m b9 mt9 c9 hx hb hr hml hown hlocks hin hE hB hW ls hl => ?_)
  have hts := hE.ts ([.ref (B 0), .int k, .int p, .int q, .int w] : List Value).toArray
  have hl : lv_has ls 5 [(0, .ref (B 0)), (1, .int k), (2, .int p), (3, .int q), (4, .int w)] := hl
  have hown : s.vm.findClass "GenerationsModel" = some m.cls := hown
  have hj9 := hX.jb40
  have hm9 := hX.lm255
  refine gw_gen (I := fun z => gm_X G B lm sm E jb sz dr z) (P := gw_out [100, 101, 102, 103, 104, 105, 106, 107]) hX hW (fun H locs Mw hW hS hX hF => ?_)
  have hX : gm_X G B lm sm E jb sz dr Mw := hX
  refine lv_aload_n hx hb d_Mo_be_0 rfl (lv_at hl 0 rfl) ?_
  obtain ⟨cdo1, mko1, f1o1, f2o1, f3o1, f4o1, f5o1, f6o1, f7o1, hf_0, hf_1, hf_2, hf_3, hf_4, hf_5, hf_6, hf_7, hk2o1, hk3o1, hk4o1, -, -⟩ := id hX
  refine gw_get (ci := 5) (fs := [.int cdo1, .int (nI lm), .int sm, .int E, .ref (B 1), .ref (B 2), .int (nI sz), .ref (B 3), .ref (B 4), .ref (B 5), .ref (B 6), .int (nI jb), .int mko1, .ref (B 7), .int (nI dr)]) hx hb hts in_Mo hown hE.K hW hf_0 rfl 4 (by decide) (hts _ mw223) (fun _ h9 => h9) rfl d_Mo_be_1 ?_
  refine lv_iload_n hx hb d_Mo_be_4 rfl (lv_at hl 1 rfl) ?_
  refine lv_iload_n hx hb d_Mo_be_5 rfl (lv_at hl 2 rfl) ?_
  refine lv_iload_n hx hb d_Mo_be_6 rfl (lv_at hl 3 rfl) ?_
  refine lv_iconst (v := 3) hx hb d_Mo_be_7 (by decide) ?_
  refine lv_ishl hx hb d_Mo_be_8 ?_
  refine lv_ior hx hb d_Mo_be_9 ?_
  refine lv_iload hx hb d_Mo_be_10 (lv_at hl 4 rfl) ?_
  refine lv_bipush (v := 9) hx hb d_Mo_be_12 (by decide) ?_
  refine lv_ishl hx hb d_Mo_be_14 ?_
  refine lv_ior hx hb d_Mo_be_15 ?_
  refine gw_iast (i := k) (x := (p ||| (q <<< (3 &&& 31))) ||| (w <<< (9 &&& 31))) hx hb hE.K hW hS 0 hf_1 rfl (gm_in hk) d_Mo_be_16 (fun H locs hW hS => ?_)
  have hXn : gm_X G B lm sm E jb sz dr (gw_up Mw (B 1) 101 (.inl (G.2.1 0, 10000, .inl (upd f1o1 (k : Int32).toNatClampNeg ((p ||| (q <<< (3 &&& 31))) ||| (w <<< (9 &&& 31))))))) := hX.up101 hf_1
  have hF2 : gw_fg (gw_out [100, 101, 102, 103, 104, 105, 106, 107]) M (gw_up Mw (B 1) 101 (.inl (G.2.1 0, 10000, .inl (upd f1o1 (k : Int32).toNatClampNeg ((p ||| (q <<< (3 &&& 31))) ||| (w <<< (9 &&& 31))))))) := gw_fg.up hF hf_1 (show ¬ ((gw_out [100, 101, 102, 103, 104, 105, 106, 107]) 101) by decide) (show ¬ ((gw_out [100, 101, 102, 103, 104, 105, 106, 107]) 101) by decide)
  obtain ⟨M3, eM3⟩ : ∃ z, z = gw_up Mw (B 1) 101 (.inl (G.2.1 0, 10000, .inl (upd f1o1 (k : Int32).toNatClampNeg ((p ||| (q <<< (3 &&& 31))) ||| (w <<< (9 &&& 31)))))) := ⟨_, rfl⟩
  replace hW : gw_P G.1 vwCl G.2.2.2 M3 H := by rw [eM3]; exact hW
  have hf_0 : M3 (B 0) = some (100, .inr (5, [.int cdo1, .int (nI lm), .int sm, .int E, .ref (B 1), .ref (B 2), .int (nI sz), .ref (B 3), .ref (B 4), .ref (B 5), .ref (B 6), .int (nI jb), .int mko1, .ref (B 7), .int (nI dr)])) := by rw [eM3]; exact gw_keep hf_0 hf_1 (by decide)
  have hf_2 : M3 (B 2) = some (102, .inl (G.2.1 0, 300, .inl f2o1)) := by rw [eM3]; exact gw_keep hf_2 hf_1 (by decide)
  have hf_3 : M3 (B 3) = some (103, .inl (G.2.1 0, 10240, .inl f3o1)) := by rw [eM3]; exact gw_keep hf_3 hf_1 (by decide)
  have hf_4 : M3 (B 4) = some (104, .inl (G.2.1 0, 41, .inl f4o1)) := by rw [eM3]; exact gw_keep hf_4 hf_1 (by decide)
  have hf_5 : M3 (B 5) = some (105, .inl (G.2.1 0, 41, .inl f5o1)) := by rw [eM3]; exact gw_keep hf_5 hf_1 (by decide)
  have hf_6 : M3 (B 6) = some (106, .inl (G.2.1 0, 4100, .inl f6o1)) := by rw [eM3]; exact gw_keep hf_6 hf_1 (by decide)
  have hf_7 : M3 (B 7) = some (107, .inl (G.2.1 0, 2048, .inl f7o1)) := by rw [eM3]; exact gw_keep hf_7 hf_1 (by decide)
  have hf_1 : M3 (B 1) = some (101, .inl (G.2.1 0, 10000, .inl (upd f1o1 (k : Int32).toNatClampNeg ((p ||| (q <<< (3 &&& 31))) ||| (w <<< (9 &&& 31)))))) := by rw [eM3]; exact gw_up_self _ _ _ _
  rw [← eM3] at hF2
  rw [← eM3] at hXn
  replace hX := hXn
  clear hXn
  exact gw_vret hx hb hr hlocks hS hW (Nat.le_of_ble_eq_true rfl) (Nat.le_of_ble_eq_true rfl) d_Mo_be_17 ⟨hX, hF2⟩

set_option maxHeartbeats 4000000 in
set_option maxRecDepth 100000 in
theorem m_become (l : Launch) (G : gw_G) (M : gw_M) (B : Nat → Nat) (lm : Nat) (sm E : Int32) (jb sz dr : Nat) (hX : gm_X G B lm sm E jb sz dr M) (k : Int32) (p : Int32) (hk : gm_k k) : Met l y_Mo_become [.code y_Mo_become b_Mo_become 3 none] ({ frames := 1, cells := 0, slots := 0, locals := 24 }) (gw_Pc G M [.ref (B 0), .int k, .int p]) (gw_Qv G (fun M2 => gm_X G B lm sm E jb sz dr M2 ∧ gw_fg (gw_out [100, 101, 102, 103, 104, 105, 106, 107]) M M2)) 0 0 (gw_A G) := by
  refine gw_start (by decide) (Nat.le_of_ble_eq_true rfl) (fun p9 e9 s m b9 mt9 c9 hx hb hr hml hown hlocks hin hE hB hW ls hl => ?_)
  have hts := hE.ts ([.ref (B 0), .int k, .int p] : List Value).toArray
  have hl : lv_has ls 3 [(0, .ref (B 0)), (1, .int k), (2, .int p)] := hl
  have hown : s.vm.findClass "GenerationsModel" = some m.cls := hown
  have hj9 := hX.jb40
  have hm9 := hX.lm255
  refine gw_gen (I := fun z => gm_X G B lm sm E jb sz dr z) (P := gw_out [100, 101, 102, 103, 104, 105, 106, 107]) hX hW (fun H locs Mw hW hS hX hF => ?_)
  have hX : gm_X G B lm sm E jb sz dr Mw := hX
  refine lv_aload_n hx hb d_Mo_become_0 rfl (lv_at hl 0 rfl) ?_
  refine lv_iload_n hx hb d_Mo_become_1 rfl (lv_at hl 1 rfl) ?_
  refine lv_iload_n hx hb d_Mo_become_2 rfl (lv_at hl 2 rfl) ?_
  refine lv_aload_n hx hb d_Mo_become_3 rfl (lv_at hl 0 rfl) ?_
  refine lv_iload_n hx hb d_Mo_become_4 rfl (lv_at hl 1 rfl) ?_
  obtain ⟨cdo1, mko1, f1o1, f2o1, f3o1, f4o1, f5o1, f6o1, f7o1, hf_0, hf_1, hf_2, hf_3, hf_4, hf_5, hf_6, hf_7, hk2o1, hk3o1, hk4o1, -, -⟩ := id hX
  refine gw_calli hS (va_runV (As := [.int k]) (rest := [.int p, .int k, .ref (B 0)]) ⟨hx, hb, hml, hown, hts⟩ (m_owner l G Mw B lm sm E jb sz dr hX k  hk) (cwV 1 hts (gw_gv mw225 mw226 mw227 mw228 mw224) rfl rfl rfl (by decide +kernel) ⟨Nat.le_of_ble_eq_true rfl, Nat.le_of_ble_eq_true rfl⟩) (gw_pv hE hB hS hW rfl hf_0) rfl rfl hl.1 rfl (lv_room (Nat.le_of_ble_eq_true rfl)) d_Mo_become_5 ⟨Nat.le_of_ble_eq_true rfl, Nat.le_of_ble_eq_true rfl⟩) (fun r2 M3 H locs hw4 hW hS => ?_)
  obtain ⟨hX, hfr5⟩ := hw4
  have hF6 : gw_fg (gw_out [100, 101, 102, 103, 104, 105, 106, 107]) M M3 := gw_fg.tr hF (gw_fg.wk hfr5 (by decide))
  clear hfr5
  refine lv_aload_n hx hb d_Mo_become_8 rfl (lv_at hl 0 rfl) ?_
  refine lv_iload_n hx hb d_Mo_become_9 rfl (lv_at hl 1 rfl) ?_
  obtain ⟨cdo7, mko7, f1o7, f2o7, f3o7, f4o7, f5o7, f6o7, f7o7, hf_0, hf_1, hf_2, hf_3, hf_4, hf_5, hf_6, hf_7, hk2o7, hk3o7, hk4o7, -, -⟩ := id hX
  refine gw_calli hS (va_runV (As := [.int k]) (rest := [.int r2, .int p, .int k, .ref (B 0)]) ⟨hx, hb, hml, hown, hts⟩ (m_versionOf l G M3 B lm sm E jb sz dr hX k  hk) (cwV 1 hts (gw_gv mw230 mw231 mw232 mw228 mw229) rfl rfl rfl (by decide +kernel) ⟨Nat.le_of_ble_eq_true rfl, Nat.le_of_ble_eq_true rfl⟩) (gw_pv hE hB hS hW rfl hf_0) rfl rfl hl.1 rfl (lv_room (Nat.le_of_ble_eq_true rfl)) d_Mo_become_10 ⟨Nat.le_of_ble_eq_true rfl, Nat.le_of_ble_eq_true rfl⟩) (fun r8 M9 H locs hw10 hW hS => ?_)
  obtain ⟨hX, hfr11⟩ := hw10
  have hF12 : gw_fg (gw_out [100, 101, 102, 103, 104, 105, 106, 107]) M M9 := gw_fg.tr hF6 (gw_fg.wk hfr11 (by decide))
  clear hfr11
  obtain ⟨cdo13, mko13, f1o13, f2o13, f3o13, f4o13, f5o13, f6o13, f7o13, hf_0, hf_1, hf_2, hf_3, hf_4, hf_5, hf_6, hf_7, hk2o13, hk3o13, hk4o13, -, -⟩ := id hX
  refine gw_callv hS (va_runV (As := [.int k, .int p, .int r2, .int r8]) (rest := []) ⟨hx, hb, hml, hown, hts⟩ (m_be l G M9 B lm sm E jb sz dr hX k p r2 r8  hk) (cwV 4 hts (gw_gv mw234 mw235 mw236 mw228 mw233) rfl rfl rfl (by decide +kernel) ⟨Nat.le_of_ble_eq_true rfl, Nat.le_of_ble_eq_true rfl⟩) (gw_pv hE hB hS hW rfl hf_0) rfl rfl hl.1 rfl (lv_room (Nat.le_of_ble_eq_true rfl)) d_Mo_become_13 ⟨Nat.le_of_ble_eq_true rfl, Nat.le_of_ble_eq_true rfl⟩) (fun M15 H locs hw16 hW hS => ?_)
  obtain ⟨hX, hfr17⟩ := hw16
  have hF18 : gw_fg (gw_out [100, 101, 102, 103, 104, 105, 106, 107]) M M15 := gw_fg.tr hF12 (gw_fg.wk hfr17 (by decide))
  clear hfr17
  exact gw_vret hx hb hr hlocks hS hW (Nat.le_of_ble_eq_true rfl) (Nat.le_of_ble_eq_true rfl) d_Mo_become_16 ⟨hX, hF18⟩
end
section
abbrev b_Mo_enter : ByteArray := prog_6_method_11_code
abbrev y_Mo_enter : MethodName := ⟨"GenerationsModel", "enter", "(I)V"⟩
abbrev b_Mo_catalogue : ByteArray := prog_6_method_12_code
abbrev y_Mo_catalogue : MethodName := ⟨"GenerationsModel", "catalogue", "(I)I"⟩
set_option maxRecDepth 20000 in
theorem mw237 : (Cond.fieldLink "GenerationsModel" (53 : Nat) "GenerationsModel" "size" "I") ∈ gw_N0 := gw_in (List.mem_append_right _ (gw_tm (i := 464) rfl))
set_option maxRecDepth 20000 in
theorem mw238 : (Cond.fieldLink "GenerationsModel" (13 : Nat) "GenerationsModel" "row" "[I") ∈ gw_N0 := gw_in (List.mem_append_right _ (gw_tm (i := 463) rfl))
set_option maxRecDepth 20000 in
theorem mw239 : (Cond.code ({ cls := "GenerationsModel", name := "become", desc := "(II)V" } : Jvm.MethodName) prog_6_method_9_code (3 : Nat) (Option.none : Option Jvm.ClassFile.FieldType)) ∈ gw_N0 := gw_in (List.mem_append_right _ (gw_tm (i := 525) rfl))
set_option maxRecDepth 20000 in
theorem mw240 : (Cond.methodLink "GenerationsModel" (60 : Nat) ({ cls := "GenerationsModel", name := "become", desc := "(II)V" } : Jvm.MethodName)) ∈ gw_N0 := gw_in (List.mem_append_right _ (gw_tm (i := 522) rfl))
set_option maxRecDepth 20000 in
theorem mw241 : (Cond.instanceMethod ({ cls := "GenerationsModel", name := "become", desc := "(II)V" } : Jvm.MethodName)) ∈ gw_N0 := gw_in (List.mem_append_right _ (gw_tm (i := 524) rfl))
set_option maxRecDepth 20000 in
theorem mw242 : (Cond.selects "GenerationsModel" ⟨"GenerationsModel", "become", "(II)V"⟩ ⟨"GenerationsModel", "become", "(II)V"⟩) ∈ gw_N0 := gw_in (List.mem_append_left _ (List.mem_of_getElem? (i := 27) rfl))
set_option maxRecDepth 20000 in
theorem mw243 : (Cond.fieldLink "GenerationsModel" (31 : Nat) "GenerationsModel" "limit" "I") ∈ gw_N0 := gw_in (List.mem_append_right _ (gw_tm (i := 459) rfl))
set_option maxRecDepth 20000 in
theorem mw244 : (Cond.fieldLink "GenerationsModel" (64 : Nat) "GenerationsModel" "empties" "Z") ∈ gw_N0 := gw_in (List.mem_append_right _ (gw_tm (i := 461) rfl))
set_option maxRecDepth 20000 in
theorem mw245 : (Cond.fieldLink "GenerationsModel" (35 : Nat) "GenerationsModel" "scratch" "Z") ∈ gw_N0 := gw_in (List.mem_append_right _ (gw_tm (i := 460) rfl))
set_option maxRecDepth 20000 in
theorem mw246 : (Cond.fieldLink "GenerationsModel" (28 : Nat) "GenerationsModel" "drops" "[I") ∈ gw_N0 := gw_in (List.mem_append_right _ (gw_tm (i := 471) rfl))
set_option maxRecDepth 20000 in
theorem mw247 : (Cond.fieldLink "GenerationsModel" (67 : Nat) "GenerationsModel" "dropped" "I") ∈ gw_N0 := gw_in (List.mem_append_right _ (gw_tm (i := 472) rfl))
set_option maxRecDepth 20000 in
theorem mw248 : (Cond.code ({ cls := "GenerationsModel", name := "isAhead", desc := "(II)Z" } : Jvm.MethodName) prog_6_method_10_code (3 : Nat) (Option.some Jvm.ClassFile.FieldType.boolean)) ∈ gw_N0 := gw_in (List.mem_append_right _ (gw_tm (i := 521) rfl))
set_option maxRecDepth 20000 in
theorem mw249 : (Cond.methodLink "GenerationsModel" (56 : Nat) ({ cls := "GenerationsModel", name := "isAhead", desc := "(II)Z" } : Jvm.MethodName)) ∈ gw_N0 := gw_in (List.mem_append_right _ (gw_tm (i := 519) rfl))
set_option maxRecDepth 20000 in
theorem mw250 : (Cond.static ({ cls := "GenerationsModel", name := "isAhead", desc := "(II)Z" } : Jvm.MethodName)) ∈ gw_N0 := gw_in (List.mem_append_right _ (gw_tm (i := 520) rfl))
set_option maxRecDepth 20000 in
theorem mw251 : (Cond.code ({ cls := "GenerationsModel", name := "isNumber", desc := "(I)Z" } : Jvm.MethodName) prog_6_method_4_code (1 : Nat) (Option.some Jvm.ClassFile.FieldType.boolean)) ∈ gw_N0 := gw_in (List.mem_append_right _ (gw_tm (i := 510) rfl))
set_option maxRecDepth 20000 in
theorem mw252 : (Cond.methodLink "GenerationsModel" (70 : Nat) ({ cls := "GenerationsModel", name := "isNumber", desc := "(I)Z" } : Jvm.MethodName)) ∈ gw_N0 := gw_in (List.mem_append_right _ (gw_tm (i := 508) rfl))
set_option maxRecDepth 20000 in
theorem mw253 : (Cond.static ({ cls := "GenerationsModel", name := "isNumber", desc := "(I)Z" } : Jvm.MethodName)) ∈ gw_N0 := gw_in (List.mem_append_right _ (gw_tm (i := 509) rfl))
set_option maxRecDepth 20000 in
theorem mw254 : (Cond.code ({ cls := "GenerationsModel", name := "what", desc := "(I)I" } : Jvm.MethodName) prog_6_method_5_code (2 : Nat) (Option.some Jvm.ClassFile.FieldType.int)) ∈ gw_N0 := gw_in (List.mem_append_right _ (gw_tm (i := 514) rfl))
set_option maxRecDepth 20000 in
theorem mw255 : (Cond.methodLink "GenerationsModel" (74 : Nat) ({ cls := "GenerationsModel", name := "what", desc := "(I)I" } : Jvm.MethodName)) ∈ gw_N0 := gw_in (List.mem_append_right _ (gw_tm (i := 511) rfl))
set_option maxRecDepth 20000 in
theorem mw256 : (Cond.instanceMethod ({ cls := "GenerationsModel", name := "what", desc := "(I)I" } : Jvm.MethodName)) ∈ gw_N0 := gw_in (List.mem_append_right _ (gw_tm (i := 513) rfl))
set_option maxRecDepth 20000 in
theorem mw257 : (Cond.selects "GenerationsModel" ⟨"GenerationsModel", "what", "(I)I"⟩ ⟨"GenerationsModel", "what", "(I)I"⟩) ∈ gw_N0 := gw_in (List.mem_append_left _ (List.mem_of_getElem? (i := 25) rfl))
set_option maxRecDepth 20000 in
theorem mw258 : (Cond.code ({ cls := "GenerationsModel", name := "enter", desc := "(I)V" } : Jvm.MethodName) prog_6_method_11_code (6 : Nat) (Option.none : Option Jvm.ClassFile.FieldType)) ∈ gw_N0 := gw_in (List.mem_append_right _ (gw_tm (i := 518) rfl))
set_option maxRecDepth 20000 in
theorem mw259 : (Cond.methodLink "GenerationsModel" (77 : Nat) ({ cls := "GenerationsModel", name := "enter", desc := "(I)V" } : Jvm.MethodName)) ∈ gw_N0 := gw_in (List.mem_append_right _ (gw_tm (i := 515) rfl))
set_option maxRecDepth 20000 in
theorem mw260 : (Cond.instanceMethod ({ cls := "GenerationsModel", name := "enter", desc := "(I)V" } : Jvm.MethodName)) ∈ gw_N0 := gw_in (List.mem_append_right _ (gw_tm (i := 517) rfl))
set_option maxRecDepth 20000 in
theorem mw261 : (Cond.selects "GenerationsModel" ⟨"GenerationsModel", "enter", "(I)V"⟩ ⟨"GenerationsModel", "enter", "(I)V"⟩) ∈ gw_N0 := gw_in (List.mem_append_left _ (List.mem_of_getElem? (i := 26) rfl))
end
section
theorem d_Mo_enter_0 : decode b_Mo_enter 0 = .ok (.iconst 0, 1) := by decide +kernel
theorem d_Mo_enter_1 : decode b_Mo_enter 1 = .ok (.istore_n 2, 1) := by decide +kernel
theorem d_Mo_enter_2 : decode b_Mo_enter 2 = .ok (.iconst 0, 1) := by decide +kernel
theorem d_Mo_enter_3 : decode b_Mo_enter 3 = .ok (.istore_n 3, 1) := by decide +kernel
theorem d_Mo_enter_4 : decode b_Mo_enter 4 = .ok (.iload_n 3, 1) := by decide +kernel
theorem d_Mo_enter_5 : decode b_Mo_enter 5 = .ok (.aload_n 0, 1) := by decide +kernel
theorem d_Mo_enter_6 : decode b_Mo_enter 6 = .ok (.getfield 53, 3) := by decide +kernel
theorem d_Mo_enter_9 : decode b_Mo_enter 9 = .ok (.if_icmp .ge 30, 3) := by decide +kernel
theorem d_Mo_enter_39 : decode b_Mo_enter 39 = .ok (.aload_n 0, 1) := by decide +kernel
theorem d_Mo_enter_40 : decode b_Mo_enter 40 = .ok (.getfield 53, 3) := by decide +kernel
theorem d_Mo_enter_43 : decode b_Mo_enter 43 = .ok (.istore_n 3, 1) := by decide +kernel
theorem d_Mo_enter_44 : decode b_Mo_enter 44 = .ok (.iload_n 3, 1) := by decide +kernel
theorem d_Mo_enter_45 : decode b_Mo_enter 45 = .ok (.iload_n 2, 1) := by decide +kernel
theorem d_Mo_enter_46 : decode b_Mo_enter 46 = .ok (.if_icmp .le 23, 3) := by decide +kernel
theorem d_Mo_enter_69 : decode b_Mo_enter 69 = .ok (.aload_n 0, 1) := by decide +kernel
theorem d_Mo_enter_70 : decode b_Mo_enter 70 = .ok (.getfield 13, 3) := by decide +kernel
theorem d_Mo_enter_73 : decode b_Mo_enter 73 = .ok (.iload_n 2, 1) := by decide +kernel
theorem d_Mo_enter_74 : decode b_Mo_enter 74 = .ok (.iload_n 1, 1) := by decide +kernel
theorem d_Mo_enter_75 : decode b_Mo_enter 75 = .ok (.iastore, 1) := by decide +kernel
theorem d_Mo_enter_76 : decode b_Mo_enter 76 = .ok (.aload_n 0, 1) := by decide +kernel
theorem d_Mo_enter_77 : decode b_Mo_enter 77 = .ok (.dup, 1) := by decide +kernel
theorem d_Mo_enter_78 : decode b_Mo_enter 78 = .ok (.getfield 53, 3) := by decide +kernel
theorem d_Mo_enter_81 : decode b_Mo_enter 81 = .ok (.iconst 1, 1) := by decide +kernel
theorem d_Mo_enter_82 : decode b_Mo_enter 82 = .ok (.iadd, 1) := by decide +kernel
theorem d_Mo_enter_83 : decode b_Mo_enter 83 = .ok (.putfield 53, 3) := by decide +kernel
theorem d_Mo_enter_86 : decode b_Mo_enter 86 = .ok (.aload_n 0, 1) := by decide +kernel
theorem d_Mo_enter_87 : decode b_Mo_enter 87 = .ok (.iload_n 1, 1) := by decide +kernel
theorem d_Mo_enter_88 : decode b_Mo_enter 88 = .ok (.iconst 1, 1) := by decide +kernel
theorem d_Mo_enter_89 : decode b_Mo_enter 89 = .ok (.invokevirtual 60, 3) := by decide +kernel
theorem d_Mo_enter_92 : decode b_Mo_enter 92 = .ok (.aload_n 0, 1) := by decide +kernel
theorem d_Mo_enter_93 : decode b_Mo_enter 93 = .ok (.getfield 53, 3) := by decide +kernel
theorem d_Mo_enter_96 : decode b_Mo_enter 96 = .ok (.aload_n 0, 1) := by decide +kernel
theorem d_Mo_enter_97 : decode b_Mo_enter 97 = .ok (.getfield 31, 3) := by decide +kernel
theorem d_Mo_enter_100 : decode b_Mo_enter 100 = .ok (.if_icmp .gt 4, 3) := by decide +kernel
theorem d_Mo_enter_104 : decode b_Mo_enter 104 = .ok (.aload_n 0, 1) := by decide +kernel
theorem d_Mo_enter_105 : decode b_Mo_enter 105 = .ok (.getfield 64, 3) := by decide +kernel
theorem d_Mo_enter_108 : decode b_Mo_enter 108 = .ok (.ifCond .eq 12, 3) := by decide +kernel
theorem d_Mo_enter_120 : decode b_Mo_enter 120 = .ok (.aload_n 0, 1) := by decide +kernel
theorem d_Mo_enter_121 : decode b_Mo_enter 121 = .ok (.getfield 53, 3) := by decide +kernel
theorem d_Mo_enter_124 : decode b_Mo_enter 124 = .ok (.aload_n 0, 1) := by decide +kernel
theorem d_Mo_enter_125 : decode b_Mo_enter 125 = .ok (.getfield 31, 3) := by decide +kernel
theorem d_Mo_enter_128 : decode b_Mo_enter 128 = .ok (.isub, 1) := by decide +kernel
theorem d_Mo_enter_129 : decode b_Mo_enter 129 = .ok (.istore_n 3, 1) := by decide +kernel
theorem d_Mo_enter_130 : decode b_Mo_enter 130 = .ok (.iconst 0, 1) := by decide +kernel
theorem d_Mo_enter_131 : decode b_Mo_enter 131 = .ok (.istore 4, 2) := by decide +kernel
theorem d_Mo_enter_133 : decode b_Mo_enter 133 = .ok (.iload 4, 2) := by decide +kernel
theorem d_Mo_enter_135 : decode b_Mo_enter 135 = .ok (.iload_n 3, 1) := by decide +kernel
theorem d_Mo_enter_136 : decode b_Mo_enter 136 = .ok (.if_icmp .ge 64, 3) := by decide +kernel
theorem d_Mo_enter_200 : decode b_Mo_enter 200 = .ok (.iload_n 3, 1) := by decide +kernel
theorem d_Mo_enter_201 : decode b_Mo_enter 201 = .ok (.istore 4, 2) := by decide +kernel
theorem d_Mo_enter_203 : decode b_Mo_enter 203 = .ok (.iload 4, 2) := by decide +kernel
theorem d_Mo_enter_205 : decode b_Mo_enter 205 = .ok (.aload_n 0, 1) := by decide +kernel
theorem d_Mo_enter_206 : decode b_Mo_enter 206 = .ok (.getfield 53, 3) := by decide +kernel
theorem d_Mo_enter_209 : decode b_Mo_enter 209 = .ok (.if_icmp .ge 25, 3) := by decide +kernel
theorem d_Mo_enter_234 : decode b_Mo_enter 234 = .ok (.aload_n 0, 1) := by decide +kernel
theorem d_Mo_enter_235 : decode b_Mo_enter 235 = .ok (.dup, 1) := by decide +kernel
theorem d_Mo_enter_236 : decode b_Mo_enter 236 = .ok (.getfield 53, 3) := by decide +kernel
theorem d_Mo_enter_239 : decode b_Mo_enter 239 = .ok (.iload_n 3, 1) := by decide +kernel
theorem d_Mo_enter_240 : decode b_Mo_enter 240 = .ok (.isub, 1) := by decide +kernel
theorem d_Mo_enter_241 : decode b_Mo_enter 241 = .ok (.putfield 53, 3) := by decide +kernel
theorem d_Mo_enter_244 : decode b_Mo_enter 244 = .ok (.return_, 1) := by decide +kernel
theorem d_Mo_enter_212 : decode b_Mo_enter 212 = .ok (.aload_n 0, 1) := by decide +kernel
theorem d_Mo_enter_213 : decode b_Mo_enter 213 = .ok (.getfield 13, 3) := by decide +kernel
theorem d_Mo_enter_216 : decode b_Mo_enter 216 = .ok (.iload 4, 2) := by decide +kernel
theorem d_Mo_enter_218 : decode b_Mo_enter 218 = .ok (.iload_n 3, 1) := by decide +kernel
theorem d_Mo_enter_219 : decode b_Mo_enter 219 = .ok (.isub, 1) := by decide +kernel
theorem d_Mo_enter_220 : decode b_Mo_enter 220 = .ok (.aload_n 0, 1) := by decide +kernel
theorem d_Mo_enter_221 : decode b_Mo_enter 221 = .ok (.getfield 13, 3) := by decide +kernel
theorem d_Mo_enter_224 : decode b_Mo_enter 224 = .ok (.iload 4, 2) := by decide +kernel
theorem d_Mo_enter_226 : decode b_Mo_enter 226 = .ok (.iaload, 1) := by decide +kernel
theorem d_Mo_enter_227 : decode b_Mo_enter 227 = .ok (.iastore, 1) := by decide +kernel
theorem d_Mo_enter_228 : decode b_Mo_enter 228 = .ok (.iinc 4 1, 3) := by decide +kernel
theorem d_Mo_enter_231 : decode b_Mo_enter 231 = .ok (.goto (-28), 3) := by decide +kernel
theorem d_Mo_enter_139 : decode b_Mo_enter 139 = .ok (.aload_n 0, 1) := by decide +kernel
theorem d_Mo_enter_140 : decode b_Mo_enter 140 = .ok (.getfield 13, 3) := by decide +kernel
theorem d_Mo_enter_143 : decode b_Mo_enter 143 = .ok (.iload 4, 2) := by decide +kernel
theorem d_Mo_enter_145 : decode b_Mo_enter 145 = .ok (.iaload, 1) := by decide +kernel
theorem d_Mo_enter_146 : decode b_Mo_enter 146 = .ok (.istore 5, 2) := by decide +kernel
theorem d_Mo_enter_148 : decode b_Mo_enter 148 = .ok (.aload_n 0, 1) := by decide +kernel
theorem d_Mo_enter_149 : decode b_Mo_enter 149 = .ok (.getfield 35, 3) := by decide +kernel
theorem d_Mo_enter_152 : decode b_Mo_enter 152 = .ok (.ifCond .eq 14, 3) := by decide +kernel
theorem d_Mo_enter_166 : decode b_Mo_enter 166 = .ok (.aload_n 0, 1) := by decide +kernel
theorem d_Mo_enter_167 : decode b_Mo_enter 167 = .ok (.iload 5, 2) := by decide +kernel
theorem d_Mo_enter_169 : decode b_Mo_enter 169 = .ok (.iconst 4, 1) := by decide +kernel
theorem d_Mo_enter_170 : decode b_Mo_enter 170 = .ok (.invokevirtual 60, 3) := by decide +kernel
theorem d_Mo_enter_173 : decode b_Mo_enter 173 = .ok (.aload_n 0, 1) := by decide +kernel
theorem d_Mo_enter_174 : decode b_Mo_enter 174 = .ok (.getfield 28, 3) := by decide +kernel
theorem d_Mo_enter_177 : decode b_Mo_enter 177 = .ok (.aload_n 0, 1) := by decide +kernel
theorem d_Mo_enter_178 : decode b_Mo_enter 178 = .ok (.getfield 67, 3) := by decide +kernel
theorem d_Mo_enter_181 : decode b_Mo_enter 181 = .ok (.iload 5, 2) := by decide +kernel
theorem d_Mo_enter_183 : decode b_Mo_enter 183 = .ok (.iastore, 1) := by decide +kernel
theorem d_Mo_enter_184 : decode b_Mo_enter 184 = .ok (.aload_n 0, 1) := by decide +kernel
theorem d_Mo_enter_185 : decode b_Mo_enter 185 = .ok (.dup, 1) := by decide +kernel
theorem d_Mo_enter_186 : decode b_Mo_enter 186 = .ok (.getfield 67, 3) := by decide +kernel
theorem d_Mo_enter_189 : decode b_Mo_enter 189 = .ok (.iconst 1, 1) := by decide +kernel
theorem d_Mo_enter_190 : decode b_Mo_enter 190 = .ok (.iadd, 1) := by decide +kernel
theorem d_Mo_enter_191 : decode b_Mo_enter 191 = .ok (.putfield 67, 3) := by decide +kernel
theorem d_Mo_enter_194 : decode b_Mo_enter 194 = .ok (.iinc 4 1, 3) := by decide +kernel
theorem d_Mo_enter_197 : decode b_Mo_enter 197 = .ok (.goto (-64), 3) := by decide +kernel
theorem d_Mo_enter_155 : decode b_Mo_enter 155 = .ok (.aload_n 0, 1) := by decide +kernel
theorem d_Mo_enter_156 : decode b_Mo_enter 156 = .ok (.getfield 7, 3) := by decide +kernel
theorem d_Mo_enter_159 : decode b_Mo_enter 159 = .ok (.iload 5, 2) := by decide +kernel
theorem d_Mo_enter_161 : decode b_Mo_enter 161 = .ok (.iconst 0, 1) := by decide +kernel
theorem d_Mo_enter_162 : decode b_Mo_enter 162 = .ok (.iastore, 1) := by decide +kernel
theorem d_Mo_enter_163 : decode b_Mo_enter 163 = .ok (.goto 10, 3) := by decide +kernel
theorem d_Mo_enter_111 : decode b_Mo_enter 111 = .ok (.aload_n 0, 1) := by decide +kernel
theorem d_Mo_enter_112 : decode b_Mo_enter 112 = .ok (.getfield 53, 3) := by decide +kernel
theorem d_Mo_enter_115 : decode b_Mo_enter 115 = .ok (.iconst 1, 1) := by decide +kernel
theorem d_Mo_enter_116 : decode b_Mo_enter 116 = .ok (.isub, 1) := by decide +kernel
theorem d_Mo_enter_117 : decode b_Mo_enter 117 = .ok (.goto 12, 3) := by decide +kernel
theorem d_Mo_enter_103 : decode b_Mo_enter 103 = .ok (.return_, 1) := by decide +kernel
theorem d_Mo_enter_49 : decode b_Mo_enter 49 = .ok (.aload_n 0, 1) := by decide +kernel
theorem d_Mo_enter_50 : decode b_Mo_enter 50 = .ok (.getfield 13, 3) := by decide +kernel
theorem d_Mo_enter_53 : decode b_Mo_enter 53 = .ok (.iload_n 3, 1) := by decide +kernel
theorem d_Mo_enter_54 : decode b_Mo_enter 54 = .ok (.aload_n 0, 1) := by decide +kernel
theorem d_Mo_enter_55 : decode b_Mo_enter 55 = .ok (.getfield 13, 3) := by decide +kernel
theorem d_Mo_enter_58 : decode b_Mo_enter 58 = .ok (.iload_n 3, 1) := by decide +kernel
theorem d_Mo_enter_59 : decode b_Mo_enter 59 = .ok (.iconst 1, 1) := by decide +kernel
theorem d_Mo_enter_60 : decode b_Mo_enter 60 = .ok (.isub, 1) := by decide +kernel
theorem d_Mo_enter_61 : decode b_Mo_enter 61 = .ok (.iaload, 1) := by decide +kernel
end
section
theorem d_Mo_enter_62 : decode b_Mo_enter 62 = .ok (.iastore, 1) := by decide +kernel
theorem d_Mo_enter_63 : decode b_Mo_enter 63 = .ok (.iinc 3 (-1), 3) := by decide +kernel
theorem d_Mo_enter_66 : decode b_Mo_enter 66 = .ok (.goto (-22), 3) := by decide +kernel
theorem d_Mo_enter_12 : decode b_Mo_enter 12 = .ok (.aload_n 0, 1) := by decide +kernel
theorem d_Mo_enter_13 : decode b_Mo_enter 13 = .ok (.getfield 13, 3) := by decide +kernel
theorem d_Mo_enter_16 : decode b_Mo_enter 16 = .ok (.iload_n 3, 1) := by decide +kernel
theorem d_Mo_enter_17 : decode b_Mo_enter 17 = .ok (.iaload, 1) := by decide +kernel
theorem d_Mo_enter_18 : decode b_Mo_enter 18 = .ok (.iload_n 1, 1) := by decide +kernel
theorem d_Mo_enter_19 : decode b_Mo_enter 19 = .ok (.invokestatic 56, 3) := by decide +kernel
theorem d_Mo_enter_22 : decode b_Mo_enter 22 = .ok (.ifCond .eq 9, 3) := by decide +kernel
theorem d_Mo_enter_31 : decode b_Mo_enter 31 = .ok (.iload_n 2, 1) := by decide +kernel
theorem d_Mo_enter_32 : decode b_Mo_enter 32 = .ok (.istore_n 2, 1) := by decide +kernel
theorem d_Mo_enter_33 : decode b_Mo_enter 33 = .ok (.iinc 3 1, 3) := by decide +kernel
theorem d_Mo_enter_36 : decode b_Mo_enter 36 = .ok (.goto (-32), 3) := by decide +kernel
theorem d_Mo_enter_25 : decode b_Mo_enter 25 = .ok (.iload_n 3, 1) := by decide +kernel
theorem d_Mo_enter_26 : decode b_Mo_enter 26 = .ok (.iconst 1, 1) := by decide +kernel
theorem d_Mo_enter_27 : decode b_Mo_enter 27 = .ok (.iadd, 1) := by decide +kernel
theorem d_Mo_enter_28 : decode b_Mo_enter 28 = .ok (.goto 4, 3) := by decide +kernel
theorem d_Mo_catalogue_0 : decode b_Mo_catalogue 0 = .ok (.aload_n 0, 1) := by decide +kernel
theorem d_Mo_catalogue_1 : decode b_Mo_catalogue 1 = .ok (.iconst 0, 1) := by decide +kernel
theorem d_Mo_catalogue_2 : decode b_Mo_catalogue 2 = .ok (.putfield 39, 3) := by decide +kernel
theorem d_Mo_catalogue_5 : decode b_Mo_catalogue 5 = .ok (.iload_n 1, 1) := by decide +kernel
theorem d_Mo_catalogue_6 : decode b_Mo_catalogue 6 = .ok (.invokestatic 70, 3) := by decide +kernel
theorem d_Mo_catalogue_9 : decode b_Mo_catalogue 9 = .ok (.ifCond .eq 20, 3) := by decide +kernel
theorem d_Mo_catalogue_29 : decode b_Mo_catalogue 29 = .ok (.iconst (-1), 1) := by decide +kernel
theorem d_Mo_catalogue_30 : decode b_Mo_catalogue 30 = .ok (.ireturn, 1) := by decide +kernel
theorem d_Mo_catalogue_12 : decode b_Mo_catalogue 12 = .ok (.aload_n 0, 1) := by decide +kernel
theorem d_Mo_catalogue_13 : decode b_Mo_catalogue 13 = .ok (.iload_n 1, 1) := by decide +kernel
theorem d_Mo_catalogue_14 : decode b_Mo_catalogue 14 = .ok (.invokevirtual 74, 3) := by decide +kernel
theorem d_Mo_catalogue_17 : decode b_Mo_catalogue 17 = .ok (.ifCond .eq 14, 3) := by decide +kernel
theorem d_Mo_catalogue_31 : decode b_Mo_catalogue 31 = .ok (.aload_n 0, 1) := by decide +kernel
theorem d_Mo_catalogue_32 : decode b_Mo_catalogue 32 = .ok (.iload_n 1, 1) := by decide +kernel
theorem d_Mo_catalogue_33 : decode b_Mo_catalogue 33 = .ok (.invokevirtual 77, 3) := by decide +kernel
theorem d_Mo_catalogue_36 : decode b_Mo_catalogue 36 = .ok (.aload_n 0, 1) := by decide +kernel
theorem d_Mo_catalogue_37 : decode b_Mo_catalogue 37 = .ok (.getfield 53, 3) := by decide +kernel
theorem d_Mo_catalogue_40 : decode b_Mo_catalogue 40 = .ok (.ireturn, 1) := by decide +kernel
theorem d_Mo_catalogue_20 : decode b_Mo_catalogue 20 = .ok (.aload_n 0, 1) := by decide +kernel
theorem d_Mo_catalogue_21 : decode b_Mo_catalogue 21 = .ok (.iload_n 1, 1) := by decide +kernel
theorem d_Mo_catalogue_22 : decode b_Mo_catalogue 22 = .ok (.invokevirtual 74, 3) := by decide +kernel
theorem d_Mo_catalogue_25 : decode b_Mo_catalogue 25 = .ok (.iconst 4, 1) := by decide +kernel
theorem d_Mo_catalogue_26 : decode b_Mo_catalogue 26 = .ok (.if_icmp .eq 5, 3) := by decide +kernel
end
section
set_option maxHeartbeats 4000000 in
set_option maxRecDepth 100000 in
theorem m_enter (l : Launch) (G : gw_G) (M : gw_M) (B : Nat → Nat) (lm : Nat) (sm E : Int32) (jb sz dr : Nat) (hX : gm_X G B lm sm E jb sz dr M) (k : Int32) (hk : gm_k k) (hsz : sz ≤ lm) (hdr : dr + sz ≤ 600) : Met l y_Mo_enter [.code y_Mo_enter b_Mo_enter 6 none] ({ frames := 2, cells := 0, slots := 0, locals := 46 }) (gw_Pc G M [.ref (B 0), .int k]) (gw_Qv G (fun M2 => ∃ sz2 : Nat, ∃ dr2 : Nat, sz2 ≤ lm ∧ dr2 + sz2 ≤ dr + sz + 1 ∧ gm_X G B lm sm E jb sz2 dr2 M2 ∧ gw_fg (gw_out [100, 101, 102, 103, 104, 105, 106, 107]) M M2)) 0 0 (gw_A G) := by
  refine gw_start (by decide) (Nat.le_of_ble_eq_true rfl) (fun p9 e9 s m b9 mt9 c9 hx hb hr hml hown hlocks hin hE hB hW ls hl => ?_)
  have hts := hE.ts ([.ref (B 0), .int k] : List Value).toArray
  have hl : lv_has ls 6 [(0, .ref (B 0)), (1, .int k)] := hl
  have hown : s.vm.findClass "GenerationsModel" = some m.cls := hown
  have hj9 := hX.jb40
  have hm9 := hX.lm255
  refine gw_gen (I := fun z => gm_X G B lm sm E jb sz dr z) (P := gw_out [100, 101, 102, 103, 104, 105, 106, 107]) hX hW (fun H locs Mw hW hS hX hF => ?_)
  have hX : gm_X G B lm sm E jb sz dr Mw := hX
  refine lv_iconst (v := 0) hx hb d_Mo_enter_0 (by decide) ?_
  refine lv_istore_n (lv' := [(2, .int 0), (0, .ref (B 0)), (1, .int k)]) hx hb d_Mo_enter_1 rfl hl (by decide) rfl (fun ls hl => ?_)
  refine lv_iconst (v := 0) hx hb d_Mo_enter_2 (by decide) ?_
  refine lv_istore_n (lv' := [(3, .int 0), (2, .int 0), (0, .ref (B 0)), (1, .int k)]) hx hb d_Mo_enter_3 rfl hl (by decide) rfl (fun ls hl => ?_)
  obtain ⟨k4, ek4⟩ : ∃ z : Nat, z = 0 := ⟨_, rfl⟩
  obtain ⟨p4_2, ep4_2⟩ : ∃ z : Nat, z = 0 := ⟨_, rfl⟩
  replace hl : lv_has ls 6 [(3, .int (nI k4)), (2, .int (nI p4_2)), (0, .ref (B 0)), (1, .int k)] := by subst ek4; subst ep4_2; exact lv_sub hl [0, 1, 2, 3] rfl
  have hk4 : k4 ≤ sz ∧ p4_2 ≤ k4 := by omega
  clear ek4 ep4_2
  obtain ⟨n4, hn4⟩ : ∃ z : Nat, sz - k4 < z := ⟨_, Nat.lt_succ_self _⟩
  induction n4 generalizing k4 ls H locs Mw p4_2 with
  | zero => exact absurd hn4 (Nat.not_lt_zero _)
  | succ n4 ih4 =>
    refine lv_iload_n hx hb d_Mo_enter_4 rfl (lv_at hl 0 rfl) ?_
    refine lv_aload_n hx hb d_Mo_enter_5 rfl (lv_at hl 2 rfl) ?_
    obtain ⟨cdo1, mko1, f1o1, f2o1, f3o1, f4o1, f5o1, f6o1, f7o1, hf_0, hf_1, hf_2, hf_3, hf_4, hf_5, hf_6, hf_7, hk2o1, hk3o1, hk4o1, -, -⟩ := id hX
    refine gw_get (ci := 5) (fs := [.int cdo1, .int (nI lm), .int sm, .int E, .ref (B 1), .ref (B 2), .int (nI sz), .ref (B 3), .ref (B 4), .ref (B 5), .ref (B 6), .int (nI jb), .int mko1, .ref (B 7), .int (nI dr)]) hx hb hts in_Mo hown hE.K hW hf_0 rfl 6 (by decide) (hts _ mw237) (fun _ h9 => h9) rfl d_Mo_enter_6 ?_
    refine lv_icmp_ge (tgt := 39) hx hb d_Mo_enter_9 (by decide) (fun c9 => ?_) (fun c9 => ?_)
    · refine lv_aload_n hx hb d_Mo_enter_39 rfl (lv_at hl 2 rfl) ?_
      refine gw_get (ci := 5) (fs := [.int cdo1, .int (nI lm), .int sm, .int E, .ref (B 1), .ref (B 2), .int (nI sz), .ref (B 3), .ref (B 4), .ref (B 5), .ref (B 6), .int (nI jb), .int mko1, .ref (B 7), .int (nI dr)]) hx hb hts in_Mo hown hE.K hW hf_0 rfl 6 (by decide) (hts _ mw237) (fun _ h9 => h9) rfl d_Mo_enter_40 ?_
      refine lv_istore_n (lv' := [(3, .int (nI sz)), (2, .int (nI p4_2)), (0, .ref (B 0)), (1, .int k)]) hx hb d_Mo_enter_43 rfl hl (by decide) rfl (fun ls hl => ?_)
      obtain ⟨k44, ek44⟩ : ∃ z : Nat, z = sz := ⟨_, rfl⟩
      replace hl : lv_has ls 6 [(3, .int (nI k44)), (2, .int (nI p4_2)), (0, .ref (B 0)), (1, .int k)] := by subst ek44; exact lv_sub hl [0, 1, 2, 3] rfl
      have hk44 : k44 ≤ sz := by omega
      clear ek44
      clear hf_0 hf_1 hf_2 hf_3 hf_4 hf_5 hf_6 hf_7
      obtain ⟨n44, hn44⟩ : ∃ z : Nat, k44 < z := ⟨_, Nat.lt_succ_self _⟩
      induction n44 generalizing k44 ls H locs Mw with
      | zero => exact absurd hn44 (Nat.not_lt_zero _)
      | succ n44 ih44 =>
        refine lv_iload_n hx hb d_Mo_enter_44 rfl (lv_at hl 0 rfl) ?_
        refine lv_iload_n hx hb d_Mo_enter_45 rfl (lv_at hl 1 rfl) ?_
        refine lv_icmp_le (tgt := 69) hx hb d_Mo_enter_46 (by decide) (fun c46 => ?_) (fun c46 => ?_)
        · refine lv_aload_n hx hb d_Mo_enter_69 rfl (lv_at hl 2 rfl) ?_
          obtain ⟨cdo2, mko2, f1o2, f2o2, f3o2, f4o2, f5o2, f6o2, f7o2, hf_0, hf_1, hf_2, hf_3, hf_4, hf_5, hf_6, hf_7, hk2o2, hk3o2, hk4o2, -, -⟩ := id hX
          refine gw_get (ci := 5) (fs := [.int cdo2, .int (nI lm), .int sm, .int E, .ref (B 1), .ref (B 2), .int (nI sz), .ref (B 3), .ref (B 4), .ref (B 5), .ref (B 6), .int (nI jb), .int mko2, .ref (B 7), .int (nI dr)]) hx hb hts in_Mo hown hE.K hW hf_0 rfl 5 (by decide) (hts _ mw238) (fun _ h9 => h9) rfl d_Mo_enter_70 ?_
          refine lv_iload_n hx hb d_Mo_enter_73 rfl (lv_at hl 1 rfl) ?_
          refine lv_iload_n hx hb d_Mo_enter_74 rfl (lv_at hl 3 rfl) ?_
          refine gw_iast (i := nI p4_2) (x := k) hx hb hE.K hW hS 0 hf_2 rfl (vp_in_nI (by omega) (by omega)) d_Mo_enter_75 (fun H locs hW hS => ?_)
          have hXn : gm_X G B lm sm E jb sz dr (gw_up Mw (B 2) 102 (.inl (G.2.1 0, 300, .inl (upd f2o2 (nI p4_2 : Int32).toNatClampNeg k)))) := hX.up102 hf_2 (gm_upd hk2o2 hk)
          have hF3 : gw_fg (gw_out [100, 101, 102, 103, 104, 105, 106, 107]) M (gw_up Mw (B 2) 102 (.inl (G.2.1 0, 300, .inl (upd f2o2 (nI p4_2 : Int32).toNatClampNeg k)))) := gw_fg.up hF hf_2 (show ¬ ((gw_out [100, 101, 102, 103, 104, 105, 106, 107]) 102) by decide) (show ¬ ((gw_out [100, 101, 102, 103, 104, 105, 106, 107]) 102) by decide)
          obtain ⟨M4, eM4⟩ : ∃ z, z = gw_up Mw (B 2) 102 (.inl (G.2.1 0, 300, .inl (upd f2o2 (nI p4_2 : Int32).toNatClampNeg k))) := ⟨_, rfl⟩
          replace hW : gw_P G.1 vwCl G.2.2.2 M4 H := by rw [eM4]; exact hW
          have hf_0 : M4 (B 0) = some (100, .inr (5, [.int cdo2, .int (nI lm), .int sm, .int E, .ref (B 1), .ref (B 2), .int (nI sz), .ref (B 3), .ref (B 4), .ref (B 5), .ref (B 6), .int (nI jb), .int mko2, .ref (B 7), .int (nI dr)])) := by rw [eM4]; exact gw_keep hf_0 hf_2 (by decide)
          have hf_1 : M4 (B 1) = some (101, .inl (G.2.1 0, 10000, .inl f1o2)) := by rw [eM4]; exact gw_keep hf_1 hf_2 (by decide)
          have hf_3 : M4 (B 3) = some (103, .inl (G.2.1 0, 10240, .inl f3o2)) := by rw [eM4]; exact gw_keep hf_3 hf_2 (by decide)
          have hf_4 : M4 (B 4) = some (104, .inl (G.2.1 0, 41, .inl f4o2)) := by rw [eM4]; exact gw_keep hf_4 hf_2 (by decide)
          have hf_5 : M4 (B 5) = some (105, .inl (G.2.1 0, 41, .inl f5o2)) := by rw [eM4]; exact gw_keep hf_5 hf_2 (by decide)
          have hf_6 : M4 (B 6) = some (106, .inl (G.2.1 0, 4100, .inl f6o2)) := by rw [eM4]; exact gw_keep hf_6 hf_2 (by decide)
          have hf_7 : M4 (B 7) = some (107, .inl (G.2.1 0, 2048, .inl f7o2)) := by rw [eM4]; exact gw_keep hf_7 hf_2 (by decide)
          have hf_2 : M4 (B 2) = some (102, .inl (G.2.1 0, 300, .inl (upd f2o2 (nI p4_2 : Int32).toNatClampNeg k))) := by rw [eM4]; exact gw_up_self _ _ _ _
          rw [← eM4] at hF3
          rw [← eM4] at hXn
          replace hX := hXn
          clear hXn
          have hks5 : ∀ i, gm_k ((upd f2o2 (nI p4_2 : Int32).toNatClampNeg k) i) := gm_upd hk2o2 hk
          refine lv_aload_n hx hb d_Mo_enter_76 rfl (lv_at hl 2 rfl) ?_
          refine lv_dup hx hb d_Mo_enter_77 rfl ?_
          refine gw_get (ci := 5) (fs := [.int cdo2, .int (nI lm), .int sm, .int E, .ref (B 1), .ref (B 2), .int (nI sz), .ref (B 3), .ref (B 4), .ref (B 5), .ref (B 6), .int (nI jb), .int mko2, .ref (B 7), .int (nI dr)]) hx hb hts in_Mo hown hE.K hW hf_0 rfl 6 (by decide) (hts _ mw237) (fun _ h9 => h9) rfl d_Mo_enter_78 ?_
          refine lv_iconst (v := 1) hx hb d_Mo_enter_81 (by decide) ?_
          refine lv_iadd hx hb d_Mo_enter_82 ?_
          refine W.eq (g2 := F0 m 83 ls [.int (nI (sz + 1)), .ref (B 0)]) (by rw [nI_1]) ?_
          refine gw_put (ci := 5) (fs := [.int cdo2, .int (nI lm), .int sm, .int E, .ref (B 1), .ref (B 2), .int (nI sz), .ref (B 3), .ref (B 4), .ref (B 5), .ref (B 6), .int (nI jb), .int mko2, .ref (B 7), .int (nI dr)]) (v := .int (nI (sz + 1))) (ty := .int) hx hb hts in_Mo t_Mo t_Mo_ok n_Mo hown hE.K hW hS hf_0 rfl 6 (by decide) (hts _ mw237) (fun _ h9 => h9) rfl (by decide +kernel) rfl rfl (Nat.le_of_ble_eq_true rfl) d_Mo_enter_83 (fun H locs hW hS => ?_)
          have hXn : gm_X G B lm sm E jb (sz + 1) dr (gw_up M4 (B 0) 100 (.inr (5, [.int cdo2, .int (nI lm), .int sm, .int E, .ref (B 1), .ref (B 2), .int (nI (sz + 1)), .ref (B 3), .ref (B 4), .ref (B 5), .ref (B 6), .int (nI jb), .int mko2, .ref (B 7), .int (nI dr)]))) := hX.up100 hf_0 (by omega)
          have hF6 : gw_fg (gw_out [100, 101, 102, 103, 104, 105, 106, 107]) M (gw_up M4 (B 0) 100 (.inr (5, [.int cdo2, .int (nI lm), .int sm, .int E, .ref (B 1), .ref (B 2), .int (nI (sz + 1)), .ref (B 3), .ref (B 4), .ref (B 5), .ref (B 6), .int (nI jb), .int mko2, .ref (B 7), .int (nI dr)]))) := gw_fg.up hF3 hf_0 (show ¬ ((gw_out [100, 101, 102, 103, 104, 105, 106, 107]) 100) by decide) (show ¬ ((gw_out [100, 101, 102, 103, 104, 105, 106, 107]) 100) by decide)
          obtain ⟨M7, eM7⟩ : ∃ z, z = gw_up M4 (B 0) 100 (.inr (5, [.int cdo2, .int (nI lm), .int sm, .int E, .ref (B 1), .ref (B 2), .int (nI (sz + 1)), .ref (B 3), .ref (B 4), .ref (B 5), .ref (B 6), .int (nI jb), .int mko2, .ref (B 7), .int (nI dr)])) := ⟨_, rfl⟩
          replace hW : gw_P G.1 vwCl G.2.2.2 M7 H := by rw [eM7]; exact hW
          have hf_1 : M7 (B 1) = some (101, .inl (G.2.1 0, 10000, .inl f1o2)) := by rw [eM7]; exact gw_keep hf_1 hf_0 (by decide)
          have hf_3 : M7 (B 3) = some (103, .inl (G.2.1 0, 10240, .inl f3o2)) := by rw [eM7]; exact gw_keep hf_3 hf_0 (by decide)
          have hf_4 : M7 (B 4) = some (104, .inl (G.2.1 0, 41, .inl f4o2)) := by rw [eM7]; exact gw_keep hf_4 hf_0 (by decide)
          have hf_5 : M7 (B 5) = some (105, .inl (G.2.1 0, 41, .inl f5o2)) := by rw [eM7]; exact gw_keep hf_5 hf_0 (by decide)
          have hf_6 : M7 (B 6) = some (106, .inl (G.2.1 0, 4100, .inl f6o2)) := by rw [eM7]; exact gw_keep hf_6 hf_0 (by decide)
          have hf_7 : M7 (B 7) = some (107, .inl (G.2.1 0, 2048, .inl f7o2)) := by rw [eM7]; exact gw_keep hf_7 hf_0 (by decide)
          have hf_2 : M7 (B 2) = some (102, .inl (G.2.1 0, 300, .inl (upd f2o2 (nI p4_2 : Int32).toNatClampNeg k))) := by rw [eM7]; exact gw_keep hf_2 hf_0 (by decide)
          have hf_0 : M7 (B 0) = some (100, .inr (5, [.int cdo2, .int (nI lm), .int sm, .int E, .ref (B 1), .ref (B 2), .int (nI (sz + 1)), .ref (B 3), .ref (B 4), .ref (B 5), .ref (B 6), .int (nI jb), .int mko2, .ref (B 7), .int (nI dr)])) := by rw [eM7]; exact gw_up_self _ _ _ _
          rw [← eM7] at hF6
          rw [← eM7] at hXn
          replace hX := hXn
          clear hXn
          refine lv_aload_n hx hb d_Mo_enter_86 rfl (lv_at hl 2 rfl) ?_
          refine lv_iload_n hx hb d_Mo_enter_87 rfl (lv_at hl 3 rfl) ?_
          refine lv_iconst (v := 1) hx hb d_Mo_enter_88 (by decide) ?_
          refine gw_callv hS (va_runV (As := [.int k, .int 1]) (rest := []) ⟨hx, hb, hml, hown, hts⟩ (m_become l G M7 B lm sm E jb (sz + 1) dr hX k 1  hk) (cwV 2 hts (gw_gv mw240 mw241 mw242 mw228 mw239) rfl rfl rfl (by decide +kernel) ⟨Nat.le_of_ble_eq_true rfl, Nat.le_of_ble_eq_true rfl⟩) (gw_pv hE hB hS hW rfl hf_0) rfl rfl hl.1 rfl (lv_room (Nat.le_of_ble_eq_true rfl)) d_Mo_enter_89 ⟨Nat.le_of_ble_eq_true rfl, Nat.le_of_ble_eq_true rfl⟩) (fun M9 H locs hw10 hW hS => ?_)
          obtain ⟨hX, hfr11⟩ := hw10
          have hF12 : gw_fg (gw_out [100, 101, 102, 103, 104, 105, 106, 107]) M M9 := gw_fg.tr hF6 (gw_fg.wk hfr11 (by decide))
          clear hfr11
          refine lv_aload_n hx hb d_Mo_enter_92 rfl (lv_at hl 2 rfl) ?_
          obtain ⟨cdo13, mko13, f1o13, f2o13, f3o13, f4o13, f5o13, f6o13, f7o13, hf_0, hf_1, hf_2, hf_3, hf_4, hf_5, hf_6, hf_7, hk2o13, hk3o13, hk4o13, -, -⟩ := id hX
          refine gw_get (ci := 5) (fs := [.int cdo13, .int (nI lm), .int sm, .int E, .ref (B 1), .ref (B 2), .int (nI (sz + 1)), .ref (B 3), .ref (B 4), .ref (B 5), .ref (B 6), .int (nI jb), .int mko13, .ref (B 7), .int (nI dr)]) hx hb hts in_Mo hown hE.K hW hf_0 rfl 6 (by decide) (hts _ mw237) (fun _ h9 => h9) rfl d_Mo_enter_93 ?_
          refine lv_aload_n hx hb d_Mo_enter_96 rfl (lv_at hl 2 rfl) ?_
          refine gw_get (ci := 5) (fs := [.int cdo13, .int (nI lm), .int sm, .int E, .ref (B 1), .ref (B 2), .int (nI (sz + 1)), .ref (B 3), .ref (B 4), .ref (B 5), .ref (B 6), .int (nI jb), .int mko13, .ref (B 7), .int (nI dr)]) hx hb hts in_Mo hown hE.K hW hf_0 rfl 1 (by decide) (hts _ mw243) (fun _ h9 => h9) rfl d_Mo_enter_97 ?_
          refine lv_icmp_gt (tgt := 104) hx hb d_Mo_enter_100 (by decide) (fun c100 => ?_) (fun c100 => ?_)
          · have hgt := (nI_ltI (by omega) (by omega)).mp c100
            refine lv_aload_n hx hb d_Mo_enter_104 rfl (lv_at hl 2 rfl) ?_
            refine gw_get (ci := 5) (fs := [.int cdo13, .int (nI lm), .int sm, .int E, .ref (B 1), .ref (B 2), .int (nI (sz + 1)), .ref (B 3), .ref (B 4), .ref (B 5), .ref (B 6), .int (nI jb), .int mko13, .ref (B 7), .int (nI dr)]) hx hb hts in_Mo hown hE.K hW hf_0 rfl 3 (by decide) (hts _ mw244) (fun _ h9 => h9) rfl d_Mo_enter_105 ?_
            refine lv_if_eq (tgt := 120) hx hb d_Mo_enter_108 (by decide) (fun c108 => ?_) (fun c108 => ?_)
            · refine lv_aload_n hx hb d_Mo_enter_120 rfl (lv_at hl 2 rfl) ?_
              refine gw_get (ci := 5) (fs := [.int cdo13, .int (nI lm), .int sm, .int E, .ref (B 1), .ref (B 2), .int (nI (sz + 1)), .ref (B 3), .ref (B 4), .ref (B 5), .ref (B 6), .int (nI jb), .int mko13, .ref (B 7), .int (nI dr)]) hx hb hts in_Mo hown hE.K hW hf_0 rfl 6 (by decide) (hts _ mw237) (fun _ h9 => h9) rfl d_Mo_enter_121 ?_
              refine lv_aload_n hx hb d_Mo_enter_124 rfl (lv_at hl 2 rfl) ?_
              refine gw_get (ci := 5) (fs := [.int cdo13, .int (nI lm), .int sm, .int E, .ref (B 1), .ref (B 2), .int (nI (sz + 1)), .ref (B 3), .ref (B 4), .ref (B 5), .ref (B 6), .int (nI jb), .int mko13, .ref (B 7), .int (nI dr)]) hx hb hts in_Mo hown hE.K hW hf_0 rfl 1 (by decide) (hts _ mw243) (fun _ h9 => h9) rfl d_Mo_enter_125 ?_
              refine lv_isub hx hb d_Mo_enter_128 ?_
              obtain ⟨go, hg1, hg2, hg3, hgo⟩ : ∃ z : Nat, 1 ≤ z ∧ z ≤ sz + 1 ∧ sz + 1 - z ≤ lm ∧ (nI (sz + 1)) - (nI lm) = nI z := ⟨sz + 1 - lm, by omega, by omega, by omega, by rw [pk_sub (by omega)]⟩
              refine W.eq (g2 := F0 m 129 ls [.int (nI go)]) (by rw [hgo]) ?_
              refine lv_istore_n (lv' := [(3, .int (nI go)), (2, .int (nI p4_2)), (0, .ref (B 0)), (1, .int k)]) hx hb d_Mo_enter_129 rfl hl (by decide) rfl (fun ls hl => ?_)
              refine lv_iconst (v := 0) hx hb d_Mo_enter_130 (by decide) ?_
              refine lv_istore (lv' := [(4, .int 0), (3, .int (nI go)), (2, .int (nI p4_2)), (0, .ref (B 0)), (1, .int k)]) hx hb d_Mo_enter_131 hl (by decide) rfl (fun ls hl => ?_)
              obtain ⟨k133, ek133⟩ : ∃ z : Nat, z = 0 := ⟨_, rfl⟩
              replace hl : lv_has ls 6 [(4, .int (nI k133)), (3, .int (nI go)), (2, .int (nI p4_2)), (0, .ref (B 0)), (1, .int k)] := by subst ek133; exact lv_sub hl [0, 1, 2, 3, 4] rfl
              obtain ⟨w133_dr, ew133_dr⟩ : ∃ z : Nat, z = dr := ⟨_, rfl⟩
              replace hX : gm_X G B lm sm E jb (sz + 1) w133_dr M9 := by rw [ew133_dr]; exact hX
              have hk133 : k133 ≤ go ∧ w133_dr = dr + k133 := by omega
              clear ek133 ew133_dr
              clear hf_0 hf_1 hf_2 hf_3 hf_4 hf_5 hf_6 hf_7
              try clear eM9
              have hF := hF12
              clear hF12
              obtain ⟨n133, hn133⟩ : ∃ z : Nat, go - k133 < z := ⟨_, Nat.lt_succ_self _⟩
              induction n133 generalizing k133 ls H locs M9 w133_dr with
              | zero => exact absurd hn133 (Nat.not_lt_zero _)
              | succ n133 ih133 =>
                refine lv_iload hx hb d_Mo_enter_133 (lv_at hl 0 rfl) ?_
                refine lv_iload_n hx hb d_Mo_enter_135 rfl (lv_at hl 1 rfl) ?_
                refine lv_icmp_ge (tgt := 200) hx hb d_Mo_enter_136 (by decide) (fun c136 => ?_) (fun c136 => ?_)
                · have hge := (nI_leI (by omega) (by omega)).mp c136
                  refine lv_iload_n hx hb d_Mo_enter_200 rfl (lv_at hl 1 rfl) ?_
                  refine lv_istore (lv' := [(4, .int (nI go)), (3, .int (nI go)), (2, .int (nI p4_2)), (0, .ref (B 0)), (1, .int k)]) hx hb d_Mo_enter_201 hl (by decide) rfl (fun ls hl => ?_)
                  obtain ⟨k203, ek203⟩ : ∃ z : Nat, z = go := ⟨_, rfl⟩
                  replace hl : lv_has ls 6 [(4, .int (nI k203)), (3, .int (nI go)), (2, .int (nI p4_2)), (0, .ref (B 0)), (1, .int k)] := by subst ek203; exact lv_sub hl [0, 1, 2, 3, 4] rfl
                  have hk203 : go ≤ k203 ∧ k203 ≤ sz + 1 := by omega
                  clear ek203
                  try clear eM9
                  obtain ⟨n203, hn203⟩ : ∃ z : Nat, sz + 1 - k203 < z := ⟨_, Nat.lt_succ_self _⟩
                  induction n203 generalizing k203 ls H locs M9 with
                  | zero => exact absurd hn203 (Nat.not_lt_zero _)
                  | succ n203 ih203 =>
                    refine lv_iload hx hb d_Mo_enter_203 (lv_at hl 0 rfl) ?_
                    refine lv_aload_n hx hb d_Mo_enter_205 rfl (lv_at hl 3 rfl) ?_
                    obtain ⟨cdo14, mko14, f1o14, f2o14, f3o14, f4o14, f5o14, f6o14, f7o14, hf_0, hf_1, hf_2, hf_3, hf_4, hf_5, hf_6, hf_7, hk2o14, hk3o14, hk4o14, -, -⟩ := id hX
                    refine gw_get (ci := 5) (fs := [.int cdo14, .int (nI lm), .int sm, .int E, .ref (B 1), .ref (B 2), .int (nI (sz + 1)), .ref (B 3), .ref (B 4), .ref (B 5), .ref (B 6), .int (nI jb), .int mko14, .ref (B 7), .int (nI w133_dr)]) hx hb hts in_Mo hown hE.K hW hf_0 rfl 6 (by decide) (hts _ mw237) (fun _ h9 => h9) rfl d_Mo_enter_206 ?_
                    refine lv_icmp_ge (tgt := 234) hx hb d_Mo_enter_209 (by decide) (fun c209 => ?_) (fun c209 => ?_)
                    · refine lv_aload_n hx hb d_Mo_enter_234 rfl (lv_at hl 3 rfl) ?_
                      refine lv_dup hx hb d_Mo_enter_235 rfl ?_
                      refine gw_get (ci := 5) (fs := [.int cdo14, .int (nI lm), .int sm, .int E, .ref (B 1), .ref (B 2), .int (nI (sz + 1)), .ref (B 3), .ref (B 4), .ref (B 5), .ref (B 6), .int (nI jb), .int mko14, .ref (B 7), .int (nI w133_dr)]) hx hb hts in_Mo hown hE.K hW hf_0 rfl 6 (by decide) (hts _ mw237) (fun _ h9 => h9) rfl d_Mo_enter_236 ?_
                      refine lv_iload_n hx hb d_Mo_enter_239 rfl (lv_at hl 1 rfl) ?_
                      refine lv_isub hx hb d_Mo_enter_240 ?_
                      refine W.eq (g2 := F0 m 241 ls [.int (nI (sz + 1 - go)), .ref (B 0)]) (by rw [pk_sub (by omega)]) ?_
                      refine gw_put (ci := 5) (fs := [.int cdo14, .int (nI lm), .int sm, .int E, .ref (B 1), .ref (B 2), .int (nI (sz + 1)), .ref (B 3), .ref (B 4), .ref (B 5), .ref (B 6), .int (nI jb), .int mko14, .ref (B 7), .int (nI w133_dr)]) (v := .int (nI (sz + 1 - go))) (ty := .int) hx hb hts in_Mo t_Mo t_Mo_ok n_Mo hown hE.K hW hS hf_0 rfl 6 (by decide) (hts _ mw237) (fun _ h9 => h9) rfl (by decide +kernel) rfl rfl (Nat.le_of_ble_eq_true rfl) d_Mo_enter_241 (fun H locs hW hS => ?_)
                      have hXn : gm_X G B lm sm E jb (sz + 1 - go) w133_dr (gw_up M9 (B 0) 100 (.inr (5, [.int cdo14, .int (nI lm), .int sm, .int E, .ref (B 1), .ref (B 2), .int (nI (sz + 1 - go)), .ref (B 3), .ref (B 4), .ref (B 5), .ref (B 6), .int (nI jb), .int mko14, .ref (B 7), .int (nI w133_dr)]))) := hX.up100 hf_0 (by omega)
                      have hF15 : gw_fg (gw_out [100, 101, 102, 103, 104, 105, 106, 107]) M (gw_up M9 (B 0) 100 (.inr (5, [.int cdo14, .int (nI lm), .int sm, .int E, .ref (B 1), .ref (B 2), .int (nI (sz + 1 - go)), .ref (B 3), .ref (B 4), .ref (B 5), .ref (B 6), .int (nI jb), .int mko14, .ref (B 7), .int (nI w133_dr)]))) := gw_fg.up hF hf_0 (show ¬ ((gw_out [100, 101, 102, 103, 104, 105, 106, 107]) 100) by decide) (show ¬ ((gw_out [100, 101, 102, 103, 104, 105, 106, 107]) 100) by decide)
                      obtain ⟨M16, eM16⟩ : ∃ z, z = gw_up M9 (B 0) 100 (.inr (5, [.int cdo14, .int (nI lm), .int sm, .int E, .ref (B 1), .ref (B 2), .int (nI (sz + 1 - go)), .ref (B 3), .ref (B 4), .ref (B 5), .ref (B 6), .int (nI jb), .int mko14, .ref (B 7), .int (nI w133_dr)])) := ⟨_, rfl⟩
                      replace hW : gw_P G.1 vwCl G.2.2.2 M16 H := by rw [eM16]; exact hW
                      have hf_1 : M16 (B 1) = some (101, .inl (G.2.1 0, 10000, .inl f1o14)) := by rw [eM16]; exact gw_keep hf_1 hf_0 (by decide)
                      have hf_2 : M16 (B 2) = some (102, .inl (G.2.1 0, 300, .inl f2o14)) := by rw [eM16]; exact gw_keep hf_2 hf_0 (by decide)
                      have hf_3 : M16 (B 3) = some (103, .inl (G.2.1 0, 10240, .inl f3o14)) := by rw [eM16]; exact gw_keep hf_3 hf_0 (by decide)
                      have hf_4 : M16 (B 4) = some (104, .inl (G.2.1 0, 41, .inl f4o14)) := by rw [eM16]; exact gw_keep hf_4 hf_0 (by decide)
                      have hf_5 : M16 (B 5) = some (105, .inl (G.2.1 0, 41, .inl f5o14)) := by rw [eM16]; exact gw_keep hf_5 hf_0 (by decide)
                      have hf_6 : M16 (B 6) = some (106, .inl (G.2.1 0, 4100, .inl f6o14)) := by rw [eM16]; exact gw_keep hf_6 hf_0 (by decide)
                      have hf_7 : M16 (B 7) = some (107, .inl (G.2.1 0, 2048, .inl f7o14)) := by rw [eM16]; exact gw_keep hf_7 hf_0 (by decide)
                      have hf_0 : M16 (B 0) = some (100, .inr (5, [.int cdo14, .int (nI lm), .int sm, .int E, .ref (B 1), .ref (B 2), .int (nI (sz + 1 - go)), .ref (B 3), .ref (B 4), .ref (B 5), .ref (B 6), .int (nI jb), .int mko14, .ref (B 7), .int (nI w133_dr)])) := by rw [eM16]; exact gw_up_self _ _ _ _
                      rw [← eM16] at hF15
                      rw [← eM16] at hXn
                      replace hX := hXn
                      clear hXn
                      exact gw_vret hx hb hr hlocks hS hW (Nat.le_of_ble_eq_true rfl) (Nat.le_of_ble_eq_true rfl) d_Mo_enter_244 ⟨sz + 1 - go, w133_dr, (by omega), (by omega), hX, hF15⟩
                    · have hlt4 := gx_ltN c209 (by omega) (by omega)
                      refine lv_aload_n hx hb d_Mo_enter_212 rfl (lv_at hl 3 rfl) ?_
                      refine gw_get (ci := 5) (fs := [.int cdo14, .int (nI lm), .int sm, .int E, .ref (B 1), .ref (B 2), .int (nI (sz + 1)), .ref (B 3), .ref (B 4), .ref (B 5), .ref (B 6), .int (nI jb), .int mko14, .ref (B 7), .int (nI w133_dr)]) hx hb hts in_Mo hown hE.K hW hf_0 rfl 5 (by decide) (hts _ mw238) (fun _ h9 => h9) rfl d_Mo_enter_213 ?_
                      refine lv_iload hx hb d_Mo_enter_216 (lv_at hl 0 rfl) ?_
                      refine lv_iload_n hx hb d_Mo_enter_218 rfl (lv_at hl 1 rfl) ?_
                      refine lv_isub hx hb d_Mo_enter_219 ?_
                      refine lv_aload_n hx hb d_Mo_enter_220 rfl (lv_at hl 3 rfl) ?_
                      refine gw_get (ci := 5) (fs := [.int cdo14, .int (nI lm), .int sm, .int E, .ref (B 1), .ref (B 2), .int (nI (sz + 1)), .ref (B 3), .ref (B 4), .ref (B 5), .ref (B 6), .int (nI jb), .int mko14, .ref (B 7), .int (nI w133_dr)]) hx hb hts in_Mo hown hE.K hW hf_0 rfl 5 (by decide) (hts _ mw238) (fun _ h9 => h9) rfl d_Mo_enter_221 ?_
                      refine lv_iload hx hb d_Mo_enter_224 (lv_at hl 0 rfl) ?_
                      refine gw_iald (i := nI k203) hx hb hE.K hW 0 hf_2 rfl (vp_in_nI (by omega) (by omega)) d_Mo_enter_226 ?_
                      obtain ⟨v17, ev17⟩ : ∃ z : Int32, z = f2o14 (nI k203 : Int32).toNatClampNeg := ⟨_, rfl⟩
                      have hv17 : gm_k v17 := by rw [ev17]; exact hk2o14 _
                      refine W.eq (g2 := F0 m 227 ls [.int v17, .int ((nI k203) - (nI go)), .ref (B 2)]) (by rw [ev17]) ?_
                      refine gw_iast (i := (nI k203) - (nI go)) (x := v17) hx hb hE.K hW hS 0 hf_2 rfl (by rw [pk_sub (by omega)]; exact vp_in_nI (by omega) (by omega)) d_Mo_enter_227 (fun H locs hW hS => ?_)
                      have hXn : gm_X G B lm sm E jb (sz + 1) w133_dr (gw_up M9 (B 2) 102 (.inl (G.2.1 0, 300, .inl (upd f2o14 ((nI k203) - (nI go) : Int32).toNatClampNeg v17)))) := hX.up102 hf_2 (gm_upd hk2o14 hv17)
                      have hF18 : gw_fg (gw_out [100, 101, 102, 103, 104, 105, 106, 107]) M (gw_up M9 (B 2) 102 (.inl (G.2.1 0, 300, .inl (upd f2o14 ((nI k203) - (nI go) : Int32).toNatClampNeg v17)))) := gw_fg.up hF hf_2 (show ¬ ((gw_out [100, 101, 102, 103, 104, 105, 106, 107]) 102) by decide) (show ¬ ((gw_out [100, 101, 102, 103, 104, 105, 106, 107]) 102) by decide)
                      obtain ⟨M19, eM19⟩ : ∃ z, z = gw_up M9 (B 2) 102 (.inl (G.2.1 0, 300, .inl (upd f2o14 ((nI k203) - (nI go) : Int32).toNatClampNeg v17))) := ⟨_, rfl⟩
                      replace hW : gw_P G.1 vwCl G.2.2.2 M19 H := by rw [eM19]; exact hW
                      have hf_0 : M19 (B 0) = some (100, .inr (5, [.int cdo14, .int (nI lm), .int sm, .int E, .ref (B 1), .ref (B 2), .int (nI (sz + 1)), .ref (B 3), .ref (B 4), .ref (B 5), .ref (B 6), .int (nI jb), .int mko14, .ref (B 7), .int (nI w133_dr)])) := by rw [eM19]; exact gw_keep hf_0 hf_2 (by decide)
                      have hf_1 : M19 (B 1) = some (101, .inl (G.2.1 0, 10000, .inl f1o14)) := by rw [eM19]; exact gw_keep hf_1 hf_2 (by decide)
                      have hf_3 : M19 (B 3) = some (103, .inl (G.2.1 0, 10240, .inl f3o14)) := by rw [eM19]; exact gw_keep hf_3 hf_2 (by decide)
                      have hf_4 : M19 (B 4) = some (104, .inl (G.2.1 0, 41, .inl f4o14)) := by rw [eM19]; exact gw_keep hf_4 hf_2 (by decide)
                      have hf_5 : M19 (B 5) = some (105, .inl (G.2.1 0, 41, .inl f5o14)) := by rw [eM19]; exact gw_keep hf_5 hf_2 (by decide)
                      have hf_6 : M19 (B 6) = some (106, .inl (G.2.1 0, 4100, .inl f6o14)) := by rw [eM19]; exact gw_keep hf_6 hf_2 (by decide)
                      have hf_7 : M19 (B 7) = some (107, .inl (G.2.1 0, 2048, .inl f7o14)) := by rw [eM19]; exact gw_keep hf_7 hf_2 (by decide)
                      have hf_2 : M19 (B 2) = some (102, .inl (G.2.1 0, 300, .inl (upd f2o14 ((nI k203) - (nI go) : Int32).toNatClampNeg v17))) := by rw [eM19]; exact gw_up_self _ _ _ _
                      rw [← eM19] at hF18
                      rw [← eM19] at hXn
                      replace hX := hXn
                      clear hXn
                      have hks20 : ∀ i, gm_k ((upd f2o14 ((nI k203) - (nI go) : Int32).toNatClampNeg v17) i) := gm_upd hk2o14 hv17
                      refine lv_iinc (v := (nI k203) + 1) (lv' := [(4, .int ((nI k203) + 1)), (3, .int (nI go)), (2, .int (nI p4_2)), (0, .ref (B 0)), (1, .int k)]) hx hb d_Mo_enter_228 hl (k := 0) rfl rfl (by decide) rfl (fun ls hl => ?_)
                      refine lv_goto (tgt := 203) hx hb d_Mo_enter_231 (by decide) ?_
                      rw [nI_1] at hl
                      apply ih203 (ls := ls) (k203 := k203 + 1) (H := H) (locs := locs) (M9 := M19) <;> first | exact lv_sub hl [0, 1, 2, 3, 4] rfl | exact hX | exact hW | exact hS | exact hF18 | omega | assumption
                · have hlt3 := gx_ltN c136 (by omega) (by omega)
                  refine lv_aload_n hx hb d_Mo_enter_139 rfl (lv_at hl 3 rfl) ?_
                  obtain ⟨cdo21, mko21, f1o21, f2o21, f3o21, f4o21, f5o21, f6o21, f7o21, hf_0, hf_1, hf_2, hf_3, hf_4, hf_5, hf_6, hf_7, hk2o21, hk3o21, hk4o21, -, -⟩ := id hX
                  refine gw_get (ci := 5) (fs := [.int cdo21, .int (nI lm), .int sm, .int E, .ref (B 1), .ref (B 2), .int (nI (sz + 1)), .ref (B 3), .ref (B 4), .ref (B 5), .ref (B 6), .int (nI jb), .int mko21, .ref (B 7), .int (nI w133_dr)]) hx hb hts in_Mo hown hE.K hW hf_0 rfl 5 (by decide) (hts _ mw238) (fun _ h9 => h9) rfl d_Mo_enter_140 ?_
                  refine lv_iload hx hb d_Mo_enter_143 (lv_at hl 0 rfl) ?_
                  refine gw_iald (i := nI k133) hx hb hE.K hW 0 hf_2 rfl (vp_in_nI (by omega) (by omega)) d_Mo_enter_145 ?_
                  obtain ⟨v22, ev22⟩ : ∃ z : Int32, z = f2o21 (nI k133 : Int32).toNatClampNeg := ⟨_, rfl⟩
                  have hv22 : gm_k v22 := by rw [ev22]; exact hk2o21 _
                  refine W.eq (g2 := F0 m 146 ls [.int v22]) (by rw [ev22]) ?_
                  refine lv_istore (lv' := [(5, .int v22), (4, .int (nI k133)), (3, .int (nI go)), (2, .int (nI p4_2)), (0, .ref (B 0)), (1, .int k)]) hx hb d_Mo_enter_146 hl (by decide) rfl (fun ls hl => ?_)
                  refine lv_aload_n hx hb d_Mo_enter_148 rfl (lv_at hl 4 rfl) ?_
                  refine gw_get (ci := 5) (fs := [.int cdo21, .int (nI lm), .int sm, .int E, .ref (B 1), .ref (B 2), .int (nI (sz + 1)), .ref (B 3), .ref (B 4), .ref (B 5), .ref (B 6), .int (nI jb), .int mko21, .ref (B 7), .int (nI w133_dr)]) hx hb hts in_Mo hown hE.K hW hf_0 rfl 2 (by decide) (hts _ mw245) (fun _ h9 => h9) rfl d_Mo_enter_149 ?_
                  refine lv_if_eq (tgt := 166) hx hb d_Mo_enter_152 (by decide) (fun c152 => ?_) (fun c152 => ?_)
                  · refine lv_aload_n hx hb d_Mo_enter_166 rfl (lv_at hl 4 rfl) ?_
                    refine lv_iload hx hb d_Mo_enter_167 (lv_at hl 0 rfl) ?_
                    refine lv_iconst (v := 4) hx hb d_Mo_enter_169 (by decide) ?_
                    refine gw_callv hS (va_runV (As := [.int v22, .int 4]) (rest := []) ⟨hx, hb, hml, hown, hts⟩ (m_become l G M9 B lm sm E jb (sz + 1) w133_dr hX v22 4  hv22) (cwV 2 hts (gw_gv mw240 mw241 mw242 mw228 mw239) rfl rfl rfl (by decide +kernel) ⟨Nat.le_of_ble_eq_true rfl, Nat.le_of_ble_eq_true rfl⟩) (gw_pv hE hB hS hW rfl hf_0) rfl rfl hl.1 rfl (lv_room (Nat.le_of_ble_eq_true rfl)) d_Mo_enter_170 ⟨Nat.le_of_ble_eq_true rfl, Nat.le_of_ble_eq_true rfl⟩) (fun M24 H locs hw25 hW hS => ?_)
                    obtain ⟨hX, hfr26⟩ := hw25
                    have hF27 : gw_fg (gw_out [100, 101, 102, 103, 104, 105, 106, 107]) M M24 := gw_fg.tr hF (gw_fg.wk hfr26 (by decide))
                    clear hfr26
                    refine lv_aload_n hx hb d_Mo_enter_173 rfl (lv_at hl 4 rfl) ?_
                    obtain ⟨cdo28, mko28, f1o28, f2o28, f3o28, f4o28, f5o28, f6o28, f7o28, hf_0, hf_1, hf_2, hf_3, hf_4, hf_5, hf_6, hf_7, hk2o28, hk3o28, hk4o28, -, -⟩ := id hX
                    refine gw_get (ci := 5) (fs := [.int cdo28, .int (nI lm), .int sm, .int E, .ref (B 1), .ref (B 2), .int (nI (sz + 1)), .ref (B 3), .ref (B 4), .ref (B 5), .ref (B 6), .int (nI jb), .int mko28, .ref (B 7), .int (nI w133_dr)]) hx hb hts in_Mo hown hE.K hW hf_0 rfl 13 (by decide) (hts _ mw246) (fun _ h9 => h9) rfl d_Mo_enter_174 ?_
                    refine lv_aload_n hx hb d_Mo_enter_177 rfl (lv_at hl 4 rfl) ?_
                    refine gw_get (ci := 5) (fs := [.int cdo28, .int (nI lm), .int sm, .int E, .ref (B 1), .ref (B 2), .int (nI (sz + 1)), .ref (B 3), .ref (B 4), .ref (B 5), .ref (B 6), .int (nI jb), .int mko28, .ref (B 7), .int (nI w133_dr)]) hx hb hts in_Mo hown hE.K hW hf_0 rfl 14 (by decide) (hts _ mw247) (fun _ h9 => h9) rfl d_Mo_enter_178 ?_
                    refine lv_iload hx hb d_Mo_enter_181 (lv_at hl 0 rfl) ?_
                    refine gw_iast (i := nI w133_dr) (x := v22) hx hb hE.K hW hS 0 hf_7 rfl (vp_in_nI (by omega) (by omega)) d_Mo_enter_183 (fun H locs hW hS => ?_)
                    have hXn : gm_X G B lm sm E jb (sz + 1) w133_dr (gw_up M24 (B 7) 107 (.inl (G.2.1 0, 2048, .inl (upd f7o28 (nI w133_dr : Int32).toNatClampNeg v22)))) := hX.up107 hf_7
                    have hF29 : gw_fg (gw_out [100, 101, 102, 103, 104, 105, 106, 107]) M (gw_up M24 (B 7) 107 (.inl (G.2.1 0, 2048, .inl (upd f7o28 (nI w133_dr : Int32).toNatClampNeg v22)))) := gw_fg.up hF27 hf_7 (show ¬ ((gw_out [100, 101, 102, 103, 104, 105, 106, 107]) 107) by decide) (show ¬ ((gw_out [100, 101, 102, 103, 104, 105, 106, 107]) 107) by decide)
                    obtain ⟨M30, eM30⟩ : ∃ z, z = gw_up M24 (B 7) 107 (.inl (G.2.1 0, 2048, .inl (upd f7o28 (nI w133_dr : Int32).toNatClampNeg v22))) := ⟨_, rfl⟩
                    replace hW : gw_P G.1 vwCl G.2.2.2 M30 H := by rw [eM30]; exact hW
                    have hf_0 : M30 (B 0) = some (100, .inr (5, [.int cdo28, .int (nI lm), .int sm, .int E, .ref (B 1), .ref (B 2), .int (nI (sz + 1)), .ref (B 3), .ref (B 4), .ref (B 5), .ref (B 6), .int (nI jb), .int mko28, .ref (B 7), .int (nI w133_dr)])) := by rw [eM30]; exact gw_keep hf_0 hf_7 (by decide)
                    have hf_1 : M30 (B 1) = some (101, .inl (G.2.1 0, 10000, .inl f1o28)) := by rw [eM30]; exact gw_keep hf_1 hf_7 (by decide)
                    have hf_2 : M30 (B 2) = some (102, .inl (G.2.1 0, 300, .inl f2o28)) := by rw [eM30]; exact gw_keep hf_2 hf_7 (by decide)
                    have hf_3 : M30 (B 3) = some (103, .inl (G.2.1 0, 10240, .inl f3o28)) := by rw [eM30]; exact gw_keep hf_3 hf_7 (by decide)
                    have hf_4 : M30 (B 4) = some (104, .inl (G.2.1 0, 41, .inl f4o28)) := by rw [eM30]; exact gw_keep hf_4 hf_7 (by decide)
                    have hf_5 : M30 (B 5) = some (105, .inl (G.2.1 0, 41, .inl f5o28)) := by rw [eM30]; exact gw_keep hf_5 hf_7 (by decide)
                    have hf_6 : M30 (B 6) = some (106, .inl (G.2.1 0, 4100, .inl f6o28)) := by rw [eM30]; exact gw_keep hf_6 hf_7 (by decide)
                    have hf_7 : M30 (B 7) = some (107, .inl (G.2.1 0, 2048, .inl (upd f7o28 (nI w133_dr : Int32).toNatClampNeg v22))) := by rw [eM30]; exact gw_up_self _ _ _ _
                    rw [← eM30] at hF29
                    rw [← eM30] at hXn
                    replace hX := hXn
                    clear hXn
                    refine lv_aload_n hx hb d_Mo_enter_184 rfl (lv_at hl 4 rfl) ?_
                    refine lv_dup hx hb d_Mo_enter_185 rfl ?_
                    refine gw_get (ci := 5) (fs := [.int cdo28, .int (nI lm), .int sm, .int E, .ref (B 1), .ref (B 2), .int (nI (sz + 1)), .ref (B 3), .ref (B 4), .ref (B 5), .ref (B 6), .int (nI jb), .int mko28, .ref (B 7), .int (nI w133_dr)]) hx hb hts in_Mo hown hE.K hW hf_0 rfl 14 (by decide) (hts _ mw247) (fun _ h9 => h9) rfl d_Mo_enter_186 ?_
                    refine lv_iconst (v := 1) hx hb d_Mo_enter_189 (by decide) ?_
                    refine lv_iadd hx hb d_Mo_enter_190 ?_
                    refine W.eq (g2 := F0 m 191 ls [.int (nI (w133_dr + 1)), .ref (B 0)]) (by rw [nI_1]) ?_
                    refine gw_put (ci := 5) (fs := [.int cdo28, .int (nI lm), .int sm, .int E, .ref (B 1), .ref (B 2), .int (nI (sz + 1)), .ref (B 3), .ref (B 4), .ref (B 5), .ref (B 6), .int (nI jb), .int mko28, .ref (B 7), .int (nI w133_dr)]) (v := .int (nI (w133_dr + 1))) (ty := .int) hx hb hts in_Mo t_Mo t_Mo_ok n_Mo hown hE.K hW hS hf_0 rfl 14 (by decide) (hts _ mw247) (fun _ h9 => h9) rfl (by decide +kernel) rfl rfl (Nat.le_of_ble_eq_true rfl) d_Mo_enter_191 (fun H locs hW hS => ?_)
                    have hXn : gm_X G B lm sm E jb (sz + 1) (w133_dr + 1) (gw_up M30 (B 0) 100 (.inr (5, [.int cdo28, .int (nI lm), .int sm, .int E, .ref (B 1), .ref (B 2), .int (nI (sz + 1)), .ref (B 3), .ref (B 4), .ref (B 5), .ref (B 6), .int (nI jb), .int mko28, .ref (B 7), .int (nI (w133_dr + 1))]))) := hX.up100 hf_0 (by omega)
                    have hF31 : gw_fg (gw_out [100, 101, 102, 103, 104, 105, 106, 107]) M (gw_up M30 (B 0) 100 (.inr (5, [.int cdo28, .int (nI lm), .int sm, .int E, .ref (B 1), .ref (B 2), .int (nI (sz + 1)), .ref (B 3), .ref (B 4), .ref (B 5), .ref (B 6), .int (nI jb), .int mko28, .ref (B 7), .int (nI (w133_dr + 1))]))) := gw_fg.up hF29 hf_0 (show ¬ ((gw_out [100, 101, 102, 103, 104, 105, 106, 107]) 100) by decide) (show ¬ ((gw_out [100, 101, 102, 103, 104, 105, 106, 107]) 100) by decide)
                    obtain ⟨M32, eM32⟩ : ∃ z, z = gw_up M30 (B 0) 100 (.inr (5, [.int cdo28, .int (nI lm), .int sm, .int E, .ref (B 1), .ref (B 2), .int (nI (sz + 1)), .ref (B 3), .ref (B 4), .ref (B 5), .ref (B 6), .int (nI jb), .int mko28, .ref (B 7), .int (nI (w133_dr + 1))])) := ⟨_, rfl⟩
                    replace hW : gw_P G.1 vwCl G.2.2.2 M32 H := by rw [eM32]; exact hW
                    have hf_1 : M32 (B 1) = some (101, .inl (G.2.1 0, 10000, .inl f1o28)) := by rw [eM32]; exact gw_keep hf_1 hf_0 (by decide)
                    have hf_2 : M32 (B 2) = some (102, .inl (G.2.1 0, 300, .inl f2o28)) := by rw [eM32]; exact gw_keep hf_2 hf_0 (by decide)
                    have hf_3 : M32 (B 3) = some (103, .inl (G.2.1 0, 10240, .inl f3o28)) := by rw [eM32]; exact gw_keep hf_3 hf_0 (by decide)
                    have hf_4 : M32 (B 4) = some (104, .inl (G.2.1 0, 41, .inl f4o28)) := by rw [eM32]; exact gw_keep hf_4 hf_0 (by decide)
                    have hf_5 : M32 (B 5) = some (105, .inl (G.2.1 0, 41, .inl f5o28)) := by rw [eM32]; exact gw_keep hf_5 hf_0 (by decide)
                    have hf_6 : M32 (B 6) = some (106, .inl (G.2.1 0, 4100, .inl f6o28)) := by rw [eM32]; exact gw_keep hf_6 hf_0 (by decide)
                    have hf_7 : M32 (B 7) = some (107, .inl (G.2.1 0, 2048, .inl (upd f7o28 (nI w133_dr : Int32).toNatClampNeg v22))) := by rw [eM32]; exact gw_keep hf_7 hf_0 (by decide)
                    have hf_0 : M32 (B 0) = some (100, .inr (5, [.int cdo28, .int (nI lm), .int sm, .int E, .ref (B 1), .ref (B 2), .int (nI (sz + 1)), .ref (B 3), .ref (B 4), .ref (B 5), .ref (B 6), .int (nI jb), .int mko28, .ref (B 7), .int (nI (w133_dr + 1))])) := by rw [eM32]; exact gw_up_self _ _ _ _
                    rw [← eM32] at hF31
                    rw [← eM32] at hXn
                    replace hX := hXn
                    clear hXn
                    refine lv_iinc (v := (nI k133) + 1) (lv' := [(4, .int ((nI k133) + 1)), (5, .int v22), (3, .int (nI go)), (2, .int (nI p4_2)), (0, .ref (B 0)), (1, .int k)]) hx hb d_Mo_enter_194 hl (k := 1) rfl rfl (by decide) rfl (fun ls hl => ?_)
                    refine lv_goto (tgt := 133) hx hb d_Mo_enter_197 (by decide) ?_
                    rw [nI_1] at hl
                    apply ih133 (ls := ls) (k133 := k133 + 1) (H := H) (locs := locs) (M9 := M32) (w133_dr := w133_dr + 1) <;> first | exact lv_sub hl [0, 2, 3, 4, 5] rfl | exact hX | exact hW | exact hS | exact hF31 | omega | assumption
                  · refine lv_aload_n hx hb d_Mo_enter_155 rfl (lv_at hl 4 rfl) ?_
                    refine gw_get (ci := 5) (fs := [.int cdo21, .int (nI lm), .int sm, .int E, .ref (B 1), .ref (B 2), .int (nI (sz + 1)), .ref (B 3), .ref (B 4), .ref (B 5), .ref (B 6), .int (nI jb), .int mko21, .ref (B 7), .int (nI w133_dr)]) hx hb hts in_Mo hown hE.K hW hf_0 rfl 4 (by decide) (hts _ mw223) (fun _ h9 => h9) rfl d_Mo_enter_156 ?_
                    refine lv_iload hx hb d_Mo_enter_159 (lv_at hl 0 rfl) ?_
                    refine lv_iconst (v := 0) hx hb d_Mo_enter_161 (by decide) ?_
                    refine gw_iast (i := v22) (x := 0) hx hb hE.K hW hS 0 hf_1 rfl (gm_in hv22) d_Mo_enter_162 (fun H locs hW hS => ?_)
                    have hXn : gm_X G B lm sm E jb (sz + 1) w133_dr (gw_up M9 (B 1) 101 (.inl (G.2.1 0, 10000, .inl (upd f1o21 (v22 : Int32).toNatClampNeg 0)))) := hX.up101 hf_1
                    have hF33 : gw_fg (gw_out [100, 101, 102, 103, 104, 105, 106, 107]) M (gw_up M9 (B 1) 101 (.inl (G.2.1 0, 10000, .inl (upd f1o21 (v22 : Int32).toNatClampNeg 0)))) := gw_fg.up hF hf_1 (show ¬ ((gw_out [100, 101, 102, 103, 104, 105, 106, 107]) 101) by decide) (show ¬ ((gw_out [100, 101, 102, 103, 104, 105, 106, 107]) 101) by decide)
                    obtain ⟨M34, eM34⟩ : ∃ z, z = gw_up M9 (B 1) 101 (.inl (G.2.1 0, 10000, .inl (upd f1o21 (v22 : Int32).toNatClampNeg 0))) := ⟨_, rfl⟩
                    replace hW : gw_P G.1 vwCl G.2.2.2 M34 H := by rw [eM34]; exact hW
                    have hf_0 : M34 (B 0) = some (100, .inr (5, [.int cdo21, .int (nI lm), .int sm, .int E, .ref (B 1), .ref (B 2), .int (nI (sz + 1)), .ref (B 3), .ref (B 4), .ref (B 5), .ref (B 6), .int (nI jb), .int mko21, .ref (B 7), .int (nI w133_dr)])) := by rw [eM34]; exact gw_keep hf_0 hf_1 (by decide)
                    have hf_2 : M34 (B 2) = some (102, .inl (G.2.1 0, 300, .inl f2o21)) := by rw [eM34]; exact gw_keep hf_2 hf_1 (by decide)
                    have hf_3 : M34 (B 3) = some (103, .inl (G.2.1 0, 10240, .inl f3o21)) := by rw [eM34]; exact gw_keep hf_3 hf_1 (by decide)
                    have hf_4 : M34 (B 4) = some (104, .inl (G.2.1 0, 41, .inl f4o21)) := by rw [eM34]; exact gw_keep hf_4 hf_1 (by decide)
                    have hf_5 : M34 (B 5) = some (105, .inl (G.2.1 0, 41, .inl f5o21)) := by rw [eM34]; exact gw_keep hf_5 hf_1 (by decide)
                    have hf_6 : M34 (B 6) = some (106, .inl (G.2.1 0, 4100, .inl f6o21)) := by rw [eM34]; exact gw_keep hf_6 hf_1 (by decide)
                    have hf_7 : M34 (B 7) = some (107, .inl (G.2.1 0, 2048, .inl f7o21)) := by rw [eM34]; exact gw_keep hf_7 hf_1 (by decide)
                    have hf_1 : M34 (B 1) = some (101, .inl (G.2.1 0, 10000, .inl (upd f1o21 (v22 : Int32).toNatClampNeg 0))) := by rw [eM34]; exact gw_up_self _ _ _ _
                    rw [← eM34] at hF33
                    rw [← eM34] at hXn
                    replace hX := hXn
                    clear hXn
                    refine lv_goto (tgt := 173) hx hb d_Mo_enter_163 (by decide) ?_
                    refine lv_aload_n hx hb d_Mo_enter_173 rfl (lv_at hl 4 rfl) ?_
                    refine gw_get (ci := 5) (fs := [.int cdo21, .int (nI lm), .int sm, .int E, .ref (B 1), .ref (B 2), .int (nI (sz + 1)), .ref (B 3), .ref (B 4), .ref (B 5), .ref (B 6), .int (nI jb), .int mko21, .ref (B 7), .int (nI w133_dr)]) hx hb hts in_Mo hown hE.K hW hf_0 rfl 13 (by decide) (hts _ mw246) (fun _ h9 => h9) rfl d_Mo_enter_174 ?_
                    refine lv_aload_n hx hb d_Mo_enter_177 rfl (lv_at hl 4 rfl) ?_
                    refine gw_get (ci := 5) (fs := [.int cdo21, .int (nI lm), .int sm, .int E, .ref (B 1), .ref (B 2), .int (nI (sz + 1)), .ref (B 3), .ref (B 4), .ref (B 5), .ref (B 6), .int (nI jb), .int mko21, .ref (B 7), .int (nI w133_dr)]) hx hb hts in_Mo hown hE.K hW hf_0 rfl 14 (by decide) (hts _ mw247) (fun _ h9 => h9) rfl d_Mo_enter_178 ?_
                    refine lv_iload hx hb d_Mo_enter_181 (lv_at hl 0 rfl) ?_
                    refine gw_iast (i := nI w133_dr) (x := v22) hx hb hE.K hW hS 0 hf_7 rfl (vp_in_nI (by omega) (by omega)) d_Mo_enter_183 (fun H locs hW hS => ?_)
                    have hXn : gm_X G B lm sm E jb (sz + 1) w133_dr (gw_up M34 (B 7) 107 (.inl (G.2.1 0, 2048, .inl (upd f7o21 (nI w133_dr : Int32).toNatClampNeg v22)))) := hX.up107 hf_7
                    have hF35 : gw_fg (gw_out [100, 101, 102, 103, 104, 105, 106, 107]) M (gw_up M34 (B 7) 107 (.inl (G.2.1 0, 2048, .inl (upd f7o21 (nI w133_dr : Int32).toNatClampNeg v22)))) := gw_fg.up hF33 hf_7 (show ¬ ((gw_out [100, 101, 102, 103, 104, 105, 106, 107]) 107) by decide) (show ¬ ((gw_out [100, 101, 102, 103, 104, 105, 106, 107]) 107) by decide)
                    obtain ⟨M36, eM36⟩ : ∃ z, z = gw_up M34 (B 7) 107 (.inl (G.2.1 0, 2048, .inl (upd f7o21 (nI w133_dr : Int32).toNatClampNeg v22))) := ⟨_, rfl⟩
                    replace hW : gw_P G.1 vwCl G.2.2.2 M36 H := by rw [eM36]; exact hW
                    have hf_0 : M36 (B 0) = some (100, .inr (5, [.int cdo21, .int (nI lm), .int sm, .int E, .ref (B 1), .ref (B 2), .int (nI (sz + 1)), .ref (B 3), .ref (B 4), .ref (B 5), .ref (B 6), .int (nI jb), .int mko21, .ref (B 7), .int (nI w133_dr)])) := by rw [eM36]; exact gw_keep hf_0 hf_7 (by decide)
                    have hf_2 : M36 (B 2) = some (102, .inl (G.2.1 0, 300, .inl f2o21)) := by rw [eM36]; exact gw_keep hf_2 hf_7 (by decide)
                    have hf_3 : M36 (B 3) = some (103, .inl (G.2.1 0, 10240, .inl f3o21)) := by rw [eM36]; exact gw_keep hf_3 hf_7 (by decide)
                    have hf_4 : M36 (B 4) = some (104, .inl (G.2.1 0, 41, .inl f4o21)) := by rw [eM36]; exact gw_keep hf_4 hf_7 (by decide)
                    have hf_5 : M36 (B 5) = some (105, .inl (G.2.1 0, 41, .inl f5o21)) := by rw [eM36]; exact gw_keep hf_5 hf_7 (by decide)
                    have hf_6 : M36 (B 6) = some (106, .inl (G.2.1 0, 4100, .inl f6o21)) := by rw [eM36]; exact gw_keep hf_6 hf_7 (by decide)
                    have hf_1 : M36 (B 1) = some (101, .inl (G.2.1 0, 10000, .inl (upd f1o21 (v22 : Int32).toNatClampNeg 0))) := by rw [eM36]; exact gw_keep hf_1 hf_7 (by decide)
                    have hf_7 : M36 (B 7) = some (107, .inl (G.2.1 0, 2048, .inl (upd f7o21 (nI w133_dr : Int32).toNatClampNeg v22))) := by rw [eM36]; exact gw_up_self _ _ _ _
                    rw [← eM36] at hF35
                    rw [← eM36] at hXn
                    replace hX := hXn
                    clear hXn
                    refine lv_aload_n hx hb d_Mo_enter_184 rfl (lv_at hl 4 rfl) ?_
                    refine lv_dup hx hb d_Mo_enter_185 rfl ?_
                    refine gw_get (ci := 5) (fs := [.int cdo21, .int (nI lm), .int sm, .int E, .ref (B 1), .ref (B 2), .int (nI (sz + 1)), .ref (B 3), .ref (B 4), .ref (B 5), .ref (B 6), .int (nI jb), .int mko21, .ref (B 7), .int (nI w133_dr)]) hx hb hts in_Mo hown hE.K hW hf_0 rfl 14 (by decide) (hts _ mw247) (fun _ h9 => h9) rfl d_Mo_enter_186 ?_
                    refine lv_iconst (v := 1) hx hb d_Mo_enter_189 (by decide) ?_
                    refine lv_iadd hx hb d_Mo_enter_190 ?_
                    refine W.eq (g2 := F0 m 191 ls [.int (nI (w133_dr + 1)), .ref (B 0)]) (by rw [nI_1]) ?_
                    refine gw_put (ci := 5) (fs := [.int cdo21, .int (nI lm), .int sm, .int E, .ref (B 1), .ref (B 2), .int (nI (sz + 1)), .ref (B 3), .ref (B 4), .ref (B 5), .ref (B 6), .int (nI jb), .int mko21, .ref (B 7), .int (nI w133_dr)]) (v := .int (nI (w133_dr + 1))) (ty := .int) hx hb hts in_Mo t_Mo t_Mo_ok n_Mo hown hE.K hW hS hf_0 rfl 14 (by decide) (hts _ mw247) (fun _ h9 => h9) rfl (by decide +kernel) rfl rfl (Nat.le_of_ble_eq_true rfl) d_Mo_enter_191 (fun H locs hW hS => ?_)
                    have hXn : gm_X G B lm sm E jb (sz + 1) (w133_dr + 1) (gw_up M36 (B 0) 100 (.inr (5, [.int cdo21, .int (nI lm), .int sm, .int E, .ref (B 1), .ref (B 2), .int (nI (sz + 1)), .ref (B 3), .ref (B 4), .ref (B 5), .ref (B 6), .int (nI jb), .int mko21, .ref (B 7), .int (nI (w133_dr + 1))]))) := hX.up100 hf_0 (by omega)
                    have hF37 : gw_fg (gw_out [100, 101, 102, 103, 104, 105, 106, 107]) M (gw_up M36 (B 0) 100 (.inr (5, [.int cdo21, .int (nI lm), .int sm, .int E, .ref (B 1), .ref (B 2), .int (nI (sz + 1)), .ref (B 3), .ref (B 4), .ref (B 5), .ref (B 6), .int (nI jb), .int mko21, .ref (B 7), .int (nI (w133_dr + 1))]))) := gw_fg.up hF35 hf_0 (show ¬ ((gw_out [100, 101, 102, 103, 104, 105, 106, 107]) 100) by decide) (show ¬ ((gw_out [100, 101, 102, 103, 104, 105, 106, 107]) 100) by decide)
                    obtain ⟨M38, eM38⟩ : ∃ z, z = gw_up M36 (B 0) 100 (.inr (5, [.int cdo21, .int (nI lm), .int sm, .int E, .ref (B 1), .ref (B 2), .int (nI (sz + 1)), .ref (B 3), .ref (B 4), .ref (B 5), .ref (B 6), .int (nI jb), .int mko21, .ref (B 7), .int (nI (w133_dr + 1))])) := ⟨_, rfl⟩
                    replace hW : gw_P G.1 vwCl G.2.2.2 M38 H := by rw [eM38]; exact hW
                    have hf_2 : M38 (B 2) = some (102, .inl (G.2.1 0, 300, .inl f2o21)) := by rw [eM38]; exact gw_keep hf_2 hf_0 (by decide)
                    have hf_3 : M38 (B 3) = some (103, .inl (G.2.1 0, 10240, .inl f3o21)) := by rw [eM38]; exact gw_keep hf_3 hf_0 (by decide)
                    have hf_4 : M38 (B 4) = some (104, .inl (G.2.1 0, 41, .inl f4o21)) := by rw [eM38]; exact gw_keep hf_4 hf_0 (by decide)
                    have hf_5 : M38 (B 5) = some (105, .inl (G.2.1 0, 41, .inl f5o21)) := by rw [eM38]; exact gw_keep hf_5 hf_0 (by decide)
                    have hf_6 : M38 (B 6) = some (106, .inl (G.2.1 0, 4100, .inl f6o21)) := by rw [eM38]; exact gw_keep hf_6 hf_0 (by decide)
                    have hf_1 : M38 (B 1) = some (101, .inl (G.2.1 0, 10000, .inl (upd f1o21 (v22 : Int32).toNatClampNeg 0))) := by rw [eM38]; exact gw_keep hf_1 hf_0 (by decide)
                    have hf_7 : M38 (B 7) = some (107, .inl (G.2.1 0, 2048, .inl (upd f7o21 (nI w133_dr : Int32).toNatClampNeg v22))) := by rw [eM38]; exact gw_keep hf_7 hf_0 (by decide)
                    have hf_0 : M38 (B 0) = some (100, .inr (5, [.int cdo21, .int (nI lm), .int sm, .int E, .ref (B 1), .ref (B 2), .int (nI (sz + 1)), .ref (B 3), .ref (B 4), .ref (B 5), .ref (B 6), .int (nI jb), .int mko21, .ref (B 7), .int (nI (w133_dr + 1))])) := by rw [eM38]; exact gw_up_self _ _ _ _
                    rw [← eM38] at hF37
                    rw [← eM38] at hXn
                    replace hX := hXn
                    clear hXn
                    refine lv_iinc (v := (nI k133) + 1) (lv' := [(4, .int ((nI k133) + 1)), (5, .int v22), (3, .int (nI go)), (2, .int (nI p4_2)), (0, .ref (B 0)), (1, .int k)]) hx hb d_Mo_enter_194 hl (k := 1) rfl rfl (by decide) rfl (fun ls hl => ?_)
                    refine lv_goto (tgt := 133) hx hb d_Mo_enter_197 (by decide) ?_
                    rw [nI_1] at hl
                    apply ih133 (ls := ls) (k133 := k133 + 1) (H := H) (locs := locs) (M9 := M38) (w133_dr := w133_dr + 1) <;> first | exact lv_sub hl [0, 2, 3, 4, 5] rfl | exact hX | exact hW | exact hS | exact hF37 | omega | assumption
            · refine lv_aload_n hx hb d_Mo_enter_111 rfl (lv_at hl 2 rfl) ?_
              refine gw_get (ci := 5) (fs := [.int cdo13, .int (nI lm), .int sm, .int E, .ref (B 1), .ref (B 2), .int (nI (sz + 1)), .ref (B 3), .ref (B 4), .ref (B 5), .ref (B 6), .int (nI jb), .int mko13, .ref (B 7), .int (nI dr)]) hx hb hts in_Mo hown hE.K hW hf_0 rfl 6 (by decide) (hts _ mw237) (fun _ h9 => h9) rfl d_Mo_enter_112 ?_
              refine lv_iconst (v := 1) hx hb d_Mo_enter_115 (by decide) ?_
              refine lv_isub hx hb d_Mo_enter_116 ?_
              refine lv_goto (tgt := 129) hx hb d_Mo_enter_117 (by decide) ?_
              obtain ⟨go, hg1, hg2, hg3, hgo⟩ : ∃ z : Nat, 1 ≤ z ∧ z ≤ sz + 1 ∧ sz + 1 - z ≤ lm ∧ (nI (sz + 1)) - 1 = nI z := ⟨sz, by omega, by omega, by omega, by rw [nI_pred]⟩
              refine W.eq (g2 := F0 m 129 ls [.int (nI go)]) (by rw [hgo]) ?_
              refine lv_istore_n (lv' := [(3, .int (nI go)), (2, .int (nI p4_2)), (0, .ref (B 0)), (1, .int k)]) hx hb d_Mo_enter_129 rfl hl (by decide) rfl (fun ls hl => ?_)
              refine lv_iconst (v := 0) hx hb d_Mo_enter_130 (by decide) ?_
              refine lv_istore (lv' := [(4, .int 0), (3, .int (nI go)), (2, .int (nI p4_2)), (0, .ref (B 0)), (1, .int k)]) hx hb d_Mo_enter_131 hl (by decide) rfl (fun ls hl => ?_)
              obtain ⟨k133, ek133⟩ : ∃ z : Nat, z = 0 := ⟨_, rfl⟩
              replace hl : lv_has ls 6 [(4, .int (nI k133)), (3, .int (nI go)), (2, .int (nI p4_2)), (0, .ref (B 0)), (1, .int k)] := by subst ek133; exact lv_sub hl [0, 1, 2, 3, 4] rfl
              obtain ⟨w133_dr, ew133_dr⟩ : ∃ z : Nat, z = dr := ⟨_, rfl⟩
              replace hX : gm_X G B lm sm E jb (sz + 1) w133_dr M9 := by rw [ew133_dr]; exact hX
              have hk133 : k133 ≤ go ∧ w133_dr = dr + k133 := by omega
              clear ek133 ew133_dr
              clear hf_0 hf_1 hf_2 hf_3 hf_4 hf_5 hf_6 hf_7
              try clear eM9
              have hF := hF12
              clear hF12
              obtain ⟨n133, hn133⟩ : ∃ z : Nat, go - k133 < z := ⟨_, Nat.lt_succ_self _⟩
              induction n133 generalizing k133 ls H locs M9 w133_dr with
              | zero => exact absurd hn133 (Nat.not_lt_zero _)
              | succ n133 ih133 =>
                refine lv_iload hx hb d_Mo_enter_133 (lv_at hl 0 rfl) ?_
                refine lv_iload_n hx hb d_Mo_enter_135 rfl (lv_at hl 1 rfl) ?_
                refine lv_icmp_ge (tgt := 200) hx hb d_Mo_enter_136 (by decide) (fun c136 => ?_) (fun c136 => ?_)
                · have hge := (nI_leI (by omega) (by omega)).mp c136
                  refine lv_iload_n hx hb d_Mo_enter_200 rfl (lv_at hl 1 rfl) ?_
                  refine lv_istore (lv' := [(4, .int (nI go)), (3, .int (nI go)), (2, .int (nI p4_2)), (0, .ref (B 0)), (1, .int k)]) hx hb d_Mo_enter_201 hl (by decide) rfl (fun ls hl => ?_)
                  obtain ⟨k203, ek203⟩ : ∃ z : Nat, z = go := ⟨_, rfl⟩
                  replace hl : lv_has ls 6 [(4, .int (nI k203)), (3, .int (nI go)), (2, .int (nI p4_2)), (0, .ref (B 0)), (1, .int k)] := by subst ek203; exact lv_sub hl [0, 1, 2, 3, 4] rfl
                  have hk203 : go ≤ k203 ∧ k203 ≤ sz + 1 := by omega
                  clear ek203
                  try clear eM9
                  obtain ⟨n203, hn203⟩ : ∃ z : Nat, sz + 1 - k203 < z := ⟨_, Nat.lt_succ_self _⟩
                  induction n203 generalizing k203 ls H locs M9 with
                  | zero => exact absurd hn203 (Nat.not_lt_zero _)
                  | succ n203 ih203 =>
                    refine lv_iload hx hb d_Mo_enter_203 (lv_at hl 0 rfl) ?_
                    refine lv_aload_n hx hb d_Mo_enter_205 rfl (lv_at hl 3 rfl) ?_
                    obtain ⟨cdo39, mko39, f1o39, f2o39, f3o39, f4o39, f5o39, f6o39, f7o39, hf_0, hf_1, hf_2, hf_3, hf_4, hf_5, hf_6, hf_7, hk2o39, hk3o39, hk4o39, -, -⟩ := id hX
                    refine gw_get (ci := 5) (fs := [.int cdo39, .int (nI lm), .int sm, .int E, .ref (B 1), .ref (B 2), .int (nI (sz + 1)), .ref (B 3), .ref (B 4), .ref (B 5), .ref (B 6), .int (nI jb), .int mko39, .ref (B 7), .int (nI w133_dr)]) hx hb hts in_Mo hown hE.K hW hf_0 rfl 6 (by decide) (hts _ mw237) (fun _ h9 => h9) rfl d_Mo_enter_206 ?_
                    refine lv_icmp_ge (tgt := 234) hx hb d_Mo_enter_209 (by decide) (fun c209 => ?_) (fun c209 => ?_)
                    · refine lv_aload_n hx hb d_Mo_enter_234 rfl (lv_at hl 3 rfl) ?_
                      refine lv_dup hx hb d_Mo_enter_235 rfl ?_
                      refine gw_get (ci := 5) (fs := [.int cdo39, .int (nI lm), .int sm, .int E, .ref (B 1), .ref (B 2), .int (nI (sz + 1)), .ref (B 3), .ref (B 4), .ref (B 5), .ref (B 6), .int (nI jb), .int mko39, .ref (B 7), .int (nI w133_dr)]) hx hb hts in_Mo hown hE.K hW hf_0 rfl 6 (by decide) (hts _ mw237) (fun _ h9 => h9) rfl d_Mo_enter_236 ?_
                      refine lv_iload_n hx hb d_Mo_enter_239 rfl (lv_at hl 1 rfl) ?_
                      refine lv_isub hx hb d_Mo_enter_240 ?_
                      refine W.eq (g2 := F0 m 241 ls [.int (nI (sz + 1 - go)), .ref (B 0)]) (by rw [pk_sub (by omega)]) ?_
                      refine gw_put (ci := 5) (fs := [.int cdo39, .int (nI lm), .int sm, .int E, .ref (B 1), .ref (B 2), .int (nI (sz + 1)), .ref (B 3), .ref (B 4), .ref (B 5), .ref (B 6), .int (nI jb), .int mko39, .ref (B 7), .int (nI w133_dr)]) (v := .int (nI (sz + 1 - go))) (ty := .int) hx hb hts in_Mo t_Mo t_Mo_ok n_Mo hown hE.K hW hS hf_0 rfl 6 (by decide) (hts _ mw237) (fun _ h9 => h9) rfl (by decide +kernel) rfl rfl (Nat.le_of_ble_eq_true rfl) d_Mo_enter_241 (fun H locs hW hS => ?_)
                      have hXn : gm_X G B lm sm E jb (sz + 1 - go) w133_dr (gw_up M9 (B 0) 100 (.inr (5, [.int cdo39, .int (nI lm), .int sm, .int E, .ref (B 1), .ref (B 2), .int (nI (sz + 1 - go)), .ref (B 3), .ref (B 4), .ref (B 5), .ref (B 6), .int (nI jb), .int mko39, .ref (B 7), .int (nI w133_dr)]))) := hX.up100 hf_0 (by omega)
                      have hF40 : gw_fg (gw_out [100, 101, 102, 103, 104, 105, 106, 107]) M (gw_up M9 (B 0) 100 (.inr (5, [.int cdo39, .int (nI lm), .int sm, .int E, .ref (B 1), .ref (B 2), .int (nI (sz + 1 - go)), .ref (B 3), .ref (B 4), .ref (B 5), .ref (B 6), .int (nI jb), .int mko39, .ref (B 7), .int (nI w133_dr)]))) := gw_fg.up hF hf_0 (show ¬ ((gw_out [100, 101, 102, 103, 104, 105, 106, 107]) 100) by decide) (show ¬ ((gw_out [100, 101, 102, 103, 104, 105, 106, 107]) 100) by decide)
                      obtain ⟨M41, eM41⟩ : ∃ z, z = gw_up M9 (B 0) 100 (.inr (5, [.int cdo39, .int (nI lm), .int sm, .int E, .ref (B 1), .ref (B 2), .int (nI (sz + 1 - go)), .ref (B 3), .ref (B 4), .ref (B 5), .ref (B 6), .int (nI jb), .int mko39, .ref (B 7), .int (nI w133_dr)])) := ⟨_, rfl⟩
                      replace hW : gw_P G.1 vwCl G.2.2.2 M41 H := by rw [eM41]; exact hW
                      have hf_1 : M41 (B 1) = some (101, .inl (G.2.1 0, 10000, .inl f1o39)) := by rw [eM41]; exact gw_keep hf_1 hf_0 (by decide)
                      have hf_2 : M41 (B 2) = some (102, .inl (G.2.1 0, 300, .inl f2o39)) := by rw [eM41]; exact gw_keep hf_2 hf_0 (by decide)
                      have hf_3 : M41 (B 3) = some (103, .inl (G.2.1 0, 10240, .inl f3o39)) := by rw [eM41]; exact gw_keep hf_3 hf_0 (by decide)
                      have hf_4 : M41 (B 4) = some (104, .inl (G.2.1 0, 41, .inl f4o39)) := by rw [eM41]; exact gw_keep hf_4 hf_0 (by decide)
                      have hf_5 : M41 (B 5) = some (105, .inl (G.2.1 0, 41, .inl f5o39)) := by rw [eM41]; exact gw_keep hf_5 hf_0 (by decide)
                      have hf_6 : M41 (B 6) = some (106, .inl (G.2.1 0, 4100, .inl f6o39)) := by rw [eM41]; exact gw_keep hf_6 hf_0 (by decide)
                      have hf_7 : M41 (B 7) = some (107, .inl (G.2.1 0, 2048, .inl f7o39)) := by rw [eM41]; exact gw_keep hf_7 hf_0 (by decide)
                      have hf_0 : M41 (B 0) = some (100, .inr (5, [.int cdo39, .int (nI lm), .int sm, .int E, .ref (B 1), .ref (B 2), .int (nI (sz + 1 - go)), .ref (B 3), .ref (B 4), .ref (B 5), .ref (B 6), .int (nI jb), .int mko39, .ref (B 7), .int (nI w133_dr)])) := by rw [eM41]; exact gw_up_self _ _ _ _
                      rw [← eM41] at hF40
                      rw [← eM41] at hXn
                      replace hX := hXn
                      clear hXn
                      exact gw_vret hx hb hr hlocks hS hW (Nat.le_of_ble_eq_true rfl) (Nat.le_of_ble_eq_true rfl) d_Mo_enter_244 ⟨sz + 1 - go, w133_dr, (by omega), (by omega), hX, hF40⟩
                    · have hlt4 := gx_ltN c209 (by omega) (by omega)
                      refine lv_aload_n hx hb d_Mo_enter_212 rfl (lv_at hl 3 rfl) ?_
                      refine gw_get (ci := 5) (fs := [.int cdo39, .int (nI lm), .int sm, .int E, .ref (B 1), .ref (B 2), .int (nI (sz + 1)), .ref (B 3), .ref (B 4), .ref (B 5), .ref (B 6), .int (nI jb), .int mko39, .ref (B 7), .int (nI w133_dr)]) hx hb hts in_Mo hown hE.K hW hf_0 rfl 5 (by decide) (hts _ mw238) (fun _ h9 => h9) rfl d_Mo_enter_213 ?_
                      refine lv_iload hx hb d_Mo_enter_216 (lv_at hl 0 rfl) ?_
                      refine lv_iload_n hx hb d_Mo_enter_218 rfl (lv_at hl 1 rfl) ?_
                      refine lv_isub hx hb d_Mo_enter_219 ?_
                      refine lv_aload_n hx hb d_Mo_enter_220 rfl (lv_at hl 3 rfl) ?_
                      refine gw_get (ci := 5) (fs := [.int cdo39, .int (nI lm), .int sm, .int E, .ref (B 1), .ref (B 2), .int (nI (sz + 1)), .ref (B 3), .ref (B 4), .ref (B 5), .ref (B 6), .int (nI jb), .int mko39, .ref (B 7), .int (nI w133_dr)]) hx hb hts in_Mo hown hE.K hW hf_0 rfl 5 (by decide) (hts _ mw238) (fun _ h9 => h9) rfl d_Mo_enter_221 ?_
                      refine lv_iload hx hb d_Mo_enter_224 (lv_at hl 0 rfl) ?_
                      refine gw_iald (i := nI k203) hx hb hE.K hW 0 hf_2 rfl (vp_in_nI (by omega) (by omega)) d_Mo_enter_226 ?_
                      obtain ⟨v42, ev42⟩ : ∃ z : Int32, z = f2o39 (nI k203 : Int32).toNatClampNeg := ⟨_, rfl⟩
                      have hv42 : gm_k v42 := by rw [ev42]; exact hk2o39 _
                      refine W.eq (g2 := F0 m 227 ls [.int v42, .int ((nI k203) - (nI go)), .ref (B 2)]) (by rw [ev42]) ?_
                      refine gw_iast (i := (nI k203) - (nI go)) (x := v42) hx hb hE.K hW hS 0 hf_2 rfl (by rw [pk_sub (by omega)]; exact vp_in_nI (by omega) (by omega)) d_Mo_enter_227 (fun H locs hW hS => ?_)
                      have hXn : gm_X G B lm sm E jb (sz + 1) w133_dr (gw_up M9 (B 2) 102 (.inl (G.2.1 0, 300, .inl (upd f2o39 ((nI k203) - (nI go) : Int32).toNatClampNeg v42)))) := hX.up102 hf_2 (gm_upd hk2o39 hv42)
                      have hF43 : gw_fg (gw_out [100, 101, 102, 103, 104, 105, 106, 107]) M (gw_up M9 (B 2) 102 (.inl (G.2.1 0, 300, .inl (upd f2o39 ((nI k203) - (nI go) : Int32).toNatClampNeg v42)))) := gw_fg.up hF hf_2 (show ¬ ((gw_out [100, 101, 102, 103, 104, 105, 106, 107]) 102) by decide) (show ¬ ((gw_out [100, 101, 102, 103, 104, 105, 106, 107]) 102) by decide)
                      obtain ⟨M44, eM44⟩ : ∃ z, z = gw_up M9 (B 2) 102 (.inl (G.2.1 0, 300, .inl (upd f2o39 ((nI k203) - (nI go) : Int32).toNatClampNeg v42))) := ⟨_, rfl⟩
                      replace hW : gw_P G.1 vwCl G.2.2.2 M44 H := by rw [eM44]; exact hW
                      have hf_0 : M44 (B 0) = some (100, .inr (5, [.int cdo39, .int (nI lm), .int sm, .int E, .ref (B 1), .ref (B 2), .int (nI (sz + 1)), .ref (B 3), .ref (B 4), .ref (B 5), .ref (B 6), .int (nI jb), .int mko39, .ref (B 7), .int (nI w133_dr)])) := by rw [eM44]; exact gw_keep hf_0 hf_2 (by decide)
                      have hf_1 : M44 (B 1) = some (101, .inl (G.2.1 0, 10000, .inl f1o39)) := by rw [eM44]; exact gw_keep hf_1 hf_2 (by decide)
                      have hf_3 : M44 (B 3) = some (103, .inl (G.2.1 0, 10240, .inl f3o39)) := by rw [eM44]; exact gw_keep hf_3 hf_2 (by decide)
                      have hf_4 : M44 (B 4) = some (104, .inl (G.2.1 0, 41, .inl f4o39)) := by rw [eM44]; exact gw_keep hf_4 hf_2 (by decide)
                      have hf_5 : M44 (B 5) = some (105, .inl (G.2.1 0, 41, .inl f5o39)) := by rw [eM44]; exact gw_keep hf_5 hf_2 (by decide)
                      have hf_6 : M44 (B 6) = some (106, .inl (G.2.1 0, 4100, .inl f6o39)) := by rw [eM44]; exact gw_keep hf_6 hf_2 (by decide)
                      have hf_7 : M44 (B 7) = some (107, .inl (G.2.1 0, 2048, .inl f7o39)) := by rw [eM44]; exact gw_keep hf_7 hf_2 (by decide)
                      have hf_2 : M44 (B 2) = some (102, .inl (G.2.1 0, 300, .inl (upd f2o39 ((nI k203) - (nI go) : Int32).toNatClampNeg v42))) := by rw [eM44]; exact gw_up_self _ _ _ _
                      rw [← eM44] at hF43
                      rw [← eM44] at hXn
                      replace hX := hXn
                      clear hXn
                      have hks45 : ∀ i, gm_k ((upd f2o39 ((nI k203) - (nI go) : Int32).toNatClampNeg v42) i) := gm_upd hk2o39 hv42
                      refine lv_iinc (v := (nI k203) + 1) (lv' := [(4, .int ((nI k203) + 1)), (3, .int (nI go)), (2, .int (nI p4_2)), (0, .ref (B 0)), (1, .int k)]) hx hb d_Mo_enter_228 hl (k := 0) rfl rfl (by decide) rfl (fun ls hl => ?_)
                      refine lv_goto (tgt := 203) hx hb d_Mo_enter_231 (by decide) ?_
                      rw [nI_1] at hl
                      apply ih203 (ls := ls) (k203 := k203 + 1) (H := H) (locs := locs) (M9 := M44) <;> first | exact lv_sub hl [0, 1, 2, 3, 4] rfl | exact hX | exact hW | exact hS | exact hF43 | omega | assumption
                · have hlt3 := gx_ltN c136 (by omega) (by omega)
                  refine lv_aload_n hx hb d_Mo_enter_139 rfl (lv_at hl 3 rfl) ?_
                  obtain ⟨cdo46, mko46, f1o46, f2o46, f3o46, f4o46, f5o46, f6o46, f7o46, hf_0, hf_1, hf_2, hf_3, hf_4, hf_5, hf_6, hf_7, hk2o46, hk3o46, hk4o46, -, -⟩ := id hX
                  refine gw_get (ci := 5) (fs := [.int cdo46, .int (nI lm), .int sm, .int E, .ref (B 1), .ref (B 2), .int (nI (sz + 1)), .ref (B 3), .ref (B 4), .ref (B 5), .ref (B 6), .int (nI jb), .int mko46, .ref (B 7), .int (nI w133_dr)]) hx hb hts in_Mo hown hE.K hW hf_0 rfl 5 (by decide) (hts _ mw238) (fun _ h9 => h9) rfl d_Mo_enter_140 ?_
                  refine lv_iload hx hb d_Mo_enter_143 (lv_at hl 0 rfl) ?_
                  refine gw_iald (i := nI k133) hx hb hE.K hW 0 hf_2 rfl (vp_in_nI (by omega) (by omega)) d_Mo_enter_145 ?_
                  obtain ⟨v47, ev47⟩ : ∃ z : Int32, z = f2o46 (nI k133 : Int32).toNatClampNeg := ⟨_, rfl⟩
                  have hv47 : gm_k v47 := by rw [ev47]; exact hk2o46 _
                  refine W.eq (g2 := F0 m 146 ls [.int v47]) (by rw [ev47]) ?_
                  refine lv_istore (lv' := [(5, .int v47), (4, .int (nI k133)), (3, .int (nI go)), (2, .int (nI p4_2)), (0, .ref (B 0)), (1, .int k)]) hx hb d_Mo_enter_146 hl (by decide) rfl (fun ls hl => ?_)
                  refine lv_aload_n hx hb d_Mo_enter_148 rfl (lv_at hl 4 rfl) ?_
                  refine gw_get (ci := 5) (fs := [.int cdo46, .int (nI lm), .int sm, .int E, .ref (B 1), .ref (B 2), .int (nI (sz + 1)), .ref (B 3), .ref (B 4), .ref (B 5), .ref (B 6), .int (nI jb), .int mko46, .ref (B 7), .int (nI w133_dr)]) hx hb hts in_Mo hown hE.K hW hf_0 rfl 2 (by decide) (hts _ mw245) (fun _ h9 => h9) rfl d_Mo_enter_149 ?_
                  refine lv_if_eq (tgt := 166) hx hb d_Mo_enter_152 (by decide) (fun c152 => ?_) (fun c152 => ?_)
                  · refine lv_aload_n hx hb d_Mo_enter_166 rfl (lv_at hl 4 rfl) ?_
                    refine lv_iload hx hb d_Mo_enter_167 (lv_at hl 0 rfl) ?_
                    refine lv_iconst (v := 4) hx hb d_Mo_enter_169 (by decide) ?_
                    refine gw_callv hS (va_runV (As := [.int v47, .int 4]) (rest := []) ⟨hx, hb, hml, hown, hts⟩ (m_become l G M9 B lm sm E jb (sz + 1) w133_dr hX v47 4  hv47) (cwV 2 hts (gw_gv mw240 mw241 mw242 mw228 mw239) rfl rfl rfl (by decide +kernel) ⟨Nat.le_of_ble_eq_true rfl, Nat.le_of_ble_eq_true rfl⟩) (gw_pv hE hB hS hW rfl hf_0) rfl rfl hl.1 rfl (lv_room (Nat.le_of_ble_eq_true rfl)) d_Mo_enter_170 ⟨Nat.le_of_ble_eq_true rfl, Nat.le_of_ble_eq_true rfl⟩) (fun M49 H locs hw50 hW hS => ?_)
                    obtain ⟨hX, hfr51⟩ := hw50
                    have hF52 : gw_fg (gw_out [100, 101, 102, 103, 104, 105, 106, 107]) M M49 := gw_fg.tr hF (gw_fg.wk hfr51 (by decide))
                    clear hfr51
                    refine lv_aload_n hx hb d_Mo_enter_173 rfl (lv_at hl 4 rfl) ?_
                    obtain ⟨cdo53, mko53, f1o53, f2o53, f3o53, f4o53, f5o53, f6o53, f7o53, hf_0, hf_1, hf_2, hf_3, hf_4, hf_5, hf_6, hf_7, hk2o53, hk3o53, hk4o53, -, -⟩ := id hX
                    refine gw_get (ci := 5) (fs := [.int cdo53, .int (nI lm), .int sm, .int E, .ref (B 1), .ref (B 2), .int (nI (sz + 1)), .ref (B 3), .ref (B 4), .ref (B 5), .ref (B 6), .int (nI jb), .int mko53, .ref (B 7), .int (nI w133_dr)]) hx hb hts in_Mo hown hE.K hW hf_0 rfl 13 (by decide) (hts _ mw246) (fun _ h9 => h9) rfl d_Mo_enter_174 ?_
                    refine lv_aload_n hx hb d_Mo_enter_177 rfl (lv_at hl 4 rfl) ?_
                    refine gw_get (ci := 5) (fs := [.int cdo53, .int (nI lm), .int sm, .int E, .ref (B 1), .ref (B 2), .int (nI (sz + 1)), .ref (B 3), .ref (B 4), .ref (B 5), .ref (B 6), .int (nI jb), .int mko53, .ref (B 7), .int (nI w133_dr)]) hx hb hts in_Mo hown hE.K hW hf_0 rfl 14 (by decide) (hts _ mw247) (fun _ h9 => h9) rfl d_Mo_enter_178 ?_
                    refine lv_iload hx hb d_Mo_enter_181 (lv_at hl 0 rfl) ?_
                    refine gw_iast (i := nI w133_dr) (x := v47) hx hb hE.K hW hS 0 hf_7 rfl (vp_in_nI (by omega) (by omega)) d_Mo_enter_183 (fun H locs hW hS => ?_)
                    have hXn : gm_X G B lm sm E jb (sz + 1) w133_dr (gw_up M49 (B 7) 107 (.inl (G.2.1 0, 2048, .inl (upd f7o53 (nI w133_dr : Int32).toNatClampNeg v47)))) := hX.up107 hf_7
                    have hF54 : gw_fg (gw_out [100, 101, 102, 103, 104, 105, 106, 107]) M (gw_up M49 (B 7) 107 (.inl (G.2.1 0, 2048, .inl (upd f7o53 (nI w133_dr : Int32).toNatClampNeg v47)))) := gw_fg.up hF52 hf_7 (show ¬ ((gw_out [100, 101, 102, 103, 104, 105, 106, 107]) 107) by decide) (show ¬ ((gw_out [100, 101, 102, 103, 104, 105, 106, 107]) 107) by decide)
                    obtain ⟨M55, eM55⟩ : ∃ z, z = gw_up M49 (B 7) 107 (.inl (G.2.1 0, 2048, .inl (upd f7o53 (nI w133_dr : Int32).toNatClampNeg v47))) := ⟨_, rfl⟩
                    replace hW : gw_P G.1 vwCl G.2.2.2 M55 H := by rw [eM55]; exact hW
                    have hf_0 : M55 (B 0) = some (100, .inr (5, [.int cdo53, .int (nI lm), .int sm, .int E, .ref (B 1), .ref (B 2), .int (nI (sz + 1)), .ref (B 3), .ref (B 4), .ref (B 5), .ref (B 6), .int (nI jb), .int mko53, .ref (B 7), .int (nI w133_dr)])) := by rw [eM55]; exact gw_keep hf_0 hf_7 (by decide)
                    have hf_1 : M55 (B 1) = some (101, .inl (G.2.1 0, 10000, .inl f1o53)) := by rw [eM55]; exact gw_keep hf_1 hf_7 (by decide)
                    have hf_2 : M55 (B 2) = some (102, .inl (G.2.1 0, 300, .inl f2o53)) := by rw [eM55]; exact gw_keep hf_2 hf_7 (by decide)
                    have hf_3 : M55 (B 3) = some (103, .inl (G.2.1 0, 10240, .inl f3o53)) := by rw [eM55]; exact gw_keep hf_3 hf_7 (by decide)
                    have hf_4 : M55 (B 4) = some (104, .inl (G.2.1 0, 41, .inl f4o53)) := by rw [eM55]; exact gw_keep hf_4 hf_7 (by decide)
                    have hf_5 : M55 (B 5) = some (105, .inl (G.2.1 0, 41, .inl f5o53)) := by rw [eM55]; exact gw_keep hf_5 hf_7 (by decide)
                    have hf_6 : M55 (B 6) = some (106, .inl (G.2.1 0, 4100, .inl f6o53)) := by rw [eM55]; exact gw_keep hf_6 hf_7 (by decide)
                    have hf_7 : M55 (B 7) = some (107, .inl (G.2.1 0, 2048, .inl (upd f7o53 (nI w133_dr : Int32).toNatClampNeg v47))) := by rw [eM55]; exact gw_up_self _ _ _ _
                    rw [← eM55] at hF54
                    rw [← eM55] at hXn
                    replace hX := hXn
                    clear hXn
                    refine lv_aload_n hx hb d_Mo_enter_184 rfl (lv_at hl 4 rfl) ?_
                    refine lv_dup hx hb d_Mo_enter_185 rfl ?_
                    refine gw_get (ci := 5) (fs := [.int cdo53, .int (nI lm), .int sm, .int E, .ref (B 1), .ref (B 2), .int (nI (sz + 1)), .ref (B 3), .ref (B 4), .ref (B 5), .ref (B 6), .int (nI jb), .int mko53, .ref (B 7), .int (nI w133_dr)]) hx hb hts in_Mo hown hE.K hW hf_0 rfl 14 (by decide) (hts _ mw247) (fun _ h9 => h9) rfl d_Mo_enter_186 ?_
                    refine lv_iconst (v := 1) hx hb d_Mo_enter_189 (by decide) ?_
                    refine lv_iadd hx hb d_Mo_enter_190 ?_
                    refine W.eq (g2 := F0 m 191 ls [.int (nI (w133_dr + 1)), .ref (B 0)]) (by rw [nI_1]) ?_
                    refine gw_put (ci := 5) (fs := [.int cdo53, .int (nI lm), .int sm, .int E, .ref (B 1), .ref (B 2), .int (nI (sz + 1)), .ref (B 3), .ref (B 4), .ref (B 5), .ref (B 6), .int (nI jb), .int mko53, .ref (B 7), .int (nI w133_dr)]) (v := .int (nI (w133_dr + 1))) (ty := .int) hx hb hts in_Mo t_Mo t_Mo_ok n_Mo hown hE.K hW hS hf_0 rfl 14 (by decide) (hts _ mw247) (fun _ h9 => h9) rfl (by decide +kernel) rfl rfl (Nat.le_of_ble_eq_true rfl) d_Mo_enter_191 (fun H locs hW hS => ?_)
                    have hXn : gm_X G B lm sm E jb (sz + 1) (w133_dr + 1) (gw_up M55 (B 0) 100 (.inr (5, [.int cdo53, .int (nI lm), .int sm, .int E, .ref (B 1), .ref (B 2), .int (nI (sz + 1)), .ref (B 3), .ref (B 4), .ref (B 5), .ref (B 6), .int (nI jb), .int mko53, .ref (B 7), .int (nI (w133_dr + 1))]))) := hX.up100 hf_0 (by omega)
                    have hF56 : gw_fg (gw_out [100, 101, 102, 103, 104, 105, 106, 107]) M (gw_up M55 (B 0) 100 (.inr (5, [.int cdo53, .int (nI lm), .int sm, .int E, .ref (B 1), .ref (B 2), .int (nI (sz + 1)), .ref (B 3), .ref (B 4), .ref (B 5), .ref (B 6), .int (nI jb), .int mko53, .ref (B 7), .int (nI (w133_dr + 1))]))) := gw_fg.up hF54 hf_0 (show ¬ ((gw_out [100, 101, 102, 103, 104, 105, 106, 107]) 100) by decide) (show ¬ ((gw_out [100, 101, 102, 103, 104, 105, 106, 107]) 100) by decide)
                    obtain ⟨M57, eM57⟩ : ∃ z, z = gw_up M55 (B 0) 100 (.inr (5, [.int cdo53, .int (nI lm), .int sm, .int E, .ref (B 1), .ref (B 2), .int (nI (sz + 1)), .ref (B 3), .ref (B 4), .ref (B 5), .ref (B 6), .int (nI jb), .int mko53, .ref (B 7), .int (nI (w133_dr + 1))])) := ⟨_, rfl⟩
                    replace hW : gw_P G.1 vwCl G.2.2.2 M57 H := by rw [eM57]; exact hW
                    have hf_1 : M57 (B 1) = some (101, .inl (G.2.1 0, 10000, .inl f1o53)) := by rw [eM57]; exact gw_keep hf_1 hf_0 (by decide)
                    have hf_2 : M57 (B 2) = some (102, .inl (G.2.1 0, 300, .inl f2o53)) := by rw [eM57]; exact gw_keep hf_2 hf_0 (by decide)
                    have hf_3 : M57 (B 3) = some (103, .inl (G.2.1 0, 10240, .inl f3o53)) := by rw [eM57]; exact gw_keep hf_3 hf_0 (by decide)
                    have hf_4 : M57 (B 4) = some (104, .inl (G.2.1 0, 41, .inl f4o53)) := by rw [eM57]; exact gw_keep hf_4 hf_0 (by decide)
                    have hf_5 : M57 (B 5) = some (105, .inl (G.2.1 0, 41, .inl f5o53)) := by rw [eM57]; exact gw_keep hf_5 hf_0 (by decide)
                    have hf_6 : M57 (B 6) = some (106, .inl (G.2.1 0, 4100, .inl f6o53)) := by rw [eM57]; exact gw_keep hf_6 hf_0 (by decide)
                    have hf_7 : M57 (B 7) = some (107, .inl (G.2.1 0, 2048, .inl (upd f7o53 (nI w133_dr : Int32).toNatClampNeg v47))) := by rw [eM57]; exact gw_keep hf_7 hf_0 (by decide)
                    have hf_0 : M57 (B 0) = some (100, .inr (5, [.int cdo53, .int (nI lm), .int sm, .int E, .ref (B 1), .ref (B 2), .int (nI (sz + 1)), .ref (B 3), .ref (B 4), .ref (B 5), .ref (B 6), .int (nI jb), .int mko53, .ref (B 7), .int (nI (w133_dr + 1))])) := by rw [eM57]; exact gw_up_self _ _ _ _
                    rw [← eM57] at hF56
                    rw [← eM57] at hXn
                    replace hX := hXn
                    clear hXn
                    refine lv_iinc (v := (nI k133) + 1) (lv' := [(4, .int ((nI k133) + 1)), (5, .int v47), (3, .int (nI go)), (2, .int (nI p4_2)), (0, .ref (B 0)), (1, .int k)]) hx hb d_Mo_enter_194 hl (k := 1) rfl rfl (by decide) rfl (fun ls hl => ?_)
                    refine lv_goto (tgt := 133) hx hb d_Mo_enter_197 (by decide) ?_
                    rw [nI_1] at hl
                    apply ih133 (ls := ls) (k133 := k133 + 1) (H := H) (locs := locs) (M9 := M57) (w133_dr := w133_dr + 1) <;> first | exact lv_sub hl [0, 2, 3, 4, 5] rfl | exact hX | exact hW | exact hS | exact hF56 | omega | assumption
                  · refine lv_aload_n hx hb d_Mo_enter_155 rfl (lv_at hl 4 rfl) ?_
                    refine gw_get (ci := 5) (fs := [.int cdo46, .int (nI lm), .int sm, .int E, .ref (B 1), .ref (B 2), .int (nI (sz + 1)), .ref (B 3), .ref (B 4), .ref (B 5), .ref (B 6), .int (nI jb), .int mko46, .ref (B 7), .int (nI w133_dr)]) hx hb hts in_Mo hown hE.K hW hf_0 rfl 4 (by decide) (hts _ mw223) (fun _ h9 => h9) rfl d_Mo_enter_156 ?_
                    refine lv_iload hx hb d_Mo_enter_159 (lv_at hl 0 rfl) ?_
                    refine lv_iconst (v := 0) hx hb d_Mo_enter_161 (by decide) ?_
                    refine gw_iast (i := v47) (x := 0) hx hb hE.K hW hS 0 hf_1 rfl (gm_in hv47) d_Mo_enter_162 (fun H locs hW hS => ?_)
                    have hXn : gm_X G B lm sm E jb (sz + 1) w133_dr (gw_up M9 (B 1) 101 (.inl (G.2.1 0, 10000, .inl (upd f1o46 (v47 : Int32).toNatClampNeg 0)))) := hX.up101 hf_1
                    have hF58 : gw_fg (gw_out [100, 101, 102, 103, 104, 105, 106, 107]) M (gw_up M9 (B 1) 101 (.inl (G.2.1 0, 10000, .inl (upd f1o46 (v47 : Int32).toNatClampNeg 0)))) := gw_fg.up hF hf_1 (show ¬ ((gw_out [100, 101, 102, 103, 104, 105, 106, 107]) 101) by decide) (show ¬ ((gw_out [100, 101, 102, 103, 104, 105, 106, 107]) 101) by decide)
                    obtain ⟨M59, eM59⟩ : ∃ z, z = gw_up M9 (B 1) 101 (.inl (G.2.1 0, 10000, .inl (upd f1o46 (v47 : Int32).toNatClampNeg 0))) := ⟨_, rfl⟩
                    replace hW : gw_P G.1 vwCl G.2.2.2 M59 H := by rw [eM59]; exact hW
                    have hf_0 : M59 (B 0) = some (100, .inr (5, [.int cdo46, .int (nI lm), .int sm, .int E, .ref (B 1), .ref (B 2), .int (nI (sz + 1)), .ref (B 3), .ref (B 4), .ref (B 5), .ref (B 6), .int (nI jb), .int mko46, .ref (B 7), .int (nI w133_dr)])) := by rw [eM59]; exact gw_keep hf_0 hf_1 (by decide)
                    have hf_2 : M59 (B 2) = some (102, .inl (G.2.1 0, 300, .inl f2o46)) := by rw [eM59]; exact gw_keep hf_2 hf_1 (by decide)
                    have hf_3 : M59 (B 3) = some (103, .inl (G.2.1 0, 10240, .inl f3o46)) := by rw [eM59]; exact gw_keep hf_3 hf_1 (by decide)
                    have hf_4 : M59 (B 4) = some (104, .inl (G.2.1 0, 41, .inl f4o46)) := by rw [eM59]; exact gw_keep hf_4 hf_1 (by decide)
                    have hf_5 : M59 (B 5) = some (105, .inl (G.2.1 0, 41, .inl f5o46)) := by rw [eM59]; exact gw_keep hf_5 hf_1 (by decide)
                    have hf_6 : M59 (B 6) = some (106, .inl (G.2.1 0, 4100, .inl f6o46)) := by rw [eM59]; exact gw_keep hf_6 hf_1 (by decide)
                    have hf_7 : M59 (B 7) = some (107, .inl (G.2.1 0, 2048, .inl f7o46)) := by rw [eM59]; exact gw_keep hf_7 hf_1 (by decide)
                    have hf_1 : M59 (B 1) = some (101, .inl (G.2.1 0, 10000, .inl (upd f1o46 (v47 : Int32).toNatClampNeg 0))) := by rw [eM59]; exact gw_up_self _ _ _ _
                    rw [← eM59] at hF58
                    rw [← eM59] at hXn
                    replace hX := hXn
                    clear hXn
                    refine lv_goto (tgt := 173) hx hb d_Mo_enter_163 (by decide) ?_
                    refine lv_aload_n hx hb d_Mo_enter_173 rfl (lv_at hl 4 rfl) ?_
                    refine gw_get (ci := 5) (fs := [.int cdo46, .int (nI lm), .int sm, .int E, .ref (B 1), .ref (B 2), .int (nI (sz + 1)), .ref (B 3), .ref (B 4), .ref (B 5), .ref (B 6), .int (nI jb), .int mko46, .ref (B 7), .int (nI w133_dr)]) hx hb hts in_Mo hown hE.K hW hf_0 rfl 13 (by decide) (hts _ mw246) (fun _ h9 => h9) rfl d_Mo_enter_174 ?_
                    refine lv_aload_n hx hb d_Mo_enter_177 rfl (lv_at hl 4 rfl) ?_
                    refine gw_get (ci := 5) (fs := [.int cdo46, .int (nI lm), .int sm, .int E, .ref (B 1), .ref (B 2), .int (nI (sz + 1)), .ref (B 3), .ref (B 4), .ref (B 5), .ref (B 6), .int (nI jb), .int mko46, .ref (B 7), .int (nI w133_dr)]) hx hb hts in_Mo hown hE.K hW hf_0 rfl 14 (by decide) (hts _ mw247) (fun _ h9 => h9) rfl d_Mo_enter_178 ?_
                    refine lv_iload hx hb d_Mo_enter_181 (lv_at hl 0 rfl) ?_
                    refine gw_iast (i := nI w133_dr) (x := v47) hx hb hE.K hW hS 0 hf_7 rfl (vp_in_nI (by omega) (by omega)) d_Mo_enter_183 (fun H locs hW hS => ?_)
                    have hXn : gm_X G B lm sm E jb (sz + 1) w133_dr (gw_up M59 (B 7) 107 (.inl (G.2.1 0, 2048, .inl (upd f7o46 (nI w133_dr : Int32).toNatClampNeg v47)))) := hX.up107 hf_7
                    have hF60 : gw_fg (gw_out [100, 101, 102, 103, 104, 105, 106, 107]) M (gw_up M59 (B 7) 107 (.inl (G.2.1 0, 2048, .inl (upd f7o46 (nI w133_dr : Int32).toNatClampNeg v47)))) := gw_fg.up hF58 hf_7 (show ¬ ((gw_out [100, 101, 102, 103, 104, 105, 106, 107]) 107) by decide) (show ¬ ((gw_out [100, 101, 102, 103, 104, 105, 106, 107]) 107) by decide)
                    obtain ⟨M61, eM61⟩ : ∃ z, z = gw_up M59 (B 7) 107 (.inl (G.2.1 0, 2048, .inl (upd f7o46 (nI w133_dr : Int32).toNatClampNeg v47))) := ⟨_, rfl⟩
                    replace hW : gw_P G.1 vwCl G.2.2.2 M61 H := by rw [eM61]; exact hW
                    have hf_0 : M61 (B 0) = some (100, .inr (5, [.int cdo46, .int (nI lm), .int sm, .int E, .ref (B 1), .ref (B 2), .int (nI (sz + 1)), .ref (B 3), .ref (B 4), .ref (B 5), .ref (B 6), .int (nI jb), .int mko46, .ref (B 7), .int (nI w133_dr)])) := by rw [eM61]; exact gw_keep hf_0 hf_7 (by decide)
                    have hf_2 : M61 (B 2) = some (102, .inl (G.2.1 0, 300, .inl f2o46)) := by rw [eM61]; exact gw_keep hf_2 hf_7 (by decide)
                    have hf_3 : M61 (B 3) = some (103, .inl (G.2.1 0, 10240, .inl f3o46)) := by rw [eM61]; exact gw_keep hf_3 hf_7 (by decide)
                    have hf_4 : M61 (B 4) = some (104, .inl (G.2.1 0, 41, .inl f4o46)) := by rw [eM61]; exact gw_keep hf_4 hf_7 (by decide)
                    have hf_5 : M61 (B 5) = some (105, .inl (G.2.1 0, 41, .inl f5o46)) := by rw [eM61]; exact gw_keep hf_5 hf_7 (by decide)
                    have hf_6 : M61 (B 6) = some (106, .inl (G.2.1 0, 4100, .inl f6o46)) := by rw [eM61]; exact gw_keep hf_6 hf_7 (by decide)
                    have hf_1 : M61 (B 1) = some (101, .inl (G.2.1 0, 10000, .inl (upd f1o46 (v47 : Int32).toNatClampNeg 0))) := by rw [eM61]; exact gw_keep hf_1 hf_7 (by decide)
                    have hf_7 : M61 (B 7) = some (107, .inl (G.2.1 0, 2048, .inl (upd f7o46 (nI w133_dr : Int32).toNatClampNeg v47))) := by rw [eM61]; exact gw_up_self _ _ _ _
                    rw [← eM61] at hF60
                    rw [← eM61] at hXn
                    replace hX := hXn
                    clear hXn
                    refine lv_aload_n hx hb d_Mo_enter_184 rfl (lv_at hl 4 rfl) ?_
                    refine lv_dup hx hb d_Mo_enter_185 rfl ?_
                    refine gw_get (ci := 5) (fs := [.int cdo46, .int (nI lm), .int sm, .int E, .ref (B 1), .ref (B 2), .int (nI (sz + 1)), .ref (B 3), .ref (B 4), .ref (B 5), .ref (B 6), .int (nI jb), .int mko46, .ref (B 7), .int (nI w133_dr)]) hx hb hts in_Mo hown hE.K hW hf_0 rfl 14 (by decide) (hts _ mw247) (fun _ h9 => h9) rfl d_Mo_enter_186 ?_
                    refine lv_iconst (v := 1) hx hb d_Mo_enter_189 (by decide) ?_
                    refine lv_iadd hx hb d_Mo_enter_190 ?_
                    refine W.eq (g2 := F0 m 191 ls [.int (nI (w133_dr + 1)), .ref (B 0)]) (by rw [nI_1]) ?_
                    refine gw_put (ci := 5) (fs := [.int cdo46, .int (nI lm), .int sm, .int E, .ref (B 1), .ref (B 2), .int (nI (sz + 1)), .ref (B 3), .ref (B 4), .ref (B 5), .ref (B 6), .int (nI jb), .int mko46, .ref (B 7), .int (nI w133_dr)]) (v := .int (nI (w133_dr + 1))) (ty := .int) hx hb hts in_Mo t_Mo t_Mo_ok n_Mo hown hE.K hW hS hf_0 rfl 14 (by decide) (hts _ mw247) (fun _ h9 => h9) rfl (by decide +kernel) rfl rfl (Nat.le_of_ble_eq_true rfl) d_Mo_enter_191 (fun H locs hW hS => ?_)
                    have hXn : gm_X G B lm sm E jb (sz + 1) (w133_dr + 1) (gw_up M61 (B 0) 100 (.inr (5, [.int cdo46, .int (nI lm), .int sm, .int E, .ref (B 1), .ref (B 2), .int (nI (sz + 1)), .ref (B 3), .ref (B 4), .ref (B 5), .ref (B 6), .int (nI jb), .int mko46, .ref (B 7), .int (nI (w133_dr + 1))]))) := hX.up100 hf_0 (by omega)
                    have hF62 : gw_fg (gw_out [100, 101, 102, 103, 104, 105, 106, 107]) M (gw_up M61 (B 0) 100 (.inr (5, [.int cdo46, .int (nI lm), .int sm, .int E, .ref (B 1), .ref (B 2), .int (nI (sz + 1)), .ref (B 3), .ref (B 4), .ref (B 5), .ref (B 6), .int (nI jb), .int mko46, .ref (B 7), .int (nI (w133_dr + 1))]))) := gw_fg.up hF60 hf_0 (show ¬ ((gw_out [100, 101, 102, 103, 104, 105, 106, 107]) 100) by decide) (show ¬ ((gw_out [100, 101, 102, 103, 104, 105, 106, 107]) 100) by decide)
                    obtain ⟨M63, eM63⟩ : ∃ z, z = gw_up M61 (B 0) 100 (.inr (5, [.int cdo46, .int (nI lm), .int sm, .int E, .ref (B 1), .ref (B 2), .int (nI (sz + 1)), .ref (B 3), .ref (B 4), .ref (B 5), .ref (B 6), .int (nI jb), .int mko46, .ref (B 7), .int (nI (w133_dr + 1))])) := ⟨_, rfl⟩
                    replace hW : gw_P G.1 vwCl G.2.2.2 M63 H := by rw [eM63]; exact hW
                    have hf_2 : M63 (B 2) = some (102, .inl (G.2.1 0, 300, .inl f2o46)) := by rw [eM63]; exact gw_keep hf_2 hf_0 (by decide)
                    have hf_3 : M63 (B 3) = some (103, .inl (G.2.1 0, 10240, .inl f3o46)) := by rw [eM63]; exact gw_keep hf_3 hf_0 (by decide)
                    have hf_4 : M63 (B 4) = some (104, .inl (G.2.1 0, 41, .inl f4o46)) := by rw [eM63]; exact gw_keep hf_4 hf_0 (by decide)
                    have hf_5 : M63 (B 5) = some (105, .inl (G.2.1 0, 41, .inl f5o46)) := by rw [eM63]; exact gw_keep hf_5 hf_0 (by decide)
                    have hf_6 : M63 (B 6) = some (106, .inl (G.2.1 0, 4100, .inl f6o46)) := by rw [eM63]; exact gw_keep hf_6 hf_0 (by decide)
                    have hf_1 : M63 (B 1) = some (101, .inl (G.2.1 0, 10000, .inl (upd f1o46 (v47 : Int32).toNatClampNeg 0))) := by rw [eM63]; exact gw_keep hf_1 hf_0 (by decide)
                    have hf_7 : M63 (B 7) = some (107, .inl (G.2.1 0, 2048, .inl (upd f7o46 (nI w133_dr : Int32).toNatClampNeg v47))) := by rw [eM63]; exact gw_keep hf_7 hf_0 (by decide)
                    have hf_0 : M63 (B 0) = some (100, .inr (5, [.int cdo46, .int (nI lm), .int sm, .int E, .ref (B 1), .ref (B 2), .int (nI (sz + 1)), .ref (B 3), .ref (B 4), .ref (B 5), .ref (B 6), .int (nI jb), .int mko46, .ref (B 7), .int (nI (w133_dr + 1))])) := by rw [eM63]; exact gw_up_self _ _ _ _
                    rw [← eM63] at hF62
                    rw [← eM63] at hXn
                    replace hX := hXn
                    clear hXn
                    refine lv_iinc (v := (nI k133) + 1) (lv' := [(4, .int ((nI k133) + 1)), (5, .int v47), (3, .int (nI go)), (2, .int (nI p4_2)), (0, .ref (B 0)), (1, .int k)]) hx hb d_Mo_enter_194 hl (k := 1) rfl rfl (by decide) rfl (fun ls hl => ?_)
                    refine lv_goto (tgt := 133) hx hb d_Mo_enter_197 (by decide) ?_
                    rw [nI_1] at hl
                    apply ih133 (ls := ls) (k133 := k133 + 1) (H := H) (locs := locs) (M9 := M63) (w133_dr := w133_dr + 1) <;> first | exact lv_sub hl [0, 2, 3, 4, 5] rfl | exact hX | exact hW | exact hS | exact hF62 | omega | assumption
          · have hle := gx_nlt c100 (by omega) (by omega)
            exact gw_vret hx hb hr hlocks hS hW (Nat.le_of_ble_eq_true rfl) (Nat.le_of_ble_eq_true rfl) d_Mo_enter_103 ⟨sz + 1, dr, (by omega), (by omega), hX, hF12⟩
        · have hlt2 := gx_ltN c46 (by omega) (by omega)
          refine lv_aload_n hx hb d_Mo_enter_49 rfl (lv_at hl 2 rfl) ?_
          obtain ⟨cdo64, mko64, f1o64, f2o64, f3o64, f4o64, f5o64, f6o64, f7o64, hf_0, hf_1, hf_2, hf_3, hf_4, hf_5, hf_6, hf_7, hk2o64, hk3o64, hk4o64, -, -⟩ := id hX
          refine gw_get (ci := 5) (fs := [.int cdo64, .int (nI lm), .int sm, .int E, .ref (B 1), .ref (B 2), .int (nI sz), .ref (B 3), .ref (B 4), .ref (B 5), .ref (B 6), .int (nI jb), .int mko64, .ref (B 7), .int (nI dr)]) hx hb hts in_Mo hown hE.K hW hf_0 rfl 5 (by decide) (hts _ mw238) (fun _ h9 => h9) rfl d_Mo_enter_50 ?_
          refine lv_iload_n hx hb d_Mo_enter_53 rfl (lv_at hl 0 rfl) ?_
          refine lv_aload_n hx hb d_Mo_enter_54 rfl (lv_at hl 2 rfl) ?_
          refine gw_get (ci := 5) (fs := [.int cdo64, .int (nI lm), .int sm, .int E, .ref (B 1), .ref (B 2), .int (nI sz), .ref (B 3), .ref (B 4), .ref (B 5), .ref (B 6), .int (nI jb), .int mko64, .ref (B 7), .int (nI dr)]) hx hb hts in_Mo hown hE.K hW hf_0 rfl 5 (by decide) (hts _ mw238) (fun _ h9 => h9) rfl d_Mo_enter_55 ?_
          refine lv_iload_n hx hb d_Mo_enter_58 rfl (lv_at hl 0 rfl) ?_
          refine lv_iconst (v := 1) hx hb d_Mo_enter_59 (by decide) ?_
          refine lv_isub hx hb d_Mo_enter_60 ?_
          refine gw_iald (i := (nI k44) - 1) hx hb hE.K hW 0 hf_2 rfl (gx_in1 (show 1 ≤ k44 by omega) (by omega)) d_Mo_enter_61 ?_
          obtain ⟨v65, ev65⟩ : ∃ z : Int32, z = f2o64 ((nI k44) - 1 : Int32).toNatClampNeg := ⟨_, rfl⟩
          have hv65 : gm_k v65 := by rw [ev65]; exact hk2o64 _
          refine W.eq (g2 := F0 m 62 ls [.int v65, .int (nI k44), .ref (B 2)]) (by rw [ev65]) ?_
          refine gw_iast (i := nI k44) (x := v65) hx hb hE.K hW hS 0 hf_2 rfl (vp_in_nI (by omega) (by omega)) d_Mo_enter_62 (fun H locs hW hS => ?_)
          have hXn : gm_X G B lm sm E jb sz dr (gw_up Mw (B 2) 102 (.inl (G.2.1 0, 300, .inl (upd f2o64 (nI k44 : Int32).toNatClampNeg v65)))) := hX.up102 hf_2 (gm_upd hk2o64 hv65)
          have hF66 : gw_fg (gw_out [100, 101, 102, 103, 104, 105, 106, 107]) M (gw_up Mw (B 2) 102 (.inl (G.2.1 0, 300, .inl (upd f2o64 (nI k44 : Int32).toNatClampNeg v65)))) := gw_fg.up hF hf_2 (show ¬ ((gw_out [100, 101, 102, 103, 104, 105, 106, 107]) 102) by decide) (show ¬ ((gw_out [100, 101, 102, 103, 104, 105, 106, 107]) 102) by decide)
          obtain ⟨M67, eM67⟩ : ∃ z, z = gw_up Mw (B 2) 102 (.inl (G.2.1 0, 300, .inl (upd f2o64 (nI k44 : Int32).toNatClampNeg v65))) := ⟨_, rfl⟩
          replace hW : gw_P G.1 vwCl G.2.2.2 M67 H := by rw [eM67]; exact hW
          have hf_0 : M67 (B 0) = some (100, .inr (5, [.int cdo64, .int (nI lm), .int sm, .int E, .ref (B 1), .ref (B 2), .int (nI sz), .ref (B 3), .ref (B 4), .ref (B 5), .ref (B 6), .int (nI jb), .int mko64, .ref (B 7), .int (nI dr)])) := by rw [eM67]; exact gw_keep hf_0 hf_2 (by decide)
          have hf_1 : M67 (B 1) = some (101, .inl (G.2.1 0, 10000, .inl f1o64)) := by rw [eM67]; exact gw_keep hf_1 hf_2 (by decide)
          have hf_3 : M67 (B 3) = some (103, .inl (G.2.1 0, 10240, .inl f3o64)) := by rw [eM67]; exact gw_keep hf_3 hf_2 (by decide)
          have hf_4 : M67 (B 4) = some (104, .inl (G.2.1 0, 41, .inl f4o64)) := by rw [eM67]; exact gw_keep hf_4 hf_2 (by decide)
          have hf_5 : M67 (B 5) = some (105, .inl (G.2.1 0, 41, .inl f5o64)) := by rw [eM67]; exact gw_keep hf_5 hf_2 (by decide)
          have hf_6 : M67 (B 6) = some (106, .inl (G.2.1 0, 4100, .inl f6o64)) := by rw [eM67]; exact gw_keep hf_6 hf_2 (by decide)
          have hf_7 : M67 (B 7) = some (107, .inl (G.2.1 0, 2048, .inl f7o64)) := by rw [eM67]; exact gw_keep hf_7 hf_2 (by decide)
          have hf_2 : M67 (B 2) = some (102, .inl (G.2.1 0, 300, .inl (upd f2o64 (nI k44 : Int32).toNatClampNeg v65))) := by rw [eM67]; exact gw_up_self _ _ _ _
          rw [← eM67] at hF66
          rw [← eM67] at hXn
          replace hX := hXn
          clear hXn
          have hks68 : ∀ i, gm_k ((upd f2o64 (nI k44 : Int32).toNatClampNeg v65) i) := gm_upd hk2o64 hv65
          refine lv_iinc (v := (nI k44) + (-1)) (lv' := [(3, .int ((nI k44) + (-1))), (2, .int (nI p4_2)), (0, .ref (B 0)), (1, .int k)]) hx hb d_Mo_enter_63 hl (k := 0) rfl rfl (by decide) rfl (fun ls hl => ?_)
          refine lv_goto (tgt := 44) hx hb d_Mo_enter_66 (by decide) ?_
          rw [gx_dec (show 1 ≤ k44 by omega)] at hl
          apply ih44 (ls := ls) (k44 := k44 - 1) (H := H) (locs := locs) (Mw := M67) <;> first | exact lv_sub hl [0, 1, 2, 3] rfl | exact hX | exact hW | exact hS | exact hF66 | omega | assumption
    · have hlt := gx_ltN c9 (by omega) (by omega)
      refine lv_aload_n hx hb d_Mo_enter_12 rfl (lv_at hl 2 rfl) ?_
      refine gw_get (ci := 5) (fs := [.int cdo1, .int (nI lm), .int sm, .int E, .ref (B 1), .ref (B 2), .int (nI sz), .ref (B 3), .ref (B 4), .ref (B 5), .ref (B 6), .int (nI jb), .int mko1, .ref (B 7), .int (nI dr)]) hx hb hts in_Mo hown hE.K hW hf_0 rfl 5 (by decide) (hts _ mw238) (fun _ h9 => h9) rfl d_Mo_enter_13 ?_
      refine lv_iload_n hx hb d_Mo_enter_16 rfl (lv_at hl 0 rfl) ?_
      refine gw_iald (i := nI k4) hx hb hE.K hW 0 hf_2 rfl (vp_in_nI (by omega) (by omega)) d_Mo_enter_17 ?_
      obtain ⟨v69, ev69⟩ : ∃ z : Int32, z = f2o1 (nI k4 : Int32).toNatClampNeg := ⟨_, rfl⟩
      have hv69 : gm_k v69 := by rw [ev69]; exact hk2o1 _
      refine W.eq (g2 := F0 m 18 ls [.int v69]) (by rw [ev69]) ?_
      refine lv_iload_n hx hb d_Mo_enter_18 rfl (lv_at hl 3 rfl) ?_
      refine gr_calli (va_runS (As := [.int v69, .int k]) (rest := []) ⟨hx, hb, hml, hown, hts⟩ (m_isAhead l G Mw v69 k  ) (cwS 2 hts (gw_gs mw249 mw250 mw228 mw248) rfl rfl rfl (by decide +kernel) ⟨Nat.le_of_ble_eq_true rfl, Nat.le_of_ble_eq_true rfl⟩) (gw_ps hE hB hS hW) rfl rfl hl.1 rfl (lv_room (Nat.le_of_ble_eq_true rfl)) d_Mo_enter_19 ⟨Nat.le_of_ble_eq_true rfl, Nat.le_of_ble_eq_true rfl⟩) (fun r70 hw71 => ?_)
      refine lv_if_eq (tgt := 31) hx hb d_Mo_enter_22 (by decide) (fun c22 => ?_) (fun c22 => ?_)
      · refine lv_iload_n hx hb d_Mo_enter_31 rfl (lv_at hl 1 rfl) ?_
        refine lv_istore_n (lv' := [(2, .int (nI p4_2)), (3, .int (nI k4)), (0, .ref (B 0)), (1, .int k)]) hx hb d_Mo_enter_32 rfl hl (by decide) rfl (fun ls hl => ?_)
        refine lv_iinc (v := (nI k4) + 1) (lv' := [(3, .int ((nI k4) + 1)), (2, .int (nI p4_2)), (0, .ref (B 0)), (1, .int k)]) hx hb d_Mo_enter_33 hl (k := 1) rfl rfl (by decide) rfl (fun ls hl => ?_)
        refine lv_goto (tgt := 4) hx hb d_Mo_enter_36 (by decide) ?_
        rw [nI_1] at hl
        apply ih4 (ls := ls) (k4 := k4 + 1) (H := H) (locs := locs) (Mw := Mw) (p4_2 := p4_2) <;> first | exact lv_sub hl [0, 1, 2, 3] rfl | exact hX | exact hW | exact hS | exact hF | omega | assumption
      · refine lv_iload_n hx hb d_Mo_enter_25 rfl (lv_at hl 0 rfl) ?_
        refine lv_iconst (v := 1) hx hb d_Mo_enter_26 (by decide) ?_
        refine lv_iadd hx hb d_Mo_enter_27 ?_
        refine lv_goto (tgt := 32) hx hb d_Mo_enter_28 (by decide) ?_
        refine W.eq (g2 := F0 m 32 ls [.int (nI (k4 + 1))]) (by rw [nI_1]) ?_
        refine lv_istore_n (lv' := [(2, .int (nI (k4 + 1))), (3, .int (nI k4)), (0, .ref (B 0)), (1, .int k)]) hx hb d_Mo_enter_32 rfl hl (by decide) rfl (fun ls hl => ?_)
        refine lv_iinc (v := (nI k4) + 1) (lv' := [(3, .int ((nI k4) + 1)), (2, .int (nI (k4 + 1))), (0, .ref (B 0)), (1, .int k)]) hx hb d_Mo_enter_33 hl (k := 1) rfl rfl (by decide) rfl (fun ls hl => ?_)
        refine lv_goto (tgt := 4) hx hb d_Mo_enter_36 (by decide) ?_
        rw [nI_1] at hl
        apply ih4 (ls := ls) (k4 := k4 + 1) (H := H) (locs := locs) (Mw := Mw) (p4_2 := (k4 + 1)) <;> first | exact lv_sub hl [0, 1, 2, 3] rfl | exact hX | exact hW | exact hS | exact hF | omega | assumption

set_option maxHeartbeats 4000000 in
set_option maxRecDepth 100000 in
theorem m_catalogue (l : Launch) (G : gw_G) (M : gw_M) (B : Nat → Nat) (lm : Nat) (sm E : Int32) (jb sz dr : Nat) (hX : gm_X G B lm sm E jb sz dr M) (k : Int32) (hsz : sz ≤ lm) (hdr : dr + sz ≤ 600) : Met l y_Mo_catalogue [.code y_Mo_catalogue b_Mo_catalogue 2 (some .int)] ({ frames := 3, cells := 0, slots := 0, locals := 71 }) (gw_Pc G M [.ref (B 0), .int k]) (gw_Qi G (fun r M2 => ∃ sz2 : Nat, ∃ dr2 : Nat, sz2 ≤ lm ∧ dr2 + sz2 ≤ dr + sz + 1 ∧ gm_X G B lm sm E jb sz2 dr2 M2 ∧ gw_fg (gw_out [100, 101, 102, 103, 104, 105, 106, 107]) M M2)) 0 0 (gw_A G) := by
  refine gw_start (by decide) (Nat.le_of_ble_eq_true rfl) (fun p9 e9 s m b9 mt9 c9 hx hb hr hml hown hlocks hin hE hB hW ls hl => ?_)
  have hts := hE.ts ([.ref (B 0), .int k] : List Value).toArray
  have hl : lv_has ls 2 [(0, .ref (B 0)), (1, .int k)] := hl
  have hown : s.vm.findClass "GenerationsModel" = some m.cls := hown
  have hj9 := hX.jb40
  have hm9 := hX.lm255
  refine gw_gen (I := fun z => gm_X G B lm sm E jb sz dr z) (P := gw_out [100, 101, 102, 103, 104, 105, 106, 107]) hX hW (fun H locs Mw hW hS hX hF => ?_)
  have hX : gm_X G B lm sm E jb sz dr Mw := hX
  refine lv_aload_n hx hb d_Mo_catalogue_0 rfl (lv_at hl 0 rfl) ?_
  refine lv_iconst (v := 0) hx hb d_Mo_catalogue_1 (by decide) ?_
  obtain ⟨cdo1, mko1, f1o1, f2o1, f3o1, f4o1, f5o1, f6o1, f7o1, hf_0, hf_1, hf_2, hf_3, hf_4, hf_5, hf_6, hf_7, hk2o1, hk3o1, hk4o1, -, -⟩ := id hX
  refine gw_put (ci := 5) (fs := [.int cdo1, .int (nI lm), .int sm, .int E, .ref (B 1), .ref (B 2), .int (nI sz), .ref (B 3), .ref (B 4), .ref (B 5), .ref (B 6), .int (nI jb), .int mko1, .ref (B 7), .int (nI dr)]) (v := .int 0) (ty := .int) hx hb hts in_Mo t_Mo t_Mo_ok n_Mo hown hE.K hW hS hf_0 rfl 0 (by decide) (hts _ mw222) (fun _ h9 => h9) rfl (by decide +kernel) rfl rfl (Nat.le_of_ble_eq_true rfl) d_Mo_catalogue_2 (fun H locs hW hS => ?_)
  have hXn : gm_X G B lm sm E jb sz dr (gw_up Mw (B 0) 100 (.inr (5, [.int 0, .int (nI lm), .int sm, .int E, .ref (B 1), .ref (B 2), .int (nI sz), .ref (B 3), .ref (B 4), .ref (B 5), .ref (B 6), .int (nI jb), .int mko1, .ref (B 7), .int (nI dr)]))) := hX.up100 hf_0 (by omega)
  have hF2 : gw_fg (gw_out [100, 101, 102, 103, 104, 105, 106, 107]) M (gw_up Mw (B 0) 100 (.inr (5, [.int 0, .int (nI lm), .int sm, .int E, .ref (B 1), .ref (B 2), .int (nI sz), .ref (B 3), .ref (B 4), .ref (B 5), .ref (B 6), .int (nI jb), .int mko1, .ref (B 7), .int (nI dr)]))) := gw_fg.up hF hf_0 (show ¬ ((gw_out [100, 101, 102, 103, 104, 105, 106, 107]) 100) by decide) (show ¬ ((gw_out [100, 101, 102, 103, 104, 105, 106, 107]) 100) by decide)
  obtain ⟨M3, eM3⟩ : ∃ z, z = gw_up Mw (B 0) 100 (.inr (5, [.int 0, .int (nI lm), .int sm, .int E, .ref (B 1), .ref (B 2), .int (nI sz), .ref (B 3), .ref (B 4), .ref (B 5), .ref (B 6), .int (nI jb), .int mko1, .ref (B 7), .int (nI dr)])) := ⟨_, rfl⟩
  replace hW : gw_P G.1 vwCl G.2.2.2 M3 H := by rw [eM3]; exact hW
  have hf_1 : M3 (B 1) = some (101, .inl (G.2.1 0, 10000, .inl f1o1)) := by rw [eM3]; exact gw_keep hf_1 hf_0 (by decide)
  have hf_2 : M3 (B 2) = some (102, .inl (G.2.1 0, 300, .inl f2o1)) := by rw [eM3]; exact gw_keep hf_2 hf_0 (by decide)
  have hf_3 : M3 (B 3) = some (103, .inl (G.2.1 0, 10240, .inl f3o1)) := by rw [eM3]; exact gw_keep hf_3 hf_0 (by decide)
  have hf_4 : M3 (B 4) = some (104, .inl (G.2.1 0, 41, .inl f4o1)) := by rw [eM3]; exact gw_keep hf_4 hf_0 (by decide)
  have hf_5 : M3 (B 5) = some (105, .inl (G.2.1 0, 41, .inl f5o1)) := by rw [eM3]; exact gw_keep hf_5 hf_0 (by decide)
  have hf_6 : M3 (B 6) = some (106, .inl (G.2.1 0, 4100, .inl f6o1)) := by rw [eM3]; exact gw_keep hf_6 hf_0 (by decide)
  have hf_7 : M3 (B 7) = some (107, .inl (G.2.1 0, 2048, .inl f7o1)) := by rw [eM3]; exact gw_keep hf_7 hf_0 (by decide)
  have hf_0 : M3 (B 0) = some (100, .inr (5, [.int 0, .int (nI lm), .int sm, .int E, .ref (B 1), .ref (B 2), .int (nI sz), .ref (B 3), .ref (B 4), .ref (B 5), .ref (B 6), .int (nI jb), .int mko1, .ref (B 7), .int (nI dr)])) := by rw [eM3]; exact gw_up_self _ _ _ _
  rw [← eM3] at hF2
  rw [← eM3] at hXn
  replace hX := hXn
  clear hXn
  refine lv_iload_n hx hb d_Mo_catalogue_5 rfl (lv_at hl 1 rfl) ?_
  refine gr_calli (va_runS (As := [.int k]) (rest := []) ⟨hx, hb, hml, hown, hts⟩ (m_isNumber l G M3 k  ) (cwS 1 hts (gw_gs mw252 mw253 mw228 mw251) rfl rfl rfl (by decide +kernel) ⟨Nat.le_of_ble_eq_true rfl, Nat.le_of_ble_eq_true rfl⟩) (gw_ps hE hB hS hW) rfl rfl hl.1 rfl (lv_room (Nat.le_of_ble_eq_true rfl)) d_Mo_catalogue_6 ⟨Nat.le_of_ble_eq_true rfl, Nat.le_of_ble_eq_true rfl⟩) (fun r4 hw5 => ?_)
  refine lv_if_eq (tgt := 29) hx hb d_Mo_catalogue_9 (by decide) (fun c9 => ?_) (fun c9 => ?_)
  · refine lv_iconst (v := -1) hx hb d_Mo_catalogue_29 (by decide) ?_
    exact gw_iret hx hb hr hlocks hS hW (Nat.le_of_ble_eq_true rfl) (Nat.le_of_ble_eq_true rfl) d_Mo_catalogue_30 ⟨sz, dr, (by omega), (by omega), hX, hF2⟩
  · have hk : gm_k k := hw5.resolve_left c9
    refine lv_aload_n hx hb d_Mo_catalogue_12 rfl (lv_at hl 0 rfl) ?_
    refine lv_iload_n hx hb d_Mo_catalogue_13 rfl (lv_at hl 1 rfl) ?_
    refine gw_calli hS (va_runV (As := [.int k]) (rest := []) ⟨hx, hb, hml, hown, hts⟩ (m_what l G M3 B lm sm E jb sz dr hX k  hk) (cwV 1 hts (gw_gv mw255 mw256 mw257 mw228 mw254) rfl rfl rfl (by decide +kernel) ⟨Nat.le_of_ble_eq_true rfl, Nat.le_of_ble_eq_true rfl⟩) (gw_pv hE hB hS hW rfl hf_0) rfl rfl hl.1 rfl (lv_room (Nat.le_of_ble_eq_true rfl)) d_Mo_catalogue_14 ⟨Nat.le_of_ble_eq_true rfl, Nat.le_of_ble_eq_true rfl⟩) (fun r6 M7 H locs hw8 hW hS => ?_)
    obtain ⟨hX, hfr9⟩ := hw8
    have hF10 : gw_fg (gw_out [100, 101, 102, 103, 104, 105, 106, 107]) M M7 := gw_fg.tr hF2 (gw_fg.wk hfr9 (by decide))
    clear hfr9
    refine lv_if_eq (tgt := 31) hx hb d_Mo_catalogue_17 (by decide) (fun c17 => ?_) (fun c17 => ?_)
    · refine lv_aload_n hx hb d_Mo_catalogue_31 rfl (lv_at hl 0 rfl) ?_
      refine lv_iload_n hx hb d_Mo_catalogue_32 rfl (lv_at hl 1 rfl) ?_
      obtain ⟨cdo11, mko11, f1o11, f2o11, f3o11, f4o11, f5o11, f6o11, f7o11, hf_0, hf_1, hf_2, hf_3, hf_4, hf_5, hf_6, hf_7, hk2o11, hk3o11, hk4o11, -, -⟩ := id hX
      refine gw_callv hS (va_runV (As := [.int k]) (rest := []) ⟨hx, hb, hml, hown, hts⟩ (m_enter l G M7 B lm sm E jb sz dr hX k  hk hsz hdr) (cwV 1 hts (gw_gv mw259 mw260 mw261 mw228 mw258) rfl rfl rfl (by decide +kernel) ⟨Nat.le_of_ble_eq_true rfl, Nat.le_of_ble_eq_true rfl⟩) (gw_pv hE hB hS hW rfl hf_0) rfl rfl hl.1 rfl (lv_room (Nat.le_of_ble_eq_true rfl)) d_Mo_catalogue_33 ⟨Nat.le_of_ble_eq_true rfl, Nat.le_of_ble_eq_true rfl⟩) (fun M13 H locs hw14 hW hS => ?_)
      obtain ⟨sz216, dr217, hb18, hb19, hX, hfr15⟩ := hw14
      have hF20 : gw_fg (gw_out [100, 101, 102, 103, 104, 105, 106, 107]) M M13 := gw_fg.tr hF10 (gw_fg.wk hfr15 (by decide))
      clear hfr15
      refine lv_aload_n hx hb d_Mo_catalogue_36 rfl (lv_at hl 0 rfl) ?_
      obtain ⟨cdo21, mko21, f1o21, f2o21, f3o21, f4o21, f5o21, f6o21, f7o21, hf_0, hf_1, hf_2, hf_3, hf_4, hf_5, hf_6, hf_7, hk2o21, hk3o21, hk4o21, -, -⟩ := id hX
      refine gw_get (ci := 5) (fs := [.int cdo21, .int (nI lm), .int sm, .int E, .ref (B 1), .ref (B 2), .int (nI sz216), .ref (B 3), .ref (B 4), .ref (B 5), .ref (B 6), .int (nI jb), .int mko21, .ref (B 7), .int (nI dr217)]) hx hb hts in_Mo hown hE.K hW hf_0 rfl 6 (by decide) (hts _ mw237) (fun _ h9 => h9) rfl d_Mo_catalogue_37 ?_
      exact gw_iret hx hb hr hlocks hS hW (Nat.le_of_ble_eq_true rfl) (Nat.le_of_ble_eq_true rfl) d_Mo_catalogue_40 ⟨sz216, dr217, (by omega), (by omega), hX, hF20⟩
    · refine lv_aload_n hx hb d_Mo_catalogue_20 rfl (lv_at hl 0 rfl) ?_
      refine lv_iload_n hx hb d_Mo_catalogue_21 rfl (lv_at hl 1 rfl) ?_
      obtain ⟨cdo22, mko22, f1o22, f2o22, f3o22, f4o22, f5o22, f6o22, f7o22, hf_0, hf_1, hf_2, hf_3, hf_4, hf_5, hf_6, hf_7, hk2o22, hk3o22, hk4o22, -, -⟩ := id hX
      refine gw_calli hS (va_runV (As := [.int k]) (rest := []) ⟨hx, hb, hml, hown, hts⟩ (m_what l G M7 B lm sm E jb sz dr hX k  hk) (cwV 1 hts (gw_gv mw255 mw256 mw257 mw228 mw254) rfl rfl rfl (by decide +kernel) ⟨Nat.le_of_ble_eq_true rfl, Nat.le_of_ble_eq_true rfl⟩) (gw_pv hE hB hS hW rfl hf_0) rfl rfl hl.1 rfl (lv_room (Nat.le_of_ble_eq_true rfl)) d_Mo_catalogue_22 ⟨Nat.le_of_ble_eq_true rfl, Nat.le_of_ble_eq_true rfl⟩) (fun r23 M24 H locs hw25 hW hS => ?_)
      obtain ⟨hX, hfr26⟩ := hw25
      have hF27 : gw_fg (gw_out [100, 101, 102, 103, 104, 105, 106, 107]) M M24 := gw_fg.tr hF10 (gw_fg.wk hfr26 (by decide))
      clear hfr26
      refine lv_iconst (v := 4) hx hb d_Mo_catalogue_25 (by decide) ?_
      refine lv_icmp_eq (tgt := 31) hx hb d_Mo_catalogue_26 (by decide) (fun c26 => ?_) (fun c26 => ?_)
      · refine lv_aload_n hx hb d_Mo_catalogue_31 rfl (lv_at hl 0 rfl) ?_
        refine lv_iload_n hx hb d_Mo_catalogue_32 rfl (lv_at hl 1 rfl) ?_
        obtain ⟨cdo28, mko28, f1o28, f2o28, f3o28, f4o28, f5o28, f6o28, f7o28, hf_0, hf_1, hf_2, hf_3, hf_4, hf_5, hf_6, hf_7, hk2o28, hk3o28, hk4o28, -, -⟩ := id hX
        refine gw_callv hS (va_runV (As := [.int k]) (rest := []) ⟨hx, hb, hml, hown, hts⟩ (m_enter l G M24 B lm sm E jb sz dr hX k  hk hsz hdr) (cwV 1 hts (gw_gv mw259 mw260 mw261 mw228 mw258) rfl rfl rfl (by decide +kernel) ⟨Nat.le_of_ble_eq_true rfl, Nat.le_of_ble_eq_true rfl⟩) (gw_pv hE hB hS hW rfl hf_0) rfl rfl hl.1 rfl (lv_room (Nat.le_of_ble_eq_true rfl)) d_Mo_catalogue_33 ⟨Nat.le_of_ble_eq_true rfl, Nat.le_of_ble_eq_true rfl⟩) (fun M30 H locs hw31 hW hS => ?_)
        obtain ⟨sz233, dr234, hb35, hb36, hX, hfr32⟩ := hw31
        have hF37 : gw_fg (gw_out [100, 101, 102, 103, 104, 105, 106, 107]) M M30 := gw_fg.tr hF27 (gw_fg.wk hfr32 (by decide))
        clear hfr32
        refine lv_aload_n hx hb d_Mo_catalogue_36 rfl (lv_at hl 0 rfl) ?_
        obtain ⟨cdo38, mko38, f1o38, f2o38, f3o38, f4o38, f5o38, f6o38, f7o38, hf_0, hf_1, hf_2, hf_3, hf_4, hf_5, hf_6, hf_7, hk2o38, hk3o38, hk4o38, -, -⟩ := id hX
        refine gw_get (ci := 5) (fs := [.int cdo38, .int (nI lm), .int sm, .int E, .ref (B 1), .ref (B 2), .int (nI sz233), .ref (B 3), .ref (B 4), .ref (B 5), .ref (B 6), .int (nI jb), .int mko38, .ref (B 7), .int (nI dr234)]) hx hb hts in_Mo hown hE.K hW hf_0 rfl 6 (by decide) (hts _ mw237) (fun _ h9 => h9) rfl d_Mo_catalogue_37 ?_
        exact gw_iret hx hb hr hlocks hS hW (Nat.le_of_ble_eq_true rfl) (Nat.le_of_ble_eq_true rfl) d_Mo_catalogue_40 ⟨sz233, dr234, (by omega), (by omega), hX, hF37⟩
      · refine lv_iconst (v := -1) hx hb d_Mo_catalogue_29 (by decide) ?_
        exact gw_iret hx hb hr hlocks hS hW (Nat.le_of_ble_eq_true rfl) (Nat.le_of_ble_eq_true rfl) d_Mo_catalogue_30 ⟨sz, dr, (by omega), (by omega), hX, hF27⟩
end
