/-! THE LAW'S START: the environment out of what the Statement gives -/
theorem gw_ai {args : Array Value} {s : State} (h : (Cond.arrayClass .int).before args s = true) : ∃ c : ClassId, ArrOfT s c .int ∧ va_RA s c .int := by
  obtain ⟨c, k, comp, h1, h2, h3⟩ := Cond.arrayClass_spec h
  exact ⟨c, fun _ _ => ⟨(fun q hq => by cases hq), k, h2, comp, h3⟩, h1⟩
theorem gw_al {args : Array Value} {s : State} (h : (Cond.arrayClass .long).before args s = true) : ∃ c : ClassId, ArrOfT s c .long ∧ va_RA s c .long := by
  obtain ⟨c, k, comp, h1, h2, h3⟩ := Cond.arrayClass_spec h
  exact ⟨c, fun _ _ => ⟨(fun q hq => by cases hq), k, h2, comp, h3⟩, h1⟩
theorem gw_ao {args : Array Value} {s : State} {C : String} (h : (Cond.arrayOver (.object C)).before args s = true) : ∃ c : ClassId, ArrOfT s c (.object C) ∧ va_RA s c (.object C) := by
  obtain ⟨comp, c, k, h1, -, h2, h3, h4⟩ := Cond.arrayOver_spec h
  exact ⟨c, fun _ _ => ⟨(fun q hq => by cases hq), k, h2, comp, h3⟩, k, comp, h2, h3, h1, h4⟩
set_option maxHeartbeats 4000000 in
set_option maxRecDepth 100000 in
theorem gw_law {s : State} {b : Nat} (hts : ∀ w ∈ lw_tbl, w.before #[Value.ref b] s = true) (hgv : (Jvm.Cond.and given_1 narrow_1).before #[Value.ref b] s = true) : ∃ G : gw_G, G.2.2.2 = s.heap.size ∧ gw_E G s := by
  have hg := flat_of_before _ hgv
  have hA : ∀ a : Nat, a < s.heap.size → ¬ (fun q : Nat => s.heap.size ≤ q) a := fun a h9 => Nat.not_le.mpr h9
  obtain ⟨c0, i0, k0⟩ := u_known (C := "Generations") (T := F_X) (N := 9) (n := 9) hts in_X1 (hts (.instantiable "Generations" 9) (by decide +kernel))
  obtain ⟨c1, i1, k1⟩ := u_known (C := "Generations$Row") (T := F_Row) (N := 2) (n := 2) hts in_Row1 (hts (.instantiable "Generations$Row" 2) (by decide +kernel))
  obtain ⟨c2, i2, k2⟩ := u_known (C := "Generations$Generation") (T := F_Gen) (N := 5) (n := 5) hts in_Gen1 (hts (.instantiable "Generations$Generation" 5) (by decide +kernel))
  obtain ⟨c3, i3, k3⟩ := u_known (C := "Generations$Job") (T := F_Job) (N := 2) (n := 2) hts in_Job1 (hts (.instantiable "Generations$Job" 2) (by decide +kernel))
  obtain ⟨c4, i4, k4⟩ := u_known (C := "java/util/ArrayList") (T := F_AL) (N := 3) (n := 3) hts in_AL1 (hts (.instantiable "java/util/ArrayList" 3) (by decide +kernel))
  obtain ⟨c5, i5, k5⟩ := u_known (C := "GenerationsModel") (T := F_Mo) (N := 15) (n := 15) hts in_Mo1 (hts (.instantiable "GenerationsModel" 15) (by decide +kernel))
  obtain ⟨dC, dI, hKc⟩ : ∃ (dC : Nat → ClassId) (dI : Nat → Nat → Nat), ∀ (k : Nat) (q : vw_C), vwCl[k]? = some q → u_Kn s q.1 q.2.1 q.2.2 (dC k) (dI k) := by
    refine ⟨fun k => match k with | 0 => c0 | 1 => c1 | 2 => c2 | 3 => c3 | 4 => c4 | _ => c5, fun k => match k with | 0 => i0 | 1 => i1 | 2 => i2 | 3 => i3 | 4 => i4 | _ => i5, ?_⟩
    intro k q hq
    match k, hq with
    | 0, hq => cases hq; exact k0
    | 1, hq => cases hq; exact k1
    | 2, hq => cases hq; exact k2
    | 3, hq => cases hq; exact k3
    | 4, hq => cases hq; exact k4
    | 5, hq => cases hq; exact k5
    | k + 6, hq => simp [vwCl] at hq
  obtain ⟨a0, e0⟩ := gw_ai (hts (.arrayClass .int) (by decide +kernel))
  obtain ⟨a1, e1⟩ := gw_ao (hts (.arrayOver (.object "java/lang/Object")) (by decide +kernel))
  obtain ⟨a2, e2⟩ := gw_al (hts (.arrayClass .long) (by decide +kernel))
  obtain ⟨t0, ht0, hT0⟩ := va_Tof (f := fun _ => .null) (N := 0) (A := fun q : Nat => s.heap.size ≤ q) (by decide) (hg (.arrayOf (.static "java/util/ArrayList" "DEFAULTCAPACITY_EMPTY_ELEMENTDATA" "[Ljava/lang/Object;") (.object "java/lang/Object")) (by decide +kernel)) (va_eqt (hg (.eq (.length (.static "java/util/ArrayList" "DEFAULTCAPACITY_EMPTY_ELEMENTDATA" "[Ljava/lang/Object;")) (.int 0)) (by decide +kernel))) (fun j hj => absurd hj (Nat.not_lt_zero j)) hA
  have hZ0 : va_Z "java/util/ArrayList" "DEFAULTCAPACITY_EMPTY_ELEMENTDATA" "[Ljava/lang/Object;" (.ref t0) (fun q : Nat => s.heap.size ≤ q) s s.heap := va_Zref (hts (.laysStatic "java/util/ArrayList" "DEFAULTCAPACITY_EMPTY_ELEMENTDATA" "[Ljava/lang/Object;") (by decide +kernel)) (hts (.initialized "java/util/ArrayList") (by decide +kernel)) ht0 hA
  have hU := gt_L.of (A := fun q : Nat => s.heap.size ≤ q) (hts (.laysStatic "java/lang/Throwable" "UNASSIGNED_STACK" "[Ljava/lang/StackTraceElement;") (by decide +kernel)) (hts (.initialized "java/lang/Throwable") (by decide +kernel)) (hg (.isRef (.static "java/lang/Throwable" "UNASSIGNED_STACK" "[Ljava/lang/StackTraceElement;")) (by decide +kernel)) hA
  have hV := gt_L.of (A := fun q : Nat => s.heap.size ≤ q) (hts (.laysStatic "java/lang/Throwable" "SUPPRESSED_SENTINEL" "Ljava/util/List;") (by decide +kernel)) (hts (.initialized "java/lang/Throwable") (by decide +kernel)) (hg (.isRef (.static "java/lang/Throwable" "SUPPRESSED_SENTINEL" "Ljava/util/List;")) (by decide +kernel)) hA
  have w1 := hts (.stringRef "Generations" 164 "there is no such job") (by decide +kernel)
  have w2 := hts (.stringRef "Generations" 106 "n is above 99") (by decide +kernel)
  have w3 := hts (.stringRef "Generations" 121 "n is not 1 .. 99") (by decide +kernel)
  obtain ⟨-, -, -, s1, -, -, -, -, -, v1⟩ := Cond.stringRef_spec k0.2.1 w1
  obtain ⟨-, -, -, s2, -, -, -, -, -, v2⟩ := Cond.stringRef_spec k0.2.1 w2
  obtain ⟨-, -, -, s3, -, -, -, -, -, v3⟩ := Cond.stringRef_spec k0.2.1 w3
  obtain ⟨mi, hmi⟩ := va_Mi.of (hg (.isRef (.mirror "[Ljava/lang/Object;")) (by decide +kernel))
  refine ⟨((dC, dI), fun k => match k with | 0 => a0 | 1 => a1 | _ => a2, fun k => match k with | 0 => t0 | 1 => s1 | 2 => s2 | 3 => s3 | _ => mi, s.heap.size), rfl, ⟨hKc, ?_⟩, ?_, hZ0, hT0, hU, hV, vk_R.of w1 v1, vk_R.of w2 v2, vk_R.of w3 v3, va_AO.of (hts (.arrayOver (.object "java/lang/Object")) (by decide +kernel)), hmi⟩
  · intro k q hq
    match k, hq with
    | 0, hq => cases hq; exact e0
    | 1, hq => cases hq; exact e1
    | 2, hq => cases hq; exact e2
    | k + 3, hq => simp [gw_ty] at hq
  · intro w hw
    exact gw_ww (gw_N0_gk hw) (State.WarmedH.refl s) (hts w (List.mem_filter.mp hw).1)
/-- the empty map -/
theorem gw_P.nil {D : va_G} {cl : List vw_C} {B0 : Nat} {H : Heap} : gw_P D cl B0 (fun _ => none) H := ⟨[], fun k q h => by simp at h, ⟨fun i j p q h => by simp at h, fun k q h => by simp at h⟩, fun a r e h => by cases h⟩
