/-! WORLDS AS MAPS. A world is a map from addresses to (role, entry); the heap holds it (gw_P). Roles are ghost numbers: cells of different roles are apart. Every contract takes the whole map and hands back the whole map: no cutting out, no joining. -/
abbrev gw_M : Type := Nat → Option (Nat × va_E)
def gw_up (M : gw_M) (a r : Nat) (e : va_E) : gw_M := fun j => if j = a then some (r, e) else M j
theorem gw_up_self (M : gw_M) (a r : Nat) (e : va_E) : gw_up M a r e a = some (r, e) := by simp [gw_up]
theorem gw_up_ne {M : gw_M} {a r b : Nat} {e : va_E} (h : b ≠ a) : gw_up M a r e b = M b := by simp [gw_up, h]
theorem gw_role {M : gw_M} {a b ra rb : Nat} {ea eb : va_E} (ha : M a = some (ra, ea)) (hb : M b = some (rb, eb)) (h : ra ≠ rb) : b ≠ a := by
  intro e
  subst e
  rw [ha] at hb
  exact h (congrArg Prod.fst (Option.some.inj hb))
/-- a cell of another role stays -/
theorem gw_keep {M : gw_M} {a b ra rb r : Nat} {ea eb e : va_E} (hb : M b = some (rb, eb)) (ha : M a = some (ra, ea)) (h : ra ≠ rb) : gw_up M a r e b = some (rb, eb) := by
  rw [gw_up_ne (gw_role ha hb h)]
  exact hb
/-- a cell that was there stays when a new one comes -/
theorem gw_keepN {M : gw_M} {a b rb r : Nat} {eb e : va_E} (hb : M b = some (rb, eb)) (ha : M a = none) : gw_up M a r e b = some (rb, eb) := by
  rw [gw_up_ne (fun q => by rw [q, ha] at hb; cases hb)]
  exact hb
theorem gw_newNe {M : gw_M} {a b rb : Nat} {eb : va_E} (hb : M b = some (rb, eb)) (ha : M a = none) : b ≠ a := fun q => by rw [q, ha] at hb; cases hb
def gw_P (D : va_G) (cl : List vw_C) (B0 : Nat) (M : gw_M) (H : Heap) : Prop := ∃ ws : va_W, va_P D cl ws H ∧ va_D (fun q => B0 ≤ q) ws ∧ ∀ (a r : Nat) (e : va_E), M a = some (r, e) → (a, e) ∈ ws
theorem gw_P.at {D : va_G} {cl : List vw_C} {B0 : Nat} {M : gw_M} {H : Heap} (h : gw_P D cl B0 M H) {a r : Nat} {e : va_E} (ha : M a = some (r, e)) : va_at D cl (a, e) H ∧ B0 ≤ a := by
  obtain ⟨ws, hP, hD, hM⟩ := h
  obtain ⟨k, hk⟩ := List.getElem?_of_mem (hM _ _ _ ha)
  exact ⟨hP k _ hk, hD.2 k _ hk⟩
theorem gw_P.lt {D : va_G} {cl : List vw_C} {B0 : Nat} {M : gw_M} {H : Heap} (h : gw_P D cl B0 M H) {a r : Nat} {e : va_E} (ha : M a = some (r, e)) : a < H.size := (h.at ha).1.lt
theorem gw_P.kept {D : va_G} {cl : List vw_C} {B0 : Nat} {M : gw_M} {H H1 : Heap} (h : gw_P D cl B0 M H) (hq : ∀ q : Nat, q < H.size → H1[q]? = H[q]?) : gw_P D cl B0 M H1 := by
  obtain ⟨ws, hP, hD, hM⟩ := h
  exact ⟨ws, hP.kept (fun k q hk => hq _ (hP k q hk).lt), hD, hM⟩
theorem gw_set {ws : va_W} {M : gw_M} {k a r : Nat} {e0 e : va_E} (hk : ws[k]? = some (a, e0)) (hM : ∀ (a r : Nat) (e : va_E), M a = some (r, e) → (a, e) ∈ ws) : ∀ (b r' : Nat) (e' : va_E), gw_up M a r e b = some (r', e') → (b, e') ∈ ws.set k (a, e) := by
  intro b r' e' h
  have hl := (List.getElem?_eq_some_iff.mp hk).1
  by_cases hb : b = a
  · subst hb
    rw [gw_up_self] at h
    have h2 : e = e' := congrArg Prod.snd (Option.some.inj h)
    subst h2
    exact List.mem_of_getElem? (List.getElem?_set_self hl)
  · rw [gw_up_ne hb] at h
    obtain ⟨j, hj⟩ := List.getElem?_of_mem (hM _ _ _ h)
    have hjk : j ≠ k := by
      intro q
      subst q
      rw [hk] at hj
      exact hb (congrArg Prod.fst (Option.some.inj hj)).symm
    exact List.mem_of_getElem? (i := j) (by rw [List.getElem?_set_ne (Ne.symm hjk)]; exact hj)
theorem gw_push {ws : va_W} {M : gw_M} {a r : Nat} {e : va_E} (hM : ∀ (a r : Nat) (e : va_E), M a = some (r, e) → (a, e) ∈ ws) : ∀ (b r' : Nat) (e' : va_E), gw_up M a r e b = some (r', e') → (b, e') ∈ ws ++ [(a, e)] := by
  intro b r' e' h
  by_cases hb : b = a
  · subst hb
    rw [gw_up_self] at h
    have h2 : e = e' := congrArg Prod.snd (Option.some.inj h)
    subst h2
    exact List.mem_append_right _ List.mem_cons_self
  · rw [gw_up_ne hb] at h
    exact List.mem_append_left _ (hM _ _ _ h)
theorem gw_fresh {ws : va_W} {M : gw_M} {A : Nat → Prop} {a : Nat} {e : va_E} (hD : va_D A (ws ++ [(a, e)])) (hM : ∀ (a r : Nat) (e : va_E), M a = some (r, e) → (a, e) ∈ ws) : M a = none := by
  cases h : M a with
  | none => rfl
  | some x =>
    obtain ⟨r, e'⟩ := x
    obtain ⟨j, hj⟩ := List.getElem?_of_mem (hM _ _ _ h)
    have hl := (List.getElem?_eq_some_iff.mp hj).1
    have h1 : (ws ++ [(a, e)])[j]? = some (a, e') := by rw [List.getElem?_append_left hl]; exact hj
    have h2 : (ws ++ [(a, e)])[ws.length]? = some (a, e) := by rw [List.getElem?_append_right (Nat.le_refl _), Nat.sub_self]; rfl
    have := hD.1 _ _ _ _ h1 h2 rfl
    omega
section GWR
variable {p : Program} {l : Launch} {e : Env} {R : Room} {s : State} {m : MethodId} {args : Array Value} {below : List Frame} {meth : Method} {c : Code} {H : Heap} {locs : List Loc} {cells slots : Nat} {Q : State → Prop}
variable {cc : ByteArray} {pc : Nat} {ls : Array Slot} {rest : List Value} {D : va_G} {cl : List vw_C} {B0 a r : Nat} {tys : List (ClassId × FieldType)} {M : gw_M} {H0 : Heap}
theorem gw_get (hexec : p.tables.exec = Jvm.exec) (hb : c.code = cc) {own ref C : String} {T : u_T} {N ci index : Nat} {Ts : List Cond} (hts : ∀ w ∈ Ts, w.before args s = true) (hin : ∀ w ∈ u_ws C T N, w ∈ Ts) (hown : s.vm.findClass own = some m.cls) (hK : va_K D cl tys s) (hW : gw_P D cl B0 M H) {fs : List Value} (he : M a = some (r, .inr (ci, fs))) (hc : cl[ci]? = some (C, T, N)) (k : Nat) (hk : k < N) (hlink : (Cond.fieldLink own index ref (T k).2.1 (T k).2.2.1).before args s = true) (hsame : ∀ x, s.fieldFound? (T k).1 (T k).2.1 (T k).2.2.1 = some x → s.fieldFound? ref (T k).2.1 (T k).2.2.1 = some x) {v : Value} (hv : fs[k]? = some v) (hdg : decode cc pc = .ok (.getfield index, 3))
    (kk : W p l e R s m args below meth c H locs cells slots Q (F0 m (pc + 3) ls (v :: rest))) : W p l e R s m args below meth c H locs cells slots Q (F0 m pc ls (.ref a :: rest)) := by
  obtain ⟨ws, hP, hD, hM⟩ := hW
  obtain ⟨q0, hq⟩ := List.getElem?_of_mem (hM _ _ _ he)
  exact va_get hexec hb hts hin hown hK hP q0 hq hc k hk hlink hsame hv hdg kk
theorem gw_getN (hexec : p.tables.exec = Jvm.exec) (hb : c.code = cc) {own ref C host : String} {T : u_T} {N ci index : Nat} {Ts : List Cond} (hts : ∀ w ∈ Ts, w.before args s = true) (hin : ∀ w ∈ u_ws C T N, w ∈ Ts) (hown : s.vm.findClass own = some m.cls) (hK : va_K D cl tys s) (hW : gw_P D cl B0 M H) {fs : List Value} (he : M a = some (r, .inr (ci, fs))) (hc : cl[ci]? = some (C, T, N)) (k : Nat) (hk : k < N) (hlink : (Cond.fieldLinkNest own index ref (T k).2.1 (T k).2.2.1 host).before args s = true) (hsame : ∀ x, s.fieldFound? (T k).1 (T k).2.1 (T k).2.2.1 = some x → s.fieldFound? ref (T k).2.1 (T k).2.2.1 = some x) {v : Value} (hv : fs[k]? = some v) (hdg : decode cc pc = .ok (.getfield index, 3))
    (kk : W p l e R s m args below meth c H locs cells slots Q (F0 m (pc + 3) ls (v :: rest))) : W p l e R s m args below meth c H locs cells slots Q (F0 m pc ls (.ref a :: rest)) := by
  obtain ⟨ws, hP, hD, hM⟩ := hW
  obtain ⟨q0, hq⟩ := List.getElem?_of_mem (hM _ _ _ he)
  exact va_getN hexec hb hts hin hown hK hP q0 hq hc k hk hlink hsame hv hdg kk
theorem gw_put (hexec : p.tables.exec = Jvm.exec) (hb : c.code = cc) {own ref C : String} {T : u_T} {N ci index : Nat} {Ts : List Cond} (hts : ∀ w ∈ Ts, w.before args s = true) (hin : ∀ w ∈ u_ws C T N, w ∈ Ts) (ty0 : Nat → FieldType) (hty : ∀ k, k < N → parseFieldDescriptor (T k).2.2.1 = some (ty0 k)) (hnm : ∀ a, a < N → ∀ b, b < N → a ≠ b → (T a).2.1 ≠ (T b).2.1) (hown : s.vm.findClass own = some m.cls) (hK : va_K D cl tys s) (hW : gw_P D cl B0 M H) (hS : va_S (fun q => B0 ≤ q) H0 H locs) {fs : List Value} (he : M a = some (r, .inr (ci, fs))) (hc : cl[ci]? = some (C, T, N)) (k : Nat) (hk : k < N) (hlink : (Cond.fieldLink own index ref (T k).2.1 (T k).2.2.1).before args s = true) (hsame : ∀ x, s.fieldFound? (T k).1 (T k).2.1 (T k).2.2.1 = some x → s.fieldFound? ref (T k).2.1 (T k).2.2.1 = some x) (hfin : (T k).2.2.2 = false) {ty : FieldType} {v : Value} (hd : parseFieldDescriptor (T k).2.2.1 = some ty) (hn : narrow ty v = v) (hfit : fits ty v = true) (hl : k < fs.length) (hdg : decode cc pc = .ok (.putfield index, 3))
    (kk : ∀ (H1 : Heap) (locs1 : List Loc), gw_P D cl B0 (gw_up M a r (.inr (ci, fs.set k v))) H1 → va_S (fun q => B0 ≤ q) H0 H1 locs1 → W p l e R s m args below meth c H1 locs1 cells slots Q (F0 m (pc + 3) ls rest)) : W p l e R s m args below meth c H locs cells slots Q (F0 m pc ls (v :: .ref a :: rest)) := by
  obtain ⟨ws, hP, hD, hM⟩ := hW
  obtain ⟨q0, hq⟩ := List.getElem?_of_mem (hM _ _ _ he)
  exact va_put hexec hb hts hin ty0 hty hnm hown hK hP hD hS q0 hq hc k hk hlink hsame hfin hd hn hfit hl hdg (fun H1 locs1 hP1 hD1 hS1 => kk H1 locs1 ⟨_, hP1, hD1, gw_set hq hM⟩ hS1)
theorem gw_putN (hexec : p.tables.exec = Jvm.exec) (hb : c.code = cc) {own ref C host : String} {T : u_T} {N ci index : Nat} {Ts : List Cond} (hts : ∀ w ∈ Ts, w.before args s = true) (hin : ∀ w ∈ u_ws C T N, w ∈ Ts) (ty0 : Nat → FieldType) (hty : ∀ k, k < N → parseFieldDescriptor (T k).2.2.1 = some (ty0 k)) (hnm : ∀ a, a < N → ∀ b, b < N → a ≠ b → (T a).2.1 ≠ (T b).2.1) (hown : s.vm.findClass own = some m.cls) (hK : va_K D cl tys s) (hW : gw_P D cl B0 M H) (hS : va_S (fun q => B0 ≤ q) H0 H locs) {fs : List Value} (he : M a = some (r, .inr (ci, fs))) (hc : cl[ci]? = some (C, T, N)) (k : Nat) (hk : k < N) (hlink : (Cond.fieldLinkNest own index ref (T k).2.1 (T k).2.2.1 host).before args s = true) (hsame : ∀ x, s.fieldFound? (T k).1 (T k).2.1 (T k).2.2.1 = some x → s.fieldFound? ref (T k).2.1 (T k).2.2.1 = some x) (hfin : (T k).2.2.2 = false) {ty : FieldType} {v : Value} (hd : parseFieldDescriptor (T k).2.2.1 = some ty) (hn : narrow ty v = v) (hfit : fits ty v = true) (hl : k < fs.length) (hdg : decode cc pc = .ok (.putfield index, 3))
    (kk : ∀ (H1 : Heap) (locs1 : List Loc), gw_P D cl B0 (gw_up M a r (.inr (ci, fs.set k v))) H1 → va_S (fun q => B0 ≤ q) H0 H1 locs1 → W p l e R s m args below meth c H1 locs1 cells slots Q (F0 m (pc + 3) ls rest)) : W p l e R s m args below meth c H locs cells slots Q (F0 m pc ls (v :: .ref a :: rest)) := by
  obtain ⟨ws, hP, hD, hM⟩ := hW
  obtain ⟨q0, hq⟩ := List.getElem?_of_mem (hM _ _ _ he)
  exact va_putN hexec hb hts hin ty0 hty hnm hown hK hP hD hS q0 hq hc k hk hlink hsame hfin hd hn hfit hl hdg (fun H1 locs1 hP1 hD1 hS1 => kk H1 locs1 ⟨_, hP1, hD1, gw_set hq hM⟩ hS1)
theorem gw_putF (hexec : p.tables.exec = Jvm.exec) (hb : c.code = cc) {own ref C : String} {T : u_T} {N ci index : Nat} {Ts : List Cond} (hts : ∀ w ∈ Ts, w.before args s = true) (hin : ∀ w ∈ u_ws C T N, w ∈ Ts) (ty0 : Nat → FieldType) (hty : ∀ k, k < N → parseFieldDescriptor (T k).2.2.1 = some (ty0 k)) (hnm : ∀ a, a < N → ∀ b, b < N → a ≠ b → (T a).2.1 ≠ (T b).2.1) (hown : s.vm.findClass own = some m.cls) (hK : va_K D cl tys s) (hW : gw_P D cl B0 M H) (hS : va_S (fun q => B0 ≤ q) H0 H locs) {fs : List Value} (he : M a = some (r, .inr (ci, fs))) (hc : cl[ci]? = some (C, T, N)) (k : Nat) (hk : k < N) (hlink : (Cond.fieldLink own index ref (T k).2.1 (T k).2.2.1).before args s = true) (hsame : ∀ x, s.fieldFound? (T k).1 (T k).2.1 (T k).2.2.1 = some x → s.fieldFound? ref (T k).2.1 (T k).2.2.1 = some x) (hfin : (T k).2.2.2 = true) (hin2 : meth.name = "<init>") (hdecl : (T k).1 = own) {ty : FieldType} {v : Value} (hd : parseFieldDescriptor (T k).2.2.1 = some ty) (hn : narrow ty v = v) (hfit : fits ty v = true) (hl : k < fs.length) (hdg : decode cc pc = .ok (.putfield index, 3))
    (kk : ∀ (H1 : Heap) (locs1 : List Loc), gw_P D cl B0 (gw_up M a r (.inr (ci, fs.set k v))) H1 → va_S (fun q => B0 ≤ q) H0 H1 locs1 → W p l e R s m args below meth c H1 locs1 cells slots Q (F0 m (pc + 3) ls rest)) : W p l e R s m args below meth c H locs cells slots Q (F0 m pc ls (v :: .ref a :: rest)) := by
  obtain ⟨ws, hP, hD, hM⟩ := hW
  obtain ⟨q0, hq⟩ := List.getElem?_of_mem (hM _ _ _ he)
  exact va_putF hexec hb hts hin ty0 hty hnm hown hK hP hD hS q0 hq hc k hk hlink hsame hfin hin2 hdecl hd hn hfit hl hdg (fun H1 locs1 hP1 hD1 hS1 => kk H1 locs1 ⟨_, hP1, hD1, gw_set hq hM⟩ hS1)
theorem gw_iald (hexec : p.tables.exec = Jvm.exec) (hb : c.code = cc) (hK : va_K D cl tys s) (hW : gw_P D cl B0 M H) (t0 : Nat) {cA : ClassId} {n : Nat} {f : Nat → Int32} (ha : M a = some (r, .inl (cA, n, .inl f))) (ht : tys[t0]? = some (cA, .int)) {i : Int32} (hin : vp_in i n) (hdg : decode cc pc = .ok (.iaload, 1))
    (kk : W p l e R s m args below meth c H locs cells slots Q (F0 m (pc + 1) ls (.int (f i.toNatClampNeg) :: rest))) : W p l e R s m args below meth c H locs cells slots Q (F0 m pc ls (.int i :: .ref a :: rest)) := by
  obtain ⟨ws, hP, hD, hM⟩ := hW
  obtain ⟨q0, hq⟩ := List.getElem?_of_mem (hM _ _ _ ha)
  exact va_iald hexec hb hK hP q0 t0 hq ht hin hdg kk
theorem gw_zald (hexec : p.tables.exec = Jvm.exec) (hb : c.code = cc) (hK : va_K D cl tys s) (hW : gw_P D cl B0 M H) (t0 : Nat) {cA : ClassId} {n : Nat} {f : Nat → Int32} (ha : M a = some (r, .inl (cA, n, .inl f))) (ht : tys[t0]? = some (cA, .boolean)) {i : Int32} (hin : vp_in i n) (hdg : decode cc pc = .ok (.baload, 1))
    (kk : W p l e R s m args below meth c H locs cells slots Q (F0 m (pc + 1) ls (.int (f i.toNatClampNeg) :: rest))) : W p l e R s m args below meth c H locs cells slots Q (F0 m pc ls (.int i :: .ref a :: rest)) := by
  obtain ⟨ws, hP, hD, hM⟩ := hW
  obtain ⟨q0, hq⟩ := List.getElem?_of_mem (hM _ _ _ ha)
  exact va_zald hexec hb hK hP q0 t0 hq ht hin hdg kk
theorem gw_lald (hexec : p.tables.exec = Jvm.exec) (hb : c.code = cc) (hK : va_K D cl tys s) (hW : gw_P D cl B0 M H) (t0 : Nat) {cA : ClassId} {n : Nat} {f : Nat → Int64} (ha : M a = some (r, .inl (cA, n, .inr (.inl f)))) (ht : tys[t0]? = some (cA, .long)) {i : Int32} (hin : vp_in i n) (hdg : decode cc pc = .ok (.laload, 1))
    (kk : W p l e R s m args below meth c H locs cells slots Q (F0 m (pc + 1) ls (.long (f i.toNatClampNeg) :: rest))) : W p l e R s m args below meth c H locs cells slots Q (F0 m pc ls (.int i :: .ref a :: rest)) := by
  obtain ⟨ws, hP, hD, hM⟩ := hW
  obtain ⟨q0, hq⟩ := List.getElem?_of_mem (hM _ _ _ ha)
  exact va_lald hexec hb hK hP q0 t0 hq ht hin hdg kk
theorem gw_aald (hexec : p.tables.exec = Jvm.exec) (hb : c.code = cc) (hK : va_K D cl tys s) (hW : gw_P D cl B0 M H) (t0 : Nat) {cA : ClassId} {C : String} {n : Nat} {f : Nat → Option Nat} (ha : M a = some (r, .inl (cA, n, .inr (.inr (.inr (.inr f)))))) (ht : tys[t0]? = some (cA, .object C)) {i : Int32} (hin : vp_in i n) (hdg : decode cc pc = .ok (.aaload, 1))
    (kk : W p l e R s m args below meth c H locs cells slots Q (F0 m (pc + 1) ls (va_rf (f i.toNatClampNeg) :: rest))) : W p l e R s m args below meth c H locs cells slots Q (F0 m pc ls (.int i :: .ref a :: rest)) := by
  obtain ⟨ws, hP, hD, hM⟩ := hW
  obtain ⟨q0, hq⟩ := List.getElem?_of_mem (hM _ _ _ ha)
  exact va_aldq hexec hb hK hP q0 t0 hq ht hin hdg kk
theorem gw_alen (hexec : p.tables.exec = Jvm.exec) (hb : c.code = cc) (hK : va_K D cl tys s) (hW : gw_P D cl B0 M H) (t0 : Nat) {cA : ClassId} {x : vp_A} (ha : M a = some (r, .inl (cA, x))) {ty : FieldType} (ht : tys[t0]? = some (cA, ty)) {v : Int32} (hv : Int32.ofNat x.1 = v) (hdg : decode cc pc = .ok (.arraylength, 1))
    (kk : W p l e R s m args below meth c H locs cells slots Q (F0 m (pc + 1) ls (.int v :: rest))) : W p l e R s m args below meth c H locs cells slots Q (F0 m pc ls (.ref a :: rest)) := by
  obtain ⟨ws, hP, hD, hM⟩ := hW
  obtain ⟨q0, hq⟩ := List.getElem?_of_mem (hM _ _ _ ha)
  exact va_alen hexec hb hK hP q0 t0 hq ht hv hdg kk
theorem gw_iast (hexec : p.tables.exec = Jvm.exec) (hb : c.code = cc) (hK : va_K D cl tys s) (hW : gw_P D cl B0 M H) (hS : va_S (fun q => B0 ≤ q) H0 H locs) (t0 : Nat) {cA : ClassId} {n : Nat} {f : Nat → Int32} (ha : M a = some (r, .inl (cA, n, .inl f))) (ht : tys[t0]? = some (cA, .int)) {i : Int32} {x : Int32} (hin : vp_in i n) (hdg : decode cc pc = .ok (.iastore, 1))
    (kk : ∀ (H1 : Heap) (locs1 : List Loc), gw_P D cl B0 (gw_up M a r (.inl (cA, n, .inl (upd f i.toNatClampNeg x)))) H1 → va_S (fun q => B0 ≤ q) H0 H1 locs1 → W p l e R s m args below meth c H1 locs1 cells slots Q (F0 m (pc + 1) ls rest)) : W p l e R s m args below meth c H locs cells slots Q (F0 m pc ls (.int x :: .int i :: .ref a :: rest)) := by
  obtain ⟨ws, hP, hD, hM⟩ := hW
  obtain ⟨q0, hq⟩ := List.getElem?_of_mem (hM _ _ _ ha)
  exact va_iast hexec hb hK hP hD hS q0 t0 hq ht hin hdg (fun H1 locs1 hP1 hD1 hS1 => kk H1 locs1 ⟨_, hP1, hD1, gw_set hq hM⟩ hS1)
theorem gw_last (hexec : p.tables.exec = Jvm.exec) (hb : c.code = cc) (hK : va_K D cl tys s) (hW : gw_P D cl B0 M H) (hS : va_S (fun q => B0 ≤ q) H0 H locs) (t0 : Nat) {cA : ClassId} {n : Nat} {f : Nat → Int64} (ha : M a = some (r, .inl (cA, n, .inr (.inl f)))) (ht : tys[t0]? = some (cA, .long)) {i : Int32} {x : Int64} (hin : vp_in i n) (hdg : decode cc pc = .ok (.lastore, 1))
    (kk : ∀ (H1 : Heap) (locs1 : List Loc), gw_P D cl B0 (gw_up M a r (.inl (cA, n, .inr (.inl (vp_updL f i.toNatClampNeg x))))) H1 → va_S (fun q => B0 ≤ q) H0 H1 locs1 → W p l e R s m args below meth c H1 locs1 cells slots Q (F0 m (pc + 1) ls rest)) : W p l e R s m args below meth c H locs cells slots Q (F0 m pc ls (.long x :: .int i :: .ref a :: rest)) := by
  obtain ⟨ws, hP, hD, hM⟩ := hW
  obtain ⟨q0, hq⟩ := List.getElem?_of_mem (hM _ _ _ ha)
  exact va_last hexec hb hK hP hD hS q0 t0 hq ht hin hdg (fun H1 locs1 hP1 hD1 hS1 => kk H1 locs1 ⟨_, hP1, hD1, gw_set hq hM⟩ hS1)
theorem gw_aastO (hexec : p.tables.exec = Jvm.exec) (hb : c.code = cc) (hK : va_K D cl tys s) (hW : gw_P D cl B0 M H) (hS : va_S (fun q => B0 ≤ q) H0 H locs) (t0 ci : Nat) {E : String} {cA : ClassId} {rr : vw_C} {n v rv : Nat} {vs : List Value} {f : Nat → Option Nat} (ha : M a = some (r, .inl (cA, n, .inr (.inr (.inr (.inr f)))))) (ht : tys[t0]? = some (cA, .object E)) (hca : va_Nw (.castable rr.1 E) s) (hv : M v = some (rv, .inr (ci, vs))) (hc : cl[ci]? = some rr) {i : Int32} (hin : vp_in i n) (hdg : decode cc pc = .ok (.aastore, 1))
    (kk : ∀ (H1 : Heap) (locs1 : List Loc), gw_P D cl B0 (gw_up M a r (.inl (cA, n, .inr (.inr (.inr (.inr (va_up f i.toNatClampNeg (some v)))))))) H1 → va_S (fun q => B0 ≤ q) H0 H1 locs1 → W p l e R s m args below meth c H1 locs1 cells slots Q (F0 m (pc + 1) ls rest)) : W p l e R s m args below meth c H locs cells slots Q (F0 m pc ls (.ref v :: .int i :: .ref a :: rest)) := by
  obtain ⟨ws, hP, hD, hM⟩ := hW
  obtain ⟨q0, hq⟩ := List.getElem?_of_mem (hM _ _ _ ha)
  obtain ⟨qk, hqk⟩ := List.getElem?_of_mem (hM _ _ _ hv)
  exact va_astqO hexec hb hK hP hD hS q0 t0 qk ci hq ht hca hqk hc hin hdg (fun H1 locs1 hP1 hD1 hS1 => kk H1 locs1 ⟨_, hP1, hD1, gw_set hq hM⟩ hS1)
theorem gw_newa (hexec : p.tables.exec = Jvm.exec) (hb : c.code = cc) {atype : ArrayType} (harr : (Cond.arrayClass (newarray.typeOf atype)).before args s = true) {ty : FieldType} (hty : newarray.typeOf atype = ty) (hK : va_K D cl tys s) (hW : gw_P D cl B0 M H) (hS : va_S (fun q => B0 ≤ q) H0 H locs) (hB : B0 ≤ H0.size)
    {n : Int32} {N' : Nat} {a0 : vp_A} (ha : ∀ cA : ClassId, vp_cell cA a0 = arrV cA N' (fun _ => defaultValue ty)) (hn : ¬ n < 0) (hN : n.toNatClampNeg = N') (hbytes : N' * componentBytes ty ≤ 536870912) (hcells : cells + 1 ≤ R.cells) (hslots : slots + N' ≤ R.slots) (hdg : decode cc pc = .ok (.newarray atype, 2)) (t0 : Nat) {cA0 : ClassId} (ht : tys[t0]? = some (cA0, ty)) (hra : ∀ cA : ClassId, va_RA s cA ty → va_RA s cA0 ty → cA = cA0) (r : Nat)
    (kk : ∀ (q : Nat) (H1 : Heap), M q = none → gw_P D cl B0 (gw_up M q r (.inl (cA0, a0))) H1 → va_S (fun q => B0 ≤ q) H0 H1 locs →
      W p l e R s m args below meth c H1 locs (cells + 1) (slots + N') Q (F0 m (pc + 2) ls (.ref q :: rest))) : W p l e R s m args below meth c H locs cells slots Q (F0 m pc ls (.int n :: rest)) := by
  obtain ⟨ws, hP, hD, hM⟩ := hW
  refine va_newa hexec hb harr hty hK hP hD hS (fun q h => Nat.le_trans hB h) ha hn hN hbytes hcells hslots hdg (fun q cA H1 hK1 hP1 hD1 hS1 => ?_)
  have e1 : cA = cA0 := by
    have h1 := (hK1.2 tys.length (cA, ty) (by simp)).2
    exact hra cA h1 (hK.2 t0 _ ht).2
  subst e1
  exact kk q H1 (gw_fresh hD1 hM) ⟨_, hP1, hD1, gw_push hM⟩ hS1
theorem gw_newq (hexec : p.tables.exec = Jvm.exec) (hb : c.code = cc) {own C : String} {index : Nat} (hown : s.vm.findClass own = some m.cls) (hclink : (Cond.classLink own index C).before args s = true) (hover : va_AO C s) (hK : va_K D cl tys s) (hW : gw_P D cl B0 M H) (hS : va_S (fun q => B0 ≤ q) H0 H locs) (hB : B0 ≤ H0.size)
    {n : Int32} {N' : Nat} (hn : ¬ n < 0) (hN : n.toNatClampNeg = N') (hbytes : N' * 4 ≤ 536870912) (hcells : cells + 1 ≤ R.cells) (hslots : slots + N' ≤ R.slots) (hdg : decode cc pc = .ok (.anewarray index, 3)) (t0 : Nat) {cA0 : ClassId} (ht : tys[t0]? = some (cA0, .object C)) (r : Nat)
    (kk : ∀ (q : Nat) (H1 : Heap), M q = none → gw_P D cl B0 (gw_up M q r (.inl (cA0, N', .inr (.inr (.inr (.inr (fun _ => none))))))) H1 → va_S (fun q => B0 ≤ q) H0 H1 locs →
      W p l e R s m args below meth c H1 locs (cells + 1) (slots + N') Q (F0 m (pc + 3) ls (.ref q :: rest))) : W p l e R s m args below meth c H locs cells slots Q (F0 m pc ls (.int n :: rest)) := by
  obtain ⟨ws, hP, hD, hM⟩ := hW
  refine va_newq hexec hb hown hclink hover hK hP hD hS (fun q h => Nat.le_trans hB h) hn hN hbytes hcells hslots hdg (fun q cA H1 hK1 hP1 hD1 hS1 => ?_)
  have e1 : cA = cA0 := by
    obtain ⟨_, _, _, _, _, h1⟩ := (hK1.2 tys.length (cA, .object C) (by simp)).2
    obtain ⟨_, _, _, _, _, h2⟩ := (hK.2 t0 _ ht).2
    exact Option.some.inj (h1.symm.trans h2)
  subst e1
  exact kk q H1 (gw_fresh hD1 hM) ⟨_, hP1, hD1, gw_push hM⟩ hS1
theorem gw_new (hexec : p.tables.exec = Jvm.exec) (hb : c.code = cc) {own C : String} {T : u_T} {N ci index : Nat} {Ts : List Cond} (hts : ∀ w ∈ Ts, w.before args s = true) (hin : ∀ w ∈ u_ws C T N, w ∈ Ts) (ty : Nat → FieldType) (hty : ∀ k, k < N → parseFieldDescriptor (T k).2.2.1 = some (ty k)) (hown : s.vm.findClass own = some m.cls) (hcl : (Cond.classLink own index C).before args s = true) (hinst : (Cond.instantiable C N).before args s = true) (hini : (Cond.initialized C).before args s = true)
    (hK : va_K D cl tys s) (hW : gw_P D cl B0 M H) (hS : va_S (fun q => B0 ≤ q) H0 H locs) (hB : B0 ≤ H0.size) (hc : cl[ci]? = some (C, T, N)) {fs : List Value} (hfs : ∀ j, j < N → defaultValue (ty j) = vp_V fs j) (hcells : cells + 1 ≤ R.cells) (hslots : slots + N ≤ R.slots) (hdg : decode cc pc = .ok (.new index, 3)) (r : Nat)
    (kk : ∀ (q : Nat) (H1 : Heap), M q = none → gw_P D cl B0 (gw_up M q r (.inr (ci, fs))) H1 → va_S (fun q => B0 ≤ q) H0 H1 locs →
      W p l e R s m args below meth c H1 locs (cells + 1) (slots + N) Q (F0 m (pc + 3) ls (.ref q :: rest))) : W p l e R s m args below meth c H locs cells slots Q (F0 m pc ls rest) := by
  obtain ⟨ws, hP, hD, hM⟩ := hW
  exact va_new hexec hb hts hin ty hty hown hcl hinst hini hK hP hD hS (fun q h => Nat.le_trans hB h) hc hfs hcells hslots hdg (fun q H1 hP1 hD1 hS1 => kk q H1 (gw_fresh hD1 hM) ⟨_, hP1, hD1, gw_push hM⟩ hS1)
theorem gw_copyi (hexec : p.tables.exec = Jvm.exec) (hb : c.code = cc) (hml : c.maxLocals = ls.size) {own : String} {index : Nat} (hown : s.vm.findClass own = some m.cls) (hlink : (Cond.methodLink own index arraycopyName).before args s = true) (hnat : (Cond.native arraycopyName).before args s = true) (hstat : (Cond.static arraycopyName).before args s = true) (hini : (Cond.initialized "java/lang/System").before args s = true)
    (hK : va_K D cl tys s) (hW : gw_P D cl B0 M H) (hS : va_S (fun q => B0 ≤ q) H0 H locs) (t0 t1 : Nat) {a0 r0 : Nat} {c0 c1 : ClassId} {n0 n1 : Nat} {f g : Nat → Int32} (ha0 : M a0 = some (r0, .inl (c0, n0, .inl f))) (ha1 : M a = some (r, .inl (c1, n1, .inl g))) (ht0 : tys[t0]? = some (c0, .int)) (ht1 : tys[t1]? = some (c1, .int))
    {sp dp n : Int32} (h1 : ¬ sp < 0) (h2 : ¬ dp < 0) (h3 : ¬ n < 0) (h4 : sp.toNatClampNeg + n.toNatClampNeg ≤ n0) (h5 : dp.toNatClampNeg + n.toNatClampNeg ≤ n1)
    (hframes : 1 ≤ R.frames) (hlocals : (rest.map fun v => v.category).sum + (nativeFrameWords "java/lang/System" "arraycopy" 5 + 11) ≤ R.locals) (hdg : decode cc pc = .ok (.invokestatic index, 3))
    (kk : ∀ (H1 : Heap) (locs1 : List Loc), gw_P D cl B0 (gw_up M a r (.inl (c1, n1, .inl (va_cpy f g sp.toNatClampNeg dp.toNatClampNeg n.toNatClampNeg)))) H1 → va_S (fun q => B0 ≤ q) H0 H1 locs1 → W p l e R s m args below meth c H1 locs1 cells slots Q (F0 m (pc + 3) ls rest)) : W p l e R s m args below meth c H locs cells slots Q (F0 m pc ls (.int n :: .int dp :: .ref a :: .int sp :: .ref a0 :: rest)) := by
  obtain ⟨ws, hP, hD, hM⟩ := hW
  obtain ⟨q0, hq0⟩ := List.getElem?_of_mem (hM _ _ _ ha0)
  obtain ⟨q1, hq1⟩ := List.getElem?_of_mem (hM _ _ _ ha1)
  exact va_copyi hexec hb hml hown hlink hnat hstat hini hK hP hD hS q0 q1 t0 t1 hq0 hq1 ht0 ht1 rfl h1 h2 h3 h4 h5 (fun i _ => rfl) hframes hlocals hdg (fun H1 locs1 hP1 hD1 hS1 => kk H1 locs1 ⟨_, hP1, hD1, gw_set hq1 hM⟩ hS1)
theorem gw_recv {ci : Nat} {q : vw_C} {fs : List Value} (hK : va_K D cl tys s) (hW : gw_P D cl B0 M H) (hc : cl[ci]? = some q) (he : M a = some (r, .inr (ci, fs))) : ∃ cell : Cell, H[a]? = some cell ∧ cell.vm.isStatics = false ∧ s.vm.findClass q.1 = some cell.cls := by
  obtain ⟨ws, hP, hD, hM⟩ := hW
  obtain ⟨q0, hq⟩ := List.getElem?_of_mem (hM _ _ _ he)
  exact va_recv hK hP hc hq
end GWR
theorem gw_zi (n : Nat) : ∀ cA : ClassId, vp_cell cA (n, .inl (fun _ => 0)) = arrV cA n (fun _ => defaultValue .int) := fun _ => rfl
theorem gw_zl (n : Nat) : ∀ cA : ClassId, vp_cell cA (n, .inr (.inl (fun _ => 0))) = arrV cA n (fun _ => defaultValue .long) := fun _ => rfl
theorem gw_ri {s : State} : ∀ cA cB : ClassId, va_RA s cA .int → va_RA s cB .int → cA = cB := fun _ _ h1 h2 => Option.some.inj (h1.symm.trans h2)
theorem gw_rl {s : State} : ∀ cA cB : ClassId, va_RA s cA .long → va_RA s cB .long → cA = cB := fun _ _ h1 h2 => Option.some.inj (h1.symm.trans h2)
