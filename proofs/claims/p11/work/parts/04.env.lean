/-! THE ENVIRONMENT OF EVERY METHOD: the tables' words (gw_N0, all of them hold in every warmed state), the classes, the old cells that are read (statics, texts). G = ((class numbers, slots), array classes, old addresses, the first new address). -/
abbrev gw_G : Type := va_G × (Nat → ClassId) × (Nat → Nat) × Nat
abbrev gw_ty (G : gw_G) : List (ClassId × FieldType) := [(G.2.1 0, .int), (G.2.1 1, .object "java/lang/Object"), (G.2.1 2, .long)]
abbrev gw_A (G : gw_G) : Nat → Prop := fun q => G.2.2.2 ≤ q
def gw_nk (w : Cond) : Bool := match w with
  | .fieldLinkNest _ _ _ _ _ _ => true
  | .methodLinkNest _ _ _ _ => true
  | .castable _ _ => true
  | .declares _ => true
  | _ => false
def gw_gk (w : Cond) : Bool := goodWord w || gw_nk w
theorem gw_nf {w : Cond} (h : gw_nk w = true) : (∃ a i b n d hh, w = .fieldLinkNest a i b n d hh) ∨ (∃ a i x hh, w = .methodLinkNest a i x hh) ∨ (∃ C T, w = .castable C T) ∨ ∃ x, w = .declares x := by
  unfold gw_nk at h
  split at h
  · exact Or.inl ⟨_, _, _, _, _, _, rfl⟩
  · exact Or.inr (Or.inl ⟨_, _, _, _, rfl⟩)
  · exact Or.inr (Or.inr (Or.inl ⟨_, _, rfl⟩))
  · exact Or.inr (Or.inr (Or.inr ⟨_, rfl⟩))
  · cases h
theorem gw_ww {w : Cond} (hg : gw_gk w = true) {s U : State} {a a' : Array Value} (hW : s.WarmedH U.vm) (h : w.before a s = true) : w.before a' U = true := by
  unfold gw_gk at hg
  rcases Bool.or_eq_true _ _ |>.mp hg with h1 | h1
  · exact word_at hW (good_of_word h1) h
  · rcases gw_nf h1 with ⟨_, _, _, _, _, _, rfl⟩ | ⟨_, _, _, _, rfl⟩ | ⟨_, _, rfl⟩ | ⟨_, rfl⟩
    · exact va_Nw.use rfl (va_Nw.warmF hW (va_Nw.of rfl h))
    · exact va_Nw.use rfl (va_Nw.warmM hW (va_Nw.of rfl h))
    · exact va_Nw.use rfl (va_Nw.warmC hW (va_Nw.of rfl h))
    · exact va_Nw.use rfl (va_Nw.warmD hW (va_Nw.of rfl h))
def gw_N0 : List Cond := lw_tbl.filter gw_gk
theorem gw_N0_gk {w : Cond} (h : w ∈ gw_N0) : gw_gk w = true := (List.mem_filter.mp h).2
theorem gw_in {w : Cond} (h : w ∈ lw_tbl) (hg : gw_gk w = true := by rfl) : w ∈ gw_N0 := List.mem_filter.mpr ⟨h, hg⟩
theorem gw_tm {w : Cond} {i : Nat} (h : tables_1[i]? = some w) : w ∈ tables_1 := List.mem_of_getElem? h
/-- where a static of references lies, in the old part of the heap -/
def gt_L (C n d : String) (A : Nat → Prop) (U : State) (H : Heap) : Prop := va_Zq C n d A U H ∧ ∃ (c : ClassId) (k : Class) (i : Nat) (f : Field) (a : Nat) (cell : Cell), U.vm.findClass C = some c ∧ U.fieldFound? C n d = some (c, k, i, f) ∧ f.isStatic = true ∧ k.statics = some a ∧ H[a]? = some cell ∧ cell.vm.isStatics = true ∧ cell.cls = c ∧ f.slot < cell.slots.size ∧ k.staticTypes[f.slot]? = some f.type ∧ ¬ A a
theorem gt_L.kept {C n d : String} {A : Nat → Prop} {U : State} {H H1 : Heap} (h : gt_L C n d A U H) (hq : ∀ a : Nat, a < H.size → ¬ A a → H1[a]? = H[a]?) : gt_L C n d A U H1 := by
  obtain ⟨h0, c, k, i, f, a, cell, h1, h2, h3, h4, h5, h6, h7, h8, h9, h10⟩ := h
  exact ⟨h0.kept hq, c, k, i, f, a, cell, h1, h2, h3, h4, by rw [hq a (Array.getElem?_eq_some_iff.mp h5).1 h10]; exact h5, h6, h7, h8, h9, h10⟩
theorem gt_L.moved {C n d : String} {A : Nat → Prop} {u U : State} {H : Heap} (hvm : u.vm.Alike U.vm) (h : gt_L C n d A u H) : gt_L C n d A U H := by
  obtain ⟨h0, c, k, i, f, a, cell, h1, h2, h3, h4, h5, h6, h7, h8, h9, h10⟩ := h
  obtain ⟨k', hi', he⟩ := State.fieldFound?_setVm hvm h2
  exact ⟨va_Zq.moved hvm h0, c, k', i, f, a, cell, by rw [hvm.findClass]; exact h1, hi', h3, by rw [he]; exact h4, h5, h6, h7, h8, by rw [he]; exact h9, h10⟩
theorem gt_L.lays {C n d : String} {A : Nat → Prop} {U : State} (h : gt_L C n d A U U.heap) (args : Array Value) : (Cond.laysStatic C n d).before args U = true := by
  obtain ⟨-, c, k, i, f, a, cell, h1, h2, h3, h4, h5, h6, h7, h8, h9, -⟩ := h
  show (Cond.laysStatic C n d).holds args U none U [] = true
  exact Cond.laysStatic_of h1 h2 h3 h4 h5 h6 h7 h8 h9
theorem gt_Z.ref {C n d : String} {v : Value} {A : Nat → Prop} {U : State} (h : va_Z C n d v A U U.heap) (hv : v.isRef = true) (args : Array Value) : (Cond.isRef (.static C n d)).before args U = true := by
  obtain ⟨cf, kf, fi, f, a, cell, h1, h2, h3, h4, h5, h6, h7, -⟩ := h
  have he : (Term.static C n d).eval args U none [] U = some v := by simp [Term.eval, State.fieldNamed?, h1, h2, h4, h5, h6, h7]
  simp only [Cond.before, Cond.holds, Cond.value, he]
  cases v <;> simp_all [Value.isRef]
theorem gt_L.ref {C n d : String} {A : Nat → Prop} {U : State} (h : gt_L C n d A U U.heap) (args : Array Value) : (Cond.isRef (.static C n d)).before args U = true := by
  rcases h.1 with h9 | ⟨t, h9⟩
  · exact gt_Z.ref h9 rfl args
  · exact gt_Z.ref h9 rfl args
theorem gt_L.of {args : Array Value} {s : State} {C n d : String} {A : Nat → Prop} (hl : (Cond.laysStatic C n d).before args s = true) (hini : (Cond.initialized C).before args s = true) (h : (Cond.isRef (.static C n d)).before args s = true) (hA : ∀ a : Nat, a < s.heap.size → ¬ A a) : gt_L C n d A s s.heap := by
  obtain ⟨c, k, i, f, a, cell, h1, h2, h3, h4, h5, h6, h7, h8, h9⟩ := Cond.laysStatic_spec hl
  exact ⟨va_Zqof hl hini h hA, c, k, i, f, a, cell, h1, h2, h3, h4, h5, h6, h7, h8, h9, hA a (Array.getElem?_eq_some_iff.mp h5).1⟩
def gw_old (G : gw_G) (U : State) (H : Heap) : Prop := va_Z "java/util/ArrayList" "DEFAULTCAPACITY_EMPTY_ELEMENTDATA" "[Ljava/lang/Object;" (.ref (G.2.2.1 0)) (gw_A G) U H ∧ va_T (.object "java/lang/Object") (G.2.2.1 0) 0 (fun _ => .null) (gw_A G) U H ∧ gt_L "java/lang/Throwable" "UNASSIGNED_STACK" "[Ljava/lang/StackTraceElement;" (gw_A G) U H ∧ gt_L "java/lang/Throwable" "SUPPRESSED_SENTINEL" "Ljava/util/List;" (gw_A G) U H ∧ vk_R "Generations" 164 "there is no such job" (G.2.2.1 1) U ∧ vk_R "Generations" 106 "n is above 99" (G.2.2.1 2) U ∧ vk_R "Generations" 121 "n is not 1 .. 99" (G.2.2.1 3) U ∧ va_AO "java/lang/Object" U ∧ va_Mi "[Ljava/lang/Object;" (G.2.2.1 4) U
theorem gw_old.keep {G : gw_G} {s : State} {H H1 : Heap} (h : gw_old G s H) (hq : ∀ q : Nat, q < H.size → ¬ gw_A G q → H1[q]? = H[q]?) : gw_old G s H1 := ⟨h.1.kept hq, h.2.1.kept hq, h.2.2.1.kept hq, h.2.2.2.1.kept hq, h.2.2.2.2⟩
theorem gw_old.move {G : gw_G} {s U : State} {H : Heap} (hW : s.WarmedH U.vm) (h : gw_old G s H) : gw_old G U H := ⟨va_Z.moved hW.alike h.1, va_T.moved hW.alike h.2.1, gt_L.moved hW.alike h.2.2.1, gt_L.moved hW.alike h.2.2.2.1, vk_R.warm hW h.2.2.2.2.1, vk_R.warm hW h.2.2.2.2.2.1, vk_R.warm hW h.2.2.2.2.2.2.1, va_AO.moved hW.alike h.2.2.2.2.2.2.2.1, va_Mi.moved hW.alike h.2.2.2.2.2.2.2.2⟩
def gw_E (G : gw_G) (U : State) : Prop := va_K G.1 vwCl (gw_ty G) U ∧ (∀ w ∈ gw_N0, w.before #[] U = true) ∧ gw_old G U U.heap
theorem gw_E.K {G : gw_G} {U : State} (h : gw_E G U) : va_K G.1 vwCl (gw_ty G) U := h.1
theorem gw_E.ts {G : gw_G} {U : State} (h : gw_E G U) (args : Array Value) : ∀ w ∈ gw_N0, w.before args U = true := fun w hw => gw_ww (gw_N0_gk hw) (State.WarmedH.refl U) (h.2.1 w hw)
theorem gw_E.nw {G : gw_G} {U : State} (h : gw_E G U) {w : Cond} (hw : w ∈ gw_N0) : va_Nw w U := h.2.1 w hw
theorem gw_E.call {G : gw_G} {s : State} {H : Heap} {locs : List Loc} (h : gw_E G s) (hS : va_S (gw_A G) s.heap H locs) {U : State} (hU : U.heap = H) (hW : s.WarmedH U.vm) : gw_E G U :=
  ⟨va_K.moved hW.alike h.1, fun w hw => gw_ww (gw_N0_gk hw) hW (h.2.1 w hw), by rw [hU]; exact gw_old.move hW (gw_old.keep h.2.2 hS.2.1)⟩
theorem gw_E.blind {G : gw_G} {U : State} (h : gw_E G U) (g : JFrame) (mk : MethodId) (a : Array Value) : gw_E G (U.calling g mk a) :=
  ⟨va_K.moved (u := U) (U := U.calling g mk a) (Vm.Alike.refl U.vm) h.1, fun w hw => gw_ww (s := U) (gw_N0_gk hw) (State.WarmedH.refl U) (h.2.1 w hw), gw_old.move (s := U) (U := U.calling g mk a) (State.WarmedH.refl U) h.2.2⟩
theorem gw_E.ao {G : gw_G} {U : State} (h : gw_E G U) : va_AO "java/lang/Object" U := h.2.2.2.2.2.2.2.2.2.1
theorem gw_E.mi {G : gw_G} {U : State} (h : gw_E G U) : va_Mi "[Ljava/lang/Object;" (G.2.2.1 4) U := h.2.2.2.2.2.2.2.2.2.2
def gw_Pc (G : gw_G) (M : gw_M) (av : List Value) : Array Value → State → Prop := va_Pc av (fun U => gw_E G U ∧ G.2.2.2 ≤ U.heap.size ∧ gw_P G.1 vwCl G.2.2.2 M U.heap)
theorem gw_blind {G : gw_G} {M : gw_M} {av : List Value} : FrameBlind (gw_Pc G M av) := fun a U g mk q => by
  obtain ⟨q0, q1, q2, q3⟩ := q
  exact ⟨q0, q1.blind g mk a, q2, q3⟩
theorem gw_ps {G : gw_G} {M : gw_M} {As : List Value} {s : State} {H : Heap} {locs : List Loc} (hE : gw_E G s) (hB : G.2.2.2 ≤ s.heap.size) (hS : va_S (gw_A G) s.heap H locs) (hW : gw_P G.1 vwCl G.2.2.2 M H) : PreS s H (gw_Pc G M As) As :=
  ⟨gw_blind, fun _ hU hw => ⟨rfl, hE.call hS hU hw, by rw [hU]; exact Nat.le_trans hB hS.1, by rw [hU]; exact hW⟩⟩
theorem gw_pv {G : gw_G} {M : gw_M} {As : List Value} {s : State} {H : Heap} {locs : List Loc} {b r ci : Nat} {q : vw_C} {fs : List Value} (hE : gw_E G s) (hB : G.2.2.2 ≤ s.heap.size) (hS : va_S (gw_A G) s.heap H locs) (hW : gw_P G.1 vwCl G.2.2.2 M H) (hc : vwCl[ci]? = some q) (he : M b = some (r, .inr (ci, fs))) : PreV s H q.1 b (gw_Pc G M (.ref b :: As)) As :=
  ⟨gw_blind, gw_recv hE.1 hW hc he, fun _ hU hw => ⟨rfl, hE.call hS hU hw, by rw [hU]; exact Nat.le_trans hB hS.1, by rw [hU]; exact hW⟩⟩
abbrev gw_Qi (G : gw_G) (post : Int32 → gw_M → Prop) : Array Value → State → Outcome → State → Prop := va_Qi post (fun M2 t => gw_P G.1 vwCl G.2.2.2 M2 t.heap) (gw_A G)
abbrev gw_Qv (G : gw_G) (post : gw_M → Prop) : Array Value → State → Outcome → State → Prop := va_Qv post (fun M2 t => gw_P G.1 vwCl G.2.2.2 M2 t.heap) (gw_A G)
abbrev gw_Qr (G : gw_G) (post : Nat → gw_M → Prop) : Array Value → State → Outcome → State → Prop := va_Qr (fun u : Nat × gw_M => post u.1 u.2) (fun u a t => a = u.1 ∧ gw_P G.1 vwCl G.2.2.2 u.2 t.heap) (gw_A G)
section GWS
variable {l : Launch} {y : MethodName} {rm : Room} {G : gw_G} {M : gw_M} {av : List Value} {Qc : Array Value → State → Outcome → State → Prop} {mc ms : Nat} {cc : ByteArray} {maxL : Nat} {ret : Option FieldType}
theorem gw_start (hy : plainName y.cls = true) (hn : (lg_sl av).length ≤ maxL)
    (body : ∀ (p : Program) (e : Env) (s : State) (m : MethodId) (below : List Frame) (meth : Method) (c : Code), p.tables.exec = Jvm.exec → c.code = cc → meth.sig.returnType = ret → c.maxLocals = maxL → s.vm.findClass y.cls = some m.cls → meth.locks = false → meth.name = y.name → gw_E G s → G.2.2.2 ≤ s.heap.size → gw_P G.1 vwCl G.2.2.2 M s.heap →
      ∀ ls : Array Slot, lv_has ls maxL (lv_args 0 av) → W p l e rm s m av.toArray below meth c s.heap [] 0 0 (MQ below Qc av.toArray s mc ms (gw_A G)) (F0 m 0 ls [])) :
    Met l y [.code y cc maxL ret] rm (gw_Pc G M av) Qc mc ms (gw_A G) := by
  refine Met.ofW (cc := cc) (maxL := maxL) (ret := ret) hy rfl ?_
  intro p e s m args below meth c s₁ B hml hv
  obtain ⟨rfl, hE, hB, hW⟩ := hv
  have hl := lv_entry av (n := maxL) hn
  rw [lg_entry_eq]
  generalize (lg_sl av ++ List.replicate (maxL - (lg_sl av).length) Slot.unset).toArray = ls at hl ⊢
  exact body p e s m below meth c B.exec B.bytes B.returns hml (findClass_of_methodNamed B.named) B.notSynchronized (name_of_methodNamed B.named B.method).1 hE hB hW ls hl
end GWS
section GWE
variable {p : Program} {l : Launch} {e : Env} {R : Room} {s : State} {m : MethodId} {args : Array Value} {below : List Frame} {meth : Method} {c : Code} {H : Heap} {locs : List Loc} {cells slots : Nat} {Q : State → Prop}
variable {G : gw_G} {M2 : gw_M} {mc ms pc : Nat} {cc : ByteArray} {ls : Array Slot} {st0 rest : List Value} {a : Array Value}
theorem gw_iret {post : Int32 → gw_M → Prop} {v : Int32} (hx : p.tables.exec = Jvm.exec) (hb : c.code = cc) (hr : meth.sig.returnType = some .int) (hlocks : meth.locks = false) (hS : va_S (gw_A G) s.heap H locs) (hW : gw_P G.1 vwCl G.2.2.2 M2 H) (hc : cells ≤ mc) (hs : slots ≤ ms) (hdg : decode cc pc = .ok (.ireturn, 1)) (hp : post v M2) :
    W p l e R s m args below meth c H locs cells slots (MQ below (gw_Qi G post) args s mc ms (gw_A G)) (F0 m pc ls [.int v]) :=
  W.widen hc hs (W.iret hx hb hr (fun t ht _ => ⟨⟨v, M2, rfl, hp, by show gw_P G.1 vwCl G.2.2.2 M2 t.heap; rw [ht]; exact hW⟩, hS.F ht⟩) hS.2.2 hdg hlocks)
theorem gw_zret {post : Int32 → gw_M → Prop} {v : Int32} {ty : FieldType} (hx : p.tables.exec = Jvm.exec) (hb : c.code = cc) (hr : meth.sig.returnType = some ty) (hlocks : meth.locks = false) (hn : narrow ty (.int v) = .int v) (hS : va_S (gw_A G) s.heap H locs) (hW : gw_P G.1 vwCl G.2.2.2 M2 H) (hc : cells ≤ mc) (hs : slots ≤ ms) (hdg : decode cc pc = .ok (.ireturn, 1)) (hp : post v M2) :
    W p l e R s m args below meth c H locs cells slots (MQ below (gw_Qi G post) args s mc ms (gw_A G)) (F0 m pc ls [.int v]) :=
  W.widen hc hs (W.zret hx hb hr hn (fun t ht _ => ⟨⟨v, M2, rfl, hp, by show gw_P G.1 vwCl G.2.2.2 M2 t.heap; rw [ht]; exact hW⟩, hS.F ht⟩) hS.2.2 hdg hlocks)
theorem gw_vret {post : gw_M → Prop} (hx : p.tables.exec = Jvm.exec) (hb : c.code = cc) (hr : meth.sig.returnType = none) (hlocks : meth.locks = false) (hS : va_S (gw_A G) s.heap H locs) (hW : gw_P G.1 vwCl G.2.2.2 M2 H) (hc : cells ≤ mc) (hs : slots ≤ ms) (hdg : decode cc pc = .ok (.return_, 1)) (hp : post M2) :
    W p l e R s m args below meth c H locs cells slots (MQ below (gw_Qv G post) args s mc ms (gw_A G)) (F0 m pc ls []) :=
  W.widen hc hs (W.vret hx hb hr (fun t ht _ => ⟨⟨M2, rfl, hp, by show gw_P G.1 vwCl G.2.2.2 M2 t.heap; rw [ht]; exact hW⟩, hS.F ht⟩) hS.2.2 hdg hlocks)
theorem gw_aret {post : Nat → gw_M → Prop} {v : Nat} {rt : FieldType} (hx : p.tables.exec = Jvm.exec) (hb : c.code = cc) (hr : meth.sig.returnType = some rt) (hlocks : meth.locks = false) (hrt : (∃ n, rt = .object n) ∨ ∃ t, rt = .array t) (hS : va_S (gw_A G) s.heap H locs) (hW : gw_P G.1 vwCl G.2.2.2 M2 H) (hc : cells ≤ mc) (hs : slots ≤ ms) (hdg : decode cc pc = .ok (.areturn, 1)) (hp : post v M2) :
    W p l e R s m args below meth c H locs cells slots (MQ below (gw_Qr G post) args s mc ms (gw_A G)) (F0 m pc ls [.ref v]) :=
  W.widen hc hs (W.aret hx hb hr hrt (Or.inr ⟨v, rfl⟩) (fun t ht _ => ⟨⟨(v, M2), v, rfl, hp, rfl, by rw [ht]; exact hW⟩, hS.F ht⟩) hS.2.2 hdg hlocks)
theorem gw_calli {post : Int32 → gw_M → Prop} (hS : va_S (gw_A G) s.heap H locs) (hr : va_Run p l e R s m args below meth c H locs cells slots mc ms (F0 m pc ls st0) rest (gw_Qi G post a) (gw_A G))
    (kk : ∀ (r : Int32) (M2 : gw_M) (H1 : Heap) (locs1 : List Loc), post r M2 → gw_P G.1 vwCl G.2.2.2 M2 H1 → va_S (gw_A G) s.heap H1 locs1 → W p l e R s m args below meth c H1 locs1 (cells + mc) (slots + ms) Q (F0 m (pc + 3) ls (.int r :: rest))) : W p l e R s m args below meth c H locs cells slots Q (F0 m pc ls st0) :=
  va_calli hr hS (fun _ _ h => h) (fun _ h => h) (fun r u t H1 locs1 ht _ hw hB _ _ hS1 => kk r u H1 locs1 hw (by rw [← ht]; exact hB) hS1)
theorem gw_callv {post : gw_M → Prop} (hS : va_S (gw_A G) s.heap H locs) (hr : va_Run p l e R s m args below meth c H locs cells slots mc ms (F0 m pc ls st0) rest (gw_Qv G post a) (gw_A G))
    (kk : ∀ (M2 : gw_M) (H1 : Heap) (locs1 : List Loc), post M2 → gw_P G.1 vwCl G.2.2.2 M2 H1 → va_S (gw_A G) s.heap H1 locs1 → W p l e R s m args below meth c H1 locs1 (cells + mc) (slots + ms) Q (F0 m (pc + 3) ls rest)) : W p l e R s m args below meth c H locs cells slots Q (F0 m pc ls st0) :=
  va_callv hr hS (fun _ _ h => h) (fun _ h => h) (fun u t H1 locs1 ht _ hw hB _ _ hS1 => kk u H1 locs1 hw (by rw [← ht]; exact hB) hS1)
theorem gw_callr {post : Nat → gw_M → Prop} (hS : va_S (gw_A G) s.heap H locs) (hr : va_Run p l e R s m args below meth c H locs cells slots mc ms (F0 m pc ls st0) rest (gw_Qr G post a) (gw_A G))
    (kk : ∀ (v : Nat) (M2 : gw_M) (H1 : Heap) (locs1 : List Loc), post v M2 → gw_P G.1 vwCl G.2.2.2 M2 H1 → va_S (gw_A G) s.heap H1 locs1 → W p l e R s m args below meth c H1 locs1 (cells + mc) (slots + ms) Q (F0 m (pc + 3) ls (.ref v :: rest))) : W p l e R s m args below meth c H locs cells slots Q (F0 m pc ls st0) := by
  refine va_callr hr hS (fun _ _ h => h) (fun _ h => h) (fun u ra t H1 locs1 ht _ hw hB _ _ hS1 => ?_)
  obtain ⟨e1, hB⟩ := hB
  subst e1
  exact kk u.1 u.2 H1 locs1 hw (by rw [← ht]; exact hB) hS1
end GWE
/-! what stays: the cells of the roles that P names are the same in both maps -/
def gw_fr (P : Nat → Prop) (M M2 : gw_M) : Prop := ∀ (a r : Nat) (e : va_E), P r → (M a = some (r, e) ↔ M2 a = some (r, e))
theorem gw_fr.rf {P : Nat → Prop} {M : gw_M} : gw_fr P M M := fun _ _ _ _ => Iff.rfl
theorem gw_fr.tr {P : Nat → Prop} {M M1 M2 : gw_M} (h1 : gw_fr P M M1) (h2 : gw_fr P M1 M2) : gw_fr P M M2 := fun a r e h => (h1 a r e h).trans (h2 a r e h)
theorem gw_fr.up {P : Nat → Prop} {M M1 : gw_M} {a ra r : Nat} {e0 e : va_E} (h : gw_fr P M M1) (ha : M1 a = some (ra, e0)) (h0 : ¬ P ra) (h1 : ¬ P r) : gw_fr P M (gw_up M1 a r e) := by
  intro b rb eb hb
  rw [h b rb eb hb]
  by_cases q : b = a
  · subst q
    rw [gw_up_self, ha]
    exact Iff.intro (fun z => by cases z; exact absurd hb h0) (fun z => by cases z; exact absurd hb h1)
  · rw [gw_up_ne q]
theorem gw_fr.new {P : Nat → Prop} {M M1 : gw_M} {a r : Nat} {e : va_E} (h : gw_fr P M M1) (ha : M1 a = none) (h1 : ¬ P r) : gw_fr P M (gw_up M1 a r e) := by
  intro b rb eb hb
  rw [h b rb eb hb]
  by_cases q : b = a
  · subst q
    rw [gw_up_self, ha]
    exact Iff.intro (fun z => by cases z) (fun z => by cases z; exact absurd hb h1)
  · rw [gw_up_ne q]
abbrev gw_out (L : List Nat) (r : Nat) : Prop := r ∉ L
theorem gw_fr.wk {L L0 : List Nat} {M M2 : gw_M} (h : gw_fr (gw_out L) M M2) (hs : ∀ x ∈ L, x ∈ L0) : gw_fr (gw_out L0) M M2 := fun a r e hr => h a r e (fun z => hr (hs r z))
theorem gw_good {w : Cond} (h : w ∈ gw_N0) (hg : goodWord w = true) : w ∈ gw_N0 ∧ ((w.onTables && w.keeps) = true ∨ ∃ ty, w = .arrayClass ty) := ⟨h, good_of_word hg⟩
theorem gw_g1 {w : Cond} (h : w ∈ gw_N0) (hg : goodWord w = true := by rfl) : GoodIn gw_N0 [w] := fun x hx => by
  rcases List.mem_cons.mp hx with rfl | hx
  · exact gw_good h hg
  · cases hx
theorem gw_gv {own C : String} {idx : Nat} {y : MethodName} {w : Cond} (h1 : Cond.methodLink own idx y ∈ gw_N0) (h2 : Cond.instanceMethod y ∈ gw_N0) (h3 : Cond.selects C y y ∈ gw_N0) (h4 : Cond.initialized C ∈ gw_N0) (h5 : w ∈ gw_N0) (hg : goodWord w = true := by rfl) : GoodIn gw_N0 (wsV own idx C y [w]) := fun x hx => by
  unfold wsV at hx
  simp only [List.cons_append, List.nil_append, List.mem_cons, List.not_mem_nil, or_false] at hx
  rcases hx with rfl | rfl | rfl | rfl | rfl
  · exact gw_good h1 rfl
  · exact gw_good h2 rfl
  · exact gw_good h3 rfl
  · exact gw_good h4 rfl
  · exact gw_good h5 hg
theorem gw_gs {own : String} {idx : Nat} {y : MethodName} {w : Cond} (h1 : Cond.methodLink own idx y ∈ gw_N0) (h2 : Cond.static y ∈ gw_N0) (h3 : Cond.initialized own ∈ gw_N0) (h5 : w ∈ gw_N0) (hg : goodWord w = true := by rfl) : GoodIn gw_N0 (wsS own idx y [w]) := fun x hx => by
  unfold wsS at hx
  simp only [List.cons_append, List.nil_append, List.mem_cons, List.not_mem_nil, or_false] at hx
  rcases hx with rfl | rfl | rfl | rfl
  · exact gw_good h1 rfl
  · exact gw_good h2 rfl
  · exact gw_good h3 rfl
  · exact gw_good h5 hg
theorem gw_gt {own : String} {idx : Nat} {y : MethodName} {w : Cond} (h1 : Cond.methodLink own idx y ∈ gw_N0) (h2 : Cond.static y ∈ gw_N0) (h3 : Cond.initialized y.cls ∈ gw_N0) (h5 : w ∈ gw_N0) (hg : goodWord w = true := by rfl) : GoodIn gw_N0 (va_wsS own idx y [w]) := fun x hx => by
  unfold va_wsS at hx
  simp only [List.cons_append, List.nil_append, List.mem_cons, List.not_mem_nil, or_false] at hx
  rcases hx with rfl | rfl | rfl | rfl
  · exact gw_good h1 rfl
  · exact gw_good h2 rfl
  · exact gw_good h3 rfl
  · exact gw_good h5 hg
theorem in_X1 : ∀ w ∈ u_ws "Generations" F_X 9, w ∈ lw_tbl := by decide +kernel
theorem in_X : ∀ w ∈ u_ws "Generations" F_X 9, w ∈ gw_N0 := fun w h => gw_in (in_X1 w h) (List.all_eq_true.mp (show (u_ws "Generations" F_X 9).all gw_gk = true by decide +kernel) w h)
theorem in_Row1 : ∀ w ∈ u_ws "Generations$Row" F_Row 2, w ∈ lw_tbl := by decide +kernel
theorem in_Row : ∀ w ∈ u_ws "Generations$Row" F_Row 2, w ∈ gw_N0 := fun w h => gw_in (in_Row1 w h) (List.all_eq_true.mp (show (u_ws "Generations$Row" F_Row 2).all gw_gk = true by decide +kernel) w h)
theorem in_Gen1 : ∀ w ∈ u_ws "Generations$Generation" F_Gen 5, w ∈ lw_tbl := by decide +kernel
theorem in_Gen : ∀ w ∈ u_ws "Generations$Generation" F_Gen 5, w ∈ gw_N0 := fun w h => gw_in (in_Gen1 w h) (List.all_eq_true.mp (show (u_ws "Generations$Generation" F_Gen 5).all gw_gk = true by decide +kernel) w h)
theorem in_Job1 : ∀ w ∈ u_ws "Generations$Job" F_Job 2, w ∈ lw_tbl := by decide +kernel
theorem in_Job : ∀ w ∈ u_ws "Generations$Job" F_Job 2, w ∈ gw_N0 := fun w h => gw_in (in_Job1 w h) (List.all_eq_true.mp (show (u_ws "Generations$Job" F_Job 2).all gw_gk = true by decide +kernel) w h)
theorem in_AL1 : ∀ w ∈ u_ws "java/util/ArrayList" F_AL 3, w ∈ lw_tbl := by decide +kernel
theorem in_AL : ∀ w ∈ u_ws "java/util/ArrayList" F_AL 3, w ∈ gw_N0 := fun w h => gw_in (in_AL1 w h) (List.all_eq_true.mp (show (u_ws "java/util/ArrayList" F_AL 3).all gw_gk = true by decide +kernel) w h)
theorem in_Mo1 : ∀ w ∈ u_ws "GenerationsModel" F_Mo 15, w ∈ lw_tbl := by decide +kernel
theorem in_Mo : ∀ w ∈ u_ws "GenerationsModel" F_Mo 15, w ∈ gw_N0 := fun w h => gw_in (in_Mo1 w h) (List.all_eq_true.mp (show (u_ws "GenerationsModel" F_Mo 15).all gw_gk = true by decide +kernel) w h)
