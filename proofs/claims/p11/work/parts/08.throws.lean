/-! METHODS THAT THROW AN IllegalArgumentException (and never return, as these do on a fresh object), and its catching -/
def gt_X (G : gw_G) (px : gw_M → Prop) (st t : State) : Prop := ∃ M2 : gw_M, px M2 ∧ gw_P G.1 vwCl G.2.2.2 M2 t.heap ∧ va_F (gw_A G) st t
def gt_Q (G : gw_G) (px : gw_M → Prop) (mc ms : Nat) : Array Value → State → Outcome → State → Prop := fun _ st o t =>
  ∃ (q : Addr) (ce : Cell) (L : List Loc), o = .threw q ∧ gt_X G px st t ∧ t.heap[q]? = some ce ∧ ce.vm = .none ∧ st.vm.findClass "java/lang/IllegalArgumentException" = some ce.cls ∧ st.WarmedH t.vm ∧ st.sameButNew ({ t with vm := st.vm } : State) L mc ms ∧ ∀ z ∈ L, gw_A G z.base
def gt_Met (l : Launch) (y : MethodName) (ws : List Cond) (rm : Room) (G : gw_G) (M : gw_M) (av : List Value) (px : gw_M → Prop) (mc ms : Nat) : Prop :=
  MetFree l y (headSpec ws rm) (gw_Pc G M av) (fun _ _ _ _ _ => True) (gt_Q G px mc ms)
def gt_MQ (below : List Frame) (G : gw_G) (px : gw_M → Prop) (a : Array Value) (s : State) (mc ms : Nat) : State → Prop := fun t => ∃ o, t.status = .running ∧ Ended t below o ∧ gt_Q G px mc ms a s o t
def gt_W (p : Program) (l : Launch) (e : Env) (R : Room) (s : State) (m : MethodId) (args : Array Value) (below : List Frame) (meth : Method) (c : Code) (H : Heap) (locs : List Loc) (cells slots : Nat) (Q : State → Prop) (g : JFrame) (q : Addr) : Prop :=
  ∀ T : State, T.heap = H → Stand p l e R s m args below meth c T locs cells slots → ∃ t, Steps p.tables e below ((T.setTop g).pushFrame (.throwing q)) t ∧ Q t
/-- returned (as N says), or thrown -/
def gu_Q (N : Array Value → State → Outcome → State → Prop) (G : gw_G) (px : gw_M → Prop) (mc ms : Nat) : Array Value → State → Outcome → State → Prop := fun a st o t => N a st o t ∨ gt_Q G px mc ms a st o t
def gu_Met (l : Launch) (y : MethodName) (ws : List Cond) (rm : Room) (G : gw_G) (M : gw_M) (av : List Value) (N : Array Value → State → Outcome → State → Prop) (px : gw_M → Prop) (mc ms : Nat) : Prop :=
  MetFree l y (headSpec ws rm) (gw_Pc G M av) (fun _ _ _ _ _ => True) (gu_Q N G px mc ms)
def gu_MQ (below : List Frame) (N : Array Value → State → Outcome → State → Prop) (G : gw_G) (px : gw_M → Prop) (a : Array Value) (s : State) (mc ms : Nat) : State → Prop := fun t => ∃ o, t.status = .running ∧ Ended t below o ∧ gu_Q N G px mc ms a s o t
/-- an int, or a cell, read: the heap is as it was -/
def gr_Qi (post : Int32 → Prop) : Array Value → State → Outcome → State → Prop := fun _ st o t => ∃ r : Int32, o = .returned (some (.int r)) ∧ post r ∧ t.heap = st.heap
def gr_Qr (post : Nat → Prop) : Array Value → State → Outcome → State → Prop := fun _ st o t => ∃ r : Nat, o = .returned (some (.ref r)) ∧ post r ∧ t.heap = st.heap
def gu_Nr (Qc : Array Value → State → Outcome → State → Prop) (mc ms : Nat) : Array Value → State → Outcome → State → Prop := fun a st o t => Qc a st o t ∧ FrameEnd st o t [] mc ms
def gu_Nw (G : gw_G) (Qc : Array Value → State → Outcome → State → Prop) (mc ms : Nat) : Array Value → State → Outcome → State → Prop := fun a st o t => Qc a st o t ∧ ∃ L, FrameEnd st o t L mc ms ∧ ∀ q ∈ L, gw_A G q.base
section GTS
variable {l : Launch} {y : MethodName} {rm : Room} {G : gw_G} {M : gw_M} {av : List Value} {px : gw_M → Prop} {mc ms : Nat} {cc : ByteArray} {maxL : Nat} {ret : Option FieldType}
theorem gt_start (hy : plainName y.cls = true) (hn : (lg_sl av).length ≤ maxL)
    (body : ∀ (p : Program) (e : Env) (s : State) (m : MethodId) (below : List Frame) (meth : Method) (c : Code), (∀ x ∈ c.exceptionTable.toList, False) → p.tables.exec = Jvm.exec → c.code = cc → meth.sig.returnType = ret → c.maxLocals = maxL → s.vm.findClass y.cls = some m.cls → meth.locks = false → meth.name = y.name → gw_E G s → G.2.2.2 ≤ s.heap.size → gw_P G.1 vwCl G.2.2.2 M s.heap →
      ∀ ls : Array Slot, lv_has ls maxL (lv_args 0 av) → W p l e rm s m av.toArray below meth c s.heap [] 0 0 (gt_MQ below G px av.toArray s mc ms) (F0 m 0 ls [])) :
    gt_Met l y [.code y cc maxL ret] rm G M av px mc ms := by
  refine MetFree.of_bodyS (code := cc) (maxLocals := maxL) (ret := ret) hy ?_ ?_
  · intro args s m h hnm
    obtain ⟨meth, c, h1, h2, h3, h4, h5, h6, -, -⟩ := Cond.code_spec hnm (atoms_spec (ws := [.code y cc maxL ret]) h _ List.mem_cons_self)
    exact ⟨meth, c, h1, h2, h3, h4, h5, h6⟩
  · intro p e s m args below meth c s₁ B hml hv _
    obtain ⟨rfl, hE, hB, hW⟩ := hv
    have htab : ∀ x ∈ c.exceptionTable.toList, False := by
      obtain ⟨meth9, c9, h1, h2, -, -, -, -, h7, -⟩ := Cond.code_spec B.named (atoms_spec (ws := [.code y cc maxL ret]) B.pre _ List.mem_cons_self)
      cases Option.some.inj (h1.symm.trans B.method)
      cases Option.some.inj (h2.symm.trans (Stand.of_body B).code)
      intro x hx
      rw [Array.isEmpty_iff.mp h7] at hx
      cases hx
    have hh0 : s₁.heap = s.heap := by rw [B.state]; rfl
    have hl := lv_entry av (n := maxL) hn
    have K := lg_entry_eq m av maxL
    generalize (lg_sl av ++ List.replicate (maxL - (lg_sl av).length) Slot.unset).toArray = ls at hl K
    obtain ⟨t, a1, o, b1, b2, b3⟩ := body p e s m below meth c htab B.exec B.bytes B.returns hml (findClass_of_methodNamed B.named) B.notSynchronized (name_of_methodNamed B.named B.method).1 hE hB hW ls hl s₁ hh0 (Stand.of_body B)
    rw [K]
    exact ⟨t, o, a1, b1, b2, b3⟩
theorem gu_start {N : Array Value → State → Outcome → State → Prop} (hy : plainName y.cls = true) (hn : (lg_sl av).length ≤ maxL)
    (body : ∀ (p : Program) (e : Env) (s : State) (m : MethodId) (below : List Frame) (meth : Method) (c : Code), (∀ x ∈ c.exceptionTable.toList, False) → p.tables.exec = Jvm.exec → c.code = cc → meth.sig.returnType = ret → c.maxLocals = maxL → s.vm.findClass y.cls = some m.cls → meth.locks = false → meth.name = y.name → gw_E G s → G.2.2.2 ≤ s.heap.size → gw_P G.1 vwCl G.2.2.2 M s.heap →
      ∀ ls : Array Slot, lv_has ls maxL (lv_args 0 av) → W p l e rm s m av.toArray below meth c s.heap [] 0 0 (gu_MQ below N G px av.toArray s mc ms) (F0 m 0 ls [])) :
    gu_Met l y [.code y cc maxL ret] rm G M av N px mc ms := by
  refine MetFree.of_bodyS (code := cc) (maxLocals := maxL) (ret := ret) hy ?_ ?_
  · intro args s m h hnm
    obtain ⟨meth, c, h1, h2, h3, h4, h5, h6, -, -⟩ := Cond.code_spec hnm (atoms_spec (ws := [.code y cc maxL ret]) h _ List.mem_cons_self)
    exact ⟨meth, c, h1, h2, h3, h4, h5, h6⟩
  · intro p e s m args below meth c s₁ B hml hv _
    obtain ⟨rfl, hE, hB, hW⟩ := hv
    have htab : ∀ x ∈ c.exceptionTable.toList, False := by
      obtain ⟨meth9, c9, h1, h2, -, -, -, -, h7, -⟩ := Cond.code_spec B.named (atoms_spec (ws := [.code y cc maxL ret]) B.pre _ List.mem_cons_self)
      cases Option.some.inj (h1.symm.trans B.method)
      cases Option.some.inj (h2.symm.trans (Stand.of_body B).code)
      intro x hx
      rw [Array.isEmpty_iff.mp h7] at hx
      cases hx
    have hh0 : s₁.heap = s.heap := by rw [B.state]; rfl
    have hl := lv_entry av (n := maxL) hn
    have K := lg_entry_eq m av maxL
    generalize (lg_sl av ++ List.replicate (maxL - (lg_sl av).length) Slot.unset).toArray = ls at hl K
    obtain ⟨t, a1, o, b1, b2, b3⟩ := body p e s m below meth c htab B.exec B.bytes B.returns hml (findClass_of_methodNamed B.named) B.notSynchronized (name_of_methodNamed B.named B.method).1 hE hB hW ls hl s₁ hh0 (Stand.of_body B)
    rw [K]
    exact ⟨t, o, a1, b1, b2, b3⟩
end GTS
section GTC
variable {p : Program} {l : Launch} {e : Env} {R : Room} {s : State} {m : MethodId} {args : Array Value} {below : List Frame} {meth : Method} {c : Code} {locs : List Loc} {cells slots : Nat}
/-- a callee of any outcome, from the state in which it is invoked -/
theorem gt_core {y : MethodName} {ws : List Cond} {rm : Room} {Pc : Array Value → State → Prop} {Qy : Array Value → State → Outcome → State → Prop} {bytes : ByteArray} {maxL mc ms : Nat} {ret : Option FieldType} (hM : MetFree l y (headSpec ws rm) Pc (fun _ _ _ _ _ => True) Qy) (hbl : FrameBlind Pc) (hrc : rm.cells = mc) (hrs : rm.slots = ms) (hfr : rm.frames + 1 ≤ R.frames) (hlo : 8 + (maxL + 11) + rm.locals ≤ R.locals)
    (hws : ∀ w ∈ ws, ∀ (a' : Array Value) (U : State), s.WarmedH U.vm → w.before a' U = true) (hcode : Cond.code y bytes maxL ret ∈ ws) (hini : ∀ (a' : Array Value) (U : State), s.WarmedH U.vm → (Cond.initialized y.cls).before a' U = true)
    {U : State} (X : Stand p l e R s m args below meth c U locs cells slots) {g : JFrame} (hg : g.method = m) (hsz : g.locals.size = c.maxLocals) {ig : Instr} {len : Nat} (hdg : decode c.code g.pc = .ok (ig, len)) (hw : 2 * g.monitorRoom + (g.stack.map fun v => v.category).sum ≤ 8) {mk : MethodId} (hn : U.methodNamed? y = some mk) {a : Array Value} (hc1 : cells + mc ≤ R.cells) (hc2 : slots + ms ≤ R.slots) (hp : Pc a U) :
    ∃ (o : Outcome) (s₂ : State), Steps p.tables e below (doInvoke e (U.setTop g) [] mk a).1 s₂ ∧ Ended s₂ (.java g :: U.frames.tail) o ∧ Qy a (U.calling g mk a) o s₂ := by
  obtain ⟨methY, cY, hmY, hcY, -, hlY, -, -, -, -⟩ := Cond.code_spec hn (hws _ hcode a U X.warmed)
  obtain ⟨kY, hkY, -⟩ := className_of_methodNamed hn
  have hiY : kY.init = .initialized := Cond.initialized_spec (findClass_of_methodNamed hn) hkY (hini a U X.warmed)
  have hat : At U g.method c below := by rw [hg]; exact X.here
  have hroom := X.room_calling (g := g) (args' := a) (R' := (headSpec ws rm).room) hsz hmY hcY hfr (by rw [hlY]; show _ + rm.locals ≤ R.locals; omega) (by rw [show (headSpec ws rm).room.cells = mc from hrc]; exact hc1) (by rw [show (headSpec ws rm).room.slots = ms from hrs]; exact hc2)
  have happ : (headSpec ws rm).appliesLoose y e.platform (U.calling g mk a) = true := Spec.appliesLoose_calling (g := g) hat hdg hn hkY hiY hroom (atoms_intro fun w hw9 => hws w hw9 _ _ X.warmed)
  obtain ⟨mid, hmid⟩ := hat.above
  have hall : (U.setTop g).frames = (.java g :: mid) ++ below := by rw [State.frames_setTop' g hat.top, hmid]; rfl
  obtain ⟨o, s₂, hst, -, hend, hq⟩ := Steps.callFree hM p X.admits X.cas X.clock (acts := []) hall happ (hbl _ _ _ _ hp) trivial
  rw [State.frames_setTop' g hat.top] at hend
  exact ⟨o, s₂, hst, hend, hq⟩
/-- it threw: the caller stands, with the exception on its way above it -/
theorem gt_thr {U : State} (X : Stand p l e R s m args below meth c U locs cells slots) {g : JFrame} (hg : g.method = m) {q : Addr} {s₂ : State} {mk : MethodId} {a : Array Value} (hend : Ended s₂ (.java g :: U.frames.tail) (.threw q)) (hwm : (U.calling g mk a).WarmedH s₂.vm) {L : List Loc} {mc ms : Nat} (hsm : (U.calling g mk a).sameButNew ({ s₂ with vm := (U.calling g mk a).vm } : State) L mc ms) :
    ∃ T' : State, Stand p l e R s m args below meth c T' (locs ++ L) (cells + mc) (slots + ms) ∧ T'.heap = s₂.heap ∧ T'.vm = s₂.vm ∧ s₂ = (T'.setTop g).pushFrame (.throwing q) := by
  have hat : At U g.method c below := by rw [hg]; exact X.here
  have hwU : U.WarmedH s₂.vm := hwm
  obtain ⟨e2, q2, q3, q4, q5, q6⟩ := id hsm
  obtain ⟨g₀, hg0⟩ := Option.isSome_iff_exists.mp hat.top
  obtain ⟨r, hr⟩ := State.topJava?_eq_some.mp hg0
  have hf₂ : s₂.frames = .throwing q :: .java g :: U.frames.tail := hend
  have e3 : s₂ = ({ (U.calling g mk a).setFrames s₂.frames with heap := s₂.heap, slotsUsed := s₂.slotsUsed } : State).setVm s₂.vm := by
    have h9 : s₂ = ({ s₂ with vm := (U.calling g mk a).vm } : State).setVm s₂.vm := rfl
    rw [e2] at h9
    exact h9
  have hr' : (({ U with heap := s₂.heap, slotsUsed := s₂.slotsUsed } : State).setVm s₂.vm).frames = .java g₀ :: r := hr
  have hsame : U.sameButNew ({ U with heap := s₂.heap, slotsUsed := s₂.slotsUsed } : State) L mc ms := by
    obtain ⟨t, ht, -⟩ := State.frames_cons hr
    refine ⟨?_, q2, q3, q4, q5, q6⟩
    show ({ U with heap := s₂.heap, slotsUsed := s₂.slotsUsed } : State) = { U.setFrames U.frames with heap := s₂.heap, slotsUsed := s₂.slotsUsed }
    rw [State.setFrames_self ht]
  subst hg
  refine ⟨({ U with heap := s₂.heap, slotsUsed := s₂.slotsUsed } : State).setVm s₂.vm, ⟨X.admits, X.cas, X.clock, X.frames, X.room, X.hears, X.method, X.code, (X.here.setHeapUsed s₂.heap s₂.slotsUsed).setVm hwU.alike, X.tail, State.WarmedH.trans X.warmed hwU, X.limits, X.bytes, X.same.trans (hsame.setVm s.vm)⟩, rfl, rfl, ?_⟩
  refine e3.trans ?_
  rw [hf₂, State.calling_eq hat.top, State.setFrames_setFrames, State.pushFrame, State.frames_setTop _ hr', State.setTop_of_frames _ hr', State.setFrames_setFrames, hr]
  rfl
variable {H : Heap} {Q : State → Prop} {G : gw_G} {px : gw_M → Prop} {pc : Nat} {ls : Array Slot} {rest : List Value} {mc ms : Nat} {cc : ByteArray}
/-- it returned: the caller goes on -/
theorem gu_rtn {U : State} (X : Stand p l e R s m args below meth c U locs cells slots) {g : JFrame} (hg : g.method = m) {ig : Instr} {len : Nat} (hdg : decode c.code g.pc = .ok (ig, len)) {v : Option Value} {s₂ : State} {mk : MethodId} {a : Array Value} (hend : Ended s₂ (.java g :: U.frames.tail) (.returned v)) {L : List Loc} {mc ms : Nat} (hfe : FrameEnd (U.calling g mk a) (.returned v) s₂ L mc ms) :
    ∃ T' : State, Stand p l e R s m args below meth c T' (locs ++ L) (cells + mc) (slots + ms) ∧ T'.heap = s₂.heap ∧ T'.vm = s₂.vm ∧ s₂ = T'.setTop { g with pc := g.pc + len, stack := v.toList ++ g.stack } := by
  have hat : At U g.method c below := by rw [hg]; exact X.here
  obtain ⟨-, hwm, e2, q2, q3, q4, q5, q6⟩ := id hfe
  have hwU : U.WarmedH s₂.vm := hwm
  obtain ⟨g₀, hg0⟩ := Option.isSome_iff_exists.mp hat.top
  obtain ⟨r, hr⟩ := State.topJava?_eq_some.mp hg0
  have e3 : s₂ = ({ (U.calling g mk a).setFrames s₂.frames with heap := s₂.heap, slotsUsed := s₂.slotsUsed } : State).setVm s₂.vm := by
    have h9 : s₂ = ({ s₂ with vm := (U.calling g mk a).vm } : State).setVm s₂.vm := rfl
    rw [e2] at h9
    exact h9
  obtain ⟨c₂, i₂, len₂, hc₂, hd₂, hf₂⟩ := hend
  have hcc : c₂ = c := by
    have h1 : s₂.code? g.method = U.code? g.method := by rw [State.code?_eq, State.code?_eq, hwU.alike.method?]
    exact Option.some.inj (hc₂.symm.trans (h1.trans hat.code))
  subst hcc
  have hlen : len₂ = len := by rw [hdg] at hd₂; cases hd₂; rfl
  subst hlen
  have hr' : (({ U with heap := s₂.heap, slotsUsed := s₂.slotsUsed } : State).setVm s₂.vm).frames = .java g₀ :: r := hr
  have hsame : U.sameButNew ({ U with heap := s₂.heap, slotsUsed := s₂.slotsUsed } : State) L mc ms := by
    obtain ⟨t, ht, -⟩ := State.frames_cons hr
    refine ⟨?_, q2, q3, q4, q5, q6⟩
    show ({ U with heap := s₂.heap, slotsUsed := s₂.slotsUsed } : State) = { U.setFrames U.frames with heap := s₂.heap, slotsUsed := s₂.slotsUsed }
    rw [State.setFrames_self ht]
  subst hg
  refine ⟨({ U with heap := s₂.heap, slotsUsed := s₂.slotsUsed } : State).setVm s₂.vm, ⟨X.admits, X.cas, X.clock, X.frames, X.room, X.hears, X.method, X.code, (X.here.setHeapUsed s₂.heap s₂.slotsUsed).setVm hwU.alike, X.tail, State.WarmedH.trans X.warmed hwU, X.limits, X.bytes, X.same.trans (hsame.setVm s.vm)⟩, rfl, rfl, ?_⟩
  refine e3.trans ?_
  rw [hf₂, State.calling_eq hat.top, State.setFrames_setFrames, State.setTop_of_frames _ hr', hr]
  rfl
/-- a call of an instance method that throws -/
theorem gt_callV {y : MethodName} {bytes : ByteArray} {maxL nL n index : Nat} {ret : Option FieldType} {ws : List Cond} {rm : Room} {Ts : List Cond} {own C : String} {M : gw_M} {b : Addr} {As : List Value} (hS : va_S (gw_A G) s.heap H locs) (S : CallFix p m c cc nL s args Ts own) (hM : gt_Met l y ws rm G M (.ref b :: As) px mc ms) (cw : CallW R s args own C index y bytes maxL ret ws rm mc ms n) (hp : PreV s H C b (gw_Pc G M (.ref b :: As)) As)
    (hn : As.length = n) (hsize : ls.size = nL) {st0 : List Value} (hstack : st0 = As.reverse ++ .ref b :: rest) (hw : 2 * (F0 m pc ls rest).monitorRoom + (rest.map fun v => v.category).sum ≤ 8) (hdg : decode cc pc = .ok (.invokevirtual index, 3)) (hf : cells + mc ≤ R.cells ∧ slots + ms ≤ R.slots)
    (kx : ∀ (ce : Cell) (q : Addr) (M2 : gw_M) (H1 : Heap) (locs1 : List Loc), px M2 → gw_P G.1 vwCl G.2.2.2 M2 H1 → va_S (gw_A G) s.heap H1 locs1 → H1[q]? = some ce → ce.vm = .none → s.vm.findClass "java/lang/IllegalArgumentException" = some ce.cls → gt_W p l e R s m args below meth c H1 locs1 (cells + mc) (slots + ms) Q (F0 m pc ls rest) q) :
    W p l e R s m args below meth c H locs cells slots Q (F0 m pc ls st0) := by
  subst hstack
  obtain ⟨⟨hrc, hrs, hfr, hlo, hws, hcw, hcode, hini, hy, hlen, hl⟩, hin, hse⟩ := cw
  obtain ⟨hx, hb, hml, ho, -⟩ := S
  obtain ⟨hbl, ⟨cellB, hcB, hoB, hclB⟩, hPc⟩ := hp
  obtain ⟨mk, methM, hnamed, hmethM, hstM, habM⟩ := Cond.instanceMethod_spec hin
  obtain ⟨methM', cM, hmethM', -, -, -, -, -, -, hsigM⟩ := Cond.code_spec hnamed hcode
  cases hmethM.symm.trans hmethM'
  obtain ⟨c2, r2, m2, q1, q2, q3, q4, kP, hkP, hkPi⟩ := Cond.selects_spec hse
  cases hclB.symm.trans q1
  cases (State.methodFound?_of_named hnamed hy).symm.trans q2
  cases hnamed.symm.trans q3
  intro T hT X
  have hselP : selectMethod e.platform s.vm cellB.cls mk = .method mk := by rw [Launch.admits_selectMethod X.admits]; exact q4
  obtain ⟨vm₁, X₁, hstep⟩ := X.invokevirtual hx ho hl hnamed hmethM hstM hkP hkPi hy (a := b) (cell := cellB) (by rw [hT]; exact hcB) (fun z h => by rw [h] at hoB; cases hoB) hselP hmethM habM hkP hkPi (g := F0 m pc ls (As.reverse ++ .ref b :: rest)) rfl (argsL := As) (rest := rest) (hn.trans (hlen _ hsigM)) rfl (by rw [hb]; exact hdg)
  have hini9 : ∀ (a' : Array Value) (U : State), s.WarmedH U.vm → (Cond.initialized y.cls).before a' U = true := fun a' U hW => word_at hW (Or.inl (by first | rfl | simp [Cond.onTables, Cond.keeps, Cond.steady])) hini
  obtain ⟨o, s₂, hst, hend, q, ce, L, rfl, ⟨M2, hpx, hW2, hF⟩, hce, hcv, hcl, hwm, hsm, hL⟩ := gt_core hM hbl hrc hrs hfr hlo hws hcw hini9 X₁ (g := { F0 m pc ls (As.reverse ++ .ref b :: rest) with stack := rest }) rfl (hsize.trans hml.symm) (by rw [hb]; exact hdg) hw (X₁.named hnamed) (a := (Value.ref b :: As).toArray) hf.1 hf.2 (hPc (T.setVm vm₁) hT X₁.warmed)
  obtain ⟨T', XT, h1, h2, h3⟩ := gt_thr X₁ (g := { F0 m pc ls (As.reverse ++ .ref b :: rest) with stack := rest }) rfl hend hwm hsm
  have hcl9 : s.vm.findClass "java/lang/IllegalArgumentException" = some ce.cls := by
    have h9 : (T.setVm vm₁).vm.findClass "java/lang/IllegalArgumentException" = some ce.cls := hcl
    rw [X₁.warmed.alike.findClass] at h9
    exact h9
  have hz : H.size ≤ s₂.heap.size := by
    have h9 : T.heap.size ≤ s₂.heap.size := hF.1
    rw [hT] at h9
    exact h9
  have hk : ∀ z : Nat, z < H.size → ¬ gw_A G z → s₂.heap[z]? = H[z]? := fun z z1 z2 => by
    have h9 := hF.2 z (show z < T.heap.size by rw [hT]; exact z1) z2
    have h8 : s₂.heap[z]? = T.heap[z]? := h9
    rw [hT] at h8
    exact h8
  have hS1 : va_S (gw_A G) s.heap s₂.heap (locs ++ L) := ⟨Nat.le_trans hS.1 hz, fun z z1 z2 => (hk z (Nat.lt_of_lt_of_le z1 hS.1) z2).trans (hS.2.1 z z1 z2), fun z hz9 => (List.mem_append.mp hz9).elim (hS.2.2 z) (hL z)⟩
  obtain ⟨t, a1, b1⟩ := kx ce q M2 s₂.heap (locs ++ L) hpx hW2 hS1 hce hcv hcl9 T' h1 XT
  refine ⟨t, ?_, b1⟩
  refine hstep _ fun acts => ?_
  rw [doInvoke_state]
  exact hst.trans (by rw [h3]; exact a1)
theorem gu_callV {N : Array Value → State → Outcome → State → Prop} {PL : List Loc → Prop} {y : MethodName} {bytes : ByteArray} {maxL nL n index : Nat} {ret : Option FieldType} {ws : List Cond} {rm : Room} {Ts : List Cond} {own C : String} {M : gw_M} {b : Addr} {As : List Value} (hS : va_S (gw_A G) s.heap H locs) (S : CallFix p m c cc nL s args Ts own) (hM : gu_Met l y ws rm G M (.ref b :: As) N px mc ms) (cw : CallW R s args own C index y bytes maxL ret ws rm mc ms n) (hp : PreV s H C b (gw_Pc G M (.ref b :: As)) As)
    (hn : As.length = n) (hsize : ls.size = nL) {st0 : List Value} (hstack : st0 = As.reverse ++ .ref b :: rest) (hw : 2 * (F0 m pc ls rest).monitorRoom + (rest.map fun v => v.category).sum ≤ 8) (hdg : decode cc pc = .ok (.invokevirtual index, 3)) (hf : cells + mc ≤ R.cells ∧ slots + ms ≤ R.slots)
    (kk : ∀ (st₀ t T' : State) (L : List Loc) (v : Option Value), st₀.heap = H → N (Value.ref b :: As).toArray st₀ (.returned v) t → FrameEnd st₀ (.returned v) t L mc ms → PL L → T'.heap = t.heap → Stand p l e R s m args below meth c T' (locs ++ L) (cells + mc) (slots + ms) → ∃ z, Steps p.tables e below (T'.setTop (F0 m (pc + 3) ls (v.toList ++ rest))) z ∧ Q z) (hN : ∀ a st o t, N a st o t → ∃ (v : Option Value) (L : List Loc), o = .returned v ∧ PL L ∧ FrameEnd st o t L mc ms)
    (kx : ∀ (ce : Cell) (q : Addr) (M2 : gw_M) (H1 : Heap) (locs1 : List Loc), px M2 → gw_P G.1 vwCl G.2.2.2 M2 H1 → va_S (gw_A G) s.heap H1 locs1 → H1[q]? = some ce → ce.vm = .none → s.vm.findClass "java/lang/IllegalArgumentException" = some ce.cls → gt_W p l e R s m args below meth c H1 locs1 (cells + mc) (slots + ms) Q (F0 m pc ls rest) q) :
    W p l e R s m args below meth c H locs cells slots Q (F0 m pc ls st0) := by
  subst hstack
  obtain ⟨⟨hrc, hrs, hfr, hlo, hws, hcw, hcode, hini, hy, hlen, hl⟩, hin, hse⟩ := cw
  obtain ⟨hx, hb, hml, ho, -⟩ := S
  obtain ⟨hbl, ⟨cellB, hcB, hoB, hclB⟩, hPc⟩ := hp
  obtain ⟨mk, methM, hnamed, hmethM, hstM, habM⟩ := Cond.instanceMethod_spec hin
  obtain ⟨methM', cM, hmethM', -, -, -, -, -, -, hsigM⟩ := Cond.code_spec hnamed hcode
  cases hmethM.symm.trans hmethM'
  obtain ⟨c2, r2, m2, q1, q2, q3, q4, kP, hkP, hkPi⟩ := Cond.selects_spec hse
  cases hclB.symm.trans q1
  cases (State.methodFound?_of_named hnamed hy).symm.trans q2
  cases hnamed.symm.trans q3
  intro T hT X
  have hselP : selectMethod e.platform s.vm cellB.cls mk = .method mk := by rw [Launch.admits_selectMethod X.admits]; exact q4
  obtain ⟨vm₁, X₁, hstep⟩ := X.invokevirtual hx ho hl hnamed hmethM hstM hkP hkPi hy (a := b) (cell := cellB) (by rw [hT]; exact hcB) (fun z h => by rw [h] at hoB; cases hoB) hselP hmethM habM hkP hkPi (g := F0 m pc ls (As.reverse ++ .ref b :: rest)) rfl (argsL := As) (rest := rest) (hn.trans (hlen _ hsigM)) rfl (by rw [hb]; exact hdg)
  have hini9 : ∀ (a' : Array Value) (U : State), s.WarmedH U.vm → (Cond.initialized y.cls).before a' U = true := fun a' U hW => word_at hW (Or.inl (by first | rfl | simp [Cond.onTables, Cond.keeps, Cond.steady])) hini
  obtain ⟨o, s₂, hst, hend, hQ⟩ := gt_core hM hbl hrc hrs hfr hlo hws hcw hini9 X₁ (g := { F0 m pc ls (As.reverse ++ .ref b :: rest) with stack := rest }) rfl (hsize.trans hml.symm) (by rw [hb]; exact hdg) hw (X₁.named hnamed) (a := (Value.ref b :: As).toArray) hf.1 hf.2 (hPc (T.setVm vm₁) hT X₁.warmed)
  rcases hQ with hQ | ⟨q, ce, L, rfl, ⟨M2, hpx, hW2, hF⟩, hce, hcv, hcl, hwm, hsm, hL⟩
  · obtain ⟨v, L, rfl, hPL, hfe⟩ := hN _ _ _ _ hQ
    obtain ⟨T', XT, h1, h2, h3⟩ := gu_rtn X₁ (g := { F0 m pc ls (As.reverse ++ .ref b :: rest) with stack := rest }) rfl (len := 3) (by rw [hb]; exact hdg) hend hfe
    obtain ⟨t, a1, b1⟩ := kk ((T.setVm vm₁).calling ({ F0 m pc ls (As.reverse ++ .ref b :: rest) with stack := rest }) mk (Value.ref b :: As).toArray) s₂ T' L v hT hQ hfe hPL h1 XT
    refine ⟨t, ?_, b1⟩
    refine hstep _ fun acts => ?_
    rw [doInvoke_state]
    exact hst.trans (by rw [h3]; exact a1)
  obtain ⟨T', XT, h1, h2, h3⟩ := gt_thr X₁ (g := { F0 m pc ls (As.reverse ++ .ref b :: rest) with stack := rest }) rfl hend hwm hsm
  have hcl9 : s.vm.findClass "java/lang/IllegalArgumentException" = some ce.cls := by
    have h9 : (T.setVm vm₁).vm.findClass "java/lang/IllegalArgumentException" = some ce.cls := hcl
    rw [X₁.warmed.alike.findClass] at h9
    exact h9
  have hz : H.size ≤ s₂.heap.size := by
    have h9 : T.heap.size ≤ s₂.heap.size := hF.1
    rw [hT] at h9
    exact h9
  have hk : ∀ z : Nat, z < H.size → ¬ gw_A G z → s₂.heap[z]? = H[z]? := fun z z1 z2 => by
    have h9 := hF.2 z (show z < T.heap.size by rw [hT]; exact z1) z2
    have h8 : s₂.heap[z]? = T.heap[z]? := h9
    rw [hT] at h8
    exact h8
  have hS1 : va_S (gw_A G) s.heap s₂.heap (locs ++ L) := ⟨Nat.le_trans hS.1 hz, fun z z1 z2 => (hk z (Nat.lt_of_lt_of_le z1 hS.1) z2).trans (hS.2.1 z z1 z2), fun z hz9 => (List.mem_append.mp hz9).elim (hS.2.2 z) (hL z)⟩
  obtain ⟨t, a1, b1⟩ := kx ce q M2 s₂.heap (locs ++ L) hpx hW2 hS1 hce hcv hcl9 T' h1 XT
  refine ⟨t, ?_, b1⟩
  refine hstep _ fun acts => ?_
  rw [doInvoke_state]
  exact hst.trans (by rw [h3]; exact a1)
/-- not caught here: it goes on -/
theorem gt_out {ce : Cell} {q : Addr} {M2 : gw_M} (hEx : ∀ x ∈ c.exceptionTable.toList, False) (hlocks : meth.locks = false) (hcell : H[q]? = some ce) (hv : ce.vm = .none) (hcl : s.vm.findClass "java/lang/IllegalArgumentException" = some ce.cls) (hS : va_S (gw_A G) s.heap H locs) (hW : gw_P G.1 vwCl G.2.2.2 M2 H) (hp : px M2) (hc : cells ≤ mc) (hs : slots ≤ ms) :
    gt_W p l e R s m args below meth c H locs cells slots (gt_MQ below G px args s mc ms) (F0 m pc ls rest) q := by
  intro T hT X
  obtain ⟨st1, hrun, hend, hWm, hsm⟩ := X.leaveThrown q (g := F0 m pc ls rest) rfl rfl rfl (fun x hx => (hEx x hx).elim) hlocks
  refine ⟨_, st1, .threw q, hrun, hend, q, ce, locs, rfl, ⟨M2, hp, ?_, ?_⟩, ?_, hv, hcl, hWm, hsm.mono hc hs, hS.2.2⟩
  · show gw_P G.1 vwCl G.2.2.2 M2 T.heap
    rw [hT]; exact hW
  · exact hS.F (t := T.setFrames (.throwing q :: below)) hT
  · show T.heap[q]? = some ce
    rw [hT]; exact hcell
theorem gu_out {N : Array Value → State → Outcome → State → Prop} {ce : Cell} {q : Addr} {M2 : gw_M} (hEx : ∀ x ∈ c.exceptionTable.toList, False) (hlocks : meth.locks = false) (hcell : H[q]? = some ce) (hv : ce.vm = .none) (hcl : s.vm.findClass "java/lang/IllegalArgumentException" = some ce.cls) (hS : va_S (gw_A G) s.heap H locs) (hW : gw_P G.1 vwCl G.2.2.2 M2 H) (hp : px M2) (hc : cells ≤ mc) (hs : slots ≤ ms) :
    gt_W p l e R s m args below meth c H locs cells slots (gu_MQ below N G px args s mc ms) (F0 m pc ls rest) q := by
  intro T hT X
  obtain ⟨st1, hrun, hend, hWm, hsm⟩ := X.leaveThrown q (g := F0 m pc ls rest) rfl rfl rfl (fun x hx => (hEx x hx).elim) hlocks
  refine ⟨_, st1, .threw q, hrun, hend, Or.inr ⟨q, ce, locs, rfl, ⟨M2, hp, ?_, ?_⟩, ?_, hv, hcl, hWm, hsm.mono hc hs, hS.2.2⟩⟩
  · show gw_P G.1 vwCl G.2.2.2 M2 T.heap
    rw [hT]; exact hW
  · exact hS.F (t := T.setFrames (.throwing q :: below)) hT
  · show T.heap[q]? = some ce
    rw [hT]; exact hcell
/-- 'throw new IllegalArgumentException(text)', nothing made or written before it in this method -/
theorem gt_throwS {own text : String} {names : List String} {ik is ic sa : Nat} {M : gw_M} (hexec : p.tables.exec = Jvm.exec) (hb : c.code = cc) (hl : l.stackTraces = false) (hown : s.vm.findClass own = some m.cls) (hnames : ∀ n ∈ names, Bundle.fit n = true)
    (hk : (Cond.classLink own ik "java/lang/IllegalArgumentException").before args s = true) (hini : (Cond.initialized "java/lang/IllegalArgumentException").before args s = true) (hs1 : (Cond.stringRef own is text).before args s = true) (hs2 : (Term.string own is).eval args s none [] s = some (.ref sa))
    (hat : ∀ w ∈ Bundle.ownAtoms own ic "java/lang/IllegalArgumentException" names, w.before args s = true) (hsize : ls.size = c.maxLocals)
    (d0 : decode cc pc = .ok (.new ik, 3)) (d3 : decode cc (pc + 3) = .ok (.dup, 1)) (d4 : decode cc (pc + 4) = .ok (.ldc is, 2)) (d6 : decode cc (pc + 6) = .ok (.invokespecial ic, 3)) (d9 : decode cc (pc + 9) = .ok (.athrow, 1))
    (hEx : ∀ x ∈ c.exceptionTable.toList, False) (hRf : names.length + 3 < R.frames) (hRl : (rest.map fun v => v.category).sum + (13 * (names.length + 1) + 43) ≤ R.locals) (hRc : 1 ≤ R.cells) (hRs : 6 ≤ R.slots) (hlocks : meth.locks = false) (hW : gw_P G.1 vwCl G.2.2.2 M s.heap) (hp : px M) :
    W p l e R s m args below meth c s.heap [] 0 0 (gt_MQ below G px args s 1 6) (F0 m pc ls rest) := by
  intro T hT X
  have htr : e.platform.stackTraces = false := (show e.platform.stackTraces = l.stackTraces by rw [X.admits.platform]).trans hl
  have hins : (Cond.instantiable "java/lang/IllegalArgumentException" 6).before args s = true := hat _ (by simp [Bundle.ownAtoms])
  obtain ⟨vm₁, cX, kX, hfX, hkX, -, -, X₁, st1⟩ := X.newCold hexec (own := own) (C := "java/lang/IllegalArgumentException") (index := ik) (n := 6) hown hk hins hini (g := F0 m pc ls rest) rfl (by rw [hb]; exact d0) (by omega) (by omega)
  generalize hT1 : (T.setVm vm₁).pushCell { cls := cX, slots := kX.instanceTypes.map defaultValue, vm := .none } = T1 at X₁ st1
  have hcat : (Value.ref T.heap.size).category = 1 := rfl
  have hcellA : T1.heap[T.heap.size]? = some (freshCell cX kX) := by rw [← hT1]; exact State.heap_pushCell_size _ _
  have d3' : decode c.code (pc + 3) = .ok (.dup, 1) := by rw [hb]; exact d3
  have d4' : decode c.code (pc + 4) = .ok (.ldc is, 2) := by rw [hb]; exact d4
  obtain ⟨U, hsteps, hrun, hend, hWm, hsame, ce, hce, hO⟩ := X₁.ctorThrowS hexec htr (own := own) (cls := "java/lang/IllegalArgumentException") (names := names) (ic := ic) hown (by decide +kernel) hnames hat (fun x hx => nomatch hx) hfX hkX hcellA (by rw [hT]; exact Nat.le_refl _) (msg := .ref sa) rfl
    (g := { method := m, pc := pc + 6, locals := ls, stack := .ref sa :: .ref T.heap.size :: .ref T.heap.size :: rest, locked := none }) rfl hsize rfl rfl (rest := rest) rfl
    (by rw [hb]; exact d6) (by rw [hb]; exact d9) (fun x hx => (hEx x hx).elim) hRf (by simp only [List.map_cons, List.sum_cons, hcat]; omega) hlocks
  have hfrm : s.heap.size ≤ U.heap.size ∧ ∀ q : Nat, q < s.heap.size → U.heap[q]? = s.heap[q]? := by
    obtain ⟨-, h2, -, -, -, h6⟩ := id hsame
    refine ⟨h2, fun q hq => ?_⟩
    obtain ⟨c9, e1, e2, e3, e4⟩ := h6 q _ (Array.getElem?_eq_getElem hq)
    have hs : c9.slots = (s.heap[q]).slots := Array.ext_getElem? fun i => e4 i (fun hm => nomatch hm)
    have h9 : c9 = s.heap[q] := by
      rw [hs] at e2
      exact e2
    have e5 : U.heap[q]? = some c9 := e1
    rw [e5, h9, Array.getElem?_eq_getElem hq]
  refine ⟨U, ?_, .threw T.heap.size, hrun, hend, T.heap.size, ce, [], rfl, ⟨M, hp, hW.kept hfrm.2, hfrm.1, fun q hq _ => hfrm.2 q hq⟩, hce, hO.vm, hO.cls, hWm, hsame.mono (by omega) (by omega), fun z hz => nomatch hz⟩
  refine st1 _ ?_
  show Steps p.tables e below (T1.setTop { method := m, pc := pc + 3, locals := ls, stack := .ref T.heap.size :: rest, locked := none }) _
  jvm_step X₁.here [X₁.here.top, hexec, d3', Value.category]
  exact X₁.ldcString hexec (own := own) (text := text) (index := is) (a := sa) hown hs1 hs2 (g := { method := m, pc := pc + 4, locals := ls, stack := .ref T.heap.size :: .ref T.heap.size :: rest, locked := none }) rfl d4' _ hsteps
theorem gu_throwS {N : Array Value → State → Outcome → State → Prop} {own text : String} {names : List String} {ik is ic sa : Nat} {M : gw_M} (hexec : p.tables.exec = Jvm.exec) (hb : c.code = cc) (hl : l.stackTraces = false) (hown : s.vm.findClass own = some m.cls) (hnames : ∀ n ∈ names, Bundle.fit n = true)
    (hk : (Cond.classLink own ik "java/lang/IllegalArgumentException").before args s = true) (hini : (Cond.initialized "java/lang/IllegalArgumentException").before args s = true) (hs1 : (Cond.stringRef own is text).before args s = true) (hs2 : (Term.string own is).eval args s none [] s = some (.ref sa))
    (hat : ∀ w ∈ Bundle.ownAtoms own ic "java/lang/IllegalArgumentException" names, w.before args s = true) (hsize : ls.size = c.maxLocals)
    (d0 : decode cc pc = .ok (.new ik, 3)) (d3 : decode cc (pc + 3) = .ok (.dup, 1)) (d4 : decode cc (pc + 4) = .ok (.ldc is, 2)) (d6 : decode cc (pc + 6) = .ok (.invokespecial ic, 3)) (d9 : decode cc (pc + 9) = .ok (.athrow, 1))
    (hEx : ∀ x ∈ c.exceptionTable.toList, False) (hRf : names.length + 3 < R.frames) (hRl : (rest.map fun v => v.category).sum + (13 * (names.length + 1) + 43) ≤ R.locals) (hRc : cells + 1 ≤ R.cells) (hRs : slots + 6 ≤ R.slots) (hmc : cells + 1 ≤ mc) (hms : slots + 6 ≤ ms) (hlocks : meth.locks = false) (hW : gw_P G.1 vwCl G.2.2.2 M s.heap) (hp : px M) :
    W p l e R s m args below meth c s.heap [] cells slots (gu_MQ below N G px args s mc ms) (F0 m pc ls rest) := by
  intro T hT X
  have htr : e.platform.stackTraces = false := (show e.platform.stackTraces = l.stackTraces by rw [X.admits.platform]).trans hl
  have hins : (Cond.instantiable "java/lang/IllegalArgumentException" 6).before args s = true := hat _ (by simp [Bundle.ownAtoms])
  obtain ⟨vm₁, cX, kX, hfX, hkX, -, -, X₁, st1⟩ := X.newCold hexec (own := own) (C := "java/lang/IllegalArgumentException") (index := ik) (n := 6) hown hk hins hini (g := F0 m pc ls rest) rfl (by rw [hb]; exact d0) hRc hRs
  generalize hT1 : (T.setVm vm₁).pushCell { cls := cX, slots := kX.instanceTypes.map defaultValue, vm := .none } = T1 at X₁ st1
  have hcat : (Value.ref T.heap.size).category = 1 := rfl
  have hcellA : T1.heap[T.heap.size]? = some (freshCell cX kX) := by rw [← hT1]; exact State.heap_pushCell_size _ _
  have d3' : decode c.code (pc + 3) = .ok (.dup, 1) := by rw [hb]; exact d3
  have d4' : decode c.code (pc + 4) = .ok (.ldc is, 2) := by rw [hb]; exact d4
  obtain ⟨U, hsteps, hrun, hend, hWm, hsame, ce, hce, hO⟩ := X₁.ctorThrowS hexec htr (own := own) (cls := "java/lang/IllegalArgumentException") (names := names) (ic := ic) hown (by decide +kernel) hnames hat (fun x hx => nomatch hx) hfX hkX hcellA (by rw [hT]; exact Nat.le_refl _) (msg := .ref sa) rfl
    (g := { method := m, pc := pc + 6, locals := ls, stack := .ref sa :: .ref T.heap.size :: .ref T.heap.size :: rest, locked := none }) rfl hsize rfl rfl (rest := rest) rfl
    (by rw [hb]; exact d6) (by rw [hb]; exact d9) (fun x hx => (hEx x hx).elim) hRf (by simp only [List.map_cons, List.sum_cons, hcat]; omega) hlocks
  have hfrm : s.heap.size ≤ U.heap.size ∧ ∀ q : Nat, q < s.heap.size → U.heap[q]? = s.heap[q]? := by
    obtain ⟨-, h2, -, -, -, h6⟩ := id hsame
    refine ⟨h2, fun q hq => ?_⟩
    obtain ⟨c9, e1, e2, e3, e4⟩ := h6 q _ (Array.getElem?_eq_getElem hq)
    have hs : c9.slots = (s.heap[q]).slots := Array.ext_getElem? fun i => e4 i (fun hm => nomatch hm)
    have h9 : c9 = s.heap[q] := by
      rw [hs] at e2
      exact e2
    have e5 : U.heap[q]? = some c9 := e1
    rw [e5, h9, Array.getElem?_eq_getElem hq]
  refine ⟨U, ?_, .threw T.heap.size, hrun, hend, Or.inr ⟨T.heap.size, ce, [], rfl, ⟨M, hp, hW.kept hfrm.2, hfrm.1, fun q hq _ => hfrm.2 q hq⟩, hce, hO.vm, hO.cls, hWm, hsame.mono hmc hms, fun z hz => nomatch hz⟩⟩
  refine st1 _ ?_
  show Steps p.tables e below (T1.setTop { method := m, pc := pc + 3, locals := ls, stack := .ref T.heap.size :: rest, locked := none }) _
  jvm_step X₁.here [X₁.here.top, hexec, d3', Value.category]
  exact X₁.ldcString hexec (own := own) (text := text) (index := is) (a := sa) hown hs1 hs2 (g := { method := m, pc := pc + 4, locals := ls, stack := .ref T.heap.size :: .ref T.heap.size :: rest, locked := none }) rfl d4' _ hsteps
/-- calls of what only reads -/
theorem gr_calli {post : Int32 → Prop} {a : Array Value} {st0 : List Value} (hr : va_Run p l e R s m args below meth c H locs cells slots 0 0 (F0 m pc ls st0) rest (gr_Qi post a) (fun _ => False)) (kk : ∀ r : Int32, post r → W p l e R s m args below meth c H locs cells slots Q (F0 m (pc + 3) ls (.int r :: rest))) : W p l e R s m args below meth c H locs cells slots Q (F0 m pc ls st0) := by
  intro T hT X
  obtain ⟨v, st₀, t, T', L, h0, X', hL, e1, e2, ⟨r, hv, hp, hh⟩, st⟩ := hr T hT X
  cases hv
  obtain ⟨t2, a1, b1⟩ := kk r hp T' (by rw [e1, hh, h0]) (Stand.forget X' (fun q h => (hL q h).elim))
  exact ⟨t2, st t2 a1, b1⟩
theorem gr_callr {post : Nat → Prop} {a : Array Value} {st0 : List Value} (hr : va_Run p l e R s m args below meth c H locs cells slots 0 0 (F0 m pc ls st0) rest (gr_Qr post a) (fun _ => False)) (kk : ∀ r : Nat, post r → W p l e R s m args below meth c H locs cells slots Q (F0 m (pc + 3) ls (.ref r :: rest))) : W p l e R s m args below meth c H locs cells slots Q (F0 m pc ls st0) := by
  intro T hT X
  obtain ⟨v, st₀, t, T', L, h0, X', hL, e1, e2, ⟨r, hv, hp, hh⟩, st⟩ := hr T hT X
  cases hv
  obtain ⟨t2, a1, b1⟩ := kk r hp T' (by rw [e1, hh, h0]) (Stand.forget X' (fun q h => (hL q h).elim))
  exact ⟨t2, st t2 a1, b1⟩
/-- .. of what reads a cell, or throws -/
theorem gu_callr {y : MethodName} {bytes : ByteArray} {maxL nL n index : Nat} {ret : Option FieldType} {ws : List Cond} {rm : Room} {Ts : List Cond} {own C : String} {M : gw_M} {b : Addr} {As : List Value} {post : Nat → Prop} (hS : va_S (gw_A G) s.heap H locs) (S : CallFix p m c cc nL s args Ts own) (hM : gu_Met l y ws rm G M (.ref b :: As) (gu_Nr (gr_Qr post) mc ms) px mc ms) (cw : CallW R s args own C index y bytes maxL ret ws rm mc ms n) (hp : PreV s H C b (gw_Pc G M (.ref b :: As)) As)
    (hn : As.length = n) (hsize : ls.size = nL) {st0 : List Value} (hstack : st0 = As.reverse ++ .ref b :: rest) (hw : 2 * (F0 m pc ls rest).monitorRoom + (rest.map fun v => v.category).sum ≤ 8) (hdg : decode cc pc = .ok (.invokevirtual index, 3)) (hf : cells + mc ≤ R.cells ∧ slots + ms ≤ R.slots)
    (kx : ∀ (ce : Cell) (q : Addr) (M2 : gw_M) (H1 : Heap) (locs1 : List Loc), px M2 → gw_P G.1 vwCl G.2.2.2 M2 H1 → va_S (gw_A G) s.heap H1 locs1 → H1[q]? = some ce → ce.vm = .none → s.vm.findClass "java/lang/IllegalArgumentException" = some ce.cls → gt_W p l e R s m args below meth c H1 locs1 (cells + mc) (slots + ms) Q (F0 m pc ls rest) q)
    (kk : ∀ r : Nat, post r → W p l e R s m args below meth c H locs (cells + mc) (slots + ms) Q (F0 m (pc + 3) ls (.ref r :: rest))) : W p l e R s m args below meth c H locs cells slots Q (F0 m pc ls st0) := by
  refine gu_callV (PL := fun L => L = []) hS S hM cw hp hn hsize hstack hw hdg hf ?_ ?_ kx
  · intro st₀ t T' L v h0 hN hfe hPL h1 XT
    obtain ⟨⟨r, hv, hpo, hh⟩, hfe0⟩ := hN
    cases hv
    subst hPL
    rw [List.append_nil] at XT
    exact kk r hpo T' (by rw [h1, hh, h0]) XT
  · intro a st o t hN
    obtain ⟨⟨r, rfl, -, -⟩, hfe⟩ := hN
    exact ⟨_, [], rfl, rfl, hfe⟩
end GTC
/-- the words of a throw: four of them speak of the heap -/
def gt_no (w : Cond) : Bool := decide (w ≠ .isRef (.static "java/lang/Throwable" "UNASSIGNED_STACK" "[Ljava/lang/StackTraceElement;")) && (decide (w ≠ .isRef (.static "java/lang/Throwable" "SUPPRESSED_SENTINEL" "Ljava/util/List;")) && (decide (w ≠ .laysStatic "java/lang/Throwable" "UNASSIGNED_STACK" "[Ljava/lang/StackTraceElement;") && decide (w ≠ .laysStatic "java/lang/Throwable" "SUPPRESSED_SENTINEL" "Ljava/util/List;")))
theorem gt_hat {G : gw_G} {s : State} {L : List Cond} (hE : gw_E G s) (args : Array Value) (h1 : ∀ w ∈ L.filter gt_no, w ∈ gw_N0) : ∀ w ∈ L, w.before args s = true := by
  intro w hw
  by_cases e0 : gt_no w = true
  · exact hE.ts args w (h1 w (List.mem_filter.mpr ⟨hw, e0⟩))
  · by_cases e1 : w = .isRef (.static "java/lang/Throwable" "UNASSIGNED_STACK" "[Ljava/lang/StackTraceElement;")
    · rw [e1]; exact hE.2.2.2.2.1.ref args
    · by_cases e2 : w = .isRef (.static "java/lang/Throwable" "SUPPRESSED_SENTINEL" "Ljava/util/List;")
      · rw [e2]; exact hE.2.2.2.2.2.1.ref args
      · by_cases e3 : w = .laysStatic "java/lang/Throwable" "UNASSIGNED_STACK" "[Ljava/lang/StackTraceElement;"
        · rw [e3]; exact hE.2.2.2.2.1.lays args
        · by_cases e4 : w = .laysStatic "java/lang/Throwable" "SUPPRESSED_SENTINEL" "Ljava/util/List;"
          · rw [e4]; exact hE.2.2.2.2.2.1.lays args
          · exact absurd (by unfold gt_no; rw [decide_eq_true e1, decide_eq_true e2, decide_eq_true e3, decide_eq_true e4]; rfl) e0
abbrev gt_ws : List Cond := Bundle.ownAtoms "Generations" 108 "java/lang/IllegalArgumentException" ["java/lang/RuntimeException", "java/lang/Exception"]
set_option maxRecDepth 100000 in
theorem gt_ws1 : ∀ w ∈ gt_ws.filter gt_no, w ∈ lw_tbl := by decide +kernel
theorem gt_ws2 : (gt_ws.filter gt_no).all gw_gk = true := by decide +kernel
theorem gt_ws3 : ∀ w ∈ gt_ws.filter gt_no, w ∈ gw_N0 := fun w h => gw_in (gt_ws1 w h) (List.all_eq_true.mp gt_ws2 w h)
theorem gw_startR {l : Launch} {y : MethodName} {rm : Room} {G : gw_G} {M : gw_M} {av : List Value} {Qc : Array Value → State → Outcome → State → Prop} {cc : ByteArray} {maxL : Nat} {ret : Option FieldType} (hy : plainName y.cls = true) (hn : (lg_sl av).length ≤ maxL)
    (body : ∀ (p : Program) (e : Env) (s : State) (m : MethodId) (below : List Frame) (meth : Method) (c : Code), p.tables.exec = Jvm.exec → c.code = cc → meth.sig.returnType = ret → c.maxLocals = maxL → s.vm.findClass y.cls = some m.cls → meth.locks = false → meth.name = y.name → gw_E G s → G.2.2.2 ≤ s.heap.size → gw_P G.1 vwCl G.2.2.2 M s.heap →
      ∀ ls : Array Slot, lv_has ls maxL (lv_args 0 av) → W p l e rm s m av.toArray below meth c s.heap [] 0 0 (MQ below Qc av.toArray s 0 0 (fun _ => False)) (F0 m 0 ls [])) :
    Met l y [.code y cc maxL ret] rm (gw_Pc G M av) Qc 0 0 (fun _ => False) := by
  refine Met.ofW (cc := cc) (maxL := maxL) (ret := ret) hy rfl ?_
  intro p e s m args below meth c s₁ B hml hv
  obtain ⟨rfl, hE, hB, hW⟩ := hv
  have hl := lv_entry av (n := maxL) hn
  rw [lg_entry_eq]
  generalize (lg_sl av ++ List.replicate (maxL - (lg_sl av).length) Slot.unset).toArray = ls at hl ⊢
  exact body p e s m below meth c B.exec B.bytes B.returns hml (findClass_of_methodNamed B.named) B.notSynchronized (name_of_methodNamed B.named B.method).1 hE hB hW ls hl
