/-! CAUGHT: a method whose table has one row, for IllegalArgumentException; and a static call of such a method -/
section GTK
variable {p : Program} {l : Launch} {e : Env} {R : Room} {s : State} {m : MethodId} {args : Array Value} {below : List Frame} {meth : Method} {c : Code} {H : Heap} {locs : List Loc} {cells slots : Nat} {Q : State → Prop} {pc : Nat} {ls : Array Slot} {rest : List Value}
/-- what the search for a handler finds, and the tables behind it -/
def gt_F (e : Env) (u : State) (f : JFrame) (q : Addr) (h : Handler) (vm' : Vm) : Prop := ∀ (Z : Handler → Pre) (E : CtlPost) (d : Bool) (acts : List Action), wp (findHandler f q) Z E e d acts u ↔ Z h d acts (u.setVm vm')
theorem gt_find {u : State} {f : JFrame} {q : Addr} {mt : Method} {cd : Code} {x : ExceptionTableEntry} (hm : u.vm.method? f.method = some mt) (hc : mt.code = some cd) (htab : cd.exceptionTable.toList = [x]) (hx : covers x f.pc = true) (h0 : x.catchType ≠ 0) {cT : ClassId} {ce : Cell}
    (hl : u.vm.ClassLinks e.platform f.method.cls x.catchType cT) (hce : u.heap[q]? = some ce) (hobj : ∀ k, ce.vm ≠ .statics k) (hk : ∃ k, u.vm.classes[ce.cls]? = some k) (hkT : ∃ k, u.vm.classes[cT]? = some k) (hfit : u.vm.assignable ce.cls cT = true) :
    gt_F e u f q (.found x.handlerPc) (u.vm.noted f.method.cls x.catchType (.cls cT)) := by
  intro Z E d acts
  rw [W.findHandler_eq hm hc, htab]
  have hal : u.vm.Alike (u.vm.noted f.method.cls x.catchType (.cls cT)) := (Vm.Alike.refl u.vm).noted _ _ _
  obtain ⟨r1, r2⟩ := (resolveClass_links e.toSetting hl).op (op := VmOp.resolveClass f.method.cls x.catchType) rfl
  obtain ⟨k1, hk1⟩ := hk
  obtain ⟨k2, hk2⟩ := hkT
  obtain ⟨k3, hk3, -⟩ := hal.2.2 _ _ hk1
  obtain ⟨k4, hk4, -⟩ := hal.2.2 _ _ hk2
  have hfit2 : (u.vm.noted f.method.cls x.catchType (.cls cT)).assignable ce.cls cT = true := by rw [hal.assignable]; exact hfit
  simp only [covers] at hx
  simp [findHandler.go, hx, h0, r1, r2, hce, hobj, hk3, hk4, hfit2, VmOp.dirties, VmOp.acts]
theorem gt_step {u : State} {q : Addr} {f : JFrame} {r : List Frame} {hp : Nat} {vm' : Vm} (hfind : gt_F e u f q (.found hp) vm') : (stepThrowing e u q (.java f :: r)).Is ((u.setVm vm').setFrames (.java { f with pc := hp, stack := [.ref q] } :: r)) [] := by
  simp only [stepThrowing, searchFrame, vmDo]
  generalize hr : Sem.go _ e false [] u = res
  obtain ⟨as, rfl, ha⟩ := Sem.eq_ok_of hr (a := Handler.found hp) (s' := u.setVm vm') (acts' := []) (by simp [hfind _ _ _ _])
  exact ⟨rfl, ha⟩
theorem gt_sf (u : State) (vm' : Vm) (A B : List Frame) : ((u.setFrames A).setVm vm').setFrames B = (u.setVm vm').setFrames B := by
  show ((u.setVm vm').setFrames A).setFrames B = _
  rw [State.setFrames_setFrames]
theorem gt_catch {own : String} {x : ExceptionTableEntry} {ce : Cell} {q : Addr} (hTab : c.exceptionTable.toList = [x]) (hx : covers x pc = true) (h0 : x.catchType ≠ 0) (hown : s.vm.findClass own = some m.cls) (hlink : (Cond.classLink own x.catchType "java/lang/IllegalArgumentException").before args s = true) (hcast : (Cond.castable "java/lang/IllegalArgumentException" "java/lang/IllegalArgumentException").before args s = true)
    (hcell : H[q]? = some ce) (hv : ce.vm = .none) (hcl : s.vm.findClass "java/lang/IllegalArgumentException" = some ce.cls) (kk : W p l e R s m args below meth c H locs cells slots Q (F0 m x.handlerPc ls [.ref q])) : gt_W p l e R s m args below meth c H locs cells slots Q (F0 m pc ls rest) q := by
  intro T hT X
  have hpl : e.platform.magicAccessors = ({} : Platform).magicAccessors := by rw [X.admits.platform]
  obtain ⟨cT, hcT, hlk⟩ := Cond.classLink_spec hown hlink e.platform hpl
  obtain ⟨c3, c4, hc3, hc4, hasg⟩ := Cond.castable_spec hcast
  cases Option.some.inj (hc3.symm.trans hcl)
  cases Option.some.inj (hc4.symm.trans hcT)
  obtain ⟨-, hwarm, -⟩ := State.classEntry (e := e) X.warmed hlk
  have hlinkT : (Cond.classLink own x.catchType "java/lang/IllegalArgumentException").before args T = true := gw_ww rfl X.warmed hlink
  obtain ⟨c5, hc5, hlkT⟩ := Cond.classLink_spec (show T.vm.findClass own = some m.cls by rw [X.warmed.alike.findClass]; exact hown) hlinkT e.platform hpl
  rw [X.warmed.alike.findClass] at hc5
  cases Option.some.inj (hc5.symm.trans hcT)
  obtain ⟨k1, hk1, -⟩ := Vm.findClass_spec hcl
  obtain ⟨k2, hk2, -⟩ := Vm.findClass_spec hcT
  obtain ⟨k3, hk3, -⟩ := X.warmed.alike.2.2 _ _ hk1
  obtain ⟨k4, hk4, -⟩ := X.warmed.alike.2.2 _ _ hk2
  have hF : gt_F e ((T.setTop (F0 m pc ls rest)).pushFrame (.throwing q)) (F0 m pc ls rest) q (.found x.handlerPc) (T.vm.noted m.cls x.catchType (.cls cT)) := by
    have h9 := gt_find (e := e) (u := (T.setTop (F0 m pc ls rest)).pushFrame (.throwing q)) (f := F0 m pc ls rest) (q := q) (mt := meth) (cd := c) (x := x) (cT := cT) (ce := ce) (by rw [Stand.throwing_vm]; exact X.method') X.code hTab hx h0 (by rw [Stand.throwing_vm]; exact hlkT) (by rw [Stand.throwing_heap, hT]; exact hcell) (fun k hk => by rw [hv] at hk; cases hk) (by rw [Stand.throwing_vm]; exact ⟨k3, hk3⟩) (by rw [Stand.throwing_vm]; exact ⟨k4, hk4⟩) (by rw [Stand.throwing_vm, X.warmed.alike.assignable]; exact hasg)
    rw [Stand.throwing_vm] at h9
    exact h9
  have X' := X.noted hwarm
  obtain ⟨t, a1, b1⟩ := kk (T.setVm (T.vm.noted m.cls x.catchType (.cls cT))) hT X'
  refine ⟨t, ?_, b1⟩
  have hat : At T (F0 m pc ls rest).method c below := X.here
  obtain ⟨hgo, hw⟩ := hat.throwing q
  refine Steps.head hgo hw ?_
  rw [stepThread_throwing (frames_entered hat.top _), (gt_step (u := (T.setTop (F0 m pc ls rest)).pushFrame (.throwing q)) hF).1]
  obtain ⟨g₀, hg0⟩ := Option.isSome_iff_exists.mp hat.top
  obtain ⟨r, hr⟩ := State.topJava?_eq_some.mp hg0
  have hr' : (T.setVm (T.vm.noted m.cls x.catchType (.cls cT))).frames = .java g₀ :: r := hr
  rw [State.setTop_of_frames _ hr'] at a1
  rw [hr, List.tail_cons, State.pushFrame, gt_sf, State.setTop_of_frames _ hr, gt_sf]
  exact a1
/-- a static call of a method with a table -/
theorem gt_runSW {y : MethodName} {bytes cc : ByteArray} {maxL nL mc ms n index : Nat} {ret : Option FieldType} {hh : List (Nat × Nat × Nat × Nat)} {rm : Room} {Pc : Array Value → State → Prop} {Qc : Array Value → State → Outcome → State → Prop} {free : Addr → Prop} {Ts : List Cond} {own : String} {As : List Value} {g : JFrame} (S : CallFix p m c cc nL s args Ts own) (hM : Met l y [.codeWith y bytes maxL ret hh] rm Pc Qc mc ms free) (hrc : rm.cells = mc) (hrs : rm.slots = ms) (hR : rm.frames + 1 ≤ R.frames ∧ 8 + (maxL + 11) + rm.locals ≤ R.locals) (hG : GoodIn Ts (va_wsS own index y [.codeWith y bytes maxL ret hh]))
    (hd : y.cls ≠ "java/lang/invoke/MethodHandle" ∧ y.cls ≠ "java/lang/invoke/VarHandle" ∧ (parseMethodDescriptor y.desc).map (fun d => d.parameters.length) = some n) (hp : PreS s H Pc As)
    (hg : g.method = m) (hn : As.length = n) (hsize : g.locals.size = nL) (hstack : g.stack = As.reverse ++ rest) (hW : 2 * g.monitorRoom + (rest.map fun v => v.category).sum ≤ 8) (hdg : decode cc g.pc = .ok (.invokestatic index, 3)) (hf : cells + mc ≤ R.cells ∧ slots + ms ≤ R.slots) :
    va_Run p l e R s m args below meth c H locs cells slots mc ms g rest (Qc As.toArray) free := by
  obtain ⟨hx, hb, hml, ho, hts⟩ := S
  have ok : ∀ w ∈ va_wsS own index y [.codeWith y bytes maxL ret hh], w.before args s = true := fun w h => hts w (hG w h).1
  have hini : (Cond.initialized y.cls).before args s = true := ok _ (by simp [va_wsS])
  have hcode : (Cond.codeWith y bytes maxL ret hh).before args s = true := ok _ (by simp [va_wsS])
  have hK : Back l R p e below s args y 3 8 (PreOf R mc ms Pc) (PostOf Qc mc ms free) := va_backW (hh := hh) (bytes := bytes) (maxL := maxL) (ret := ret) hM hp.1 hrc hrs hR.1 hR.2 (fun w hw => pay_in hts hG w (by unfold va_wsS; exact List.mem_append_right _ hw)) List.mem_cons_self (fun a' U hW9 => word_at hW9 (Or.inl (by first | rfl | simp [Cond.onTables, Cond.keeps, Cond.steady])) hini)
  obtain ⟨mk, methM, cM, hnamed, hmethM, -, -, -, -, -, -, hsigM⟩ := Cond.codeWith_spec hcode
  have hstatic : methM.isStatic = true := Cond.static_spec hnamed hmethM (ok _ (by simp [va_wsS]))
  obtain ⟨kP, hkP, -⟩ := className_of_methodNamed hnamed
  have hinitP : kP.init = .initialized := Cond.initialized_spec (findClass_of_methodNamed hnamed) hkP hini
  have hlen : As.length = methM.sig.parameters.length := by
    have h2 := hd.2.2
    rw [hsigM] at h2
    exact hn.trans (Option.some.inj h2).symm
  have hlink9 : (Cond.methodLink own index y).before args s = true := ok _ (by simp [va_wsS])
  intro T hT X
  obtain ⟨vm₁, X₁, hstep⟩ := X.invokestatic hx ho hlink9 hnamed hmethM hstatic hkP hinitP ⟨hd.1, hd.2.1⟩ (g := g) hg (argsL := As) (rest := rest) hlen hstack (by rw [hb]; exact hdg)
  obtain ⟨v, ⟨U', l2, c2, s2⟩, X', ⟨g', mk', t, L, e1, e2, hq, h1, hL, h2, h3⟩, hsteps⟩ := hK m meth c ⟨T.setVm vm₁, locs, cells, slots⟩ { g with stack := rest } (.invokestatic index) mk As.toArray X₁ hg (hsize.trans hml.symm) (by rw [hb]; exact hdg) hW (X₁.named hnamed) ⟨hf.1, hf.2, hp.2 (T.setVm vm₁) hT X₁.warmed⟩
  dsimp only [Pt.U, Pt.locs, Pt.cells, Pt.slots] at X' e1 e2 h1 h2 h3 hsteps
  subst h1; subst h2; subst h3
  exact ⟨v, (T.setVm vm₁).calling g' mk' As.toArray, t, U', L, hT, X', hL, e1, e2, hq, fun target h9 => hstep _ fun acts => by rw [doInvoke_state]; exact hsteps.trans h9⟩
end GTK
section GTH
variable {l : Launch} {y : MethodName} {rm : Room} {G : gw_G} {M : gw_M} {av : List Value} {Qc : Array Value → State → Outcome → State → Prop} {mc ms : Nat} {cc : ByteArray} {maxL : Nat} {ret : Option FieldType}
theorem gt_startH {hh : List (Nat × Nat × Nat × Nat)} (hy : plainName y.cls = true) (hn : (lg_sl av).length ≤ maxL)
    (body : ∀ (p : Program) (e : Env) (s : State) (m : MethodId) (below : List Frame) (meth : Method) (c : Code), c.exceptionTable.toList = tableOf hh → p.tables.exec = Jvm.exec → c.code = cc → meth.sig.returnType = ret → c.maxLocals = maxL → s.vm.findClass y.cls = some m.cls → meth.locks = false → meth.name = y.name → gw_E G s → G.2.2.2 ≤ s.heap.size → gw_P G.1 vwCl G.2.2.2 M s.heap →
      ∀ ls : Array Slot, lv_has ls maxL (lv_args 0 av) → W p l e rm s m av.toArray below meth c s.heap [] 0 0 (MQ below Qc av.toArray s mc ms (gw_A G)) (F0 m 0 ls [])) :
    Met l y [.codeWith y cc maxL ret hh] rm (gw_Pc G M av) Qc mc ms (gw_A G) := by
  refine va_MetW (cc := cc) (maxL := maxL) (ret := ret) (hh := hh) hy rfl ?_
  intro p e s m args below meth c s₁ B hml hv
  obtain ⟨rfl, hE, hB, hW⟩ := hv
  have hTab : c.exceptionTable.toList = tableOf hh := by
    obtain ⟨m9, meth9, c9, hn9, h1, h2, -, -, h6, -⟩ := Cond.codeWith_spec (atoms_spec (ws := [.codeWith y cc maxL ret hh]) B.pre _ List.mem_cons_self)
    cases Option.some.inj (hn9.symm.trans B.named)
    cases Option.some.inj (h1.symm.trans B.method)
    cases Option.some.inj (h2.symm.trans (Stand.of_body B).code)
    rw [← h6, table_eq]
  have hl := lv_entry av (n := maxL) hn
  rw [lg_entry_eq]
  generalize (lg_sl av ++ List.replicate (maxL - (lg_sl av).length) Slot.unset).toArray = ls at hl ⊢
  exact body p e s m below meth c hTab B.exec B.bytes B.returns hml (findClass_of_methodNamed B.named) B.notSynchronized (name_of_methodNamed B.named B.method).1 hE hB hW ls hl
end GTH
