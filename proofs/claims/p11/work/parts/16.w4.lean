/-! STARTS over a general map, returns and calls that may throw, the row alone, arithmetic -/
section GUC
variable {p : Program} {l : Launch} {e : Env} {R : Room} {s : State} {m : MethodId} {args : Array Value} {below : List Frame} {meth : Method} {c : Code} {H : Heap} {locs : List Loc} {cells slots : Nat} {Q : State → Prop} {G : gw_G} {px : gw_M → Prop} {pc : Nat} {ls : Array Slot} {rest : List Value} {mc ms : Nat} {cc : ByteArray}
theorem gu_of {Qc : Array Value → State → Outcome → State → Prop} {g : JFrame} (h : W p l e R s m args below meth c H locs cells slots (MQ below Qc args s mc ms (gw_A G)) g) : W p l e R s m args below meth c H locs cells slots (gu_MQ below (gu_Nw G Qc mc ms) G px args s mc ms) g := by
  intro T hT X
  obtain ⟨t, a, o, b1, b2, b3⟩ := h T hT X
  exact ⟨t, a, o, b1, b2, Or.inl b3⟩
theorem gu_ofR {Qc : Array Value → State → Outcome → State → Prop} {g : JFrame} (h : W p l e R s m args below meth c s.heap [] 0 0 (MQ below Qc args s 0 0 (fun _ => False)) g) : W p l e R s m args below meth c s.heap [] 0 0 (gu_MQ below (gu_Nr Qc mc ms) G px args s mc ms) g := by
  intro T hT X
  obtain ⟨t, a, o, b1, b2, b3, L, b4, b5⟩ := h T hT X
  have eL : L = [] := List.eq_nil_iff_forall_not_mem.mpr (fun q hq => b5 q hq)
  subst eL
  obtain ⟨c1, c2, c3⟩ := b4
  exact ⟨t, a, o, b1, b2, Or.inl ⟨b3, c1, c2, c3.mono (Nat.zero_le _) (Nat.zero_le _)⟩⟩
/-- from here on over a general map -/
theorem gw_gen {I : gw_M → Prop} {P : Nat → Prop} {M : gw_M} {g : JFrame} (hI : I M) (hW : gw_P G.1 vwCl G.2.2.2 M s.heap) (k : ∀ (H : Heap) (locs : List Loc) (Mw : gw_M), gw_P G.1 vwCl G.2.2.2 Mw H → va_S (gw_A G) s.heap H locs → I Mw → gw_fg P M Mw → W p l e R s m args below meth c H locs cells slots Q g) : W p l e R s m args below meth c s.heap [] cells slots Q g := k s.heap [] M hW va_S.rf hI gw_fg.rf
theorem gu_calliW {y : MethodName} {bytes : ByteArray} {maxL nL n index : Nat} {ret : Option FieldType} {ws : List Cond} {rm : Room} {Ts : List Cond} {own C : String} {M : gw_M} {b : Addr} {As : List Value} {post : Int32 → gw_M → Prop} (hS : va_S (gw_A G) s.heap H locs) (S : CallFix p m c cc nL s args Ts own) (hM : gu_Met l y ws rm G M (.ref b :: As) (gu_Nw G (gw_Qi G post) mc ms) px mc ms) (cw : CallW R s args own C index y bytes maxL ret ws rm mc ms n) (hp : PreV s H C b (gw_Pc G M (.ref b :: As)) As)
    (hn : As.length = n) (hsize : ls.size = nL) {st0 : List Value} (hstack : st0 = As.reverse ++ .ref b :: rest) (hw : 2 * (F0 m pc ls rest).monitorRoom + (rest.map fun v => v.category).sum ≤ 8) (hdg : decode cc pc = .ok (.invokevirtual index, 3)) (hf : cells + mc ≤ R.cells ∧ slots + ms ≤ R.slots)
    (kx : ∀ (ce : Cell) (q : Addr) (M2 : gw_M) (H1 : Heap) (locs1 : List Loc), px M2 → gw_P G.1 vwCl G.2.2.2 M2 H1 → va_S (gw_A G) s.heap H1 locs1 → H1[q]? = some ce → ce.vm = .none → s.vm.findClass "java/lang/IllegalArgumentException" = some ce.cls → gt_W p l e R s m args below meth c H1 locs1 (cells + mc) (slots + ms) Q (F0 m pc ls rest) q)
    (kk : ∀ (r : Int32) (M2 : gw_M) (H1 : Heap) (locs1 : List Loc), post r M2 → gw_P G.1 vwCl G.2.2.2 M2 H1 → va_S (gw_A G) s.heap H1 locs1 → W p l e R s m args below meth c H1 locs1 (cells + mc) (slots + ms) Q (F0 m (pc + 3) ls (.int r :: rest))) : W p l e R s m args below meth c H locs cells slots Q (F0 m pc ls st0) := by
  refine gu_callV (PL := fun L => ∀ q ∈ L, gw_A G q.base) hS S hM cw hp hn hsize hstack hw hdg hf ?_ ?_ kx
  · intro st₀ t T' L v h0 hN hfe hPL h1 XT
    obtain ⟨⟨⟨r, M2, hv, hpo, hh⟩, hF⟩, -⟩ := hN
    cases hv
    have hz : H.size ≤ t.heap.size := by have h9 := hF.1; rw [h0] at h9; exact h9
    have hk : ∀ z : Nat, z < H.size → ¬ gw_A G z → t.heap[z]? = H[z]? := fun z z1 z2 => by
      have h9 := hF.2 z (by rw [h0]; exact z1) z2
      rw [h0] at h9
      exact h9
    have hS1 : va_S (gw_A G) s.heap t.heap (locs ++ L) := ⟨Nat.le_trans hS.1 hz, fun z z1 z2 => (hk z (Nat.lt_of_lt_of_le z1 hS.1) z2).trans (hS.2.1 z z1 z2), fun z hz9 => (List.mem_append.mp hz9).elim (hS.2.2 z) (hPL z)⟩
    exact kk r M2 t.heap (locs ++ L) hpo hh hS1 T' h1 XT
  · intro a st o t hN
    obtain ⟨⟨⟨r, M2, rfl, -, -⟩, -⟩, L, hfe, hL⟩ := hN
    exact ⟨_, L, rfl, hL, hfe⟩
theorem gu_callrW {y : MethodName} {bytes : ByteArray} {maxL nL n index : Nat} {ret : Option FieldType} {ws : List Cond} {rm : Room} {Ts : List Cond} {own C : String} {M : gw_M} {b : Addr} {As : List Value} {post : Nat → gw_M → Prop} (hS : va_S (gw_A G) s.heap H locs) (S : CallFix p m c cc nL s args Ts own) (hM : gu_Met l y ws rm G M (.ref b :: As) (gu_Nw G (gw_Qr G post) mc ms) px mc ms) (cw : CallW R s args own C index y bytes maxL ret ws rm mc ms n) (hp : PreV s H C b (gw_Pc G M (.ref b :: As)) As)
    (hn : As.length = n) (hsize : ls.size = nL) {st0 : List Value} (hstack : st0 = As.reverse ++ .ref b :: rest) (hw : 2 * (F0 m pc ls rest).monitorRoom + (rest.map fun v => v.category).sum ≤ 8) (hdg : decode cc pc = .ok (.invokevirtual index, 3)) (hf : cells + mc ≤ R.cells ∧ slots + ms ≤ R.slots)
    (kx : ∀ (ce : Cell) (q : Addr) (M2 : gw_M) (H1 : Heap) (locs1 : List Loc), px M2 → gw_P G.1 vwCl G.2.2.2 M2 H1 → va_S (gw_A G) s.heap H1 locs1 → H1[q]? = some ce → ce.vm = .none → s.vm.findClass "java/lang/IllegalArgumentException" = some ce.cls → gt_W p l e R s m args below meth c H1 locs1 (cells + mc) (slots + ms) Q (F0 m pc ls rest) q)
    (kk : ∀ (r : Nat) (M2 : gw_M) (H1 : Heap) (locs1 : List Loc), post r M2 → gw_P G.1 vwCl G.2.2.2 M2 H1 → va_S (gw_A G) s.heap H1 locs1 → W p l e R s m args below meth c H1 locs1 (cells + mc) (slots + ms) Q (F0 m (pc + 3) ls (.ref r :: rest))) : W p l e R s m args below meth c H locs cells slots Q (F0 m pc ls st0) := by
  refine gu_callV (PL := fun L => ∀ q ∈ L, gw_A G q.base) hS S hM cw hp hn hsize hstack hw hdg hf ?_ ?_ kx
  · intro st₀ t T' L v h0 hN hfe hPL h1 XT
    obtain ⟨⟨⟨u, r, hv, hpo, e9, hh⟩, hF⟩, -⟩ := hN
    cases hv
    subst e9
    have hz : H.size ≤ t.heap.size := by have h9 := hF.1; rw [h0] at h9; exact h9
    have hk : ∀ z : Nat, z < H.size → ¬ gw_A G z → t.heap[z]? = H[z]? := fun z z1 z2 => by
      have h9 := hF.2 z (by rw [h0]; exact z1) z2
      rw [h0] at h9
      exact h9
    have hS1 : va_S (gw_A G) s.heap t.heap (locs ++ L) := ⟨Nat.le_trans hS.1 hz, fun z z1 z2 => (hk z (Nat.lt_of_lt_of_le z1 hS.1) z2).trans (hS.2.1 z z1 z2), fun z hz9 => (List.mem_append.mp hz9).elim (hS.2.2 z) (hPL z)⟩
    exact kk u.1 u.2 t.heap (locs ++ L) hpo hh hS1 T' h1 XT
  · intro a st o t hN
    obtain ⟨⟨⟨u, r, rfl, -, -⟩, -⟩, L, hfe, hL⟩ := hN
    exact ⟨_, L, rfl, hL, hfe⟩
end GUC
/-- the class's world with the row's size named -/
def gx_V (G : gw_G) (A : Nat → Nat) (lim sc E : Int32) (j n rs : Nat) (M : gw_M) : Prop := ∃ (gc : Nat) (f3 f8 : Nat → Int32),
  M (A 0) = some (1, .inr (0, [.int lim, .int sc, .int E, .ref (A 1), .ref (A 3), .ref (A 4), .ref (A 5), .ref (A 6), .int (nI gc)])) ∧
  M (A 1) = some (2, .inr (1, [.ref (A 2), .int (nI rs)])) ∧ M (A 2) = some (3, .inl (G.2.1 0, 256, .inl f3)) ∧ M (A 6) = some (8, .inl (G.2.1 0, 512, .inl f8)) ∧
  gc ≤ 512 ∧ rs ≤ 256 ∧ gl_L G M (A 3) 4 6 10 j ∧ gl_L G M (A 4) 5 7 9 n ∧ gp_R M 9 (A 5) ∧ gx_Z (G.2.1 0) M
section GXV
variable {G : gw_G} {A : Nat → Nat} {lim sc E : Int32} {j n rs : Nat} {M : gw_M}
theorem gx_V.w (h : gx_V G A lim sc E j n rs M) : gx_W G A lim sc E j n M := by
  obtain ⟨gc, f3, f8, h⟩ := h
  exact ⟨gc, rs, f3, f8, h⟩
theorem gx_V.now (h : gx_V G A lim sc E j n rs M) : gp_R M 9 (A 5) := h.w.now
theorem gx_V.z (h : gx_V G A lim sc E j n rs M) : gx_Z (G.2.1 0) M := h.w.z
theorem gx_V.jobs (h : gx_V G A lim sc E j n rs M) : gl_L G M (A 3) 4 6 10 j := h.w.jobs
theorem gx_V.known (h : gx_V G A lim sc E j n rs M) : gl_L G M (A 4) 5 7 9 n := h.w.known
theorem gx_V.g9 {a : Nat} (h : gx_V G A lim sc E j n rs M) (ha : gp_R M 9 a) : ∃ v1 v2 v3 v4 v5 : Int32, M a = some (9, .inr (2, [.int v1, .int v2, .int v3, .int v4, .int v5])) := h.w.g9 ha
theorem gx_V.g10 {a : Nat} (h : gx_V G A lim sc E j n rs M) (ha : gp_R M 10 a) : ∃ (t : Nat) (en : Int32), M a = some (10, .inr (3, [.ref t, .int en])) ∧ gp_R M 11 t := h.w.g10 ha
theorem gx_V.g11 {a : Nat} (h : gx_V G A lim sc E j n rs M) (ha : gp_R M 11 a) : ∃ (k : Nat) (f : Nat → Int32), k ≤ 256 ∧ M a = some (11, .inl (G.2.1 0, k, .inl f)) := h.w.g11 ha
theorem gx_V.rs256 (h : gx_V G A lim sc E j n rs M) : rs ≤ 256 := by
  obtain ⟨gc, f3, f8, _, _, _, _, _, h6, _⟩ := h
  exact h6
/-- a Generation is written -/
theorem gx_V.up9 {a : Nat} {e0 : va_E} {v1 v2 v3 v4 v5 : Int32} (h : gx_V G A lim sc E j n rs M) (ha : M a = some (9, e0)) : gx_V G A lim sc E j n rs (gw_up M a 9 (.inr (2, [.int v1, .int v2, .int v3, .int v4, .int v5]))) := by
  have hp : gp_S M (gw_up M a 9 (.inr (2, [.int v1, .int v2, .int v3, .int v4, .int v5]))) := gp_up ha
  obtain ⟨gc, f3, f8, h1, h2, h3, h4, h5, h6, h7, h8, h9, h10⟩ := h
  exact ⟨gc, f3, f8, gw_upo ha (by decide) h1, gw_upo ha (by decide) h2, gw_upo ha (by decide) h3, gw_upo ha (by decide) h4, h5, h6, h7.st (fun _ _ q => gw_upo ha (by decide) q) (fun _ _ q => gw_upo ha (by decide) q) hp, h8.st (fun _ _ q => gw_upo ha (by decide) q) (fun _ _ q => gw_upo ha (by decide) q) hp, hp _ _ h9, h10.up ha (fun _ => ⟨v1, v2, v3, v4, v5, rfl⟩) (fun q => absurd q (by decide)) (fun q => absurd q (by decide))⟩
/-- a Job is written -/
theorem gx_V.up10 {a t : Nat} {e0 : va_E} {en : Int32} (h : gx_V G A lim sc E j n rs M) (ha : M a = some (10, e0)) (ht : gp_R M 11 t) : gx_V G A lim sc E j n rs (gw_up M a 10 (.inr (3, [.ref t, .int en]))) := by
  have hp : gp_S M (gw_up M a 10 (.inr (3, [.ref t, .int en]))) := gp_up ha
  obtain ⟨gc, f3, f8, h1, h2, h3, h4, h5, h6, h7, h8, h9, h10⟩ := h
  exact ⟨gc, f3, f8, gw_upo ha (by decide) h1, gw_upo ha (by decide) h2, gw_upo ha (by decide) h3, gw_upo ha (by decide) h4, h5, h6, h7.st (fun _ _ q => gw_upo ha (by decide) q) (fun _ _ q => gw_upo ha (by decide) q) hp, h8.st (fun _ _ q => gw_upo ha (by decide) q) (fun _ _ q => gw_upo ha (by decide) q) hp, hp _ _ h9, h10.up ha (fun q => absurd q (by decide)) (fun _ => ⟨t, en, rfl, ht⟩) (fun q => absurd q (by decide))⟩
/-- a new cell of a pool -/
theorem gx_V.newp {a r : Nat} {e : va_E} (h : gx_V G A lim sc E j n rs M) (ha : M a = none) (hz : gx_Z (G.2.1 0) (gw_up M a r e)) : gx_V G A lim sc E j n rs (gw_up M a r e) := by
  have hp : gp_S M (gw_up M a r e) := gp_new ha
  obtain ⟨gc, f3, f8, h1, h2, h3, h4, h5, h6, h7, h8, h9, -⟩ := h
  exact ⟨gc, f3, f8, gw_keepN h1 ha, gw_keepN h2 ha, gw_keepN h3 ha, gw_keepN h4 ha, h5, h6, h7.st (fun _ _ q => gw_keepN q ha) (fun _ _ q => gw_keepN q ha) hp, h8.st (fun _ _ q => gw_keepN q ha) (fun _ _ q => gw_keepN q ha) hp, hp _ _ h9, hz⟩
/-- the object itself is written -/
theorem gx_V.up1 {e0 : va_E} {E2 : Int32} {gc2 : Nat} (h : gx_V G A lim sc E j n rs M) (ha : M (A 0) = some (1, e0)) (hg : gc2 ≤ 512) : gx_V G A lim sc E2 j n rs (gw_up M (A 0) 1 (.inr (0, [.int lim, .int sc, .int E2, .ref (A 1), .ref (A 3), .ref (A 4), .ref (A 5), .ref (A 6), .int (nI gc2)]))) := by
  have hp : gp_S M (gw_up M (A 0) 1 (.inr (0, [.int lim, .int sc, .int E2, .ref (A 1), .ref (A 3), .ref (A 4), .ref (A 5), .ref (A 6), .int (nI gc2)]))) := gp_up ha
  obtain ⟨gc, f3, f8, h1, h2, h3, h4, h5, h6, h7, h8, h9, h10⟩ := h
  exact ⟨gc2, f3, f8, gw_up_self _ _ _ _, gw_upo ha (by decide) h2, gw_upo ha (by decide) h3, gw_upo ha (by decide) h4, hg, h6, h7.st (fun _ _ q => gw_upo ha (by decide) q) (fun _ _ q => gw_upo ha (by decide) q) hp, h8.st (fun _ _ q => gw_upo ha (by decide) q) (fun _ _ q => gw_upo ha (by decide) q) hp, hp _ _ h9, h10.up' ha (by decide)⟩
theorem gx_V.up2 {e0 : va_E} {rs2 : Nat} (h : gx_V G A lim sc E j n rs M) (ha : M (A 1) = some (2, e0)) (hg : rs2 ≤ 256) : gx_V G A lim sc E j n rs2 (gw_up M (A 1) 2 (.inr (1, [.ref (A 2), .int (nI rs2)]))) := by
  have hp : gp_S M (gw_up M (A 1) 2 (.inr (1, [.ref (A 2), .int (nI rs2)]))) := gp_up ha
  obtain ⟨gc, f3, f8, h1, h2, h3, h4, h5, h6, h7, h8, h9, h10⟩ := h
  exact ⟨gc, f3, f8, gw_upo ha (by decide) h1, gw_up_self _ _ _ _, gw_upo ha (by decide) h3, gw_upo ha (by decide) h4, h5, hg, h7.st (fun _ _ q => gw_upo ha (by decide) q) (fun _ _ q => gw_upo ha (by decide) q) hp, h8.st (fun _ _ q => gw_upo ha (by decide) q) (fun _ _ q => gw_upo ha (by decide) q) hp, hp _ _ h9, h10.up' ha (by decide)⟩
theorem gx_V.up3 {e0 : va_E} {f : Nat → Int32} (h : gx_V G A lim sc E j n rs M) (ha : M (A 2) = some (3, e0)) : gx_V G A lim sc E j n rs (gw_up M (A 2) 3 (.inl (G.2.1 0, 256, .inl f))) := by
  have hp : gp_S M (gw_up M (A 2) 3 (.inl (G.2.1 0, 256, .inl f))) := gp_up ha
  obtain ⟨gc, f3, f8, h1, h2, h3, h4, h5, h6, h7, h8, h9, h10⟩ := h
  exact ⟨gc, f, f8, gw_upo ha (by decide) h1, gw_upo ha (by decide) h2, gw_up_self _ _ _ _, gw_upo ha (by decide) h4, h5, h6, h7.st (fun _ _ q => gw_upo ha (by decide) q) (fun _ _ q => gw_upo ha (by decide) q) hp, h8.st (fun _ _ q => gw_upo ha (by decide) q) (fun _ _ q => gw_upo ha (by decide) q) hp, hp _ _ h9, h10.up' ha (by decide)⟩
theorem gx_V.up8 {e0 : va_E} {f : Nat → Int32} (h : gx_V G A lim sc E j n rs M) (ha : M (A 6) = some (8, e0)) : gx_V G A lim sc E j n rs (gw_up M (A 6) 8 (.inl (G.2.1 0, 512, .inl f))) := by
  have hp : gp_S M (gw_up M (A 6) 8 (.inl (G.2.1 0, 512, .inl f))) := gp_up ha
  obtain ⟨gc, f3, f8, h1, h2, h3, h4, h5, h6, h7, h8, h9, h10⟩ := h
  exact ⟨gc, f3, f, gw_upo ha (by decide) h1, gw_upo ha (by decide) h2, gw_upo ha (by decide) h3, gw_up_self _ _ _ _, h5, h6, h7.st (fun _ _ q => gw_upo ha (by decide) q) (fun _ _ q => gw_upo ha (by decide) q) hp, h8.st (fun _ _ q => gw_upo ha (by decide) q) (fun _ _ q => gw_upo ha (by decide) q) hp, hp _ _ h9, h10.up' ha (by decide)⟩
/-- a list has grown (only cells of its own two roles differ) -/
theorem gx_V.addJ {M2 : gw_M} (h : gx_V G A lim sc E j n rs M) (hf : gw_fr (gw_out [4, 6]) M M2) (hp : gp_S M M2) {j2 : Nat} (hl : gl_L G M2 (A 3) 4 6 10 j2) : gx_V G A lim sc E j2 n rs M2 := by
  obtain ⟨gc, f3, f8, h1, h2, h3, h4, h5, h6, -, h8, h9, h10⟩ := h
  refine ⟨gc, f3, f8, (hf _ _ _ (by decide)).mp h1, (hf _ _ _ (by decide)).mp h2, (hf _ _ _ (by decide)).mp h3, (hf _ _ _ (by decide)).mp h4, h5, h6, hl, h8.st (fun _ _ q => (hf _ _ _ (by decide)).mp q) (fun _ _ q => (hf _ _ _ (by decide)).mp q) hp, hp _ _ h9, fun a e q => h10.1 a e ((hf _ _ _ (by decide)).mpr q), fun a e q => ?_, fun a e q => h10.2.2 a e ((hf _ _ _ (by decide)).mpr q)⟩
  obtain ⟨t, en, e1, e2⟩ := h10.2.1 a e ((hf _ _ _ (by decide)).mpr q)
  exact ⟨t, en, e1, hp _ _ e2⟩
theorem gx_V.addK {M2 : gw_M} (h : gx_V G A lim sc E j n rs M) (hf : gw_fr (gw_out [5, 7]) M M2) (hp : gp_S M M2) {n2 : Nat} (hl : gl_L G M2 (A 4) 5 7 9 n2) : gx_V G A lim sc E j n2 rs M2 := by
  obtain ⟨gc, f3, f8, h1, h2, h3, h4, h5, h6, h7, -, h9, h10⟩ := h
  refine ⟨gc, f3, f8, (hf _ _ _ (by decide)).mp h1, (hf _ _ _ (by decide)).mp h2, (hf _ _ _ (by decide)).mp h3, (hf _ _ _ (by decide)).mp h4, h5, h6, h7.st (fun _ _ q => (hf _ _ _ (by decide)).mp q) (fun _ _ q => (hf _ _ _ (by decide)).mp q) hp, hl, hp _ _ h9, fun a e q => h10.1 a e ((hf _ _ _ (by decide)).mpr q), fun a e q => ?_, fun a e q => h10.2.2 a e ((hf _ _ _ (by decide)).mpr q)⟩
  obtain ⟨t, en, e1, e2⟩ := h10.2.1 a e ((hf _ _ _ (by decide)).mpr q)
  exact ⟨t, en, e1, hp _ _ e2⟩
/-- the reference's steps leave it -/
theorem gx_V.stays {M2 : gw_M} {L : List Nat} (h : gx_V G A lim sc E j n rs M) (hf : gw_fr (gw_out L) M M2) (hL : ∀ x ∈ L, 50 ≤ x) : gx_V G A lim sc E j n rs M2 := by
  have hk : ∀ (r a : Nat) (e : va_E), r < 50 → (M a = some (r, e) ↔ M2 a = some (r, e)) := fun r a e hr => hf a r e (fun q => by have := hL r q; omega)
  have hp9 : ∀ r a : Nat, r < 50 → gp_R M r a → gp_R M2 r a := fun r a hr ⟨e, q⟩ => ⟨e, (hk r a e hr).mp q⟩
  obtain ⟨gc, f3, f8, h1, h2, h3, h4, h5, h6, h7, h8, h9, h10⟩ := h
  refine ⟨gc, f3, f8, (hk _ _ _ (by decide)).mp h1, (hk _ _ _ (by decide)).mp h2, (hk _ _ _ (by decide)).mp h3, (hk _ _ _ (by decide)).mp h4, h5, h6, ?_, ?_, hp9 _ _ (by decide) h9, fun a e q => h10.1 a e ((hk _ _ _ (by decide)).mpr q), fun a e q => ?_, fun a e q => h10.2.2 a e ((hk _ _ _ (by decide)).mpr q)⟩
  · obtain ⟨k, ⟨e0, hf0⟩ | ⟨a, cap, f, hf0, ha, hc, hc2, he⟩⟩ := h7
    · exact ⟨k, Or.inl ⟨e0, (hk _ _ _ (by decide)).mp hf0⟩⟩
    · exact ⟨k, Or.inr ⟨a, cap, f, (hk _ _ _ (by decide)).mp hf0, (hk _ _ _ (by decide)).mp ha, hc, hc2, fun i hi => by obtain ⟨y, e, hy, hM⟩ := he i hi; exact ⟨y, e, hy, (hk _ _ _ (by decide)).mp hM⟩⟩⟩
  · obtain ⟨k, ⟨e0, hf0⟩ | ⟨a, cap, f, hf0, ha, hc, hc2, he⟩⟩ := h8
    · exact ⟨k, Or.inl ⟨e0, (hk _ _ _ (by decide)).mp hf0⟩⟩
    · exact ⟨k, Or.inr ⟨a, cap, f, (hk _ _ _ (by decide)).mp hf0, (hk _ _ _ (by decide)).mp ha, hc, hc2, fun i hi => by obtain ⟨y, e, hy, hM⟩ := he i hi; exact ⟨y, e, hy, (hk _ _ _ (by decide)).mp hM⟩⟩⟩
  · obtain ⟨t, en, e1, e2⟩ := h10.2.1 a e ((hk _ _ _ (by decide)).mpr q)
    exact ⟨t, en, e1, hp9 _ _ (by decide) e2⟩
/-- an array of role 11 is written -/
theorem gx_V.up11 {a k : Nat} {e0 : va_E} {f : Nat → Int32} (h : gx_V G A lim sc E j n rs M) (ha : M a = some (11, e0)) (hk : k ≤ 256) : gx_V G A lim sc E j n rs (gw_up M a 11 (.inl (G.2.1 0, k, .inl f))) := by
  have hp : gp_S M (gw_up M a 11 (.inl (G.2.1 0, k, .inl f))) := gp_up ha
  obtain ⟨gc, f3, f8, h1, h2, h3, h4, h5, h6, h7, h8, h9, h10⟩ := h
  exact ⟨gc, f3, f8, gw_upo ha (by decide) h1, gw_upo ha (by decide) h2, gw_upo ha (by decide) h3, gw_upo ha (by decide) h4, h5, h6, h7.st (fun _ _ q => gw_upo ha (by decide) q) (fun _ _ q => gw_upo ha (by decide) q) hp, h8.st (fun _ _ q => gw_upo ha (by decide) q) (fun _ _ q => gw_upo ha (by decide) q) hp, hp _ _ h9, h10.up ha (fun q => absurd q (by decide)) (fun q => absurd q (by decide)) (fun _ => ⟨k, f, hk, rfl⟩)⟩
/-- a Job that is made gets its role -/
theorem gp_rr {a r0 r : Nat} {e0 e : va_E} (ha : M a = some (r0, e0)) {r1 b : Nat} (hr : r0 ≠ r1) (hb : gp_R M r1 b) : gp_R (gw_up M a r e) r1 b := by
  obtain ⟨eb, hb⟩ := hb
  exact ⟨eb, gw_keep hb ha hr⟩
theorem gl_L.rr {o ro ra re n : Nat} (h : gl_L G M o ro ra re n) {a : Nat} {e0 e : va_E} {r0 r : Nat} (ha : M a = some (r0, e0)) (h1 : r0 ≠ ro) (h2 : r0 ≠ ra) (h3 : r0 ≠ re) : gl_L G (gw_up M a r e) o ro ra re n := by
  obtain ⟨k, ⟨e0, hf⟩ | ⟨a1, cap, f, hf, ha1, hc, hc2, he⟩⟩ := h
  · exact ⟨k, Or.inl ⟨e0, gw_keep hf ha h1⟩⟩
  · refine ⟨k, Or.inr ⟨a1, cap, f, gw_keep hf ha h1, gw_keep ha1 ha h2, hc, hc2, fun i hi => ?_⟩⟩
    obtain ⟨y, e, hy, hM⟩ := he i hi
    exact ⟨y, e, hy, gw_keep hM ha h3⟩
theorem gx_V.rr {a t : Nat} {e0 : va_E} {en : Int32} (h : gx_V G A lim sc E j n rs M) (ha : M a = some (60, e0)) (ht : gp_R M 11 t) : gx_V G A lim sc E j n rs (gw_up M a 10 (.inr (3, [.ref t, .int en]))) := by
  obtain ⟨gc, f3, f8, h1, h2, h3, h4, h5, h6, h7, h8, h9, h10⟩ := h
  refine ⟨gc, f3, f8, gw_keep h1 ha (by decide), gw_keep h2 ha (by decide), gw_keep h3 ha (by decide), gw_keep h4 ha (by decide), h5, h6, h7.rr ha (by decide) (by decide) (by decide), h8.rr ha (by decide) (by decide) (by decide), gp_rr ha (by decide) h9, fun b e q => ?_, fun b e q => ?_, fun b e q => ?_⟩
  · by_cases z : b = a
    · subst z; rw [gw_up_self] at q; cases q
    · rw [gw_up_ne z] at q; exact h10.1 b e q
  · by_cases z : b = a
    · subst z; rw [gw_up_self] at q; cases q; exact ⟨t, en, rfl, gp_rr ha (by decide) ht⟩
    · rw [gw_up_ne z] at q; obtain ⟨t1, en1, q1, q2⟩ := h10.2.1 b e q; exact ⟨t1, en1, q1, gp_rr ha (by decide) q2⟩
  · by_cases z : b = a
    · subst z; rw [gw_up_self] at q; cases q
    · rw [gw_up_ne z] at q; exact h10.2.2 b e q
end GXV
theorem gw_fg.rr {P : Nat → Prop} {M M1 : gw_M} {a r : Nat} {e : va_E} (h : gw_fg P M M1) (ha : M a = none) (hr : ¬ P r) : gw_fg P M (gw_up M1 a r e) := by
  refine ⟨fun b rb eb hP => ?_, fun rb b hb => ?_⟩
  · by_cases z : b = a
    · subst z
      rw [gw_up_self, ha]
      constructor
      · intro q; cases q
      · intro q; cases q; exact absurd hP hr
    · rw [gw_up_ne z]; exact h.1 b rb eb hP
  · obtain ⟨eb, hb⟩ := hb
    have z : b ≠ a := fun z => by rw [z, ha] at hb; cases hb
    obtain ⟨e2, h2⟩ := h.2 rb b ⟨eb, hb⟩
    exact ⟨e2, by rw [gw_up_ne z]; exact h2⟩
theorem gw_P.rr {D : va_G} {cl : List vw_C} {B0 : Nat} {M : gw_M} {H : Heap} {a r0 r : Nat} {e : va_E} (h : gw_P D cl B0 M H) (ha : M a = some (r0, e)) : gw_P D cl B0 (gw_up M a r e) H := by
  obtain ⟨ws, hP, hD, hM⟩ := h
  refine ⟨ws, hP, hD, fun b rb eb q => ?_⟩
  by_cases z : b = a
  · subst z
    rw [gw_up_self] at q
    cases q
    exact hM _ _ _ ha
  · rw [gw_up_ne z] at q
    exact hM _ _ _ q
/-- Int32, without wrapping around -/
theorem gi_add {a b : Int32} (h : -2147483648 ≤ a.toInt + b.toInt ∧ a.toInt + b.toInt < 2147483648) : (a + b).toInt = a.toInt + b.toInt := by
  rw [Int32.toInt_add]; simp only [Int.bmod]; split <;> omega
theorem gi_sub {a b : Int32} (h : -2147483648 ≤ a.toInt - b.toInt ∧ a.toInt - b.toInt < 2147483648) : (a - b).toInt = a.toInt - b.toInt := by
  rw [Int32.toInt_sub]; simp only [Int.bmod]; split <;> omega
theorem gi_mul {a b : Int32} (h : -2147483648 ≤ a.toInt * b.toInt ∧ a.toInt * b.toInt < 2147483648) : (a * b).toInt = a.toInt * b.toInt := by
  rw [Int32.toInt_mul]; simp only [Int.bmod]; split <;> omega
theorem gi_in {x : Int32} {N : Nat} (h0 : 0 ≤ x.toInt) (h1 : x.toInt < N) : vp_in x N := vp_in_iff.mpr ⟨h0, h1⟩
theorem gi_r (x : Int32) : -2147483648 ≤ x.toInt ∧ x.toInt < 2147483648 := ⟨Int32.le_toInt x, Int32.toInt_lt x⟩
theorem gi_nI {x : Int32} {k : Nat} (h : x.toInt = (k : Int)) (hk : k < 2 ^ 31) : x = nI k := Int32.toInt_inj.mp (by rw [nI_toInt hk]; exact h)
theorem gi_1 : (1 : Int32).toInt = 1 := by decide
theorem gi_0 : (0 : Int32).toInt = 0 := by decide
theorem gx_last {k : Nat} (h : ¬ nI k ≤ 0) (hk : k ≤ 256) : vp_in (nI k - 1) k := by
  have h1 := Int32.not_le.mp h
  rw [Int32.lt_iff_toInt_lt, nI_toInt (by omega), gi_0] at h1
  have h2 := gi_sub (a := nI k) (b := 1) (by rw [nI_toInt (by omega), gi_1]; omega)
  rw [nI_toInt (by omega), gi_1] at h2
  exact gi_in (by omega) (by omega)
theorem gx_cntN {k : Nat} {n : Int32} (h : ¬ n < 1 - nI k) (h0 : ¬ 0 < n) (hk : k ≤ 256) : vp_in (nI k - 1 + n) k := by
  have h1 := Int32.not_lt.mp h
  have h2 := Int32.not_lt.mp h0
  have e1 := gi_sub (a := 1) (b := nI k) (by rw [nI_toInt (by omega), gi_1]; omega)
  have e2 := gi_sub (a := nI k) (b := 1) (by rw [nI_toInt (by omega), gi_1]; omega)
  rw [nI_toInt (by omega), gi_1] at e1 e2
  rw [Int32.le_iff_toInt_le, e1] at h1
  rw [Int32.le_iff_toInt_le, gi_0] at h2
  have e3 := gi_add (a := nI k - 1) (b := n) (by rw [e2]; omega)
  rw [e2] at e3
  exact gi_in (by omega) (by omega)
theorem gw_startRF {l : Launch} {y : MethodName} {rm : Room} {G : gw_G} {M : gw_M} {av : List Value} {Qc : Array Value → State → Outcome → State → Prop} {cc : ByteArray} {maxL : Nat} {ret : Option FieldType} (hy : plainFor y = true) (hn : (lg_sl av).length ≤ maxL)
    (body : ∀ (p : Program) (e : Env) (s : State) (m : MethodId) (below : List Frame) (meth : Method) (c : Code), p.tables.exec = Jvm.exec → c.code = cc → meth.sig.returnType = ret → c.maxLocals = maxL → s.vm.findClass y.cls = some m.cls → meth.locks = false → meth.name = y.name → gw_E G s → G.2.2.2 ≤ s.heap.size → gw_P G.1 vwCl G.2.2.2 M s.heap →
      ∀ ls : Array Slot, lv_has ls maxL (lv_args 0 av) → W p l e rm s m av.toArray below meth c s.heap [] 0 0 (MQ below Qc av.toArray s 0 0 (fun _ => False)) (F0 m 0 ls [])) :
    Met l y [.code y cc maxL ret] rm (gw_Pc G M av) Qc 0 0 (fun _ => False) := by
  refine va_MetF (cc := cc) (maxL := maxL) (ret := ret) hy rfl ?_
  intro p e s m args below meth c s₁ B hml hv
  obtain ⟨rfl, hE, hB, hW⟩ := hv
  have hl := lv_entry av (n := maxL) hn
  rw [lg_entry_eq]
  generalize (lg_sl av ++ List.replicate (maxL - (lg_sl av).length) Slot.unset).toArray = ls at hl ⊢
  exact body p e s m below meth c B.exec B.bytes B.returns hml (findClass_of_methodNamed B.named) B.notSynchronized (name_of_methodNamed B.named B.method).1 hE hB hW ls hl
