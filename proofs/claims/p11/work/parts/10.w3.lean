/-! THE CLASS'S WORLD, general: A 0 the object, 1 its row, 2 the row's numbers, 3 jobs, 4 known, 5 nowhere, 6 gone -/
/-- an ArrayList at o of n elements, each a cell of the role re -/
def gl_L (G : gw_G) (M : gw_M) (o ro ra re n : Nat) : Prop := ∃ k : Int32, (n = 0 ∧ M o = some (ro, .inr (4, [.int k, .ref (G.2.2.1 0), .int (nI n)]))) ∨
  ∃ (a cap : Nat) (f : Nat → Option Nat), M o = some (ro, .inr (4, [.int k, .ref a, .int (nI n)])) ∧ M a = some (ra, .inl (G.2.1 1, cap, .inr (.inr (.inr (.inr f))))) ∧ n ≤ cap ∧ (1 ≤ cap ∧ cap ≤ 1000) ∧ ∀ i : Nat, i < n → ∃ (y : Nat) (e : va_E), f i = some y ∧ M y = some (re, e)
/-- a cell of the role r -/
def gp_R (M : gw_M) (r a : Nat) : Prop := ∃ e : va_E, M a = some (r, e)
/-- roles stay -/
def gp_S (M M2 : gw_M) : Prop := ∀ r a : Nat, gp_R M r a → gp_R M2 r a
theorem gp_S.rf {M : gw_M} : gp_S M M := fun _ _ h => h
theorem gp_S.tr {M M1 M2 : gw_M} (h1 : gp_S M M1) (h2 : gp_S M1 M2) : gp_S M M2 := fun r a h => h2 r a (h1 r a h)
theorem gp_up {M : gw_M} {a r : Nat} {e0 e : va_E} (ha : M a = some (r, e0)) : gp_S M (gw_up M a r e) := by
  intro r' b ⟨e', hb⟩
  by_cases q : b = a
  · subst q
    rw [ha] at hb
    cases hb
    exact ⟨e, gw_up_self _ _ _ _⟩
  · exact ⟨e', by rw [gw_up_ne q]; exact hb⟩
theorem gp_new {M : gw_M} {a r : Nat} {e : va_E} (ha : M a = none) : gp_S M (gw_up M a r e) := fun _ _ ⟨e', hb⟩ => ⟨e', gw_keepN hb ha⟩
def gx_Z (cI : ClassId) (M : gw_M) : Prop :=
  (∀ (a : Nat) (e : va_E), M a = some (9, e) → ∃ n s v k f : Int32, e = .inr (2, [.int n, .int s, .int v, .int k, .int f])) ∧
  (∀ (a : Nat) (e : va_E), M a = some (10, e) → ∃ (t : Nat) (en : Int32), e = .inr (3, [.ref t, .int en]) ∧ gp_R M 11 t) ∧
  (∀ (a : Nat) (e : va_E), M a = some (11, e) → ∃ (k : Nat) (f : Nat → Int32), k ≤ 256 ∧ e = .inl (cI, k, .inl f))
def gx_W (G : gw_G) (A : Nat → Nat) (lim sc E : Int32) (j n : Nat) (M : gw_M) : Prop := ∃ (gc rs : Nat) (f3 f8 : Nat → Int32),
  M (A 0) = some (1, .inr (0, [.int lim, .int sc, .int E, .ref (A 1), .ref (A 3), .ref (A 4), .ref (A 5), .ref (A 6), .int (nI gc)])) ∧
  M (A 1) = some (2, .inr (1, [.ref (A 2), .int (nI rs)])) ∧ M (A 2) = some (3, .inl (G.2.1 0, 256, .inl f3)) ∧ M (A 6) = some (8, .inl (G.2.1 0, 512, .inl f8)) ∧
  gc ≤ 512 ∧ rs ≤ 256 ∧ gl_L G M (A 3) 4 6 10 j ∧ gl_L G M (A 4) 5 7 9 n ∧ gp_R M 9 (A 5) ∧ gx_Z (G.2.1 0) M
theorem gl_L.st {G : gw_G} {M M2 : gw_M} {o ro ra re n : Nat} (h : gl_L G M o ro ra re n) (h1 : ∀ (a : Nat) (e : va_E), M a = some (ro, e) → M2 a = some (ro, e)) (h2 : ∀ (a : Nat) (e : va_E), M a = some (ra, e) → M2 a = some (ra, e)) (h3 : gp_S M M2) : gl_L G M2 o ro ra re n := by
  obtain ⟨k, ⟨e0, hf⟩ | ⟨a, cap, f, hf, ha, hc, hc2, he⟩⟩ := h
  · exact ⟨k, Or.inl ⟨e0, h1 _ _ hf⟩⟩
  · refine ⟨k, Or.inr ⟨a, cap, f, h1 _ _ hf, h2 _ _ ha, hc, hc2, fun i hi => ?_⟩⟩
    obtain ⟨y, e, hy, hM⟩ := he i hi
    obtain ⟨e2, hM2⟩ := h3 re y ⟨e, hM⟩
    exact ⟨y, e2, hy, hM2⟩
theorem gw_upo {M : gw_M} {a r rb b : Nat} {e0 e eb : va_E} (ha : M a = some (r, e0)) (hr : r ≠ rb) (hb : M b = some (rb, eb)) : gw_up M a r e b = some (rb, eb) := gw_keep hb ha hr
/-- a cell of a pooled role is another now -/
theorem gx_Z.up {cI : ClassId} {M : gw_M} {a r : Nat} {e0 e : va_E} (h : gx_Z cI M) (ha : M a = some (r, e0)) (h9 : r = 9 → ∃ n s v k f : Int32, e = .inr (2, [.int n, .int s, .int v, .int k, .int f])) (h10 : r = 10 → ∃ (t : Nat) (en : Int32), e = .inr (3, [.ref t, .int en]) ∧ gp_R M 11 t) (h11 : r = 11 → ∃ (k : Nat) (f : Nat → Int32), k ≤ 256 ∧ e = .inl (cI, k, .inl f)) : gx_Z cI (gw_up M a r e) := by
  have hp : gp_S M (gw_up M a r e) := gp_up ha
  refine ⟨fun b eb hb => ?_, fun b eb hb => ?_, fun b eb hb => ?_⟩
  · by_cases q : b = a
    · subst q; rw [gw_up_self] at hb; cases hb; exact h9 rfl
    · rw [gw_up_ne q] at hb; exact h.1 b eb hb
  · by_cases q : b = a
    · subst q; rw [gw_up_self] at hb; cases hb; obtain ⟨t, en, h1, h2⟩ := h10 rfl; exact ⟨t, en, h1, hp _ _ h2⟩
    · rw [gw_up_ne q] at hb; obtain ⟨t, en, h1, h2⟩ := h.2.1 b eb hb; exact ⟨t, en, h1, hp _ _ h2⟩
  · by_cases q : b = a
    · subst q; rw [gw_up_self] at hb; cases hb; exact h11 rfl
    · rw [gw_up_ne q] at hb; exact h.2.2 b eb hb
theorem gx_Z.new {cI : ClassId} {M : gw_M} {a r : Nat} {e : va_E} (h : gx_Z cI M) (ha : M a = none) (h9 : r = 9 → ∃ n s v k f : Int32, e = .inr (2, [.int n, .int s, .int v, .int k, .int f])) (h10 : r = 10 → ∃ (t : Nat) (en : Int32), e = .inr (3, [.ref t, .int en]) ∧ gp_R M 11 t) (h11 : r = 11 → ∃ (k : Nat) (f : Nat → Int32), k ≤ 256 ∧ e = .inl (cI, k, .inl f)) : gx_Z cI (gw_up M a r e) := by
  have hp : gp_S M (gw_up M a r e) := gp_new ha
  refine ⟨fun b eb hb => ?_, fun b eb hb => ?_, fun b eb hb => ?_⟩
  · by_cases q : b = a
    · subst q; rw [gw_up_self] at hb; cases hb; exact h9 rfl
    · rw [gw_up_ne q] at hb; exact h.1 b eb hb
  · by_cases q : b = a
    · subst q; rw [gw_up_self] at hb; cases hb; obtain ⟨t, en, h1, h2⟩ := h10 rfl; exact ⟨t, en, h1, hp _ _ h2⟩
    · rw [gw_up_ne q] at hb; obtain ⟨t, en, h1, h2⟩ := h.2.1 b eb hb; exact ⟨t, en, h1, hp _ _ h2⟩
  · by_cases q : b = a
    · subst q; rw [gw_up_self] at hb; cases hb; exact h11 rfl
    · rw [gw_up_ne q] at hb; exact h.2.2 b eb hb
/-- roles that no pool has -/
theorem gx_Z.up' {cI : ClassId} {M : gw_M} {a r : Nat} {e0 e : va_E} (h : gx_Z cI M) (ha : M a = some (r, e0)) (hr : r ≠ 9 ∧ r ≠ 10 ∧ r ≠ 11) : gx_Z cI (gw_up M a r e) := h.up ha (fun q => absurd q hr.1) (fun q => absurd q hr.2.1) (fun q => absurd q hr.2.2)
theorem gx_Z.new' {cI : ClassId} {M : gw_M} {a r : Nat} {e : va_E} (h : gx_Z cI M) (ha : M a = none) (hr : r ≠ 9 ∧ r ≠ 10 ∧ r ≠ 11) : gx_Z cI (gw_up M a r e) := h.new ha (fun q => absurd q hr.1) (fun q => absurd q hr.2.1) (fun q => absurd q hr.2.2)
section GXW
variable {G : gw_G} {A : Nat → Nat} {lim sc E : Int32} {j n : Nat} {M : gw_M}
theorem gx_W.now (h : gx_W G A lim sc E j n M) : gp_R M 9 (A 5) := by
  obtain ⟨_, _, _, _, _, _, _, _, _, _, _, _, h, _⟩ := h
  exact h
theorem gx_W.z (h : gx_W G A lim sc E j n M) : gx_Z (G.2.1 0) M := by
  obtain ⟨_, _, _, _, _, _, _, _, _, _, _, _, _, h⟩ := h
  exact h
theorem gx_W.jobs (h : gx_W G A lim sc E j n M) : gl_L G M (A 3) 4 6 10 j := by
  obtain ⟨_, _, _, _, _, _, _, _, _, _, h, _⟩ := h
  exact h
theorem gx_W.known (h : gx_W G A lim sc E j n M) : gl_L G M (A 4) 5 7 9 n := by
  obtain ⟨_, _, _, _, _, _, _, _, _, _, _, h, _⟩ := h
  exact h
theorem gx_W.g9 {a : Nat} (h : gx_W G A lim sc E j n M) (ha : gp_R M 9 a) : ∃ v1 v2 v3 v4 v5 : Int32, M a = some (9, .inr (2, [.int v1, .int v2, .int v3, .int v4, .int v5])) := by
  obtain ⟨e, ha⟩ := ha
  obtain ⟨v1, v2, v3, v4, v5, rfl⟩ := h.z.1 a e ha
  exact ⟨v1, v2, v3, v4, v5, ha⟩
theorem gx_W.g10 {a : Nat} (h : gx_W G A lim sc E j n M) (ha : gp_R M 10 a) : ∃ (t : Nat) (en : Int32), M a = some (10, .inr (3, [.ref t, .int en])) ∧ gp_R M 11 t := by
  obtain ⟨e, ha⟩ := ha
  obtain ⟨t, en, rfl, ht⟩ := h.z.2.1 a e ha
  exact ⟨t, en, ha, ht⟩
theorem gx_W.g11 {a : Nat} (h : gx_W G A lim sc E j n M) (ha : gp_R M 11 a) : ∃ (k : Nat) (f : Nat → Int32), k ≤ 256 ∧ M a = some (11, .inl (G.2.1 0, k, .inl f)) := by
  obtain ⟨e, ha⟩ := ha
  obtain ⟨k, f, hk, rfl⟩ := h.z.2.2 a e ha
  exact ⟨k, f, hk, ha⟩
/-- a Generation is written -/
theorem gx_W.up9 {a : Nat} {e0 : va_E} {v1 v2 v3 v4 v5 : Int32} (h : gx_W G A lim sc E j n M) (ha : M a = some (9, e0)) : gx_W G A lim sc E j n (gw_up M a 9 (.inr (2, [.int v1, .int v2, .int v3, .int v4, .int v5]))) := by
  have hp : gp_S M (gw_up M a 9 (.inr (2, [.int v1, .int v2, .int v3, .int v4, .int v5]))) := gp_up ha
  obtain ⟨gc, rs, f3, f8, h1, h2, h3, h4, h5, h6, h7, h8, h9, h10⟩ := h
  exact ⟨gc, rs, f3, f8, gw_upo ha (by decide) h1, gw_upo ha (by decide) h2, gw_upo ha (by decide) h3, gw_upo ha (by decide) h4, h5, h6, h7.st (fun _ _ q => gw_upo ha (by decide) q) (fun _ _ q => gw_upo ha (by decide) q) hp, h8.st (fun _ _ q => gw_upo ha (by decide) q) (fun _ _ q => gw_upo ha (by decide) q) hp, hp _ _ h9, h10.up ha (fun _ => ⟨v1, v2, v3, v4, v5, rfl⟩) (fun q => absurd q (by decide)) (fun q => absurd q (by decide))⟩
/-- a Job is written -/
theorem gx_W.up10 {a t : Nat} {e0 : va_E} {en : Int32} (h : gx_W G A lim sc E j n M) (ha : M a = some (10, e0)) (ht : gp_R M 11 t) : gx_W G A lim sc E j n (gw_up M a 10 (.inr (3, [.ref t, .int en]))) := by
  have hp : gp_S M (gw_up M a 10 (.inr (3, [.ref t, .int en]))) := gp_up ha
  obtain ⟨gc, rs, f3, f8, h1, h2, h3, h4, h5, h6, h7, h8, h9, h10⟩ := h
  exact ⟨gc, rs, f3, f8, gw_upo ha (by decide) h1, gw_upo ha (by decide) h2, gw_upo ha (by decide) h3, gw_upo ha (by decide) h4, h5, h6, h7.st (fun _ _ q => gw_upo ha (by decide) q) (fun _ _ q => gw_upo ha (by decide) q) hp, h8.st (fun _ _ q => gw_upo ha (by decide) q) (fun _ _ q => gw_upo ha (by decide) q) hp, hp _ _ h9, h10.up ha (fun q => absurd q (by decide)) (fun _ => ⟨t, en, rfl, ht⟩) (fun q => absurd q (by decide))⟩
/-- a new cell of a pool -/
theorem gx_W.newp {a r : Nat} {e : va_E} (h : gx_W G A lim sc E j n M) (ha : M a = none) (hz : gx_Z (G.2.1 0) (gw_up M a r e)) : gx_W G A lim sc E j n (gw_up M a r e) := by
  have hp : gp_S M (gw_up M a r e) := gp_new ha
  obtain ⟨gc, rs, f3, f8, h1, h2, h3, h4, h5, h6, h7, h8, h9, -⟩ := h
  exact ⟨gc, rs, f3, f8, gw_keepN h1 ha, gw_keepN h2 ha, gw_keepN h3 ha, gw_keepN h4 ha, h5, h6, h7.st (fun _ _ q => gw_keepN q ha) (fun _ _ q => gw_keepN q ha) hp, h8.st (fun _ _ q => gw_keepN q ha) (fun _ _ q => gw_keepN q ha) hp, hp _ _ h9, hz⟩
/-- the object itself is written -/
theorem gx_W.up1 {e0 : va_E} {E2 : Int32} {gc2 : Nat} (h : gx_W G A lim sc E j n M) (ha : M (A 0) = some (1, e0)) (hg : gc2 ≤ 512) : gx_W G A lim sc E2 j n (gw_up M (A 0) 1 (.inr (0, [.int lim, .int sc, .int E2, .ref (A 1), .ref (A 3), .ref (A 4), .ref (A 5), .ref (A 6), .int (nI gc2)]))) := by
  have hp : gp_S M (gw_up M (A 0) 1 (.inr (0, [.int lim, .int sc, .int E2, .ref (A 1), .ref (A 3), .ref (A 4), .ref (A 5), .ref (A 6), .int (nI gc2)]))) := gp_up ha
  obtain ⟨gc, rs, f3, f8, h1, h2, h3, h4, h5, h6, h7, h8, h9, h10⟩ := h
  exact ⟨gc2, rs, f3, f8, gw_up_self _ _ _ _, gw_upo ha (by decide) h2, gw_upo ha (by decide) h3, gw_upo ha (by decide) h4, hg, h6, h7.st (fun _ _ q => gw_upo ha (by decide) q) (fun _ _ q => gw_upo ha (by decide) q) hp, h8.st (fun _ _ q => gw_upo ha (by decide) q) (fun _ _ q => gw_upo ha (by decide) q) hp, hp _ _ h9, h10.up' ha (by decide)⟩
theorem gx_W.up2 {e0 : va_E} {rs2 : Nat} (h : gx_W G A lim sc E j n M) (ha : M (A 1) = some (2, e0)) (hg : rs2 ≤ 256) : gx_W G A lim sc E j n (gw_up M (A 1) 2 (.inr (1, [.ref (A 2), .int (nI rs2)]))) := by
  have hp : gp_S M (gw_up M (A 1) 2 (.inr (1, [.ref (A 2), .int (nI rs2)]))) := gp_up ha
  obtain ⟨gc, rs, f3, f8, h1, h2, h3, h4, h5, h6, h7, h8, h9, h10⟩ := h
  exact ⟨gc, rs2, f3, f8, gw_upo ha (by decide) h1, gw_up_self _ _ _ _, gw_upo ha (by decide) h3, gw_upo ha (by decide) h4, h5, hg, h7.st (fun _ _ q => gw_upo ha (by decide) q) (fun _ _ q => gw_upo ha (by decide) q) hp, h8.st (fun _ _ q => gw_upo ha (by decide) q) (fun _ _ q => gw_upo ha (by decide) q) hp, hp _ _ h9, h10.up' ha (by decide)⟩
theorem gx_W.up3 {e0 : va_E} {f : Nat → Int32} (h : gx_W G A lim sc E j n M) (ha : M (A 2) = some (3, e0)) : gx_W G A lim sc E j n (gw_up M (A 2) 3 (.inl (G.2.1 0, 256, .inl f))) := by
  have hp : gp_S M (gw_up M (A 2) 3 (.inl (G.2.1 0, 256, .inl f))) := gp_up ha
  obtain ⟨gc, rs, f3, f8, h1, h2, h3, h4, h5, h6, h7, h8, h9, h10⟩ := h
  exact ⟨gc, rs, f, f8, gw_upo ha (by decide) h1, gw_upo ha (by decide) h2, gw_up_self _ _ _ _, gw_upo ha (by decide) h4, h5, h6, h7.st (fun _ _ q => gw_upo ha (by decide) q) (fun _ _ q => gw_upo ha (by decide) q) hp, h8.st (fun _ _ q => gw_upo ha (by decide) q) (fun _ _ q => gw_upo ha (by decide) q) hp, hp _ _ h9, h10.up' ha (by decide)⟩
theorem gx_W.up8 {e0 : va_E} {f : Nat → Int32} (h : gx_W G A lim sc E j n M) (ha : M (A 6) = some (8, e0)) : gx_W G A lim sc E j n (gw_up M (A 6) 8 (.inl (G.2.1 0, 512, .inl f))) := by
  have hp : gp_S M (gw_up M (A 6) 8 (.inl (G.2.1 0, 512, .inl f))) := gp_up ha
  obtain ⟨gc, rs, f3, f8, h1, h2, h3, h4, h5, h6, h7, h8, h9, h10⟩ := h
  exact ⟨gc, rs, f3, f, gw_upo ha (by decide) h1, gw_upo ha (by decide) h2, gw_upo ha (by decide) h3, gw_up_self _ _ _ _, h5, h6, h7.st (fun _ _ q => gw_upo ha (by decide) q) (fun _ _ q => gw_upo ha (by decide) q) hp, h8.st (fun _ _ q => gw_upo ha (by decide) q) (fun _ _ q => gw_upo ha (by decide) q) hp, hp _ _ h9, h10.up' ha (by decide)⟩
/-- a list has grown (only cells of its own two roles differ) -/
theorem gx_W.addJ {M2 : gw_M} (h : gx_W G A lim sc E j n M) (hf : gw_fr (gw_out [4, 6]) M M2) (hp : gp_S M M2) {j2 : Nat} (hl : gl_L G M2 (A 3) 4 6 10 j2) : gx_W G A lim sc E j2 n M2 := by
  obtain ⟨gc, rs, f3, f8, h1, h2, h3, h4, h5, h6, -, h8, h9, h10⟩ := h
  refine ⟨gc, rs, f3, f8, (hf _ _ _ (by decide)).mp h1, (hf _ _ _ (by decide)).mp h2, (hf _ _ _ (by decide)).mp h3, (hf _ _ _ (by decide)).mp h4, h5, h6, hl, h8.st (fun _ _ q => (hf _ _ _ (by decide)).mp q) (fun _ _ q => (hf _ _ _ (by decide)).mp q) hp, hp _ _ h9, fun a e q => h10.1 a e ((hf _ _ _ (by decide)).mpr q), fun a e q => ?_, fun a e q => h10.2.2 a e ((hf _ _ _ (by decide)).mpr q)⟩
  obtain ⟨t, en, e1, e2⟩ := h10.2.1 a e ((hf _ _ _ (by decide)).mpr q)
  exact ⟨t, en, e1, hp _ _ e2⟩
theorem gx_W.addK {M2 : gw_M} (h : gx_W G A lim sc E j n M) (hf : gw_fr (gw_out [5, 7]) M M2) (hp : gp_S M M2) {n2 : Nat} (hl : gl_L G M2 (A 4) 5 7 9 n2) : gx_W G A lim sc E j n2 M2 := by
  obtain ⟨gc, rs, f3, f8, h1, h2, h3, h4, h5, h6, h7, -, h9, h10⟩ := h
  refine ⟨gc, rs, f3, f8, (hf _ _ _ (by decide)).mp h1, (hf _ _ _ (by decide)).mp h2, (hf _ _ _ (by decide)).mp h3, (hf _ _ _ (by decide)).mp h4, h5, h6, h7.st (fun _ _ q => (hf _ _ _ (by decide)).mp q) (fun _ _ q => (hf _ _ _ (by decide)).mp q) hp, hl, hp _ _ h9, fun a e q => h10.1 a e ((hf _ _ _ (by decide)).mpr q), fun a e q => ?_, fun a e q => h10.2.2 a e ((hf _ _ _ (by decide)).mpr q)⟩
  obtain ⟨t, en, e1, e2⟩ := h10.2.1 a e ((hf _ _ _ (by decide)).mpr q)
  exact ⟨t, en, e1, hp _ _ e2⟩
/-- the reference's steps leave it -/
theorem gx_W.stays {M2 : gw_M} {L : List Nat} (h : gx_W G A lim sc E j n M) (hf : gw_fr (gw_out L) M M2) (hL : ∀ x ∈ L, 50 ≤ x) : gx_W G A lim sc E j n M2 := by
  have hk : ∀ (r a : Nat) (e : va_E), r < 50 → (M a = some (r, e) ↔ M2 a = some (r, e)) := fun r a e hr => hf a r e (fun q => by have := hL r q; omega)
  have hp9 : ∀ r a : Nat, r < 50 → gp_R M r a → gp_R M2 r a := fun r a hr ⟨e, q⟩ => ⟨e, (hk r a e hr).mp q⟩
  obtain ⟨gc, rs, f3, f8, h1, h2, h3, h4, h5, h6, h7, h8, h9, h10⟩ := h
  refine ⟨gc, rs, f3, f8, (hk _ _ _ (by decide)).mp h1, (hk _ _ _ (by decide)).mp h2, (hk _ _ _ (by decide)).mp h3, (hk _ _ _ (by decide)).mp h4, h5, h6, ?_, ?_, hp9 _ _ (by decide) h9, fun a e q => h10.1 a e ((hk _ _ _ (by decide)).mpr q), fun a e q => ?_, fun a e q => h10.2.2 a e ((hk _ _ _ (by decide)).mpr q)⟩
  · obtain ⟨k, ⟨e0, hf0⟩ | ⟨a, cap, f, hf0, ha, hc, hc2, he⟩⟩ := h7
    · exact ⟨k, Or.inl ⟨e0, (hk _ _ _ (by decide)).mp hf0⟩⟩
    · exact ⟨k, Or.inr ⟨a, cap, f, (hk _ _ _ (by decide)).mp hf0, (hk _ _ _ (by decide)).mp ha, hc, hc2, fun i hi => by obtain ⟨y, e, hy, hM⟩ := he i hi; exact ⟨y, e, hy, (hk _ _ _ (by decide)).mp hM⟩⟩⟩
  · obtain ⟨k, ⟨e0, hf0⟩ | ⟨a, cap, f, hf0, ha, hc, hc2, he⟩⟩ := h8
    · exact ⟨k, Or.inl ⟨e0, (hk _ _ _ (by decide)).mp hf0⟩⟩
    · exact ⟨k, Or.inr ⟨a, cap, f, (hk _ _ _ (by decide)).mp hf0, (hk _ _ _ (by decide)).mp ha, hc, hc2, fun i hi => by obtain ⟨y, e, hy, hM⟩ := he i hi; exact ⟨y, e, hy, (hk _ _ _ (by decide)).mp hM⟩⟩⟩
  · obtain ⟨t, en, e1, e2⟩ := h10.2.1 a e ((hk _ _ _ (by decide)).mpr q)
    exact ⟨t, en, e1, hp9 _ _ (by decide) e2⟩
end GXW
theorem gl_L.cell {G : gw_G} {M : gw_M} {o ro ra re n : Nat} (h : gl_L G M o ro ra re n) : ∃ fs : List Value, M o = some (ro, .inr (4, fs)) := by
  obtain ⟨k, ⟨-, hf⟩ | ⟨a, cap, f, hf, -⟩⟩ := h
  · exact ⟨_, hf⟩
  · exact ⟨_, hf⟩
section GRE
variable {p : Program} {l : Launch} {e : Env} {R : Room} {s : State} {m : MethodId} {args : Array Value} {below : List Frame} {meth : Method} {c : Code} {pc : Nat} {cc : ByteArray} {ls : Array Slot}
theorem gr_iret {post : Int32 → Prop} {v : Int32} (hx : p.tables.exec = Jvm.exec) (hb : c.code = cc) (hr : meth.sig.returnType = some .int) (hlocks : meth.locks = false) (hdg : decode cc pc = .ok (.ireturn, 1)) (hp : post v) : W p l e R s m args below meth c s.heap [] 0 0 (MQ below (gr_Qi post) args s 0 0 (fun _ => False)) (F0 m pc ls [.int v]) := W.iret hx hb hr (fun t ht _ => ⟨v, rfl, hp, ht⟩) (fun q hq => nomatch hq) hdg hlocks
theorem gr_zret {post : Int32 → Prop} {v : Int32} {ty : FieldType} (hx : p.tables.exec = Jvm.exec) (hb : c.code = cc) (hr : meth.sig.returnType = some ty) (hlocks : meth.locks = false) (hn : narrow ty (.int v) = .int v) (hdg : decode cc pc = .ok (.ireturn, 1)) (hp : post v) : W p l e R s m args below meth c s.heap [] 0 0 (MQ below (gr_Qi post) args s 0 0 (fun _ => False)) (F0 m pc ls [.int v]) := W.zret hx hb hr hn (fun t ht _ => ⟨v, rfl, hp, ht⟩) (fun q hq => nomatch hq) hdg hlocks
theorem gr_aret {post : Nat → Prop} {v : Nat} {rt : FieldType} (hx : p.tables.exec = Jvm.exec) (hb : c.code = cc) (hr : meth.sig.returnType = some rt) (hlocks : meth.locks = false) (hrt : (∃ n, rt = .object n) ∨ ∃ t, rt = .array t) (hdg : decode cc pc = .ok (.areturn, 1)) (hp : post v) : W p l e R s m args below meth c s.heap [] 0 0 (MQ below (gr_Qr post) args s 0 0 (fun _ => False)) (F0 m pc ls [.ref v]) := W.aret hx hb hr hrt (Or.inr ⟨v, rfl⟩) (fun t ht _ => ⟨v, rfl, hp, ht⟩) (fun q hq => nomatch hq) hdg hlocks
end GRE
theorem gl_L.le {G : gw_G} {M : gw_M} {o ro ra re n : Nat} (h : gl_L G M o ro ra re n) : n ≤ 1000 := by
  obtain ⟨k, ⟨e0, -⟩ | ⟨a, cap, f, -, -, h1, h2, -⟩⟩ := h
  · omega
  · omega
theorem gx_ltN {a b : Nat} (h : ¬ nI b ≤ nI a) (ha : a < 2 ^ 31) (hb : b < 2 ^ 31) : a < b := by
  rcases Nat.lt_or_ge a b with q | q
  · exact q
  · exact absurd (nI_le q ha) h
theorem gx_inN {k : Int32} {b N : Nat} (h0 : ¬ k < 0) (h : ¬ nI b ≤ k) (hb : b < 2 ^ 31) (hN : b ≤ N) : vp_in k N := by
  obtain ⟨j, hj, ej, -⟩ := pk_mu h0 h hb
  rw [vp_in_iff, ej, nI_toInt (by omega)]
  exact ⟨by omega, by omega⟩
/-- only the roles outside P differ, and roles stay -/
def gw_fg (P : Nat → Prop) (M M2 : gw_M) : Prop := gw_fr P M M2 ∧ gp_S M M2
theorem gw_fg.rf {P : Nat → Prop} {M : gw_M} : gw_fg P M M := ⟨gw_fr.rf, gp_S.rf⟩
theorem gw_fg.tr {P : Nat → Prop} {M M1 M2 : gw_M} (h1 : gw_fg P M M1) (h2 : gw_fg P M1 M2) : gw_fg P M M2 := ⟨h1.1.tr h2.1, h1.2.tr h2.2⟩
theorem gw_fg.up {P : Nat → Prop} {M M1 : gw_M} {a r : Nat} {e0 e : va_E} (h : gw_fg P M M1) (ha : M1 a = some (r, e0)) (h0 : ¬ P r) (h1 : ¬ P r) : gw_fg P M (gw_up M1 a r e) := ⟨h.1.up ha h0 h1, h.2.tr (gp_up ha)⟩
theorem gw_fg.new {P : Nat → Prop} {M M1 : gw_M} {a r : Nat} {e : va_E} (h : gw_fg P M M1) (ha : M1 a = none) (h1 : ¬ P r) : gw_fg P M (gw_up M1 a r e) := ⟨h.1.new ha h1, h.2.tr (gp_new ha)⟩
theorem gw_fg.wk {L L0 : List Nat} {M M2 : gw_M} (h : gw_fg (gw_out L) M M2) (hs : ∀ x ∈ L, x ∈ L0) : gw_fg (gw_out L0) M M2 := ⟨h.1.wk hs, h.2⟩
section GCQ
variable {p : Program} {l : Launch} {e : Env} {R : Room} {s : State} {m : MethodId} {args : Array Value} {below : List Frame} {meth : Method} {c : Code} {H : Heap} {locs : List Loc} {cells slots : Nat} {Q : State → Prop}
variable {cc : ByteArray} {pc : Nat} {ls : Array Slot} {rest : List Value} {D : va_G} {cl : List vw_C} {B0 a r : Nat} {tys : List (ClassId × FieldType)} {M : gw_M} {H0 : Heap}
theorem gw_copyq (hexec : p.tables.exec = Jvm.exec) (hb : c.code = cc) (hml : c.maxLocals = ls.size) {own : String} {index : Nat} (hown : s.vm.findClass own = some m.cls) (hlink : (Cond.methodLink own index arraycopyName).before args s = true) (hnat : (Cond.native arraycopyName).before args s = true) (hstat : (Cond.static arraycopyName).before args s = true) (hini : (Cond.initialized "java/lang/System").before args s = true)
    (hK : va_K D cl tys s) (hW : gw_P D cl B0 M H) (hS : va_S (fun q => B0 ≤ q) H0 H locs) (t0 t1 : Nat) {a0 r0 : Nat} {c0 c1 : ClassId} {n0 n1 : Nat} {f g : Nat → Option Nat} {E0 E1 C : String} (ha0 : M a0 = some (r0, .inl (c0, n0, .inr (.inr (.inr (.inr f)))))) (ha1 : M a = some (r, .inl (c1, n1, .inr (.inr (.inr (.inr g)))))) (ht0 : tys[t0]? = some (c0, .object E0)) (ht1 : tys[t1]? = some (c1, .object E1))
    {sp dp n : Int32} (h1 : ¬ sp < 0) (h2 : ¬ dp < 0) (h3 : ¬ n < 0) (h4 : sp.toNatClampNeg + n.toNatClampNeg ≤ n0) (h5 : dp.toNatClampNeg + n.toNatClampNeg ≤ n1) (hel : ∀ i : Nat, i < n.toNatClampNeg → ∀ y : Nat, f (sp.toNatClampNeg + i) = some y → ∃ cellV : Cell, H[y]? = some cellV ∧ cellV.vm.isStatics = false ∧ s.vm.findClass C = some cellV.cls) (hasg : ∀ comp c0 : ClassId, s.vm.findClass E1 = some comp → s.vm.findClass C = some c0 → s.vm.assignable c0 comp = true)
    (hframes : 1 ≤ R.frames) (hlocals : (rest.map fun v => v.category).sum + (nativeFrameWords "java/lang/System" "arraycopy" 5 + 11) ≤ R.locals) (hdg : decode cc pc = .ok (.invokestatic index, 3))
    (kk : ∀ (H1 : Heap) (locs1 : List Loc), gw_P D cl B0 (gw_up M a r (.inl (c1, n1, .inr (.inr (.inr (.inr (va_cpy f g sp.toNatClampNeg dp.toNatClampNeg n.toNatClampNeg))))))) H1 → va_S (fun q => B0 ≤ q) H0 H1 locs1 → W p l e R s m args below meth c H1 locs1 cells slots Q (F0 m (pc + 3) ls rest)) : W p l e R s m args below meth c H locs cells slots Q (F0 m pc ls (.int n :: .int dp :: .ref a :: .int sp :: .ref a0 :: rest)) := by
  obtain ⟨ws, hP, hD, hM⟩ := hW
  obtain ⟨q0, hq0⟩ := List.getElem?_of_mem (hM _ _ _ ha0)
  obtain ⟨q1, hq1⟩ := List.getElem?_of_mem (hM _ _ _ ha1)
  exact va_copyq hexec hb hml hown hlink hnat hstat hini hK hP hD hS q0 q1 t0 t1 hq0 hq1 ht0 ht1 h1 h2 h3 h4 h5 hel hasg hframes hlocals hdg (fun H1 locs1 hP1 hD1 hS1 => kk H1 locs1 ⟨_, hP1, hD1, gw_set hq1 hM⟩ hS1)
/-- an array's cell, by its class -/
theorem gw_recvA {G : gw_G} {x : vp_A} (hK : va_K G.1 vwCl (gw_ty G) s) (hW : gw_P G.1 vwCl B0 M H) (ha : M a = some (r, .inl (G.2.1 1, x))) : ∃ cell : Cell, H[a]? = some cell ∧ cell.vm.isStatics = false ∧ s.vm.findClass "[Ljava/lang/Object;" = some cell.cls := by
  have h1 : H[a]? = some (vp_cell (G.2.1 1) x) := (hW.at ha).1
  obtain ⟨_, _, _, _, _, h2⟩ := (hK.2 1 (G.2.1 1, .object "java/lang/Object") rfl).2
  obtain ⟨n9, y⟩ := x
  refine ⟨_, h1, ?_, ?_⟩
  · rcases y with f | f | f | f | f <;> rfl
  · rcases y with f | f | f | f | f <;> exact h2
end GCQ
theorem gx_mx {c h : Nat} (h1 : 1 ≤ c) (hh : h ≤ c) (hc : c ≤ 1000) : ∃ d : Nat, nI c + (if nI 1 < nI h then nI h else nI 1) = nI (c + d) ∧ 1 ≤ d ∧ d ≤ h + 1 := by
  by_cases q : nI 1 < nI h
  · have q2 := (nI_ltI (by omega) (by omega)).mp q
    exact ⟨h, by rw [if_pos q, nI_add], by omega, by omega⟩
  · exact ⟨1, by rw [if_neg q, nI_add], by omega, by omega⟩
theorem gx_big {k : Nat} (hk : k ≤ 3000) : ¬ (2147483639 : Int32) < nI k := by
  rw [Int32.lt_iff_toInt_lt, nI_toInt (by omega)]
  have e1 : (2147483639 : Int32).toInt = 2147483639 := by decide
  omega
theorem gx_mn {n q : Nat} (h : n ≤ q) (hq : q ≤ 3000) : (if nI q < nI n then nI q else nI n) = nI n := if_neg (fun z => by have := (nI_ltI (by omega) (by omega)).mp z; omega)
theorem gx_half {n : Nat} (h : n < 2 ^ 31) : nI n >>> ((1 : Int32) &&& 31) = nI (n / 2) := pk_shrN h _ 1 (by decide)
theorem gx_one {n : Nat} : nI n + 1 - nI n = nI 1 := by
  rw [nI_1, pk_sub (by omega), show n + 1 - n = 1 by omega]
theorem gx_gt0 {n : Nat} (h : 1 ≤ n) (hn : n < 2 ^ 31) : 0 < nI n := by
  have := nI_lt (a := 0) (b := n) (by omega) hn
  rw [nI_0] at this
  exact this
