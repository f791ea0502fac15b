/-! THE TWO WORLDS AT THE LAW'S START -/
theorem gw_fr.rr2 {M : gw_M} {a r0 r1 : Nat} {e0 e : va_E} (ha : M a = some (r0, e0)) : gw_fr (gw_out [r0, r1]) M (gw_up M a r1 e) := by
  intro b r eb hP
  by_cases z : b = a
  · subst z
    rw [gw_up_self, ha]
    constructor
    · intro q; cases q; exact absurd (List.mem_cons_self) hP
    · intro q; cases q; exact absurd (List.mem_cons_of_mem _ List.mem_cons_self) hP
  · rw [gw_up_ne z]
theorem gx_V.first {G : gw_G} {A : Nat → Nat} {lim sc : Int32} {f3 f8 : Nat → Int32} {M : gw_M} (h1 : M (A 0) = some (1, .inr (0, [.int lim, .int sc, .int 0, .ref (A 1), .ref (A 3), .ref (A 4), .ref (A 5), .ref (A 6), .int 0])))
    (h2 : M (A 1) = some (2, .inr (1, [.ref (A 2), .int 0]))) (h3 : M (A 2) = some (3, .inl (G.2.1 0, 256, .inl f3))) (h4 : M (A 6) = some (8, .inl (G.2.1 0, 512, .inl f8)))
    (h5 : M (A 3) = some (4, .inr (4, [.int 0, .ref (G.2.2.1 0), .int 0]))) (h6 : M (A 4) = some (5, .inr (4, [.int 0, .ref (G.2.2.1 0), .int 0]))) {e : va_E} (h7 : M (A 5) = some (12, e))
    (hz : ∀ (r a : Nat) (e : va_E), r = 9 ∨ r = 10 ∨ r = 11 → ¬ M a = some (r, e)) : gx_V G A lim sc 0 0 0 0 (gw_up M (A 5) 9 (.inr (2, [.int 0, .int 0, .int 0, .int 0, .int 0]))) := by
  have kk : ∀ (b r : Nat) (eb : va_E), 12 ≠ r → M b = some (r, eb) → gw_up M (A 5) 9 (.inr (2, [.int 0, .int 0, .int 0, .int 0, .int 0])) b = some (r, eb) := fun b r eb hr hb => gw_keep hb h7 hr
  rw [← nI_0] at h1 h2
  refine ⟨0, f3, f8, ?_, kk _ _ _ (by decide) h2, kk _ _ _ (by decide) h3, kk _ _ _ (by decide) h4, by omega, by omega, ⟨0, Or.inl ⟨rfl, kk _ _ _ (by decide) h5⟩⟩, ⟨0, Or.inl ⟨rfl, kk _ _ _ (by decide) h6⟩⟩, ⟨_, gw_up_self _ _ _ _⟩, fun b e q => ?_, fun b e q => ?_, fun b e q => ?_⟩
  · have := kk _ _ _ (by decide) h1
    rw [nI_0] at this ⊢
    exact this
  · by_cases z : b = A 5
    · subst z; rw [gw_up_self] at q; cases q; exact ⟨0, 0, 0, 0, 0, rfl⟩
    · rw [gw_up_ne z] at q; exact absurd q (hz _ _ _ (Or.inl rfl))
  · by_cases z : b = A 5
    · subst z; rw [gw_up_self] at q; cases q
    · rw [gw_up_ne z] at q; exact absurd q (hz _ _ _ (Or.inr (Or.inl rfl)))
  · by_cases z : b = A 5
    · subst z; rw [gw_up_self] at q; cases q
    · rw [gw_up_ne z] at q; exact absurd q (hz _ _ _ (Or.inr (Or.inr rfl)))
theorem gm_s0 : gm_s 0 := by unfold gm_s; decide
theorem gw_fr.no {P : Nat → Prop} {M M2 : gw_M} (h : gw_fr P M M2) (eM : M = fun _ => none) {a r : Nat} {e : va_E} (hP : P r) : ¬ M2 a = some (r, e) := fun q => by
  have q2 := (h a r e hP).mpr q
  subst eM
  exact nomatch (show (none : Option (Nat × va_E)) = some (r, e) from q2)
theorem gm_X.first {G : gw_G} {B : Nat → Nat} {lm : Nat} {sm : Int32} {M : gw_M} (h0 : M (B 0) = some (100, .inr (5, [.int 0, .int (nI lm), .int sm, .int 0, .ref (B 1), .ref (B 2), .int 0, .ref (B 3), .ref (B 4), .ref (B 5), .ref (B 6), .int 0, .int 0, .ref (B 7), .int 0]))) (h1 : M (B 1) = some (101, .inl (G.2.1 0, 10000, .inl (fun _ => 0)))) (h2 : M (B 2) = some (102, .inl (G.2.1 0, 300, .inl (fun _ => 0)))) (h3 : M (B 3) = some (103, .inl (G.2.1 0, 10240, .inl (fun _ => 0)))) (h4 : M (B 4) = some (104, .inl (G.2.1 0, 41, .inl (fun _ => 0)))) (h5 : M (B 5) = some (105, .inl (G.2.1 0, 41, .inl (fun _ => 0)))) (h6 : M (B 6) = some (106, .inl (G.2.1 0, 4100, .inl (fun _ => 0)))) (h7 : M (B 7) = some (107, .inl (G.2.1 0, 2048, .inl (fun _ => 0)))) (hl : 1 ≤ lm ∧ lm ≤ 255) : gm_X G B lm sm 0 0 0 0 M :=
  ⟨0, 0, fun _ => 0, fun _ => 0, fun _ => 0, fun _ => 0, fun _ => 0, fun _ => 0, fun _ => 0, h0, h1, h2, h3, h4, h5, h6, h7, fun _ => gm_k0, fun _ => gm_k0, fun _ => gm_s0, hl, by omega⟩
theorem gx_limN (p : Int32) : ∃ lm : Nat, (if 1 < (if 255 < p then 255 else p) then (if 255 < p then 255 else p) else 1) = nI lm ∧ 1 ≤ lm ∧ lm ≤ 255 := by
  by_cases q : 1 < (if 255 < p then 255 else p)
  · rw [if_pos q]
    by_cases z : 255 < p
    · rw [if_pos z]; exact ⟨255, rfl, by omega, by omega⟩
    · rw [if_neg z] at q ⊢
      obtain ⟨m, h1, h2, h3⟩ := gm_limN (k := p) (Int32.le_of_lt q) (Int32.not_lt.mp z)
      exact ⟨m, h1, h2, h3⟩
  · rw [if_neg q]; exact ⟨1, rfl, by omega, by omega⟩
theorem gl_guard {k L : Nat} (h : ¬ Int32.ofNat L - 4 < nI k) (hL : L ≤ 2050) (hk : k ≤ 4000) : k + 4 ≤ L := by
  have a := Int32.not_lt.mp h
  have e4 : (4 : Int32).toInt = 4 := by decide
  have e1 := gi_sub (a := nI L) (b := 4) (by rw [nI_toInt (by omega), e4]; omega)
  rw [nI_toInt (by omega), e4] at e1
  rw [Int32.le_iff_toInt_le, nI_toInt (by omega)] at a
  have e2 : (Int32.ofNat L - 4).toInt = (L : Int) - 4 := e1
  omega
theorem gl_in {k d L : Nat} {x : Int32} (hx : x = nI (k + d)) (h : k + 4 ≤ L) (hd : d < 4) (hL : L ≤ 2050) : vp_in x L := by subst hx; exact vp_in_nI (by omega) (by omega)
theorem gl_n4 (k : Nat) : nI k + 4 = nI (k + 4) := nI_add k 4
theorem gl_n1 (k : Nat) : nI k + 1 = nI (k + 1) := nI_add k 1
theorem gl_n2 (k : Nat) : nI k + 2 = nI (k + 2) := nI_add k 2
theorem gl_n3 (k : Nat) : nI k + 3 = nI (k + 3) := nI_add k 3
