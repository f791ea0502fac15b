/-! THE REFERENCE'S WORLD: B 0 the object, 1 there, 2 row, 3 found, 4 foundSize, 5 ends, 6 made, 7 drops -/
def gm_k (v : Int32) : Prop := 0 ≤ v.toInt ∧ v.toInt < 10000
def gm_s (v : Int32) : Prop := 0 ≤ v.toInt ∧ v.toInt < 256
theorem gm_nI {k : Nat} (h : k < 10000) : gm_k (nI k) := by unfold gm_k; rw [nI_toInt (by omega)]; omega
theorem gm_snI {k : Nat} (h : k < 256) : gm_s (nI k) := by unfold gm_s; rw [nI_toInt (by omega)]; omega
theorem gm_in {v : Int32} (h : gm_k v) : vp_in v 10000 := gi_in h.1 h.2
theorem gm_of {v : Int32} (h : gm_k v) : ∃ c : Nat, c < 10000 ∧ v = nI c := by
  obtain ⟨h1, h2⟩ := h
  exact ⟨v.toInt.toNat, by omega, gi_nI (by omega) (by omega)⟩
theorem gm_sof {v : Int32} (h : gm_s v) : ∃ c : Nat, c < 256 ∧ v = nI c := by
  obtain ⟨h1, h2⟩ := h
  exact ⟨v.toInt.toNat, by omega, gi_nI (by omega) (by omega)⟩
theorem gm_upd {P : Int32 → Prop} {f : Nat → Int32} {a : Nat} {v : Int32} (h : ∀ i, P (f i)) (hv : P v) : ∀ i, P (upd f a v i) := by
  intro i
  unfold upd
  split
  · exact hv
  · exact h i
def gm_X (G : gw_G) (B : Nat → Nat) (lm : Nat) (sm E : Int32) (jb sz dr : Nat) (M : gw_M) : Prop := ∃ (cd mk : Int32) (f1 f2 f3 f4 f5 f6 f7 : Nat → Int32),
  M (B 0) = some (100, .inr (5, [.int cd, .int (nI lm), .int sm, .int E, .ref (B 1), .ref (B 2), .int (nI sz), .ref (B 3), .ref (B 4), .ref (B 5), .ref (B 6), .int (nI jb), .int mk, .ref (B 7), .int (nI dr)])) ∧
  M (B 1) = some (101, .inl (G.2.1 0, 10000, .inl f1)) ∧ M (B 2) = some (102, .inl (G.2.1 0, 300, .inl f2)) ∧ M (B 3) = some (103, .inl (G.2.1 0, 10240, .inl f3)) ∧ M (B 4) = some (104, .inl (G.2.1 0, 41, .inl f4)) ∧ M (B 5) = some (105, .inl (G.2.1 0, 41, .inl f5)) ∧ M (B 6) = some (106, .inl (G.2.1 0, 4100, .inl f6)) ∧ M (B 7) = some (107, .inl (G.2.1 0, 2048, .inl f7)) ∧
  (∀ i, gm_k (f2 i)) ∧ (∀ i, gm_k (f3 i)) ∧ (∀ i, gm_s (f4 i)) ∧ (1 ≤ lm ∧ lm ≤ 255) ∧ jb ≤ 40
section GMX
variable {G : gw_G} {B : Nat → Nat} {lm : Nat} {sm E : Int32} {jb sz dr : Nat} {M : gw_M}
theorem gm_X.jb40 (h : gm_X G B lm sm E jb sz dr M) : jb ≤ 40 := by
  obtain ⟨_, _, _, _, _, _, _, _, _, _, _, _, _, _, _, _, _, _, _, _, _, h⟩ := h
  exact h
theorem gm_X.lm255 (h : gm_X G B lm sm E jb sz dr M) : 1 ≤ lm ∧ lm ≤ 255 := by
  obtain ⟨_, _, _, _, _, _, _, _, _, _, _, _, _, _, _, _, _, _, _, _, h, _⟩ := h
  exact h
theorem gm_X.up100 {e0 : va_E} {cd2 mk2 E2 : Int32} {jb2 sz2 dr2 : Nat} (h : gm_X G B lm sm E jb sz dr M) (ha : M (B 0) = some (100, e0)) (hj : jb2 ≤ 40) : gm_X G B lm sm E2 jb2 sz2 dr2 (gw_up M (B 0) 100 (.inr (5, [.int cd2, .int (nI lm), .int sm, .int E2, .ref (B 1), .ref (B 2), .int (nI sz2), .ref (B 3), .ref (B 4), .ref (B 5), .ref (B 6), .int (nI jb2), .int mk2, .ref (B 7), .int (nI dr2)]))) := by
  obtain ⟨cd, mk, f1, f2, f3, f4, f5, f6, f7, h0, h1, h2, h3, h4, h5, h6, h7, k2, k3, k4, kl, kj⟩ := h
  exact ⟨cd2, mk2, f1, f2, f3, f4, f5, f6, f7, gw_up_self _ _ _ _, gw_upo ha (by decide) h1, gw_upo ha (by decide) h2, gw_upo ha (by decide) h3, gw_upo ha (by decide) h4, gw_upo ha (by decide) h5, gw_upo ha (by decide) h6, gw_upo ha (by decide) h7, k2, k3, k4, kl, hj⟩
theorem gm_X.up101 {e0 : va_E} {f : Nat → Int32} (h : gm_X G B lm sm E jb sz dr M) (ha : M (B 1) = some (101, e0)) : gm_X G B lm sm E jb sz dr (gw_up M (B 1) 101 (.inl (G.2.1 0, 10000, .inl f))) := by
  obtain ⟨cd, mk, f1, f2, f3, f4, f5, f6, f7, h0, h1, h2, h3, h4, h5, h6, h7, k2, k3, k4, kl, kj⟩ := h
  exact ⟨cd, mk, f, f2, f3, f4, f5, f6, f7, gw_upo ha (by decide) h0, gw_up_self _ _ _ _, gw_upo ha (by decide) h2, gw_upo ha (by decide) h3, gw_upo ha (by decide) h4, gw_upo ha (by decide) h5, gw_upo ha (by decide) h6, gw_upo ha (by decide) h7, k2, k3, k4, kl, kj⟩
theorem gm_X.up102 {e0 : va_E} {f : Nat → Int32} (h : gm_X G B lm sm E jb sz dr M) (ha : M (B 2) = some (102, e0)) (hk : ∀ i, gm_k (f i)) : gm_X G B lm sm E jb sz dr (gw_up M (B 2) 102 (.inl (G.2.1 0, 300, .inl f))) := by
  obtain ⟨cd, mk, f1, f2, f3, f4, f5, f6, f7, h0, h1, h2, h3, h4, h5, h6, h7, k2, k3, k4, kl, kj⟩ := h
  exact ⟨cd, mk, f1, f, f3, f4, f5, f6, f7, gw_upo ha (by decide) h0, gw_upo ha (by decide) h1, gw_up_self _ _ _ _, gw_upo ha (by decide) h3, gw_upo ha (by decide) h4, gw_upo ha (by decide) h5, gw_upo ha (by decide) h6, gw_upo ha (by decide) h7, hk, k3, k4, kl, kj⟩
theorem gm_X.up103 {e0 : va_E} {f : Nat → Int32} (h : gm_X G B lm sm E jb sz dr M) (ha : M (B 3) = some (103, e0)) (hk : ∀ i, gm_k (f i)) : gm_X G B lm sm E jb sz dr (gw_up M (B 3) 103 (.inl (G.2.1 0, 10240, .inl f))) := by
  obtain ⟨cd, mk, f1, f2, f3, f4, f5, f6, f7, h0, h1, h2, h3, h4, h5, h6, h7, k2, k3, k4, kl, kj⟩ := h
  exact ⟨cd, mk, f1, f2, f, f4, f5, f6, f7, gw_upo ha (by decide) h0, gw_upo ha (by decide) h1, gw_upo ha (by decide) h2, gw_up_self _ _ _ _, gw_upo ha (by decide) h4, gw_upo ha (by decide) h5, gw_upo ha (by decide) h6, gw_upo ha (by decide) h7, k2, hk, k4, kl, kj⟩
theorem gm_X.up104 {e0 : va_E} {f : Nat → Int32} (h : gm_X G B lm sm E jb sz dr M) (ha : M (B 4) = some (104, e0)) (hk : ∀ i, gm_s (f i)) : gm_X G B lm sm E jb sz dr (gw_up M (B 4) 104 (.inl (G.2.1 0, 41, .inl f))) := by
  obtain ⟨cd, mk, f1, f2, f3, f4, f5, f6, f7, h0, h1, h2, h3, h4, h5, h6, h7, k2, k3, k4, kl, kj⟩ := h
  exact ⟨cd, mk, f1, f2, f3, f, f5, f6, f7, gw_upo ha (by decide) h0, gw_upo ha (by decide) h1, gw_upo ha (by decide) h2, gw_upo ha (by decide) h3, gw_up_self _ _ _ _, gw_upo ha (by decide) h5, gw_upo ha (by decide) h6, gw_upo ha (by decide) h7, k2, k3, hk, kl, kj⟩
theorem gm_X.up105 {e0 : va_E} {f : Nat → Int32} (h : gm_X G B lm sm E jb sz dr M) (ha : M (B 5) = some (105, e0)) : gm_X G B lm sm E jb sz dr (gw_up M (B 5) 105 (.inl (G.2.1 0, 41, .inl f))) := by
  obtain ⟨cd, mk, f1, f2, f3, f4, f5, f6, f7, h0, h1, h2, h3, h4, h5, h6, h7, k2, k3, k4, kl, kj⟩ := h
  exact ⟨cd, mk, f1, f2, f3, f4, f, f6, f7, gw_upo ha (by decide) h0, gw_upo ha (by decide) h1, gw_upo ha (by decide) h2, gw_upo ha (by decide) h3, gw_upo ha (by decide) h4, gw_up_self _ _ _ _, gw_upo ha (by decide) h6, gw_upo ha (by decide) h7, k2, k3, k4, kl, kj⟩
theorem gm_X.up106 {e0 : va_E} {f : Nat → Int32} (h : gm_X G B lm sm E jb sz dr M) (ha : M (B 6) = some (106, e0)) : gm_X G B lm sm E jb sz dr (gw_up M (B 6) 106 (.inl (G.2.1 0, 4100, .inl f))) := by
  obtain ⟨cd, mk, f1, f2, f3, f4, f5, f6, f7, h0, h1, h2, h3, h4, h5, h6, h7, k2, k3, k4, kl, kj⟩ := h
  exact ⟨cd, mk, f1, f2, f3, f4, f5, f, f7, gw_upo ha (by decide) h0, gw_upo ha (by decide) h1, gw_upo ha (by decide) h2, gw_upo ha (by decide) h3, gw_upo ha (by decide) h4, gw_upo ha (by decide) h5, gw_up_self _ _ _ _, gw_upo ha (by decide) h7, k2, k3, k4, kl, kj⟩
theorem gm_X.up107 {e0 : va_E} {f : Nat → Int32} (h : gm_X G B lm sm E jb sz dr M) (ha : M (B 7) = some (107, e0)) : gm_X G B lm sm E jb sz dr (gw_up M (B 7) 107 (.inl (G.2.1 0, 2048, .inl f))) := by
  obtain ⟨cd, mk, f1, f2, f3, f4, f5, f6, f7, h0, h1, h2, h3, h4, h5, h6, h7, k2, k3, k4, kl, kj⟩ := h
  exact ⟨cd, mk, f1, f2, f3, f4, f5, f6, f, gw_upo ha (by decide) h0, gw_upo ha (by decide) h1, gw_upo ha (by decide) h2, gw_upo ha (by decide) h3, gw_upo ha (by decide) h4, gw_upo ha (by decide) h5, gw_upo ha (by decide) h6, gw_up_self _ _ _ _, k2, k3, k4, kl, kj⟩
/-- what the class does leaves it -/
theorem gm_X.stays {M2 : gw_M} {L : List Nat} (h : gm_X G B lm sm E jb sz dr M) (hf : gw_fr (gw_out L) M M2) (hL : ∀ x ∈ L, x < 100) : gm_X G B lm sm E jb sz dr M2 := by
  have hk : ∀ (r a : Nat) (e : va_E), 100 ≤ r → M a = some (r, e) → M2 a = some (r, e) := fun r a e hr => (hf a r e (fun q => by have := hL r q; omega)).mp
  obtain ⟨cd, mk, f1, f2, f3, f4, f5, f6, f7, h0, h1, h2, h3, h4, h5, h6, h7, k2, k3, k4, kl, kj⟩ := h
  exact ⟨cd, mk, f1, f2, f3, f4, f5, f6, f7, hk _ _ _ (by decide) h0, hk _ _ _ (by decide) h1, hk _ _ _ (by decide) h2, hk _ _ _ (by decide) h3, hk _ _ _ (by decide) h4, hk _ _ _ (by decide) h5, hk _ _ _ (by decide) h6, hk _ _ _ (by decide) h7, k2, k3, k4, kl, kj⟩
end GMX
/-- places in the reference's arrays -/
theorem gm_c256 : (256 : Int32) = nI 256 := rfl
theorem gm_c100 : (100 : Int32) = nI 100 := rfl
theorem gm_c9999 : (9999 : Int32) = nI 9999 := rfl
theorem gm_fi {q k : Nat} (hq : q < 40) (hk : k < 256) : vp_in (256 * (nI (q + 1) - 1) + nI k) 10240 := by
  rw [nI_pred, gm_c256, pk_mul, nI_add]; exact vp_in_nI (by omega) (by omega)
theorem gm_mi {q w : Nat} (h1 : 1 ≤ w) (hw : w < 100) (hq : q ≤ 40) : vp_in (100 * nI q + nI w - 1) 4100 := by
  rw [gm_c100, pk_mul, nI_add, gx_pred (by omega)]; exact vp_in_nI (by omega) (by omega)
theorem gm_ni {q : Nat} {v : Int32} (h1 : 1 ≤ q) (hq : q ≤ 40) (hv : gm_s v) (h0 : ¬ v = 0) : vp_in (256 * (nI q - 1) + v - 1) 10240 := by
  obtain ⟨c, hc, rfl⟩ := gm_sof hv
  have hc0 : c ≠ 0 := fun z => h0 (by rw [z]; rfl)
  rw [gx_pred h1, gm_c256, pk_mul, nI_add, gx_pred (by omega)]; exact vp_in_nI (by omega) (by omega)
theorem gm_no {b : Int32} {w : Nat} (hb : gm_k b) (h1 : 1 ≤ w) (hw : w < 100) : gm_k (b + nI w - 1 - (b + nI w - 1) / 9999 * 9999 + 1) := by
  obtain ⟨c, hc, rfl⟩ := gm_of hb
  rw [nI_add, gx_pred (by omega), gm_c9999, pk_rem (by omega) (by omega) (by omega), nI_1]
  have := Nat.mod_lt (c + w - 1) (show 0 < 9999 by omega)
  exact gm_nI (by omega)
theorem gm_ri {q : Nat} {v p : Int32} (h1 : 1 ≤ q) (hq : q ≤ 40) (hv : gm_s v) (hp : p ≤ 0) (h : 0 - v < p) : vp_in (256 * (nI q - 1) + v - 1 + p) 10240 := by
  have hs := hv
  obtain ⟨c, hc, rfl⟩ := gm_sof hv
  have e0 := gi_sub (a := 0) (b := nI c) (by rw [nI_toInt (by omega), gi_0]; omega)
  rw [nI_toInt (by omega), gi_0] at e0
  rw [Int32.lt_iff_toInt_lt, e0] at h
  rw [Int32.le_iff_toInt_le, gi_0] at hp
  rw [gx_pred h1, gm_c256, pk_mul, nI_add, gx_pred (by omega)]
  have e1 := gi_add (a := nI (256 * (q - 1) + c - 1)) (b := p) (by rw [nI_toInt (by omega)]; omega)
  rw [nI_toInt (by omega)] at e1
  exact gi_in (by rw [e1]; omega) (by rw [e1]; omega)
theorem gm_job {k : Int32} {jb : Nat} (h1 : ¬ k ≤ 0) (h2 : ¬ nI jb < k) (hj : jb ≤ 40) : ∃ q : Nat, 1 ≤ q ∧ q ≤ jb ∧ k = nI q := by
  have a1 := Int32.not_le.mp h1
  have a2 := Int32.not_lt.mp h2
  rw [Int32.lt_iff_toInt_lt, gi_0] at a1
  rw [Int32.le_iff_toInt_le, nI_toInt (by omega)] at a2
  exact ⟨k.toInt.toNat, by omega, by omega, gi_nI (by omega) (by omega)⟩
theorem gm_num {k : Int32} (h1 : ¬ k ≤ 0) (h2 : ¬ 9999 < k) : gm_k k := by
  have a1 := Int32.not_le.mp h1
  have a2 := Int32.not_lt.mp h2
  rw [Int32.lt_iff_toInt_lt, gi_0] at a1
  rw [Int32.le_iff_toInt_le, show (9999 : Int32).toInt = 9999 by decide] at a2
  exact ⟨by omega, by omega⟩
theorem gm_99 {k : Int32} (h1 : ¬ k ≤ 0) (h2 : k ≤ 99) : ∃ w : Nat, 1 ≤ w ∧ w < 100 ∧ k = nI w := by
  have a1 := Int32.not_le.mp h1
  rw [Int32.lt_iff_toInt_lt, gi_0] at a1
  rw [Int32.le_iff_toInt_le, show (99 : Int32).toInt = 99 by decide] at h2
  exact ⟨k.toInt.toNat, by omega, by omega, gi_nI (by omega) (by omega)⟩
theorem gm_991 {k : Int32} (h1 : ¬ k < 1) (h2 : k ≤ 99) : ∃ w : Nat, 1 ≤ w ∧ w < 100 ∧ k = nI w := by
  have a1 := Int32.not_lt.mp h1
  rw [Int32.le_iff_toInt_le, gi_1] at a1
  rw [Int32.le_iff_toInt_le, show (99 : Int32).toInt = 99 by decide] at h2
  exact ⟨k.toInt.toNat, by omega, by omega, gi_nI (by omega) (by omega)⟩
theorem gm_k0 : gm_k 0 := by unfold gm_k; decide
theorem gm_le {k a : Nat} {x : Int32} (h : ¬ x < nI k) (hx : x = nI a) (ha : a < 2 ^ 31) (hk : k < 2 ^ 31) : k ≤ a := by subst hx; exact gx_nlt h ha hk
theorem gm_lt {k a : Nat} {x : Int32} (h : ¬ x ≤ nI k) (hx : x = nI a) (ha : a < 2 ^ 31) (hk : k < 2 ^ 31) : k < a := by subst hx; exact gx_ltN h hk ha
