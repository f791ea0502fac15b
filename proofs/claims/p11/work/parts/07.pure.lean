/-! numbers: what the document's answers on a fresh object are -/
def gx_num (k : Int32) : Int32 := if 1 ≤ k ∧ k ≤ 9999 then 1 else 0
theorem gx_num0 {k : Int32} (h : k < 1) : gx_num k = 0 := if_neg (fun q => by
  have h1 := Int32.lt_iff_toInt_lt.mp h
  have h2 := Int32.le_iff_toInt_le.mp q.1
  omega)
theorem gx_num0' {k : Int32} (h : 9999 < k) : gx_num k = 0 := if_neg (fun q => by
  have h1 := Int32.lt_iff_toInt_lt.mp h
  have h2 := Int32.le_iff_toInt_le.mp q.2
  omega)
theorem gx_num1 {k : Int32} (h : ¬ k < 1) (h2 : ¬ 9999 < k) : gx_num k = 1 := if_pos ⟨by
  rw [Int32.lt_iff_toInt_lt] at h
  rw [Int32.le_iff_toInt_le]
  omega, by
  rw [Int32.lt_iff_toInt_lt] at h2
  rw [Int32.le_iff_toInt_le]
  omega⟩
theorem gx_ne0 {k : Int32} (h : ¬ gx_num k = 0) : ¬ (0 : Int32) = k := fun e => h (by rw [← e]; decide)
def gx_cat (k : Int32) : Int32 := if gx_num k = 0 then -1 else 1
theorem gx_cat0 {k : Int32} (h : gx_num k = 0) : gx_cat k = -1 := if_pos h
theorem gx_cat1 {k : Int32} (h : ¬ gx_num k = 0) : gx_cat k = 1 := if_neg h
def gx_st (k : Int32) : Int32 := if gx_num k = 0 then -1 else 0
theorem gx_st0 {k : Int32} (h : gx_num k = 0) : gx_st k = -1 := if_pos h
theorem gx_st1 {k : Int32} (h : ¬ gx_num k = 0) : gx_st k = 0 := if_neg h
def gx_cnt (k : Int32) : Int32 := if 0 ≤ k ∧ k ≤ 5 then 0 else -1
theorem gx_cntO {k : Int32} (h : k.toInt < 0 ∨ 5 < k.toInt) : gx_cnt k = -1 := if_neg (fun q => by
  have h1 : (0 : Int) ≤ k.toInt := Int32.le_iff_toInt_le.mp q.1
  have h2 : k.toInt ≤ 5 := Int32.le_iff_toInt_le.mp q.2
  omega)
theorem gx_pos {k : Int32} (h : ¬ k < 1) : ¬ k ≤ 0 := fun q => by
  have h1 : k.toInt ≤ 0 := Int32.le_iff_toInt_le.mp q
  have h2 : ¬ k.toInt < 1 := fun z => h (Int32.lt_iff_toInt_lt.mpr z)
  omega
theorem gx_nn {k : Int32} (h : ¬ k < 0) : 0 ≤ k := by
  have h2 : ¬ k.toInt < 0 := fun z => h (Int32.lt_iff_toInt_lt.mpr z)
  exact Int32.le_iff_toInt_le.mpr (by show (0 : Int) ≤ k.toInt; omega)
theorem gx_eqI {k : Int32} (n : Int32) (h : k.toInt = n.toInt) : k = n := Int32.toInt_inj.mp h
theorem gx_sw5 (k : Int32) : (k.toInt < 0 ∨ 5 < k.toInt) ∨ k = 0 ∨ k = 1 ∨ k = 2 ∨ k = 3 ∨ k = 4 ∨ k = 5 := by
  have h : (k.toInt < 0 ∨ 5 < k.toInt) ∨ k.toInt = 0 ∨ k.toInt = 1 ∨ k.toInt = 2 ∨ k.toInt = 3 ∨ k.toInt = 4 ∨ k.toInt = 5 := by omega
  rcases h with h | h | h | h | h | h | h
  · exact Or.inl h
  · exact Or.inr (Or.inl (gx_eqI 0 h))
  · exact Or.inr (Or.inr (Or.inl (gx_eqI 1 h)))
  · exact Or.inr (Or.inr (Or.inr (Or.inl (gx_eqI 2 h))))
  · exact Or.inr (Or.inr (Or.inr (Or.inr (Or.inl (gx_eqI 3 h)))))
  · exact Or.inr (Or.inr (Or.inr (Or.inr (Or.inr (Or.inl (gx_eqI 4 h))))))
  · exact Or.inr (Or.inr (Or.inr (Or.inr (Or.inr (Or.inr (gx_eqI 5 h))))))
/-- the limit that is kept is 1 or more -/
theorem gx_lim (q : Int32) : ¬ (if 1 < q then q else (1 : Int32)) < 0 + 1 := by
  by_cases h : 1 < q
  · rw [if_pos h]
    intro z
    have h1 := Int32.lt_iff_toInt_lt.mp h
    have h2 := Int32.lt_iff_toInt_lt.mp z
    have e1 : (1 : Int32).toInt = 1 := by decide
    have e2 : ((0 : Int32) + 1).toInt = 1 := by decide
    omega
  · rw [if_neg h]
    decide
theorem gm_num0 {k : Int32} (h : k ≤ 0) : gx_num k = 0 := if_neg (fun q => by
  have h1 := Int32.le_iff_toInt_le.mp h
  have h2 := Int32.le_iff_toInt_le.mp q.1
  have e0 : (0 : Int32).toInt = 0 := by decide
  have e1 : (1 : Int32).toInt = 1 := by decide
  omega)
theorem gm_num1 {k : Int32} (h : ¬ k ≤ 0) (h2 : ¬ 9999 < k) : gx_num k = 1 := if_pos ⟨by
  rw [Int32.le_iff_toInt_le] at h
  rw [Int32.le_iff_toInt_le]
  have e0 : (0 : Int32).toInt = 0 := by decide
  have e1 : (1 : Int32).toInt = 1 := by decide
  omega, by
  rw [Int32.lt_iff_toInt_lt] at h2
  rw [Int32.le_iff_toInt_le]
  omega⟩
theorem gm_lim {p : Int32} (h : 1 ≤ p) : ¬ p < 0 + 1 := fun z => by
  have h1 := Int32.le_iff_toInt_le.mp h
  have h2 := Int32.lt_iff_toInt_lt.mp z
  have e1 : (1 : Int32).toInt = 1 := by decide
  have e2 : ((0 : Int32) + 1).toInt = 1 := by decide
  omega
theorem gm_pos {k : Int32} (h : ¬ k ≤ 0) : 0 < k := by
  rw [Int32.le_iff_toInt_le] at h
  rw [Int32.lt_iff_toInt_lt]
  omega
theorem gx_in {k : Int32} (h : ¬ gx_num k = 0) : vp_in k 10000 := by
  have h1 : 1 ≤ k ∧ k ≤ 9999 := Classical.byContradiction (fun q => h (if_neg q))
  have h2 := Int32.le_iff_toInt_le.mp h1.1
  have h3 := Int32.le_iff_toInt_le.mp h1.2
  have e1 : (1 : Int32).toInt = 1 := by decide
  have e2 : (9999 : Int32).toInt = 9999 := by decide
  exact vp_in_iff.mpr ⟨by omega, by omega⟩
theorem gx_le9 {k : Nat} (h : ¬ (9999 : Int32) < nI k) (hk : k ≤ 10000) : k ≤ 9999 := by
  rcases Nat.lt_or_ge 9999 k with q | q
  · exact absurd (show nI 9999 < nI k from nI_lt q (by omega)) h
  · exact q
