def gc_Pc (b L : Nat) (xs : Nat → Int32) (k : Int32) : Array Value → State → Prop := va_Pc [.ref b, .int k] (fun U => va_X b L xs U U.heap ∧ b < U.heap.size)
theorem gc_ps {G : gw_G} {b L : Nat} {xs : Nat → Int32} {k : Int32} {s : State} {H : Heap} {locs : List Loc} (hX : va_X b L xs s s.heap) (hbl : b < s.heap.size) (hbA : ¬ gw_A G b) (hS : va_S (gw_A G) s.heap H locs) : PreS s H (gc_Pc b L xs k) [.ref b, .int k] :=
  ⟨fun a U g mk q => by
    obtain ⟨q0, q1, q2⟩ := q
    exact ⟨q0, va_X.moved (u := U) (U := U.calling g mk a) (Vm.Alike.refl U.vm) q1, q2⟩, fun U hU hW => ⟨rfl, by rw [hU]; exact va_X.moved hW.alike (hX.kept (hS.2.1 b hbl hbA)), by rw [hU]; exact Nat.lt_of_lt_of_le hbl hS.1⟩⟩
set_option maxHeartbeats 4000000 in
set_option maxRecDepth 100000 in
theorem c_cell (l : Launch) (b L : Nat) (xs : Nat → Int32) (k : Int32) (hk : ¬ k < 0) (hL : L < 2 ^ 31) : Met l y_Law_cell [.code y_Law_cell b_Law_cell 2 (some .int)] ({ frames := 0, cells := 0, slots := 0, locals := 0 }) (gc_Pc b L xs k) QcAny 0 0 (fun _ => False) := by
  refine Met.ofW (cc := b_Law_cell) (maxL := 2) (ret := (some .int)) (by decide) rfl ?_
  intro p e s m args below meth c s₁ B hml hv
  obtain ⟨rfl, hX, hbl⟩ := hv
  have hx := B.exec
  have hb := B.bytes
  have hr := B.returns
  have hlocks := B.notSynchronized
  have hS : va_S (fun _ => False) s.heap s.heap [] := va_S.rf
  have hl := lv_entry ([.ref b, .int k]) (n := 2) (Nat.le_of_ble_eq_true rfl)
  rw [lg_entry_eq]
  generalize (lg_sl ([.ref b, .int k]) ++ List.replicate (2 - (lg_sl ([.ref b, .int k])).length) Slot.unset).toArray = ls at hl ⊢
  have hl : lv_has ls 2 [(0, .ref b), (1, .int k)] := hl
  refine lv_iload_n hx hb d_Law_cell_0 rfl (lv_at hl 1 rfl) ?_
  refine lv_aload_n hx hb d_Law_cell_1 rfl (lv_at hl 0 rfl) ?_
  refine va_slen hx hb hX hbl (fun h => h) hS d_Law_cell_2 ?_
  refine lv_icmp_ge (tgt := 12) hx hb d_Law_cell_3 (by decide) (fun c3 => ?_) (fun c3 => ?_)
  · refine lv_iconst (v := 0) hx hb d_Law_cell_12 (by decide) ?_
    exact W.iret hx hb hr (fun t ht _ => ⟨_, rfl, ht⟩) (fun q hq => nomatch hq) d_Law_cell_13 hlocks
  · obtain ⟨j, hj, ej, -⟩ := pk_mu hk c3 hL
    refine lv_aload_n hx hb d_Law_cell_6 rfl (lv_at hl 0 rfl) ?_
    refine lv_iload_n hx hb d_Law_cell_7 rfl (lv_at hl 1 rfl) ?_
    refine va_sld hx hb hX hbl (fun h => h) hS (by rw [ej]; exact vp_in_nI hj hL) d_Law_cell_8 ?_
    refine lv_goto (tgt := 13) hx hb d_Law_cell_9 (by decide) ?_
    exact W.iret hx hb hr (fun t ht _ => ⟨_, rfl, ht⟩) (fun q hq => nomatch hq) d_Law_cell_13 hlocks
theorem gx_L6 : ∀ L : Nat, L ≤ 6 → ¬ Int32.ofNat L - 4 < 2 → L = 6 := by decide
theorem gx_sw12 (k : Int32) : (k.toInt < 0 ∨ 12 < k.toInt) ∨ k = 0 ∨ k = 1 ∨ k = 2 ∨ k = 3 ∨ k = 4 ∨ k = 5 ∨ k = 6 ∨ k = 7 ∨ k = 8 ∨ k = 9 ∨ k = 10 ∨ k = 11 ∨ k = 12 := by
  have h : (k.toInt < 0 ∨ 12 < k.toInt) ∨ k.toInt = 0 ∨ k.toInt = 1 ∨ k.toInt = 2 ∨ k.toInt = 3 ∨ k.toInt = 4 ∨ k.toInt = 5 ∨ k.toInt = 6 ∨ k.toInt = 7 ∨ k.toInt = 8 ∨ k.toInt = 9 ∨ k.toInt = 10 ∨ k.toInt = 11 ∨ k.toInt = 12 := by omega
  rcases h with h | h | h | h | h | h | h | h | h | h | h | h | h | h
  · exact Or.inl h
  · exact Or.inr (Or.inl (gx_eqI 0 h))
  · exact Or.inr (Or.inr (Or.inl (gx_eqI 1 h)))
  · exact Or.inr (Or.inr (Or.inr (Or.inl (gx_eqI 2 h))))
  · exact Or.inr (Or.inr (Or.inr (Or.inr (Or.inl (gx_eqI 3 h)))))
  · exact Or.inr (Or.inr (Or.inr (Or.inr (Or.inr (Or.inl (gx_eqI 4 h))))))
  · exact Or.inr (Or.inr (Or.inr (Or.inr (Or.inr (Or.inr (Or.inl (gx_eqI 5 h)))))))
  · exact Or.inr (Or.inr (Or.inr (Or.inr (Or.inr (Or.inr (Or.inr (Or.inl (gx_eqI 6 h))))))))
  · exact Or.inr (Or.inr (Or.inr (Or.inr (Or.inr (Or.inr (Or.inr (Or.inr (Or.inl (gx_eqI 7 h)))))))))
  · exact Or.inr (Or.inr (Or.inr (Or.inr (Or.inr (Or.inr (Or.inr (Or.inr (Or.inr (Or.inl (gx_eqI 8 h))))))))))
  · exact Or.inr (Or.inr (Or.inr (Or.inr (Or.inr (Or.inr (Or.inr (Or.inr (Or.inr (Or.inr (Or.inl (gx_eqI 9 h)))))))))))
  · exact Or.inr (Or.inr (Or.inr (Or.inr (Or.inr (Or.inr (Or.inr (Or.inr (Or.inr (Or.inr (Or.inr (Or.inl (gx_eqI 10 h))))))))))))
  · exact Or.inr (Or.inr (Or.inr (Or.inr (Or.inr (Or.inr (Or.inr (Or.inr (Or.inr (Or.inr (Or.inr (Or.inr (Or.inl (gx_eqI 11 h)))))))))))))
  · exact Or.inr (Or.inr (Or.inr (Or.inr (Or.inr (Or.inr (Or.inr (Or.inr (Or.inr (Or.inr (Or.inr (Or.inr (Or.inr ((gx_eqI 12 h))))))))))))))
