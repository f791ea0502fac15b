set_option maxHeartbeats 4000000 in
set_option maxRecDepth 100000 in
theorem m_isNumber (l : Launch) (G : gw_G) (M : gw_M) (k : Int32) : Met l y_Mo_isNumber [.code y_Mo_isNumber b_Mo_isNumber 1 (some .boolean)] ({ frames := 0, cells := 0, slots := 0, locals := 0 }) (gw_Pc G M [.int k]) (gr_Qi (fun r => r = 0 ∨ gm_k k)) 0 0 (fun _ => False) := by
  refine gw_startR (by decide) (Nat.le_of_ble_eq_true rfl) (fun p9 e9 s m b9 mt9 c9 hx hb hr hml hown hlocks hin hE hB hW ls hl => ?_)
  have hts := hE.ts ([.int k] : List Value).toArray
  have hl : lv_has ls 1 [(0, .int k)] := hl
  have hown : s.vm.findClass "GenerationsModel" = some m.cls := hown
  have hS : va_S (gw_A G) s.heap s.heap [] := va_S.rf
  refine lv_iload_n hx hb d_Mo_isNumber_0 rfl (lv_at hl 0 rfl) ?_
  refine lv_if_le (tgt := 15) hx hb d_Mo_isNumber_1 (by decide) (fun c1 => ?_) (fun c1 => ?_)
  · refine lv_iconst (v := 0) hx hb d_Mo_isNumber_15 (by decide) ?_
    exact gr_zret hx hb hr hlocks rfl d_Mo_isNumber_16 (Or.inl rfl)
  · refine lv_iload_n hx hb d_Mo_isNumber_4 rfl (lv_at hl 0 rfl) ?_
    refine lv_sipush (v := 9999) hx hb d_Mo_isNumber_5 (by decide) ?_
    refine lv_icmp_gt (tgt := 15) hx hb d_Mo_isNumber_8 (by decide) (fun c8 => ?_) (fun c8 => ?_)
    · refine lv_iconst (v := 0) hx hb d_Mo_isNumber_15 (by decide) ?_
      exact gr_zret hx hb hr hlocks rfl d_Mo_isNumber_16 (Or.inl rfl)
    · refine lv_iconst (v := 1) hx hb d_Mo_isNumber_11 (by decide) ?_
      refine lv_goto (tgt := 16) hx hb d_Mo_isNumber_12 (by decide) ?_
      exact gr_zret hx hb hr hlocks rfl d_Mo_isNumber_16 (Or.inr (gm_num c1 c8))

set_option maxHeartbeats 4000000 in
set_option maxRecDepth 100000 in
theorem m_isAhead (l : Launch) (G : gw_G) (M : gw_M) (x : Int32) (q : Int32) : Met l y_Mo_isAhead [.code y_Mo_isAhead b_Mo_isAhead 3 (some .boolean)] ({ frames := 0, cells := 0, slots := 0, locals := 0 }) (gw_Pc G M [.int x, .int q]) (gr_Qi (fun r => True)) 0 0 (fun _ => False) := by
  refine gw_startR (by decide) (Nat.le_of_ble_eq_true rfl) (fun p9 e9 s m b9 mt9 c9 hx hb hr hml hown hlocks hin hE hB hW ls hl => ?_)
  have hts := hE.ts ([.int x, .int q] : List Value).toArray
  have hl : lv_has ls 3 [(0, .int x), (1, .int q)] := hl
  have hown : s.vm.findClass "GenerationsModel" = some m.cls := hown
  have hS : va_S (gw_A G) s.heap s.heap [] := va_S.rf
  refine lv_iload_n hx hb d_Mo_isAhead_0 rfl (lv_at hl 1 rfl) ?_
  refine lv_iload_n hx hb d_Mo_isAhead_1 rfl (lv_at hl 0 rfl) ?_
  refine lv_isub hx hb d_Mo_isAhead_2 ?_
  refine lv_sipush (v := 9999) hx hb d_Mo_isAhead_3 (by decide) ?_
  refine lv_iadd hx hb d_Mo_isAhead_6 ?_
  refine lv_sipush (v := 9999) hx hb d_Mo_isAhead_7 (by decide) ?_
  refine lv_irem hx hb d_Mo_isAhead_10 (by decide) ?_
  refine lv_istore_n (lv' := [(2, .int (((q - x) + 9999) - ((q - x) + 9999) / 9999 * 9999)), (0, .int x), (1, .int q)]) hx hb d_Mo_isAhead_11 rfl hl (by decide) rfl (fun ls hl => ?_)
  refine lv_iload_n hx hb d_Mo_isAhead_12 rfl (lv_at hl 0 rfl) ?_
  refine lv_if_le (tgt := 27) hx hb d_Mo_isAhead_13 (by decide) (fun c13 => ?_) (fun c13 => ?_)
  · refine lv_iconst (v := 0) hx hb d_Mo_isAhead_27 (by decide) ?_
    exact gr_zret hx hb hr hlocks rfl d_Mo_isAhead_28 trivial
  · refine lv_iload_n hx hb d_Mo_isAhead_16 rfl (lv_at hl 0 rfl) ?_
    refine lv_sipush (v := 5000) hx hb d_Mo_isAhead_17 (by decide) ?_
    refine lv_icmp_ge (tgt := 27) hx hb d_Mo_isAhead_20 (by decide) (fun c20 => ?_) (fun c20 => ?_)
    · refine lv_iconst (v := 0) hx hb d_Mo_isAhead_27 (by decide) ?_
      exact gr_zret hx hb hr hlocks rfl d_Mo_isAhead_28 trivial
    · refine lv_iconst (v := 1) hx hb d_Mo_isAhead_23 (by decide) ?_
      refine lv_goto (tgt := 28) hx hb d_Mo_isAhead_24 (by decide) ?_
      exact gr_zret hx hb hr hlocks rfl d_Mo_isAhead_28 trivial

set_option maxHeartbeats 4000000 in
set_option maxRecDepth 100000 in
theorem m_fails (l : Launch) (G : gw_G) (M : gw_M) (B : Nat → Nat) (lm : Nat) (sm E : Int32) (jb sz dr : Nat) (hX : gm_X G B lm sm E jb sz dr M) (z : Int32) (hz : narrow .boolean (.int z) = .int z) : Met l y_Mo_fails [.code y_Mo_fails b_Mo_fails 2 (some .boolean)] ({ frames := 0, cells := 0, slots := 0, locals := 0 }) (gw_Pc G M [.ref (B 0), .int z]) (gw_Qi G (fun r M2 => z = r ∧ gm_X G B lm sm E jb sz dr M2 ∧ gw_fg (gw_out [100, 101, 102, 103, 104, 105, 106, 107]) M M2)) 0 0 (gw_A G) := by
  refine gw_start (by decide) (Nat.le_of_ble_eq_true rfl) (fun p9 e9 s m b9 mt9 c9 hx hb hr hml hown hlocks hin hE hB hW ls hl => ?_)
  have hts := hE.ts ([.ref (B 0), .int z] : List Value).toArray
  have hl : lv_has ls 2 [(0, .ref (B 0)), (1, .int z)] := hl
  have hown : s.vm.findClass "GenerationsModel" = some m.cls := hown
  have hj9 := hX.jb40
  have hm9 := hX.lm255
  refine gw_gen (I := fun z => gm_X G B lm sm E jb sz dr z) (P := gw_out [100, 101, 102, 103, 104, 105, 106, 107]) hX hW (fun H locs Mw hW hS hX hF => ?_)
  have hX : gm_X G B lm sm E jb sz dr Mw := hX
  refine lv_aload_n hx hb d_Mo_fails_0 rfl (lv_at hl 0 rfl) ?_
  refine lv_iload_n hx hb d_Mo_fails_1 rfl (lv_at hl 1 rfl) ?_
  refine lv_if_eq (tgt := 9) hx hb d_Mo_fails_2 (by decide) (fun c2 => ?_) (fun c2 => ?_)
  · refine lv_iconst (v := 0) hx hb d_Mo_fails_9 (by decide) ?_
    obtain ⟨cdo1, mko1, f1o1, f2o1, f3o1, f4o1, f5o1, f6o1, f7o1, hf_0, hf_1, hf_2, hf_3, hf_4, hf_5, hf_6, hf_7, hk2o1, hk3o1, hk4o1, -, -⟩ := id hX
    refine gw_put (ci := 5) (fs := [.int cdo1, .int (nI lm), .int sm, .int E, .ref (B 1), .ref (B 2), .int (nI sz), .ref (B 3), .ref (B 4), .ref (B 5), .ref (B 6), .int (nI jb), .int mko1, .ref (B 7), .int (nI dr)]) (v := .int 0) (ty := .int) hx hb hts in_Mo t_Mo t_Mo_ok n_Mo hown hE.K hW hS hf_0 rfl 0 (by decide) (hts _ mw222) (fun _ h9 => h9) rfl (by decide +kernel) rfl rfl (Nat.le_of_ble_eq_true rfl) d_Mo_fails_10 (fun H locs hW hS => ?_)
    have hXn : gm_X G B lm sm E jb sz dr (gw_up Mw (B 0) 100 (.inr (5, [.int 0, .int (nI lm), .int sm, .int E, .ref (B 1), .ref (B 2), .int (nI sz), .ref (B 3), .ref (B 4), .ref (B 5), .ref (B 6), .int (nI jb), .int mko1, .ref (B 7), .int (nI dr)]))) := hX.up100 hf_0 (by omega)
    have hF2 : gw_fg (gw_out [100, 101, 102, 103, 104, 105, 106, 107]) M (gw_up Mw (B 0) 100 (.inr (5, [.int 0, .int (nI lm), .int sm, .int E, .ref (B 1), .ref (B 2), .int (nI sz), .ref (B 3), .ref (B 4), .ref (B 5), .ref (B 6), .int (nI jb), .int mko1, .ref (B 7), .int (nI dr)]))) := gw_fg.up hF hf_0 (show ¬ ((gw_out [100, 101, 102, 103, 104, 105, 106, 107]) 100) by decide) (show ¬ ((gw_out [100, 101, 102, 103, 104, 105, 106, 107]) 100) by decide)
    obtain ⟨M3, eM3⟩ : ∃ z, z = gw_up Mw (B 0) 100 (.inr (5, [.int 0, .int (nI lm), .int sm, .int E, .ref (B 1), .ref (B 2), .int (nI sz), .ref (B 3), .ref (B 4), .ref (B 5), .ref (B 6), .int (nI jb), .int mko1, .ref (B 7), .int (nI dr)])) := ⟨_, rfl⟩
    replace hW : gw_P G.1 vwCl G.2.2.2 M3 H := by rw [eM3]; exact hW
    have hf_1 : M3 (B 1) = some (101, .inl (G.2.1 0, 10000, .inl f1o1)) := by rw [eM3]; exact gw_keep hf_1 hf_0 (by decide)
    have hf_2 : M3 (B 2) = some (102, .inl (G.2.1 0, 300, .inl f2o1)) := by rw [eM3]; exact gw_keep hf_2 hf_0 (by decide)
    have hf_3 : M3 (B 3) = some (103, .inl (G.2.1 0, 10240, .inl f3o1)) := by rw [eM3]; exact gw_keep hf_3 hf_0 (by decide)
    have hf_4 : M3 (B 4) = some (104, .inl (G.2.1 0, 41, .inl f4o1)) := by rw [eM3]; exact gw_keep hf_4 hf_0 (by decide)
    have hf_5 : M3 (B 5) = some (105, .inl (G.2.1 0, 41, .inl f5o1)) := by rw [eM3]; exact gw_keep hf_5 hf_0 (by decide)
    have hf_6 : M3 (B 6) = some (106, .inl (G.2.1 0, 4100, .inl f6o1)) := by rw [eM3]; exact gw_keep hf_6 hf_0 (by decide)
    have hf_7 : M3 (B 7) = some (107, .inl (G.2.1 0, 2048, .inl f7o1)) := by rw [eM3]; exact gw_keep hf_7 hf_0 (by decide)
    have hf_0 : M3 (B 0) = some (100, .inr (5, [.int 0, .int (nI lm), .int sm, .int E, .ref (B 1), .ref (B 2), .int (nI sz), .ref (B 3), .ref (B 4), .ref (B 5), .ref (B 6), .int (nI jb), .int mko1, .ref (B 7), .int (nI dr)])) := by rw [eM3]; exact gw_up_self _ _ _ _
    rw [← eM3] at hF2
    rw [← eM3] at hXn
    replace hX := hXn
    clear hXn
    refine lv_iload_n hx hb d_Mo_fails_13 rfl (lv_at hl 1 rfl) ?_
    exact gw_zret hx hb hr hlocks hz hS hW (Nat.le_of_ble_eq_true rfl) (Nat.le_of_ble_eq_true rfl) d_Mo_fails_14 ⟨rfl, hX, hF2⟩
  · refine lv_iconst (v := 1) hx hb d_Mo_fails_5 (by decide) ?_
    refine lv_goto (tgt := 10) hx hb d_Mo_fails_6 (by decide) ?_
    obtain ⟨cdo4, mko4, f1o4, f2o4, f3o4, f4o4, f5o4, f6o4, f7o4, hf_0, hf_1, hf_2, hf_3, hf_4, hf_5, hf_6, hf_7, hk2o4, hk3o4, hk4o4, -, -⟩ := id hX
    refine gw_put (ci := 5) (fs := [.int cdo4, .int (nI lm), .int sm, .int E, .ref (B 1), .ref (B 2), .int (nI sz), .ref (B 3), .ref (B 4), .ref (B 5), .ref (B 6), .int (nI jb), .int mko4, .ref (B 7), .int (nI dr)]) (v := .int 1) (ty := .int) hx hb hts in_Mo t_Mo t_Mo_ok n_Mo hown hE.K hW hS hf_0 rfl 0 (by decide) (hts _ mw222) (fun _ h9 => h9) rfl (by decide +kernel) rfl rfl (Nat.le_of_ble_eq_true rfl) d_Mo_fails_10 (fun H locs hW hS => ?_)
    have hXn : gm_X G B lm sm E jb sz dr (gw_up Mw (B 0) 100 (.inr (5, [.int 1, .int (nI lm), .int sm, .int E, .ref (B 1), .ref (B 2), .int (nI sz), .ref (B 3), .ref (B 4), .ref (B 5), .ref (B 6), .int (nI jb), .int mko4, .ref (B 7), .int (nI dr)]))) := hX.up100 hf_0 (by omega)
    have hF5 : gw_fg (gw_out [100, 101, 102, 103, 104, 105, 106, 107]) M (gw_up Mw (B 0) 100 (.inr (5, [.int 1, .int (nI lm), .int sm, .int E, .ref (B 1), .ref (B 2), .int (nI sz), .ref (B 3), .ref (B 4), .ref (B 5), .ref (B 6), .int (nI jb), .int mko4, .ref (B 7), .int (nI dr)]))) := gw_fg.up hF hf_0 (show ¬ ((gw_out [100, 101, 102, 103, 104, 105, 106, 107]) 100) by decide) (show ¬ ((gw_out [100, 101, 102, 103, 104, 105, 106, 107]) 100) by decide)
    obtain ⟨M6, eM6⟩ : ∃ z, z = gw_up Mw (B 0) 100 (.inr (5, [.int 1, .int (nI lm), .int sm, .int E, .ref (B 1), .ref (B 2), .int (nI sz), .ref (B 3), .ref (B 4), .ref (B 5), .ref (B 6), .int (nI jb), .int mko4, .ref (B 7), .int (nI dr)])) := ⟨_, rfl⟩
    replace hW : gw_P G.1 vwCl G.2.2.2 M6 H := by rw [eM6]; exact hW
    have hf_1 : M6 (B 1) = some (101, .inl (G.2.1 0, 10000, .inl f1o4)) := by rw [eM6]; exact gw_keep hf_1 hf_0 (by decide)
    have hf_2 : M6 (B 2) = some (102, .inl (G.2.1 0, 300, .inl f2o4)) := by rw [eM6]; exact gw_keep hf_2 hf_0 (by decide)
    have hf_3 : M6 (B 3) = some (103, .inl (G.2.1 0, 10240, .inl f3o4)) := by rw [eM6]; exact gw_keep hf_3 hf_0 (by decide)
    have hf_4 : M6 (B 4) = some (104, .inl (G.2.1 0, 41, .inl f4o4)) := by rw [eM6]; exact gw_keep hf_4 hf_0 (by decide)
    have hf_5 : M6 (B 5) = some (105, .inl (G.2.1 0, 41, .inl f5o4)) := by rw [eM6]; exact gw_keep hf_5 hf_0 (by decide)
    have hf_6 : M6 (B 6) = some (106, .inl (G.2.1 0, 4100, .inl f6o4)) := by rw [eM6]; exact gw_keep hf_6 hf_0 (by decide)
    have hf_7 : M6 (B 7) = some (107, .inl (G.2.1 0, 2048, .inl f7o4)) := by rw [eM6]; exact gw_keep hf_7 hf_0 (by decide)
    have hf_0 : M6 (B 0) = some (100, .inr (5, [.int 1, .int (nI lm), .int sm, .int E, .ref (B 1), .ref (B 2), .int (nI sz), .ref (B 3), .ref (B 4), .ref (B 5), .ref (B 6), .int (nI jb), .int mko4, .ref (B 7), .int (nI dr)])) := by rw [eM6]; exact gw_up_self _ _ _ _
    rw [← eM6] at hF5
    rw [← eM6] at hXn
    replace hX := hXn
    clear hXn
    refine lv_iload_n hx hb d_Mo_fails_13 rfl (lv_at hl 1 rfl) ?_
    exact gw_zret hx hb hr hlocks hz hS hW (Nat.le_of_ble_eq_true rfl) (Nat.le_of_ble_eq_true rfl) d_Mo_fails_14 ⟨rfl, hX, hF5⟩

set_option maxHeartbeats 4000000 in
set_option maxRecDepth 100000 in
theorem m_what (l : Launch) (G : gw_G) (M : gw_M) (B : Nat → Nat) (lm : Nat) (sm E : Int32) (jb sz dr : Nat) (hX : gm_X G B lm sm E jb sz dr M) (k : Int32) (hk : gm_k k) : Met l y_Mo_what [.code y_Mo_what b_Mo_what 2 (some .int)] ({ frames := 0, cells := 0, slots := 0, locals := 0 }) (gw_Pc G M [.ref (B 0), .int k]) (gw_Qi G (fun r M2 => gm_X G B lm sm E jb sz dr M2 ∧ gw_fg (gw_out [100, 101, 102, 103, 104, 105, 106, 107]) M M2)) 0 0 (gw_A G) := by
  refine gw_start (by decide) (Nat.le_of_ble_eq_true rfl) (fun p9 e9 s m b9 mt9 c9 hx hb hr hml hown hlocks hin hE hB hW ls hl => ?_)
  have hts := hE.ts ([.ref (B 0), .int k] : List Value).toArray
  have hl : lv_has ls 2 [(0, .ref (B 0)), (1, .int k)] := hl
  have hown : s.vm.findClass "GenerationsModel" = some m.cls := hown
  have hj9 := hX.jb40
  have hm9 := hX.lm255
  refine gw_gen (I := fun z => gm_X G B lm sm E jb sz dr z) (P := gw_out [100, 101, 102, 103, 104, 105, 106, 107]) hX hW (fun H locs Mw hW hS hX hF => ?_)
  have hX : gm_X G B lm sm E jb sz dr Mw := hX
  refine lv_aload_n hx hb d_Mo_what_0 rfl (lv_at hl 0 rfl) ?_
  obtain ⟨cdo1, mko1, f1o1, f2o1, f3o1, f4o1, f5o1, f6o1, f7o1, hf_0, hf_1, hf_2, hf_3, hf_4, hf_5, hf_6, hf_7, hk2o1, hk3o1, hk4o1, -, -⟩ := id hX
  refine gw_get (ci := 5) (fs := [.int cdo1, .int (nI lm), .int sm, .int E, .ref (B 1), .ref (B 2), .int (nI sz), .ref (B 3), .ref (B 4), .ref (B 5), .ref (B 6), .int (nI jb), .int mko1, .ref (B 7), .int (nI dr)]) hx hb hts in_Mo hown hE.K hW hf_0 rfl 4 (by decide) (hts _ mw223) (fun _ h9 => h9) rfl d_Mo_what_1 ?_
  refine lv_iload_n hx hb d_Mo_what_4 rfl (lv_at hl 1 rfl) ?_
  refine gw_iald (i := k) hx hb hE.K hW 0 hf_1 rfl (gm_in hk) d_Mo_what_5 ?_
  refine lv_bipush (v := 7) hx hb d_Mo_what_6 (by decide) ?_
  refine lv_iand hx hb d_Mo_what_8 ?_
  exact gw_iret hx hb hr hlocks hS hW (Nat.le_of_ble_eq_true rfl) (Nat.le_of_ble_eq_true rfl) d_Mo_what_9 ⟨hX, hF⟩

set_option maxHeartbeats 4000000 in
set_option maxRecDepth 100000 in
theorem m_owner (l : Launch) (G : gw_G) (M : gw_M) (B : Nat → Nat) (lm : Nat) (sm E : Int32) (jb sz dr : Nat) (hX : gm_X G B lm sm E jb sz dr M) (k : Int32) (hk : gm_k k) : Met l y_Mo_owner [.code y_Mo_owner b_Mo_owner 2 (some .int)] ({ frames := 0, cells := 0, slots := 0, locals := 0 }) (gw_Pc G M [.ref (B 0), .int k]) (gw_Qi G (fun r M2 => gm_X G B lm sm E jb sz dr M2 ∧ gw_fg (gw_out [100, 101, 102, 103, 104, 105, 106, 107]) M M2)) 0 0 (gw_A G) := by
  refine gw_start (by decide) (Nat.le_of_ble_eq_true rfl) (fun p9 e9 s m b9 mt9 c9 hx hb hr hml hown hlocks hin hE hB hW ls hl => ?_)
  have hts := hE.ts ([.ref (B 0), .int k] : List Value).toArray
  have hl : lv_has ls 2 [(0, .ref (B 0)), (1, .int k)] := hl
  have hown : s.vm.findClass "GenerationsModel" = some m.cls := hown
  have hj9 := hX.jb40
  have hm9 := hX.lm255
  refine gw_gen (I := fun z => gm_X G B lm sm E jb sz dr z) (P := gw_out [100, 101, 102, 103, 104, 105, 106, 107]) hX hW (fun H locs Mw hW hS hX hF => ?_)
  have hX : gm_X G B lm sm E jb sz dr Mw := hX
  refine lv_aload_n hx hb d_Mo_owner_0 rfl (lv_at hl 0 rfl) ?_
  obtain ⟨cdo1, mko1, f1o1, f2o1, f3o1, f4o1, f5o1, f6o1, f7o1, hf_0, hf_1, hf_2, hf_3, hf_4, hf_5, hf_6, hf_7, hk2o1, hk3o1, hk4o1, -, -⟩ := id hX
  refine gw_get (ci := 5) (fs := [.int cdo1, .int (nI lm), .int sm, .int E, .ref (B 1), .ref (B 2), .int (nI sz), .ref (B 3), .ref (B 4), .ref (B 5), .ref (B 6), .int (nI jb), .int mko1, .ref (B 7), .int (nI dr)]) hx hb hts in_Mo hown hE.K hW hf_0 rfl 4 (by decide) (hts _ mw223) (fun _ h9 => h9) rfl d_Mo_owner_1 ?_
  refine lv_iload_n hx hb d_Mo_owner_4 rfl (lv_at hl 1 rfl) ?_
  refine gw_iald (i := k) hx hb hE.K hW 0 hf_1 rfl (gm_in hk) d_Mo_owner_5 ?_
  refine lv_iconst (v := 3) hx hb d_Mo_owner_6 (by decide) ?_
  refine lv_ishr hx hb d_Mo_owner_7 ?_
  refine lv_bipush (v := 63) hx hb d_Mo_owner_8 (by decide) ?_
  refine lv_iand hx hb d_Mo_owner_10 ?_
  exact gw_iret hx hb hr hlocks hS hW (Nat.le_of_ble_eq_true rfl) (Nat.le_of_ble_eq_true rfl) d_Mo_owner_11 ⟨hX, hF⟩

set_option maxHeartbeats 4000000 in
set_option maxRecDepth 100000 in
theorem m_versionOf (l : Launch) (G : gw_G) (M : gw_M) (B : Nat → Nat) (lm : Nat) (sm E : Int32) (jb sz dr : Nat) (hX : gm_X G B lm sm E jb sz dr M) (k : Int32) (hk : gm_k k) : Met l y_Mo_versionOf [.code y_Mo_versionOf b_Mo_versionOf 2 (some .int)] ({ frames := 0, cells := 0, slots := 0, locals := 0 }) (gw_Pc G M [.ref (B 0), .int k]) (gw_Qi G (fun r M2 => gm_X G B lm sm E jb sz dr M2 ∧ gw_fg (gw_out [100, 101, 102, 103, 104, 105, 106, 107]) M M2)) 0 0 (gw_A G) := by
  refine gw_start (by decide) (Nat.le_of_ble_eq_true rfl) (fun p9 e9 s m b9 mt9 c9 hx hb hr hml hown hlocks hin hE hB hW ls hl => ?_)
  have hts := hE.ts ([.ref (B 0), .int k] : List Value).toArray
  have hl : lv_has ls 2 [(0, .ref (B 0)), (1, .int k)] := hl
  have hown : s.vm.findClass "GenerationsModel" = some m.cls := hown
  have hj9 := hX.jb40
  have hm9 := hX.lm255
  refine gw_gen (I := fun z => gm_X G B lm sm E jb sz dr z) (P := gw_out [100, 101, 102, 103, 104, 105, 106, 107]) hX hW (fun H locs Mw hW hS hX hF => ?_)
  have hX : gm_X G B lm sm E jb sz dr Mw := hX
  refine lv_aload_n hx hb d_Mo_versionOf_0 rfl (lv_at hl 0 rfl) ?_
  obtain ⟨cdo1, mko1, f1o1, f2o1, f3o1, f4o1, f5o1, f6o1, f7o1, hf_0, hf_1, hf_2, hf_3, hf_4, hf_5, hf_6, hf_7, hk2o1, hk3o1, hk4o1, -, -⟩ := id hX
  refine gw_get (ci := 5) (fs := [.int cdo1, .int (nI lm), .int sm, .int E, .ref (B 1), .ref (B 2), .int (nI sz), .ref (B 3), .ref (B 4), .ref (B 5), .ref (B 6), .int (nI jb), .int mko1, .ref (B 7), .int (nI dr)]) hx hb hts in_Mo hown hE.K hW hf_0 rfl 4 (by decide) (hts _ mw223) (fun _ h9 => h9) rfl d_Mo_versionOf_1 ?_
  refine lv_iload_n hx hb d_Mo_versionOf_4 rfl (lv_at hl 1 rfl) ?_
  refine gw_iald (i := k) hx hb hE.K hW 0 hf_1 rfl (gm_in hk) d_Mo_versionOf_5 ?_
  refine lv_bipush (v := 9) hx hb d_Mo_versionOf_6 (by decide) ?_
  refine lv_ishr hx hb d_Mo_versionOf_8 ?_
  exact gw_iret hx hb hr hlocks hS hW (Nat.le_of_ble_eq_true rfl) (Nat.le_of_ble_eq_true rfl) d_Mo_versionOf_9 ⟨hX, hF⟩

set_option maxHeartbeats 4000000 in
set_option maxRecDepth 100000 in
theorem m_be (l : Launch) (G : gw_G) (M : gw_M) (B : Nat → Nat) (lm : Nat) (sm E : Int32) (jb sz dr : Nat) (hX : gm_X G B lm sm E jb sz dr M) (k : Int32) (p : Int32) (q : Int32) (w : Int32) (hk : gm_k k) : Met l y_Mo_be [.code y_Mo_be b_Mo_be 5 none] ({ frames := 0, cells := 0, slots := 0, locals := 0 }) (gw_Pc G M [.ref (B 0), .int k, .int p, .int q, .int w]) (gw_Qv G (fun M2 => gm_X G B lm sm E jb sz dr M2 ∧ gw_fg (gw_out [100, 101, 102, 103, 104, 105, 106, 107]) M M2)) 0 0 (gw_A G) := by
  refine gw_start (by decide) (Nat.le_of_ble_eq_true rfl) (fun p9 e9 s m b9 mt9 c9 hx hb hr hml hown hlocks hin hE hB hW ls hl => ?_)
  have hts := hE.ts ([.ref (B 0), .int k, .int p, .int q, .int w] : List Value).toArray
  have hl : lv_has ls 5 [(0, .ref (B 0)), (1, .int k), (2, .int p), (3, .int q), (4, .int w)] := hl
  have hown : s.vm.findClass "GenerationsModel" = some m.cls := hown
  have hj9 := hX.jb40
  have hm9 := hX.lm255
  refine gw_gen (I := fun z => gm_X G B lm sm E jb sz dr z) (P := gw_out [100, 101, 102, 103, 104, 105, 106, 107]) hX hW (fun H locs Mw hW hS hX hF => ?_)
  have hX : gm_X G B lm sm E jb sz dr Mw := hX
  refine lv_aload_n hx hb d_Mo_be_0 rfl (lv_at hl 0 rfl) ?_
  obtain ⟨cdo1, mko1, f1o1, f2o1, f3o1, f4o1, f5o1, f6o1, f7o1, hf_0, hf_1, hf_2, hf_3, hf_4, hf_5, hf_6, hf_7, hk2o1, hk3o1, hk4o1, -, -⟩ := id hX
  refine gw_get (ci := 5) (fs := [.int cdo1, .int (nI lm), .int sm, .int E, .ref (B 1), .ref (B 2), .int (nI sz), .ref (B 3), .ref (B 4), .ref (B 5), .ref (B 6), .int (nI jb), .int mko1, .ref (B 7), .int (nI dr)]) hx hb hts in_Mo hown hE.K hW hf_0 rfl 4 (by decide) (hts _ mw223) (fun _ h9 => h9) rfl d_Mo_be_1 ?_
  refine lv_iload_n hx hb d_Mo_be_4 rfl (lv_at hl 1 rfl) ?_
  refine lv_iload_n hx hb d_Mo_be_5 rfl (lv_at hl 2 rfl) ?_
  refine lv_iload_n hx hb d_Mo_be_6 rfl (lv_at hl 3 rfl) ?_
  refine lv_iconst (v := 3) hx hb d_Mo_be_7 (by decide) ?_
  refine lv_ishl hx hb d_Mo_be_8 ?_
  refine lv_ior hx hb d_Mo_be_9 ?_
  refine lv_iload hx hb d_Mo_be_10 (lv_at hl 4 rfl) ?_
  refine lv_bipush (v := 9) hx hb d_Mo_be_12 (by decide) ?_
  refine lv_ishl hx hb d_Mo_be_14 ?_
  refine lv_ior hx hb d_Mo_be_15 ?_
  refine gw_iast (i := k) (x := (p ||| (q <<< (3 &&& 31))) ||| (w <<< (9 &&& 31))) hx hb hE.K hW hS 0 hf_1 rfl (gm_in hk) d_Mo_be_16 (fun H locs hW hS => ?_)
  have hXn : gm_X G B lm sm E jb sz dr (gw_up Mw (B 1) 101 (.inl (G.2.1 0, 10000, .inl (upd f1o1 (k : Int32).toNatClampNeg ((p ||| (q <<< (3 &&& 31))) ||| (w <<< (9 &&& 31))))))) := hX.up101 hf_1
  have hF2 : gw_fg (gw_out [100, 101, 102, 103, 104, 105, 106, 107]) M (gw_up Mw (B 1) 101 (.inl (G.2.1 0, 10000, .inl (upd f1o1 (k : Int32).toNatClampNeg ((p ||| (q <<< (3 &&& 31))) ||| (w <<< (9 &&& 31))))))) := gw_fg.up hF hf_1 (show ¬ ((gw_out [100, 101, 102, 103, 104, 105, 106, 107]) 101) by decide) (show ¬ ((gw_out [100, 101, 102, 103, 104, 105, 106, 107]) 101) by decide)
  obtain ⟨M3, eM3⟩ : ∃ z, z = gw_up Mw (B 1) 101 (.inl (G.2.1 0, 10000, .inl (upd f1o1 (k : Int32).toNatClampNeg ((p ||| (q <<< (3 &&& 31))) ||| (w <<< (9 &&& 31)))))) := ⟨_, rfl⟩
  replace hW : gw_P G.1 vwCl G.2.2.2 M3 H := by rw [eM3]; exact hW
  have hf_0 : M3 (B 0) = some (100, .inr (5, [.int cdo1, .int (nI lm), .int sm, .int E, .ref (B 1), .ref (B 2), .int (nI sz), .ref (B 3), .ref (B 4), .ref (B 5), .ref (B 6), .int (nI jb), .int mko1, .ref (B 7), .int (nI dr)])) := by rw [eM3]; exact gw_keep hf_0 hf_1 (by decide)
  have hf_2 : M3 (B 2) = some (102, .inl (G.2.1 0, 300, .inl f2o1)) := by rw [eM3]; exact gw_keep hf_2 hf_1 (by decide)
  have hf_3 : M3 (B 3) = some (103, .inl (G.2.1 0, 10240, .inl f3o1)) := by rw [eM3]; exact gw_keep hf_3 hf_1 (by decide)
  have hf_4 : M3 (B 4) = some (104, .inl (G.2.1 0, 41, .inl f4o1)) := by rw [eM3]; exact gw_keep hf_4 hf_1 (by decide)
  have hf_5 : M3 (B 5) = some (105, .inl (G.2.1 0, 41, .inl f5o1)) := by rw [eM3]; exact gw_keep hf_5 hf_1 (by decide)
  have hf_6 : M3 (B 6) = some (106, .inl (G.2.1 0, 4100, .inl f6o1)) := by rw [eM3]; exact gw_keep hf_6 hf_1 (by decide)
  have hf_7 : M3 (B 7) = some (107, .inl (G.2.1 0, 2048, .inl f7o1)) := by rw [eM3]; exact gw_keep hf_7 hf_1 (by decide)
  have hf_1 : M3 (B 1) = some (101, .inl (G.2.1 0, 10000, .inl (upd f1o1 (k : Int32).toNatClampNeg ((p ||| (q <<< (3 &&& 31))) ||| (w <<< (9 &&& 31)))))) := by rw [eM3]; exact gw_up_self _ _ _ _
  rw [← eM3] at hF2
  rw [← eM3] at hXn
  replace hX := hXn
  clear hXn
  exact gw_vret hx hb hr hlocks hS hW (Nat.le_of_ble_eq_true rfl) (Nat.le_of_ble_eq_true rfl) d_Mo_be_17 ⟨hX, hF2⟩

set_option maxHeartbeats 4000000 in
set_option maxRecDepth 100000 in
theorem m_become (l : Launch) (G : gw_G) (M : gw_M) (B : Nat → Nat) (lm : Nat) (sm E : Int32) (jb sz dr : Nat) (hX : gm_X G B lm sm E jb sz dr M) (k : Int32) (p : Int32) (hk : gm_k k) : Met l y_Mo_become [.code y_Mo_become b_Mo_become 3 none] ({ frames := 1, cells := 0, slots := 0, locals := 24 }) (gw_Pc G M [.ref (B 0), .int k, .int p]) (gw_Qv G (fun M2 => gm_X G B lm sm E jb sz dr M2 ∧ gw_fg (gw_out [100, 101, 102, 103, 104, 105, 106, 107]) M M2)) 0 0 (gw_A G) := by
  refine gw_start (by decide) (Nat.le_of_ble_eq_true rfl) (fun p9 e9 s m b9 mt9 c9 hx hb hr hml hown hlocks hin hE hB hW ls hl => ?_)
  have hts := hE.ts ([.ref (B 0), .int k, .int p] : List Value).toArray
  have hl : lv_has ls 3 [(0, .ref (B 0)), (1, .int k), (2, .int p)] := hl
  have hown : s.vm.findClass "GenerationsModel" = some m.cls := hown
  have hj9 := hX.jb40
  have hm9 := hX.lm255
  refine gw_gen (I := fun z => gm_X G B lm sm E jb sz dr z) (P := gw_out [100, 101, 102, 103, 104, 105, 106, 107]) hX hW (fun H locs Mw hW hS hX hF => ?_)
  have hX : gm_X G B lm sm E jb sz dr Mw := hX
  refine lv_aload_n hx hb d_Mo_become_0 rfl (lv_at hl 0 rfl) ?_
  refine lv_iload_n hx hb d_Mo_become_1 rfl (lv_at hl 1 rfl) ?_
  refine lv_iload_n hx hb d_Mo_become_2 rfl (lv_at hl 2 rfl) ?_
  refine lv_aload_n hx hb d_Mo_become_3 rfl (lv_at hl 0 rfl) ?_
  refine lv_iload_n hx hb d_Mo_become_4 rfl (lv_at hl 1 rfl) ?_
  obtain ⟨cdo1, mko1, f1o1, f2o1, f3o1, f4o1, f5o1, f6o1, f7o1, hf_0, hf_1, hf_2, hf_3, hf_4, hf_5, hf_6, hf_7, hk2o1, hk3o1, hk4o1, -, -⟩ := id hX
  refine gw_calli hS (va_runV (As := [.int k]) (rest := [.int p, .int k, .ref (B 0)]) ⟨hx, hb, hml, hown, hts⟩ (m_owner l G Mw B lm sm E jb sz dr hX k  hk) (cwV 1 hts (gw_gv mw225 mw226 mw227 mw228 mw224) rfl rfl rfl (by decide +kernel) ⟨Nat.le_of_ble_eq_true rfl, Nat.le_of_ble_eq_true rfl⟩) (gw_pv hE hB hS hW rfl hf_0) rfl rfl hl.1 rfl (lv_room (Nat.le_of_ble_eq_true rfl)) d_Mo_become_5 ⟨Nat.le_of_ble_eq_true rfl, Nat.le_of_ble_eq_true rfl⟩) (fun r2 M3 H locs hw4 hW hS => ?_)
  obtain ⟨hX, hfr5⟩ := hw4
  have hF6 : gw_fg (gw_out [100, 101, 102, 103, 104, 105, 106, 107]) M M3 := gw_fg.tr hF (gw_fg.wk hfr5 (by decide))
  clear hfr5
  refine lv_aload_n hx hb d_Mo_become_8 rfl (lv_at hl 0 rfl) ?_
  refine lv_iload_n hx hb d_Mo_become_9 rfl (lv_at hl 1 rfl) ?_
  obtain ⟨cdo7, mko7, f1o7, f2o7, f3o7, f4o7, f5o7, f6o7, f7o7, hf_0, hf_1, hf_2, hf_3, hf_4, hf_5, hf_6, hf_7, hk2o7, hk3o7, hk4o7, -, -⟩ := id hX
  refine gw_calli hS (va_runV (As := [.int k]) (rest := [.int r2, .int p, .int k, .ref (B 0)]) ⟨hx, hb, hml, hown, hts⟩ (m_versionOf l G M3 B lm sm E jb sz dr hX k  hk) (cwV 1 hts (gw_gv mw230 mw231 mw232 mw228 mw229) rfl rfl rfl (by decide +kernel) ⟨Nat.le_of_ble_eq_true rfl, Nat.le_of_ble_eq_true rfl⟩) (gw_pv hE hB hS hW rfl hf_0) rfl rfl hl.1 rfl (lv_room (Nat.le_of_ble_eq_true rfl)) d_Mo_become_10 ⟨Nat.le_of_ble_eq_true rfl, Nat.le_of_ble_eq_true rfl⟩) (fun r8 M9 H locs hw10 hW hS => ?_)
  obtain ⟨hX, hfr11⟩ := hw10
  have hF12 : gw_fg (gw_out [100, 101, 102, 103, 104, 105, 106, 107]) M M9 := gw_fg.tr hF6 (gw_fg.wk hfr11 (by decide))
  clear hfr11
  obtain ⟨cdo13, mko13, f1o13, f2o13, f3o13, f4o13, f5o13, f6o13, f7o13, hf_0, hf_1, hf_2, hf_3, hf_4, hf_5, hf_6, hf_7, hk2o13, hk3o13, hk4o13, -, -⟩ := id hX
  refine gw_callv hS (va_runV (As := [.int k, .int p, .int r2, .int r8]) (rest := []) ⟨hx, hb, hml, hown, hts⟩ (m_be l G M9 B lm sm E jb sz dr hX k p r2 r8  hk) (cwV 4 hts (gw_gv mw234 mw235 mw236 mw228 mw233) rfl rfl rfl (by decide +kernel) ⟨Nat.le_of_ble_eq_true rfl, Nat.le_of_ble_eq_true rfl⟩) (gw_pv hE hB hS hW rfl hf_0) rfl rfl hl.1 rfl (lv_room (Nat.le_of_ble_eq_true rfl)) d_Mo_become_13 ⟨Nat.le_of_ble_eq_true rfl, Nat.le_of_ble_eq_true rfl⟩) (fun M15 H locs hw16 hW hS => ?_)
  obtain ⟨hX, hfr17⟩ := hw16
  have hF18 : gw_fg (gw_out [100, 101, 102, 103, 104, 105, 106, 107]) M M15 := gw_fg.tr hF12 (gw_fg.wk hfr17 (by decide))
  clear hfr17
  exact gw_vret hx hb hr hlocks hS hW (Nat.le_of_ble_eq_true rfl) (Nat.le_of_ble_eq_true rfl) d_Mo_become_16 ⟨hX, hF18⟩
