set_option maxHeartbeats 4000000 in
set_option maxRecDepth 100000 in
theorem m_isJob (l : Launch) (G : gw_G) (M : gw_M) (B : Nat → Nat) (lm : Nat) (sm E : Int32) (jb sz dr : Nat) (hX : gm_X G B lm sm E jb sz dr M) (k : Int32) : Met l y_Mo_isJob [.code y_Mo_isJob b_Mo_isJob 2 (some .boolean)] ({ frames := 0, cells := 0, slots := 0, locals := 0 }) (gw_Pc G M [.ref (B 0), .int k]) (gw_Qi G (fun r M2 => (r = 0 ∨ ∃ q : Nat, 1 ≤ q ∧ q ≤ jb ∧ k = nI q) ∧ gm_X G B lm sm E jb sz dr M2 ∧ gw_fg (gw_out [100, 101, 102, 103, 104, 105, 106, 107]) M M2)) 0 0 (gw_A G) := by
  refine gw_start (by decide) (Nat.le_of_ble_eq_true rfl) (fun p9 e9 s m b9 mt9 c9 hx hb hr hml hown hlocks hin hE hB hW ls hl => ?_)
  have hts := hE.ts ([.ref (B 0), .int k] : List Value).toArray
  have hl : lv_has ls 2 [(0, .ref (B 0)), (1, .int k)] := hl
  have hown : s.vm.findClass "GenerationsModel" = some m.cls := hown
  have hj9 := hX.jb40
  have hm9 := hX.lm255
  refine gw_gen (I := fun z => gm_X G B lm sm E jb sz dr z) (P := gw_out [100, 101, 102, 103, 104, 105, 106, 107]) hX hW (fun H locs Mw hW hS hX hF => ?_)
  have hX : gm_X G B lm sm E jb sz dr Mw := hX
  refine lv_iload_n hx hb d_Mo_isJob_0 rfl (lv_at hl 1 rfl) ?_
  refine lv_if_le (tgt := 16) hx hb d_Mo_isJob_1 (by decide) (fun c1 => ?_) (fun c1 => ?_)
  · refine lv_iconst (v := 0) hx hb d_Mo_isJob_16 (by decide) ?_
    exact gw_zret hx hb hr hlocks rfl hS hW (Nat.le_of_ble_eq_true rfl) (Nat.le_of_ble_eq_true rfl) d_Mo_isJob_17 ⟨(Or.inl rfl), hX, hF⟩
  · refine lv_iload_n hx hb d_Mo_isJob_4 rfl (lv_at hl 1 rfl) ?_
    refine lv_aload_n hx hb d_Mo_isJob_5 rfl (lv_at hl 0 rfl) ?_
    obtain ⟨cdo1, mko1, f1o1, f2o1, f3o1, f4o1, f5o1, f6o1, f7o1, hf_0, hf_1, hf_2, hf_3, hf_4, hf_5, hf_6, hf_7, hk2o1, hk3o1, hk4o1, -, -⟩ := id hX
    refine gw_get (ci := 5) (fs := [.int cdo1, .int (nI lm), .int sm, .int E, .ref (B 1), .ref (B 2), .int (nI sz), .ref (B 3), .ref (B 4), .ref (B 5), .ref (B 6), .int (nI jb), .int mko1, .ref (B 7), .int (nI dr)]) hx hb hts in_Mo hown hE.K hW hf_0 rfl 11 (by decide) (hts _ mw262) (fun _ h9 => h9) rfl d_Mo_isJob_6 ?_
    refine lv_icmp_gt (tgt := 16) hx hb d_Mo_isJob_9 (by decide) (fun c9 => ?_) (fun c9 => ?_)
    · refine lv_iconst (v := 0) hx hb d_Mo_isJob_16 (by decide) ?_
      exact gw_zret hx hb hr hlocks rfl hS hW (Nat.le_of_ble_eq_true rfl) (Nat.le_of_ble_eq_true rfl) d_Mo_isJob_17 ⟨(Or.inl rfl), hX, hF⟩
    · refine lv_iconst (v := 1) hx hb d_Mo_isJob_12 (by decide) ?_
      refine lv_goto (tgt := 17) hx hb d_Mo_isJob_13 (by decide) ?_
      exact gw_zret hx hb hr hlocks rfl hS hW (Nat.le_of_ble_eq_true rfl) (Nat.le_of_ble_eq_true rfl) d_Mo_isJob_17 ⟨(Or.inr (gm_job c1 c9 (by omega))), hX, hF⟩

set_option maxHeartbeats 4000000 in
set_option maxRecDepth 100000 in
theorem m_jobF (l : Launch) (G : gw_G) (M : gw_M) (B : Nat → Nat) (lm : Nat) (sm E : Int32) (jb sz dr : Nat) (hX : gm_X G B lm sm E jb sz dr M) (hj : 40 ≤ jb) : Met l y_Mo_job [.code y_Mo_job b_Mo_job 2 (some .int)] ({ frames := 0, cells := 0, slots := 0, locals := 0 }) (gw_Pc G M [.ref (B 0)]) (gw_Qi G (fun r M2 => -1 = r ∧ gm_X G B lm sm E jb sz dr M2 ∧ gw_fg (gw_out [100, 101, 102, 103, 104, 105, 106, 107]) M M2)) 0 0 (gw_A G) := by
  refine gw_start (by decide) (Nat.le_of_ble_eq_true rfl) (fun p9 e9 s m b9 mt9 c9 hx hb hr hml hown hlocks hin hE hB hW ls hl => ?_)
  have hts := hE.ts ([.ref (B 0)] : List Value).toArray
  have hl : lv_has ls 2 [(0, .ref (B 0))] := hl
  have hown : s.vm.findClass "GenerationsModel" = some m.cls := hown
  have hj9 := hX.jb40
  have hm9 := hX.lm255
  refine gw_gen (I := fun z => gm_X G B lm sm E jb sz dr z) (P := gw_out [100, 101, 102, 103, 104, 105, 106, 107]) hX hW (fun H locs Mw hW hS hX hF => ?_)
  have hX : gm_X G B lm sm E jb sz dr Mw := hX
  refine lv_aload_n hx hb d_Mo_job_0 rfl (lv_at hl 0 rfl) ?_
  refine lv_iconst (v := 0) hx hb d_Mo_job_1 (by decide) ?_
  obtain ⟨cdo1, mko1, f1o1, f2o1, f3o1, f4o1, f5o1, f6o1, f7o1, hf_0, hf_1, hf_2, hf_3, hf_4, hf_5, hf_6, hf_7, hk2o1, hk3o1, hk4o1, -, -⟩ := id hX
  refine gw_put (ci := 5) (fs := [.int cdo1, .int (nI lm), .int sm, .int E, .ref (B 1), .ref (B 2), .int (nI sz), .ref (B 3), .ref (B 4), .ref (B 5), .ref (B 6), .int (nI jb), .int mko1, .ref (B 7), .int (nI dr)]) (v := .int 0) (ty := .int) hx hb hts in_Mo t_Mo t_Mo_ok n_Mo hown hE.K hW hS hf_0 rfl 0 (by decide) (hts _ mw222) (fun _ h9 => h9) rfl (by decide +kernel) rfl rfl (Nat.le_of_ble_eq_true rfl) d_Mo_job_2 (fun H locs hW hS => ?_)
  have hXn : gm_X G B lm sm E jb sz dr (gw_up Mw (B 0) 100 (.inr (5, [.int 0, .int (nI lm), .int sm, .int E, .ref (B 1), .ref (B 2), .int (nI sz), .ref (B 3), .ref (B 4), .ref (B 5), .ref (B 6), .int (nI jb), .int mko1, .ref (B 7), .int (nI dr)]))) := hX.up100 hf_0 (by omega)
  have hF2 : gw_fg (gw_out [100, 101, 102, 103, 104, 105, 106, 107]) M (gw_up Mw (B 0) 100 (.inr (5, [.int 0, .int (nI lm), .int sm, .int E, .ref (B 1), .ref (B 2), .int (nI sz), .ref (B 3), .ref (B 4), .ref (B 5), .ref (B 6), .int (nI jb), .int mko1, .ref (B 7), .int (nI dr)]))) := gw_fg.up hF hf_0 (show ¬ ((gw_out [100, 101, 102, 103, 104, 105, 106, 107]) 100) by decide) (show ¬ ((gw_out [100, 101, 102, 103, 104, 105, 106, 107]) 100) by decide)
  obtain ⟨M3, eM3⟩ : ∃ z, z = gw_up Mw (B 0) 100 (.inr (5, [.int 0, .int (nI lm), .int sm, .int E, .ref (B 1), .ref (B 2), .int (nI sz), .ref (B 3), .ref (B 4), .ref (B 5), .ref (B 6), .int (nI jb), .int mko1, .ref (B 7), .int (nI dr)])) := ⟨_, rfl⟩
  replace hW : gw_P G.1 vwCl G.2.2.2 M3 H := by rw [eM3]; exact hW
  have hf_1 : M3 (B 1) = some (101, .inl (G.2.1 0, 10000, .inl f1o1)) := by rw [eM3]; exact gw_keep hf_1 hf_0 (by decide)
  have hf_2 : M3 (B 2) = some (102, .inl (G.2.1 0, 300, .inl f2o1)) := by rw [eM3]; exact gw_keep hf_2 hf_0 (by decide)
  have hf_3 : M3 (B 3) = some (103, .inl (G.2.1 0, 10240, .inl f3o1)) := by rw [eM3]; exact gw_keep hf_3 hf_0 (by decide)
  have hf_4 : M3 (B 4) = some (104, .inl (G.2.1 0, 41, .inl f4o1)) := by rw [eM3]; exact gw_keep hf_4 hf_0 (by decide)
  have hf_5 : M3 (B 5) = some (105, .inl (G.2.1 0, 41, .inl f5o1)) := by rw [eM3]; exact gw_keep hf_5 hf_0 (by decide)
  have hf_6 : M3 (B 6) = some (106, .inl (G.2.1 0, 4100, .inl f6o1)) := by rw [eM3]; exact gw_keep hf_6 hf_0 (by decide)
  have hf_7 : M3 (B 7) = some (107, .inl (G.2.1 0, 2048, .inl f7o1)) := by rw [eM3]; exact gw_keep hf_7 hf_0 (by decide)
  have hf_0 : M3 (B 0) = some (100, .inr (5, [.int 0, .int (nI lm), .int sm, .int E, .ref (B 1), .ref (B 2), .int (nI sz), .ref (B 3), .ref (B 4), .ref (B 5), .ref (B 6), .int (nI jb), .int mko1, .ref (B 7), .int (nI dr)])) := by rw [eM3]; exact gw_up_self _ _ _ _
  rw [← eM3] at hF2
  rw [← eM3] at hXn
  replace hX := hXn
  clear hXn
  refine lv_aload_n hx hb d_Mo_job_5 rfl (lv_at hl 0 rfl) ?_
  refine gw_get (ci := 5) (fs := [.int 0, .int (nI lm), .int sm, .int E, .ref (B 1), .ref (B 2), .int (nI sz), .ref (B 3), .ref (B 4), .ref (B 5), .ref (B 6), .int (nI jb), .int mko1, .ref (B 7), .int (nI dr)]) hx hb hts in_Mo hown hE.K hW hf_0 rfl 11 (by decide) (hts _ mw262) (fun _ h9 => h9) rfl d_Mo_job_6 ?_
  refine lv_bipush (v := 40) hx hb d_Mo_job_9 (by decide) ?_
  refine lv_icmp_ne (tgt := 16) hx hb d_Mo_job_11 (by decide) (fun c11 => ?_) (fun c11 => ?_)
  · exact absurd (show nI jb = 40 by rw [show jb = 40 by omega]; rfl) c11
  · refine lv_iconst (v := -1) hx hb d_Mo_job_14 (by decide) ?_
    exact gw_iret hx hb hr hlocks hS hW (Nat.le_of_ble_eq_true rfl) (Nat.le_of_ble_eq_true rfl) d_Mo_job_15 ⟨rfl, hX, hF2⟩

set_option maxHeartbeats 4000000 in
set_option maxRecDepth 100000 in
theorem m_jobN (l : Launch) (G : gw_G) (M : gw_M) (B : Nat → Nat) (lm : Nat) (sm E : Int32) (jb sz dr : Nat) (hX : gm_X G B lm sm E jb sz dr M) (hj : jb < 40) (hsz : sz ≤ lm) : Met l y_Mo_job [.code y_Mo_job b_Mo_job 2 (some .int)] ({ frames := 0, cells := 0, slots := 0, locals := 0 }) (gw_Pc G M [.ref (B 0)]) (gw_Qi G (fun r M2 => nI (jb + 1) = r ∧ gm_X G B lm sm E (jb + 1) sz dr M2 ∧ gw_fg (gw_out [100, 101, 102, 103, 104, 105, 106, 107]) M M2)) 0 0 (gw_A G) := by
  refine gw_start (by decide) (Nat.le_of_ble_eq_true rfl) (fun p9 e9 s m b9 mt9 c9 hx hb hr hml hown hlocks hin hE hB hW ls hl => ?_)
  have hts := hE.ts ([.ref (B 0)] : List Value).toArray
  have hl : lv_has ls 2 [(0, .ref (B 0))] := hl
  have hown : s.vm.findClass "GenerationsModel" = some m.cls := hown
  have hj9 := hX.jb40
  have hm9 := hX.lm255
  refine gw_gen (I := fun z => gm_X G B lm sm E jb sz dr z) (P := gw_out [100, 101, 102, 103, 104, 105, 106, 107]) hX hW (fun H locs Mw hW hS hX hF => ?_)
  have hX : gm_X G B lm sm E jb sz dr Mw := hX
  refine lv_aload_n hx hb d_Mo_job_0 rfl (lv_at hl 0 rfl) ?_
  refine lv_iconst (v := 0) hx hb d_Mo_job_1 (by decide) ?_
  obtain ⟨cdo1, mko1, f1o1, f2o1, f3o1, f4o1, f5o1, f6o1, f7o1, hf_0, hf_1, hf_2, hf_3, hf_4, hf_5, hf_6, hf_7, hk2o1, hk3o1, hk4o1, -, -⟩ := id hX
  refine gw_put (ci := 5) (fs := [.int cdo1, .int (nI lm), .int sm, .int E, .ref (B 1), .ref (B 2), .int (nI sz), .ref (B 3), .ref (B 4), .ref (B 5), .ref (B 6), .int (nI jb), .int mko1, .ref (B 7), .int (nI dr)]) (v := .int 0) (ty := .int) hx hb hts in_Mo t_Mo t_Mo_ok n_Mo hown hE.K hW hS hf_0 rfl 0 (by decide) (hts _ mw222) (fun _ h9 => h9) rfl (by decide +kernel) rfl rfl (Nat.le_of_ble_eq_true rfl) d_Mo_job_2 (fun H locs hW hS => ?_)
  have hXn : gm_X G B lm sm E jb sz dr (gw_up Mw (B 0) 100 (.inr (5, [.int 0, .int (nI lm), .int sm, .int E, .ref (B 1), .ref (B 2), .int (nI sz), .ref (B 3), .ref (B 4), .ref (B 5), .ref (B 6), .int (nI jb), .int mko1, .ref (B 7), .int (nI dr)]))) := hX.up100 hf_0 (by omega)
  have hF2 : gw_fg (gw_out [100, 101, 102, 103, 104, 105, 106, 107]) M (gw_up Mw (B 0) 100 (.inr (5, [.int 0, .int (nI lm), .int sm, .int E, .ref (B 1), .ref (B 2), .int (nI sz), .ref (B 3), .ref (B 4), .ref (B 5), .ref (B 6), .int (nI jb), .int mko1, .ref (B 7), .int (nI dr)]))) := gw_fg.up hF hf_0 (show ¬ ((gw_out [100, 101, 102, 103, 104, 105, 106, 107]) 100) by decide) (show ¬ ((gw_out [100, 101, 102, 103, 104, 105, 106, 107]) 100) by decide)
  obtain ⟨M3, eM3⟩ : ∃ z, z = gw_up Mw (B 0) 100 (.inr (5, [.int 0, .int (nI lm), .int sm, .int E, .ref (B 1), .ref (B 2), .int (nI sz), .ref (B 3), .ref (B 4), .ref (B 5), .ref (B 6), .int (nI jb), .int mko1, .ref (B 7), .int (nI dr)])) := ⟨_, rfl⟩
  replace hW : gw_P G.1 vwCl G.2.2.2 M3 H := by rw [eM3]; exact hW
  have hf_1 : M3 (B 1) = some (101, .inl (G.2.1 0, 10000, .inl f1o1)) := by rw [eM3]; exact gw_keep hf_1 hf_0 (by decide)
  have hf_2 : M3 (B 2) = some (102, .inl (G.2.1 0, 300, .inl f2o1)) := by rw [eM3]; exact gw_keep hf_2 hf_0 (by decide)
  have hf_3 : M3 (B 3) = some (103, .inl (G.2.1 0, 10240, .inl f3o1)) := by rw [eM3]; exact gw_keep hf_3 hf_0 (by decide)
  have hf_4 : M3 (B 4) = some (104, .inl (G.2.1 0, 41, .inl f4o1)) := by rw [eM3]; exact gw_keep hf_4 hf_0 (by decide)
  have hf_5 : M3 (B 5) = some (105, .inl (G.2.1 0, 41, .inl f5o1)) := by rw [eM3]; exact gw_keep hf_5 hf_0 (by decide)
  have hf_6 : M3 (B 6) = some (106, .inl (G.2.1 0, 4100, .inl f6o1)) := by rw [eM3]; exact gw_keep hf_6 hf_0 (by decide)
  have hf_7 : M3 (B 7) = some (107, .inl (G.2.1 0, 2048, .inl f7o1)) := by rw [eM3]; exact gw_keep hf_7 hf_0 (by decide)
  have hf_0 : M3 (B 0) = some (100, .inr (5, [.int 0, .int (nI lm), .int sm, .int E, .ref (B 1), .ref (B 2), .int (nI sz), .ref (B 3), .ref (B 4), .ref (B 5), .ref (B 6), .int (nI jb), .int mko1, .ref (B 7), .int (nI dr)])) := by rw [eM3]; exact gw_up_self _ _ _ _
  rw [← eM3] at hF2
  rw [← eM3] at hXn
  replace hX := hXn
  clear hXn
  refine lv_aload_n hx hb d_Mo_job_5 rfl (lv_at hl 0 rfl) ?_
  refine gw_get (ci := 5) (fs := [.int 0, .int (nI lm), .int sm, .int E, .ref (B 1), .ref (B 2), .int (nI sz), .ref (B 3), .ref (B 4), .ref (B 5), .ref (B 6), .int (nI jb), .int mko1, .ref (B 7), .int (nI dr)]) hx hb hts in_Mo hown hE.K hW hf_0 rfl 11 (by decide) (hts _ mw262) (fun _ h9 => h9) rfl d_Mo_job_6 ?_
  refine lv_bipush (v := 40) hx hb d_Mo_job_9 (by decide) ?_
  refine lv_icmp_ne (tgt := 16) hx hb d_Mo_job_11 (by decide) (fun c11 => ?_) (fun c11 => ?_)
  · refine lv_aload_n hx hb d_Mo_job_16 rfl (lv_at hl 0 rfl) ?_
    refine lv_dup hx hb d_Mo_job_17 rfl ?_
    refine gw_get (ci := 5) (fs := [.int 0, .int (nI lm), .int sm, .int E, .ref (B 1), .ref (B 2), .int (nI sz), .ref (B 3), .ref (B 4), .ref (B 5), .ref (B 6), .int (nI jb), .int mko1, .ref (B 7), .int (nI dr)]) hx hb hts in_Mo hown hE.K hW hf_0 rfl 11 (by decide) (hts _ mw262) (fun _ h9 => h9) rfl d_Mo_job_18 ?_
    refine lv_iconst (v := 1) hx hb d_Mo_job_21 (by decide) ?_
    refine lv_iadd hx hb d_Mo_job_22 ?_
    refine W.eq (g2 := F0 m 23 ls [.int (nI (jb + 1)), .ref (B 0)]) (by rw [nI_1]) ?_
    refine gw_put (ci := 5) (fs := [.int 0, .int (nI lm), .int sm, .int E, .ref (B 1), .ref (B 2), .int (nI sz), .ref (B 3), .ref (B 4), .ref (B 5), .ref (B 6), .int (nI jb), .int mko1, .ref (B 7), .int (nI dr)]) (v := .int (nI (jb + 1))) (ty := .int) hx hb hts in_Mo t_Mo t_Mo_ok n_Mo hown hE.K hW hS hf_0 rfl 11 (by decide) (hts _ mw262) (fun _ h9 => h9) rfl (by decide +kernel) rfl rfl (Nat.le_of_ble_eq_true rfl) d_Mo_job_23 (fun H locs hW hS => ?_)
    have hXn : gm_X G B lm sm E (jb + 1) sz dr (gw_up M3 (B 0) 100 (.inr (5, [.int 0, .int (nI lm), .int sm, .int E, .ref (B 1), .ref (B 2), .int (nI sz), .ref (B 3), .ref (B 4), .ref (B 5), .ref (B 6), .int (nI (jb + 1)), .int mko1, .ref (B 7), .int (nI dr)]))) := hX.up100 hf_0 (by omega)
    have hF4 : gw_fg (gw_out [100, 101, 102, 103, 104, 105, 106, 107]) M (gw_up M3 (B 0) 100 (.inr (5, [.int 0, .int (nI lm), .int sm, .int E, .ref (B 1), .ref (B 2), .int (nI sz), .ref (B 3), .ref (B 4), .ref (B 5), .ref (B 6), .int (nI (jb + 1)), .int mko1, .ref (B 7), .int (nI dr)]))) := gw_fg.up hF2 hf_0 (show ¬ ((gw_out [100, 101, 102, 103, 104, 105, 106, 107]) 100) by decide) (show ¬ ((gw_out [100, 101, 102, 103, 104, 105, 106, 107]) 100) by decide)
    obtain ⟨M5, eM5⟩ : ∃ z, z = gw_up M3 (B 0) 100 (.inr (5, [.int 0, .int (nI lm), .int sm, .int E, .ref (B 1), .ref (B 2), .int (nI sz), .ref (B 3), .ref (B 4), .ref (B 5), .ref (B 6), .int (nI (jb + 1)), .int mko1, .ref (B 7), .int (nI dr)])) := ⟨_, rfl⟩
    replace hW : gw_P G.1 vwCl G.2.2.2 M5 H := by rw [eM5]; exact hW
    have hf_1 : M5 (B 1) = some (101, .inl (G.2.1 0, 10000, .inl f1o1)) := by rw [eM5]; exact gw_keep hf_1 hf_0 (by decide)
    have hf_2 : M5 (B 2) = some (102, .inl (G.2.1 0, 300, .inl f2o1)) := by rw [eM5]; exact gw_keep hf_2 hf_0 (by decide)
    have hf_3 : M5 (B 3) = some (103, .inl (G.2.1 0, 10240, .inl f3o1)) := by rw [eM5]; exact gw_keep hf_3 hf_0 (by decide)
    have hf_4 : M5 (B 4) = some (104, .inl (G.2.1 0, 41, .inl f4o1)) := by rw [eM5]; exact gw_keep hf_4 hf_0 (by decide)
    have hf_5 : M5 (B 5) = some (105, .inl (G.2.1 0, 41, .inl f5o1)) := by rw [eM5]; exact gw_keep hf_5 hf_0 (by decide)
    have hf_6 : M5 (B 6) = some (106, .inl (G.2.1 0, 4100, .inl f6o1)) := by rw [eM5]; exact gw_keep hf_6 hf_0 (by decide)
    have hf_7 : M5 (B 7) = some (107, .inl (G.2.1 0, 2048, .inl f7o1)) := by rw [eM5]; exact gw_keep hf_7 hf_0 (by decide)
    have hf_0 : M5 (B 0) = some (100, .inr (5, [.int 0, .int (nI lm), .int sm, .int E, .ref (B 1), .ref (B 2), .int (nI sz), .ref (B 3), .ref (B 4), .ref (B 5), .ref (B 6), .int (nI (jb + 1)), .int mko1, .ref (B 7), .int (nI dr)])) := by rw [eM5]; exact gw_up_self _ _ _ _
    rw [← eM5] at hF4
    rw [← eM5] at hXn
    replace hX := hXn
    clear hXn
    refine lv_aload_n hx hb d_Mo_job_26 rfl (lv_at hl 0 rfl) ?_
    refine gw_get (ci := 5) (fs := [.int 0, .int (nI lm), .int sm, .int E, .ref (B 1), .ref (B 2), .int (nI sz), .ref (B 3), .ref (B 4), .ref (B 5), .ref (B 6), .int (nI (jb + 1)), .int mko1, .ref (B 7), .int (nI dr)]) hx hb hts in_Mo hown hE.K hW hf_0 rfl 8 (by decide) (hts _ mw263) (fun _ h9 => h9) rfl d_Mo_job_27 ?_
    refine lv_aload_n hx hb d_Mo_job_30 rfl (lv_at hl 0 rfl) ?_
    refine gw_get (ci := 5) (fs := [.int 0, .int (nI lm), .int sm, .int E, .ref (B 1), .ref (B 2), .int (nI sz), .ref (B 3), .ref (B 4), .ref (B 5), .ref (B 6), .int (nI (jb + 1)), .int mko1, .ref (B 7), .int (nI dr)]) hx hb hts in_Mo hown hE.K hW hf_0 rfl 11 (by decide) (hts _ mw262) (fun _ h9 => h9) rfl d_Mo_job_31 ?_
    refine lv_aload_n hx hb d_Mo_job_34 rfl (lv_at hl 0 rfl) ?_
    refine gw_get (ci := 5) (fs := [.int 0, .int (nI lm), .int sm, .int E, .ref (B 1), .ref (B 2), .int (nI sz), .ref (B 3), .ref (B 4), .ref (B 5), .ref (B 6), .int (nI (jb + 1)), .int mko1, .ref (B 7), .int (nI dr)]) hx hb hts in_Mo hown hE.K hW hf_0 rfl 6 (by decide) (hts _ mw237) (fun _ h9 => h9) rfl d_Mo_job_35 ?_
    refine gw_iast (i := nI (jb + 1)) (x := nI sz) hx hb hE.K hW hS 0 hf_4 rfl (vp_in_nI (by omega) (by omega)) d_Mo_job_38 (fun H locs hW hS => ?_)
    have hXn : gm_X G B lm sm E (jb + 1) sz dr (gw_up M5 (B 4) 104 (.inl (G.2.1 0, 41, .inl (upd f4o1 (nI (jb + 1) : Int32).toNatClampNeg (nI sz))))) := hX.up104 hf_4 (gm_upd hk4o1 (gm_snI (show sz < 256 by omega)))
    have hF6 : gw_fg (gw_out [100, 101, 102, 103, 104, 105, 106, 107]) M (gw_up M5 (B 4) 104 (.inl (G.2.1 0, 41, .inl (upd f4o1 (nI (jb + 1) : Int32).toNatClampNeg (nI sz))))) := gw_fg.up hF4 hf_4 (show ¬ ((gw_out [100, 101, 102, 103, 104, 105, 106, 107]) 104) by decide) (show ¬ ((gw_out [100, 101, 102, 103, 104, 105, 106, 107]) 104) by decide)
    obtain ⟨M7, eM7⟩ : ∃ z, z = gw_up M5 (B 4) 104 (.inl (G.2.1 0, 41, .inl (upd f4o1 (nI (jb + 1) : Int32).toNatClampNeg (nI sz)))) := ⟨_, rfl⟩
    replace hW : gw_P G.1 vwCl G.2.2.2 M7 H := by rw [eM7]; exact hW
    have hf_1 : M7 (B 1) = some (101, .inl (G.2.1 0, 10000, .inl f1o1)) := by rw [eM7]; exact gw_keep hf_1 hf_4 (by decide)
    have hf_2 : M7 (B 2) = some (102, .inl (G.2.1 0, 300, .inl f2o1)) := by rw [eM7]; exact gw_keep hf_2 hf_4 (by decide)
    have hf_3 : M7 (B 3) = some (103, .inl (G.2.1 0, 10240, .inl f3o1)) := by rw [eM7]; exact gw_keep hf_3 hf_4 (by decide)
    have hf_5 : M7 (B 5) = some (105, .inl (G.2.1 0, 41, .inl f5o1)) := by rw [eM7]; exact gw_keep hf_5 hf_4 (by decide)
    have hf_6 : M7 (B 6) = some (106, .inl (G.2.1 0, 4100, .inl f6o1)) := by rw [eM7]; exact gw_keep hf_6 hf_4 (by decide)
    have hf_7 : M7 (B 7) = some (107, .inl (G.2.1 0, 2048, .inl f7o1)) := by rw [eM7]; exact gw_keep hf_7 hf_4 (by decide)
    have hf_0 : M7 (B 0) = some (100, .inr (5, [.int 0, .int (nI lm), .int sm, .int E, .ref (B 1), .ref (B 2), .int (nI sz), .ref (B 3), .ref (B 4), .ref (B 5), .ref (B 6), .int (nI (jb + 1)), .int mko1, .ref (B 7), .int (nI dr)])) := by rw [eM7]; exact gw_keep hf_0 hf_4 (by decide)
    have hf_4 : M7 (B 4) = some (104, .inl (G.2.1 0, 41, .inl (upd f4o1 (nI (jb + 1) : Int32).toNatClampNeg (nI sz)))) := by rw [eM7]; exact gw_up_self _ _ _ _
    rw [← eM7] at hF6
    rw [← eM7] at hXn
    replace hX := hXn
    clear hXn
    have hks8 : ∀ i, gm_s ((upd f4o1 (nI (jb + 1) : Int32).toNatClampNeg (nI sz)) i) := gm_upd hk4o1 (gm_snI (show sz < 256 by omega))
    refine lv_iconst (v := 0) hx hb d_Mo_job_39 (by decide) ?_
    refine lv_istore_n (lv' := [(1, .int 0), (0, .ref (B 0))]) hx hb d_Mo_job_40 rfl hl (by decide) rfl (fun ls hl => ?_)
    obtain ⟨k41, ek41⟩ : ∃ z : Nat, z = 0 := ⟨_, rfl⟩
    replace hl : lv_has ls 2 [(1, .int (nI k41)), (0, .ref (B 0))] := by subst ek41; exact lv_sub hl [0, 1] rfl
    have hk41 : k41 ≤ sz := by omega
    clear ek41
    clear hf_1 hf_2 hf_3 hf_5 hf_6 hf_7 hf_0 hf_4
    try clear eM7
    have hF := hF6
    clear hF6
    obtain ⟨n41, hn41⟩ : ∃ z : Nat, sz - k41 < z := ⟨_, Nat.lt_succ_self _⟩
    induction n41 generalizing k41 ls H locs M7 with
    | zero => exact absurd hn41 (Nat.not_lt_zero _)
    | succ n41 ih41 =>
      refine lv_iload_n hx hb d_Mo_job_41 rfl (lv_at hl 0 rfl) ?_
      refine lv_aload_n hx hb d_Mo_job_42 rfl (lv_at hl 1 rfl) ?_
      obtain ⟨cdo9, mko9, f1o9, f2o9, f3o9, f4o9, f5o9, f6o9, f7o9, hf_0, hf_1, hf_2, hf_3, hf_4, hf_5, hf_6, hf_7, hk2o9, hk3o9, hk4o9, -, -⟩ := id hX
      refine gw_get (ci := 5) (fs := [.int cdo9, .int (nI lm), .int sm, .int E, .ref (B 1), .ref (B 2), .int (nI sz), .ref (B 3), .ref (B 4), .ref (B 5), .ref (B 6), .int (nI (jb + 1)), .int mko9, .ref (B 7), .int (nI dr)]) hx hb hts in_Mo hown hE.K hW hf_0 rfl 6 (by decide) (hts _ mw237) (fun _ h9 => h9) rfl d_Mo_job_43 ?_
      refine lv_icmp_ge (tgt := 78) hx hb d_Mo_job_46 (by decide) (fun c46 => ?_) (fun c46 => ?_)
      · refine lv_aload_n hx hb d_Mo_job_78 rfl (lv_at hl 1 rfl) ?_
        refine gw_get (ci := 5) (fs := [.int cdo9, .int (nI lm), .int sm, .int E, .ref (B 1), .ref (B 2), .int (nI sz), .ref (B 3), .ref (B 4), .ref (B 5), .ref (B 6), .int (nI (jb + 1)), .int mko9, .ref (B 7), .int (nI dr)]) hx hb hts in_Mo hown hE.K hW hf_0 rfl 11 (by decide) (hts _ mw262) (fun _ h9 => h9) rfl d_Mo_job_79 ?_
        exact gw_iret hx hb hr hlocks hS hW (Nat.le_of_ble_eq_true rfl) (Nat.le_of_ble_eq_true rfl) d_Mo_job_82 ⟨rfl, hX, hF⟩
      · have hlt := gx_ltN c46 (by omega) (by omega)
        refine lv_aload_n hx hb d_Mo_job_49 rfl (lv_at hl 1 rfl) ?_
        refine gw_get (ci := 5) (fs := [.int cdo9, .int (nI lm), .int sm, .int E, .ref (B 1), .ref (B 2), .int (nI sz), .ref (B 3), .ref (B 4), .ref (B 5), .ref (B 6), .int (nI (jb + 1)), .int mko9, .ref (B 7), .int (nI dr)]) hx hb hts in_Mo hown hE.K hW hf_0 rfl 7 (by decide) (hts _ mw264) (fun _ h9 => h9) rfl d_Mo_job_50 ?_
        refine lv_sipush (v := 256) hx hb d_Mo_job_53 (by decide) ?_
        refine lv_aload_n hx hb d_Mo_job_56 rfl (lv_at hl 1 rfl) ?_
        refine gw_get (ci := 5) (fs := [.int cdo9, .int (nI lm), .int sm, .int E, .ref (B 1), .ref (B 2), .int (nI sz), .ref (B 3), .ref (B 4), .ref (B 5), .ref (B 6), .int (nI (jb + 1)), .int mko9, .ref (B 7), .int (nI dr)]) hx hb hts in_Mo hown hE.K hW hf_0 rfl 11 (by decide) (hts _ mw262) (fun _ h9 => h9) rfl d_Mo_job_57 ?_
        refine lv_iconst (v := 1) hx hb d_Mo_job_60 (by decide) ?_
        refine lv_isub hx hb d_Mo_job_61 ?_
        refine lv_imul hx hb d_Mo_job_62 ?_
        refine lv_iload_n hx hb d_Mo_job_63 rfl (lv_at hl 0 rfl) ?_
        refine lv_iadd hx hb d_Mo_job_64 ?_
        refine lv_aload_n hx hb d_Mo_job_65 rfl (lv_at hl 1 rfl) ?_
        refine gw_get (ci := 5) (fs := [.int cdo9, .int (nI lm), .int sm, .int E, .ref (B 1), .ref (B 2), .int (nI sz), .ref (B 3), .ref (B 4), .ref (B 5), .ref (B 6), .int (nI (jb + 1)), .int mko9, .ref (B 7), .int (nI dr)]) hx hb hts in_Mo hown hE.K hW hf_0 rfl 5 (by decide) (hts _ mw238) (fun _ h9 => h9) rfl d_Mo_job_66 ?_
        refine lv_iload_n hx hb d_Mo_job_69 rfl (lv_at hl 0 rfl) ?_
        refine gw_iald (i := nI k41) hx hb hE.K hW 0 hf_2 rfl (vp_in_nI (by omega) (by omega)) d_Mo_job_70 ?_
        obtain ⟨v10, ev10⟩ : ∃ z : Int32, z = f2o9 (nI k41 : Int32).toNatClampNeg := ⟨_, rfl⟩
        have hv10 : gm_k v10 := by rw [ev10]; exact hk2o9 _
        refine W.eq (g2 := F0 m 71 ls [.int v10, .int ((256 * ((nI (jb + 1)) - 1)) + (nI k41)), .ref (B 3)]) (by rw [ev10]) ?_
        refine gw_iast (i := (256 * ((nI (jb + 1)) - 1)) + (nI k41)) (x := v10) hx hb hE.K hW hS 0 hf_3 rfl (gm_fi hj (by omega)) d_Mo_job_71 (fun H locs hW hS => ?_)
        have hXn : gm_X G B lm sm E (jb + 1) sz dr (gw_up M7 (B 3) 103 (.inl (G.2.1 0, 10240, .inl (upd f3o9 ((256 * ((nI (jb + 1)) - 1)) + (nI k41) : Int32).toNatClampNeg v10)))) := hX.up103 hf_3 (gm_upd hk3o9 hv10)
        have hF11 : gw_fg (gw_out [100, 101, 102, 103, 104, 105, 106, 107]) M (gw_up M7 (B 3) 103 (.inl (G.2.1 0, 10240, .inl (upd f3o9 ((256 * ((nI (jb + 1)) - 1)) + (nI k41) : Int32).toNatClampNeg v10)))) := gw_fg.up hF hf_3 (show ¬ ((gw_out [100, 101, 102, 103, 104, 105, 106, 107]) 103) by decide) (show ¬ ((gw_out [100, 101, 102, 103, 104, 105, 106, 107]) 103) by decide)
        obtain ⟨M12, eM12⟩ : ∃ z, z = gw_up M7 (B 3) 103 (.inl (G.2.1 0, 10240, .inl (upd f3o9 ((256 * ((nI (jb + 1)) - 1)) + (nI k41) : Int32).toNatClampNeg v10))) := ⟨_, rfl⟩
        replace hW : gw_P G.1 vwCl G.2.2.2 M12 H := by rw [eM12]; exact hW
        have hf_0 : M12 (B 0) = some (100, .inr (5, [.int cdo9, .int (nI lm), .int sm, .int E, .ref (B 1), .ref (B 2), .int (nI sz), .ref (B 3), .ref (B 4), .ref (B 5), .ref (B 6), .int (nI (jb + 1)), .int mko9, .ref (B 7), .int (nI dr)])) := by rw [eM12]; exact gw_keep hf_0 hf_3 (by decide)
        have hf_1 : M12 (B 1) = some (101, .inl (G.2.1 0, 10000, .inl f1o9)) := by rw [eM12]; exact gw_keep hf_1 hf_3 (by decide)
        have hf_2 : M12 (B 2) = some (102, .inl (G.2.1 0, 300, .inl f2o9)) := by rw [eM12]; exact gw_keep hf_2 hf_3 (by decide)
        have hf_4 : M12 (B 4) = some (104, .inl (G.2.1 0, 41, .inl f4o9)) := by rw [eM12]; exact gw_keep hf_4 hf_3 (by decide)
        have hf_5 : M12 (B 5) = some (105, .inl (G.2.1 0, 41, .inl f5o9)) := by rw [eM12]; exact gw_keep hf_5 hf_3 (by decide)
        have hf_6 : M12 (B 6) = some (106, .inl (G.2.1 0, 4100, .inl f6o9)) := by rw [eM12]; exact gw_keep hf_6 hf_3 (by decide)
        have hf_7 : M12 (B 7) = some (107, .inl (G.2.1 0, 2048, .inl f7o9)) := by rw [eM12]; exact gw_keep hf_7 hf_3 (by decide)
        have hf_3 : M12 (B 3) = some (103, .inl (G.2.1 0, 10240, .inl (upd f3o9 ((256 * ((nI (jb + 1)) - 1)) + (nI k41) : Int32).toNatClampNeg v10))) := by rw [eM12]; exact gw_up_self _ _ _ _
        rw [← eM12] at hF11
        rw [← eM12] at hXn
        replace hX := hXn
        clear hXn
        have hks13 : ∀ i, gm_k ((upd f3o9 ((256 * ((nI (jb + 1)) - 1)) + (nI k41) : Int32).toNatClampNeg v10) i) := gm_upd hk3o9 hv10
        refine lv_iinc (v := (nI k41) + 1) (lv' := [(1, .int ((nI k41) + 1)), (0, .ref (B 0))]) hx hb d_Mo_job_72 hl (k := 0) rfl rfl (by decide) rfl (fun ls hl => ?_)
        refine lv_goto (tgt := 41) hx hb d_Mo_job_75 (by decide) ?_
        rw [nI_1] at hl
        apply ih41 (ls := ls) (k41 := k41 + 1) (H := H) (locs := locs) (M7 := M12) <;> first | exact lv_sub hl [0, 1] rfl | exact hX | exact hW | exact hS | exact hF11 | omega | assumption
  · exact absurd ((nI_eq (b := 40) (by omega) (by omega)).mp c11) (by omega)

set_option maxHeartbeats 4000000 in
set_option maxRecDepth 100000 in
theorem m_numberOf (l : Launch) (G : gw_G) (M : gw_M) (B : Nat → Nat) (lm : Nat) (sm E : Int32) (jb sz dr : Nat) (hX : gm_X G B lm sm E jb sz dr M) (q : Nat) (w : Nat) (hq1 : 1 ≤ q) (hq2 : q ≤ 40) (hw1 : 1 ≤ w) (hw2 : w < 100) : Met l y_Mo_numberOf [.code y_Mo_numberOf b_Mo_numberOf 4 (some .int)] ({ frames := 0, cells := 0, slots := 0, locals := 0 }) (gw_Pc G M [.ref (B 0), .int (nI q), .int (nI w)]) (gw_Qi G (fun r M2 => gm_k r ∧ gm_X G B lm sm E jb sz dr M2 ∧ gw_fg (gw_out [100, 101, 102, 103, 104, 105, 106, 107]) M M2)) 0 0 (gw_A G) := by
  refine gw_start (by decide) (Nat.le_of_ble_eq_true rfl) (fun p9 e9 s m b9 mt9 c9 hx hb hr hml hown hlocks hin hE hB hW ls hl => ?_)
  have hts := hE.ts ([.ref (B 0), .int (nI q), .int (nI w)] : List Value).toArray
  have hl : lv_has ls 4 [(0, .ref (B 0)), (1, .int (nI q)), (2, .int (nI w))] := hl
  have hown : s.vm.findClass "GenerationsModel" = some m.cls := hown
  have hj9 := hX.jb40
  have hm9 := hX.lm255
  refine gw_gen (I := fun z => gm_X G B lm sm E jb sz dr z) (P := gw_out [100, 101, 102, 103, 104, 105, 106, 107]) hX hW (fun H locs Mw hW hS hX hF => ?_)
  have hX : gm_X G B lm sm E jb sz dr Mw := hX
  refine lv_aload_n hx hb d_Mo_numberOf_0 rfl (lv_at hl 0 rfl) ?_
  obtain ⟨cdo1, mko1, f1o1, f2o1, f3o1, f4o1, f5o1, f6o1, f7o1, hf_0, hf_1, hf_2, hf_3, hf_4, hf_5, hf_6, hf_7, hk2o1, hk3o1, hk4o1, -, -⟩ := id hX
  refine gw_get (ci := 5) (fs := [.int cdo1, .int (nI lm), .int sm, .int E, .ref (B 1), .ref (B 2), .int (nI sz), .ref (B 3), .ref (B 4), .ref (B 5), .ref (B 6), .int (nI jb), .int mko1, .ref (B 7), .int (nI dr)]) hx hb hts in_Mo hown hE.K hW hf_0 rfl 8 (by decide) (hts _ mw263) (fun _ h9 => h9) rfl d_Mo_numberOf_1 ?_
  refine lv_iload_n hx hb d_Mo_numberOf_4 rfl (lv_at hl 1 rfl) ?_
  refine gw_iald (i := nI q) hx hb hE.K hW 0 hf_4 rfl (vp_in_nI (by omega) (by omega)) d_Mo_numberOf_5 ?_
  obtain ⟨v2, ev2⟩ : ∃ z : Int32, z = f4o1 (nI q : Int32).toNatClampNeg := ⟨_, rfl⟩
  have hv2 : gm_s v2 := by rw [ev2]; exact hk4o1 _
  refine W.eq (g2 := F0 m 6 ls [.int v2]) (by rw [ev2]) ?_
  refine lv_if_ne (tgt := 13) hx hb d_Mo_numberOf_6 (by decide) (fun c6 => ?_) (fun c6 => ?_)
  · refine lv_aload_n hx hb d_Mo_numberOf_13 rfl (lv_at hl 0 rfl) ?_
    refine gw_get (ci := 5) (fs := [.int cdo1, .int (nI lm), .int sm, .int E, .ref (B 1), .ref (B 2), .int (nI sz), .ref (B 3), .ref (B 4), .ref (B 5), .ref (B 6), .int (nI jb), .int mko1, .ref (B 7), .int (nI dr)]) hx hb hts in_Mo hown hE.K hW hf_0 rfl 7 (by decide) (hts _ mw264) (fun _ h9 => h9) rfl d_Mo_numberOf_14 ?_
    refine lv_sipush (v := 256) hx hb d_Mo_numberOf_17 (by decide) ?_
    refine lv_iload_n hx hb d_Mo_numberOf_20 rfl (lv_at hl 1 rfl) ?_
    refine lv_iconst (v := 1) hx hb d_Mo_numberOf_21 (by decide) ?_
    refine lv_isub hx hb d_Mo_numberOf_22 ?_
    refine lv_imul hx hb d_Mo_numberOf_23 ?_
    refine lv_aload_n hx hb d_Mo_numberOf_24 rfl (lv_at hl 0 rfl) ?_
    refine gw_get (ci := 5) (fs := [.int cdo1, .int (nI lm), .int sm, .int E, .ref (B 1), .ref (B 2), .int (nI sz), .ref (B 3), .ref (B 4), .ref (B 5), .ref (B 6), .int (nI jb), .int mko1, .ref (B 7), .int (nI dr)]) hx hb hts in_Mo hown hE.K hW hf_0 rfl 8 (by decide) (hts _ mw263) (fun _ h9 => h9) rfl d_Mo_numberOf_25 ?_
    refine lv_iload_n hx hb d_Mo_numberOf_28 rfl (lv_at hl 1 rfl) ?_
    refine gw_iald (i := nI q) hx hb hE.K hW 0 hf_4 rfl (vp_in_nI (by omega) (by omega)) d_Mo_numberOf_29 ?_
    obtain ⟨v3, ev3⟩ : ∃ z : Int32, z = f4o1 (nI q : Int32).toNatClampNeg := ⟨_, rfl⟩
    have hv3 : gm_s v3 := by rw [ev3]; exact hk4o1 _
    refine W.eq (g2 := F0 m 30 ls [.int v3, .int (256 * ((nI q) - 1)), .ref (B 3)]) (by rw [ev3]) ?_
    refine lv_iadd hx hb d_Mo_numberOf_30 ?_
    refine lv_iconst (v := 1) hx hb d_Mo_numberOf_31 (by decide) ?_
    refine lv_isub hx hb d_Mo_numberOf_32 ?_
    refine gw_iald (i := ((256 * ((nI q) - 1)) + v3) - 1) hx hb hE.K hW 0 hf_3 rfl (gm_ni hq1 hq2 hv3 (by rw [ev3, ← ev2]; exact c6)) d_Mo_numberOf_33 ?_
    obtain ⟨v4, ev4⟩ : ∃ z : Int32, z = f3o1 (((256 * ((nI q) - 1)) + v3) - 1 : Int32).toNatClampNeg := ⟨_, rfl⟩
    have hv4 : gm_k v4 := by rw [ev4]; exact hk3o1 _
    refine W.eq (g2 := F0 m 34 ls [.int v4]) (by rw [ev4]) ?_
    refine lv_istore_n (lv' := [(3, .int v4), (0, .ref (B 0)), (1, .int (nI q)), (2, .int (nI w))]) hx hb d_Mo_numberOf_34 rfl hl (by decide) rfl (fun ls hl => ?_)
    refine lv_iload_n hx hb d_Mo_numberOf_35 rfl (lv_at hl 0 rfl) ?_
    refine lv_iload_n hx hb d_Mo_numberOf_36 rfl (lv_at hl 3 rfl) ?_
    refine lv_iadd hx hb d_Mo_numberOf_37 ?_
    refine lv_iconst (v := 1) hx hb d_Mo_numberOf_38 (by decide) ?_
    refine lv_isub hx hb d_Mo_numberOf_39 ?_
    refine lv_sipush (v := 9999) hx hb d_Mo_numberOf_40 (by decide) ?_
    refine lv_irem hx hb d_Mo_numberOf_43 (by decide) ?_
    refine lv_iconst (v := 1) hx hb d_Mo_numberOf_44 (by decide) ?_
    refine lv_iadd hx hb d_Mo_numberOf_45 ?_
    exact gw_iret hx hb hr hlocks hS hW (Nat.le_of_ble_eq_true rfl) (Nat.le_of_ble_eq_true rfl) d_Mo_numberOf_46 ⟨(gm_no hv4 hw1 hw2), hX, hF⟩
  · refine lv_iconst (v := 0) hx hb d_Mo_numberOf_9 (by decide) ?_
    refine lv_goto (tgt := 34) hx hb d_Mo_numberOf_10 (by decide) ?_
    refine lv_istore_n (lv' := [(3, .int 0), (0, .ref (B 0)), (1, .int (nI q)), (2, .int (nI w))]) hx hb d_Mo_numberOf_34 rfl hl (by decide) rfl (fun ls hl => ?_)
    refine lv_iload_n hx hb d_Mo_numberOf_35 rfl (lv_at hl 0 rfl) ?_
    refine lv_iload_n hx hb d_Mo_numberOf_36 rfl (lv_at hl 3 rfl) ?_
    refine lv_iadd hx hb d_Mo_numberOf_37 ?_
    refine lv_iconst (v := 1) hx hb d_Mo_numberOf_38 (by decide) ?_
    refine lv_isub hx hb d_Mo_numberOf_39 ?_
    refine lv_sipush (v := 9999) hx hb d_Mo_numberOf_40 (by decide) ?_
    refine lv_irem hx hb d_Mo_numberOf_43 (by decide) ?_
    refine lv_iconst (v := 1) hx hb d_Mo_numberOf_44 (by decide) ?_
    refine lv_iadd hx hb d_Mo_numberOf_45 ?_
    exact gw_iret hx hb hr hlocks hS hW (Nat.le_of_ble_eq_true rfl) (Nat.le_of_ble_eq_true rfl) d_Mo_numberOf_46 ⟨(gm_no gm_k0 hw1 hw2), hX, hF⟩

set_option maxHeartbeats 4000000 in
set_option maxRecDepth 100000 in
theorem m_isOwn (l : Launch) (G : gw_G) (M : gw_M) (B : Nat → Nat) (lm : Nat) (sm E : Int32) (jb sz dr : Nat) (hX : gm_X G B lm sm E jb sz dr M) (p : Int32) (k : Int32) (hk : gm_k k) : Met l y_Mo_isOwn [.code y_Mo_isOwn b_Mo_isOwn 3 (some .boolean)] ({ frames := 1, cells := 0, slots := 0, locals := 21 }) (gw_Pc G M [.ref (B 0), .int p, .int k]) (gw_Qi G (fun r M2 => gm_X G B lm sm E jb sz dr M2 ∧ gw_fg (gw_out [100, 101, 102, 103, 104, 105, 106, 107]) M M2)) 0 0 (gw_A G) := by
  refine gw_start (by decide) (Nat.le_of_ble_eq_true rfl) (fun p9 e9 s m b9 mt9 c9 hx hb hr hml hown hlocks hin hE hB hW ls hl => ?_)
  have hts := hE.ts ([.ref (B 0), .int p, .int k] : List Value).toArray
  have hl : lv_has ls 3 [(0, .ref (B 0)), (1, .int p), (2, .int k)] := hl
  have hown : s.vm.findClass "GenerationsModel" = some m.cls := hown
  have hj9 := hX.jb40
  have hm9 := hX.lm255
  refine gw_gen (I := fun z => gm_X G B lm sm E jb sz dr z) (P := gw_out [100, 101, 102, 103, 104, 105, 106, 107]) hX hW (fun H locs Mw hW hS hX hF => ?_)
  have hX : gm_X G B lm sm E jb sz dr Mw := hX
  refine lv_aload_n hx hb d_Mo_isOwn_0 rfl (lv_at hl 0 rfl) ?_
  refine lv_iload_n hx hb d_Mo_isOwn_1 rfl (lv_at hl 2 rfl) ?_
  obtain ⟨cdo1, mko1, f1o1, f2o1, f3o1, f4o1, f5o1, f6o1, f7o1, hf_0, hf_1, hf_2, hf_3, hf_4, hf_5, hf_6, hf_7, hk2o1, hk3o1, hk4o1, -, -⟩ := id hX
  refine gw_calli hS (va_runV (As := [.int k]) (rest := []) ⟨hx, hb, hml, hown, hts⟩ (m_owner l G Mw B lm sm E jb sz dr hX k  hk) (cwV 1 hts (gw_gv mw225 mw226 mw227 mw228 mw224) rfl rfl rfl (by decide +kernel) ⟨Nat.le_of_ble_eq_true rfl, Nat.le_of_ble_eq_true rfl⟩) (gw_pv hE hB hS hW rfl hf_0) rfl rfl hl.1 rfl (lv_room (Nat.le_of_ble_eq_true rfl)) d_Mo_isOwn_2 ⟨Nat.le_of_ble_eq_true rfl, Nat.le_of_ble_eq_true rfl⟩) (fun r2 M3 H locs hw4 hW hS => ?_)
  obtain ⟨hX, hfr5⟩ := hw4
  have hF6 : gw_fg (gw_out [100, 101, 102, 103, 104, 105, 106, 107]) M M3 := gw_fg.tr hF (gw_fg.wk hfr5 (by decide))
  clear hfr5
  refine lv_iload_n hx hb d_Mo_isOwn_5 rfl (lv_at hl 1 rfl) ?_
  refine lv_icmp_ne (tgt := 40) hx hb d_Mo_isOwn_6 (by decide) (fun c6 => ?_) (fun c6 => ?_)
  · refine lv_iconst (v := 0) hx hb d_Mo_isOwn_40 (by decide) ?_
    exact gw_zret hx hb hr hlocks rfl hS hW (Nat.le_of_ble_eq_true rfl) (Nat.le_of_ble_eq_true rfl) d_Mo_isOwn_41 ⟨hX, hF6⟩
  · refine lv_aload_n hx hb d_Mo_isOwn_9 rfl (lv_at hl 0 rfl) ?_
    refine lv_iload_n hx hb d_Mo_isOwn_10 rfl (lv_at hl 2 rfl) ?_
    obtain ⟨cdo7, mko7, f1o7, f2o7, f3o7, f4o7, f5o7, f6o7, f7o7, hf_0, hf_1, hf_2, hf_3, hf_4, hf_5, hf_6, hf_7, hk2o7, hk3o7, hk4o7, -, -⟩ := id hX
    refine gw_calli hS (va_runV (As := [.int k]) (rest := []) ⟨hx, hb, hml, hown, hts⟩ (m_what l G M3 B lm sm E jb sz dr hX k  hk) (cwV 1 hts (gw_gv mw255 mw256 mw257 mw228 mw254) rfl rfl rfl (by decide +kernel) ⟨Nat.le_of_ble_eq_true rfl, Nat.le_of_ble_eq_true rfl⟩) (gw_pv hE hB hS hW rfl hf_0) rfl rfl hl.1 rfl (lv_room (Nat.le_of_ble_eq_true rfl)) d_Mo_isOwn_11 ⟨Nat.le_of_ble_eq_true rfl, Nat.le_of_ble_eq_true rfl⟩) (fun r8 M9 H locs hw10 hW hS => ?_)
    obtain ⟨hX, hfr11⟩ := hw10
    have hF12 : gw_fg (gw_out [100, 101, 102, 103, 104, 105, 106, 107]) M M9 := gw_fg.tr hF6 (gw_fg.wk hfr11 (by decide))
    clear hfr11
    refine lv_iconst (v := 1) hx hb d_Mo_isOwn_14 (by decide) ?_
    refine lv_icmp_eq (tgt := 36) hx hb d_Mo_isOwn_15 (by decide) (fun c15 => ?_) (fun c15 => ?_)
    · refine lv_iconst (v := 1) hx hb d_Mo_isOwn_36 (by decide) ?_
      refine lv_goto (tgt := 41) hx hb d_Mo_isOwn_37 (by decide) ?_
      exact gw_zret hx hb hr hlocks rfl hS hW (Nat.le_of_ble_eq_true rfl) (Nat.le_of_ble_eq_true rfl) d_Mo_isOwn_41 ⟨hX, hF12⟩
    · refine lv_aload_n hx hb d_Mo_isOwn_18 rfl (lv_at hl 0 rfl) ?_
      refine lv_iload_n hx hb d_Mo_isOwn_19 rfl (lv_at hl 2 rfl) ?_
      obtain ⟨cdo13, mko13, f1o13, f2o13, f3o13, f4o13, f5o13, f6o13, f7o13, hf_0, hf_1, hf_2, hf_3, hf_4, hf_5, hf_6, hf_7, hk2o13, hk3o13, hk4o13, -, -⟩ := id hX
      refine gw_calli hS (va_runV (As := [.int k]) (rest := []) ⟨hx, hb, hml, hown, hts⟩ (m_what l G M9 B lm sm E jb sz dr hX k  hk) (cwV 1 hts (gw_gv mw255 mw256 mw257 mw228 mw254) rfl rfl rfl (by decide +kernel) ⟨Nat.le_of_ble_eq_true rfl, Nat.le_of_ble_eq_true rfl⟩) (gw_pv hE hB hS hW rfl hf_0) rfl rfl hl.1 rfl (lv_room (Nat.le_of_ble_eq_true rfl)) d_Mo_isOwn_20 ⟨Nat.le_of_ble_eq_true rfl, Nat.le_of_ble_eq_true rfl⟩) (fun r14 M15 H locs hw16 hW hS => ?_)
      obtain ⟨hX, hfr17⟩ := hw16
      have hF18 : gw_fg (gw_out [100, 101, 102, 103, 104, 105, 106, 107]) M M15 := gw_fg.tr hF12 (gw_fg.wk hfr17 (by decide))
      clear hfr17
      refine lv_iconst (v := 2) hx hb d_Mo_isOwn_23 (by decide) ?_
      refine lv_icmp_eq (tgt := 36) hx hb d_Mo_isOwn_24 (by decide) (fun c24 => ?_) (fun c24 => ?_)
      · refine lv_iconst (v := 1) hx hb d_Mo_isOwn_36 (by decide) ?_
        refine lv_goto (tgt := 41) hx hb d_Mo_isOwn_37 (by decide) ?_
        exact gw_zret hx hb hr hlocks rfl hS hW (Nat.le_of_ble_eq_true rfl) (Nat.le_of_ble_eq_true rfl) d_Mo_isOwn_41 ⟨hX, hF18⟩
      · refine lv_aload_n hx hb d_Mo_isOwn_27 rfl (lv_at hl 0 rfl) ?_
        refine lv_iload_n hx hb d_Mo_isOwn_28 rfl (lv_at hl 2 rfl) ?_
        obtain ⟨cdo19, mko19, f1o19, f2o19, f3o19, f4o19, f5o19, f6o19, f7o19, hf_0, hf_1, hf_2, hf_3, hf_4, hf_5, hf_6, hf_7, hk2o19, hk3o19, hk4o19, -, -⟩ := id hX
        refine gw_calli hS (va_runV (As := [.int k]) (rest := []) ⟨hx, hb, hml, hown, hts⟩ (m_what l G M15 B lm sm E jb sz dr hX k  hk) (cwV 1 hts (gw_gv mw255 mw256 mw257 mw228 mw254) rfl rfl rfl (by decide +kernel) ⟨Nat.le_of_ble_eq_true rfl, Nat.le_of_ble_eq_true rfl⟩) (gw_pv hE hB hS hW rfl hf_0) rfl rfl hl.1 rfl (lv_room (Nat.le_of_ble_eq_true rfl)) d_Mo_isOwn_29 ⟨Nat.le_of_ble_eq_true rfl, Nat.le_of_ble_eq_true rfl⟩) (fun r20 M21 H locs hw22 hW hS => ?_)
        obtain ⟨hX, hfr23⟩ := hw22
        have hF24 : gw_fg (gw_out [100, 101, 102, 103, 104, 105, 106, 107]) M M21 := gw_fg.tr hF18 (gw_fg.wk hfr23 (by decide))
        clear hfr23
        refine lv_iconst (v := 3) hx hb d_Mo_isOwn_32 (by decide) ?_
        refine lv_icmp_ne (tgt := 40) hx hb d_Mo_isOwn_33 (by decide) (fun c33 => ?_) (fun c33 => ?_)
        · refine lv_iconst (v := 0) hx hb d_Mo_isOwn_40 (by decide) ?_
          exact gw_zret hx hb hr hlocks rfl hS hW (Nat.le_of_ble_eq_true rfl) (Nat.le_of_ble_eq_true rfl) d_Mo_isOwn_41 ⟨hX, hF24⟩
        · refine lv_iconst (v := 1) hx hb d_Mo_isOwn_36 (by decide) ?_
          refine lv_goto (tgt := 41) hx hb d_Mo_isOwn_37 (by decide) ?_
          exact gw_zret hx hb hr hlocks rfl hS hW (Nat.le_of_ble_eq_true rfl) (Nat.le_of_ble_eq_true rfl) d_Mo_isOwn_41 ⟨hX, hF24⟩
