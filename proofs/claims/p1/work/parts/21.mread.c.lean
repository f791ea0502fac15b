set_option maxHeartbeats 4000000 in
set_option maxRecDepth 100000 in
theorem m_isJob (l : Launch) (G : gw_G) (M : gw_M) (mo : Nat) (there : Nat) (mrow : Nat) (found : Nat) (fsz : Nat) (ends : Nat) (made : Nat) (drops : Nat) (cd : Int32) (lm : Int32) (sm : Int32) (k : Int32) (hf_mo : M mo = some (100, .inr (5, [.int cd, .int lm, .int sm, .int 0, .ref there, .ref mrow, .int 0, .ref found, .ref fsz, .ref ends, .ref made, .int 0, .int 0, .ref drops, .int 0]))) : Met l y_Mo_isJob [.code y_Mo_isJob b_Mo_isJob 2 (some .boolean)] ({ frames := 0, cells := 0, slots := 0, locals := 0 }) (gw_Pc G M [.ref mo, .int k]) (gw_Qi G (fun r M2 => 0 = r ∧ M = M2)) 0 0 (gw_A G) := by
  refine gw_start (by decide) (Nat.le_of_ble_eq_true rfl) (fun p9 e9 s m b9 mt9 c9 hx hb hr hml hown hlocks hin hE hB hW ls hl => ?_)
  have hts := hE.ts ([.ref mo, .int k] : List Value).toArray
  have hl : lv_has ls 2 [(0, .ref mo), (1, .int k)] := hl
  have hS : va_S (gw_A G) s.heap s.heap [] := va_S.rf
  have hown : s.vm.findClass "GenerationsModel" = some m.cls := hown
  refine lv_iload_n hx hb d_Mo_isJob_0 rfl (lv_at hl 1 rfl) ?_
  refine lv_if_le (tgt := 16) hx hb d_Mo_isJob_1 (by decide) (fun c1 => ?_) (fun c1 => ?_)
  · refine lv_iconst (v := 0) hx hb d_Mo_isJob_16 (by decide) ?_
    exact gw_zret hx hb hr hlocks rfl hS hW (Nat.le_of_ble_eq_true rfl) (Nat.le_of_ble_eq_true rfl) d_Mo_isJob_17 (⟨rfl, rfl⟩)
  · refine lv_iload_n hx hb d_Mo_isJob_4 rfl (lv_at hl 1 rfl) ?_
    refine lv_aload_n hx hb d_Mo_isJob_5 rfl (lv_at hl 0 rfl) ?_
    refine gw_get (ci := 5) (fs := [.int cd, .int lm, .int sm, .int 0, .ref there, .ref mrow, .int 0, .ref found, .ref fsz, .ref ends, .ref made, .int 0, .int 0, .ref drops, .int 0]) hx hb hts in_Mo hown hE.K hW hf_mo rfl 11 (by decide) (hts _ mw194) (fun _ h9 => h9) rfl d_Mo_isJob_6 ?_
    refine lv_icmp_gt (tgt := 16) hx hb d_Mo_isJob_9 (by decide) (fun c9 => ?_) (fun c9 => ?_)
    · refine lv_iconst (v := 0) hx hb d_Mo_isJob_16 (by decide) ?_
      exact gw_zret hx hb hr hlocks rfl hS hW (Nat.le_of_ble_eq_true rfl) (Nat.le_of_ble_eq_true rfl) d_Mo_isJob_17 (⟨rfl, rfl⟩)
    · exact absurd (gm_pos c1) c9

set_option maxHeartbeats 4000000 in
set_option maxRecDepth 100000 in
theorem m_job (l : Launch) (G : gw_G) (M : gw_M) (mo : Nat) (there : Nat) (mrow : Nat) (found : Nat) (fsz : Nat) (ends : Nat) (made : Nat) (drops : Nat) (cd : Int32) (lm : Int32) (sm : Int32) (hf_mo : M mo = some (100, .inr (5, [.int cd, .int lm, .int sm, .int 0, .ref there, .ref mrow, .int 0, .ref found, .ref fsz, .ref ends, .ref made, .int 0, .int 0, .ref drops, .int 0]))) (hf_fsz : M fsz = some (104, .inl (G.2.1 0, 41, .inl (fun _ => 0)))) : Met l y_Mo_job [.code y_Mo_job b_Mo_job 2 (some .int)] ({ frames := 0, cells := 0, slots := 0, locals := 0 }) (gw_Pc G M [.ref mo]) (gw_Qi G (fun r M2 => 1 = r ∧ gw_fr (gw_out [100, 104]) M M2)) 0 0 (gw_A G) := by
  refine gw_start (by decide) (Nat.le_of_ble_eq_true rfl) (fun p9 e9 s m b9 mt9 c9 hx hb hr hml hown hlocks hin hE hB hW ls hl => ?_)
  have hts := hE.ts ([.ref mo] : List Value).toArray
  have hl : lv_has ls 2 [(0, .ref mo)] := hl
  have hS : va_S (gw_A G) s.heap s.heap [] := va_S.rf
  have hown : s.vm.findClass "GenerationsModel" = some m.cls := hown
  refine lv_aload_n hx hb d_Mo_job_0 rfl (lv_at hl 0 rfl) ?_
  refine lv_iconst (v := 0) hx hb d_Mo_job_1 (by decide) ?_
  refine gw_put (ci := 5) (fs := [.int cd, .int lm, .int sm, .int 0, .ref there, .ref mrow, .int 0, .ref found, .ref fsz, .ref ends, .ref made, .int 0, .int 0, .ref drops, .int 0]) (v := .int 0) (ty := .int) hx hb hts in_Mo t_Mo t_Mo_ok n_Mo hown hE.K hW hS hf_mo rfl 0 (by decide) (hts _ mw164) (fun _ h9 => h9) rfl (by decide +kernel) rfl rfl (Nat.le_of_ble_eq_true rfl) d_Mo_job_2 (fun H locs hW hS => ?_)
  have hF1 : gw_fr (gw_out [100, 104]) M (gw_up M mo 100 (.inr (5, [.int 0, .int lm, .int sm, .int 0, .ref there, .ref mrow, .int 0, .ref found, .ref fsz, .ref ends, .ref made, .int 0, .int 0, .ref drops, .int 0]))) := gw_fr.up gw_fr.rf hf_mo (show ¬ ((gw_out [100, 104]) 100) by decide) (show ¬ ((gw_out [100, 104]) 100) by decide)
  obtain ⟨M2, eM2⟩ : ∃ z, z = gw_up M mo 100 (.inr (5, [.int 0, .int lm, .int sm, .int 0, .ref there, .ref mrow, .int 0, .ref found, .ref fsz, .ref ends, .ref made, .int 0, .int 0, .ref drops, .int 0])) := ⟨_, rfl⟩
  replace hW : gw_P G.1 vwCl G.2.2.2 M2 H := by rw [eM2]; exact hW
  have hf_fsz : M2 fsz = some (104, .inl (G.2.1 0, 41, .inl (fun _ => 0))) := by rw [eM2]; exact gw_keep hf_fsz hf_mo (by decide)
  have hf_mo : M2 mo = some (100, .inr (5, [.int 0, .int lm, .int sm, .int 0, .ref there, .ref mrow, .int 0, .ref found, .ref fsz, .ref ends, .ref made, .int 0, .int 0, .ref drops, .int 0])) := by rw [eM2]; exact gw_up_self _ _ _ _
  rw [← eM2] at hF1
  refine lv_aload_n hx hb d_Mo_job_5 rfl (lv_at hl 0 rfl) ?_
  refine gw_get (ci := 5) (fs := [.int 0, .int lm, .int sm, .int 0, .ref there, .ref mrow, .int 0, .ref found, .ref fsz, .ref ends, .ref made, .int 0, .int 0, .ref drops, .int 0]) hx hb hts in_Mo hown hE.K hW hf_mo rfl 11 (by decide) (hts _ mw194) (fun _ h9 => h9) rfl d_Mo_job_6 ?_
  refine lv_bipush (v := 40) hx hb d_Mo_job_9 (by decide) ?_
  refine lv_icmp_ne (tgt := 16) hx hb d_Mo_job_11 (by decide) (fun c11 => ?_) (fun c11 => ?_)
  · refine lv_aload_n hx hb d_Mo_job_16 rfl (lv_at hl 0 rfl) ?_
    refine lv_dup hx hb d_Mo_job_17 rfl ?_
    refine gw_get (ci := 5) (fs := [.int 0, .int lm, .int sm, .int 0, .ref there, .ref mrow, .int 0, .ref found, .ref fsz, .ref ends, .ref made, .int 0, .int 0, .ref drops, .int 0]) hx hb hts in_Mo hown hE.K hW hf_mo rfl 11 (by decide) (hts _ mw194) (fun _ h9 => h9) rfl d_Mo_job_18 ?_
    refine lv_iconst (v := 1) hx hb d_Mo_job_21 (by decide) ?_
    refine lv_iadd hx hb d_Mo_job_22 ?_
    refine gw_put (ci := 5) (fs := [.int 0, .int lm, .int sm, .int 0, .ref there, .ref mrow, .int 0, .ref found, .ref fsz, .ref ends, .ref made, .int 0, .int 0, .ref drops, .int 0]) (v := .int (0 + 1)) (ty := .int) hx hb hts in_Mo t_Mo t_Mo_ok n_Mo hown hE.K hW hS hf_mo rfl 11 (by decide) (hts _ mw194) (fun _ h9 => h9) rfl (by decide +kernel) rfl rfl (Nat.le_of_ble_eq_true rfl) d_Mo_job_23 (fun H locs hW hS => ?_)
    have hF3 : gw_fr (gw_out [100, 104]) M (gw_up M2 mo 100 (.inr (5, [.int 0, .int lm, .int sm, .int 0, .ref there, .ref mrow, .int 0, .ref found, .ref fsz, .ref ends, .ref made, .int (0 + 1), .int 0, .ref drops, .int 0]))) := gw_fr.up hF1 hf_mo (show ¬ ((gw_out [100, 104]) 100) by decide) (show ¬ ((gw_out [100, 104]) 100) by decide)
    obtain ⟨M4, eM4⟩ : ∃ z, z = gw_up M2 mo 100 (.inr (5, [.int 0, .int lm, .int sm, .int 0, .ref there, .ref mrow, .int 0, .ref found, .ref fsz, .ref ends, .ref made, .int (0 + 1), .int 0, .ref drops, .int 0])) := ⟨_, rfl⟩
    replace hW : gw_P G.1 vwCl G.2.2.2 M4 H := by rw [eM4]; exact hW
    have hf_fsz : M4 fsz = some (104, .inl (G.2.1 0, 41, .inl (fun _ => 0))) := by rw [eM4]; exact gw_keep hf_fsz hf_mo (by decide)
    have hf_mo : M4 mo = some (100, .inr (5, [.int 0, .int lm, .int sm, .int 0, .ref there, .ref mrow, .int 0, .ref found, .ref fsz, .ref ends, .ref made, .int (0 + 1), .int 0, .ref drops, .int 0])) := by rw [eM4]; exact gw_up_self _ _ _ _
    rw [← eM4] at hF3
    refine lv_aload_n hx hb d_Mo_job_26 rfl (lv_at hl 0 rfl) ?_
    refine gw_get (ci := 5) (fs := [.int 0, .int lm, .int sm, .int 0, .ref there, .ref mrow, .int 0, .ref found, .ref fsz, .ref ends, .ref made, .int (0 + 1), .int 0, .ref drops, .int 0]) hx hb hts in_Mo hown hE.K hW hf_mo rfl 8 (by decide) (hts _ mw158) (fun _ h9 => h9) rfl d_Mo_job_27 ?_
    refine lv_aload_n hx hb d_Mo_job_30 rfl (lv_at hl 0 rfl) ?_
    refine gw_get (ci := 5) (fs := [.int 0, .int lm, .int sm, .int 0, .ref there, .ref mrow, .int 0, .ref found, .ref fsz, .ref ends, .ref made, .int (0 + 1), .int 0, .ref drops, .int 0]) hx hb hts in_Mo hown hE.K hW hf_mo rfl 11 (by decide) (hts _ mw194) (fun _ h9 => h9) rfl d_Mo_job_31 ?_
    refine lv_aload_n hx hb d_Mo_job_34 rfl (lv_at hl 0 rfl) ?_
    refine gw_get (ci := 5) (fs := [.int 0, .int lm, .int sm, .int 0, .ref there, .ref mrow, .int 0, .ref found, .ref fsz, .ref ends, .ref made, .int (0 + 1), .int 0, .ref drops, .int 0]) hx hb hts in_Mo hown hE.K hW hf_mo rfl 6 (by decide) (hts _ mw178) (fun _ h9 => h9) rfl d_Mo_job_35 ?_
    refine gw_iast (i := 0 + 1) (x := 0) hx hb hE.K hW hS 0 hf_fsz rfl (show ¬ ((0 + 1 : Int32) < 0 ∨ 41 ≤ (0 + 1 : Int32).toNatClampNeg) by decide) d_Mo_job_38 (fun H locs hW hS => ?_)
    have hF5 : gw_fr (gw_out [100, 104]) M (gw_up M4 fsz 104 (.inl (G.2.1 0, 41, .inl (upd (fun _ => 0) (0 + 1 : Int32).toNatClampNeg 0)))) := gw_fr.up hF3 hf_fsz (show ¬ ((gw_out [100, 104]) 104) by decide) (show ¬ ((gw_out [100, 104]) 104) by decide)
    obtain ⟨M6, eM6⟩ : ∃ z, z = gw_up M4 fsz 104 (.inl (G.2.1 0, 41, .inl (upd (fun _ => 0) (0 + 1 : Int32).toNatClampNeg 0))) := ⟨_, rfl⟩
    replace hW : gw_P G.1 vwCl G.2.2.2 M6 H := by rw [eM6]; exact hW
    have hf_mo : M6 mo = some (100, .inr (5, [.int 0, .int lm, .int sm, .int 0, .ref there, .ref mrow, .int 0, .ref found, .ref fsz, .ref ends, .ref made, .int (0 + 1), .int 0, .ref drops, .int 0])) := by rw [eM6]; exact gw_keep hf_mo hf_fsz (by decide)
    have hf_fsz : M6 fsz = some (104, .inl (G.2.1 0, 41, .inl (upd (fun _ => 0) (0 + 1 : Int32).toNatClampNeg 0))) := by rw [eM6]; exact gw_up_self _ _ _ _
    rw [← eM6] at hF5
    refine lv_iconst (v := 0) hx hb d_Mo_job_39 (by decide) ?_
    refine lv_istore_n (lv' := [(1, .int 0), (0, .ref mo)]) hx hb d_Mo_job_40 rfl hl (by decide) rfl (fun ls hl => ?_)
    refine lv_iload_n hx hb d_Mo_job_41 rfl (lv_at hl 0 rfl) ?_
    refine lv_aload_n hx hb d_Mo_job_42 rfl (lv_at hl 1 rfl) ?_
    refine gw_get (ci := 5) (fs := [.int 0, .int lm, .int sm, .int 0, .ref there, .ref mrow, .int 0, .ref found, .ref fsz, .ref ends, .ref made, .int (0 + 1), .int 0, .ref drops, .int 0]) hx hb hts in_Mo hown hE.K hW hf_mo rfl 6 (by decide) (hts _ mw178) (fun _ h9 => h9) rfl d_Mo_job_43 ?_
    refine lv_icmp_ge (tgt := 78) hx hb d_Mo_job_46 (by decide) (fun c46 => ?_) (fun c46 => ?_)
    · refine lv_aload_n hx hb d_Mo_job_78 rfl (lv_at hl 1 rfl) ?_
      refine gw_get (ci := 5) (fs := [.int 0, .int lm, .int sm, .int 0, .ref there, .ref mrow, .int 0, .ref found, .ref fsz, .ref ends, .ref made, .int (0 + 1), .int 0, .ref drops, .int 0]) hx hb hts in_Mo hown hE.K hW hf_mo rfl 11 (by decide) (hts _ mw194) (fun _ h9 => h9) rfl d_Mo_job_79 ?_
      exact gw_iret hx hb hr hlocks hS hW (Nat.le_of_ble_eq_true rfl) (Nat.le_of_ble_eq_true rfl) d_Mo_job_82 (⟨(by decide), hF5⟩)
    · exact absurd c46 (by decide)
  · exact absurd c11 (by decide)

set_option maxHeartbeats 4000000 in
set_option maxRecDepth 100000 in
theorem m_fails (l : Launch) (G : gw_G) (M : gw_M) (mo : Nat) (there : Nat) (mrow : Nat) (found : Nat) (fsz : Nat) (ends : Nat) (made : Nat) (drops : Nat) (cd : Int32) (lm : Int32) (sm : Int32) (hf_mo : M mo = some (100, .inr (5, [.int cd, .int lm, .int sm, .int 0, .ref there, .ref mrow, .int 0, .ref found, .ref fsz, .ref ends, .ref made, .int 0, .int 0, .ref drops, .int 0]))) : Met l y_Mo_fails [.code y_Mo_fails b_Mo_fails 2 (some .boolean)] ({ frames := 0, cells := 0, slots := 0, locals := 0 }) (gw_Pc G M [.ref mo, .int 1]) (gw_Qi G (fun r M2 => 1 = r ∧ M2 mo = some (100, .inr (5, [.int 1, .int lm, .int sm, .int 0, .ref there, .ref mrow, .int 0, .ref found, .ref fsz, .ref ends, .ref made, .int 0, .int 0, .ref drops, .int 0])) ∧ gw_fr (gw_out [100]) M M2)) 0 0 (gw_A G) := by
  refine gw_start (by decide) (Nat.le_of_ble_eq_true rfl) (fun p9 e9 s m b9 mt9 c9 hx hb hr hml hown hlocks hin hE hB hW ls hl => ?_)
  have hts := hE.ts ([.ref mo, .int 1] : List Value).toArray
  have hl : lv_has ls 2 [(0, .ref mo), (1, .int 1)] := hl
  have hS : va_S (gw_A G) s.heap s.heap [] := va_S.rf
  have hown : s.vm.findClass "GenerationsModel" = some m.cls := hown
  refine lv_aload_n hx hb d_Mo_fails_0 rfl (lv_at hl 0 rfl) ?_
  refine lv_iload_n hx hb d_Mo_fails_1 rfl (lv_at hl 1 rfl) ?_
  refine lv_if_eq (tgt := 9) hx hb d_Mo_fails_2 (by decide) (fun c2 => ?_) (fun c2 => ?_)
  · exact absurd c2 (by decide)
  · refine lv_iconst (v := 1) hx hb d_Mo_fails_5 (by decide) ?_
    refine lv_goto (tgt := 10) hx hb d_Mo_fails_6 (by decide) ?_
    refine gw_put (ci := 5) (fs := [.int cd, .int lm, .int sm, .int 0, .ref there, .ref mrow, .int 0, .ref found, .ref fsz, .ref ends, .ref made, .int 0, .int 0, .ref drops, .int 0]) (v := .int 1) (ty := .int) hx hb hts in_Mo t_Mo t_Mo_ok n_Mo hown hE.K hW hS hf_mo rfl 0 (by decide) (hts _ mw164) (fun _ h9 => h9) rfl (by decide +kernel) rfl rfl (Nat.le_of_ble_eq_true rfl) d_Mo_fails_10 (fun H locs hW hS => ?_)
    have hF1 : gw_fr (gw_out [100]) M (gw_up M mo 100 (.inr (5, [.int 1, .int lm, .int sm, .int 0, .ref there, .ref mrow, .int 0, .ref found, .ref fsz, .ref ends, .ref made, .int 0, .int 0, .ref drops, .int 0]))) := gw_fr.up gw_fr.rf hf_mo (show ¬ ((gw_out [100]) 100) by decide) (show ¬ ((gw_out [100]) 100) by decide)
    obtain ⟨M2, eM2⟩ : ∃ z, z = gw_up M mo 100 (.inr (5, [.int 1, .int lm, .int sm, .int 0, .ref there, .ref mrow, .int 0, .ref found, .ref fsz, .ref ends, .ref made, .int 0, .int 0, .ref drops, .int 0])) := ⟨_, rfl⟩
    replace hW : gw_P G.1 vwCl G.2.2.2 M2 H := by rw [eM2]; exact hW
    have hf_mo : M2 mo = some (100, .inr (5, [.int 1, .int lm, .int sm, .int 0, .ref there, .ref mrow, .int 0, .ref found, .ref fsz, .ref ends, .ref made, .int 0, .int 0, .ref drops, .int 0])) := by rw [eM2]; exact gw_up_self _ _ _ _
    rw [← eM2] at hF1
    refine lv_iload_n hx hb d_Mo_fails_13 rfl (lv_at hl 1 rfl) ?_
    exact gw_zret hx hb hr hlocks rfl hS hW (Nat.le_of_ble_eq_true rfl) (Nat.le_of_ble_eq_true rfl) d_Mo_fails_14 (⟨rfl, hf_mo, hF1⟩)

set_option maxHeartbeats 4000000 in
set_option maxRecDepth 100000 in
theorem m_relative (l : Launch) (G : gw_G) (M : gw_M) (mo : Nat) (there : Nat) (mrow : Nat) (found : Nat) (fsz : Nat) (ends : Nat) (made : Nat) (drops : Nat) (cd : Int32) (lm : Int32) (sm : Int32) (k : Int32) (n : Int32) (hf_mo : M mo = some (100, .inr (5, [.int cd, .int lm, .int sm, .int 0, .ref there, .ref mrow, .int 0, .ref found, .ref fsz, .ref ends, .ref made, .int 0, .int 0, .ref drops, .int 0]))) : Met l y_Mo_relative [.code y_Mo_relative b_Mo_relative 4 (some .int)] ({ frames := 1, cells := 0, slots := 0, locals := 21 }) (gw_Pc G M [.ref mo, .int k, .int n]) (gw_Qi G (fun r M2 => 0 = r ∧ M2 mo = some (100, .inr (5, [.int 1, .int lm, .int sm, .int 0, .ref there, .ref mrow, .int 0, .ref found, .ref fsz, .ref ends, .ref made, .int 0, .int 0, .ref drops, .int 0])) ∧ gw_fr (gw_out [100]) M M2)) 0 0 (gw_A G) := by
  refine gw_start (by decide) (Nat.le_of_ble_eq_true rfl) (fun p9 e9 s m b9 mt9 c9 hx hb hr hml hown hlocks hin hE hB hW ls hl => ?_)
  have hts := hE.ts ([.ref mo, .int k, .int n] : List Value).toArray
  have hl : lv_has ls 4 [(0, .ref mo), (1, .int k), (2, .int n)] := hl
  have hS : va_S (gw_A G) s.heap s.heap [] := va_S.rf
  have hown : s.vm.findClass "GenerationsModel" = some m.cls := hown
  refine lv_aload_n hx hb d_Mo_relative_0 rfl (lv_at hl 0 rfl) ?_
  refine lv_aload_n hx hb d_Mo_relative_1 rfl (lv_at hl 0 rfl) ?_
  refine lv_iload_n hx hb d_Mo_relative_2 rfl (lv_at hl 1 rfl) ?_
  refine gw_calli hS (va_runV (As := [.int k]) (rest := [.ref mo]) ⟨hx, hb, hml, hown, hts⟩ (m_isJob l G M mo there mrow found fsz ends made drops cd lm sm k hf_mo ) (cwV 1 hts (gw_gv mw196 mw197 mw198 mw169 mw195) rfl rfl rfl (by decide +kernel) ⟨Nat.le_of_ble_eq_true rfl, Nat.le_of_ble_eq_true rfl⟩) (gw_pv hE hB hS hW rfl hf_mo) rfl rfl hl.1 rfl (lv_room (Nat.le_of_ble_eq_true rfl)) d_Mo_relative_3 ⟨Nat.le_of_ble_eq_true rfl, Nat.le_of_ble_eq_true rfl⟩) (fun r1 M2 H locs hw3 hW hS => ?_)
  obtain ⟨rfl, rfl⟩ := hw3
  refine lv_if_eq (tgt := 15) hx hb d_Mo_relative_6 (by decide) (fun c6 => ?_) (fun c6 => ?_)
  · refine lv_iconst (v := 1) hx hb d_Mo_relative_15 (by decide) ?_
    refine lv_goto (tgt := 20) hx hb d_Mo_relative_16 (by decide) ?_
    refine gw_calli hS (va_runV (As := [.int 1]) (rest := []) ⟨hx, hb, hml, hown, hts⟩ (m_fails l G M mo there mrow found fsz ends made drops cd lm sm hf_mo ) (cwV 1 hts (gw_gv mw200 mw201 mw202 mw169 mw199) rfl rfl rfl (by decide +kernel) ⟨Nat.le_of_ble_eq_true rfl, Nat.le_of_ble_eq_true rfl⟩) (gw_pv hE hB hS hW rfl hf_mo) rfl rfl hl.1 rfl (lv_room (Nat.le_of_ble_eq_true rfl)) d_Mo_relative_20 ⟨Nat.le_of_ble_eq_true rfl, Nat.le_of_ble_eq_true rfl⟩) (fun r4 M5 H locs hw6 hW hS => ?_)
    obtain ⟨rfl, hf_mo', hfr7⟩ := hw6
    have hf_mo : M5 mo = some (100, .inr (5, [.int 1, .int lm, .int sm, .int 0, .ref there, .ref mrow, .int 0, .ref found, .ref fsz, .ref ends, .ref made, .int 0, .int 0, .ref drops, .int 0])) := hf_mo'
    have hF8 : gw_fr (gw_out [100]) M M5 := gw_fr.tr gw_fr.rf (gw_fr.wk hfr7 (by decide))
    refine lv_if_eq (tgt := 28) hx hb d_Mo_relative_23 (by decide) (fun c23 => ?_) (fun c23 => ?_)
    · exact absurd c23 (by decide)
    · refine lv_iconst (v := 0) hx hb d_Mo_relative_26 (by decide) ?_
      exact gw_iret hx hb hr hlocks hS hW (Nat.le_of_ble_eq_true rfl) (Nat.le_of_ble_eq_true rfl) d_Mo_relative_27 (⟨rfl, hf_mo, hF8⟩)
  · exact absurd c6 (by decide)

set_option maxHeartbeats 4000000 in
set_option maxRecDepth 100000 in
theorem m_make (l : Launch) (G : gw_G) (M : gw_M) (mo : Nat) (there : Nat) (mrow : Nat) (found : Nat) (fsz : Nat) (ends : Nat) (made : Nat) (drops : Nat) (cd : Int32) (lm : Int32) (sm : Int32) (k : Int32) (n : Int32) (hf_mo : M mo = some (100, .inr (5, [.int cd, .int lm, .int sm, .int 0, .ref there, .ref mrow, .int 0, .ref found, .ref fsz, .ref ends, .ref made, .int 0, .int 0, .ref drops, .int 0]))) : Met l y_Mo_make [.code y_Mo_make b_Mo_make 4 (some .int)] ({ frames := 1, cells := 0, slots := 0, locals := 21 }) (gw_Pc G M [.ref mo, .int k, .int n]) (gw_Qi G (fun r M2 => 0 = r ∧ M2 mo = some (100, .inr (5, [.int 1, .int lm, .int sm, .int 0, .ref there, .ref mrow, .int 0, .ref found, .ref fsz, .ref ends, .ref made, .int 0, .int 0, .ref drops, .int 0])) ∧ gw_fr (gw_out [100]) M M2)) 0 0 (gw_A G) := by
  refine gw_start (by decide) (Nat.le_of_ble_eq_true rfl) (fun p9 e9 s m b9 mt9 c9 hx hb hr hml hown hlocks hin hE hB hW ls hl => ?_)
  have hts := hE.ts ([.ref mo, .int k, .int n] : List Value).toArray
  have hl : lv_has ls 4 [(0, .ref mo), (1, .int k), (2, .int n)] := hl
  have hS : va_S (gw_A G) s.heap s.heap [] := va_S.rf
  have hown : s.vm.findClass "GenerationsModel" = some m.cls := hown
  refine lv_aload_n hx hb d_Mo_make_0 rfl (lv_at hl 0 rfl) ?_
  refine lv_aload_n hx hb d_Mo_make_1 rfl (lv_at hl 0 rfl) ?_
  refine lv_iload_n hx hb d_Mo_make_2 rfl (lv_at hl 1 rfl) ?_
  refine gw_calli hS (va_runV (As := [.int k]) (rest := [.ref mo]) ⟨hx, hb, hml, hown, hts⟩ (m_isJob l G M mo there mrow found fsz ends made drops cd lm sm k hf_mo ) (cwV 1 hts (gw_gv mw196 mw197 mw198 mw169 mw195) rfl rfl rfl (by decide +kernel) ⟨Nat.le_of_ble_eq_true rfl, Nat.le_of_ble_eq_true rfl⟩) (gw_pv hE hB hS hW rfl hf_mo) rfl rfl hl.1 rfl (lv_room (Nat.le_of_ble_eq_true rfl)) d_Mo_make_3 ⟨Nat.le_of_ble_eq_true rfl, Nat.le_of_ble_eq_true rfl⟩) (fun r1 M2 H locs hw3 hW hS => ?_)
  obtain ⟨rfl, rfl⟩ := hw3
  refine lv_if_eq (tgt := 20) hx hb d_Mo_make_6 (by decide) (fun c6 => ?_) (fun c6 => ?_)
  · refine lv_iconst (v := 1) hx hb d_Mo_make_20 (by decide) ?_
    refine lv_goto (tgt := 25) hx hb d_Mo_make_21 (by decide) ?_
    refine gw_calli hS (va_runV (As := [.int 1]) (rest := []) ⟨hx, hb, hml, hown, hts⟩ (m_fails l G M mo there mrow found fsz ends made drops cd lm sm hf_mo ) (cwV 1 hts (gw_gv mw200 mw201 mw202 mw169 mw199) rfl rfl rfl (by decide +kernel) ⟨Nat.le_of_ble_eq_true rfl, Nat.le_of_ble_eq_true rfl⟩) (gw_pv hE hB hS hW rfl hf_mo) rfl rfl hl.1 rfl (lv_room (Nat.le_of_ble_eq_true rfl)) d_Mo_make_25 ⟨Nat.le_of_ble_eq_true rfl, Nat.le_of_ble_eq_true rfl⟩) (fun r4 M5 H locs hw6 hW hS => ?_)
    obtain ⟨rfl, hf_mo', hfr7⟩ := hw6
    have hf_mo : M5 mo = some (100, .inr (5, [.int 1, .int lm, .int sm, .int 0, .ref there, .ref mrow, .int 0, .ref found, .ref fsz, .ref ends, .ref made, .int 0, .int 0, .ref drops, .int 0])) := hf_mo'
    have hF8 : gw_fr (gw_out [100]) M M5 := gw_fr.tr gw_fr.rf (gw_fr.wk hfr7 (by decide))
    refine lv_if_eq (tgt := 33) hx hb d_Mo_make_28 (by decide) (fun c28 => ?_) (fun c28 => ?_)
    · exact absurd c28 (by decide)
    · refine lv_iconst (v := 0) hx hb d_Mo_make_31 (by decide) ?_
      exact gw_iret hx hb hr hlocks hS hW (Nat.le_of_ble_eq_true rfl) (Nat.le_of_ble_eq_true rfl) d_Mo_make_32 (⟨rfl, hf_mo, hF8⟩)
  · exact absurd c6 (by decide)

set_option maxHeartbeats 4000000 in
set_option maxRecDepth 100000 in
theorem m_end (l : Launch) (G : gw_G) (M : gw_M) (mo : Nat) (there : Nat) (mrow : Nat) (found : Nat) (fsz : Nat) (ends : Nat) (made : Nat) (drops : Nat) (cd : Int32) (lm : Int32) (sm : Int32) (k : Int32) (n : Int32) (f : Int32) (hf_mo : M mo = some (100, .inr (5, [.int cd, .int lm, .int sm, .int 0, .ref there, .ref mrow, .int 0, .ref found, .ref fsz, .ref ends, .ref made, .int 0, .int 0, .ref drops, .int 0]))) : Met l y_Mo_end [.code y_Mo_end b_Mo_end 6 (some .int)] ({ frames := 1, cells := 0, slots := 0, locals := 21 }) (gw_Pc G M [.ref mo, .int k, .int n, .int f]) (gw_Qi G (fun r M2 => 0 = r ∧ M2 mo = some (100, .inr (5, [.int 1, .int lm, .int sm, .int 0, .ref there, .ref mrow, .int 0, .ref found, .ref fsz, .ref ends, .ref made, .int 0, .int 0, .ref drops, .int 0])) ∧ gw_fr (gw_out [100]) M M2)) 0 0 (gw_A G) := by
  refine gw_start (by decide) (Nat.le_of_ble_eq_true rfl) (fun p9 e9 s m b9 mt9 c9 hx hb hr hml hown hlocks hin hE hB hW ls hl => ?_)
  have hts := hE.ts ([.ref mo, .int k, .int n, .int f] : List Value).toArray
  have hl : lv_has ls 6 [(0, .ref mo), (1, .int k), (2, .int n), (3, .int f)] := hl
  have hS : va_S (gw_A G) s.heap s.heap [] := va_S.rf
  have hown : s.vm.findClass "GenerationsModel" = some m.cls := hown
  refine lv_aload_n hx hb d_Mo_end_0 rfl (lv_at hl 0 rfl) ?_
  refine lv_aload_n hx hb d_Mo_end_1 rfl (lv_at hl 0 rfl) ?_
  refine lv_iload_n hx hb d_Mo_end_2 rfl (lv_at hl 1 rfl) ?_
  refine gw_calli hS (va_runV (As := [.int k]) (rest := [.ref mo]) ⟨hx, hb, hml, hown, hts⟩ (m_isJob l G M mo there mrow found fsz ends made drops cd lm sm k hf_mo ) (cwV 1 hts (gw_gv mw196 mw197 mw198 mw169 mw195) rfl rfl rfl (by decide +kernel) ⟨Nat.le_of_ble_eq_true rfl, Nat.le_of_ble_eq_true rfl⟩) (gw_pv hE hB hS hW rfl hf_mo) rfl rfl hl.1 rfl (lv_room (Nat.le_of_ble_eq_true rfl)) d_Mo_end_3 ⟨Nat.le_of_ble_eq_true rfl, Nat.le_of_ble_eq_true rfl⟩) (fun r1 M2 H locs hw3 hW hS => ?_)
  obtain ⟨rfl, rfl⟩ := hw3
  refine lv_if_ne (tgt := 13) hx hb d_Mo_end_6 (by decide) (fun c6 => ?_) (fun c6 => ?_)
  · exact absurd c6 (by decide)
  · refine lv_iconst (v := 1) hx hb d_Mo_end_9 (by decide) ?_
    refine lv_goto (tgt := 14) hx hb d_Mo_end_10 (by decide) ?_
    refine gw_calli hS (va_runV (As := [.int 1]) (rest := []) ⟨hx, hb, hml, hown, hts⟩ (m_fails l G M mo there mrow found fsz ends made drops cd lm sm hf_mo ) (cwV 1 hts (gw_gv mw200 mw201 mw202 mw169 mw199) rfl rfl rfl (by decide +kernel) ⟨Nat.le_of_ble_eq_true rfl, Nat.le_of_ble_eq_true rfl⟩) (gw_pv hE hB hS hW rfl hf_mo) rfl rfl hl.1 rfl (lv_room (Nat.le_of_ble_eq_true rfl)) d_Mo_end_14 ⟨Nat.le_of_ble_eq_true rfl, Nat.le_of_ble_eq_true rfl⟩) (fun r4 M5 H locs hw6 hW hS => ?_)
    obtain ⟨rfl, hf_mo', hfr7⟩ := hw6
    have hf_mo : M5 mo = some (100, .inr (5, [.int 1, .int lm, .int sm, .int 0, .ref there, .ref mrow, .int 0, .ref found, .ref fsz, .ref ends, .ref made, .int 0, .int 0, .ref drops, .int 0])) := hf_mo'
    have hF8 : gw_fr (gw_out [100]) M M5 := gw_fr.tr gw_fr.rf (gw_fr.wk hfr7 (by decide))
    refine lv_if_eq (tgt := 22) hx hb d_Mo_end_17 (by decide) (fun c17 => ?_) (fun c17 => ?_)
    · exact absurd c17 (by decide)
    · refine lv_iconst (v := 0) hx hb d_Mo_end_20 (by decide) ?_
      exact gw_iret hx hb hr hlocks hS hW (Nat.le_of_ble_eq_true rfl) (Nat.le_of_ble_eq_true rfl) d_Mo_end_21 (⟨rfl, hf_mo, hF8⟩)

set_option maxHeartbeats 4000000 in
set_option maxRecDepth 100000 in
theorem m_restart (l : Launch) (G : gw_G) (M : gw_M) (mo : Nat) (there : Nat) (mrow : Nat) (found : Nat) (fsz : Nat) (ends : Nat) (made : Nat) (drops : Nat) (cd : Int32) (lm : Int32) (sm : Int32) (k : Int32) (n : Int32) (hf_mo : M mo = some (100, .inr (5, [.int cd, .int lm, .int sm, .int 0, .ref there, .ref mrow, .int 0, .ref found, .ref fsz, .ref ends, .ref made, .int 0, .int 0, .ref drops, .int 0]))) : Met l y_Mo_restart [.code y_Mo_restart b_Mo_restart 6 (some .int)] ({ frames := 1, cells := 0, slots := 0, locals := 21 }) (gw_Pc G M [.ref mo, .int k, .int n]) (gw_Qi G (fun r M2 => 0 = r ∧ M2 mo = some (100, .inr (5, [.int 1, .int lm, .int sm, .int 0, .ref there, .ref mrow, .int 0, .ref found, .ref fsz, .ref ends, .ref made, .int 0, .int 0, .ref drops, .int 0])) ∧ gw_fr (gw_out [100]) M M2)) 0 0 (gw_A G) := by
  refine gw_start (by decide) (Nat.le_of_ble_eq_true rfl) (fun p9 e9 s m b9 mt9 c9 hx hb hr hml hown hlocks hin hE hB hW ls hl => ?_)
  have hts := hE.ts ([.ref mo, .int k, .int n] : List Value).toArray
  have hl : lv_has ls 6 [(0, .ref mo), (1, .int k), (2, .int n)] := hl
  have hS : va_S (gw_A G) s.heap s.heap [] := va_S.rf
  have hown : s.vm.findClass "GenerationsModel" = some m.cls := hown
  refine lv_aload_n hx hb d_Mo_restart_0 rfl (lv_at hl 0 rfl) ?_
  refine lv_aload_n hx hb d_Mo_restart_1 rfl (lv_at hl 0 rfl) ?_
  refine lv_iload_n hx hb d_Mo_restart_2 rfl (lv_at hl 1 rfl) ?_
  refine gw_calli hS (va_runV (As := [.int k]) (rest := [.ref mo]) ⟨hx, hb, hml, hown, hts⟩ (m_isJob l G M mo there mrow found fsz ends made drops cd lm sm k hf_mo ) (cwV 1 hts (gw_gv mw196 mw197 mw198 mw169 mw195) rfl rfl rfl (by decide +kernel) ⟨Nat.le_of_ble_eq_true rfl, Nat.le_of_ble_eq_true rfl⟩) (gw_pv hE hB hS hW rfl hf_mo) rfl rfl hl.1 rfl (lv_room (Nat.le_of_ble_eq_true rfl)) d_Mo_restart_3 ⟨Nat.le_of_ble_eq_true rfl, Nat.le_of_ble_eq_true rfl⟩) (fun r1 M2 H locs hw3 hW hS => ?_)
  obtain ⟨rfl, rfl⟩ := hw3
  refine lv_if_ne (tgt := 13) hx hb d_Mo_restart_6 (by decide) (fun c6 => ?_) (fun c6 => ?_)
  · exact absurd c6 (by decide)
  · refine lv_iconst (v := 1) hx hb d_Mo_restart_9 (by decide) ?_
    refine lv_goto (tgt := 14) hx hb d_Mo_restart_10 (by decide) ?_
    refine gw_calli hS (va_runV (As := [.int 1]) (rest := []) ⟨hx, hb, hml, hown, hts⟩ (m_fails l G M mo there mrow found fsz ends made drops cd lm sm hf_mo ) (cwV 1 hts (gw_gv mw200 mw201 mw202 mw169 mw199) rfl rfl rfl (by decide +kernel) ⟨Nat.le_of_ble_eq_true rfl, Nat.le_of_ble_eq_true rfl⟩) (gw_pv hE hB hS hW rfl hf_mo) rfl rfl hl.1 rfl (lv_room (Nat.le_of_ble_eq_true rfl)) d_Mo_restart_14 ⟨Nat.le_of_ble_eq_true rfl, Nat.le_of_ble_eq_true rfl⟩) (fun r4 M5 H locs hw6 hW hS => ?_)
    obtain ⟨rfl, hf_mo', hfr7⟩ := hw6
    have hf_mo : M5 mo = some (100, .inr (5, [.int 1, .int lm, .int sm, .int 0, .ref there, .ref mrow, .int 0, .ref found, .ref fsz, .ref ends, .ref made, .int 0, .int 0, .ref drops, .int 0])) := hf_mo'
    have hF8 : gw_fr (gw_out [100]) M M5 := gw_fr.tr gw_fr.rf (gw_fr.wk hfr7 (by decide))
    refine lv_if_eq (tgt := 22) hx hb d_Mo_restart_17 (by decide) (fun c17 => ?_) (fun c17 => ?_)
    · exact absurd c17 (by decide)
    · refine lv_iconst (v := 0) hx hb d_Mo_restart_20 (by decide) ?_
      exact gw_iret hx hb hr hlocks hS hW (Nat.le_of_ble_eq_true rfl) (Nat.le_of_ble_eq_true rfl) d_Mo_restart_21 (⟨rfl, hf_mo, hF8⟩)

set_option maxHeartbeats 4000000 in
set_option maxRecDepth 100000 in
theorem m_dropped (l : Launch) (G : gw_G) (M : gw_M) (mo : Nat) (there : Nat) (mrow : Nat) (found : Nat) (fsz : Nat) (ends : Nat) (made : Nat) (drops : Nat) (cd : Int32) (lm : Int32) (sm : Int32) (k : Int32) (hf_mo : M mo = some (100, .inr (5, [.int cd, .int lm, .int sm, .int 0, .ref there, .ref mrow, .int 0, .ref found, .ref fsz, .ref ends, .ref made, .int 0, .int 0, .ref drops, .int 0]))) : Met l y_Mo_dropped [.code y_Mo_dropped b_Mo_dropped 2 (some .int)] ({ frames := 0, cells := 0, slots := 0, locals := 0 }) (gw_Pc G M [.ref mo, .int k]) (gw_Qi G (fun r M2 => (-1) = r ∧ gw_fr (gw_out [100]) M M2)) 0 0 (gw_A G) := by
  refine gw_start (by decide) (Nat.le_of_ble_eq_true rfl) (fun p9 e9 s m b9 mt9 c9 hx hb hr hml hown hlocks hin hE hB hW ls hl => ?_)
  have hts := hE.ts ([.ref mo, .int k] : List Value).toArray
  have hl : lv_has ls 2 [(0, .ref mo), (1, .int k)] := hl
  have hS : va_S (gw_A G) s.heap s.heap [] := va_S.rf
  have hown : s.vm.findClass "GenerationsModel" = some m.cls := hown
  refine lv_aload_n hx hb d_Mo_dropped_0 rfl (lv_at hl 0 rfl) ?_
  refine lv_iconst (v := 0) hx hb d_Mo_dropped_1 (by decide) ?_
  refine gw_put (ci := 5) (fs := [.int cd, .int lm, .int sm, .int 0, .ref there, .ref mrow, .int 0, .ref found, .ref fsz, .ref ends, .ref made, .int 0, .int 0, .ref drops, .int 0]) (v := .int 0) (ty := .int) hx hb hts in_Mo t_Mo t_Mo_ok n_Mo hown hE.K hW hS hf_mo rfl 0 (by decide) (hts _ mw164) (fun _ h9 => h9) rfl (by decide +kernel) rfl rfl (Nat.le_of_ble_eq_true rfl) d_Mo_dropped_2 (fun H locs hW hS => ?_)
  have hF1 : gw_fr (gw_out [100]) M (gw_up M mo 100 (.inr (5, [.int 0, .int lm, .int sm, .int 0, .ref there, .ref mrow, .int 0, .ref found, .ref fsz, .ref ends, .ref made, .int 0, .int 0, .ref drops, .int 0]))) := gw_fr.up gw_fr.rf hf_mo (show ¬ ((gw_out [100]) 100) by decide) (show ¬ ((gw_out [100]) 100) by decide)
  obtain ⟨M2, eM2⟩ : ∃ z, z = gw_up M mo 100 (.inr (5, [.int 0, .int lm, .int sm, .int 0, .ref there, .ref mrow, .int 0, .ref found, .ref fsz, .ref ends, .ref made, .int 0, .int 0, .ref drops, .int 0])) := ⟨_, rfl⟩
  replace hW : gw_P G.1 vwCl G.2.2.2 M2 H := by rw [eM2]; exact hW
  have hf_mo : M2 mo = some (100, .inr (5, [.int 0, .int lm, .int sm, .int 0, .ref there, .ref mrow, .int 0, .ref found, .ref fsz, .ref ends, .ref made, .int 0, .int 0, .ref drops, .int 0])) := by rw [eM2]; exact gw_up_self _ _ _ _
  rw [← eM2] at hF1
  refine lv_iload_n hx hb d_Mo_dropped_5 rfl (lv_at hl 1 rfl) ?_
  refine lv_if_lt (tgt := 26) hx hb d_Mo_dropped_6 (by decide) (fun c6 => ?_) (fun c6 => ?_)
  · refine lv_iconst (v := -1) hx hb d_Mo_dropped_26 (by decide) ?_
    exact gw_iret hx hb hr hlocks hS hW (Nat.le_of_ble_eq_true rfl) (Nat.le_of_ble_eq_true rfl) d_Mo_dropped_27 (⟨rfl, hF1⟩)
  · refine lv_iload_n hx hb d_Mo_dropped_9 rfl (lv_at hl 1 rfl) ?_
    refine lv_aload_n hx hb d_Mo_dropped_10 rfl (lv_at hl 0 rfl) ?_
    refine gw_get (ci := 5) (fs := [.int 0, .int lm, .int sm, .int 0, .ref there, .ref mrow, .int 0, .ref found, .ref fsz, .ref ends, .ref made, .int 0, .int 0, .ref drops, .int 0]) hx hb hts in_Mo hown hE.K hW hf_mo rfl 14 (by decide) (hts _ mw203) (fun _ h9 => h9) rfl d_Mo_dropped_11 ?_
    refine lv_icmp_ge (tgt := 26) hx hb d_Mo_dropped_14 (by decide) (fun c14 => ?_) (fun c14 => ?_)
    · refine lv_iconst (v := -1) hx hb d_Mo_dropped_26 (by decide) ?_
      exact gw_iret hx hb hr hlocks hS hW (Nat.le_of_ble_eq_true rfl) (Nat.le_of_ble_eq_true rfl) d_Mo_dropped_27 (⟨rfl, hF1⟩)
    · exact absurd (gx_nn c6) c14

set_option maxHeartbeats 4000000 in
set_option maxRecDepth 100000 in
theorem m_list (l : Launch) (G : gw_G) (M : gw_M) (mo : Nat) (there : Nat) (mrow : Nat) (found : Nat) (fsz : Nat) (ends : Nat) (made : Nat) (drops : Nat) (cd : Int32) (lm : Int32) (sm : Int32) (k : Int32) (hf_mo : M mo = some (100, .inr (5, [.int cd, .int lm, .int sm, .int 0, .ref there, .ref mrow, .int 0, .ref found, .ref fsz, .ref ends, .ref made, .int 0, .int 0, .ref drops, .int 0]))) : Met l y_Mo_list [.code y_Mo_list b_Mo_list 2 (some .int)] ({ frames := 0, cells := 0, slots := 0, locals := 0 }) (gw_Pc G M [.ref mo, .int k]) (gw_Qi G (fun r M2 => (-1) = r ∧ gw_fr (gw_out [100]) M M2)) 0 0 (gw_A G) := by
  refine gw_start (by decide) (Nat.le_of_ble_eq_true rfl) (fun p9 e9 s m b9 mt9 c9 hx hb hr hml hown hlocks hin hE hB hW ls hl => ?_)
  have hts := hE.ts ([.ref mo, .int k] : List Value).toArray
  have hl : lv_has ls 2 [(0, .ref mo), (1, .int k)] := hl
  have hS : va_S (gw_A G) s.heap s.heap [] := va_S.rf
  have hown : s.vm.findClass "GenerationsModel" = some m.cls := hown
  refine lv_aload_n hx hb d_Mo_list_0 rfl (lv_at hl 0 rfl) ?_
  refine lv_iconst (v := 0) hx hb d_Mo_list_1 (by decide) ?_
  refine gw_put (ci := 5) (fs := [.int cd, .int lm, .int sm, .int 0, .ref there, .ref mrow, .int 0, .ref found, .ref fsz, .ref ends, .ref made, .int 0, .int 0, .ref drops, .int 0]) (v := .int 0) (ty := .int) hx hb hts in_Mo t_Mo t_Mo_ok n_Mo hown hE.K hW hS hf_mo rfl 0 (by decide) (hts _ mw164) (fun _ h9 => h9) rfl (by decide +kernel) rfl rfl (Nat.le_of_ble_eq_true rfl) d_Mo_list_2 (fun H locs hW hS => ?_)
  have hF1 : gw_fr (gw_out [100]) M (gw_up M mo 100 (.inr (5, [.int 0, .int lm, .int sm, .int 0, .ref there, .ref mrow, .int 0, .ref found, .ref fsz, .ref ends, .ref made, .int 0, .int 0, .ref drops, .int 0]))) := gw_fr.up gw_fr.rf hf_mo (show ¬ ((gw_out [100]) 100) by decide) (show ¬ ((gw_out [100]) 100) by decide)
  obtain ⟨M2, eM2⟩ : ∃ z, z = gw_up M mo 100 (.inr (5, [.int 0, .int lm, .int sm, .int 0, .ref there, .ref mrow, .int 0, .ref found, .ref fsz, .ref ends, .ref made, .int 0, .int 0, .ref drops, .int 0])) := ⟨_, rfl⟩
  replace hW : gw_P G.1 vwCl G.2.2.2 M2 H := by rw [eM2]; exact hW
  have hf_mo : M2 mo = some (100, .inr (5, [.int 0, .int lm, .int sm, .int 0, .ref there, .ref mrow, .int 0, .ref found, .ref fsz, .ref ends, .ref made, .int 0, .int 0, .ref drops, .int 0])) := by rw [eM2]; exact gw_up_self _ _ _ _
  rw [← eM2] at hF1
  refine lv_iload_n hx hb d_Mo_list_5 rfl (lv_at hl 1 rfl) ?_
  refine lv_if_lt (tgt := 26) hx hb d_Mo_list_6 (by decide) (fun c6 => ?_) (fun c6 => ?_)
  · refine lv_iconst (v := -1) hx hb d_Mo_list_26 (by decide) ?_
    exact gw_iret hx hb hr hlocks hS hW (Nat.le_of_ble_eq_true rfl) (Nat.le_of_ble_eq_true rfl) d_Mo_list_27 (⟨rfl, hF1⟩)
  · refine lv_iload_n hx hb d_Mo_list_9 rfl (lv_at hl 1 rfl) ?_
    refine lv_aload_n hx hb d_Mo_list_10 rfl (lv_at hl 0 rfl) ?_
    refine gw_get (ci := 5) (fs := [.int 0, .int lm, .int sm, .int 0, .ref there, .ref mrow, .int 0, .ref found, .ref fsz, .ref ends, .ref made, .int 0, .int 0, .ref drops, .int 0]) hx hb hts in_Mo hown hE.K hW hf_mo rfl 6 (by decide) (hts _ mw178) (fun _ h9 => h9) rfl d_Mo_list_11 ?_
    refine lv_icmp_ge (tgt := 26) hx hb d_Mo_list_14 (by decide) (fun c14 => ?_) (fun c14 => ?_)
    · refine lv_iconst (v := -1) hx hb d_Mo_list_26 (by decide) ?_
      exact gw_iret hx hb hr hlocks hS hW (Nat.le_of_ble_eq_true rfl) (Nat.le_of_ble_eq_true rfl) d_Mo_list_27 (⟨rfl, hF1⟩)
    · exact absurd (gx_nn c6) c14

set_option maxHeartbeats 4000000 in
set_option maxRecDepth 100000 in
theorem m_reclaim (l : Launch) (G : gw_G) (M : gw_M) (mo : Nat) (there : Nat) (mrow : Nat) (found : Nat) (fsz : Nat) (ends : Nat) (made : Nat) (drops : Nat) (cd : Int32) (lm : Int32) (sm : Int32) (k : Int32) (hf_mo : M mo = some (100, .inr (5, [.int cd, .int lm, .int sm, .int 0, .ref there, .ref mrow, .int 0, .ref found, .ref fsz, .ref ends, .ref made, .int 0, .int 0, .ref drops, .int 0]))) (hf_there : M there = some (101, .inl (G.2.1 0, 10000, .inl (fun _ => 0)))) : Met l y_Mo_reclaim [.code y_Mo_reclaim b_Mo_reclaim 2 (some .int)] ({ frames := 1, cells := 0, slots := 0, locals := 21 }) (gw_Pc G M [.ref mo, .int k]) (gw_Qi G (fun r M2 => 0 = r ∧ gw_fr (gw_out [100]) M M2)) 0 0 (gw_A G) := by
  refine gw_start (by decide) (Nat.le_of_ble_eq_true rfl) (fun p9 e9 s m b9 mt9 c9 hx hb hr hml hown hlocks hin hE hB hW ls hl => ?_)
  have hts := hE.ts ([.ref mo, .int k] : List Value).toArray
  have hl : lv_has ls 2 [(0, .ref mo), (1, .int k)] := hl
  have hS : va_S (gw_A G) s.heap s.heap [] := va_S.rf
  have hown : s.vm.findClass "GenerationsModel" = some m.cls := hown
  refine lv_aload_n hx hb d_Mo_reclaim_0 rfl (lv_at hl 0 rfl) ?_
  refine lv_iconst (v := 0) hx hb d_Mo_reclaim_1 (by decide) ?_
  refine gw_put (ci := 5) (fs := [.int cd, .int lm, .int sm, .int 0, .ref there, .ref mrow, .int 0, .ref found, .ref fsz, .ref ends, .ref made, .int 0, .int 0, .ref drops, .int 0]) (v := .int 0) (ty := .int) hx hb hts in_Mo t_Mo t_Mo_ok n_Mo hown hE.K hW hS hf_mo rfl 0 (by decide) (hts _ mw164) (fun _ h9 => h9) rfl (by decide +kernel) rfl rfl (Nat.le_of_ble_eq_true rfl) d_Mo_reclaim_2 (fun H locs hW hS => ?_)
  have hF1 : gw_fr (gw_out [100]) M (gw_up M mo 100 (.inr (5, [.int 0, .int lm, .int sm, .int 0, .ref there, .ref mrow, .int 0, .ref found, .ref fsz, .ref ends, .ref made, .int 0, .int 0, .ref drops, .int 0]))) := gw_fr.up gw_fr.rf hf_mo (show ¬ ((gw_out [100]) 100) by decide) (show ¬ ((gw_out [100]) 100) by decide)
  obtain ⟨M2, eM2⟩ : ∃ z, z = gw_up M mo 100 (.inr (5, [.int 0, .int lm, .int sm, .int 0, .ref there, .ref mrow, .int 0, .ref found, .ref fsz, .ref ends, .ref made, .int 0, .int 0, .ref drops, .int 0])) := ⟨_, rfl⟩
  replace hW : gw_P G.1 vwCl G.2.2.2 M2 H := by rw [eM2]; exact hW
  have hf_there : M2 there = some (101, .inl (G.2.1 0, 10000, .inl (fun _ => 0))) := by rw [eM2]; exact gw_keep hf_there hf_mo (by decide)
  have hf_mo : M2 mo = some (100, .inr (5, [.int 0, .int lm, .int sm, .int 0, .ref there, .ref mrow, .int 0, .ref found, .ref fsz, .ref ends, .ref made, .int 0, .int 0, .ref drops, .int 0])) := by rw [eM2]; exact gw_up_self _ _ _ _
  rw [← eM2] at hF1
  refine lv_iload_n hx hb d_Mo_reclaim_5 rfl (lv_at hl 1 rfl) ?_
  refine gw_calli hS (va_runS (As := [.int k]) (rest := []) ⟨hx, hb, hml, hown, hts⟩ (m_isNumber l G M2 k  ) (cwS 1 hts (gw_gs mw184 mw185 mw169 mw183) rfl rfl rfl (by decide +kernel) ⟨Nat.le_of_ble_eq_true rfl, Nat.le_of_ble_eq_true rfl⟩) (gw_ps hE hB hS hW) rfl rfl hl.1 rfl (lv_room (Nat.le_of_ble_eq_true rfl)) d_Mo_reclaim_6 ⟨Nat.le_of_ble_eq_true rfl, Nat.le_of_ble_eq_true rfl⟩) (fun r3 M4 H locs hw5 hW hS => ?_)
  obtain ⟨rfl, rfl⟩ := hw5
  refine lv_if_eq (tgt := 21) hx hb d_Mo_reclaim_9 (by decide) (fun c9 => ?_) (fun c9 => ?_)
  · refine lv_iconst (v := 0) hx hb d_Mo_reclaim_21 (by decide) ?_
    exact gw_iret hx hb hr hlocks hS hW (Nat.le_of_ble_eq_true rfl) (Nat.le_of_ble_eq_true rfl) d_Mo_reclaim_22 (⟨rfl, hF1⟩)
  · refine lv_aload_n hx hb d_Mo_reclaim_12 rfl (lv_at hl 0 rfl) ?_
    refine lv_iload_n hx hb d_Mo_reclaim_13 rfl (lv_at hl 1 rfl) ?_
    refine gw_calli hS (va_runV (As := [.int k]) (rest := []) ⟨hx, hb, hml, hown, hts⟩ (m_what l G M2 mo there mrow found fsz ends made drops 0 lm sm k hf_mo hf_there (gx_in c9)) (cwV 1 hts (gw_gv mw187 mw188 mw189 mw169 mw186) rfl rfl rfl (by decide +kernel) ⟨Nat.le_of_ble_eq_true rfl, Nat.le_of_ble_eq_true rfl⟩) (gw_pv hE hB hS hW rfl hf_mo) rfl rfl hl.1 rfl (lv_room (Nat.le_of_ble_eq_true rfl)) d_Mo_reclaim_14 ⟨Nat.le_of_ble_eq_true rfl, Nat.le_of_ble_eq_true rfl⟩) (fun r6 M7 H locs hw8 hW hS => ?_)
    obtain ⟨rfl, rfl⟩ := hw8
    refine lv_iconst (v := 3) hx hb d_Mo_reclaim_17 (by decide) ?_
    refine lv_icmp_ge (tgt := 23) hx hb d_Mo_reclaim_18 (by decide) (fun c18 => ?_) (fun c18 => ?_)
    · exact absurd c18 (by decide)
    · refine lv_iconst (v := 0) hx hb d_Mo_reclaim_21 (by decide) ?_
      exact gw_iret hx hb hr hlocks hS hW (Nat.le_of_ble_eq_true rfl) (Nat.le_of_ble_eq_true rfl) d_Mo_reclaim_22 (⟨rfl, hF1⟩)

set_option maxHeartbeats 4000000 in
set_option maxRecDepth 100000 in
theorem m_empty (l : Launch) (G : gw_G) (M : gw_M) (mo : Nat) (there : Nat) (mrow : Nat) (found : Nat) (fsz : Nat) (ends : Nat) (made : Nat) (drops : Nat) (cd : Int32) (lm : Int32) (sm : Int32) (on : Int32) (hf_mo : M mo = some (100, .inr (5, [.int cd, .int lm, .int sm, .int 0, .ref there, .ref mrow, .int 0, .ref found, .ref fsz, .ref ends, .ref made, .int 0, .int 0, .ref drops, .int 0]))) (hn_z : narrow .boolean (.int on) = .int on) (hf_z : fits .boolean (.int on) = true) : Met l y_Mo_empty [.code y_Mo_empty b_Mo_empty 3 (some .int)] ({ frames := 0, cells := 0, slots := 0, locals := 0 }) (gw_Pc G M [.ref mo, .int on]) (gw_Qi G (fun r M2 => 0 = r ∧ gw_fr (gw_out [100]) M M2)) 0 0 (gw_A G) := by
  refine gw_start (by decide) (Nat.le_of_ble_eq_true rfl) (fun p9 e9 s m b9 mt9 c9 hx hb hr hml hown hlocks hin hE hB hW ls hl => ?_)
  have hts := hE.ts ([.ref mo, .int on] : List Value).toArray
  have hl : lv_has ls 3 [(0, .ref mo), (1, .int on)] := hl
  have hS : va_S (gw_A G) s.heap s.heap [] := va_S.rf
  have hown : s.vm.findClass "GenerationsModel" = some m.cls := hown
  refine lv_aload_n hx hb d_Mo_empty_0 rfl (lv_at hl 0 rfl) ?_
  refine lv_iconst (v := 0) hx hb d_Mo_empty_1 (by decide) ?_
  refine gw_put (ci := 5) (fs := [.int cd, .int lm, .int sm, .int 0, .ref there, .ref mrow, .int 0, .ref found, .ref fsz, .ref ends, .ref made, .int 0, .int 0, .ref drops, .int 0]) (v := .int 0) (ty := .int) hx hb hts in_Mo t_Mo t_Mo_ok n_Mo hown hE.K hW hS hf_mo rfl 0 (by decide) (hts _ mw164) (fun _ h9 => h9) rfl (by decide +kernel) rfl rfl (Nat.le_of_ble_eq_true rfl) d_Mo_empty_2 (fun H locs hW hS => ?_)
  have hF1 : gw_fr (gw_out [100]) M (gw_up M mo 100 (.inr (5, [.int 0, .int lm, .int sm, .int 0, .ref there, .ref mrow, .int 0, .ref found, .ref fsz, .ref ends, .ref made, .int 0, .int 0, .ref drops, .int 0]))) := gw_fr.up gw_fr.rf hf_mo (show ¬ ((gw_out [100]) 100) by decide) (show ¬ ((gw_out [100]) 100) by decide)
  obtain ⟨M2, eM2⟩ : ∃ z, z = gw_up M mo 100 (.inr (5, [.int 0, .int lm, .int sm, .int 0, .ref there, .ref mrow, .int 0, .ref found, .ref fsz, .ref ends, .ref made, .int 0, .int 0, .ref drops, .int 0])) := ⟨_, rfl⟩
  replace hW : gw_P G.1 vwCl G.2.2.2 M2 H := by rw [eM2]; exact hW
  have hf_mo : M2 mo = some (100, .inr (5, [.int 0, .int lm, .int sm, .int 0, .ref there, .ref mrow, .int 0, .ref found, .ref fsz, .ref ends, .ref made, .int 0, .int 0, .ref drops, .int 0])) := by rw [eM2]; exact gw_up_self _ _ _ _
  rw [← eM2] at hF1
  refine lv_aload_n hx hb d_Mo_empty_5 rfl (lv_at hl 0 rfl) ?_
  refine gw_get (ci := 5) (fs := [.int 0, .int lm, .int sm, .int 0, .ref there, .ref mrow, .int 0, .ref found, .ref fsz, .ref ends, .ref made, .int 0, .int 0, .ref drops, .int 0]) hx hb hts in_Mo hown hE.K hW hf_mo rfl 3 (by decide) (hts _ mw204) (fun _ h9 => h9) rfl d_Mo_empty_6 ?_
  refine lv_if_eq (tgt := 16) hx hb d_Mo_empty_9 (by decide) (fun c9 => ?_) (fun c9 => ?_)
  · refine lv_iconst (v := 0) hx hb d_Mo_empty_16 (by decide) ?_
    refine lv_istore_n (lv' := [(2, .int 0), (0, .ref mo), (1, .int on)]) hx hb d_Mo_empty_17 rfl hl (by decide) rfl (fun ls hl => ?_)
    refine lv_aload_n hx hb d_Mo_empty_18 rfl (lv_at hl 1 rfl) ?_
    refine lv_iload_n hx hb d_Mo_empty_19 rfl (lv_at hl 2 rfl) ?_
    refine gw_put (ci := 5) (fs := [.int 0, .int lm, .int sm, .int 0, .ref there, .ref mrow, .int 0, .ref found, .ref fsz, .ref ends, .ref made, .int 0, .int 0, .ref drops, .int 0]) (v := .int on) (ty := .boolean) hx hb hts in_Mo t_Mo t_Mo_ok n_Mo hown hE.K hW hS hf_mo rfl 3 (by decide) (hts _ mw204) (fun _ h9 => h9) rfl (by decide +kernel) hn_z hf_z (Nat.le_of_ble_eq_true rfl) d_Mo_empty_20 (fun H locs hW hS => ?_)
    have hF3 : gw_fr (gw_out [100]) M (gw_up M2 mo 100 (.inr (5, [.int 0, .int lm, .int sm, .int on, .ref there, .ref mrow, .int 0, .ref found, .ref fsz, .ref ends, .ref made, .int 0, .int 0, .ref drops, .int 0]))) := gw_fr.up hF1 hf_mo (show ¬ ((gw_out [100]) 100) by decide) (show ¬ ((gw_out [100]) 100) by decide)
    obtain ⟨M4, eM4⟩ : ∃ z, z = gw_up M2 mo 100 (.inr (5, [.int 0, .int lm, .int sm, .int on, .ref there, .ref mrow, .int 0, .ref found, .ref fsz, .ref ends, .ref made, .int 0, .int 0, .ref drops, .int 0])) := ⟨_, rfl⟩
    replace hW : gw_P G.1 vwCl G.2.2.2 M4 H := by rw [eM4]; exact hW
    have hf_mo : M4 mo = some (100, .inr (5, [.int 0, .int lm, .int sm, .int on, .ref there, .ref mrow, .int 0, .ref found, .ref fsz, .ref ends, .ref made, .int 0, .int 0, .ref drops, .int 0])) := by rw [eM4]; exact gw_up_self _ _ _ _
    rw [← eM4] at hF3
    refine lv_iload_n hx hb d_Mo_empty_23 rfl (lv_at hl 0 rfl) ?_
    exact gw_iret hx hb hr hlocks hS hW (Nat.le_of_ble_eq_true rfl) (Nat.le_of_ble_eq_true rfl) d_Mo_empty_24 (⟨rfl, hF3⟩)
  · exact absurd c9 (by decide)

set_option maxHeartbeats 4000000 in
set_option maxRecDepth 100000 in
theorem m_version (l : Launch) (G : gw_G) (M : gw_M) (mo : Nat) (there : Nat) (mrow : Nat) (found : Nat) (fsz : Nat) (ends : Nat) (made : Nat) (drops : Nat) (cd : Int32) (lm : Int32) (sm : Int32) (k : Int32) (hf_mo : M mo = some (100, .inr (5, [.int cd, .int lm, .int sm, .int 0, .ref there, .ref mrow, .int 0, .ref found, .ref fsz, .ref ends, .ref made, .int 0, .int 0, .ref drops, .int 0]))) (hf_there : M there = some (101, .inl (G.2.1 0, 10000, .inl (fun _ => 0)))) : Met l y_Mo_version [.code y_Mo_version b_Mo_version 2 (some .int)] ({ frames := 1, cells := 0, slots := 0, locals := 21 }) (gw_Pc G M [.ref mo, .int k]) (gw_Qi G (fun r M2 => (-1) = r ∧ gw_fr (gw_out [100]) M M2)) 0 0 (gw_A G) := by
  refine gw_start (by decide) (Nat.le_of_ble_eq_true rfl) (fun p9 e9 s m b9 mt9 c9 hx hb hr hml hown hlocks hin hE hB hW ls hl => ?_)
  have hts := hE.ts ([.ref mo, .int k] : List Value).toArray
  have hl : lv_has ls 2 [(0, .ref mo), (1, .int k)] := hl
  have hS : va_S (gw_A G) s.heap s.heap [] := va_S.rf
  have hown : s.vm.findClass "GenerationsModel" = some m.cls := hown
  refine lv_aload_n hx hb d_Mo_version_0 rfl (lv_at hl 0 rfl) ?_
  refine lv_iconst (v := 0) hx hb d_Mo_version_1 (by decide) ?_
  refine gw_put (ci := 5) (fs := [.int cd, .int lm, .int sm, .int 0, .ref there, .ref mrow, .int 0, .ref found, .ref fsz, .ref ends, .ref made, .int 0, .int 0, .ref drops, .int 0]) (v := .int 0) (ty := .int) hx hb hts in_Mo t_Mo t_Mo_ok n_Mo hown hE.K hW hS hf_mo rfl 0 (by decide) (hts _ mw164) (fun _ h9 => h9) rfl (by decide +kernel) rfl rfl (Nat.le_of_ble_eq_true rfl) d_Mo_version_2 (fun H locs hW hS => ?_)
  have hF1 : gw_fr (gw_out [100]) M (gw_up M mo 100 (.inr (5, [.int 0, .int lm, .int sm, .int 0, .ref there, .ref mrow, .int 0, .ref found, .ref fsz, .ref ends, .ref made, .int 0, .int 0, .ref drops, .int 0]))) := gw_fr.up gw_fr.rf hf_mo (show ¬ ((gw_out [100]) 100) by decide) (show ¬ ((gw_out [100]) 100) by decide)
  obtain ⟨M2, eM2⟩ : ∃ z, z = gw_up M mo 100 (.inr (5, [.int 0, .int lm, .int sm, .int 0, .ref there, .ref mrow, .int 0, .ref found, .ref fsz, .ref ends, .ref made, .int 0, .int 0, .ref drops, .int 0])) := ⟨_, rfl⟩
  replace hW : gw_P G.1 vwCl G.2.2.2 M2 H := by rw [eM2]; exact hW
  have hf_there : M2 there = some (101, .inl (G.2.1 0, 10000, .inl (fun _ => 0))) := by rw [eM2]; exact gw_keep hf_there hf_mo (by decide)
  have hf_mo : M2 mo = some (100, .inr (5, [.int 0, .int lm, .int sm, .int 0, .ref there, .ref mrow, .int 0, .ref found, .ref fsz, .ref ends, .ref made, .int 0, .int 0, .ref drops, .int 0])) := by rw [eM2]; exact gw_up_self _ _ _ _
  rw [← eM2] at hF1
  refine lv_iload_n hx hb d_Mo_version_5 rfl (lv_at hl 1 rfl) ?_
  refine gw_calli hS (va_runS (As := [.int k]) (rest := []) ⟨hx, hb, hml, hown, hts⟩ (m_isNumber l G M2 k  ) (cwS 1 hts (gw_gs mw184 mw185 mw169 mw183) rfl rfl rfl (by decide +kernel) ⟨Nat.le_of_ble_eq_true rfl, Nat.le_of_ble_eq_true rfl⟩) (gw_ps hE hB hS hW) rfl rfl hl.1 rfl (lv_room (Nat.le_of_ble_eq_true rfl)) d_Mo_version_6 ⟨Nat.le_of_ble_eq_true rfl, Nat.le_of_ble_eq_true rfl⟩) (fun r3 M4 H locs hw5 hW hS => ?_)
  obtain ⟨rfl, rfl⟩ := hw5
  refine lv_if_eq (tgt := 28) hx hb d_Mo_version_9 (by decide) (fun c9 => ?_) (fun c9 => ?_)
  · refine lv_iconst (v := -1) hx hb d_Mo_version_28 (by decide) ?_
    exact gw_iret hx hb hr hlocks hS hW (Nat.le_of_ble_eq_true rfl) (Nat.le_of_ble_eq_true rfl) d_Mo_version_29 (⟨rfl, hF1⟩)
  · refine lv_aload_n hx hb d_Mo_version_12 rfl (lv_at hl 0 rfl) ?_
    refine lv_iload_n hx hb d_Mo_version_13 rfl (lv_at hl 1 rfl) ?_
    refine gw_calli hS (va_runV (As := [.int k]) (rest := []) ⟨hx, hb, hml, hown, hts⟩ (m_what l G M2 mo there mrow found fsz ends made drops 0 lm sm k hf_mo hf_there (gx_in c9)) (cwV 1 hts (gw_gv mw187 mw188 mw189 mw169 mw186) rfl rfl rfl (by decide +kernel) ⟨Nat.le_of_ble_eq_true rfl, Nat.le_of_ble_eq_true rfl⟩) (gw_pv hE hB hS hW rfl hf_mo) rfl rfl hl.1 rfl (lv_room (Nat.le_of_ble_eq_true rfl)) d_Mo_version_14 ⟨Nat.le_of_ble_eq_true rfl, Nat.le_of_ble_eq_true rfl⟩) (fun r6 M7 H locs hw8 hW hS => ?_)
    obtain ⟨rfl, rfl⟩ := hw8
    refine lv_if_eq (tgt := 28) hx hb d_Mo_version_17 (by decide) (fun c17 => ?_) (fun c17 => ?_)
    · refine lv_iconst (v := -1) hx hb d_Mo_version_28 (by decide) ?_
      exact gw_iret hx hb hr hlocks hS hW (Nat.le_of_ble_eq_true rfl) (Nat.le_of_ble_eq_true rfl) d_Mo_version_29 (⟨rfl, hF1⟩)
    · exact absurd c17 (by decide)

set_option maxHeartbeats 4000000 in
set_option maxRecDepth 100000 in
theorem m_state (l : Launch) (G : gw_G) (M : gw_M) (mo : Nat) (there : Nat) (mrow : Nat) (found : Nat) (fsz : Nat) (ends : Nat) (made : Nat) (drops : Nat) (cd : Int32) (lm : Int32) (sm : Int32) (k : Int32) (hf_mo : M mo = some (100, .inr (5, [.int cd, .int lm, .int sm, .int 0, .ref there, .ref mrow, .int 0, .ref found, .ref fsz, .ref ends, .ref made, .int 0, .int 0, .ref drops, .int 0]))) (hf_there : M there = some (101, .inl (G.2.1 0, 10000, .inl (fun _ => 0)))) : Met l y_Mo_state [.code y_Mo_state b_Mo_state 2 (some .int)] ({ frames := 1, cells := 0, slots := 0, locals := 21 }) (gw_Pc G M [.ref mo, .int k]) (gw_Qi G (fun r M2 => gx_st k = r ∧ gw_fr (gw_out [100]) M M2)) 0 0 (gw_A G) := by
  refine gw_start (by decide) (Nat.le_of_ble_eq_true rfl) (fun p9 e9 s m b9 mt9 c9 hx hb hr hml hown hlocks hin hE hB hW ls hl => ?_)
  have hts := hE.ts ([.ref mo, .int k] : List Value).toArray
  have hl : lv_has ls 2 [(0, .ref mo), (1, .int k)] := hl
  have hS : va_S (gw_A G) s.heap s.heap [] := va_S.rf
  have hown : s.vm.findClass "GenerationsModel" = some m.cls := hown
  refine lv_aload_n hx hb d_Mo_state_0 rfl (lv_at hl 0 rfl) ?_
  refine lv_iconst (v := 0) hx hb d_Mo_state_1 (by decide) ?_
  refine gw_put (ci := 5) (fs := [.int cd, .int lm, .int sm, .int 0, .ref there, .ref mrow, .int 0, .ref found, .ref fsz, .ref ends, .ref made, .int 0, .int 0, .ref drops, .int 0]) (v := .int 0) (ty := .int) hx hb hts in_Mo t_Mo t_Mo_ok n_Mo hown hE.K hW hS hf_mo rfl 0 (by decide) (hts _ mw164) (fun _ h9 => h9) rfl (by decide +kernel) rfl rfl (Nat.le_of_ble_eq_true rfl) d_Mo_state_2 (fun H locs hW hS => ?_)
  have hF1 : gw_fr (gw_out [100]) M (gw_up M mo 100 (.inr (5, [.int 0, .int lm, .int sm, .int 0, .ref there, .ref mrow, .int 0, .ref found, .ref fsz, .ref ends, .ref made, .int 0, .int 0, .ref drops, .int 0]))) := gw_fr.up gw_fr.rf hf_mo (show ¬ ((gw_out [100]) 100) by decide) (show ¬ ((gw_out [100]) 100) by decide)
  obtain ⟨M2, eM2⟩ : ∃ z, z = gw_up M mo 100 (.inr (5, [.int 0, .int lm, .int sm, .int 0, .ref there, .ref mrow, .int 0, .ref found, .ref fsz, .ref ends, .ref made, .int 0, .int 0, .ref drops, .int 0])) := ⟨_, rfl⟩
  replace hW : gw_P G.1 vwCl G.2.2.2 M2 H := by rw [eM2]; exact hW
  have hf_there : M2 there = some (101, .inl (G.2.1 0, 10000, .inl (fun _ => 0))) := by rw [eM2]; exact gw_keep hf_there hf_mo (by decide)
  have hf_mo : M2 mo = some (100, .inr (5, [.int 0, .int lm, .int sm, .int 0, .ref there, .ref mrow, .int 0, .ref found, .ref fsz, .ref ends, .ref made, .int 0, .int 0, .ref drops, .int 0])) := by rw [eM2]; exact gw_up_self _ _ _ _
  rw [← eM2] at hF1
  refine lv_iload_n hx hb d_Mo_state_5 rfl (lv_at hl 1 rfl) ?_
  refine gw_calli hS (va_runS (As := [.int k]) (rest := []) ⟨hx, hb, hml, hown, hts⟩ (m_isNumber l G M2 k  ) (cwS 1 hts (gw_gs mw184 mw185 mw169 mw183) rfl rfl rfl (by decide +kernel) ⟨Nat.le_of_ble_eq_true rfl, Nat.le_of_ble_eq_true rfl⟩) (gw_ps hE hB hS hW) rfl rfl hl.1 rfl (lv_room (Nat.le_of_ble_eq_true rfl)) d_Mo_state_6 ⟨Nat.le_of_ble_eq_true rfl, Nat.le_of_ble_eq_true rfl⟩) (fun r3 M4 H locs hw5 hW hS => ?_)
  obtain ⟨rfl, rfl⟩ := hw5
  refine lv_if_eq (tgt := 20) hx hb d_Mo_state_9 (by decide) (fun c9 => ?_) (fun c9 => ?_)
  · refine lv_iconst (v := -1) hx hb d_Mo_state_20 (by decide) ?_
    exact gw_iret hx hb hr hlocks hS hW (Nat.le_of_ble_eq_true rfl) (Nat.le_of_ble_eq_true rfl) d_Mo_state_21 (⟨(gx_st0 c9), hF1⟩)
  · refine lv_aload_n hx hb d_Mo_state_12 rfl (lv_at hl 0 rfl) ?_
    refine lv_iload_n hx hb d_Mo_state_13 rfl (lv_at hl 1 rfl) ?_
    refine gw_calli hS (va_runV (As := [.int k]) (rest := []) ⟨hx, hb, hml, hown, hts⟩ (m_what l G M2 mo there mrow found fsz ends made drops 0 lm sm k hf_mo hf_there (gx_in c9)) (cwV 1 hts (gw_gv mw187 mw188 mw189 mw169 mw186) rfl rfl rfl (by decide +kernel) ⟨Nat.le_of_ble_eq_true rfl, Nat.le_of_ble_eq_true rfl⟩) (gw_pv hE hB hS hW rfl hf_mo) rfl rfl hl.1 rfl (lv_room (Nat.le_of_ble_eq_true rfl)) d_Mo_state_14 ⟨Nat.le_of_ble_eq_true rfl, Nat.le_of_ble_eq_true rfl⟩) (fun r6 M7 H locs hw8 hW hS => ?_)
    obtain ⟨rfl, rfl⟩ := hw8
    refine lv_goto (tgt := 21) hx hb d_Mo_state_17 (by decide) ?_
    exact gw_iret hx hb hr hlocks hS hW (Nat.le_of_ble_eq_true rfl) (Nat.le_of_ble_eq_true rfl) d_Mo_state_21 (⟨(gx_st1 c9), hF1⟩)

set_option maxHeartbeats 4000000 in
set_option maxRecDepth 100000 in
theorem m_count (l : Launch) (G : gw_G) (M : gw_M) (mo : Nat) (there : Nat) (mrow : Nat) (found : Nat) (fsz : Nat) (ends : Nat) (made : Nat) (drops : Nat) (cd : Int32) (lm : Int32) (sm : Int32) (k : Int32) (hf_mo : M mo = some (100, .inr (5, [.int cd, .int lm, .int sm, .int 0, .ref there, .ref mrow, .int 0, .ref found, .ref fsz, .ref ends, .ref made, .int 0, .int 0, .ref drops, .int 0]))) (hf_there : M there = some (101, .inl (G.2.1 0, 10000, .inl (fun _ => 0)))) : Met l y_Mo_count [.code y_Mo_count b_Mo_count 4 (some .int)] ({ frames := 1, cells := 0, slots := 0, locals := 21 }) (gw_Pc G M [.ref mo, .int k]) (gw_Qi G (fun r M2 => gx_cnt k = r ∧ gw_fr (gw_out [100]) M M2)) 0 0 (gw_A G) := by
  refine gw_start (by decide) (Nat.le_of_ble_eq_true rfl) (fun p9 e9 s m b9 mt9 c9 hx hb hr hml hown hlocks hin hE hB hW ls hl => ?_)
  have hts := hE.ts ([.ref mo, .int k] : List Value).toArray
  have hl : lv_has ls 4 [(0, .ref mo), (1, .int k)] := hl
  have hS : va_S (gw_A G) s.heap s.heap [] := va_S.rf
  have hown : s.vm.findClass "GenerationsModel" = some m.cls := hown
  refine lv_aload_n hx hb d_Mo_count_0 rfl (lv_at hl 0 rfl) ?_
  refine lv_iconst (v := 0) hx hb d_Mo_count_1 (by decide) ?_
  refine gw_put (ci := 5) (fs := [.int cd, .int lm, .int sm, .int 0, .ref there, .ref mrow, .int 0, .ref found, .ref fsz, .ref ends, .ref made, .int 0, .int 0, .ref drops, .int 0]) (v := .int 0) (ty := .int) hx hb hts in_Mo t_Mo t_Mo_ok n_Mo hown hE.K hW hS hf_mo rfl 0 (by decide) (hts _ mw164) (fun _ h9 => h9) rfl (by decide +kernel) rfl rfl (Nat.le_of_ble_eq_true rfl) d_Mo_count_2 (fun H locs hW hS => ?_)
  have hF1 : gw_fr (gw_out [100]) M (gw_up M mo 100 (.inr (5, [.int 0, .int lm, .int sm, .int 0, .ref there, .ref mrow, .int 0, .ref found, .ref fsz, .ref ends, .ref made, .int 0, .int 0, .ref drops, .int 0]))) := gw_fr.up gw_fr.rf hf_mo (show ¬ ((gw_out [100]) 100) by decide) (show ¬ ((gw_out [100]) 100) by decide)
  obtain ⟨M2, eM2⟩ : ∃ z, z = gw_up M mo 100 (.inr (5, [.int 0, .int lm, .int sm, .int 0, .ref there, .ref mrow, .int 0, .ref found, .ref fsz, .ref ends, .ref made, .int 0, .int 0, .ref drops, .int 0])) := ⟨_, rfl⟩
  replace hW : gw_P G.1 vwCl G.2.2.2 M2 H := by rw [eM2]; exact hW
  have hf_there : M2 there = some (101, .inl (G.2.1 0, 10000, .inl (fun _ => 0))) := by rw [eM2]; exact gw_keep hf_there hf_mo (by decide)
  have hf_mo : M2 mo = some (100, .inr (5, [.int 0, .int lm, .int sm, .int 0, .ref there, .ref mrow, .int 0, .ref found, .ref fsz, .ref ends, .ref made, .int 0, .int 0, .ref drops, .int 0])) := by rw [eM2]; exact gw_up_self _ _ _ _
  rw [← eM2] at hF1
  refine lv_iconst (v := 0) hx hb d_Mo_count_5 (by decide) ?_
  refine lv_istore_n (lv' := [(2, .int 0), (0, .ref mo), (1, .int k)]) hx hb d_Mo_count_6 rfl hl (by decide) rfl (fun ls hl => ?_)
  refine lv_iconst (v := 1) hx hb d_Mo_count_7 (by decide) ?_
  refine lv_istore_n (lv' := [(3, .int 1), (2, .int 0), (0, .ref mo), (1, .int k)]) hx hb d_Mo_count_8 rfl hl (by decide) rfl (fun ls hl => ?_)
  obtain ⟨k9, ek9⟩ : ∃ z : Nat, z = 1 := ⟨1, rfl⟩
  replace hl : lv_has ls 4 [(3, .int (nI k9)), (2, .int 0), (0, .ref mo), (1, .int k)] := by subst ek9; exact hl
  have hk9 : 1 ≤ k9 ∧ k9 ≤ 10000 := by omega
  clear ek9
  obtain ⟨n9, hn9⟩ : ∃ z : Nat, 10000 - k9 < z := ⟨_, Nat.lt_succ_self _⟩
  induction n9 generalizing k9 ls H locs with
  | zero => exact absurd hn9 (Nat.not_lt_zero _)
  | succ n9 ih =>
    refine lv_iload_n hx hb d_Mo_count_9 rfl (lv_at hl 0 rfl) ?_
    refine lv_sipush (v := 9999) hx hb d_Mo_count_10 (by decide) ?_
    refine lv_icmp_gt (tgt := 79) hx hb d_Mo_count_13 (by decide) (fun c13 => ?_) (fun c13 => ?_)
    · refine lv_iload_n hx hb d_Mo_count_79 rfl (lv_at hl 3 rfl) ?_
      rcases gx_sw5 k with h9 | h9 | h9 | h9 | h9 | h9 | h9
      · refine lv_tableOut (tgt := 142) hx hb d_Mo_count_80 h9 (by decide) ?_
        refine lv_iconst (v := -1) hx hb d_Mo_count_142 (by decide) ?_
        exact gw_iret hx hb hr hlocks hS hW (Nat.le_of_ble_eq_true rfl) (Nat.le_of_ble_eq_true rfl) d_Mo_count_143 (⟨(gx_cntO h9), hF1⟩)
      · refine lv_tableIn (tgt := 120) hx hb d_Mo_count_80 (by rw [h9]; decide) (by rw [h9]; decide) (by rw [h9]; rfl) (by decide) ?_
        refine lv_aload_n hx hb d_Mo_count_120 rfl (lv_at hl 2 rfl) ?_
        refine gw_get (ci := 5) (fs := [.int 0, .int lm, .int sm, .int 0, .ref there, .ref mrow, .int 0, .ref found, .ref fsz, .ref ends, .ref made, .int 0, .int 0, .ref drops, .int 0]) hx hb hts in_Mo hown hE.K hW hf_mo rfl 6 (by decide) (hts _ mw178) (fun _ h9 => h9) rfl d_Mo_count_121 ?_
        exact gw_iret hx hb hr hlocks hS hW (Nat.le_of_ble_eq_true rfl) (Nat.le_of_ble_eq_true rfl) d_Mo_count_124 (⟨(by rw [h9]; decide), hF1⟩)
      · refine lv_tableIn (tgt := 125) hx hb d_Mo_count_80 (by rw [h9]; decide) (by rw [h9]; decide) (by rw [h9]; rfl) (by decide) ?_
        refine lv_iload_n hx hb d_Mo_count_125 rfl (lv_at hl 1 rfl) ?_
        exact gw_iret hx hb hr hlocks hS hW (Nat.le_of_ble_eq_true rfl) (Nat.le_of_ble_eq_true rfl) d_Mo_count_126 (⟨(by rw [h9]; decide), hF1⟩)
      · refine lv_tableIn (tgt := 125) hx hb d_Mo_count_80 (by rw [h9]; decide) (by rw [h9]; decide) (by rw [h9]; rfl) (by decide) ?_
        refine lv_iload_n hx hb d_Mo_count_125 rfl (lv_at hl 1 rfl) ?_
        exact gw_iret hx hb hr hlocks hS hW (Nat.le_of_ble_eq_true rfl) (Nat.le_of_ble_eq_true rfl) d_Mo_count_126 (⟨(by rw [h9]; decide), hF1⟩)
      · refine lv_tableIn (tgt := 127) hx hb d_Mo_count_80 (by rw [h9]; decide) (by rw [h9]; decide) (by rw [h9]; rfl) (by decide) ?_
        refine lv_aload_n hx hb d_Mo_count_127 rfl (lv_at hl 2 rfl) ?_
        refine gw_get (ci := 5) (fs := [.int 0, .int lm, .int sm, .int 0, .ref there, .ref mrow, .int 0, .ref found, .ref fsz, .ref ends, .ref made, .int 0, .int 0, .ref drops, .int 0]) hx hb hts in_Mo hown hE.K hW hf_mo rfl 11 (by decide) (hts _ mw194) (fun _ h9 => h9) rfl d_Mo_count_128 ?_
        exact gw_iret hx hb hr hlocks hS hW (Nat.le_of_ble_eq_true rfl) (Nat.le_of_ble_eq_true rfl) d_Mo_count_131 (⟨(by rw [h9]; decide), hF1⟩)
      · refine lv_tableIn (tgt := 132) hx hb d_Mo_count_80 (by rw [h9]; decide) (by rw [h9]; decide) (by rw [h9]; rfl) (by decide) ?_
        refine lv_aload_n hx hb d_Mo_count_132 rfl (lv_at hl 2 rfl) ?_
        refine gw_get (ci := 5) (fs := [.int 0, .int lm, .int sm, .int 0, .ref there, .ref mrow, .int 0, .ref found, .ref fsz, .ref ends, .ref made, .int 0, .int 0, .ref drops, .int 0]) hx hb hts in_Mo hown hE.K hW hf_mo rfl 12 (by decide) (hts _ mw205) (fun _ h9 => h9) rfl d_Mo_count_133 ?_
        exact gw_iret hx hb hr hlocks hS hW (Nat.le_of_ble_eq_true rfl) (Nat.le_of_ble_eq_true rfl) d_Mo_count_136 (⟨(by rw [h9]; decide), hF1⟩)
      · refine lv_tableIn (tgt := 137) hx hb d_Mo_count_80 (by rw [h9]; decide) (by rw [h9]; decide) (by rw [h9]; rfl) (by decide) ?_
        refine lv_aload_n hx hb d_Mo_count_137 rfl (lv_at hl 2 rfl) ?_
        refine gw_get (ci := 5) (fs := [.int 0, .int lm, .int sm, .int 0, .ref there, .ref mrow, .int 0, .ref found, .ref fsz, .ref ends, .ref made, .int 0, .int 0, .ref drops, .int 0]) hx hb hts in_Mo hown hE.K hW hf_mo rfl 14 (by decide) (hts _ mw203) (fun _ h9 => h9) rfl d_Mo_count_138 ?_
        exact gw_iret hx hb hr hlocks hS hW (Nat.le_of_ble_eq_true rfl) (Nat.le_of_ble_eq_true rfl) d_Mo_count_141 (⟨(by rw [h9]; decide), hF1⟩)
    · refine lv_iload_n hx hb d_Mo_count_16 rfl (lv_at hl 3 rfl) ?_
      refine lv_if_le (tgt := 79) hx hb d_Mo_count_17 (by decide) (fun c17 => ?_) (fun c17 => ?_)
      · refine lv_iload_n hx hb d_Mo_count_79 rfl (lv_at hl 3 rfl) ?_
        rcases gx_sw5 k with h9 | h9 | h9 | h9 | h9 | h9 | h9
        · refine lv_tableOut (tgt := 142) hx hb d_Mo_count_80 h9 (by decide) ?_
          refine lv_iconst (v := -1) hx hb d_Mo_count_142 (by decide) ?_
          exact gw_iret hx hb hr hlocks hS hW (Nat.le_of_ble_eq_true rfl) (Nat.le_of_ble_eq_true rfl) d_Mo_count_143 (⟨(gx_cntO h9), hF1⟩)
        · refine lv_tableIn (tgt := 120) hx hb d_Mo_count_80 (by rw [h9]; decide) (by rw [h9]; decide) (by rw [h9]; rfl) (by decide) ?_
          refine lv_aload_n hx hb d_Mo_count_120 rfl (lv_at hl 2 rfl) ?_
          refine gw_get (ci := 5) (fs := [.int 0, .int lm, .int sm, .int 0, .ref there, .ref mrow, .int 0, .ref found, .ref fsz, .ref ends, .ref made, .int 0, .int 0, .ref drops, .int 0]) hx hb hts in_Mo hown hE.K hW hf_mo rfl 6 (by decide) (hts _ mw178) (fun _ h9 => h9) rfl d_Mo_count_121 ?_
          exact gw_iret hx hb hr hlocks hS hW (Nat.le_of_ble_eq_true rfl) (Nat.le_of_ble_eq_true rfl) d_Mo_count_124 (⟨(by rw [h9]; decide), hF1⟩)
        · refine lv_tableIn (tgt := 125) hx hb d_Mo_count_80 (by rw [h9]; decide) (by rw [h9]; decide) (by rw [h9]; rfl) (by decide) ?_
          refine lv_iload_n hx hb d_Mo_count_125 rfl (lv_at hl 1 rfl) ?_
          exact gw_iret hx hb hr hlocks hS hW (Nat.le_of_ble_eq_true rfl) (Nat.le_of_ble_eq_true rfl) d_Mo_count_126 (⟨(by rw [h9]; decide), hF1⟩)
        · refine lv_tableIn (tgt := 125) hx hb d_Mo_count_80 (by rw [h9]; decide) (by rw [h9]; decide) (by rw [h9]; rfl) (by decide) ?_
          refine lv_iload_n hx hb d_Mo_count_125 rfl (lv_at hl 1 rfl) ?_
          exact gw_iret hx hb hr hlocks hS hW (Nat.le_of_ble_eq_true rfl) (Nat.le_of_ble_eq_true rfl) d_Mo_count_126 (⟨(by rw [h9]; decide), hF1⟩)
        · refine lv_tableIn (tgt := 127) hx hb d_Mo_count_80 (by rw [h9]; decide) (by rw [h9]; decide) (by rw [h9]; rfl) (by decide) ?_
          refine lv_aload_n hx hb d_Mo_count_127 rfl (lv_at hl 2 rfl) ?_
          refine gw_get (ci := 5) (fs := [.int 0, .int lm, .int sm, .int 0, .ref there, .ref mrow, .int 0, .ref found, .ref fsz, .ref ends, .ref made, .int 0, .int 0, .ref drops, .int 0]) hx hb hts in_Mo hown hE.K hW hf_mo rfl 11 (by decide) (hts _ mw194) (fun _ h9 => h9) rfl d_Mo_count_128 ?_
          exact gw_iret hx hb hr hlocks hS hW (Nat.le_of_ble_eq_true rfl) (Nat.le_of_ble_eq_true rfl) d_Mo_count_131 (⟨(by rw [h9]; decide), hF1⟩)
        · refine lv_tableIn (tgt := 132) hx hb d_Mo_count_80 (by rw [h9]; decide) (by rw [h9]; decide) (by rw [h9]; rfl) (by decide) ?_
          refine lv_aload_n hx hb d_Mo_count_132 rfl (lv_at hl 2 rfl) ?_
          refine gw_get (ci := 5) (fs := [.int 0, .int lm, .int sm, .int 0, .ref there, .ref mrow, .int 0, .ref found, .ref fsz, .ref ends, .ref made, .int 0, .int 0, .ref drops, .int 0]) hx hb hts in_Mo hown hE.K hW hf_mo rfl 12 (by decide) (hts _ mw205) (fun _ h9 => h9) rfl d_Mo_count_133 ?_
          exact gw_iret hx hb hr hlocks hS hW (Nat.le_of_ble_eq_true rfl) (Nat.le_of_ble_eq_true rfl) d_Mo_count_136 (⟨(by rw [h9]; decide), hF1⟩)
        · refine lv_tableIn (tgt := 137) hx hb d_Mo_count_80 (by rw [h9]; decide) (by rw [h9]; decide) (by rw [h9]; rfl) (by decide) ?_
          refine lv_aload_n hx hb d_Mo_count_137 rfl (lv_at hl 2 rfl) ?_
          refine gw_get (ci := 5) (fs := [.int 0, .int lm, .int sm, .int 0, .ref there, .ref mrow, .int 0, .ref found, .ref fsz, .ref ends, .ref made, .int 0, .int 0, .ref drops, .int 0]) hx hb hts in_Mo hown hE.K hW hf_mo rfl 14 (by decide) (hts _ mw203) (fun _ h9 => h9) rfl d_Mo_count_138 ?_
          exact gw_iret hx hb hr hlocks hS hW (Nat.le_of_ble_eq_true rfl) (Nat.le_of_ble_eq_true rfl) d_Mo_count_141 (⟨(by rw [h9]; decide), hF1⟩)
      · refine lv_iload_n hx hb d_Mo_count_20 rfl (lv_at hl 3 rfl) ?_
        refine lv_iconst (v := 3) hx hb d_Mo_count_21 (by decide) ?_
        refine lv_icmp_ge (tgt := 79) hx hb d_Mo_count_22 (by decide) (fun c22 => ?_) (fun c22 => ?_)
        · refine lv_iload_n hx hb d_Mo_count_79 rfl (lv_at hl 3 rfl) ?_
          rcases gx_sw5 k with h9 | h9 | h9 | h9 | h9 | h9 | h9
          · refine lv_tableOut (tgt := 142) hx hb d_Mo_count_80 h9 (by decide) ?_
            refine lv_iconst (v := -1) hx hb d_Mo_count_142 (by decide) ?_
            exact gw_iret hx hb hr hlocks hS hW (Nat.le_of_ble_eq_true rfl) (Nat.le_of_ble_eq_true rfl) d_Mo_count_143 (⟨(gx_cntO h9), hF1⟩)
          · refine lv_tableIn (tgt := 120) hx hb d_Mo_count_80 (by rw [h9]; decide) (by rw [h9]; decide) (by rw [h9]; rfl) (by decide) ?_
            refine lv_aload_n hx hb d_Mo_count_120 rfl (lv_at hl 2 rfl) ?_
            refine gw_get (ci := 5) (fs := [.int 0, .int lm, .int sm, .int 0, .ref there, .ref mrow, .int 0, .ref found, .ref fsz, .ref ends, .ref made, .int 0, .int 0, .ref drops, .int 0]) hx hb hts in_Mo hown hE.K hW hf_mo rfl 6 (by decide) (hts _ mw178) (fun _ h9 => h9) rfl d_Mo_count_121 ?_
            exact gw_iret hx hb hr hlocks hS hW (Nat.le_of_ble_eq_true rfl) (Nat.le_of_ble_eq_true rfl) d_Mo_count_124 (⟨(by rw [h9]; decide), hF1⟩)
          · refine lv_tableIn (tgt := 125) hx hb d_Mo_count_80 (by rw [h9]; decide) (by rw [h9]; decide) (by rw [h9]; rfl) (by decide) ?_
            refine lv_iload_n hx hb d_Mo_count_125 rfl (lv_at hl 1 rfl) ?_
            exact gw_iret hx hb hr hlocks hS hW (Nat.le_of_ble_eq_true rfl) (Nat.le_of_ble_eq_true rfl) d_Mo_count_126 (⟨(by rw [h9]; decide), hF1⟩)
          · refine lv_tableIn (tgt := 125) hx hb d_Mo_count_80 (by rw [h9]; decide) (by rw [h9]; decide) (by rw [h9]; rfl) (by decide) ?_
            refine lv_iload_n hx hb d_Mo_count_125 rfl (lv_at hl 1 rfl) ?_
            exact gw_iret hx hb hr hlocks hS hW (Nat.le_of_ble_eq_true rfl) (Nat.le_of_ble_eq_true rfl) d_Mo_count_126 (⟨(by rw [h9]; decide), hF1⟩)
          · refine lv_tableIn (tgt := 127) hx hb d_Mo_count_80 (by rw [h9]; decide) (by rw [h9]; decide) (by rw [h9]; rfl) (by decide) ?_
            refine lv_aload_n hx hb d_Mo_count_127 rfl (lv_at hl 2 rfl) ?_
            refine gw_get (ci := 5) (fs := [.int 0, .int lm, .int sm, .int 0, .ref there, .ref mrow, .int 0, .ref found, .ref fsz, .ref ends, .ref made, .int 0, .int 0, .ref drops, .int 0]) hx hb hts in_Mo hown hE.K hW hf_mo rfl 11 (by decide) (hts _ mw194) (fun _ h9 => h9) rfl d_Mo_count_128 ?_
            exact gw_iret hx hb hr hlocks hS hW (Nat.le_of_ble_eq_true rfl) (Nat.le_of_ble_eq_true rfl) d_Mo_count_131 (⟨(by rw [h9]; decide), hF1⟩)
          · refine lv_tableIn (tgt := 132) hx hb d_Mo_count_80 (by rw [h9]; decide) (by rw [h9]; decide) (by rw [h9]; rfl) (by decide) ?_
            refine lv_aload_n hx hb d_Mo_count_132 rfl (lv_at hl 2 rfl) ?_
            refine gw_get (ci := 5) (fs := [.int 0, .int lm, .int sm, .int 0, .ref there, .ref mrow, .int 0, .ref found, .ref fsz, .ref ends, .ref made, .int 0, .int 0, .ref drops, .int 0]) hx hb hts in_Mo hown hE.K hW hf_mo rfl 12 (by decide) (hts _ mw205) (fun _ h9 => h9) rfl d_Mo_count_133 ?_
            exact gw_iret hx hb hr hlocks hS hW (Nat.le_of_ble_eq_true rfl) (Nat.le_of_ble_eq_true rfl) d_Mo_count_136 (⟨(by rw [h9]; decide), hF1⟩)
          · refine lv_tableIn (tgt := 137) hx hb d_Mo_count_80 (by rw [h9]; decide) (by rw [h9]; decide) (by rw [h9]; rfl) (by decide) ?_
            refine lv_aload_n hx hb d_Mo_count_137 rfl (lv_at hl 2 rfl) ?_
            refine gw_get (ci := 5) (fs := [.int 0, .int lm, .int sm, .int 0, .ref there, .ref mrow, .int 0, .ref found, .ref fsz, .ref ends, .ref made, .int 0, .int 0, .ref drops, .int 0]) hx hb hts in_Mo hown hE.K hW hf_mo rfl 14 (by decide) (hts _ mw203) (fun _ h9 => h9) rfl d_Mo_count_138 ?_
            exact gw_iret hx hb hr hlocks hS hW (Nat.le_of_ble_eq_true rfl) (Nat.le_of_ble_eq_true rfl) d_Mo_count_141 (⟨(by rw [h9]; decide), hF1⟩)
        · refine lv_iload_n hx hb d_Mo_count_25 rfl (lv_at hl 1 rfl) ?_
          refine lv_iload_n hx hb d_Mo_count_26 rfl (lv_at hl 3 rfl) ?_
          refine lv_iconst (v := 2) hx hb d_Mo_count_27 (by decide) ?_
          refine lv_icmp_ne (tgt := 48) hx hb d_Mo_count_28 (by decide) (fun c28 => ?_) (fun c28 => ?_)
          · refine lv_aload_n hx hb d_Mo_count_48 rfl (lv_at hl 2 rfl) ?_
            refine lv_iload_n hx hb d_Mo_count_49 rfl (lv_at hl 0 rfl) ?_
            refine gw_calli hS (va_runV (As := [.int (nI k9)]) (rest := [.int 0]) ⟨hx, hb, hml, hown, hts⟩ (m_what l G M2 mo there mrow found fsz ends made drops 0 lm sm (nI k9) hf_mo hf_there (vp_in_nI (by have hk8 := gx_le9 c13 hk9.2; omega) (by decide))) (cwV 1 hts (gw_gv mw187 mw188 mw189 mw169 mw186) rfl rfl rfl (by decide +kernel) ⟨Nat.le_of_ble_eq_true rfl, Nat.le_of_ble_eq_true rfl⟩) (gw_pv hE hB hS hW rfl hf_mo) rfl rfl hl.1 rfl (lv_room (Nat.le_of_ble_eq_true rfl)) d_Mo_count_50 ⟨Nat.le_of_ble_eq_true rfl, Nat.le_of_ble_eq_true rfl⟩) (fun r3 M4 H locs hw5 hW hS => ?_)
            obtain ⟨rfl, rfl⟩ := hw5
            refine lv_iconst (v := 2) hx hb d_Mo_count_53 (by decide) ?_
            refine lv_icmp_eq (tgt := 66) hx hb d_Mo_count_54 (by decide) (fun c54 => ?_) (fun c54 => ?_)
            · exact absurd c54 (by decide)
            · refine lv_aload_n hx hb d_Mo_count_57 rfl (lv_at hl 2 rfl) ?_
              refine lv_iload_n hx hb d_Mo_count_58 rfl (lv_at hl 0 rfl) ?_
              refine gw_calli hS (va_runV (As := [.int (nI k9)]) (rest := [.int 0]) ⟨hx, hb, hml, hown, hts⟩ (m_what l G M2 mo there mrow found fsz ends made drops 0 lm sm (nI k9) hf_mo hf_there (vp_in_nI (by have hk8 := gx_le9 c13 hk9.2; omega) (by decide))) (cwV 1 hts (gw_gv mw187 mw188 mw189 mw169 mw186) rfl rfl rfl (by decide +kernel) ⟨Nat.le_of_ble_eq_true rfl, Nat.le_of_ble_eq_true rfl⟩) (gw_pv hE hB hS hW rfl hf_mo) rfl rfl hl.1 rfl (lv_room (Nat.le_of_ble_eq_true rfl)) d_Mo_count_59 ⟨Nat.le_of_ble_eq_true rfl, Nat.le_of_ble_eq_true rfl⟩) (fun r6 M7 H locs hw8 hW hS => ?_)
              obtain ⟨rfl, rfl⟩ := hw8
              refine lv_iconst (v := 3) hx hb d_Mo_count_62 (by decide) ?_
              refine lv_icmp_ne (tgt := 70) hx hb d_Mo_count_63 (by decide) (fun c63 => ?_) (fun c63 => ?_)
              · refine lv_iconst (v := 0) hx hb d_Mo_count_70 (by decide) ?_
                refine lv_iadd hx hb d_Mo_count_71 ?_
                refine lv_istore_n (lv' := [(2, .int (0 + 0)), (3, .int (nI k9)), (0, .ref mo), (1, .int k)]) hx hb d_Mo_count_72 rfl hl (by decide) rfl (fun ls hl => ?_)
                refine lv_iinc (v := (nI k9) + 1) (lv' := [(3, .int ((nI k9) + 1)), (2, .int (0 + 0)), (0, .ref mo), (1, .int k)]) hx hb d_Mo_count_73 hl (k := 1) rfl rfl (by decide) rfl (fun ls hl => ?_)
                refine lv_goto (tgt := 9) hx hb d_Mo_count_76 (by decide) ?_
                have e0 : (0 : Int32) + 0 = 0 := by decide
                rw [e0, nI_1] at hl
                have hk8 := gx_le9 c13 hk9.2
                apply ih (k9 := k9 + 1) (ls := ls) (H := H) (locs := locs) <;> first | exact hW | exact hS | exact lv_sub hl [0, 1, 2, 3] rfl | omega
              · exact absurd c63 (by decide)
          · refine lv_aload_n hx hb d_Mo_count_31 rfl (lv_at hl 2 rfl) ?_
            refine lv_iload_n hx hb d_Mo_count_32 rfl (lv_at hl 0 rfl) ?_
            refine gw_calli hS (va_runV (As := [.int (nI k9)]) (rest := [.int 0]) ⟨hx, hb, hml, hown, hts⟩ (m_what l G M2 mo there mrow found fsz ends made drops 0 lm sm (nI k9) hf_mo hf_there (vp_in_nI (by have hk8 := gx_le9 c13 hk9.2; omega) (by decide))) (cwV 1 hts (gw_gv mw187 mw188 mw189 mw169 mw186) rfl rfl rfl (by decide +kernel) ⟨Nat.le_of_ble_eq_true rfl, Nat.le_of_ble_eq_true rfl⟩) (gw_pv hE hB hS hW rfl hf_mo) rfl rfl hl.1 rfl (lv_room (Nat.le_of_ble_eq_true rfl)) d_Mo_count_33 ⟨Nat.le_of_ble_eq_true rfl, Nat.le_of_ble_eq_true rfl⟩) (fun r9 M10 H locs hw11 hW hS => ?_)
            obtain ⟨rfl, rfl⟩ := hw11
            refine lv_iconst (v := 4) hx hb d_Mo_count_36 (by decide) ?_
            refine lv_icmp_ne (tgt := 44) hx hb d_Mo_count_37 (by decide) (fun c37 => ?_) (fun c37 => ?_)
            · refine lv_iconst (v := 0) hx hb d_Mo_count_44 (by decide) ?_
              refine lv_goto (tgt := 71) hx hb d_Mo_count_45 (by decide) ?_
              refine lv_iadd hx hb d_Mo_count_71 ?_
              refine lv_istore_n (lv' := [(2, .int (0 + 0)), (3, .int (nI k9)), (0, .ref mo), (1, .int k)]) hx hb d_Mo_count_72 rfl hl (by decide) rfl (fun ls hl => ?_)
              refine lv_iinc (v := (nI k9) + 1) (lv' := [(3, .int ((nI k9) + 1)), (2, .int (0 + 0)), (0, .ref mo), (1, .int k)]) hx hb d_Mo_count_73 hl (k := 1) rfl rfl (by decide) rfl (fun ls hl => ?_)
              refine lv_goto (tgt := 9) hx hb d_Mo_count_76 (by decide) ?_
              have e0 : (0 : Int32) + 0 = 0 := by decide
              rw [e0, nI_1] at hl
              have hk8 := gx_le9 c13 hk9.2
              apply ih (k9 := k9 + 1) (ls := ls) (H := H) (locs := locs) <;> first | exact hW | exact hS | exact lv_sub hl [0, 1, 2, 3] rfl | omega
            · exact absurd c37 (by decide)
