set_option maxHeartbeats 4000000 in
set_option maxRecDepth 100000 in
theorem h_relative (l : Launch) (hl9 : l.stackTraces = false) (G : gw_G) (M : gw_M) (A : Nat → Nat) (lim sc E : Int32) (j n rs : Nat) (hX : gx_V G A lim sc E j n rs M) (k : Int32) (q : Int32) (out : Nat) (fo : Nat → Int64) (hO : M out = some (50, .inl (G.2.1 2, 1, .inr (.inl fo)))) : Met l y_Law_relative [.codeWith y_Law_relative b_Law_relative 5 (some .int) [(0, 10, 13, 13)]] ({ frames := 8, cells := 2, slots := 12, locals := 127 }) (gw_Pc G M [.ref (A 0), .int k, .int q, .ref out]) (gw_Qi G (fun r M2 => (∃ fo2 : Nat → Int64, M2 out = some (50, .inl (G.2.1 2, 1, .inr (.inl fo2)))) ∧ gx_V G A lim sc E j n rs M2 ∧ gw_fg (gw_out [1, 2, 3, 4, 5, 6, 7, 8, 9, 10, 11, 50]) M M2)) 2 12 (gw_A G) := by
  refine gt_startH (by decide) (Nat.le_of_ble_eq_true rfl) (fun p9 e9 s m b9 mt9 c9 hTab hx hb hr hml hown hlocks hin hE hB hW ls hl => ?_)
  have hts := hE.ts ([.ref (A 0), .int k, .int q, .ref out] : List Value).toArray
  have hl : lv_has ls 5 [(0, .ref (A 0)), (1, .int k), (2, .int q), (3, .ref out)] := hl
  have hown : s.vm.findClass "GenerationsLaw" = some m.cls := hown
  have hS : va_S (gw_A G) s.heap s.heap [] := va_S.rf
  refine lv_aload_n hx hb d_Law_relative_0 rfl (lv_at hl 3 rfl) ?_
  refine lv_iconst (v := 0) hx hb d_Law_relative_1 (by decide) ?_
  refine lv_aload_n hx hb d_Law_relative_2 rfl (lv_at hl 0 rfl) ?_
  refine lv_iload_n hx hb d_Law_relative_3 rfl (lv_at hl 1 rfl) ?_
  refine lv_iload_n hx hb d_Law_relative_4 rfl (lv_at hl 2 rfl) ?_
  obtain ⟨gco1, f3o1, f8o1, hf_x, hf_row, hf_nums, hf_gone, hgco1, hrso1, -, -, -, -⟩ := id hX
  refine gu_calliW (As := [.int k, .int q]) (rest := [.int 0, .ref out]) hS ⟨hx, hb, hml, hown, hts⟩ (v_relative l hl9 G M A lim sc E j n rs hX k q ) (cwV 2 hts (gw_gv mw314 mw315 mw316 mw42 mw313) rfl rfl rfl (by decide +kernel) ⟨Nat.le_of_ble_eq_true rfl, Nat.le_of_ble_eq_true rfl⟩) (gw_pv hE hB hS hW rfl hf_x) rfl hl.1 rfl (lv_room (Nat.le_of_ble_eq_true rfl)) d_Law_relative_5 ⟨Nat.le_of_ble_eq_true rfl, Nat.le_of_ble_eq_true rfl⟩ (fun ce q9 M9 H locs hw9 hW hS hce hcv hcl => ?_) (fun r2 M3 H locs hw4 hW hS => ?_)
  · subst hw9
    refine gt_catch (own := "GenerationsLaw") (x := ⟨0, 10, 13, 13⟩) hTab (by decide) (by decide) hown (hts _ mw317) (hts _ mw318) hce hcv hcl ?_
    show W _ _ _ _ _ _ _ _ _ _ _ _ _ _ _ (F0 m 13 ls [.ref q9])
    refine lv_astore (lv' := [(4, .ref q9), (0, .ref (A 0)), (1, .int k), (2, .int q), (3, .ref out)]) hx hb d_Law_relative_13 hl (by decide) rfl (fun ls hl => ?_)
    refine lv_iconst (v := 1) hx hb d_Law_relative_15 (by decide) ?_
    exact gw_iret hx hb hr hlocks hS hW (Nat.le_of_ble_eq_true rfl) (Nat.le_of_ble_eq_true rfl) d_Law_relative_16 ⟨⟨_, hO⟩, hX, gw_fg.rf⟩
  · refine W.widen (k := 2) (n := 12) (Nat.le_refl _) (Nat.le_refl _) ?_
    obtain ⟨hX, hfr5⟩ := hw4
    have hF6 : gw_fg (gw_out [1, 2, 3, 4, 5, 6, 7, 8, 9, 10, 11, 50]) M M3 := gw_fg.tr gw_fg.rf (gw_fg.wk hfr5 (by decide))
    replace hO := (hfr5.1 _ _ _ (by decide)).mp hO
    clear hfr5
    refine lv_i2l hx hb d_Law_relative_8 rfl ?_
    refine gw_last (i := 0) (x := r2.toInt64) hx hb hE.K hW hS 2 hO rfl (show ¬ ((0 : Int32) < 0 ∨ 1 ≤ (0 : Int32).toNatClampNeg) by decide) d_Law_relative_9 (fun H locs hW hS => ?_)
    have hXn : gx_V G A lim sc E j n rs (gw_up M3 out 50 (.inl (G.2.1 2, 1, .inr (.inl (vp_updL fo (0 : Int32).toNatClampNeg r2.toInt64))))) := hX.stays (L := [50]) (gw_fr.rf.up hO (by decide) (by decide)) (by decide)
    have hPn : gp_S M3 (gw_up M3 out 50 (.inl (G.2.1 2, 1, .inr (.inl (vp_updL fo (0 : Int32).toNatClampNeg r2.toInt64))))) := gp_up hO
    have hF7 : gw_fg (gw_out [1, 2, 3, 4, 5, 6, 7, 8, 9, 10, 11, 50]) M (gw_up M3 out 50 (.inl (G.2.1 2, 1, .inr (.inl (vp_updL fo (0 : Int32).toNatClampNeg r2.toInt64))))) := gw_fg.up hF6 hO (show ¬ ((gw_out [1, 2, 3, 4, 5, 6, 7, 8, 9, 10, 11, 50]) 50) by decide) (show ¬ ((gw_out [1, 2, 3, 4, 5, 6, 7, 8, 9, 10, 11, 50]) 50) by decide)
    obtain ⟨M8, eM8⟩ : ∃ z, z = gw_up M3 out 50 (.inl (G.2.1 2, 1, .inr (.inl (vp_updL fo (0 : Int32).toNatClampNeg r2.toInt64)))) := ⟨_, rfl⟩
    replace hW : gw_P G.1 vwCl G.2.2.2 M8 H := by rw [eM8]; exact hW
    have hO : M8 out = some (50, .inl (G.2.1 2, 1, .inr (.inl (vp_updL fo (0 : Int32).toNatClampNeg r2.toInt64)))) := by rw [eM8]; exact gw_up_self _ _ _ _
    rw [← eM8] at hF7
    rw [← eM8] at hXn hPn
    replace hX := hXn
    clear hXn hPn
    refine lv_goto (tgt := 17) hx hb d_Law_relative_10 (by decide) ?_
    refine lv_iconst (v := 0) hx hb d_Law_relative_17 (by decide) ?_
    exact gw_iret hx hb hr hlocks hS hW (Nat.le_of_ble_eq_true rfl) (Nat.le_of_ble_eq_true rfl) d_Law_relative_18 ⟨⟨_, hO⟩, hX, hF7⟩

set_option maxHeartbeats 4000000 in
set_option maxRecDepth 100000 in
theorem h_make (l : Launch) (hl9 : l.stackTraces = false) (G : gw_G) (M : gw_M) (A : Nat → Nat) (lim sc E : Int32) (j n rs : Nat) (hX : gx_V G A lim sc E j n rs M) (k : Int32) (q : Int32) (out : Nat) (fo : Nat → Int64) (hO : M out = some (50, .inl (G.2.1 2, 1, .inr (.inl fo)))) (hn6 : n ≤ 600) : Met l y_Law_make [.codeWith y_Law_make b_Law_make 5 (some .int) [(0, 10, 13, 13)]] ({ frames := 9, cells := 3, slots := 1011, locals := 269 }) (gw_Pc G M [.ref (A 0), .int k, .int q, .ref out]) (gw_Qi G (fun r M2 => ∃ n2 : Nat, n2 ≤ n + 1 ∧ (∃ fo2 : Nat → Int64, M2 out = some (50, .inl (G.2.1 2, 1, .inr (.inl fo2)))) ∧ gx_V G A lim sc E j n2 rs M2 ∧ gw_fg (gw_out [1, 2, 3, 4, 5, 6, 7, 8, 9, 10, 11, 50]) M M2)) 3 1011 (gw_A G) := by
  refine gt_startH (by decide) (Nat.le_of_ble_eq_true rfl) (fun p9 e9 s m b9 mt9 c9 hTab hx hb hr hml hown hlocks hin hE hB hW ls hl => ?_)
  have hts := hE.ts ([.ref (A 0), .int k, .int q, .ref out] : List Value).toArray
  have hl : lv_has ls 5 [(0, .ref (A 0)), (1, .int k), (2, .int q), (3, .ref out)] := hl
  have hown : s.vm.findClass "GenerationsLaw" = some m.cls := hown
  have hS : va_S (gw_A G) s.heap s.heap [] := va_S.rf
  refine lv_aload_n hx hb d_Law_make_0 rfl (lv_at hl 3 rfl) ?_
  refine lv_iconst (v := 0) hx hb d_Law_make_1 (by decide) ?_
  refine lv_aload_n hx hb d_Law_make_2 rfl (lv_at hl 0 rfl) ?_
  refine lv_iload_n hx hb d_Law_make_3 rfl (lv_at hl 1 rfl) ?_
  refine lv_iload_n hx hb d_Law_make_4 rfl (lv_at hl 2 rfl) ?_
  obtain ⟨gco1, f3o1, f8o1, hf_x, hf_row, hf_nums, hf_gone, hgco1, hrso1, -, -, -, -⟩ := id hX
  refine gu_calliW (As := [.int k, .int q]) (rest := [.int 0, .ref out]) hS ⟨hx, hb, hml, hown, hts⟩ (v_make l hl9 G M A lim sc E j n rs hX k q hn6) (cwV 2 hts (gw_gv mw320 mw321 mw322 mw42 mw319) rfl rfl rfl (by decide +kernel) ⟨Nat.le_of_ble_eq_true rfl, Nat.le_of_ble_eq_true rfl⟩) (gw_pv hE hB hS hW rfl hf_x) rfl hl.1 rfl (lv_room (Nat.le_of_ble_eq_true rfl)) d_Law_make_5 ⟨Nat.le_of_ble_eq_true rfl, Nat.le_of_ble_eq_true rfl⟩ (fun ce q9 M9 H locs hw9 hW hS hce hcv hcl => ?_) (fun r2 M3 H locs hw4 hW hS => ?_)
  · subst hw9
    refine gt_catch (own := "GenerationsLaw") (x := ⟨0, 10, 13, 13⟩) hTab (by decide) (by decide) hown (hts _ mw317) (hts _ mw318) hce hcv hcl ?_
    show W _ _ _ _ _ _ _ _ _ _ _ _ _ _ _ (F0 m 13 ls [.ref q9])
    refine lv_astore (lv' := [(4, .ref q9), (0, .ref (A 0)), (1, .int k), (2, .int q), (3, .ref out)]) hx hb d_Law_make_13 hl (by decide) rfl (fun ls hl => ?_)
    refine lv_iconst (v := 1) hx hb d_Law_make_15 (by decide) ?_
    exact gw_iret hx hb hr hlocks hS hW (Nat.le_of_ble_eq_true rfl) (Nat.le_of_ble_eq_true rfl) d_Law_make_16 ⟨n, (by omega), ⟨_, hO⟩, hX, gw_fg.rf⟩
  · refine W.widen (k := 3) (n := 1011) (Nat.le_refl _) (Nat.le_refl _) ?_
    obtain ⟨n26, hb7, hX, hfr5⟩ := hw4
    have hF8 : gw_fg (gw_out [1, 2, 3, 4, 5, 6, 7, 8, 9, 10, 11, 50]) M M3 := gw_fg.tr gw_fg.rf (gw_fg.wk hfr5 (by decide))
    replace hO := (hfr5.1 _ _ _ (by decide)).mp hO
    clear hfr5
    refine lv_i2l hx hb d_Law_make_8 rfl ?_
    refine gw_last (i := 0) (x := r2.toInt64) hx hb hE.K hW hS 2 hO rfl (show ¬ ((0 : Int32) < 0 ∨ 1 ≤ (0 : Int32).toNatClampNeg) by decide) d_Law_make_9 (fun H locs hW hS => ?_)
    have hXn : gx_V G A lim sc E j n26 rs (gw_up M3 out 50 (.inl (G.2.1 2, 1, .inr (.inl (vp_updL fo (0 : Int32).toNatClampNeg r2.toInt64))))) := hX.stays (L := [50]) (gw_fr.rf.up hO (by decide) (by decide)) (by decide)
    have hPn : gp_S M3 (gw_up M3 out 50 (.inl (G.2.1 2, 1, .inr (.inl (vp_updL fo (0 : Int32).toNatClampNeg r2.toInt64))))) := gp_up hO
    have hF9 : gw_fg (gw_out [1, 2, 3, 4, 5, 6, 7, 8, 9, 10, 11, 50]) M (gw_up M3 out 50 (.inl (G.2.1 2, 1, .inr (.inl (vp_updL fo (0 : Int32).toNatClampNeg r2.toInt64))))) := gw_fg.up hF8 hO (show ¬ ((gw_out [1, 2, 3, 4, 5, 6, 7, 8, 9, 10, 11, 50]) 50) by decide) (show ¬ ((gw_out [1, 2, 3, 4, 5, 6, 7, 8, 9, 10, 11, 50]) 50) by decide)
    obtain ⟨M10, eM10⟩ : ∃ z, z = gw_up M3 out 50 (.inl (G.2.1 2, 1, .inr (.inl (vp_updL fo (0 : Int32).toNatClampNeg r2.toInt64)))) := ⟨_, rfl⟩
    replace hW : gw_P G.1 vwCl G.2.2.2 M10 H := by rw [eM10]; exact hW
    have hO : M10 out = some (50, .inl (G.2.1 2, 1, .inr (.inl (vp_updL fo (0 : Int32).toNatClampNeg r2.toInt64)))) := by rw [eM10]; exact gw_up_self _ _ _ _
    rw [← eM10] at hF9
    rw [← eM10] at hXn hPn
    replace hX := hXn
    clear hXn hPn
    refine lv_goto (tgt := 17) hx hb d_Law_make_10 (by decide) ?_
    refine lv_iconst (v := 0) hx hb d_Law_make_17 (by decide) ?_
    exact gw_iret hx hb hr hlocks hS hW (Nat.le_of_ble_eq_true rfl) (Nat.le_of_ble_eq_true rfl) d_Law_make_18 ⟨n26, (by omega), ⟨_, hO⟩, hX, hF9⟩

set_option maxHeartbeats 4000000 in
set_option maxRecDepth 100000 in
theorem h_restart (l : Launch) (hl9 : l.stackTraces = false) (G : gw_G) (M : gw_M) (A : Nat → Nat) (lim sc E : Int32) (j n rs : Nat) (hX : gx_V G A lim sc E j n rs M) (k : Int32) (q : Int32) (out : Nat) (fo : Nat → Int64) (hO : M out = some (50, .inl (G.2.1 2, 1, .inr (.inl fo)))) : Met l y_Law_restart [.codeWith y_Law_restart b_Law_restart 5 (some .int) [(0, 10, 13, 13)]] ({ frames := 8, cells := 1, slots := 6, locals := 134 }) (gw_Pc G M [.ref (A 0), .int k, .int q, .ref out]) (gw_Qi G (fun r M2 => (∃ fo2 : Nat → Int64, M2 out = some (50, .inl (G.2.1 2, 1, .inr (.inl fo2)))) ∧ gx_V G A lim sc E j n rs M2 ∧ gw_fg (gw_out [1, 2, 3, 4, 5, 6, 7, 8, 9, 10, 11, 50]) M M2)) 1 6 (gw_A G) := by
  refine gt_startH (by decide) (Nat.le_of_ble_eq_true rfl) (fun p9 e9 s m b9 mt9 c9 hTab hx hb hr hml hown hlocks hin hE hB hW ls hl => ?_)
  have hts := hE.ts ([.ref (A 0), .int k, .int q, .ref out] : List Value).toArray
  have hl : lv_has ls 5 [(0, .ref (A 0)), (1, .int k), (2, .int q), (3, .ref out)] := hl
  have hown : s.vm.findClass "GenerationsLaw" = some m.cls := hown
  have hS : va_S (gw_A G) s.heap s.heap [] := va_S.rf
  refine lv_aload_n hx hb d_Law_restart_0 rfl (lv_at hl 3 rfl) ?_
  refine lv_iconst (v := 0) hx hb d_Law_restart_1 (by decide) ?_
  refine lv_aload_n hx hb d_Law_restart_2 rfl (lv_at hl 0 rfl) ?_
  refine lv_iload_n hx hb d_Law_restart_3 rfl (lv_at hl 1 rfl) ?_
  refine lv_iload_n hx hb d_Law_restart_4 rfl (lv_at hl 2 rfl) ?_
  obtain ⟨gco1, f3o1, f8o1, hf_x, hf_row, hf_nums, hf_gone, hgco1, hrso1, -, -, -, -⟩ := id hX
  refine gu_calliW (As := [.int k, .int q]) (rest := [.int 0, .ref out]) hS ⟨hx, hb, hml, hown, hts⟩ (v_restart l hl9 G M A lim sc E j n rs hX k q ) (cwV 2 hts (gw_gv mw324 mw325 mw326 mw42 mw323) rfl rfl rfl (by decide +kernel) ⟨Nat.le_of_ble_eq_true rfl, Nat.le_of_ble_eq_true rfl⟩) (gw_pv hE hB hS hW rfl hf_x) rfl hl.1 rfl (lv_room (Nat.le_of_ble_eq_true rfl)) d_Law_restart_5 ⟨Nat.le_of_ble_eq_true rfl, Nat.le_of_ble_eq_true rfl⟩ (fun ce q9 M9 H locs hw9 hW hS hce hcv hcl => ?_) (fun r2 M3 H locs hw4 hW hS => ?_)
  · subst hw9
    refine gt_catch (own := "GenerationsLaw") (x := ⟨0, 10, 13, 13⟩) hTab (by decide) (by decide) hown (hts _ mw317) (hts _ mw318) hce hcv hcl ?_
    show W _ _ _ _ _ _ _ _ _ _ _ _ _ _ _ (F0 m 13 ls [.ref q9])
    refine lv_astore (lv' := [(4, .ref q9), (0, .ref (A 0)), (1, .int k), (2, .int q), (3, .ref out)]) hx hb d_Law_restart_13 hl (by decide) rfl (fun ls hl => ?_)
    refine lv_iconst (v := 1) hx hb d_Law_restart_15 (by decide) ?_
    exact gw_iret hx hb hr hlocks hS hW (Nat.le_of_ble_eq_true rfl) (Nat.le_of_ble_eq_true rfl) d_Law_restart_16 ⟨⟨_, hO⟩, hX, gw_fg.rf⟩
  · refine W.widen (k := 1) (n := 6) (Nat.le_refl _) (Nat.le_refl _) ?_
    obtain ⟨hX, hfr5⟩ := hw4
    have hF6 : gw_fg (gw_out [1, 2, 3, 4, 5, 6, 7, 8, 9, 10, 11, 50]) M M3 := gw_fg.tr gw_fg.rf (gw_fg.wk hfr5 (by decide))
    replace hO := (hfr5.1 _ _ _ (by decide)).mp hO
    clear hfr5
    refine lv_i2l hx hb d_Law_restart_8 rfl ?_
    refine gw_last (i := 0) (x := r2.toInt64) hx hb hE.K hW hS 2 hO rfl (show ¬ ((0 : Int32) < 0 ∨ 1 ≤ (0 : Int32).toNatClampNeg) by decide) d_Law_restart_9 (fun H locs hW hS => ?_)
    have hXn : gx_V G A lim sc E j n rs (gw_up M3 out 50 (.inl (G.2.1 2, 1, .inr (.inl (vp_updL fo (0 : Int32).toNatClampNeg r2.toInt64))))) := hX.stays (L := [50]) (gw_fr.rf.up hO (by decide) (by decide)) (by decide)
    have hPn : gp_S M3 (gw_up M3 out 50 (.inl (G.2.1 2, 1, .inr (.inl (vp_updL fo (0 : Int32).toNatClampNeg r2.toInt64))))) := gp_up hO
    have hF7 : gw_fg (gw_out [1, 2, 3, 4, 5, 6, 7, 8, 9, 10, 11, 50]) M (gw_up M3 out 50 (.inl (G.2.1 2, 1, .inr (.inl (vp_updL fo (0 : Int32).toNatClampNeg r2.toInt64))))) := gw_fg.up hF6 hO (show ¬ ((gw_out [1, 2, 3, 4, 5, 6, 7, 8, 9, 10, 11, 50]) 50) by decide) (show ¬ ((gw_out [1, 2, 3, 4, 5, 6, 7, 8, 9, 10, 11, 50]) 50) by decide)
    obtain ⟨M8, eM8⟩ : ∃ z, z = gw_up M3 out 50 (.inl (G.2.1 2, 1, .inr (.inl (vp_updL fo (0 : Int32).toNatClampNeg r2.toInt64)))) := ⟨_, rfl⟩
    replace hW : gw_P G.1 vwCl G.2.2.2 M8 H := by rw [eM8]; exact hW
    have hO : M8 out = some (50, .inl (G.2.1 2, 1, .inr (.inl (vp_updL fo (0 : Int32).toNatClampNeg r2.toInt64)))) := by rw [eM8]; exact gw_up_self _ _ _ _
    rw [← eM8] at hF7
    rw [← eM8] at hXn hPn
    replace hX := hXn
    clear hXn hPn
    refine lv_goto (tgt := 17) hx hb d_Law_restart_10 (by decide) ?_
    refine lv_iconst (v := 0) hx hb d_Law_restart_17 (by decide) ?_
    exact gw_iret hx hb hr hlocks hS hW (Nat.le_of_ble_eq_true rfl) (Nat.le_of_ble_eq_true rfl) d_Law_restart_18 ⟨⟨_, hO⟩, hX, hF7⟩

set_option maxHeartbeats 4000000 in
set_option maxRecDepth 100000 in
theorem h_end (l : Launch) (hl9 : l.stackTraces = false) (G : gw_G) (M : gw_M) (A : Nat → Nat) (lim sc E : Int32) (j n rs : Nat) (hX : gx_V G A lim sc E j n rs M) (k : Int32) (q : Int32) (z : Int32) (lm : Nat) (out : Nat) (fo : Nat → Int64) (hO : M out = some (50, .inl (G.2.1 2, 1, .inr (.inl fo)))) (hlm : lim = nI lm) (hl1 : 1 ≤ lm) (hl2 : lm ≤ 255) (h255 : rs ≤ 255) : Met l y_Law_end [.codeWith y_Law_end b_Law_end 6 (some .int) [(0, 12, 15, 13)]] ({ frames := 8, cells := 1, slots := 6, locals := 177 }) (gw_Pc G M [.ref (A 0), .int k, .int q, .int z, .ref out]) (gw_Qi G (fun r M2 => ∃ rs2 : Nat, rs2 ≤ 255 ∧ (∃ fo2 : Nat → Int64, M2 out = some (50, .inl (G.2.1 2, 1, .inr (.inl fo2)))) ∧ gx_V G A lim sc E j n rs2 M2 ∧ gw_fg (gw_out [1, 2, 3, 4, 5, 6, 7, 8, 9, 10, 11, 50]) M M2)) 1 6 (gw_A G) := by
  refine gt_startH (by decide) (Nat.le_of_ble_eq_true rfl) (fun p9 e9 s m b9 mt9 c9 hTab hx hb hr hml hown hlocks hin hE hB hW ls hl => ?_)
  have hts := hE.ts ([.ref (A 0), .int k, .int q, .int z, .ref out] : List Value).toArray
  have hl : lv_has ls 6 [(0, .ref (A 0)), (1, .int k), (2, .int q), (3, .int z), (4, .ref out)] := hl
  have hown : s.vm.findClass "GenerationsLaw" = some m.cls := hown
  have hS : va_S (gw_A G) s.heap s.heap [] := va_S.rf
  refine lv_aload hx hb d_Law_end_0 (lv_at hl 4 rfl) ?_
  refine lv_iconst (v := 0) hx hb d_Law_end_2 (by decide) ?_
  refine lv_aload_n hx hb d_Law_end_3 rfl (lv_at hl 0 rfl) ?_
  refine lv_iload_n hx hb d_Law_end_4 rfl (lv_at hl 1 rfl) ?_
  refine lv_iload_n hx hb d_Law_end_5 rfl (lv_at hl 2 rfl) ?_
  refine lv_iload_n hx hb d_Law_end_6 rfl (lv_at hl 3 rfl) ?_
  obtain ⟨gco1, f3o1, f8o1, hf_x, hf_row, hf_nums, hf_gone, hgco1, hrso1, -, -, -, -⟩ := id hX
  refine gu_calliW (As := [.int k, .int q, .int z]) (rest := [.int 0, .ref out]) hS ⟨hx, hb, hml, hown, hts⟩ (v_end l hl9 G M A lim sc E j n rs hX k q z lm hlm hl1 hl2 h255) (cwV 3 hts (gw_gv mw328 mw329 mw330 mw42 mw327) rfl rfl rfl (by decide +kernel) ⟨Nat.le_of_ble_eq_true rfl, Nat.le_of_ble_eq_true rfl⟩) (gw_pv hE hB hS hW rfl hf_x) rfl hl.1 rfl (lv_room (Nat.le_of_ble_eq_true rfl)) d_Law_end_7 ⟨Nat.le_of_ble_eq_true rfl, Nat.le_of_ble_eq_true rfl⟩ (fun ce q9 M9 H locs hw9 hW hS hce hcv hcl => ?_) (fun r2 M3 H locs hw4 hW hS => ?_)
  · subst hw9
    refine gt_catch (own := "GenerationsLaw") (x := ⟨0, 12, 15, 13⟩) hTab (by decide) (by decide) hown (hts _ mw317) (hts _ mw318) hce hcv hcl ?_
    show W _ _ _ _ _ _ _ _ _ _ _ _ _ _ _ (F0 m 15 ls [.ref q9])
    refine lv_astore (lv' := [(5, .ref q9), (0, .ref (A 0)), (1, .int k), (2, .int q), (3, .int z), (4, .ref out)]) hx hb d_Law_end_15 hl (by decide) rfl (fun ls hl => ?_)
    refine lv_iconst (v := 1) hx hb d_Law_end_17 (by decide) ?_
    exact gw_iret hx hb hr hlocks hS hW (Nat.le_of_ble_eq_true rfl) (Nat.le_of_ble_eq_true rfl) d_Law_end_18 ⟨rs, (by omega), ⟨_, hO⟩, hX, gw_fg.rf⟩
  · refine W.widen (k := 1) (n := 6) (Nat.le_refl _) (Nat.le_refl _) ?_
    obtain ⟨rs26, hb7, hX, hfr5⟩ := hw4
    have hF8 : gw_fg (gw_out [1, 2, 3, 4, 5, 6, 7, 8, 9, 10, 11, 50]) M M3 := gw_fg.tr gw_fg.rf (gw_fg.wk hfr5 (by decide))
    replace hO := (hfr5.1 _ _ _ (by decide)).mp hO
    clear hfr5
    refine lv_i2l hx hb d_Law_end_10 rfl ?_
    refine gw_last (i := 0) (x := r2.toInt64) hx hb hE.K hW hS 2 hO rfl (show ¬ ((0 : Int32) < 0 ∨ 1 ≤ (0 : Int32).toNatClampNeg) by decide) d_Law_end_11 (fun H locs hW hS => ?_)
    have hXn : gx_V G A lim sc E j n rs26 (gw_up M3 out 50 (.inl (G.2.1 2, 1, .inr (.inl (vp_updL fo (0 : Int32).toNatClampNeg r2.toInt64))))) := hX.stays (L := [50]) (gw_fr.rf.up hO (by decide) (by decide)) (by decide)
    have hPn : gp_S M3 (gw_up M3 out 50 (.inl (G.2.1 2, 1, .inr (.inl (vp_updL fo (0 : Int32).toNatClampNeg r2.toInt64))))) := gp_up hO
    have hF9 : gw_fg (gw_out [1, 2, 3, 4, 5, 6, 7, 8, 9, 10, 11, 50]) M (gw_up M3 out 50 (.inl (G.2.1 2, 1, .inr (.inl (vp_updL fo (0 : Int32).toNatClampNeg r2.toInt64))))) := gw_fg.up hF8 hO (show ¬ ((gw_out [1, 2, 3, 4, 5, 6, 7, 8, 9, 10, 11, 50]) 50) by decide) (show ¬ ((gw_out [1, 2, 3, 4, 5, 6, 7, 8, 9, 10, 11, 50]) 50) by decide)
    obtain ⟨M10, eM10⟩ : ∃ z, z = gw_up M3 out 50 (.inl (G.2.1 2, 1, .inr (.inl (vp_updL fo (0 : Int32).toNatClampNeg r2.toInt64)))) := ⟨_, rfl⟩
    replace hW : gw_P G.1 vwCl G.2.2.2 M10 H := by rw [eM10]; exact hW
    have hO : M10 out = some (50, .inl (G.2.1 2, 1, .inr (.inl (vp_updL fo (0 : Int32).toNatClampNeg r2.toInt64)))) := by rw [eM10]; exact gw_up_self _ _ _ _
    rw [← eM10] at hF9
    rw [← eM10] at hXn hPn
    replace hX := hXn
    clear hXn hPn
    refine lv_goto (tgt := 19) hx hb d_Law_end_12 (by decide) ?_
    refine lv_iconst (v := 0) hx hb d_Law_end_19 (by decide) ?_
    exact gw_iret hx hb hr hlocks hS hW (Nat.le_of_ble_eq_true rfl) (Nat.le_of_ble_eq_true rfl) d_Law_end_20 ⟨rs26, (by omega), ⟨_, hO⟩, hX, hF9⟩
