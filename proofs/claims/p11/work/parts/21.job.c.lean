theorem gp_none {M M1 : gw_M} {q : Nat} (h : gp_S M M1) (hq : M1 q = none) : M q = none := by
  cases z : M q with
  | none => rfl
  | some x =>
    obtain ⟨r, e⟩ := x
    obtain ⟨e2, h2⟩ := h r q ⟨e, z⟩
    rw [hq] at h2
    cases h2
theorem gx_jc {k : Int32} {j : Nat} (h1 : ¬ k < 1) (h2 : k ≤ nI j) (hj : j ≤ 1000) : ∃ i : Nat, i < j ∧ k - 1 = nI i := by
  have a1 := Int32.not_lt.mp h1
  rw [Int32.le_iff_toInt_le, gi_1] at a1
  rw [Int32.le_iff_toInt_le, nI_toInt (by omega)] at h2
  have e1 := gi_sub (a := k) (b := 1) (by rw [gi_1]; omega)
  rw [gi_1] at e1
  exact ⟨(k.toInt - 1).toNat, by omega, gi_nI (by rw [e1]; omega) (by omega)⟩
set_option maxHeartbeats 4000000 in
set_option maxRecDepth 100000 in
theorem v_jobF (l : Launch) (G : gw_G) (M : gw_M) (A : Nat → Nat) (lim sc E : Int32) (j n rs : Nat) (hX : gx_V G A lim sc E j n rs M) (hj40 : 40 ≤ j) : Met l y_X_job [.code y_X_job b_X_job 1 (some .int)] ({ frames := 1, cells := 0, slots := 0, locals := 20 }) (gw_Pc G M [.ref (A 0)]) (gw_Qi G (fun r M2 => -1 = r ∧ gx_V G A lim sc E j n rs M2 ∧ gw_fg (gw_out [1, 2, 3, 4, 5, 6, 7, 8, 9, 10, 11]) M M2)) 0 0 (gw_A G) := by
  refine gw_start (by decide) (Nat.le_of_ble_eq_true rfl) (fun p9 e9 s m b9 mt9 c9 hx hb hr hml hown hlocks hin hE hB hW ls hl => ?_)
  have hts := hE.ts ([.ref (A 0)] : List Value).toArray
  have hl : lv_has ls 1 [(0, .ref (A 0))] := hl
  have hown : s.vm.findClass "Generations" = some m.cls := hown
  have hj9 := hX.jobs.le
  have hn9 := hX.known.le
  have hr9 := hX.rs256
  refine gw_gen (I := fun z => gx_V G A lim sc E j n rs z) (P := gw_out [1, 2, 3, 4, 5, 6, 7, 8, 9, 10, 11]) hX hW (fun H locs Mw hW hS hX hF => ?_)
  have hX : gx_V G A lim sc E j n rs Mw := hX
  refine lv_aload_n hx hb d_X_job_0 rfl (lv_at hl 0 rfl) ?_
  obtain ⟨gco1, f3o1, f8o1, hf_x, hf_row, hf_nums, hf_gone, hgco1, hrso1, -, -, -, -⟩ := id hX
  refine gw_get (ci := 0) (fs := [.int lim, .int sc, .int E, .ref (A 1), .ref (A 3), .ref (A 4), .ref (A 5), .ref (A 6), .int (nI gco1)]) hx hb hts in_X hown hE.K hW hf_x rfl 4 (by decide) (hts _ mw66) (fun _ h9 => h9) rfl d_X_job_1 ?_
  obtain ⟨_, hc2⟩ := hX.jobs.cell
  refine gr_calli (va_runV (As := []) (rest := []) ⟨hx, hb, hml, hown, hts⟩ (s_size l G Mw (A 3) 4 6 10 j hX.jobs) (cwV 0 hts (gw_gv mw25 mw26 mw27 mw14 mw24) rfl rfl rfl (by decide +kernel) ⟨Nat.le_of_ble_eq_true rfl, Nat.le_of_ble_eq_true rfl⟩) (gw_pv hE hB hS hW rfl hc2) rfl rfl hl.1 rfl (lv_room (Nat.le_of_ble_eq_true rfl)) d_X_job_4 ⟨Nat.le_of_ble_eq_true rfl, Nat.le_of_ble_eq_true rfl⟩) (fun r3 hw4 => ?_)
  subst hw4
  refine lv_bipush (v := 40) hx hb d_X_job_7 (by decide) ?_
  refine lv_icmp_lt (tgt := 14) hx hb d_X_job_9 (by decide) (fun c9 => ?_) (fun c9 => ?_)
  · exact absurd ((nI_ltI (b := 40) (by omega) (by omega)).mp c9) (by omega)
  · refine lv_iconst (v := -1) hx hb d_X_job_12 (by decide) ?_
    exact gw_iret hx hb hr hlocks hS hW (Nat.le_of_ble_eq_true rfl) (Nat.le_of_ble_eq_true rfl) d_X_job_13 ⟨rfl, hX, hF⟩

set_option maxHeartbeats 4000000 in
set_option maxRecDepth 100000 in
theorem v_jobN (l : Launch) (G : gw_G) (M : gw_M) (A : Nat → Nat) (lim sc E : Int32) (j n rs : Nat) (hX : gx_V G A lim sc E j n rs M) (hj40 : j < 40) (h255 : rs ≤ 255) : Met l y_X_job [.code y_X_job b_X_job 1 (some .int)] ({ frames := 7, cells := 3, slots := 1258, locals := 221 }) (gw_Pc G M [.ref (A 0)]) (gw_Qi G (fun r M2 => nI (j + 1) = r ∧ gx_V G A lim sc E (j + 1) n rs M2 ∧ gw_fg (gw_out [1, 2, 3, 4, 5, 6, 7, 8, 9, 10, 11, 60]) M M2)) 3 1258 (gw_A G) := by
  refine gw_start (by decide) (Nat.le_of_ble_eq_true rfl) (fun p9 e9 s m b9 mt9 c9 hx hb hr hml hown hlocks hin hE hB hW ls hl => ?_)
  have hts := hE.ts ([.ref (A 0)] : List Value).toArray
  have hl : lv_has ls 1 [(0, .ref (A 0))] := hl
  have hown : s.vm.findClass "Generations" = some m.cls := hown
  have hj9 := hX.jobs.le
  have hn9 := hX.known.le
  have hr9 := hX.rs256
  refine gw_gen (I := fun z => gx_V G A lim sc E j n rs z) (P := gw_out [1, 2, 3, 4, 5, 6, 7, 8, 9, 10, 11, 60]) hX hW (fun H locs Mw hW hS hX hF => ?_)
  have hX : gx_V G A lim sc E j n rs Mw := hX
  refine lv_aload_n hx hb d_X_job_0 rfl (lv_at hl 0 rfl) ?_
  obtain ⟨gco1, f3o1, f8o1, hf_x, hf_row, hf_nums, hf_gone, hgco1, hrso1, -, -, -, -⟩ := id hX
  refine gw_get (ci := 0) (fs := [.int lim, .int sc, .int E, .ref (A 1), .ref (A 3), .ref (A 4), .ref (A 5), .ref (A 6), .int (nI gco1)]) hx hb hts in_X hown hE.K hW hf_x rfl 4 (by decide) (hts _ mw66) (fun _ h9 => h9) rfl d_X_job_1 ?_
  obtain ⟨_, hc2⟩ := hX.jobs.cell
  refine gr_calli (va_runV (As := []) (rest := []) ⟨hx, hb, hml, hown, hts⟩ (s_size l G Mw (A 3) 4 6 10 j hX.jobs) (cwV 0 hts (gw_gv mw25 mw26 mw27 mw14 mw24) rfl rfl rfl (by decide +kernel) ⟨Nat.le_of_ble_eq_true rfl, Nat.le_of_ble_eq_true rfl⟩) (gw_pv hE hB hS hW rfl hc2) rfl rfl hl.1 rfl (lv_room (Nat.le_of_ble_eq_true rfl)) d_X_job_4 ⟨Nat.le_of_ble_eq_true rfl, Nat.le_of_ble_eq_true rfl⟩) (fun r3 hw4 => ?_)
  subst hw4
  refine lv_bipush (v := 40) hx hb d_X_job_7 (by decide) ?_
  refine lv_icmp_lt (tgt := 14) hx hb d_X_job_9 (by decide) (fun c9 => ?_) (fun c9 => ?_)
  · refine lv_aload_n hx hb d_X_job_14 rfl (lv_at hl 0 rfl) ?_
    refine gw_get (ci := 0) (fs := [.int lim, .int sc, .int E, .ref (A 1), .ref (A 3), .ref (A 4), .ref (A 5), .ref (A 6), .int (nI gco1)]) hx hb hts in_X hown hE.K hW hf_x rfl 4 (by decide) (hts _ mw66) (fun _ h9 => h9) rfl d_X_job_15 ?_
    refine gw_new (ci := 3) (fs := [.null, .int 0]) hx hb hts in_Job t_Job t_Job_ok hown (hts _ mw180) (hts _ mw181) (hts _ mw121) hE.K hW hS hB rfl (fun j hj => by rcases (show j = 0 ∨ j = 1 by omega) with rfl | rfl <;> rfl) (Nat.le_of_ble_eq_true rfl) (Nat.le_of_ble_eq_true rfl) d_X_job_18 60 (fun q5 H hq6 hW hS => ?_)
    refine W.widen (k := 1) (n := 2) (Nat.le_refl _) (Nat.le_refl _) ?_
    have hXn : gx_V G A lim sc E j n rs (gw_up Mw q5 60 (.inr (3, [.null, .int 0]))) := hX.newp hq6 (hX.z.new' hq6 (by decide))
    have hPn : gp_S Mw (gw_up Mw q5 60 (.inr (3, [.null, .int 0]))) := gp_new hq6
    have hF7 : gw_fg (gw_out [1, 2, 3, 4, 5, 6, 7, 8, 9, 10, 11, 60]) M (gw_up Mw q5 60 (.inr (3, [.null, .int 0]))) := gw_fg.new hF hq6 (show ¬ ((gw_out [1, 2, 3, 4, 5, 6, 7, 8, 9, 10, 11, 60]) 60) by decide)
    obtain ⟨M8, eM8⟩ : ∃ z, z = gw_up Mw q5 60 (.inr (3, [.null, .int 0])) := ⟨_, rfl⟩
    replace hW : gw_P G.1 vwCl G.2.2.2 M8 H := by rw [eM8]; exact hW
    have hf_x : M8 (A 0) = some (1, .inr (0, [.int lim, .int sc, .int E, .ref (A 1), .ref (A 3), .ref (A 4), .ref (A 5), .ref (A 6), .int (nI gco1)])) := by rw [eM8]; exact gw_keepN hf_x hq6
    have hf_row : M8 (A 1) = some (2, .inr (1, [.ref (A 2), .int (nI rs)])) := by rw [eM8]; exact gw_keepN hf_row hq6
    have hf_nums : M8 (A 2) = some (3, .inl (G.2.1 0, 256, .inl f3o1)) := by rw [eM8]; exact gw_keepN hf_nums hq6
    have hf_gone : M8 (A 6) = some (8, .inl (G.2.1 0, 512, .inl f8o1)) := by rw [eM8]; exact gw_keepN hf_gone hq6
    have hf_q5 : M8 q5 = some (60, .inr (3, [.null, .int 0])) := by rw [eM8]; exact gw_up_self _ _ _ _
    rw [← eM8] at hF7
    rw [← eM8] at hXn hPn
    replace hX := hXn
    clear hXn hPn
    have hp_q5 : gp_R M8 60 q5 := ⟨_, hf_q5⟩
    refine lv_dup hx hb d_X_job_21 rfl ?_
    refine lv_aload_n hx hb d_X_job_22 rfl (lv_at hl 0 rfl) ?_
    refine gw_get (ci := 0) (fs := [.int lim, .int sc, .int E, .ref (A 1), .ref (A 3), .ref (A 4), .ref (A 5), .ref (A 6), .int (nI gco1)]) hx hb hts in_X hown hE.K hW hf_x rfl 3 (by decide) (hts _ mw45) (fun _ h9 => h9) rfl d_X_job_23 ?_
    refine gw_callr hS (va_runVN (As := []) (rest := [.ref q5, .ref q5, .ref (A 3)]) ⟨hx, hb, hml, hown, hts⟩ (v_copy l G M8 A lim sc E j n rs hX   (by omega)) ⟨va_cnB 0 hts (gw_g1 mw182) rfl rfl rfl (hE.nw mw183) (hts _ mw48) (by decide +kernel) ⟨Nat.le_of_ble_eq_true rfl, Nat.le_of_ble_eq_true rfl⟩, hts _ mw184, hts _ mw185⟩ (gw_pv hE hB hS hW rfl hf_row) rfl rfl hl.1 rfl (lv_room (Nat.le_of_ble_eq_true rfl)) d_X_job_26 ⟨Nat.le_of_ble_eq_true rfl, Nat.le_of_ble_eq_true rfl⟩) (fun r9 M10 H locs hw11 hW hS => ?_)
    refine W.widen (k := 2) (n := 258) (Nat.le_refl _) (Nat.le_refl _) ?_
    obtain ⟨hp_13, hX, hfr12⟩ := hw11
    have hF14 : gw_fg (gw_out [1, 2, 3, 4, 5, 6, 7, 8, 9, 10, 11, 60]) M M10 := gw_fg.tr hF7 (gw_fg.wk hfr12 (by decide))
    replace hp_q5 := hfr12.2 _ _ hp_q5
    replace hf_q5 := (hfr12.1 _ _ _ (by decide)).mp hf_q5
    clear hfr12
    refine gw_callv hS (va_runIN (As := [.ref r9]) (rest := [.ref q5, .ref (A 3)]) ⟨hx, hb, hml, hown, hts⟩ (e_jobInit l G M10 q5 r9 hf_q5) ⟨va_cnB 1 hts (gw_g1 mw186) rfl rfl rfl (hE.nw mw187) (hts _ mw121) (by decide +kernel) ⟨Nat.le_of_ble_eq_true rfl, Nat.le_of_ble_eq_true rfl⟩, rfl, hts _ mw188⟩ (gw_ps hE hB hS hW) rfl rfl hl.1 rfl (lv_room (Nat.le_of_ble_eq_true rfl)) d_X_job_29 ⟨Nat.le_of_ble_eq_true rfl, Nat.le_of_ble_eq_true rfl⟩) (fun M15 H locs hw16 hW hS => ?_)
    obtain ⟨hf_q5, hfr17⟩ := hw16
    have hF18 : gw_fg (gw_out [1, 2, 3, 4, 5, 6, 7, 8, 9, 10, 11, 60]) M M15 := gw_fg.tr hF14 (gw_fg.wk hfr17 (by decide))
    replace hX : gx_V G A lim sc E j n rs M15 := hX.stays hfr17.1 (by decide)
    replace hp_q5 := hfr17.2 _ _ hp_q5
    replace hp_13 := hfr17.2 _ _ hp_13
    obtain ⟨M19, eM19⟩ : ∃ z, z = gw_up M15 q5 10 (.inr (3, [.ref r9, .int 0])) := ⟨_, rfl⟩
    have hF20 : gw_fg (gw_out [1, 2, 3, 4, 5, 6, 7, 8, 9, 10, 11, 60]) M M19 := by rw [eM19]; exact gw_fg.rr hF18 (gp_none hF.2 hq6) (by decide)
    replace hW : gw_P G.1 vwCl G.2.2.2 M19 H := by rw [eM19]; exact gw_P.rr hW hf_q5
    replace hX : gx_V G A lim sc E j n rs M19 := by rw [eM19]; exact hX.rr hf_q5 hp_13
    replace hp_13 : gp_R M19 11 r9 := by rw [eM19]; exact gp_rr hf_q5 (by decide) hp_13
    replace hf_q5 : M19 q5 = some (10, .inr (3, [.ref r9, .int 0])) := by rw [eM19]; exact gw_up_self _ _ _ _
    obtain ⟨_, hc21⟩ := hX.jobs.cell
    refine gw_calli hS (va_runV (As := [.ref q5]) (rest := []) ⟨hx, hb, hml, hown, hts⟩ (s_addJ l G M19 (A 3) j q5 r9 0 hX.jobs (by omega) (fun a e q => by obtain ⟨_, _, rfl, _⟩ := hX.z.2.1 a e q; exact ⟨_, rfl⟩) hf_q5) (cwV 1 hts (gw_gv mw159 mw160 mw161 mw14 mw158) rfl rfl rfl (by decide +kernel) ⟨Nat.le_of_ble_eq_true rfl, Nat.le_of_ble_eq_true rfl⟩) (gw_pv hE hB hS hW rfl hc21) rfl rfl hl.1 rfl (lv_room (Nat.le_of_ble_eq_true rfl)) d_X_job_32 ⟨Nat.le_of_ble_eq_true rfl, Nat.le_of_ble_eq_true rfl⟩) (fun r22 M23 H locs hw24 hW hS => ?_)
    refine W.widen (k := 3) (n := 1258) (Nat.le_refl _) (Nat.le_refl _) ?_
    obtain ⟨rfl, hL26, hfr25⟩ := hw24
    replace hX : gx_V G A lim sc E (j + 1) n rs M23 := hX.addJ hfr25.1 hfr25.2 hL26
    have hF27 : gw_fg (gw_out [1, 2, 3, 4, 5, 6, 7, 8, 9, 10, 11, 60]) M M23 := gw_fg.tr hF20 (gw_fg.wk hfr25 (by decide))
    replace hp_13 := hfr25.2 _ _ hp_13
    clear hfr25 hL26
    refine lv_pop hx hb d_X_job_35 rfl ?_
    refine lv_aload_n hx hb d_X_job_36 rfl (lv_at hl 0 rfl) ?_
    obtain ⟨gco28, f3o28, f8o28, hf_x, hf_row, hf_nums, hf_gone, hgco28, hrso28, -, -, -, -⟩ := id hX
    refine gw_get (ci := 0) (fs := [.int lim, .int sc, .int E, .ref (A 1), .ref (A 3), .ref (A 4), .ref (A 5), .ref (A 6), .int (nI gco28)]) hx hb hts in_X hown hE.K hW hf_x rfl 4 (by decide) (hts _ mw66) (fun _ h9 => h9) rfl d_X_job_37 ?_
    obtain ⟨_, hc29⟩ := hX.jobs.cell
    refine gr_calli (va_runV (As := []) (rest := []) ⟨hx, hb, hml, hown, hts⟩ (s_size l G M23 (A 3) 4 6 10 (j + 1) hX.jobs) (cwV 0 hts (gw_gv mw25 mw26 mw27 mw14 mw24) rfl rfl rfl (by decide +kernel) ⟨Nat.le_of_ble_eq_true rfl, Nat.le_of_ble_eq_true rfl⟩) (gw_pv hE hB hS hW rfl hc29) rfl rfl hl.1 rfl (lv_room (Nat.le_of_ble_eq_true rfl)) d_X_job_40 ⟨Nat.le_of_ble_eq_true rfl, Nat.le_of_ble_eq_true rfl⟩) (fun r30 hw31 => ?_)
    subst hw31
    exact gw_iret hx hb hr hlocks hS hW (Nat.le_of_ble_eq_true rfl) (Nat.le_of_ble_eq_true rfl) d_X_job_43 ⟨rfl, hX, hF27⟩
  · exact absurd (nI_lt (b := 40) hj40 (by omega)) c9

set_option maxHeartbeats 4000000 in
set_option maxRecDepth 100000 in
theorem u_jobCalled (l : Launch) (hl9 : l.stackTraces = false) (G : gw_G) (M : gw_M) (A : Nat → Nat) (lim sc E : Int32) (j n rs : Nat) (hX : gx_V G A lim sc E j n rs M) (k : Int32) : gu_Met l y_X_jobCalled [.code y_X_jobCalled b_X_jobCalled 2 (some (.object "Generations$Job"))] ({ frames := 6, cells := 1, slots := 6, locals := 82 }) G M [.ref (A 0), .int k] (gu_Nr (gr_Qr (fun r => gp_R M 10 r)) 1 6) (fun M2 => M = M2) 1 6 := by
  refine gu_start (by decide) (Nat.le_of_ble_eq_true rfl) (fun p9 e9 s m b9 mt9 c9 hEx hx hb hr hml hown hlocks hin hE hB hW ls hl => ?_)
  have hts := hE.ts ([.ref (A 0), .int k] : List Value).toArray
  have hl : lv_has ls 2 [(0, .ref (A 0)), (1, .int k)] := hl
  have hown : s.vm.findClass "Generations" = some m.cls := hown
  have hS : va_S (gw_A G) s.heap s.heap [] := va_S.rf
  have hj9 := hX.jobs.le
  refine lv_iload_n hx hb d_X_jobCalled_0 rfl (lv_at hl 1 rfl) ?_
  refine lv_iconst (v := 1) hx hb d_X_jobCalled_1 (by decide) ?_
  refine lv_icmp_lt (tgt := 16) hx hb d_X_jobCalled_2 (by decide) (fun c2 => ?_) (fun c2 => ?_)
  · exact gu_throwS (own := "Generations") (text := "there is no such job") (names := ["java/lang/RuntimeException", "java/lang/Exception"]) (sa := G.2.2.1 1) hx hb hl9 hown (by decide +kernel) (hts _ mw189) (hts _ mw190) hE.2.2.2.2.2.2.1.1 hE.2.2.2.2.2.2.1.2 (gt_hat hE _ gt_ws3) (hl.1.trans hml.symm) d_X_jobCalled_16 d_X_jobCalled_19 d_X_jobCalled_20 d_X_jobCalled_22 d_X_jobCalled_25 hEx (Nat.le_of_ble_eq_true rfl) (Nat.le_of_ble_eq_true rfl) (Nat.le_of_ble_eq_true rfl) (Nat.le_of_ble_eq_true rfl) (Nat.le_of_ble_eq_true rfl) (Nat.le_of_ble_eq_true rfl) hlocks hW rfl
  · refine lv_iload_n hx hb d_X_jobCalled_5 rfl (lv_at hl 1 rfl) ?_
    refine lv_aload_n hx hb d_X_jobCalled_6 rfl (lv_at hl 0 rfl) ?_
    obtain ⟨gco1, f3o1, f8o1, hf_x, hf_row, hf_nums, hf_gone, hgco1, hrso1, -, -, -, -⟩ := id hX
    refine gw_get (ci := 0) (fs := [.int lim, .int sc, .int E, .ref (A 1), .ref (A 3), .ref (A 4), .ref (A 5), .ref (A 6), .int (nI gco1)]) hx hb hts in_X hown hE.K hW hf_x rfl 4 (by decide) (hts _ mw66) (fun _ h9 => h9) rfl d_X_jobCalled_7 ?_
    obtain ⟨_, hc2⟩ := hX.jobs.cell
    refine gr_calli (va_runV (As := []) (rest := [.int k]) ⟨hx, hb, hml, hown, hts⟩ (s_size l G M (A 3) 4 6 10 j hX.jobs) (cwV 0 hts (gw_gv mw25 mw26 mw27 mw14 mw24) rfl rfl rfl (by decide +kernel) ⟨Nat.le_of_ble_eq_true rfl, Nat.le_of_ble_eq_true rfl⟩) (gw_pv hE hB hS hW rfl hc2) rfl rfl hl.1 rfl (lv_room (Nat.le_of_ble_eq_true rfl)) d_X_jobCalled_10 ⟨Nat.le_of_ble_eq_true rfl, Nat.le_of_ble_eq_true rfl⟩) (fun r3 hw4 => ?_)
    subst hw4
    refine lv_icmp_le (tgt := 26) hx hb d_X_jobCalled_13 (by decide) (fun c13 => ?_) (fun c13 => ?_)
    · refine lv_aload_n hx hb d_X_jobCalled_26 rfl (lv_at hl 0 rfl) ?_
      refine gw_get (ci := 0) (fs := [.int lim, .int sc, .int E, .ref (A 1), .ref (A 3), .ref (A 4), .ref (A 5), .ref (A 6), .int (nI gco1)]) hx hb hts in_X hown hE.K hW hf_x rfl 4 (by decide) (hts _ mw66) (fun _ h9 => h9) rfl d_X_jobCalled_27 ?_
      refine lv_iload_n hx hb d_X_jobCalled_30 rfl (lv_at hl 1 rfl) ?_
      refine lv_iconst (v := 1) hx hb d_X_jobCalled_31 (by decide) ?_
      refine lv_isub hx hb d_X_jobCalled_32 ?_
      obtain ⟨i9, hi9, ei9⟩ := gx_jc c2 c13 (by omega)
      refine W.eq (g2 := F0 m 33 ls [.int (nI i9), .ref (A 3)]) (by rw [ei9]) ?_
      obtain ⟨_, hc5⟩ := hX.jobs.cell
      refine gr_callr (va_runV (As := [.int (nI i9)]) (rest := []) ⟨hx, hb, hml, hown, hts⟩ (s_get l G M (A 3) 4 6 10 j i9 hX.jobs (by omega)) (cwV 1 hts (gw_gv mw30 mw31 mw32 mw14 mw29) rfl rfl rfl (by decide +kernel) ⟨Nat.le_of_ble_eq_true rfl, Nat.le_of_ble_eq_true rfl⟩) (gw_pv hE hB hS hW rfl hc5) rfl rfl hl.1 rfl (lv_room (Nat.le_of_ble_eq_true rfl)) d_X_jobCalled_33 ⟨Nat.le_of_ble_eq_true rfl, Nat.le_of_ble_eq_true rfl⟩) (fun r6 hw7 => ?_)
      obtain ⟨u8t, u8e, hf_u8, hp_u8⟩ := hX.g10 hw7
      refine va_castY hx hb hown (hts _ mw180) (hE.nw mw191) (gw_recv hE.K hW rfl hf_u8) d_X_jobCalled_36 ?_
      exact gu_ofR (gr_aret hx hb hr hlocks (Or.inl ⟨_, rfl⟩) d_X_jobCalled_39 hw7)
    · exact gu_throwS (own := "Generations") (text := "there is no such job") (names := ["java/lang/RuntimeException", "java/lang/Exception"]) (sa := G.2.2.1 1) hx hb hl9 hown (by decide +kernel) (hts _ mw189) (hts _ mw190) hE.2.2.2.2.2.2.1.1 hE.2.2.2.2.2.2.1.2 (gt_hat hE _ gt_ws3) (hl.1.trans hml.symm) d_X_jobCalled_16 d_X_jobCalled_19 d_X_jobCalled_20 d_X_jobCalled_22 d_X_jobCalled_25 hEx (Nat.le_of_ble_eq_true rfl) (Nat.le_of_ble_eq_true rfl) (Nat.le_of_ble_eq_true rfl) (Nat.le_of_ble_eq_true rfl) (Nat.le_of_ble_eq_true rfl) (Nat.le_of_ble_eq_true rfl) hlocks hW rfl
