set_option maxHeartbeats 4000000 in
set_option maxRecDepth 100000 in
theorem c_copyOf (l : Launch) (G : gw_G) (M : gw_M) (nums : Nat) (hf_nums : M nums = some (3, .inl (G.2.1 0, 256, .inl (fun _ => 0)))) : Met l y_Ars_copyOf [.code y_Ars_copyOf b_Ars_copyOf 3 (some (.array .int))] ({ frames := 1, cells := 1, slots := 0, locals := 40 }) (gw_Pc G M [.ref nums, .int 0]) (gw_Qr G (fun r M2 => ∃ (c : Nat) (cf : Nat → Int32), c = r ∧ M2 c = some (11, .inl (G.2.1 0, 0, .inl cf)) ∧ gw_fr (gw_out [11]) M M2)) 1 0 (gw_A G) := by
  refine gw_start (by decide) (Nat.le_of_ble_eq_true rfl) (fun p9 e9 s m b9 mt9 c9 hx hb hr hml hown hlocks hin hE hB hW ls hl => ?_)
  have hts := hE.ts ([.ref nums, .int 0] : List Value).toArray
  have hl : lv_has ls 3 [(0, .ref nums), (1, .int 0)] := hl
  have hS : va_S (gw_A G) s.heap s.heap [] := va_S.rf
  have hown : s.vm.findClass "java/util/Arrays" = some m.cls := hown
  refine lv_iload_n hx hb d_Ars_copyOf_0 rfl (lv_at hl 1 rfl) ?_
  refine lv_aload_n hx hb d_Ars_copyOf_1 rfl (lv_at hl 0 rfl) ?_
  refine gw_alen (v := 256) hx hb hE.K hW 0 hf_nums rfl rfl d_Ars_copyOf_2 ?_
  refine lv_icmp_ne (tgt := 14) hx hb d_Ars_copyOf_3 (by decide) (fun c3 => ?_) (fun c3 => ?_)
  · refine lv_iload_n hx hb d_Ars_copyOf_14 rfl (lv_at hl 1 rfl) ?_
    refine gw_newa (atype := .int) (ty := .int) (n := 0) (a0 := (0, .inl (fun _ => 0))) (N' := 0) hx hb (hts (.arrayClass .int) mw3) rfl hE.K hW hS hB (gw_zi 0) (by decide) (by decide) (Nat.le_of_ble_eq_true rfl) (Nat.le_of_ble_eq_true rfl) (Nat.le_of_ble_eq_true rfl) d_Ars_copyOf_15 0 rfl (fun cA h1 h2 => gw_ri _ _ h1 h2) 11 (fun q1 H hq2 hW hS => ?_)
    refine W.widen (k := 1) (n := 0) (Nat.le_refl _) (Nat.le_refl _) ?_
    have hF3 : gw_fr (gw_out [11]) M (gw_up M q1 11 (.inl (G.2.1 0, 0, .inl (fun _ => 0)))) := gw_fr.new gw_fr.rf hq2 (show ¬ ((gw_out [11]) 11) by decide)
    obtain ⟨M4, eM4⟩ : ∃ z, z = gw_up M q1 11 (.inl (G.2.1 0, 0, .inl (fun _ => 0))) := ⟨_, rfl⟩
    replace hW : gw_P G.1 vwCl G.2.2.2 M4 H := by rw [eM4]; exact hW
    have hf_nums : M4 nums = some (3, .inl (G.2.1 0, 256, .inl (fun _ => 0))) := by rw [eM4]; exact gw_keepN hf_nums hq2
    have hf_q1 : M4 q1 = some (11, .inl (G.2.1 0, 0, .inl (fun _ => 0))) := by rw [eM4]; exact gw_up_self _ _ _ _
    rw [← eM4] at hF3
    refine lv_astore_n (lv' := [(2, .ref q1), (0, .ref nums), (1, .int 0)]) hx hb d_Ars_copyOf_17 rfl hl (by decide) rfl (fun ls hl => ?_)
    refine lv_aload_n hx hb d_Ars_copyOf_18 rfl (lv_at hl 1 rfl) ?_
    refine lv_iconst (v := 0) hx hb d_Ars_copyOf_19 (by decide) ?_
    refine lv_aload_n hx hb d_Ars_copyOf_20 rfl (lv_at hl 0 rfl) ?_
    refine lv_iconst (v := 0) hx hb d_Ars_copyOf_21 (by decide) ?_
    refine lv_aload_n hx hb d_Ars_copyOf_22 rfl (lv_at hl 1 rfl) ?_
    refine gw_alen (v := 256) hx hb hE.K hW 0 hf_nums rfl rfl d_Ars_copyOf_23 ?_
    refine lv_iload_n hx hb d_Ars_copyOf_24 rfl (lv_at hl 2 rfl) ?_
    refine va_mmin (x := 256) (y := 0) hx hb (hml.trans hl.1.symm) hown (hts _ mw119) (hts _ mw46) (hts _ mw47) (hts _ mw48) (Nat.le_of_ble_eq_true rfl) (Nat.le_of_ble_eq_true rfl) (Nat.le_of_ble_eq_true rfl) (Nat.le_of_ble_eq_true rfl) d_Ars_copyOf_25 ?_
    refine gw_copyi (sp := 0) (dp := 0) (n := if 0 < 256 then 0 else 256) hx hb (hml.trans hl.1.symm) hown (hts _ mw120) (hts _ mw121) (hts _ mw122) (hts _ mw123) hE.K hW hS 0 0 hf_nums hf_q1 rfl rfl (by decide) (by decide) (by decide) (by decide) (by decide) (Nat.le_of_ble_eq_true rfl) (Nat.le_of_ble_eq_true rfl) d_Ars_copyOf_28 (fun H locs hW hS => ?_)
    have hF5 : gw_fr (gw_out [11]) M (gw_up M4 q1 11 (.inl (G.2.1 0, 0, .inl (va_cpy (fun _ => 0) (fun _ => 0) (0 : Int32).toNatClampNeg (0 : Int32).toNatClampNeg (if 0 < 256 then 0 else 256 : Int32).toNatClampNeg)))) := gw_fr.up hF3 hf_q1 (show ¬ ((gw_out [11]) 11) by decide) (show ¬ ((gw_out [11]) 11) by decide)
    obtain ⟨M6, eM6⟩ : ∃ z, z = gw_up M4 q1 11 (.inl (G.2.1 0, 0, .inl (va_cpy (fun _ => 0) (fun _ => 0) (0 : Int32).toNatClampNeg (0 : Int32).toNatClampNeg (if 0 < 256 then 0 else 256 : Int32).toNatClampNeg))) := ⟨_, rfl⟩
    replace hW : gw_P G.1 vwCl G.2.2.2 M6 H := by rw [eM6]; exact hW
    have hf_nums : M6 nums = some (3, .inl (G.2.1 0, 256, .inl (fun _ => 0))) := by rw [eM6]; exact gw_keep hf_nums hf_q1 (by decide)
    have hf_q1 : M6 q1 = some (11, .inl (G.2.1 0, 0, .inl (va_cpy (fun _ => 0) (fun _ => 0) (0 : Int32).toNatClampNeg (0 : Int32).toNatClampNeg (if 0 < 256 then 0 else 256 : Int32).toNatClampNeg))) := by rw [eM6]; exact gw_up_self _ _ _ _
    rw [← eM6] at hF5
    refine lv_aload_n hx hb d_Ars_copyOf_31 rfl (lv_at hl 0 rfl) ?_
    exact gw_aret hx hb hr hlocks (Or.inr ⟨_, rfl⟩) hS hW (Nat.le_of_ble_eq_true rfl) (Nat.le_of_ble_eq_true rfl) d_Ars_copyOf_32 (⟨q1, va_cpy (fun _ => 0) (fun _ => 0) (0 : Int32).toNatClampNeg (0 : Int32).toNatClampNeg (if 0 < 256 then 0 else 256 : Int32).toNatClampNeg, rfl, hf_q1, hF5⟩)
  · exact absurd c3 (by decide)

set_option maxHeartbeats 4000000 in
set_option maxRecDepth 100000 in
theorem c_Row_copy (l : Launch) (G : gw_G) (M : gw_M) (row : Nat) (nums : Nat) (hf_row : M row = some (2, .inr (1, [.ref nums, .int 0]))) (hf_nums : M nums = some (3, .inl (G.2.1 0, 256, .inl (fun _ => 0)))) : Met l y_Row_copy [.code y_Row_copy b_Row_copy 1 (some (.array .int))] ({ frames := 2, cells := 1, slots := 0, locals := 62 }) (gw_Pc G M [.ref row]) (gw_Qr G (fun r M2 => ∃ (c : Nat) (cf : Nat → Int32), c = r ∧ M2 c = some (11, .inl (G.2.1 0, 0, .inl cf)) ∧ gw_fr (gw_out [11]) M M2)) 1 0 (gw_A G) := by
  refine gw_start (by decide) (Nat.le_of_ble_eq_true rfl) (fun p9 e9 s m b9 mt9 c9 hx hb hr hml hown hlocks hin hE hB hW ls hl => ?_)
  have hts := hE.ts ([.ref row] : List Value).toArray
  have hl : lv_has ls 1 [(0, .ref row)] := hl
  have hS : va_S (gw_A G) s.heap s.heap [] := va_S.rf
  have hown : s.vm.findClass "Generations$Row" = some m.cls := hown
  refine lv_aload_n hx hb d_Row_copy_0 rfl (lv_at hl 0 rfl) ?_
  refine gw_get (ci := 1) (fs := [.ref nums, .int 0]) hx hb hts in_Row hown hE.K hW hf_row rfl 0 (by decide) (hts _ mw4) (fun _ h9 => h9) rfl d_Row_copy_1 ?_
  refine lv_aload_n hx hb d_Row_copy_4 rfl (lv_at hl 0 rfl) ?_
  refine gw_get (ci := 1) (fs := [.ref nums, .int 0]) hx hb hts in_Row hown hE.K hW hf_row rfl 1 (by decide) (hts _ mw89) (fun _ h9 => h9) rfl d_Row_copy_5 ?_
  refine gw_callr hS (va_runS (As := [.ref nums, .int 0]) (rest := []) ⟨hx, hb, hml, hown, hts⟩ (c_copyOf l G M nums hf_nums ) (va_cwS 2 hts (gw_gt mw125 mw126 mw127 mw124) rfl rfl rfl (by decide +kernel) ⟨Nat.le_of_ble_eq_true rfl, Nat.le_of_ble_eq_true rfl⟩) (gw_ps hE hB hS hW) rfl rfl hl.1 rfl (lv_room (Nat.le_of_ble_eq_true rfl)) d_Row_copy_8 ⟨Nat.le_of_ble_eq_true rfl, Nat.le_of_ble_eq_true rfl⟩) (fun r1 M2 H locs hw3 hW hS => ?_)
  refine W.widen (k := 1) (n := 0) (Nat.le_refl _) (Nat.le_refl _) ?_
  obtain ⟨c4, cf5, rfl, hf_c4', hfr6⟩ := hw3
  have hf_row : M2 row = some (2, .inr (1, [.ref nums, .int 0])) := (hfr6 _ _ _ (by decide)).mp hf_row
  have hf_nums : M2 nums = some (3, .inl (G.2.1 0, 256, .inl (fun _ => 0))) := (hfr6 _ _ _ (by decide)).mp hf_nums
  have hf_c4 : M2 c4 = some (11, .inl (G.2.1 0, 0, .inl cf5)) := hf_c4'
  have hF7 : gw_fr (gw_out [11]) M M2 := gw_fr.tr gw_fr.rf (gw_fr.wk hfr6 (by decide))
  exact gw_aret hx hb hr hlocks (Or.inr ⟨_, rfl⟩) hS hW (Nat.le_of_ble_eq_true rfl) (Nat.le_of_ble_eq_true rfl) d_Row_copy_11 (⟨c4, cf5, rfl, hf_c4, hF7⟩)

set_option maxHeartbeats 4000000 in
set_option maxRecDepth 100000 in
theorem c_Job_init (l : Launch) (G : gw_G) (M : gw_M) (a : Nat) (k : Nat) (hf_a : M a = some (10, .inr (3, [.null, .int 0]))) : Met l y_Job_init [.code y_Job_init b_Job_init 2 none] ({ frames := 1, cells := 0, slots := 0, locals := 12 }) (gw_Pc G M [.ref a, .ref k]) (gw_Qv G (fun M2 => M2 a = some (10, .inr (3, [.ref k, .int 0])) ∧ gw_fr (gw_out [10]) M M2)) 0 0 (gw_A G) := by
  refine gw_start (by decide) (Nat.le_of_ble_eq_true rfl) (fun p9 e9 s m b9 mt9 c9 hx hb hr hml hown hlocks hin hE hB hW ls hl => ?_)
  have hts := hE.ts ([.ref a, .ref k] : List Value).toArray
  have hl : lv_has ls 2 [(0, .ref a), (1, .ref k)] := hl
  have hS : va_S (gw_A G) s.heap s.heap [] := va_S.rf
  have hown : s.vm.findClass "Generations$Job" = some m.cls := hown
  have hin : mt9.name = "<init>" := hin
  refine lv_aload_n hx hb d_Job_init_0 rfl (lv_at hl 0 rfl) ?_
  refine W.objInit hx hb hown (hts _ mw128) (hts _ mw1) (hts _ mw2) rfl (by rw [hml]; exact hl.1) rfl d_Job_init_1 (Nat.le_of_ble_eq_true rfl) (Nat.le_of_ble_eq_true rfl) ?_
  refine W.eq (g2 := F0 m 4 ls []) rfl ?_
  refine lv_aload_n hx hb d_Job_init_4 rfl (lv_at hl 0 rfl) ?_
  refine lv_aload_n hx hb d_Job_init_5 rfl (lv_at hl 1 rfl) ?_
  refine gw_putF (ci := 3) (fs := [.null, .int 0]) (v := .ref k) (ty := .array .int) hx hb hts in_Job t_Job t_Job_ok n_Job hown hE.K hW hS hf_a rfl 0 (by decide) (hts _ mw129) (fun _ h9 => h9) rfl hin rfl (by decide +kernel) rfl rfl (Nat.le_of_ble_eq_true rfl) d_Job_init_6 (fun H locs hW hS => ?_)
  have hF1 : gw_fr (gw_out [10]) M (gw_up M a 10 (.inr (3, [.ref k, .int 0]))) := gw_fr.up gw_fr.rf hf_a (show ¬ ((gw_out [10]) 10) by decide) (show ¬ ((gw_out [10]) 10) by decide)
  obtain ⟨M2, eM2⟩ : ∃ z, z = gw_up M a 10 (.inr (3, [.ref k, .int 0])) := ⟨_, rfl⟩
  replace hW : gw_P G.1 vwCl G.2.2.2 M2 H := by rw [eM2]; exact hW
  have hf_a : M2 a = some (10, .inr (3, [.ref k, .int 0])) := by rw [eM2]; exact gw_up_self _ _ _ _
  rw [← eM2] at hF1
  exact gw_vret hx hb hr hlocks hS hW (Nat.le_of_ble_eq_true rfl) (Nat.le_of_ble_eq_true rfl) d_Job_init_9 (⟨hf_a, hF1⟩)

set_option maxHeartbeats 4000000 in
set_option maxRecDepth 100000 in
theorem c_job (l : Launch) (G : gw_G) (M : gw_M) (x : Nat) (row : Nat) (nums : Nat) (jobs : Nat) (known : Nat) (nowh : Nat) (gone : Nat) (lim : Int32) (sc : Int32) (hf_x : M x = some (1, .inr (0, [.int lim, .int sc, .int 0, .ref row, .ref jobs, .ref known, .ref nowh, .ref gone, .int 0]))) (hf_row : M row = some (2, .inr (1, [.ref nums, .int 0]))) (hf_nums : M nums = some (3, .inl (G.2.1 0, 256, .inl (fun _ => 0)))) (hf_jobs : M jobs = some (4, .inr (4, [.int 0, .ref (G.2.2.1 0), .int 0]))) : Met l y_X_job [.code y_X_job b_X_job 1 (some .int)] ({ frames := 5, cells := 3, slots := 12, locals := 101 }) (gw_Pc G M [.ref x]) (gw_Qi G (fun r M2 => 1 = r ∧ gw_fr (gw_out [4, 6, 10, 11]) M M2)) 3 12 (gw_A G) := by
  refine gw_start (by decide) (Nat.le_of_ble_eq_true rfl) (fun p9 e9 s m b9 mt9 c9 hx hb hr hml hown hlocks hin hE hB hW ls hl => ?_)
  have hts := hE.ts ([.ref x] : List Value).toArray
  have hl : lv_has ls 1 [(0, .ref x)] := hl
  have hS : va_S (gw_A G) s.heap s.heap [] := va_S.rf
  have hown : s.vm.findClass "Generations" = some m.cls := hown
  refine lv_aload_n hx hb d_X_job_0 rfl (lv_at hl 0 rfl) ?_
  refine gw_get (ci := 0) (fs := [.int lim, .int sc, .int 0, .ref row, .ref jobs, .ref known, .ref nowh, .ref gone, .int 0]) hx hb hts in_X hown hE.K hW hf_x rfl 4 (by decide) (hts _ mw35) (fun _ h9 => h9) rfl d_X_job_1 ?_
  refine gw_calli hS (va_runV (As := []) (rest := []) ⟨hx, hb, hml, hown, hts⟩ (c_AL_size l G M jobs 4 0 (G.2.2.1 0) 0 hf_jobs ) (cwV 0 hts (gw_gv mw58 mw59 mw60 mw31 mw57) rfl rfl rfl (by decide +kernel) ⟨Nat.le_of_ble_eq_true rfl, Nat.le_of_ble_eq_true rfl⟩) (gw_pv hE hB hS hW rfl hf_jobs) rfl rfl hl.1 rfl (lv_room (Nat.le_of_ble_eq_true rfl)) d_X_job_4 ⟨Nat.le_of_ble_eq_true rfl, Nat.le_of_ble_eq_true rfl⟩) (fun r1 M2 H locs hw3 hW hS => ?_)
  obtain ⟨rfl, rfl⟩ := hw3
  refine lv_bipush (v := 40) hx hb d_X_job_7 (by decide) ?_
  refine lv_icmp_lt (tgt := 14) hx hb d_X_job_9 (by decide) (fun c9 => ?_) (fun c9 => ?_)
  · refine lv_aload_n hx hb d_X_job_14 rfl (lv_at hl 0 rfl) ?_
    refine gw_get (ci := 0) (fs := [.int lim, .int sc, .int 0, .ref row, .ref jobs, .ref known, .ref nowh, .ref gone, .int 0]) hx hb hts in_X hown hE.K hW hf_x rfl 4 (by decide) (hts _ mw35) (fun _ h9 => h9) rfl d_X_job_15 ?_
    refine gw_new (ci := 3) (fs := [.null, .int 0]) hx hb hts in_Job t_Job t_Job_ok hown (hts _ mw130) (hts _ mw131) (hts _ mw132) hE.K hW hS hB rfl (fun j hj => by rcases (show j = 0 ∨ j = 1 by omega) with rfl | rfl <;> rfl) (Nat.le_of_ble_eq_true rfl) (Nat.le_of_ble_eq_true rfl) d_X_job_18 10 (fun q4 H hq5 hW hS => ?_)
    refine W.widen (k := 1) (n := 2) (Nat.le_refl _) (Nat.le_refl _) ?_
    have hF6 : gw_fr (gw_out [4, 6, 10, 11]) M (gw_up M q4 10 (.inr (3, [.null, .int 0]))) := gw_fr.new gw_fr.rf hq5 (show ¬ ((gw_out [4, 6, 10, 11]) 10) by decide)
    obtain ⟨M7, eM7⟩ : ∃ z, z = gw_up M q4 10 (.inr (3, [.null, .int 0])) := ⟨_, rfl⟩
    replace hW : gw_P G.1 vwCl G.2.2.2 M7 H := by rw [eM7]; exact hW
    have hf_x : M7 x = some (1, .inr (0, [.int lim, .int sc, .int 0, .ref row, .ref jobs, .ref known, .ref nowh, .ref gone, .int 0])) := by rw [eM7]; exact gw_keepN hf_x hq5
    have hf_row : M7 row = some (2, .inr (1, [.ref nums, .int 0])) := by rw [eM7]; exact gw_keepN hf_row hq5
    have hf_nums : M7 nums = some (3, .inl (G.2.1 0, 256, .inl (fun _ => 0))) := by rw [eM7]; exact gw_keepN hf_nums hq5
    have hf_jobs : M7 jobs = some (4, .inr (4, [.int 0, .ref (G.2.2.1 0), .int 0])) := by rw [eM7]; exact gw_keepN hf_jobs hq5
    have hf_q4 : M7 q4 = some (10, .inr (3, [.null, .int 0])) := by rw [eM7]; exact gw_up_self _ _ _ _
    rw [← eM7] at hF6
    refine lv_dup hx hb d_X_job_21 rfl ?_
    refine lv_aload_n hx hb d_X_job_22 rfl (lv_at hl 0 rfl) ?_
    refine gw_get (ci := 0) (fs := [.int lim, .int sc, .int 0, .ref row, .ref jobs, .ref known, .ref nowh, .ref gone, .int 0]) hx hb hts in_X hown hE.K hW hf_x rfl 3 (by decide) (hts _ mw28) (fun _ h9 => h9) rfl d_X_job_23 ?_
    refine gw_callr hS (va_runVN (As := []) (rest := [.ref q4, .ref q4, .ref jobs]) ⟨hx, hb, hml, hown, hts⟩ (c_Row_copy l G M7 row nums hf_row hf_nums ) ⟨va_cnB 0 hts (gw_g1 mw133) rfl rfl rfl (hE.nw mw134) (hts _ mw24) (by decide +kernel) ⟨Nat.le_of_ble_eq_true rfl, Nat.le_of_ble_eq_true rfl⟩, hts _ mw135, hts _ mw136⟩ (gw_pv hE hB hS hW rfl hf_row) rfl rfl hl.1 rfl (lv_room (Nat.le_of_ble_eq_true rfl)) d_X_job_26 ⟨Nat.le_of_ble_eq_true rfl, Nat.le_of_ble_eq_true rfl⟩) (fun r8 M9 H locs hw10 hW hS => ?_)
    refine W.widen (k := 2) (n := 2) (Nat.le_refl _) (Nat.le_refl _) ?_
    obtain ⟨c11, cf12, rfl, hf_c11', hfr13⟩ := hw10
    have hf_x : M9 x = some (1, .inr (0, [.int lim, .int sc, .int 0, .ref row, .ref jobs, .ref known, .ref nowh, .ref gone, .int 0])) := (hfr13 _ _ _ (by decide)).mp hf_x
    have hf_row : M9 row = some (2, .inr (1, [.ref nums, .int 0])) := (hfr13 _ _ _ (by decide)).mp hf_row
    have hf_nums : M9 nums = some (3, .inl (G.2.1 0, 256, .inl (fun _ => 0))) := (hfr13 _ _ _ (by decide)).mp hf_nums
    have hf_jobs : M9 jobs = some (4, .inr (4, [.int 0, .ref (G.2.2.1 0), .int 0])) := (hfr13 _ _ _ (by decide)).mp hf_jobs
    have hf_q4 : M9 q4 = some (10, .inr (3, [.null, .int 0])) := (hfr13 _ _ _ (by decide)).mp hf_q4
    have hf_c11 : M9 c11 = some (11, .inl (G.2.1 0, 0, .inl cf12)) := hf_c11'
    have hF14 : gw_fr (gw_out [4, 6, 10, 11]) M M9 := gw_fr.tr hF6 (gw_fr.wk hfr13 (by decide))
    refine gw_callv hS (va_runIN (As := [.ref c11]) (rest := [.ref q4, .ref jobs]) ⟨hx, hb, hml, hown, hts⟩ (c_Job_init l G M9 q4 c11 hf_q4 ) ⟨va_cnB 1 hts (gw_g1 mw137) rfl rfl rfl (hE.nw mw138) (hts _ mw132) (by decide +kernel) ⟨Nat.le_of_ble_eq_true rfl, Nat.le_of_ble_eq_true rfl⟩, rfl, hts _ mw139⟩ (gw_ps hE hB hS hW) rfl rfl hl.1 rfl (lv_room (Nat.le_of_ble_eq_true rfl)) d_X_job_29 ⟨Nat.le_of_ble_eq_true rfl, Nat.le_of_ble_eq_true rfl⟩) (fun M16 H locs hw17 hW hS => ?_)
    obtain ⟨hf_q4', hfr18⟩ := hw17
    have hf_c11 : M16 c11 = some (11, .inl (G.2.1 0, 0, .inl cf12)) := (hfr18 _ _ _ (by decide)).mp hf_c11
    have hf_x : M16 x = some (1, .inr (0, [.int lim, .int sc, .int 0, .ref row, .ref jobs, .ref known, .ref nowh, .ref gone, .int 0])) := (hfr18 _ _ _ (by decide)).mp hf_x
    have hf_row : M16 row = some (2, .inr (1, [.ref nums, .int 0])) := (hfr18 _ _ _ (by decide)).mp hf_row
    have hf_nums : M16 nums = some (3, .inl (G.2.1 0, 256, .inl (fun _ => 0))) := (hfr18 _ _ _ (by decide)).mp hf_nums
    have hf_jobs : M16 jobs = some (4, .inr (4, [.int 0, .ref (G.2.2.1 0), .int 0])) := (hfr18 _ _ _ (by decide)).mp hf_jobs
    have hf_q4 : M16 q4 = some (10, .inr (3, [.ref c11, .int 0])) := hf_q4'
    have hF19 : gw_fr (gw_out [4, 6, 10, 11]) M M16 := gw_fr.tr hF14 (gw_fr.wk hfr18 (by decide))
    refine gw_calli hS (va_runV (As := [.ref q4]) (rest := []) ⟨hx, hb, hml, hown, hts⟩ (c_AL_addJ l G M16 jobs q4 c11 hf_jobs hf_q4 ) (cwV 1 hts (gw_gv mw86 mw87 mw88 mw31 mw85) rfl rfl rfl (by decide +kernel) ⟨Nat.le_of_ble_eq_true rfl, Nat.le_of_ble_eq_true rfl⟩) (gw_pv hE hB hS hW rfl hf_jobs) rfl rfl hl.1 rfl (lv_room (Nat.le_of_ble_eq_true rfl)) d_X_job_32 ⟨Nat.le_of_ble_eq_true rfl, Nat.le_of_ble_eq_true rfl⟩) (fun r20 M21 H locs hw22 hW hS => ?_)
    refine W.widen (k := 3) (n := 12) (Nat.le_refl _) (Nat.le_refl _) ?_
    obtain ⟨ar23, rfl, hf_jobs', hf_ar23', hfr24⟩ := hw22
    have hf_q4 : M21 q4 = some (10, .inr (3, [.ref c11, .int 0])) := (hfr24 _ _ _ (by decide)).mp hf_q4
    have hf_c11 : M21 c11 = some (11, .inl (G.2.1 0, 0, .inl cf12)) := (hfr24 _ _ _ (by decide)).mp hf_c11
    have hf_x : M21 x = some (1, .inr (0, [.int lim, .int sc, .int 0, .ref row, .ref jobs, .ref known, .ref nowh, .ref gone, .int 0])) := (hfr24 _ _ _ (by decide)).mp hf_x
    have hf_row : M21 row = some (2, .inr (1, [.ref nums, .int 0])) := (hfr24 _ _ _ (by decide)).mp hf_row
    have hf_nums : M21 nums = some (3, .inl (G.2.1 0, 256, .inl (fun _ => 0))) := (hfr24 _ _ _ (by decide)).mp hf_nums
    have hf_jobs : M21 jobs = some (4, .inr (4, [.int (0 + 1), .ref ar23, .int (0 + 1)])) := hf_jobs'
    have hf_ar23 : M21 ar23 = some (6, .inl (G.2.1 1, 10, .inr (.inr (.inr (.inr (va_up (fun _ => none) (0 : Int32).toNatClampNeg (some q4))))))) := hf_ar23'
    have hF25 : gw_fr (gw_out [4, 6, 10, 11]) M M21 := gw_fr.tr hF19 (gw_fr.wk hfr24 (by decide))
    refine lv_pop hx hb d_X_job_35 rfl ?_
    refine lv_aload_n hx hb d_X_job_36 rfl (lv_at hl 0 rfl) ?_
    refine gw_get (ci := 0) (fs := [.int lim, .int sc, .int 0, .ref row, .ref jobs, .ref known, .ref nowh, .ref gone, .int 0]) hx hb hts in_X hown hE.K hW hf_x rfl 4 (by decide) (hts _ mw35) (fun _ h9 => h9) rfl d_X_job_37 ?_
    refine gw_calli hS (va_runV (As := []) (rest := []) ⟨hx, hb, hml, hown, hts⟩ (c_AL_size l G M21 jobs 4 (0 + 1) ar23 (0 + 1) hf_jobs ) (cwV 0 hts (gw_gv mw58 mw59 mw60 mw31 mw57) rfl rfl rfl (by decide +kernel) ⟨Nat.le_of_ble_eq_true rfl, Nat.le_of_ble_eq_true rfl⟩) (gw_pv hE hB hS hW rfl hf_jobs) rfl rfl hl.1 rfl (lv_room (Nat.le_of_ble_eq_true rfl)) d_X_job_40 ⟨Nat.le_of_ble_eq_true rfl, Nat.le_of_ble_eq_true rfl⟩) (fun r26 M27 H locs hw28 hW hS => ?_)
    obtain ⟨rfl, rfl⟩ := hw28
    exact gw_iret hx hb hr hlocks hS hW (Nat.le_of_ble_eq_true rfl) (Nat.le_of_ble_eq_true rfl) d_X_job_43 (⟨(by decide), hF25⟩)
  · exact absurd c9 (by decide)
