set_option maxHeartbeats 4000000 in
set_option maxRecDepth 100000 in
theorem v_copyOf (l : Launch) (G : gw_G) (M : gw_M) (A : Nat → Nat) (lim sc E : Int32) (j n rs : Nat) (hX : gx_V G A lim sc E j n rs M) (h255 : rs ≤ 255) : Met l y_Ars_copyOf3 [.code y_Ars_copyOf3 b_Ars_copyOf3 3 (some (.array .int))] ({ frames := 1, cells := 1, slots := 256, locals := 40 }) (gw_Pc G M [.ref (A 2), .int (nI rs)]) (gw_Qr G (fun r M2 => gp_R M2 11 r ∧ gx_V G A lim sc E j n rs M2 ∧ gw_fg (gw_out [1, 2, 3, 4, 5, 6, 7, 8, 9, 10, 11]) M M2)) 1 256 (gw_A G) := by
  refine gw_start (by decide) (Nat.le_of_ble_eq_true rfl) (fun p9 e9 s m b9 mt9 c9 hx hb hr hml hown hlocks hin hE hB hW ls hl => ?_)
  have hts := hE.ts ([.ref (A 2), .int (nI rs)] : List Value).toArray
  have hl : lv_has ls 3 [(0, .ref (A 2)), (1, .int (nI rs))] := hl
  have hown : s.vm.findClass "java/util/Arrays" = some m.cls := hown
  have hj9 := hX.jobs.le
  have hn9 := hX.known.le
  have hr9 := hX.rs256
  refine gw_gen (I := fun z => gx_V G A lim sc E j n rs z) (P := gw_out [1, 2, 3, 4, 5, 6, 7, 8, 9, 10, 11]) hX hW (fun H locs Mw hW hS hX hF => ?_)
  have hX : gx_V G A lim sc E j n rs Mw := hX
  refine lv_iload_n hx hb d_Ars_copyOf3_0 rfl (lv_at hl 1 rfl) ?_
  refine lv_aload_n hx hb d_Ars_copyOf3_1 rfl (lv_at hl 0 rfl) ?_
  obtain ⟨gco1, f3o1, f8o1, hf_x, hf_row, hf_nums, hf_gone, hgco1, hrso1, -, -, -, -⟩ := id hX
  refine gw_alen (v := 256) hx hb hE.K hW 0 hf_nums rfl rfl d_Ars_copyOf3_2 ?_
  refine lv_icmp_ne (tgt := 14) hx hb d_Ars_copyOf3_3 (by decide) (fun c3 => ?_) (fun c3 => ?_)
  · refine lv_iload_n hx hb d_Ars_copyOf3_14 rfl (lv_at hl 1 rfl) ?_
    refine gw_newa (atype := .int) (ty := .int) (n := nI rs) (a0 := (rs, .inl (fun _ => 0))) (N' := rs) hx hb (hts (.arrayClass .int) mw175) rfl hE.K hW hS hB (gw_zi rs) (nI_pos (by omega)) (nI_clamp (by omega)) (show rs * 4 ≤ 536870912 by omega) (Nat.le_of_ble_eq_true rfl) (by show 0 + rs ≤ 256; omega) d_Ars_copyOf3_15 0 rfl (fun cA h1 h2 => gw_ri _ _ h1 h2) 11 (fun q2 H hq3 hW hS => ?_)
    refine W.widen (k := 1) (n := 256) (Nat.le_refl _) (by omega) ?_
    have hXn : gx_V G A lim sc E j n rs (gw_up Mw q2 11 (.inl (G.2.1 0, rs, .inl (fun _ => 0)))) := hX.newp hq3 (hX.z.new hq3 (fun q => absurd q (by decide)) (fun q => absurd q (by decide)) (fun _ => ⟨_, _, by omega, rfl⟩))
    have hPn : gp_S Mw (gw_up Mw q2 11 (.inl (G.2.1 0, rs, .inl (fun _ => 0)))) := gp_new hq3
    have hF4 : gw_fg (gw_out [1, 2, 3, 4, 5, 6, 7, 8, 9, 10, 11]) M (gw_up Mw q2 11 (.inl (G.2.1 0, rs, .inl (fun _ => 0)))) := gw_fg.new hF hq3 (show ¬ ((gw_out [1, 2, 3, 4, 5, 6, 7, 8, 9, 10, 11]) 11) by decide)
    obtain ⟨M5, eM5⟩ : ∃ z, z = gw_up Mw q2 11 (.inl (G.2.1 0, rs, .inl (fun _ => 0))) := ⟨_, rfl⟩
    replace hW : gw_P G.1 vwCl G.2.2.2 M5 H := by rw [eM5]; exact hW
    have hf_x : M5 (A 0) = some (1, .inr (0, [.int lim, .int sc, .int E, .ref (A 1), .ref (A 3), .ref (A 4), .ref (A 5), .ref (A 6), .int (nI gco1)])) := by rw [eM5]; exact gw_keepN hf_x hq3
    have hf_row : M5 (A 1) = some (2, .inr (1, [.ref (A 2), .int (nI rs)])) := by rw [eM5]; exact gw_keepN hf_row hq3
    have hf_nums : M5 (A 2) = some (3, .inl (G.2.1 0, 256, .inl f3o1)) := by rw [eM5]; exact gw_keepN hf_nums hq3
    have hf_gone : M5 (A 6) = some (8, .inl (G.2.1 0, 512, .inl f8o1)) := by rw [eM5]; exact gw_keepN hf_gone hq3
    have hf_q2 : M5 q2 = some (11, .inl (G.2.1 0, rs, .inl (fun _ => 0))) := by rw [eM5]; exact gw_up_self _ _ _ _
    rw [← eM5] at hF4
    rw [← eM5] at hXn hPn
    replace hX := hXn
    clear hXn hPn
    have hp_q2 : gp_R M5 11 q2 := ⟨_, hf_q2⟩
    refine lv_astore_n (lv' := [(2, .ref q2), (0, .ref (A 2)), (1, .int (nI rs))]) hx hb d_Ars_copyOf3_17 rfl hl (by decide) rfl (fun ls hl => ?_)
    refine lv_aload_n hx hb d_Ars_copyOf3_18 rfl (lv_at hl 1 rfl) ?_
    refine lv_iconst (v := 0) hx hb d_Ars_copyOf3_19 (by decide) ?_
    refine lv_aload_n hx hb d_Ars_copyOf3_20 rfl (lv_at hl 0 rfl) ?_
    refine lv_iconst (v := 0) hx hb d_Ars_copyOf3_21 (by decide) ?_
    refine lv_aload_n hx hb d_Ars_copyOf3_22 rfl (lv_at hl 1 rfl) ?_
    refine gw_alen (v := 256) hx hb hE.K hW 0 hf_nums rfl rfl d_Ars_copyOf3_23 ?_
    refine lv_iload_n hx hb d_Ars_copyOf3_24 rfl (lv_at hl 2 rfl) ?_
    refine va_mmin (x := 256) (y := nI rs) hx hb (hml.trans hl.1.symm) hown (hts _ mw93) (hts _ mw94) (hts _ mw70) (hts _ mw95) (Nat.le_of_ble_eq_true rfl) (Nat.le_of_ble_eq_true rfl) (Nat.le_of_ble_eq_true rfl) (Nat.le_of_ble_eq_true rfl) d_Ars_copyOf3_25 ?_
    refine W.eq (g2 := F0 m 28 ls [.int (nI rs), .int 0, .ref q2, .int 0, .ref (A 2)]) (by rw [gx_mn256 h255]) ?_
    refine gw_copyi (sp := 0) (dp := 0) (n := nI rs) hx hb (hml.trans hl.1.symm) hown (hts _ mw96) (hts _ mw97) (hts _ mw98) (hts _ mw99) hE.K hW hS 0 0 hf_nums hf_q2 rfl rfl (by decide) (by decide) (nI_pos (by omega)) (by rw [gi_c0, nI_clamp (by omega)]; omega) (by rw [gi_c0, nI_clamp (by omega)]; omega) (Nat.le_of_ble_eq_true rfl) (Nat.le_of_ble_eq_true rfl) d_Ars_copyOf3_28 (fun H locs hW hS => ?_)
    have hXn : gx_V G A lim sc E j n rs (gw_up M5 q2 11 (.inl (G.2.1 0, rs, .inl (va_cpy f3o1 (fun _ => 0) (0 : Int32).toNatClampNeg (0 : Int32).toNatClampNeg (nI rs : Int32).toNatClampNeg)))) := hX.up11 hf_q2 (by omega)
    have hPn : gp_S M5 (gw_up M5 q2 11 (.inl (G.2.1 0, rs, .inl (va_cpy f3o1 (fun _ => 0) (0 : Int32).toNatClampNeg (0 : Int32).toNatClampNeg (nI rs : Int32).toNatClampNeg)))) := gp_up hf_q2
    have hF6 : gw_fg (gw_out [1, 2, 3, 4, 5, 6, 7, 8, 9, 10, 11]) M (gw_up M5 q2 11 (.inl (G.2.1 0, rs, .inl (va_cpy f3o1 (fun _ => 0) (0 : Int32).toNatClampNeg (0 : Int32).toNatClampNeg (nI rs : Int32).toNatClampNeg)))) := gw_fg.up hF4 hf_q2 (show ¬ ((gw_out [1, 2, 3, 4, 5, 6, 7, 8, 9, 10, 11]) 11) by decide) (show ¬ ((gw_out [1, 2, 3, 4, 5, 6, 7, 8, 9, 10, 11]) 11) by decide)
    obtain ⟨M7, eM7⟩ : ∃ z, z = gw_up M5 q2 11 (.inl (G.2.1 0, rs, .inl (va_cpy f3o1 (fun _ => 0) (0 : Int32).toNatClampNeg (0 : Int32).toNatClampNeg (nI rs : Int32).toNatClampNeg))) := ⟨_, rfl⟩
    replace hW : gw_P G.1 vwCl G.2.2.2 M7 H := by rw [eM7]; exact hW
    have hf_x : M7 (A 0) = some (1, .inr (0, [.int lim, .int sc, .int E, .ref (A 1), .ref (A 3), .ref (A 4), .ref (A 5), .ref (A 6), .int (nI gco1)])) := by rw [eM7]; exact gw_keep hf_x hf_q2 (by decide)
    have hf_row : M7 (A 1) = some (2, .inr (1, [.ref (A 2), .int (nI rs)])) := by rw [eM7]; exact gw_keep hf_row hf_q2 (by decide)
    have hf_nums : M7 (A 2) = some (3, .inl (G.2.1 0, 256, .inl f3o1)) := by rw [eM7]; exact gw_keep hf_nums hf_q2 (by decide)
    have hf_gone : M7 (A 6) = some (8, .inl (G.2.1 0, 512, .inl f8o1)) := by rw [eM7]; exact gw_keep hf_gone hf_q2 (by decide)
    have hf_q2 : M7 q2 = some (11, .inl (G.2.1 0, rs, .inl (va_cpy f3o1 (fun _ => 0) (0 : Int32).toNatClampNeg (0 : Int32).toNatClampNeg (nI rs : Int32).toNatClampNeg))) := by rw [eM7]; exact gw_up_self _ _ _ _
    rw [← eM7] at hF6
    rw [← eM7] at hXn hPn
    replace hX := hXn
    replace hp_q2 := hPn _ _ hp_q2
    clear hXn hPn
    refine lv_aload_n hx hb d_Ars_copyOf3_31 rfl (lv_at hl 0 rfl) ?_
    exact gw_aret hx hb hr hlocks (Or.inr ⟨_, rfl⟩) hS hW (Nat.le_of_ble_eq_true rfl) (Nat.le_of_ble_eq_true rfl) d_Ars_copyOf3_32 ⟨hp_q2, hX, hF6⟩
  · exact absurd c3 (gx_ne256 h255)

set_option maxHeartbeats 4000000 in
set_option maxRecDepth 100000 in
theorem v_copy (l : Launch) (G : gw_G) (M : gw_M) (A : Nat → Nat) (lim sc E : Int32) (j n rs : Nat) (hX : gx_V G A lim sc E j n rs M) (h255 : rs ≤ 255) : Met l y_Row_copy [.code y_Row_copy b_Row_copy 1 (some (.array .int))] ({ frames := 2, cells := 1, slots := 256, locals := 62 }) (gw_Pc G M [.ref (A 1)]) (gw_Qr G (fun r M2 => gp_R M2 11 r ∧ gx_V G A lim sc E j n rs M2 ∧ gw_fg (gw_out [1, 2, 3, 4, 5, 6, 7, 8, 9, 10, 11]) M M2)) 1 256 (gw_A G) := by
  refine gw_start (by decide) (Nat.le_of_ble_eq_true rfl) (fun p9 e9 s m b9 mt9 c9 hx hb hr hml hown hlocks hin hE hB hW ls hl => ?_)
  have hts := hE.ts ([.ref (A 1)] : List Value).toArray
  have hl : lv_has ls 1 [(0, .ref (A 1))] := hl
  have hown : s.vm.findClass "Generations$Row" = some m.cls := hown
  have hj9 := hX.jobs.le
  have hn9 := hX.known.le
  have hr9 := hX.rs256
  refine gw_gen (I := fun z => gx_V G A lim sc E j n rs z) (P := gw_out [1, 2, 3, 4, 5, 6, 7, 8, 9, 10, 11]) hX hW (fun H locs Mw hW hS hX hF => ?_)
  have hX : gx_V G A lim sc E j n rs Mw := hX
  refine lv_aload_n hx hb d_Row_copy_0 rfl (lv_at hl 0 rfl) ?_
  obtain ⟨gco1, f3o1, f8o1, hf_x, hf_row, hf_nums, hf_gone, hgco1, hrso1, -, -, -, -⟩ := id hX
  refine gw_get (ci := 1) (fs := [.ref (A 2), .int (nI rs)]) hx hb hts in_Row hown hE.K hW hf_row rfl 0 (by decide) (hts _ mw44) (fun _ h9 => h9) rfl d_Row_copy_1 ?_
  refine lv_aload_n hx hb d_Row_copy_4 rfl (lv_at hl 0 rfl) ?_
  refine gw_get (ci := 1) (fs := [.ref (A 2), .int (nI rs)]) hx hb hts in_Row hown hE.K hW hf_row rfl 1 (by decide) (hts _ mw43) (fun _ h9 => h9) rfl d_Row_copy_5 ?_
  refine gw_callr hS (va_runS (As := [.ref (A 2), .int (nI rs)]) (rest := []) ⟨hx, hb, hml, hown, hts⟩ (v_copyOf l G Mw A lim sc E j n rs hX   (by omega)) (va_cwS 2 hts (gw_gt mw177 mw178 mw108 mw176) rfl rfl rfl (by decide +kernel) ⟨Nat.le_of_ble_eq_true rfl, Nat.le_of_ble_eq_true rfl⟩) (gw_ps hE hB hS hW) rfl rfl hl.1 rfl (lv_room (Nat.le_of_ble_eq_true rfl)) d_Row_copy_8 ⟨Nat.le_of_ble_eq_true rfl, Nat.le_of_ble_eq_true rfl⟩) (fun r2 M3 H locs hw4 hW hS => ?_)
  refine W.widen (k := 1) (n := 256) (Nat.le_refl _) (Nat.le_refl _) ?_
  obtain ⟨hp_6, hX, hfr5⟩ := hw4
  have hF7 : gw_fg (gw_out [1, 2, 3, 4, 5, 6, 7, 8, 9, 10, 11]) M M3 := gw_fg.tr hF (gw_fg.wk hfr5 (by decide))
  clear hfr5
  exact gw_aret hx hb hr hlocks (Or.inr ⟨_, rfl⟩) hS hW (Nat.le_of_ble_eq_true rfl) (Nat.le_of_ble_eq_true rfl) d_Row_copy_11 ⟨hp_6, hX, hF7⟩

set_option maxHeartbeats 4000000 in
set_option maxRecDepth 100000 in
theorem e_jobInit (l : Launch) (G : gw_G) (M : gw_M) (a : Nat) (t : Nat) (hf_a : M a = some (60, .inr (3, [.null, .int 0]))) : Met l y_Job_init [.code y_Job_init b_Job_init 2 none] ({ frames := 1, cells := 0, slots := 0, locals := 12 }) (gw_Pc G M [.ref a, .ref t]) (gw_Qv G (fun M2 => M2 a = some (60, .inr (3, [.ref t, .int 0])) ∧ gw_fg (gw_out [60]) M M2)) 0 0 (gw_A G) := by
  refine gw_start (by decide) (Nat.le_of_ble_eq_true rfl) (fun p9 e9 s m b9 mt9 c9 hx hb hr hml hown hlocks hin hE hB hW ls hl => ?_)
  have hts := hE.ts ([.ref a, .ref t] : List Value).toArray
  have hl : lv_has ls 2 [(0, .ref a), (1, .ref t)] := hl
  have hS : va_S (gw_A G) s.heap s.heap [] := va_S.rf
  have hown : s.vm.findClass "Generations$Job" = some m.cls := hown
  have hin : mt9.name = "<init>" := hin
  refine lv_aload_n hx hb d_Job_init_0 rfl (lv_at hl 0 rfl) ?_
  refine W.objInit hx hb hown (hts _ mw179) (hts _ mw127) (hts _ mw128) rfl (by rw [hml]; exact hl.1) rfl d_Job_init_1 (Nat.le_of_ble_eq_true rfl) (Nat.le_of_ble_eq_true rfl) ?_
  refine W.eq (g2 := F0 m 4 ls []) rfl ?_
  refine lv_aload_n hx hb d_Job_init_4 rfl (lv_at hl 0 rfl) ?_
  refine lv_aload_n hx hb d_Job_init_5 rfl (lv_at hl 1 rfl) ?_
  refine gw_putF (ci := 3) (fs := [.null, .int 0]) (v := .ref t) (ty := .array .int) hx hb hts in_Job t_Job t_Job_ok n_Job hown hE.K hW hS hf_a rfl 0 (by decide) (hts _ mw116) (fun _ h9 => h9) rfl hin rfl (by decide +kernel) rfl rfl (Nat.le_of_ble_eq_true rfl) d_Job_init_6 (fun H locs hW hS => ?_)
  have hF1 : gw_fg (gw_out [60]) M (gw_up M a 60 (.inr (3, [.ref t, .int 0]))) := gw_fg.up gw_fg.rf hf_a (show ¬ ((gw_out [60]) 60) by decide) (show ¬ ((gw_out [60]) 60) by decide)
  obtain ⟨M2, eM2⟩ : ∃ z, z = gw_up M a 60 (.inr (3, [.ref t, .int 0])) := ⟨_, rfl⟩
  replace hW : gw_P G.1 vwCl G.2.2.2 M2 H := by rw [eM2]; exact hW
  have hf_a : M2 a = some (60, .inr (3, [.ref t, .int 0])) := by rw [eM2]; exact gw_up_self _ _ _ _
  rw [← eM2] at hF1
  exact gw_vret hx hb hr hlocks hS hW (Nat.le_of_ble_eq_true rfl) (Nat.le_of_ble_eq_true rfl) d_Job_init_9 (⟨hf_a, hF1⟩)
