set_option maxHeartbeats 4000000 in
set_option maxRecDepth 100000 in
theorem v_relative (l : Launch) (hl9 : l.stackTraces = false) (G : gw_G) (M : gw_M) (A : Nat → Nat) (lim sc E : Int32) (j n rs : Nat) (hX : gx_V G A lim sc E j n rs M) (k : Int32) (q : Int32) : gu_Met l y_X_relative [.code y_X_relative b_X_relative 5 (some .int)] ({ frames := 7, cells := 2, slots := 12, locals := 103 }) G M [.ref (A 0), .int k, .int q] (gu_Nw G (gw_Qi G (fun r M2 => gx_V G A lim sc E j n rs M2 ∧ gw_fg (gw_out [1, 2, 3, 4, 5, 6, 7, 8, 9, 10, 11]) M M2)) 2 12) (fun M2 => M = M2) 2 12 := by
  refine gu_start (by decide) (Nat.le_of_ble_eq_true rfl) (fun p9 e9 s m b9 mt9 c9 hEx hx hb hr hml hown hlocks hin hE hB hW ls hl => ?_)
  have hts := hE.ts ([.ref (A 0), .int k, .int q] : List Value).toArray
  have hl : lv_has ls 5 [(0, .ref (A 0)), (1, .int k), (2, .int q)] := hl
  have hown : s.vm.findClass "Generations" = some m.cls := hown
  have hj9 := hX.jobs.le
  have hn9 := hX.known.le
  have hr9 := hX.rs256
  have hS : va_S (gw_A G) s.heap s.heap [] := va_S.rf
  refine lv_aload_n hx hb d_X_relative_0 rfl (lv_at hl 0 rfl) ?_
  refine lv_iload_n hx hb d_X_relative_1 rfl (lv_at hl 1 rfl) ?_
  obtain ⟨gco1, f3o1, f8o1, hf_x, hf_row, hf_nums, hf_gone, hgco1, hrso1, -, -, -, -⟩ := id hX
  refine gu_callr (As := [.int k]) (rest := []) hS ⟨hx, hb, hml, hown, hts⟩ (u_jobCalled l hl9 G M A lim sc E j n rs hX k) (cwV 1 hts (gw_gv mw193 mw194 mw195 mw42 mw192) rfl rfl rfl (by decide +kernel) ⟨Nat.le_of_ble_eq_true rfl, Nat.le_of_ble_eq_true rfl⟩) (gw_pv hE hB hS hW rfl hf_x) rfl hl.1 rfl (lv_room (Nat.le_of_ble_eq_true rfl)) d_X_relative_2 ⟨Nat.le_of_ble_eq_true rfl, Nat.le_of_ble_eq_true rfl⟩ (fun ce q9 M9 H locs hw9 hW hS hce hcv hcl => ?_) (fun r2 hp_3 => ?_)
  · exact gu_out hEx hlocks hce hcv hcl hS hW hw9 (Nat.le_of_ble_eq_true rfl) (Nat.le_of_ble_eq_true rfl)
  · refine W.widen (k := 1) (n := 6) (Nat.le_refl _) (Nat.le_refl _) ?_
    refine lv_astore_n (lv' := [(3, .ref r2), (0, .ref (A 0)), (1, .int k), (2, .int q)]) hx hb d_X_relative_5 rfl hl (by decide) rfl (fun ls hl => ?_)
    refine lv_iload_n hx hb d_X_relative_6 rfl (lv_at hl 3 rfl) ?_
    refine lv_bipush (v := 99) hx hb d_X_relative_7 (by decide) ?_
    refine lv_icmp_le (tgt := 22) hx hb d_X_relative_9 (by decide) (fun c9 => ?_) (fun c9 => ?_)
    · refine gw_gen (I := fun z => gx_V G A lim sc E j n rs z) (P := gw_out [1, 2, 3, 4, 5, 6, 7, 8, 9, 10, 11]) hX hW (fun H locs Mw hW hS hX hF => ?_)
      have hX : gx_V G A lim sc E j n rs Mw := hX
      replace hp_3 := hF.2 _ _ hp_3
      refine lv_iload_n hx hb d_X_relative_22 rfl (lv_at hl 3 rfl) ?_
      refine lv_if_le (tgt := 53) hx hb d_X_relative_23 (by decide) (fun c23 => ?_) (fun c23 => ?_)
      · refine lv_aload_n hx hb d_X_relative_53 rfl (lv_at hl 0 rfl) ?_
        refine lv_iload_n hx hb d_X_relative_54 rfl (lv_at hl 3 rfl) ?_
        obtain ⟨u4t, u4e, hf_u4, hp_u4⟩ := hX.g10 hp_3
        obtain ⟨u5k, u5f, hk_u5, hf_u5⟩ := hX.g11 hp_u4
        refine gr_calli (va_runVN (As := [.int q]) (rest := []) ⟨hx, hb, hml, hown, hts⟩ (r_counted l G Mw r2 u4t u4e u5k u5f q hf_u4 hf_u5 (by assumption)) ⟨va_cnB 1 hts (gw_g1 mw196) rfl rfl rfl (hE.nw mw197) (hts _ mw121) (by decide +kernel) ⟨Nat.le_of_ble_eq_true rfl, Nat.le_of_ble_eq_true rfl⟩, hts _ mw198, hts _ mw199⟩ (gw_pv hE hB hS hW rfl hf_u4) rfl rfl hl.1 rfl (lv_room (Nat.le_of_ble_eq_true rfl)) d_X_relative_55 ⟨Nat.le_of_ble_eq_true rfl, Nat.le_of_ble_eq_true rfl⟩) (fun r6 hw7 => ?_)
        refine lv_istore (lv' := [(4, .int r6), (3, .ref r2), (0, .ref (A 0)), (1, .int k), (2, .int q)]) hx hb d_X_relative_58 hl (by decide) rfl (fun ls hl => ?_)
        refine lv_aload_n hx hb d_X_relative_60 rfl (lv_at hl 2 rfl) ?_
        refine lv_iload hx hb d_X_relative_61 (lv_at hl 0 rfl) ?_
        obtain ⟨gco8, f3o8, f8o8, hf_x, hf_row, hf_nums, hf_gone, hgco8, hrso8, -, -, -, -⟩ := id hX
        refine gr_callr (va_runV (As := [.int r6]) (rest := []) ⟨hx, hb, hml, hown, hts⟩ (r_find l G Mw A lim sc E j n hX.w r6  ) (cwV 1 hts (gw_gv mw54 mw55 mw56 mw42 mw53) rfl rfl rfl (by decide +kernel) ⟨Nat.le_of_ble_eq_true rfl, Nat.le_of_ble_eq_true rfl⟩) (gw_pv hE hB hS hW rfl hf_x) rfl rfl hl.1 rfl (lv_room (Nat.le_of_ble_eq_true rfl)) d_X_relative_63 ⟨Nat.le_of_ble_eq_true rfl, Nat.le_of_ble_eq_true rfl⟩) (fun r9 hw10 => ?_)
        obtain ⟨u11v0, u11v1, u11v2, u11v3, u11v4, hf_u11⟩ := hX.g9 hw10
        refine gw_getN (ci := 2) (fs := [.int u11v0, .int u11v1, .int u11v2, .int u11v3, .int u11v4]) hx hb hts in_Gen hown hE.K hW hf_u11 rfl 1 (by decide) (hts _ mw36) (fun _ h9 => h9) rfl d_X_relative_66 ?_
        refine lv_iconst (v := 1) hx hb d_X_relative_69 (by decide) ?_
        refine lv_icmp_ne (tgt := 78) hx hb d_X_relative_70 (by decide) (fun c70 => ?_) (fun c70 => ?_)
        · refine lv_iconst (v := -1) hx hb d_X_relative_78 (by decide) ?_
          refine gu_of ?_
          exact gw_iret hx hb hr hlocks hS hW (Nat.le_of_ble_eq_true rfl) (Nat.le_of_ble_eq_true rfl) d_X_relative_79 ⟨hX, hF⟩
        · refine lv_iload hx hb d_X_relative_73 (lv_at hl 0 rfl) ?_
          refine lv_goto (tgt := 79) hx hb d_X_relative_75 (by decide) ?_
          refine gu_of ?_
          exact gw_iret hx hb hr hlocks hS hW (Nat.le_of_ble_eq_true rfl) (Nat.le_of_ble_eq_true rfl) d_X_relative_79 ⟨hX, hF⟩
      · refine lv_aload_n hx hb d_X_relative_26 rfl (lv_at hl 0 rfl) ?_
        refine lv_iload_n hx hb d_X_relative_27 rfl (lv_at hl 3 rfl) ?_
        obtain ⟨u12t, u12e, hf_u12, hp_u12⟩ := hX.g10 hp_3
        obtain ⟨u13k, u13f, hk_u13, hf_u13⟩ := hX.g11 hp_u12
        refine gr_calli (va_runVN (As := [.int q]) (rest := []) ⟨hx, hb, hml, hown, hts⟩ (r_plus l G Mw r2 u12t u12e u13k u13f q hf_u12 hf_u13 (by assumption)) ⟨va_cnB 1 hts (gw_g1 mw200) rfl rfl rfl (hE.nw mw201) (hts _ mw121) (by decide +kernel) ⟨Nat.le_of_ble_eq_true rfl, Nat.le_of_ble_eq_true rfl⟩, hts _ mw202, hts _ mw203⟩ (gw_pv hE hB hS hW rfl hf_u12) rfl rfl hl.1 rfl (lv_room (Nat.le_of_ble_eq_true rfl)) d_X_relative_28 ⟨Nat.le_of_ble_eq_true rfl, Nat.le_of_ble_eq_true rfl⟩) (fun r14 hw15 => ?_)
        refine lv_istore (lv' := [(4, .int r14), (3, .ref r2), (0, .ref (A 0)), (1, .int k), (2, .int q)]) hx hb d_X_relative_31 hl (by decide) rfl (fun ls hl => ?_)
        refine lv_aload_n hx hb d_X_relative_33 rfl (lv_at hl 2 rfl) ?_
        refine lv_iload hx hb d_X_relative_34 (lv_at hl 0 rfl) ?_
        obtain ⟨gco16, f3o16, f8o16, hf_x, hf_row, hf_nums, hf_gone, hgco16, hrso16, -, -, -, -⟩ := id hX
        refine gr_callr (va_runV (As := [.int r14]) (rest := []) ⟨hx, hb, hml, hown, hts⟩ (r_find l G Mw A lim sc E j n hX.w r14  ) (cwV 1 hts (gw_gv mw54 mw55 mw56 mw42 mw53) rfl rfl rfl (by decide +kernel) ⟨Nat.le_of_ble_eq_true rfl, Nat.le_of_ble_eq_true rfl⟩) (gw_pv hE hB hS hW rfl hf_x) rfl rfl hl.1 rfl (lv_room (Nat.le_of_ble_eq_true rfl)) d_X_relative_36 ⟨Nat.le_of_ble_eq_true rfl, Nat.le_of_ble_eq_true rfl⟩) (fun r17 hw18 => ?_)
        refine lv_iload_n hx hb d_X_relative_39 rfl (lv_at hl 3 rfl) ?_
        obtain ⟨u19v0, u19v1, u19v2, u19v3, u19v4, hf_u19⟩ := hX.g9 hw18
        refine gr_calli (va_runVN (As := [.int k]) (rest := []) ⟨hx, hb, hml, hown, hts⟩ (r_isNewOneOf l G Mw r17 u19v0 u19v1 u19v2 u19v3 u19v4 k hf_u19 ) ⟨va_cnB 1 hts (gw_g1 mw204) rfl rfl rfl (hE.nw mw205) (hts _ mw21) (by decide +kernel) ⟨Nat.le_of_ble_eq_true rfl, Nat.le_of_ble_eq_true rfl⟩, hts _ mw206, hts _ mw207⟩ (gw_pv hE hB hS hW rfl hf_u19) rfl rfl hl.1 rfl (lv_room (Nat.le_of_ble_eq_true rfl)) d_X_relative_40 ⟨Nat.le_of_ble_eq_true rfl, Nat.le_of_ble_eq_true rfl⟩) (fun r20 hw21 => ?_)
        refine lv_if_eq (tgt := 51) hx hb d_X_relative_43 (by decide) (fun c43 => ?_) (fun c43 => ?_)
        · refine lv_iconst (v := -1) hx hb d_X_relative_51 (by decide) ?_
          refine gu_of ?_
          exact gw_iret hx hb hr hlocks hS hW (Nat.le_of_ble_eq_true rfl) (Nat.le_of_ble_eq_true rfl) d_X_relative_52 ⟨hX, hF⟩
        · refine lv_iload hx hb d_X_relative_46 (lv_at hl 0 rfl) ?_
          refine lv_goto (tgt := 52) hx hb d_X_relative_48 (by decide) ?_
          refine gu_of ?_
          exact gw_iret hx hb hr hlocks hS hW (Nat.le_of_ble_eq_true rfl) (Nat.le_of_ble_eq_true rfl) d_X_relative_52 ⟨hX, hF⟩
    · exact gu_throwS (own := "Generations") (text := "n is above 99") (names := ["java/lang/RuntimeException", "java/lang/Exception"]) (sa := G.2.2.1 2) hx hb hl9 hown (by decide +kernel) (hts _ mw189) (hts _ mw190) hE.2.2.2.2.2.2.2.1.1 hE.2.2.2.2.2.2.2.1.2 (gt_hat hE _ gt_ws3) (hl.1.trans hml.symm) d_X_relative_12 d_X_relative_15 d_X_relative_16 d_X_relative_18 d_X_relative_21 hEx (Nat.le_of_ble_eq_true rfl) (Nat.le_of_ble_eq_true rfl) (Nat.le_of_ble_eq_true rfl) (Nat.le_of_ble_eq_true rfl) (Nat.le_of_ble_eq_true rfl) (Nat.le_of_ble_eq_true rfl) hlocks hW rfl

set_option maxHeartbeats 4000000 in
set_option maxRecDepth 100000 in
theorem v_make (l : Launch) (hl9 : l.stackTraces = false) (G : gw_G) (M : gw_M) (A : Nat → Nat) (lim sc E : Int32) (j n rs : Nat) (hX : gx_V G A lim sc E j n rs M) (k : Int32) (q : Int32) (hn6 : n ≤ 600) : gu_Met l y_X_make [.code y_X_make b_X_make 7 (some .int)] ({ frames := 8, cells := 3, slots := 1011, locals := 243 }) G M [.ref (A 0), .int k, .int q] (gu_Nw G (gw_Qi G (fun r M2 => ∃ n2 : Nat, n2 ≤ n + 1 ∧ gx_V G A lim sc E j n2 rs M2 ∧ gw_fg (gw_out [1, 2, 3, 4, 5, 6, 7, 8, 9, 10, 11]) M M2)) 3 1011) (fun M2 => M = M2) 3 1011 := by
  refine gu_start (by decide) (Nat.le_of_ble_eq_true rfl) (fun p9 e9 s m b9 mt9 c9 hEx hx hb hr hml hown hlocks hin hE hB hW ls hl => ?_)
  have hts := hE.ts ([.ref (A 0), .int k, .int q] : List Value).toArray
  have hl : lv_has ls 7 [(0, .ref (A 0)), (1, .int k), (2, .int q)] := hl
  have hown : s.vm.findClass "Generations" = some m.cls := hown
  have hj9 := hX.jobs.le
  have hn9 := hX.known.le
  have hr9 := hX.rs256
  have hS : va_S (gw_A G) s.heap s.heap [] := va_S.rf
  refine lv_aload_n hx hb d_X_make_0 rfl (lv_at hl 0 rfl) ?_
  refine lv_iload_n hx hb d_X_make_1 rfl (lv_at hl 1 rfl) ?_
  obtain ⟨gco1, f3o1, f8o1, hf_x, hf_row, hf_nums, hf_gone, hgco1, hrso1, -, -, -, -⟩ := id hX
  refine gu_callr (As := [.int k]) (rest := []) hS ⟨hx, hb, hml, hown, hts⟩ (u_jobCalled l hl9 G M A lim sc E j n rs hX k) (cwV 1 hts (gw_gv mw193 mw194 mw195 mw42 mw192) rfl rfl rfl (by decide +kernel) ⟨Nat.le_of_ble_eq_true rfl, Nat.le_of_ble_eq_true rfl⟩) (gw_pv hE hB hS hW rfl hf_x) rfl hl.1 rfl (lv_room (Nat.le_of_ble_eq_true rfl)) d_X_make_2 ⟨Nat.le_of_ble_eq_true rfl, Nat.le_of_ble_eq_true rfl⟩ (fun ce q9 M9 H locs hw9 hW hS hce hcv hcl => ?_) (fun r2 hp_3 => ?_)
  · exact gu_out hEx hlocks hce hcv hcl hS hW hw9 (Nat.le_of_ble_eq_true rfl) (Nat.le_of_ble_eq_true rfl)
  · refine W.widen (k := 1) (n := 6) (Nat.le_refl _) (Nat.le_refl _) ?_
    refine lv_astore_n (lv' := [(3, .ref r2), (0, .ref (A 0)), (1, .int k), (2, .int q)]) hx hb d_X_make_5 rfl hl (by decide) rfl (fun ls hl => ?_)
    refine lv_iload_n hx hb d_X_make_6 rfl (lv_at hl 3 rfl) ?_
    refine lv_iconst (v := 1) hx hb d_X_make_7 (by decide) ?_
    refine lv_icmp_lt (tgt := 17) hx hb d_X_make_8 (by decide) (fun c8 => ?_) (fun c8 => ?_)
    · exact gu_throwS (own := "Generations") (text := "n is not 1 .. 99") (names := ["java/lang/RuntimeException", "java/lang/Exception"]) (sa := G.2.2.1 3) hx hb hl9 hown (by decide +kernel) (hts _ mw189) (hts _ mw190) hE.2.2.2.2.2.2.2.2.1.1 hE.2.2.2.2.2.2.2.2.1.2 (gt_hat hE _ gt_ws3) (hl.1.trans hml.symm) d_X_make_17 d_X_make_20 d_X_make_21 d_X_make_23 d_X_make_26 hEx (Nat.le_of_ble_eq_true rfl) (Nat.le_of_ble_eq_true rfl) (Nat.le_of_ble_eq_true rfl) (Nat.le_of_ble_eq_true rfl) (Nat.le_of_ble_eq_true rfl) (Nat.le_of_ble_eq_true rfl) hlocks hW rfl
    · refine lv_iload_n hx hb d_X_make_11 rfl (lv_at hl 3 rfl) ?_
      refine lv_bipush (v := 99) hx hb d_X_make_12 (by decide) ?_
      refine lv_icmp_le (tgt := 27) hx hb d_X_make_14 (by decide) (fun c14 => ?_) (fun c14 => ?_)
      · refine gw_gen (I := fun z => gx_V G A lim sc E j n rs z) (P := gw_out [1, 2, 3, 4, 5, 6, 7, 8, 9, 10, 11]) hX hW (fun H locs Mw hW hS hX hF => ?_)
        have hX : gx_V G A lim sc E j n rs Mw := hX
        replace hp_3 := hF.2 _ _ hp_3
        refine lv_aload_n hx hb d_X_make_27 rfl (lv_at hl 0 rfl) ?_
        refine lv_iload_n hx hb d_X_make_28 rfl (lv_at hl 3 rfl) ?_
        obtain ⟨u4t, u4e, hf_u4, hp_u4⟩ := hX.g10 hp_3
        obtain ⟨u5k, u5f, hk_u5, hf_u5⟩ := hX.g11 hp_u4
        refine gr_calli (va_runVN (As := [.int q]) (rest := []) ⟨hx, hb, hml, hown, hts⟩ (r_plus l G Mw r2 u4t u4e u5k u5f q hf_u4 hf_u5 (by assumption)) ⟨va_cnB 1 hts (gw_g1 mw200) rfl rfl rfl (hE.nw mw201) (hts _ mw121) (by decide +kernel) ⟨Nat.le_of_ble_eq_true rfl, Nat.le_of_ble_eq_true rfl⟩, hts _ mw202, hts _ mw203⟩ (gw_pv hE hB hS hW rfl hf_u4) rfl rfl hl.1 rfl (lv_room (Nat.le_of_ble_eq_true rfl)) d_X_make_29 ⟨Nat.le_of_ble_eq_true rfl, Nat.le_of_ble_eq_true rfl⟩) (fun r6 hw7 => ?_)
        refine lv_istore (lv' := [(4, .int r6), (3, .ref r2), (0, .ref (A 0)), (1, .int k), (2, .int q)]) hx hb d_X_make_32 hl (by decide) rfl (fun ls hl => ?_)
        refine lv_aload_n hx hb d_X_make_34 rfl (lv_at hl 2 rfl) ?_
        refine lv_iload hx hb d_X_make_35 (lv_at hl 0 rfl) ?_
        obtain ⟨gco8, f3o8, f8o8, hf_x, hf_row, hf_nums, hf_gone, hgco8, hrso8, -, -, -, -⟩ := id hX
        refine gr_callr (va_runV (As := [.int r6]) (rest := []) ⟨hx, hb, hml, hown, hts⟩ (r_find l G Mw A lim sc E j n hX.w r6  ) (cwV 1 hts (gw_gv mw54 mw55 mw56 mw42 mw53) rfl rfl rfl (by decide +kernel) ⟨Nat.le_of_ble_eq_true rfl, Nat.le_of_ble_eq_true rfl⟩) (gw_pv hE hB hS hW rfl hf_x) rfl rfl hl.1 rfl (lv_room (Nat.le_of_ble_eq_true rfl)) d_X_make_37 ⟨Nat.le_of_ble_eq_true rfl, Nat.le_of_ble_eq_true rfl⟩) (fun r9 hw10 => ?_)
        refine lv_astore (lv' := [(5, .ref r9), (4, .int r6), (3, .ref r2), (0, .ref (A 0)), (1, .int k), (2, .int q)]) hx hb d_X_make_40 hl (by decide) rfl (fun ls hl => ?_)
        refine lv_aload hx hb d_X_make_42 (lv_at hl 0 rfl) ?_
        refine lv_iload_n hx hb d_X_make_44 rfl (lv_at hl 4 rfl) ?_
        obtain ⟨u11v0, u11v1, u11v2, u11v3, u11v4, hf_u11⟩ := hX.g9 hw10
        refine gr_calli (va_runVN (As := [.int k]) (rest := []) ⟨hx, hb, hml, hown, hts⟩ (r_isNewOneOf l G Mw r9 u11v0 u11v1 u11v2 u11v3 u11v4 k hf_u11 ) ⟨va_cnB 1 hts (gw_g1 mw204) rfl rfl rfl (hE.nw mw205) (hts _ mw21) (by decide +kernel) ⟨Nat.le_of_ble_eq_true rfl, Nat.le_of_ble_eq_true rfl⟩, hts _ mw206, hts _ mw207⟩ (gw_pv hE hB hS hW rfl hf_u11) rfl rfl hl.1 rfl (lv_room (Nat.le_of_ble_eq_true rfl)) d_X_make_45 ⟨Nat.le_of_ble_eq_true rfl, Nat.le_of_ble_eq_true rfl⟩) (fun r12 hw13 => ?_)
        refine lv_if_eq (tgt := 54) hx hb d_X_make_48 (by decide) (fun c48 => ?_) (fun c48 => ?_)
        · refine lv_aload hx hb d_X_make_54 (lv_at hl 0 rfl) ?_
          refine lv_iload_n hx hb d_X_make_56 rfl (lv_at hl 4 rfl) ?_
          refine gr_calli (va_runVN (As := [.int k]) (rest := []) ⟨hx, hb, hml, hown, hts⟩ (r_isInTheWayOf l G Mw r9 u11v0 u11v1 u11v2 u11v3 u11v4 k hf_u11 ) ⟨va_cnB 1 hts (gw_g1 mw208) rfl rfl rfl (hE.nw mw209) (hts _ mw21) (by decide +kernel) ⟨Nat.le_of_ble_eq_true rfl, Nat.le_of_ble_eq_true rfl⟩, hts _ mw210, hts _ mw211⟩ (gw_pv hE hB hS hW rfl hf_u11) rfl rfl hl.1 rfl (lv_room (Nat.le_of_ble_eq_true rfl)) d_X_make_57 ⟨Nat.le_of_ble_eq_true rfl, Nat.le_of_ble_eq_true rfl⟩) (fun r14 hw15 => ?_)
          refine lv_if_ne (tgt := 71) hx hb d_X_make_60 (by decide) (fun c60 => ?_) (fun c60 => ?_)
          · refine lv_iconst (v := -1) hx hb d_X_make_71 (by decide) ?_
            refine gu_of ?_
            exact gw_iret hx hb hr hlocks hS hW (Nat.le_of_ble_eq_true rfl) (Nat.le_of_ble_eq_true rfl) d_X_make_72 ⟨n, (by omega), hX, hF⟩
          · refine lv_aload_n hx hb d_X_make_63 rfl (lv_at hl 3 rfl) ?_
            refine lv_iload_n hx hb d_X_make_64 rfl (lv_at hl 4 rfl) ?_
            refine gr_calli (va_runV (As := [.int k]) (rest := []) ⟨hx, hb, hml, hown, hts⟩ (r_anotherMakes l G Mw A lim sc E j n hX.w k  ) (cwV 1 hts (gw_gv mw213 mw214 mw215 mw42 mw212) rfl rfl rfl (by decide +kernel) ⟨Nat.le_of_ble_eq_true rfl, Nat.le_of_ble_eq_true rfl⟩) (gw_pv hE hB hS hW rfl hf_x) rfl rfl hl.1 rfl (lv_room (Nat.le_of_ble_eq_true rfl)) d_X_make_65 ⟨Nat.le_of_ble_eq_true rfl, Nat.le_of_ble_eq_true rfl⟩) (fun r16 hw17 => ?_)
            refine lv_if_eq (tgt := 73) hx hb d_X_make_68 (by decide) (fun c68 => ?_) (fun c68 => ?_)
            · refine lv_aload_n hx hb d_X_make_73 rfl (lv_at hl 3 rfl) ?_
              refine lv_iload hx hb d_X_make_74 (lv_at hl 1 rfl) ?_
              refine gw_callr hS (va_runV (As := [.int r6]) (rest := []) ⟨hx, hb, hml, hown, hts⟩ (v_placeFor l G Mw A lim sc E j n rs hX r6  (by omega)) (cwV 1 hts (gw_gv mw168 mw169 mw170 mw42 mw167) rfl rfl rfl (by decide +kernel) ⟨Nat.le_of_ble_eq_true rfl, Nat.le_of_ble_eq_true rfl⟩) (gw_pv hE hB hS hW rfl hf_x) rfl rfl hl.1 rfl (lv_room (Nat.le_of_ble_eq_true rfl)) d_X_make_76 ⟨Nat.le_of_ble_eq_true rfl, Nat.le_of_ble_eq_true rfl⟩) (fun r18 M19 H locs hw20 hW hS => ?_)
              refine W.widen (k := 3) (n := 1011) (Nat.le_refl _) (Nat.le_refl _) ?_
              obtain ⟨n222, hb23, hp_24, hX, hfr21⟩ := hw20
              have hF25 : gw_fg (gw_out [1, 2, 3, 4, 5, 6, 7, 8, 9, 10, 11]) M M19 := gw_fg.tr hF (gw_fg.wk hfr21 (by decide))
              replace hp_3 := hfr21.2 _ _ hp_3
              replace hp_u4 := hfr21.2 _ _ hp_u4
              replace hw10 := hfr21.2 _ _ hw10
              clear hfr21
              refine lv_astore (lv' := [(6, .ref r18), (5, .ref r9), (4, .int r6), (3, .ref r2), (0, .ref (A 0)), (1, .int k), (2, .int q)]) hx hb d_X_make_79 hl (by decide) rfl (fun ls hl => ?_)
              refine lv_aload hx hb d_X_make_81 (lv_at hl 0 rfl) ?_
              refine lv_iload_n hx hb d_X_make_83 rfl (lv_at hl 5 rfl) ?_
              obtain ⟨u26v0, u26v1, u26v2, u26v3, u26v4, hf_u26⟩ := hX.g9 hp_24
              refine gw_callv hS (va_runVN (As := [.int k]) (rest := []) ⟨hx, hb, hml, hown, hts⟩ (v_beginAnew l G M19 A lim sc E j n222 rs hX r18 k hp_24 ) ⟨va_cnB 1 hts (gw_g1 mw171) rfl rfl rfl (hE.nw mw172) (hts _ mw21) (by decide +kernel) ⟨Nat.le_of_ble_eq_true rfl, Nat.le_of_ble_eq_true rfl⟩, hts _ mw173, hts _ mw174⟩ (gw_pv hE hB hS hW rfl hf_u26) rfl rfl hl.1 rfl (lv_room (Nat.le_of_ble_eq_true rfl)) d_X_make_84 ⟨Nat.le_of_ble_eq_true rfl, Nat.le_of_ble_eq_true rfl⟩) (fun M28 H locs hw29 hW hS => ?_)
              obtain ⟨hX, hfr30⟩ := hw29
              have hF31 : gw_fg (gw_out [1, 2, 3, 4, 5, 6, 7, 8, 9, 10, 11]) M M28 := gw_fg.tr hF25 (gw_fg.wk hfr30 (by decide))
              replace hp_3 := hfr30.2 _ _ hp_3
              replace hp_u4 := hfr30.2 _ _ hp_u4
              replace hw10 := hfr30.2 _ _ hw10
              replace hp_24 := hfr30.2 _ _ hp_24
              clear hfr30
              refine lv_aload hx hb d_X_make_87 (lv_at hl 0 rfl) ?_
              refine lv_iconst (v := 2) hx hb d_X_make_89 (by decide) ?_
              obtain ⟨u32v0, u32v1, u32v2, u32v3, u32v4, hf_u32⟩ := hX.g9 hp_24
              refine gw_putN (ci := 2) (fs := [.int u32v0, .int u32v1, .int u32v2, .int u32v3, .int u32v4]) (v := .int 2) (ty := .int) hx hb hts in_Gen t_Gen t_Gen_ok n_Gen hown hE.K hW hS hf_u32 rfl 1 (by decide) (hts _ mw36) (fun _ h9 => h9) rfl (by decide +kernel) rfl rfl (Nat.le_of_ble_eq_true rfl) d_X_make_90 (fun H locs hW hS => ?_)
              have hXn : gx_V G A lim sc E j n222 rs (gw_up M28 r18 9 (.inr (2, [.int u32v0, .int 2, .int u32v2, .int u32v3, .int u32v4]))) := hX.up9 hf_u32
              have hPn : gp_S M28 (gw_up M28 r18 9 (.inr (2, [.int u32v0, .int 2, .int u32v2, .int u32v3, .int u32v4]))) := gp_up hf_u32
              have hF33 : gw_fg (gw_out [1, 2, 3, 4, 5, 6, 7, 8, 9, 10, 11]) M (gw_up M28 r18 9 (.inr (2, [.int u32v0, .int 2, .int u32v2, .int u32v3, .int u32v4]))) := gw_fg.up hF31 hf_u32 (show ¬ ((gw_out [1, 2, 3, 4, 5, 6, 7, 8, 9, 10, 11]) 9) by decide) (show ¬ ((gw_out [1, 2, 3, 4, 5, 6, 7, 8, 9, 10, 11]) 9) by decide)
              obtain ⟨M34, eM34⟩ : ∃ z, z = gw_up M28 r18 9 (.inr (2, [.int u32v0, .int 2, .int u32v2, .int u32v3, .int u32v4])) := ⟨_, rfl⟩
              replace hW : gw_P G.1 vwCl G.2.2.2 M34 H := by rw [eM34]; exact hW
              have hf_u32 : M34 r18 = some (9, .inr (2, [.int u32v0, .int 2, .int u32v2, .int u32v3, .int u32v4])) := by rw [eM34]; exact gw_up_self _ _ _ _
              rw [← eM34] at hF33
              rw [← eM34] at hXn hPn
              replace hX := hXn
              replace hp_3 := hPn _ _ hp_3
              replace hp_u4 := hPn _ _ hp_u4
              replace hw10 := hPn _ _ hw10
              replace hp_24 := hPn _ _ hp_24
              clear hXn hPn
              refine lv_iload hx hb d_X_make_93 (lv_at hl 2 rfl) ?_
              refine gu_of ?_
              exact gw_iret hx hb hr hlocks hS hW (Nat.le_of_ble_eq_true rfl) (Nat.le_of_ble_eq_true rfl) d_X_make_95 ⟨n222, (by omega), hX, hF33⟩
            · refine lv_iconst (v := -1) hx hb d_X_make_71 (by decide) ?_
              refine gu_of ?_
              exact gw_iret hx hb hr hlocks hS hW (Nat.le_of_ble_eq_true rfl) (Nat.le_of_ble_eq_true rfl) d_X_make_72 ⟨n, (by omega), hX, hF⟩
        · refine lv_iload hx hb d_X_make_51 (lv_at hl 1 rfl) ?_
          refine gu_of ?_
          exact gw_iret hx hb hr hlocks hS hW (Nat.le_of_ble_eq_true rfl) (Nat.le_of_ble_eq_true rfl) d_X_make_53 ⟨n, (by omega), hX, hF⟩
      · exact gu_throwS (own := "Generations") (text := "n is not 1 .. 99") (names := ["java/lang/RuntimeException", "java/lang/Exception"]) (sa := G.2.2.1 3) hx hb hl9 hown (by decide +kernel) (hts _ mw189) (hts _ mw190) hE.2.2.2.2.2.2.2.2.1.1 hE.2.2.2.2.2.2.2.2.1.2 (gt_hat hE _ gt_ws3) (hl.1.trans hml.symm) d_X_make_17 d_X_make_20 d_X_make_21 d_X_make_23 d_X_make_26 hEx (Nat.le_of_ble_eq_true rfl) (Nat.le_of_ble_eq_true rfl) (Nat.le_of_ble_eq_true rfl) (Nat.le_of_ble_eq_true rfl) (Nat.le_of_ble_eq_true rfl) (Nat.le_of_ble_eq_true rfl) hlocks hW rfl

set_option maxHeartbeats 4000000 in
set_option maxRecDepth 100000 in
theorem v_end (l : Launch) (hl9 : l.stackTraces = false) (G : gw_G) (M : gw_M) (A : Nat → Nat) (lim sc E : Int32) (j n rs : Nat) (hX : gx_V G A lim sc E j n rs M) (k : Int32) (q : Int32) (z : Int32) (lm : Nat) (hlm : lim = nI lm) (hl1 : 1 ≤ lm) (hl2 : lm ≤ 255) (h255 : rs ≤ 255) : gu_Met l y_X_end [.code y_X_end b_X_end 6 (some .int)] ({ frames := 7, cells := 1, slots := 6, locals := 152 }) G M [.ref (A 0), .int k, .int q, .int z] (gu_Nw G (gw_Qi G (fun r M2 => ∃ rs2 : Nat, rs2 ≤ 255 ∧ gx_V G A lim sc E j n rs2 M2 ∧ gw_fg (gw_out [1, 2, 3, 4, 5, 6, 7, 8, 9, 10, 11]) M M2)) 1 6) (fun M2 => M = M2) 1 6 := by
  refine gu_start (by decide) (Nat.le_of_ble_eq_true rfl) (fun p9 e9 s m b9 mt9 c9 hEx hx hb hr hml hown hlocks hin hE hB hW ls hl => ?_)
  have hts := hE.ts ([.ref (A 0), .int k, .int q, .int z] : List Value).toArray
  have hl : lv_has ls 6 [(0, .ref (A 0)), (1, .int k), (2, .int q), (3, .int z)] := hl
  have hown : s.vm.findClass "Generations" = some m.cls := hown
  have hj9 := hX.jobs.le
  have hn9 := hX.known.le
  have hr9 := hX.rs256
  have hS : va_S (gw_A G) s.heap s.heap [] := va_S.rf
  refine lv_aload_n hx hb d_X_end_0 rfl (lv_at hl 0 rfl) ?_
  refine lv_iload_n hx hb d_X_end_1 rfl (lv_at hl 1 rfl) ?_
  obtain ⟨gco1, f3o1, f8o1, hf_x, hf_row, hf_nums, hf_gone, hgco1, hrso1, -, -, -, -⟩ := id hX
  refine gu_callr (As := [.int k]) (rest := []) hS ⟨hx, hb, hml, hown, hts⟩ (u_jobCalled l hl9 G M A lim sc E j n rs hX k) (cwV 1 hts (gw_gv mw193 mw194 mw195 mw42 mw192) rfl rfl rfl (by decide +kernel) ⟨Nat.le_of_ble_eq_true rfl, Nat.le_of_ble_eq_true rfl⟩) (gw_pv hE hB hS hW rfl hf_x) rfl hl.1 rfl (lv_room (Nat.le_of_ble_eq_true rfl)) d_X_end_2 ⟨Nat.le_of_ble_eq_true rfl, Nat.le_of_ble_eq_true rfl⟩ (fun ce q9 M9 H locs hw9 hW hS hce hcv hcl => ?_) (fun r2 hp_3 => ?_)
  · exact gu_out hEx hlocks hce hcv hcl hS hW hw9 (Nat.le_of_ble_eq_true rfl) (Nat.le_of_ble_eq_true rfl)
  · refine W.widen (k := 1) (n := 6) (Nat.le_refl _) (Nat.le_refl _) ?_
    refine gw_gen (I := fun z => gx_V G A lim sc E j n rs z) (P := gw_out [1, 2, 3, 4, 5, 6, 7, 8, 9, 10, 11]) hX hW (fun H locs Mw hW hS hX hF => ?_)
    have hX : gx_V G A lim sc E j n rs Mw := hX
    replace hp_3 := hF.2 _ _ hp_3
    refine lv_astore (lv' := [(4, .ref r2), (0, .ref (A 0)), (1, .int k), (2, .int q), (3, .int z)]) hx hb d_X_end_5 hl (by decide) rfl (fun ls hl => ?_)
    refine lv_aload_n hx hb d_X_end_7 rfl (lv_at hl 1 rfl) ?_
    refine lv_iload_n hx hb d_X_end_8 rfl (lv_at hl 3 rfl) ?_
    obtain ⟨gco4, f3o4, f8o4, hf_x, hf_row, hf_nums, hf_gone, hgco4, hrso4, -, -, -, -⟩ := id hX
    refine gr_callr (va_runV (As := [.int q]) (rest := []) ⟨hx, hb, hml, hown, hts⟩ (r_find l G Mw A lim sc E j n hX.w q  ) (cwV 1 hts (gw_gv mw54 mw55 mw56 mw42 mw53) rfl rfl rfl (by decide +kernel) ⟨Nat.le_of_ble_eq_true rfl, Nat.le_of_ble_eq_true rfl⟩) (gw_pv hE hB hS hW rfl hf_x) rfl rfl hl.1 rfl (lv_room (Nat.le_of_ble_eq_true rfl)) d_X_end_9 ⟨Nat.le_of_ble_eq_true rfl, Nat.le_of_ble_eq_true rfl⟩) (fun r5 hw6 => ?_)
    refine lv_astore (lv' := [(5, .ref r5), (4, .ref r2), (0, .ref (A 0)), (1, .int k), (2, .int q), (3, .int z)]) hx hb d_X_end_12 hl (by decide) rfl (fun ls hl => ?_)
    refine lv_aload hx hb d_X_end_14 (lv_at hl 0 rfl) ?_
    obtain ⟨u7v0, u7v1, u7v2, u7v3, u7v4, hf_u7⟩ := hX.g9 hw6
    refine gw_getN (ci := 2) (fs := [.int u7v0, .int u7v1, .int u7v2, .int u7v3, .int u7v4]) hx hb hts in_Gen hown hE.K hW hf_u7 rfl 1 (by decide) (hts _ mw36) (fun _ h9 => h9) rfl d_X_end_16 ?_
    refine lv_iconst (v := 2) hx hb d_X_end_19 (by decide) ?_
    refine lv_icmp_ne (tgt := 32) hx hb d_X_end_20 (by decide) (fun c20 => ?_) (fun c20 => ?_)
    · refine lv_iconst (v := -1) hx hb d_X_end_32 (by decide) ?_
      refine gu_of ?_
      exact gw_iret hx hb hr hlocks hS hW (Nat.le_of_ble_eq_true rfl) (Nat.le_of_ble_eq_true rfl) d_X_end_33 ⟨rs, (by omega), hX, hF⟩
    · refine lv_aload hx hb d_X_end_23 (lv_at hl 0 rfl) ?_
      refine gw_getN (ci := 2) (fs := [.int u7v0, .int u7v1, .int u7v2, .int u7v3, .int u7v4]) hx hb hts in_Gen hown hE.K hW hf_u7 rfl 3 (by decide) (hts _ mw37) (fun _ h9 => h9) rfl d_X_end_25 ?_
      refine lv_iload_n hx hb d_X_end_28 rfl (lv_at hl 3 rfl) ?_
      refine lv_icmp_eq (tgt := 34) hx hb d_X_end_29 (by decide) (fun c29 => ?_) (fun c29 => ?_)
      · refine lv_aload hx hb d_X_end_34 (lv_at hl 1 rfl) ?_
        refine lv_dup hx hb d_X_end_36 rfl ?_
        obtain ⟨u8t, u8e, hf_u8, hp_u8⟩ := hX.g10 hp_3
        refine gw_getN (ci := 3) (fs := [.ref u8t, .int u8e]) hx hb hts in_Job hown hE.K hW hf_u8 rfl 1 (by decide) (hts _ mw216) (fun _ h9 => h9) rfl d_X_end_37 ?_
        refine lv_iconst (v := 1) hx hb d_X_end_40 (by decide) ?_
        refine lv_iadd hx hb d_X_end_41 ?_
        refine gw_putN (ci := 3) (fs := [.ref u8t, .int u8e]) (v := .int (u8e + 1)) (ty := .int) hx hb hts in_Job t_Job t_Job_ok n_Job hown hE.K hW hS hf_u8 rfl 1 (by decide) (hts _ mw216) (fun _ h9 => h9) rfl (by decide +kernel) rfl rfl (Nat.le_of_ble_eq_true rfl) d_X_end_42 (fun H locs hW hS => ?_)
        have hXn : gx_V G A lim sc E j n rs (gw_up Mw r2 10 (.inr (3, [.ref u8t, .int (u8e + 1)]))) := hX.up10 hf_u8 hp_u8
        have hPn : gp_S Mw (gw_up Mw r2 10 (.inr (3, [.ref u8t, .int (u8e + 1)]))) := gp_up hf_u8
        have hF9 : gw_fg (gw_out [1, 2, 3, 4, 5, 6, 7, 8, 9, 10, 11]) M (gw_up Mw r2 10 (.inr (3, [.ref u8t, .int (u8e + 1)]))) := gw_fg.up hF hf_u8 (show ¬ ((gw_out [1, 2, 3, 4, 5, 6, 7, 8, 9, 10, 11]) 10) by decide) (show ¬ ((gw_out [1, 2, 3, 4, 5, 6, 7, 8, 9, 10, 11]) 10) by decide)
        obtain ⟨M10, eM10⟩ : ∃ z, z = gw_up Mw r2 10 (.inr (3, [.ref u8t, .int (u8e + 1)])) := ⟨_, rfl⟩
        replace hW : gw_P G.1 vwCl G.2.2.2 M10 H := by rw [eM10]; exact hW
        have hf_x : M10 (A 0) = some (1, .inr (0, [.int lim, .int sc, .int E, .ref (A 1), .ref (A 3), .ref (A 4), .ref (A 5), .ref (A 6), .int (nI gco4)])) := by rw [eM10]; exact gw_keep hf_x hf_u8 (by decide)
        have hf_row : M10 (A 1) = some (2, .inr (1, [.ref (A 2), .int (nI rs)])) := by rw [eM10]; exact gw_keep hf_row hf_u8 (by decide)
        have hf_nums : M10 (A 2) = some (3, .inl (G.2.1 0, 256, .inl f3o4)) := by rw [eM10]; exact gw_keep hf_nums hf_u8 (by decide)
        have hf_gone : M10 (A 6) = some (8, .inl (G.2.1 0, 512, .inl f8o4)) := by rw [eM10]; exact gw_keep hf_gone hf_u8 (by decide)
        have hf_u7 : M10 r5 = some (9, .inr (2, [.int u7v0, .int u7v1, .int u7v2, .int u7v3, .int u7v4])) := by rw [eM10]; exact gw_keep hf_u7 hf_u8 (by decide)
        have hf_u8 : M10 r2 = some (10, .inr (3, [.ref u8t, .int (u8e + 1)])) := by rw [eM10]; exact gw_up_self _ _ _ _
        rw [← eM10] at hF9
        rw [← eM10] at hXn hPn
        replace hX := hXn
        replace hp_3 := hPn _ _ hp_3
        replace hw6 := hPn _ _ hw6
        replace hp_u8 := hPn _ _ hp_u8
        clear hXn hPn
        refine lv_iload_n hx hb d_X_end_45 rfl (lv_at hl 5 rfl) ?_
        refine lv_if_eq (tgt := 67) hx hb d_X_end_46 (by decide) (fun c46 => ?_) (fun c46 => ?_)
        · refine lv_aload_n hx hb d_X_end_67 rfl (lv_at hl 2 rfl) ?_
          refine lv_aload hx hb d_X_end_68 (lv_at hl 0 rfl) ?_
          refine gw_callv hS (va_runV (As := [.ref r5]) (rest := []) ⟨hx, hb, hml, hown, hts⟩ (v_bring l G M10 A lim sc E j n rs hX r5 lm hw6 hlm (by omega) (by omega) (by omega)) (cwV 1 hts (gw_gv mw164 mw165 mw166 mw42 mw163) rfl rfl rfl (by decide +kernel) ⟨Nat.le_of_ble_eq_true rfl, Nat.le_of_ble_eq_true rfl⟩) (gw_pv hE hB hS hW rfl hf_x) rfl rfl hl.1 rfl (lv_room (Nat.le_of_ble_eq_true rfl)) d_X_end_70 ⟨Nat.le_of_ble_eq_true rfl, Nat.le_of_ble_eq_true rfl⟩) (fun M12 H locs hw13 hW hS => ?_)
          obtain ⟨rs215, hb16, hX, hfr14⟩ := hw13
          have hF17 : gw_fg (gw_out [1, 2, 3, 4, 5, 6, 7, 8, 9, 10, 11]) M M12 := gw_fg.tr hF9 (gw_fg.wk hfr14 (by decide))
          replace hp_3 := hfr14.2 _ _ hp_3
          replace hw6 := hfr14.2 _ _ hw6
          replace hp_u8 := hfr14.2 _ _ hp_u8
          clear hfr14
          refine lv_iconst (v := 1) hx hb d_X_end_73 (by decide) ?_
          refine gu_of ?_
          exact gw_iret hx hb hr hlocks hS hW (Nat.le_of_ble_eq_true rfl) (Nat.le_of_ble_eq_true rfl) d_X_end_74 ⟨rs215, (by omega), hX, hF17⟩
        · refine lv_aload hx hb d_X_end_49 (lv_at hl 0 rfl) ?_
          refine lv_iconst (v := 3) hx hb d_X_end_51 (by decide) ?_
          refine gw_putN (ci := 2) (fs := [.int u7v0, .int u7v1, .int u7v2, .int u7v3, .int u7v4]) (v := .int 3) (ty := .int) hx hb hts in_Gen t_Gen t_Gen_ok n_Gen hown hE.K hW hS hf_u7 rfl 1 (by decide) (hts _ mw36) (fun _ h9 => h9) rfl (by decide +kernel) rfl rfl (Nat.le_of_ble_eq_true rfl) d_X_end_52 (fun H locs hW hS => ?_)
          have hXn : gx_V G A lim sc E j n rs (gw_up M10 r5 9 (.inr (2, [.int u7v0, .int 3, .int u7v2, .int u7v3, .int u7v4]))) := hX.up9 hf_u7
          have hPn : gp_S M10 (gw_up M10 r5 9 (.inr (2, [.int u7v0, .int 3, .int u7v2, .int u7v3, .int u7v4]))) := gp_up hf_u7
          have hF18 : gw_fg (gw_out [1, 2, 3, 4, 5, 6, 7, 8, 9, 10, 11]) M (gw_up M10 r5 9 (.inr (2, [.int u7v0, .int 3, .int u7v2, .int u7v3, .int u7v4]))) := gw_fg.up hF9 hf_u7 (show ¬ ((gw_out [1, 2, 3, 4, 5, 6, 7, 8, 9, 10, 11]) 9) by decide) (show ¬ ((gw_out [1, 2, 3, 4, 5, 6, 7, 8, 9, 10, 11]) 9) by decide)
          obtain ⟨M19, eM19⟩ : ∃ z, z = gw_up M10 r5 9 (.inr (2, [.int u7v0, .int 3, .int u7v2, .int u7v3, .int u7v4])) := ⟨_, rfl⟩
          replace hW : gw_P G.1 vwCl G.2.2.2 M19 H := by rw [eM19]; exact hW
          have hf_x : M19 (A 0) = some (1, .inr (0, [.int lim, .int sc, .int E, .ref (A 1), .ref (A 3), .ref (A 4), .ref (A 5), .ref (A 6), .int (nI gco4)])) := by rw [eM19]; exact gw_keep hf_x hf_u7 (by decide)
          have hf_row : M19 (A 1) = some (2, .inr (1, [.ref (A 2), .int (nI rs)])) := by rw [eM19]; exact gw_keep hf_row hf_u7 (by decide)
          have hf_nums : M19 (A 2) = some (3, .inl (G.2.1 0, 256, .inl f3o4)) := by rw [eM19]; exact gw_keep hf_nums hf_u7 (by decide)
          have hf_gone : M19 (A 6) = some (8, .inl (G.2.1 0, 512, .inl f8o4)) := by rw [eM19]; exact gw_keep hf_gone hf_u7 (by decide)
          have hf_u8 : M19 r2 = some (10, .inr (3, [.ref u8t, .int (u8e + 1)])) := by rw [eM19]; exact gw_keep hf_u8 hf_u7 (by decide)
          have hf_u7 : M19 r5 = some (9, .inr (2, [.int u7v0, .int 3, .int u7v2, .int u7v3, .int u7v4])) := by rw [eM19]; exact gw_up_self _ _ _ _
          rw [← eM19] at hF18
          rw [← eM19] at hXn hPn
          replace hX := hXn
          replace hp_3 := hPn _ _ hp_3
          replace hw6 := hPn _ _ hw6
          replace hp_u8 := hPn _ _ hp_u8
          clear hXn hPn
          refine lv_aload hx hb d_X_end_55 (lv_at hl 0 rfl) ?_
          refine lv_aload hx hb d_X_end_57 (lv_at hl 1 rfl) ?_
          refine gw_getN (ci := 3) (fs := [.ref u8t, .int (u8e + 1)]) hx hb hts in_Job hown hE.K hW hf_u8 rfl 1 (by decide) (hts _ mw216) (fun _ h9 => h9) rfl d_X_end_59 ?_
          refine gw_putN (ci := 2) (fs := [.int u7v0, .int 3, .int u7v2, .int u7v3, .int u7v4]) (v := .int (u8e + 1)) (ty := .int) hx hb hts in_Gen t_Gen t_Gen_ok n_Gen hown hE.K hW hS hf_u7 rfl 4 (by decide) (hts _ mw217) (fun _ h9 => h9) rfl (by decide +kernel) rfl rfl (Nat.le_of_ble_eq_true rfl) d_X_end_62 (fun H locs hW hS => ?_)
          have hXn : gx_V G A lim sc E j n rs (gw_up M19 r5 9 (.inr (2, [.int u7v0, .int 3, .int u7v2, .int u7v3, .int (u8e + 1)]))) := hX.up9 hf_u7
          have hPn : gp_S M19 (gw_up M19 r5 9 (.inr (2, [.int u7v0, .int 3, .int u7v2, .int u7v3, .int (u8e + 1)]))) := gp_up hf_u7
          have hF20 : gw_fg (gw_out [1, 2, 3, 4, 5, 6, 7, 8, 9, 10, 11]) M (gw_up M19 r5 9 (.inr (2, [.int u7v0, .int 3, .int u7v2, .int u7v3, .int (u8e + 1)]))) := gw_fg.up hF18 hf_u7 (show ¬ ((gw_out [1, 2, 3, 4, 5, 6, 7, 8, 9, 10, 11]) 9) by decide) (show ¬ ((gw_out [1, 2, 3, 4, 5, 6, 7, 8, 9, 10, 11]) 9) by decide)
          obtain ⟨M21, eM21⟩ : ∃ z, z = gw_up M19 r5 9 (.inr (2, [.int u7v0, .int 3, .int u7v2, .int u7v3, .int (u8e + 1)])) := ⟨_, rfl⟩
          replace hW : gw_P G.1 vwCl G.2.2.2 M21 H := by rw [eM21]; exact hW
          have hf_x : M21 (A 0) = some (1, .inr (0, [.int lim, .int sc, .int E, .ref (A 1), .ref (A 3), .ref (A 4), .ref (A 5), .ref (A 6), .int (nI gco4)])) := by rw [eM21]; exact gw_keep hf_x hf_u7 (by decide)
          have hf_row : M21 (A 1) = some (2, .inr (1, [.ref (A 2), .int (nI rs)])) := by rw [eM21]; exact gw_keep hf_row hf_u7 (by decide)
          have hf_nums : M21 (A 2) = some (3, .inl (G.2.1 0, 256, .inl f3o4)) := by rw [eM21]; exact gw_keep hf_nums hf_u7 (by decide)
          have hf_gone : M21 (A 6) = some (8, .inl (G.2.1 0, 512, .inl f8o4)) := by rw [eM21]; exact gw_keep hf_gone hf_u7 (by decide)
          have hf_u8 : M21 r2 = some (10, .inr (3, [.ref u8t, .int (u8e + 1)])) := by rw [eM21]; exact gw_keep hf_u8 hf_u7 (by decide)
          have hf_u7 : M21 r5 = some (9, .inr (2, [.int u7v0, .int 3, .int u7v2, .int u7v3, .int (u8e + 1)])) := by rw [eM21]; exact gw_up_self _ _ _ _
          rw [← eM21] at hF20
          rw [← eM21] at hXn hPn
          replace hX := hXn
          replace hp_3 := hPn _ _ hp_3
          replace hw6 := hPn _ _ hw6
          replace hp_u8 := hPn _ _ hp_u8
          clear hXn hPn
          refine lv_iconst (v := 0) hx hb d_X_end_65 (by decide) ?_
          refine gu_of ?_
          exact gw_iret hx hb hr hlocks hS hW (Nat.le_of_ble_eq_true rfl) (Nat.le_of_ble_eq_true rfl) d_X_end_66 ⟨rs, (by omega), hX, hF20⟩
      · refine lv_iconst (v := -1) hx hb d_X_end_32 (by decide) ?_
        refine gu_of ?_
        exact gw_iret hx hb hr hlocks hS hW (Nat.le_of_ble_eq_true rfl) (Nat.le_of_ble_eq_true rfl) d_X_end_33 ⟨rs, (by omega), hX, hF⟩

set_option maxHeartbeats 4000000 in
set_option maxRecDepth 100000 in
theorem v_restart (l : Launch) (hl9 : l.stackTraces = false) (G : gw_G) (M : gw_M) (A : Nat → Nat) (lim sc E : Int32) (j n rs : Nat) (hX : gx_V G A lim sc E j n rs M) (k : Int32) (q : Int32) : gu_Met l y_X_restart [.code y_X_restart b_X_restart 7 (some .int)] ({ frames := 7, cells := 1, slots := 6, locals := 108 }) G M [.ref (A 0), .int k, .int q] (gu_Nw G (gw_Qi G (fun r M2 => gx_V G A lim sc E j n rs M2 ∧ gw_fg (gw_out [1, 2, 3, 4, 5, 6, 7, 8, 9, 10, 11]) M M2)) 1 6) (fun M2 => M = M2) 1 6 := by
  refine gu_start (by decide) (Nat.le_of_ble_eq_true rfl) (fun p9 e9 s m b9 mt9 c9 hEx hx hb hr hml hown hlocks hin hE hB hW ls hl => ?_)
  have hts := hE.ts ([.ref (A 0), .int k, .int q] : List Value).toArray
  have hl : lv_has ls 7 [(0, .ref (A 0)), (1, .int k), (2, .int q)] := hl
  have hown : s.vm.findClass "Generations" = some m.cls := hown
  have hj9 := hX.jobs.le
  have hn9 := hX.known.le
  have hr9 := hX.rs256
  have hS : va_S (gw_A G) s.heap s.heap [] := va_S.rf
  refine lv_aload_n hx hb d_X_restart_0 rfl (lv_at hl 0 rfl) ?_
  refine lv_iload_n hx hb d_X_restart_1 rfl (lv_at hl 1 rfl) ?_
  obtain ⟨gco1, f3o1, f8o1, hf_x, hf_row, hf_nums, hf_gone, hgco1, hrso1, -, -, -, -⟩ := id hX
  refine gu_callr (As := [.int k]) (rest := []) hS ⟨hx, hb, hml, hown, hts⟩ (u_jobCalled l hl9 G M A lim sc E j n rs hX k) (cwV 1 hts (gw_gv mw193 mw194 mw195 mw42 mw192) rfl rfl rfl (by decide +kernel) ⟨Nat.le_of_ble_eq_true rfl, Nat.le_of_ble_eq_true rfl⟩) (gw_pv hE hB hS hW rfl hf_x) rfl hl.1 rfl (lv_room (Nat.le_of_ble_eq_true rfl)) d_X_restart_2 ⟨Nat.le_of_ble_eq_true rfl, Nat.le_of_ble_eq_true rfl⟩ (fun ce q9 M9 H locs hw9 hW hS hce hcv hcl => ?_) (fun r2 hp_3 => ?_)
  · exact gu_out hEx hlocks hce hcv hcl hS hW hw9 (Nat.le_of_ble_eq_true rfl) (Nat.le_of_ble_eq_true rfl)
  · refine W.widen (k := 1) (n := 6) (Nat.le_refl _) (Nat.le_refl _) ?_
    refine gw_gen (I := fun z => gx_V G A lim sc E j n rs z) (P := gw_out [1, 2, 3, 4, 5, 6, 7, 8, 9, 10, 11]) hX hW (fun H locs Mw hW hS hX hF => ?_)
    have hX : gx_V G A lim sc E j n rs Mw := hX
    replace hp_3 := hF.2 _ _ hp_3
    refine lv_astore_n (lv' := [(3, .ref r2), (0, .ref (A 0)), (1, .int k), (2, .int q)]) hx hb d_X_restart_5 rfl hl (by decide) rfl (fun ls hl => ?_)
    refine lv_aload_n hx hb d_X_restart_6 rfl (lv_at hl 1 rfl) ?_
    refine lv_iload_n hx hb d_X_restart_7 rfl (lv_at hl 2 rfl) ?_
    obtain ⟨gco4, f3o4, f8o4, hf_x, hf_row, hf_nums, hf_gone, hgco4, hrso4, -, -, -, -⟩ := id hX
    refine gr_calli (va_runV (As := [.int k]) (rest := []) ⟨hx, hb, hml, hown, hts⟩ (r_anotherMakes l G Mw A lim sc E j n hX.w k  ) (cwV 1 hts (gw_gv mw213 mw214 mw215 mw42 mw212) rfl rfl rfl (by decide +kernel) ⟨Nat.le_of_ble_eq_true rfl, Nat.le_of_ble_eq_true rfl⟩) (gw_pv hE hB hS hW rfl hf_x) rfl rfl hl.1 rfl (lv_room (Nat.le_of_ble_eq_true rfl)) d_X_restart_8 ⟨Nat.le_of_ble_eq_true rfl, Nat.le_of_ble_eq_true rfl⟩) (fun r5 hw6 => ?_)
    refine lv_if_ne (tgt := 29) hx hb d_X_restart_11 (by decide) (fun c11 => ?_) (fun c11 => ?_)
    · refine lv_iconst (v := -1) hx hb d_X_restart_29 (by decide) ?_
      refine gu_of ?_
      exact gw_iret hx hb hr hlocks hS hW (Nat.le_of_ble_eq_true rfl) (Nat.le_of_ble_eq_true rfl) d_X_restart_30 ⟨hX, hF⟩
    · refine lv_iload_n hx hb d_X_restart_14 rfl (lv_at hl 3 rfl) ?_
      refine lv_iconst (v := 1) hx hb d_X_restart_15 (by decide) ?_
      refine lv_icmp_lt (tgt := 29) hx hb d_X_restart_16 (by decide) (fun c16 => ?_) (fun c16 => ?_)
      · refine lv_iconst (v := -1) hx hb d_X_restart_29 (by decide) ?_
        refine gu_of ?_
        exact gw_iret hx hb hr hlocks hS hW (Nat.le_of_ble_eq_true rfl) (Nat.le_of_ble_eq_true rfl) d_X_restart_30 ⟨hX, hF⟩
      · refine lv_iload_n hx hb d_X_restart_19 rfl (lv_at hl 3 rfl) ?_
        refine lv_aload_n hx hb d_X_restart_20 rfl (lv_at hl 0 rfl) ?_
        obtain ⟨u7t, u7e, hf_u7, hp_u7⟩ := hX.g10 hp_3
        refine gw_getN (ci := 3) (fs := [.ref u7t, .int u7e]) hx hb hts in_Job hown hE.K hW hf_u7 rfl 1 (by decide) (hts _ mw216) (fun _ h9 => h9) rfl d_X_restart_21 ?_
        refine lv_iconst (v := 1) hx hb d_X_restart_24 (by decide) ?_
        refine lv_iadd hx hb d_X_restart_25 ?_
        refine lv_icmp_le (tgt := 31) hx hb d_X_restart_26 (by decide) (fun c26 => ?_) (fun c26 => ?_)
        · refine lv_iconst (v := 0) hx hb d_X_restart_31 (by decide) ?_
          refine lv_istore (lv' := [(4, .int 0), (3, .ref r2), (0, .ref (A 0)), (1, .int k), (2, .int q)]) hx hb d_X_restart_32 hl (by decide) rfl (fun ls hl => ?_)
          refine lv_iconst (v := 0) hx hb d_X_restart_34 (by decide) ?_
          refine lv_istore (lv' := [(5, .int 0), (4, .int 0), (3, .ref r2), (0, .ref (A 0)), (1, .int k), (2, .int q)]) hx hb d_X_restart_35 hl (by decide) rfl (fun ls hl => ?_)
          obtain ⟨k37, ek37⟩ : ∃ z : Nat, z = 0 := ⟨_, rfl⟩
          obtain ⟨c37_4, ec37_4⟩ : ∃ z : Int32, z = 0 := ⟨_, rfl⟩
          replace hl : lv_has ls 7 [(5, .int (nI k37)), (4, .int c37_4), (3, .ref r2), (0, .ref (A 0)), (1, .int k), (2, .int q)] := by subst ek37; subst ec37_4; exact lv_sub hl [0, 1, 2, 3, 4, 5] rfl
          have hk37 : k37 ≤ n := by omega
          clear ek37 ec37_4
          clear hf_x hf_row hf_nums hf_gone hf_u7
          obtain ⟨n37, hn37⟩ : ∃ z : Nat, n - k37 < z := ⟨_, Nat.lt_succ_self _⟩
          induction n37 generalizing k37 ls H locs Mw c37_4 with
          | zero => exact absurd hn37 (Nat.not_lt_zero _)
          | succ n37 ih37 =>
            refine lv_iload hx hb d_X_restart_37 (lv_at hl 0 rfl) ?_
            refine lv_aload_n hx hb d_X_restart_39 rfl (lv_at hl 3 rfl) ?_
            obtain ⟨gco8, f3o8, f8o8, hf_x, hf_row, hf_nums, hf_gone, hgco8, hrso8, -, -, -, -⟩ := id hX
            refine gw_get (ci := 0) (fs := [.int lim, .int sc, .int E, .ref (A 1), .ref (A 3), .ref (A 4), .ref (A 5), .ref (A 6), .int (nI gco8)]) hx hb hts in_X hown hE.K hW hf_x rfl 5 (by decide) (hts _ mw23) (fun _ h9 => h9) rfl d_X_restart_40 ?_
            obtain ⟨_, hc9⟩ := hX.known.cell
            refine gr_calli (va_runV (As := []) (rest := [.int (nI k37)]) ⟨hx, hb, hml, hown, hts⟩ (s_size l G Mw (A 4) 5 7 9 n hX.known) (cwV 0 hts (gw_gv mw25 mw26 mw27 mw14 mw24) rfl rfl rfl (by decide +kernel) ⟨Nat.le_of_ble_eq_true rfl, Nat.le_of_ble_eq_true rfl⟩) (gw_pv hE hB hS hW rfl hc9) rfl rfl hl.1 rfl (lv_room (Nat.le_of_ble_eq_true rfl)) d_X_restart_43 ⟨Nat.le_of_ble_eq_true rfl, Nat.le_of_ble_eq_true rfl⟩) (fun r10 hw11 => ?_)
            subst hw11
            refine lv_icmp_ge (tgt := 88) hx hb d_X_restart_46 (by decide) (fun c46 => ?_) (fun c46 => ?_)
            · refine lv_iload hx hb d_X_restart_88 (lv_at hl 1 rfl) ?_
              refine gu_of ?_
              exact gw_iret hx hb hr hlocks hS hW (Nat.le_of_ble_eq_true rfl) (Nat.le_of_ble_eq_true rfl) d_X_restart_90 ⟨hX, hF⟩
            · have hlt := gx_ltN c46 (by omega) (by omega)
              refine lv_aload_n hx hb d_X_restart_49 rfl (lv_at hl 3 rfl) ?_
              refine gw_get (ci := 0) (fs := [.int lim, .int sc, .int E, .ref (A 1), .ref (A 3), .ref (A 4), .ref (A 5), .ref (A 6), .int (nI gco8)]) hx hb hts in_X hown hE.K hW hf_x rfl 5 (by decide) (hts _ mw23) (fun _ h9 => h9) rfl d_X_restart_50 ?_
              refine lv_iload hx hb d_X_restart_53 (lv_at hl 0 rfl) ?_
              obtain ⟨_, hc12⟩ := hX.known.cell
              refine gr_callr (va_runV (As := [.int (nI k37)]) (rest := []) ⟨hx, hb, hml, hown, hts⟩ (s_get l G Mw (A 4) 5 7 9 n k37 hX.known (by omega)) (cwV 1 hts (gw_gv mw30 mw31 mw32 mw14 mw29) rfl rfl rfl (by decide +kernel) ⟨Nat.le_of_ble_eq_true rfl, Nat.le_of_ble_eq_true rfl⟩) (gw_pv hE hB hS hW rfl hc12) rfl rfl hl.1 rfl (lv_room (Nat.le_of_ble_eq_true rfl)) d_X_restart_55 ⟨Nat.le_of_ble_eq_true rfl, Nat.le_of_ble_eq_true rfl⟩) (fun r13 hw14 => ?_)
              obtain ⟨u15v0, u15v1, u15v2, u15v3, u15v4, hf_u15⟩ := hX.g9 hw14
              refine va_castY hx hb hown (hts _ mw33) (hE.nw mw34) (gw_recv hE.K hW rfl hf_u15) d_X_restart_58 ?_
              refine lv_astore (lv' := [(6, .ref r13), (5, .int (nI k37)), (4, .int c37_4), (3, .ref r2), (0, .ref (A 0)), (1, .int k), (2, .int q)]) hx hb d_X_restart_61 hl (by decide) rfl (fun ls hl => ?_)
              refine lv_aload hx hb d_X_restart_63 (lv_at hl 0 rfl) ?_
              refine lv_iload_n hx hb d_X_restart_65 rfl (lv_at hl 5 rfl) ?_
              refine lv_iload_n hx hb d_X_restart_66 rfl (lv_at hl 6 rfl) ?_
              refine gr_calli (va_runVN (As := [.int k, .int q]) (rest := []) ⟨hx, hb, hml, hown, hts⟩ (r_failedFor l G Mw r13 u15v0 u15v1 u15v2 u15v3 u15v4 k q hf_u15 ) ⟨va_cnB 2 hts (gw_g1 mw218) rfl rfl rfl (hE.nw mw219) (hts _ mw21) (by decide +kernel) ⟨Nat.le_of_ble_eq_true rfl, Nat.le_of_ble_eq_true rfl⟩, hts _ mw220, hts _ mw221⟩ (gw_pv hE hB hS hW rfl hf_u15) rfl rfl hl.1 rfl (lv_room (Nat.le_of_ble_eq_true rfl)) d_X_restart_67 ⟨Nat.le_of_ble_eq_true rfl, Nat.le_of_ble_eq_true rfl⟩) (fun r16 hw17 => ?_)
              refine lv_if_eq (tgt := 82) hx hb d_X_restart_70 (by decide) (fun c70 => ?_) (fun c70 => ?_)
              · refine lv_iinc (v := (nI k37) + 1) (lv' := [(5, .int ((nI k37) + 1)), (6, .ref r13), (4, .int c37_4), (3, .ref r2), (0, .ref (A 0)), (1, .int k), (2, .int q)]) hx hb d_X_restart_82 hl (k := 1) rfl rfl (by decide) rfl (fun ls hl => ?_)
                refine lv_goto (tgt := 37) hx hb d_X_restart_85 (by decide) ?_
                rw [nI_1] at hl
                apply ih37 (ls := ls) (k37 := k37 + 1) (H := H) (locs := locs) (Mw := Mw) (c37_4 := c37_4) <;> first | exact lv_sub hl [0, 2, 3, 4, 5, 6] rfl | exact hX | exact hW | exact hS | exact hF | omega | assumption
              · refine lv_aload hx hb d_X_restart_73 (lv_at hl 0 rfl) ?_
                refine lv_iconst (v := 2) hx hb d_X_restart_75 (by decide) ?_
                refine gw_putN (ci := 2) (fs := [.int u15v0, .int u15v1, .int u15v2, .int u15v3, .int u15v4]) (v := .int 2) (ty := .int) hx hb hts in_Gen t_Gen t_Gen_ok n_Gen hown hE.K hW hS hf_u15 rfl 1 (by decide) (hts _ mw36) (fun _ h9 => h9) rfl (by decide +kernel) rfl rfl (Nat.le_of_ble_eq_true rfl) d_X_restart_76 (fun H locs hW hS => ?_)
                have hXn : gx_V G A lim sc E j n rs (gw_up Mw r13 9 (.inr (2, [.int u15v0, .int 2, .int u15v2, .int u15v3, .int u15v4]))) := hX.up9 hf_u15
                have hPn : gp_S Mw (gw_up Mw r13 9 (.inr (2, [.int u15v0, .int 2, .int u15v2, .int u15v3, .int u15v4]))) := gp_up hf_u15
                have hF18 : gw_fg (gw_out [1, 2, 3, 4, 5, 6, 7, 8, 9, 10, 11]) M (gw_up Mw r13 9 (.inr (2, [.int u15v0, .int 2, .int u15v2, .int u15v3, .int u15v4]))) := gw_fg.up hF hf_u15 (show ¬ ((gw_out [1, 2, 3, 4, 5, 6, 7, 8, 9, 10, 11]) 9) by decide) (show ¬ ((gw_out [1, 2, 3, 4, 5, 6, 7, 8, 9, 10, 11]) 9) by decide)
                obtain ⟨M19, eM19⟩ : ∃ z, z = gw_up Mw r13 9 (.inr (2, [.int u15v0, .int 2, .int u15v2, .int u15v3, .int u15v4])) := ⟨_, rfl⟩
                replace hW : gw_P G.1 vwCl G.2.2.2 M19 H := by rw [eM19]; exact hW
                have hf_x : M19 (A 0) = some (1, .inr (0, [.int lim, .int sc, .int E, .ref (A 1), .ref (A 3), .ref (A 4), .ref (A 5), .ref (A 6), .int (nI gco8)])) := by rw [eM19]; exact gw_keep hf_x hf_u15 (by decide)
                have hf_row : M19 (A 1) = some (2, .inr (1, [.ref (A 2), .int (nI rs)])) := by rw [eM19]; exact gw_keep hf_row hf_u15 (by decide)
                have hf_nums : M19 (A 2) = some (3, .inl (G.2.1 0, 256, .inl f3o8)) := by rw [eM19]; exact gw_keep hf_nums hf_u15 (by decide)
                have hf_gone : M19 (A 6) = some (8, .inl (G.2.1 0, 512, .inl f8o8)) := by rw [eM19]; exact gw_keep hf_gone hf_u15 (by decide)
                have hf_u15 : M19 r13 = some (9, .inr (2, [.int u15v0, .int 2, .int u15v2, .int u15v3, .int u15v4])) := by rw [eM19]; exact gw_up_self _ _ _ _
                rw [← eM19] at hF18
                rw [← eM19] at hXn hPn
                replace hX := hXn
                replace hp_3 := hPn _ _ hp_3
                replace hp_u7 := hPn _ _ hp_u7
                replace hw14 := hPn _ _ hw14
                clear hXn hPn
                refine lv_iinc (v := c37_4 + 1) (lv' := [(4, .int (c37_4 + 1)), (6, .ref r13), (5, .int (nI k37)), (3, .ref r2), (0, .ref (A 0)), (1, .int k), (2, .int q)]) hx hb d_X_restart_79 hl (k := 2) rfl rfl (by decide) rfl (fun ls hl => ?_)
                refine lv_iinc (v := (nI k37) + 1) (lv' := [(5, .int ((nI k37) + 1)), (4, .int (c37_4 + 1)), (6, .ref r13), (3, .ref r2), (0, .ref (A 0)), (1, .int k), (2, .int q)]) hx hb d_X_restart_82 hl (k := 2) rfl rfl (by decide) rfl (fun ls hl => ?_)
                refine lv_goto (tgt := 37) hx hb d_X_restart_85 (by decide) ?_
                rw [nI_1] at hl
                apply ih37 (ls := ls) (k37 := k37 + 1) (H := H) (locs := locs) (Mw := M19) (c37_4 := c37_4 + 1) <;> first | exact lv_sub hl [0, 1, 3, 4, 5, 6] rfl | exact hX | exact hW | exact hS | exact hF18 | omega | assumption
        · refine lv_iconst (v := -1) hx hb d_X_restart_29 (by decide) ?_
          refine gu_of ?_
          exact gw_iret hx hb hr hlocks hS hW (Nat.le_of_ble_eq_true rfl) (Nat.le_of_ble_eq_true rfl) d_X_restart_30 ⟨hX, hF⟩
