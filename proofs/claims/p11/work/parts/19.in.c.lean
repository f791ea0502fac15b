set_option maxHeartbeats 4000000 in
set_option maxRecDepth 100000 in
theorem v_hold (l : Launch) (G : gw_G) (M : gw_M) (A : Nat → Nat) (lim sc E : Int32) (j n rs : Nat) (hX : gx_V G A lim sc E j n rs M) (lm : Nat) (hlm : lim = nI lm) (hl1 : 1 ≤ lm) (hl2 : lm ≤ 255) : Met l y_X_holdToLimit [.code y_X_holdToLimit b_X_holdToLimit 3 none] ({ frames := 5, cells := 0, slots := 0, locals := 109 }) (gw_Pc G M [.ref (A 0)]) (gw_Qv G (fun M2 => ∃ rs2 : Nat, rs2 ≤ 255 ∧ gx_V G A lim sc E j n rs2 M2 ∧ gw_fg (gw_out [1, 2, 3, 4, 5, 6, 7, 8, 9, 10, 11]) M M2)) 0 0 (gw_A G) := by
  refine gw_start (by decide) (Nat.le_of_ble_eq_true rfl) (fun p9 e9 s m b9 mt9 c9 hx hb hr hml hown hlocks hin hE hB hW ls hl => ?_)
  have hts := hE.ts ([.ref (A 0)] : List Value).toArray
  have hl : lv_has ls 3 [(0, .ref (A 0))] := hl
  have hown : s.vm.findClass "Generations" = some m.cls := hown
  have hj9 := hX.jobs.le
  have hn9 := hX.known.le
  have hr9 := hX.rs256
  refine gw_gen (I := fun z => gx_V G A lim sc E j n rs z) (P := gw_out [1, 2, 3, 4, 5, 6, 7, 8, 9, 10, 11]) hX hW (fun H locs Mw hW hS hX hF => ?_)
  have hX : gx_V G A lim sc E j n rs Mw := hX
  refine lv_aload_n hx hb d_X_holdToLimit_0 rfl (lv_at hl 0 rfl) ?_
  obtain ⟨gco1, f3o1, f8o1, hf_x, hf_row, hf_nums, hf_gone, hgco1, hrso1, -, -, -, -⟩ := id hX
  refine gw_get (ci := 0) (fs := [.int lim, .int sc, .int E, .ref (A 1), .ref (A 3), .ref (A 4), .ref (A 5), .ref (A 6), .int (nI gco1)]) hx hb hts in_X hown hE.K hW hf_x rfl 3 (by decide) (hts _ mw45) (fun _ h9 => h9) rfl d_X_holdToLimit_1 ?_
  refine gw_getN (ci := 1) (fs := [.ref (A 2), .int (nI rs)]) hx hb hts in_Row hown hE.K hW hf_row rfl 1 (by decide) (hts _ mw61) (fun _ h9 => h9) rfl d_X_holdToLimit_4 ?_
  refine lv_aload_n hx hb d_X_holdToLimit_7 rfl (lv_at hl 0 rfl) ?_
  refine gw_get (ci := 0) (fs := [.int lim, .int sc, .int E, .ref (A 1), .ref (A 3), .ref (A 4), .ref (A 5), .ref (A 6), .int (nI gco1)]) hx hb hts in_X hown hE.K hW hf_x rfl 0 (by decide) (hts _ mw136) (fun _ h9 => h9) rfl d_X_holdToLimit_8 ?_
  refine lv_icmp_gt (tgt := 15) hx hb d_X_holdToLimit_11 (by decide) (fun c11 => ?_) (fun c11 => ?_)
  · have hgt := (nI_ltI (a := lm) (b := rs) (by omega) (by omega)).mp (by rw [← hlm]; exact c11)
    refine lv_aload_n hx hb d_X_holdToLimit_15 rfl (lv_at hl 0 rfl) ?_
    refine gw_get (ci := 0) (fs := [.int lim, .int sc, .int E, .ref (A 1), .ref (A 3), .ref (A 4), .ref (A 5), .ref (A 6), .int (nI gco1)]) hx hb hts in_X hown hE.K hW hf_x rfl 2 (by decide) (hts _ mw137) (fun _ h9 => h9) rfl d_X_holdToLimit_16 ?_
    refine lv_if_eq (tgt := 34) hx hb d_X_holdToLimit_19 (by decide) (fun c19 => ?_) (fun c19 => ?_)
    · refine lv_aload_n hx hb d_X_holdToLimit_34 rfl (lv_at hl 0 rfl) ?_
      refine gw_get (ci := 0) (fs := [.int lim, .int sc, .int E, .ref (A 1), .ref (A 3), .ref (A 4), .ref (A 5), .ref (A 6), .int (nI gco1)]) hx hb hts in_X hown hE.K hW hf_x rfl 3 (by decide) (hts _ mw45) (fun _ h9 => h9) rfl d_X_holdToLimit_35 ?_
      refine gw_getN (ci := 1) (fs := [.ref (A 2), .int (nI rs)]) hx hb hts in_Row hown hE.K hW hf_row rfl 1 (by decide) (hts _ mw61) (fun _ h9 => h9) rfl d_X_holdToLimit_38 ?_
      refine lv_aload_n hx hb d_X_holdToLimit_41 rfl (lv_at hl 0 rfl) ?_
      refine gw_get (ci := 0) (fs := [.int lim, .int sc, .int E, .ref (A 1), .ref (A 3), .ref (A 4), .ref (A 5), .ref (A 6), .int (nI gco1)]) hx hb hts in_X hown hE.K hW hf_x rfl 0 (by decide) (hts _ mw136) (fun _ h9 => h9) rfl d_X_holdToLimit_42 ?_
      refine lv_isub hx hb d_X_holdToLimit_45 ?_
      obtain ⟨go, hg1, hg2, hgo⟩ : ∃ z : Nat, 1 ≤ z ∧ z ≤ rs ∧ (nI rs) - lim = nI z := ⟨rs - lm, by omega, by omega, by rw [hlm, pk_sub (by omega)]⟩
      refine W.eq (g2 := F0 m 46 ls [.int (nI go)]) (by rw [hgo]) ?_
      refine lv_istore_n (lv' := [(1, .int (nI go)), (0, .ref (A 0))]) hx hb d_X_holdToLimit_46 rfl hl (by decide) rfl (fun ls hl => ?_)
      refine lv_iconst (v := 0) hx hb d_X_holdToLimit_47 (by decide) ?_
      refine lv_istore_n (lv' := [(2, .int 0), (1, .int (nI go)), (0, .ref (A 0))]) hx hb d_X_holdToLimit_48 rfl hl (by decide) rfl (fun ls hl => ?_)
      obtain ⟨k49, ek49⟩ : ∃ z : Nat, z = 0 := ⟨_, rfl⟩
      replace hl : lv_has ls 3 [(2, .int (nI k49)), (1, .int (nI go)), (0, .ref (A 0))] := by subst ek49; exact lv_sub hl [0, 1, 2] rfl
      have hk49 : k49 ≤ go := by omega
      clear ek49
      clear hf_x hf_row hf_nums hf_gone
      obtain ⟨n49, hn49⟩ : ∃ z : Nat, go - k49 < z := ⟨_, Nat.lt_succ_self _⟩
      induction n49 generalizing k49 ls H locs Mw with
      | zero => exact absurd hn49 (Nat.not_lt_zero _)
      | succ n49 ih49 =>
        refine lv_iload_n hx hb d_X_holdToLimit_49 rfl (lv_at hl 0 rfl) ?_
        refine lv_iload_n hx hb d_X_holdToLimit_50 rfl (lv_at hl 1 rfl) ?_
        refine lv_icmp_ge (tgt := 72) hx hb d_X_holdToLimit_51 (by decide) (fun c51 => ?_) (fun c51 => ?_)
        · refine lv_aload_n hx hb d_X_holdToLimit_72 rfl (lv_at hl 2 rfl) ?_
          obtain ⟨gco2, f3o2, f8o2, hf_x, hf_row, hf_nums, hf_gone, hgco2, hrso2, -, -, -, -⟩ := id hX
          refine gw_get (ci := 0) (fs := [.int lim, .int sc, .int E, .ref (A 1), .ref (A 3), .ref (A 4), .ref (A 5), .ref (A 6), .int (nI gco2)]) hx hb hts in_X hown hE.K hW hf_x rfl 3 (by decide) (hts _ mw45) (fun _ h9 => h9) rfl d_X_holdToLimit_73 ?_
          refine lv_iload_n hx hb d_X_holdToLimit_76 rfl (lv_at hl 1 rfl) ?_
          refine gw_callv hS (va_runVN (As := [.int (nI go)]) (rest := []) ⟨hx, hb, hml, hown, hts⟩ (v_removeOldest l G Mw A lim sc E j n rs hX go  (by omega)) ⟨va_cnB 1 hts (gw_g1 mw138) rfl rfl rfl (hE.nw mw139) (hts _ mw48) (by decide +kernel) ⟨Nat.le_of_ble_eq_true rfl, Nat.le_of_ble_eq_true rfl⟩, hts _ mw140, hts _ mw141⟩ (gw_pv hE hB hS hW rfl hf_row) rfl rfl hl.1 rfl (lv_room (Nat.le_of_ble_eq_true rfl)) d_X_holdToLimit_77 ⟨Nat.le_of_ble_eq_true rfl, Nat.le_of_ble_eq_true rfl⟩) (fun M4 H locs hw5 hW hS => ?_)
          obtain ⟨hX, hfr6⟩ := hw5
          have hF7 : gw_fg (gw_out [1, 2, 3, 4, 5, 6, 7, 8, 9, 10, 11]) M M4 := gw_fg.tr hF (gw_fg.wk hfr6 (by decide))
          clear hfr6
          exact gw_vret hx hb hr hlocks hS hW (Nat.le_of_ble_eq_true rfl) (Nat.le_of_ble_eq_true rfl) d_X_holdToLimit_80 ⟨rs - go, (by omega), hX, hF7⟩
        · have hlt := gx_ltN c51 (by omega) (by omega)
          refine lv_aload_n hx hb d_X_holdToLimit_54 rfl (lv_at hl 2 rfl) ?_
          refine lv_aload_n hx hb d_X_holdToLimit_55 rfl (lv_at hl 2 rfl) ?_
          obtain ⟨gco8, f3o8, f8o8, hf_x, hf_row, hf_nums, hf_gone, hgco8, hrso8, -, -, -, -⟩ := id hX
          refine gw_get (ci := 0) (fs := [.int lim, .int sc, .int E, .ref (A 1), .ref (A 3), .ref (A 4), .ref (A 5), .ref (A 6), .int (nI gco8)]) hx hb hts in_X hown hE.K hW hf_x rfl 3 (by decide) (hts _ mw45) (fun _ h9 => h9) rfl d_X_holdToLimit_56 ?_
          refine lv_iload_n hx hb d_X_holdToLimit_59 rfl (lv_at hl 0 rfl) ?_
          refine gr_calli (va_runVN (As := [.int (nI k49)]) (rest := [.ref (A 0)]) ⟨hx, hb, hml, hown, hts⟩ (r_at l G Mw A lim sc E j n hX.w (nI k49)  ) ⟨va_cnB 1 hts (gw_g1 mw46) rfl rfl rfl (hE.nw mw47) (hts _ mw48) (by decide +kernel) ⟨Nat.le_of_ble_eq_true rfl, Nat.le_of_ble_eq_true rfl⟩, hts _ mw49, hts _ mw50⟩ (gw_pv hE hB hS hW rfl hf_row) rfl rfl hl.1 rfl (lv_room (Nat.le_of_ble_eq_true rfl)) d_X_holdToLimit_60 ⟨Nat.le_of_ble_eq_true rfl, Nat.le_of_ble_eq_true rfl⟩) (fun r9 hw10 => ?_)
          refine gw_callv hS (va_runV (As := [.int r9]) (rest := []) ⟨hx, hb, hml, hown, hts⟩ (v_letGo l G Mw A lim sc E j n rs hX r9  ) (cwV 1 hts (gw_gv mw143 mw144 mw145 mw42 mw142) rfl rfl rfl (by decide +kernel) ⟨Nat.le_of_ble_eq_true rfl, Nat.le_of_ble_eq_true rfl⟩) (gw_pv hE hB hS hW rfl hf_x) rfl rfl hl.1 rfl (lv_room (Nat.le_of_ble_eq_true rfl)) d_X_holdToLimit_63 ⟨Nat.le_of_ble_eq_true rfl, Nat.le_of_ble_eq_true rfl⟩) (fun M12 H locs hw13 hW hS => ?_)
          obtain ⟨hX, hfr14⟩ := hw13
          have hF15 : gw_fg (gw_out [1, 2, 3, 4, 5, 6, 7, 8, 9, 10, 11]) M M12 := gw_fg.tr hF (gw_fg.wk hfr14 (by decide))
          clear hfr14
          refine lv_iinc (v := (nI k49) + 1) (lv' := [(2, .int ((nI k49) + 1)), (1, .int (nI go)), (0, .ref (A 0))]) hx hb d_X_holdToLimit_66 hl (k := 0) rfl rfl (by decide) rfl (fun ls hl => ?_)
          refine lv_goto (tgt := 49) hx hb d_X_holdToLimit_69 (by decide) ?_
          rw [nI_1] at hl
          apply ih49 (ls := ls) (k49 := k49 + 1) (H := H) (locs := locs) (Mw := M12) <;> first | exact lv_sub hl [0, 1, 2] rfl | exact hX | exact hW | exact hS | exact hF15 | omega | assumption
    · refine lv_aload_n hx hb d_X_holdToLimit_22 rfl (lv_at hl 0 rfl) ?_
      refine gw_get (ci := 0) (fs := [.int lim, .int sc, .int E, .ref (A 1), .ref (A 3), .ref (A 4), .ref (A 5), .ref (A 6), .int (nI gco1)]) hx hb hts in_X hown hE.K hW hf_x rfl 3 (by decide) (hts _ mw45) (fun _ h9 => h9) rfl d_X_holdToLimit_23 ?_
      refine gw_getN (ci := 1) (fs := [.ref (A 2), .int (nI rs)]) hx hb hts in_Row hown hE.K hW hf_row rfl 1 (by decide) (hts _ mw61) (fun _ h9 => h9) rfl d_X_holdToLimit_26 ?_
      refine lv_iconst (v := 1) hx hb d_X_holdToLimit_29 (by decide) ?_
      refine lv_isub hx hb d_X_holdToLimit_30 ?_
      refine lv_goto (tgt := 46) hx hb d_X_holdToLimit_31 (by decide) ?_
      obtain ⟨go, hg1, hg2, hgo⟩ : ∃ z : Nat, 1 ≤ z ∧ z ≤ rs ∧ (nI rs) - 1 = nI z := ⟨rs - 1, by omega, by omega, gx_pred (by omega)⟩
      refine W.eq (g2 := F0 m 46 ls [.int (nI go)]) (by rw [hgo]) ?_
      refine lv_istore_n (lv' := [(1, .int (nI go)), (0, .ref (A 0))]) hx hb d_X_holdToLimit_46 rfl hl (by decide) rfl (fun ls hl => ?_)
      refine lv_iconst (v := 0) hx hb d_X_holdToLimit_47 (by decide) ?_
      refine lv_istore_n (lv' := [(2, .int 0), (1, .int (nI go)), (0, .ref (A 0))]) hx hb d_X_holdToLimit_48 rfl hl (by decide) rfl (fun ls hl => ?_)
      obtain ⟨k49, ek49⟩ : ∃ z : Nat, z = 0 := ⟨_, rfl⟩
      replace hl : lv_has ls 3 [(2, .int (nI k49)), (1, .int (nI go)), (0, .ref (A 0))] := by subst ek49; exact lv_sub hl [0, 1, 2] rfl
      have hk49 : k49 ≤ go := by omega
      clear ek49
      clear hf_x hf_row hf_nums hf_gone
      obtain ⟨n49, hn49⟩ : ∃ z : Nat, go - k49 < z := ⟨_, Nat.lt_succ_self _⟩
      induction n49 generalizing k49 ls H locs Mw with
      | zero => exact absurd hn49 (Nat.not_lt_zero _)
      | succ n49 ih49 =>
        refine lv_iload_n hx hb d_X_holdToLimit_49 rfl (lv_at hl 0 rfl) ?_
        refine lv_iload_n hx hb d_X_holdToLimit_50 rfl (lv_at hl 1 rfl) ?_
        refine lv_icmp_ge (tgt := 72) hx hb d_X_holdToLimit_51 (by decide) (fun c51 => ?_) (fun c51 => ?_)
        · refine lv_aload_n hx hb d_X_holdToLimit_72 rfl (lv_at hl 2 rfl) ?_
          obtain ⟨gco16, f3o16, f8o16, hf_x, hf_row, hf_nums, hf_gone, hgco16, hrso16, -, -, -, -⟩ := id hX
          refine gw_get (ci := 0) (fs := [.int lim, .int sc, .int E, .ref (A 1), .ref (A 3), .ref (A 4), .ref (A 5), .ref (A 6), .int (nI gco16)]) hx hb hts in_X hown hE.K hW hf_x rfl 3 (by decide) (hts _ mw45) (fun _ h9 => h9) rfl d_X_holdToLimit_73 ?_
          refine lv_iload_n hx hb d_X_holdToLimit_76 rfl (lv_at hl 1 rfl) ?_
          refine gw_callv hS (va_runVN (As := [.int (nI go)]) (rest := []) ⟨hx, hb, hml, hown, hts⟩ (v_removeOldest l G Mw A lim sc E j n rs hX go  (by omega)) ⟨va_cnB 1 hts (gw_g1 mw138) rfl rfl rfl (hE.nw mw139) (hts _ mw48) (by decide +kernel) ⟨Nat.le_of_ble_eq_true rfl, Nat.le_of_ble_eq_true rfl⟩, hts _ mw140, hts _ mw141⟩ (gw_pv hE hB hS hW rfl hf_row) rfl rfl hl.1 rfl (lv_room (Nat.le_of_ble_eq_true rfl)) d_X_holdToLimit_77 ⟨Nat.le_of_ble_eq_true rfl, Nat.le_of_ble_eq_true rfl⟩) (fun M18 H locs hw19 hW hS => ?_)
          obtain ⟨hX, hfr20⟩ := hw19
          have hF21 : gw_fg (gw_out [1, 2, 3, 4, 5, 6, 7, 8, 9, 10, 11]) M M18 := gw_fg.tr hF (gw_fg.wk hfr20 (by decide))
          clear hfr20
          exact gw_vret hx hb hr hlocks hS hW (Nat.le_of_ble_eq_true rfl) (Nat.le_of_ble_eq_true rfl) d_X_holdToLimit_80 ⟨rs - go, (by omega), hX, hF21⟩
        · have hlt := gx_ltN c51 (by omega) (by omega)
          refine lv_aload_n hx hb d_X_holdToLimit_54 rfl (lv_at hl 2 rfl) ?_
          refine lv_aload_n hx hb d_X_holdToLimit_55 rfl (lv_at hl 2 rfl) ?_
          obtain ⟨gco22, f3o22, f8o22, hf_x, hf_row, hf_nums, hf_gone, hgco22, hrso22, -, -, -, -⟩ := id hX
          refine gw_get (ci := 0) (fs := [.int lim, .int sc, .int E, .ref (A 1), .ref (A 3), .ref (A 4), .ref (A 5), .ref (A 6), .int (nI gco22)]) hx hb hts in_X hown hE.K hW hf_x rfl 3 (by decide) (hts _ mw45) (fun _ h9 => h9) rfl d_X_holdToLimit_56 ?_
          refine lv_iload_n hx hb d_X_holdToLimit_59 rfl (lv_at hl 0 rfl) ?_
          refine gr_calli (va_runVN (As := [.int (nI k49)]) (rest := [.ref (A 0)]) ⟨hx, hb, hml, hown, hts⟩ (r_at l G Mw A lim sc E j n hX.w (nI k49)  ) ⟨va_cnB 1 hts (gw_g1 mw46) rfl rfl rfl (hE.nw mw47) (hts _ mw48) (by decide +kernel) ⟨Nat.le_of_ble_eq_true rfl, Nat.le_of_ble_eq_true rfl⟩, hts _ mw49, hts _ mw50⟩ (gw_pv hE hB hS hW rfl hf_row) rfl rfl hl.1 rfl (lv_room (Nat.le_of_ble_eq_true rfl)) d_X_holdToLimit_60 ⟨Nat.le_of_ble_eq_true rfl, Nat.le_of_ble_eq_true rfl⟩) (fun r23 hw24 => ?_)
          refine gw_callv hS (va_runV (As := [.int r23]) (rest := []) ⟨hx, hb, hml, hown, hts⟩ (v_letGo l G Mw A lim sc E j n rs hX r23  ) (cwV 1 hts (gw_gv mw143 mw144 mw145 mw42 mw142) rfl rfl rfl (by decide +kernel) ⟨Nat.le_of_ble_eq_true rfl, Nat.le_of_ble_eq_true rfl⟩) (gw_pv hE hB hS hW rfl hf_x) rfl rfl hl.1 rfl (lv_room (Nat.le_of_ble_eq_true rfl)) d_X_holdToLimit_63 ⟨Nat.le_of_ble_eq_true rfl, Nat.le_of_ble_eq_true rfl⟩) (fun M26 H locs hw27 hW hS => ?_)
          obtain ⟨hX, hfr28⟩ := hw27
          have hF29 : gw_fg (gw_out [1, 2, 3, 4, 5, 6, 7, 8, 9, 10, 11]) M M26 := gw_fg.tr hF (gw_fg.wk hfr28 (by decide))
          clear hfr28
          refine lv_iinc (v := (nI k49) + 1) (lv' := [(2, .int ((nI k49) + 1)), (1, .int (nI go)), (0, .ref (A 0))]) hx hb d_X_holdToLimit_66 hl (k := 0) rfl rfl (by decide) rfl (fun ls hl => ?_)
          refine lv_goto (tgt := 49) hx hb d_X_holdToLimit_69 (by decide) ?_
          rw [nI_1] at hl
          apply ih49 (ls := ls) (k49 := k49 + 1) (H := H) (locs := locs) (Mw := M26) <;> first | exact lv_sub hl [0, 1, 2] rfl | exact hX | exact hW | exact hS | exact hF29 | omega | assumption
  · have hle := gx_nlt (a := lm) (b := rs) (by rw [← hlm]; exact c11) (by omega) (by omega)
    exact gw_vret hx hb hr hlocks hS hW (Nat.le_of_ble_eq_true rfl) (Nat.le_of_ble_eq_true rfl) d_X_holdToLimit_14 ⟨rs, (by omega), hX, hF⟩

set_option maxHeartbeats 4000000 in
set_option maxRecDepth 100000 in
theorem v_bring (l : Launch) (G : gw_G) (M : gw_M) (A : Nat → Nat) (lim sc E : Int32) (j n rs : Nat) (hX : gx_V G A lim sc E j n rs M) (g : Nat) (lm : Nat) (hg_g : gp_R M 9 g) (hlm : lim = nI lm) (hl1 : 1 ≤ lm) (hl2 : lm ≤ 255) (h255 : rs ≤ 255) : Met l y_X_bringIntoRow [.code y_X_bringIntoRow b_X_bringIntoRow 2 none] ({ frames := 6, cells := 0, slots := 0, locals := 131 }) (gw_Pc G M [.ref (A 0), .ref g]) (gw_Qv G (fun M2 => ∃ rs2 : Nat, rs2 ≤ 255 ∧ gx_V G A lim sc E j n rs2 M2 ∧ gw_fg (gw_out [1, 2, 3, 4, 5, 6, 7, 8, 9, 10, 11]) M M2)) 0 0 (gw_A G) := by
  refine gw_start (by decide) (Nat.le_of_ble_eq_true rfl) (fun p9 e9 s m b9 mt9 c9 hx hb hr hml hown hlocks hin hE hB hW ls hl => ?_)
  have hts := hE.ts ([.ref (A 0), .ref g] : List Value).toArray
  have hl : lv_has ls 2 [(0, .ref (A 0)), (1, .ref g)] := hl
  have hown : s.vm.findClass "Generations" = some m.cls := hown
  have hj9 := hX.jobs.le
  have hn9 := hX.known.le
  have hr9 := hX.rs256
  refine gw_gen (I := fun z => gx_V G A lim sc E j n rs z) (P := gw_out [1, 2, 3, 4, 5, 6, 7, 8, 9, 10, 11]) hX hW (fun H locs Mw hW hS hX hF => ?_)
  have hX : gx_V G A lim sc E j n rs Mw := hX
  replace hg_g := hF.2 _ _ hg_g
  refine lv_aload_n hx hb d_X_bringIntoRow_0 rfl (lv_at hl 1 rfl) ?_
  refine lv_iconst (v := 1) hx hb d_X_bringIntoRow_1 (by decide) ?_
  obtain ⟨u1v0, u1v1, u1v2, u1v3, u1v4, hf_u1⟩ := hX.g9 hg_g
  refine gw_putN (ci := 2) (fs := [.int u1v0, .int u1v1, .int u1v2, .int u1v3, .int u1v4]) (v := .int 1) (ty := .int) hx hb hts in_Gen t_Gen t_Gen_ok n_Gen hown hE.K hW hS hf_u1 rfl 1 (by decide) (hts _ mw36) (fun _ h9 => h9) rfl (by decide +kernel) rfl rfl (Nat.le_of_ble_eq_true rfl) d_X_bringIntoRow_2 (fun H locs hW hS => ?_)
  have hXn : gx_V G A lim sc E j n rs (gw_up Mw g 9 (.inr (2, [.int u1v0, .int 1, .int u1v2, .int u1v3, .int u1v4]))) := hX.up9 hf_u1
  have hPn : gp_S Mw (gw_up Mw g 9 (.inr (2, [.int u1v0, .int 1, .int u1v2, .int u1v3, .int u1v4]))) := gp_up hf_u1
  have hF2 : gw_fg (gw_out [1, 2, 3, 4, 5, 6, 7, 8, 9, 10, 11]) M (gw_up Mw g 9 (.inr (2, [.int u1v0, .int 1, .int u1v2, .int u1v3, .int u1v4]))) := gw_fg.up hF hf_u1 (show ¬ ((gw_out [1, 2, 3, 4, 5, 6, 7, 8, 9, 10, 11]) 9) by decide) (show ¬ ((gw_out [1, 2, 3, 4, 5, 6, 7, 8, 9, 10, 11]) 9) by decide)
  obtain ⟨M3, eM3⟩ : ∃ z, z = gw_up Mw g 9 (.inr (2, [.int u1v0, .int 1, .int u1v2, .int u1v3, .int u1v4])) := ⟨_, rfl⟩
  replace hW : gw_P G.1 vwCl G.2.2.2 M3 H := by rw [eM3]; exact hW
  have hf_u1 : M3 g = some (9, .inr (2, [.int u1v0, .int 1, .int u1v2, .int u1v3, .int u1v4])) := by rw [eM3]; exact gw_up_self _ _ _ _
  rw [← eM3] at hF2
  rw [← eM3] at hXn hPn
  replace hX := hXn
  replace hg_g := hPn _ _ hg_g
  clear hXn hPn
  refine lv_aload_n hx hb d_X_bringIntoRow_5 rfl (lv_at hl 0 rfl) ?_
  obtain ⟨gco4, f3o4, f8o4, hf_x, hf_row, hf_nums, hf_gone, hgco4, hrso4, -, -, -, -⟩ := id hX
  refine gw_get (ci := 0) (fs := [.int lim, .int sc, .int E, .ref (A 1), .ref (A 3), .ref (A 4), .ref (A 5), .ref (A 6), .int (nI gco4)]) hx hb hts in_X hown hE.K hW hf_x rfl 3 (by decide) (hts _ mw45) (fun _ h9 => h9) rfl d_X_bringIntoRow_6 ?_
  refine lv_aload_n hx hb d_X_bringIntoRow_9 rfl (lv_at hl 1 rfl) ?_
  refine gw_getN (ci := 2) (fs := [.int u1v0, .int 1, .int u1v2, .int u1v3, .int u1v4]) hx hb hts in_Gen hown hE.K hW hf_u1 rfl 0 (by decide) (hts _ mw35) (fun _ h9 => h9) rfl d_X_bringIntoRow_10 ?_
  refine gw_callv hS (va_runVN (As := [.int u1v0]) (rest := []) ⟨hx, hb, hml, hown, hts⟩ (v_put l G M3 A lim sc E j n rs hX u1v0  (by omega)) ⟨va_cnB 1 hts (gw_g1 mw146) rfl rfl rfl (hE.nw mw147) (hts _ mw48) (by decide +kernel) ⟨Nat.le_of_ble_eq_true rfl, Nat.le_of_ble_eq_true rfl⟩, hts _ mw148, hts _ mw149⟩ (gw_pv hE hB hS hW rfl hf_row) rfl rfl hl.1 rfl (lv_room (Nat.le_of_ble_eq_true rfl)) d_X_bringIntoRow_13 ⟨Nat.le_of_ble_eq_true rfl, Nat.le_of_ble_eq_true rfl⟩) (fun M6 H locs hw7 hW hS => ?_)
  obtain ⟨hX, hfr8⟩ := hw7
  have hF9 : gw_fg (gw_out [1, 2, 3, 4, 5, 6, 7, 8, 9, 10, 11]) M M6 := gw_fg.tr hF2 (gw_fg.wk hfr8 (by decide))
  replace hg_g := hfr8.2 _ _ hg_g
  clear hfr8
  refine lv_aload_n hx hb d_X_bringIntoRow_16 rfl (lv_at hl 0 rfl) ?_
  obtain ⟨gco10, f3o10, f8o10, hf_x, hf_row, hf_nums, hf_gone, hgco10, hrso10, -, -, -, -⟩ := id hX
  refine gw_callv hS (va_runV (As := []) (rest := []) ⟨hx, hb, hml, hown, hts⟩ (v_hold l G M6 A lim sc E j n (rs + 1) hX lm  hlm (by omega) (by omega)) (cwV 0 hts (gw_gv mw151 mw152 mw153 mw42 mw150) rfl rfl rfl (by decide +kernel) ⟨Nat.le_of_ble_eq_true rfl, Nat.le_of_ble_eq_true rfl⟩) (gw_pv hE hB hS hW rfl hf_x) rfl rfl hl.1 rfl (lv_room (Nat.le_of_ble_eq_true rfl)) d_X_bringIntoRow_17 ⟨Nat.le_of_ble_eq_true rfl, Nat.le_of_ble_eq_true rfl⟩) (fun M12 H locs hw13 hW hS => ?_)
  obtain ⟨rs215, hb16, hX, hfr14⟩ := hw13
  have hF17 : gw_fg (gw_out [1, 2, 3, 4, 5, 6, 7, 8, 9, 10, 11]) M M12 := gw_fg.tr hF9 (gw_fg.wk hfr14 (by decide))
  replace hg_g := hfr14.2 _ _ hg_g
  clear hfr14
  exact gw_vret hx hb hr hlocks hS hW (Nat.le_of_ble_eq_true rfl) (Nat.le_of_ble_eq_true rfl) d_X_bringIntoRow_20 ⟨rs215, (by omega), hX, hF17⟩

set_option maxHeartbeats 4000000 in
set_option maxRecDepth 100000 in
theorem v_placeFor (l : Launch) (G : gw_G) (M : gw_M) (A : Nat → Nat) (lim sc E : Int32) (j n rs : Nat) (hX : gx_V G A lim sc E j n rs M) (k : Int32) (hn6 : n ≤ 600) : Met l y_X_placeFor [.code y_X_placeFor b_X_placeFor 3 (some (.object "Generations$Generation"))] ({ frames := 7, cells := 2, slots := 1005, locals := 221 }) (gw_Pc G M [.ref (A 0), .int k]) (gw_Qr G (fun r M2 => ∃ n2 : Nat, n2 ≤ n + 1 ∧ gp_R M2 9 r ∧ gx_V G A lim sc E j n2 rs M2 ∧ gw_fg (gw_out [1, 2, 3, 4, 5, 6, 7, 8, 9, 10, 11]) M M2)) 2 1005 (gw_A G) := by
  refine gw_start (by decide) (Nat.le_of_ble_eq_true rfl) (fun p9 e9 s m b9 mt9 c9 hx hb hr hml hown hlocks hin hE hB hW ls hl => ?_)
  have hts := hE.ts ([.ref (A 0), .int k] : List Value).toArray
  have hl : lv_has ls 3 [(0, .ref (A 0)), (1, .int k)] := hl
  have hown : s.vm.findClass "Generations" = some m.cls := hown
  have hj9 := hX.jobs.le
  have hn9 := hX.known.le
  have hr9 := hX.rs256
  refine gw_gen (I := fun z => gx_V G A lim sc E j n rs z) (P := gw_out [1, 2, 3, 4, 5, 6, 7, 8, 9, 10, 11]) hX hW (fun H locs Mw hW hS hX hF => ?_)
  have hX : gx_V G A lim sc E j n rs Mw := hX
  refine lv_aload_n hx hb d_X_placeFor_0 rfl (lv_at hl 0 rfl) ?_
  refine lv_iload_n hx hb d_X_placeFor_1 rfl (lv_at hl 1 rfl) ?_
  obtain ⟨gco1, f3o1, f8o1, hf_x, hf_row, hf_nums, hf_gone, hgco1, hrso1, -, -, -, -⟩ := id hX
  refine gr_callr (va_runV (As := [.int k]) (rest := []) ⟨hx, hb, hml, hown, hts⟩ (r_find l G Mw A lim sc E j n hX.w k  ) (cwV 1 hts (gw_gv mw54 mw55 mw56 mw42 mw53) rfl rfl rfl (by decide +kernel) ⟨Nat.le_of_ble_eq_true rfl, Nat.le_of_ble_eq_true rfl⟩) (gw_pv hE hB hS hW rfl hf_x) rfl rfl hl.1 rfl (lv_room (Nat.le_of_ble_eq_true rfl)) d_X_placeFor_2 ⟨Nat.le_of_ble_eq_true rfl, Nat.le_of_ble_eq_true rfl⟩) (fun r2 hw3 => ?_)
  refine lv_astore_n (lv' := [(2, .ref r2), (0, .ref (A 0)), (1, .int k)]) hx hb d_X_placeFor_5 rfl hl (by decide) rfl (fun ls hl => ?_)
  refine lv_aload_n hx hb d_X_placeFor_6 rfl (lv_at hl 0 rfl) ?_
  obtain ⟨u4v0, u4v1, u4v2, u4v3, u4v4, hf_u4⟩ := hX.g9 hw3
  refine gw_getN (ci := 2) (fs := [.int u4v0, .int u4v1, .int u4v2, .int u4v3, .int u4v4]) hx hb hts in_Gen hown hE.K hW hf_u4 rfl 0 (by decide) (hts _ mw35) (fun _ h9 => h9) rfl d_X_placeFor_7 ?_
  refine lv_iload_n hx hb d_X_placeFor_10 rfl (lv_at hl 2 rfl) ?_
  refine lv_icmp_eq (tgt := 32) hx hb d_X_placeFor_11 (by decide) (fun c11 => ?_) (fun c11 => ?_)
  · refine lv_aload_n hx hb d_X_placeFor_32 rfl (lv_at hl 0 rfl) ?_
    exact gw_aret hx hb hr hlocks (Or.inl ⟨_, rfl⟩) hS hW (Nat.le_of_ble_eq_true rfl) (Nat.le_of_ble_eq_true rfl) d_X_placeFor_33 ⟨n, (by omega), hw3, hX, hF⟩
  · refine gw_new (ci := 2) (fs := [.int 0, .int 0, .int 0, .int 0, .int 0]) hx hb hts in_Gen t_Gen t_Gen_ok hown (hts _ mw33) (hts _ mw154) (hts _ mw21) hE.K hW hS hB rfl (fun j hj => by rcases (show j = 0 ∨ j = 1 ∨ j = 2 ∨ j = 3 ∨ j = 4 by omega) with rfl | rfl | rfl | rfl | rfl <;> rfl) (Nat.le_of_ble_eq_true rfl) (Nat.le_of_ble_eq_true rfl) d_X_placeFor_14 9 (fun q5 H hq6 hW hS => ?_)
    refine W.widen (k := 1) (n := 5) (Nat.le_refl _) (Nat.le_refl _) ?_
    have hXn : gx_V G A lim sc E j n rs (gw_up Mw q5 9 (.inr (2, [.int 0, .int 0, .int 0, .int 0, .int 0]))) := hX.newp hq6 (hX.z.new hq6 (fun _ => ⟨0, 0, 0, 0, 0, rfl⟩) (fun q => absurd q (by decide)) (fun q => absurd q (by decide)))
    have hPn : gp_S Mw (gw_up Mw q5 9 (.inr (2, [.int 0, .int 0, .int 0, .int 0, .int 0]))) := gp_new hq6
    have hF7 : gw_fg (gw_out [1, 2, 3, 4, 5, 6, 7, 8, 9, 10, 11]) M (gw_up Mw q5 9 (.inr (2, [.int 0, .int 0, .int 0, .int 0, .int 0]))) := gw_fg.new hF hq6 (show ¬ ((gw_out [1, 2, 3, 4, 5, 6, 7, 8, 9, 10, 11]) 9) by decide)
    obtain ⟨M8, eM8⟩ : ∃ z, z = gw_up Mw q5 9 (.inr (2, [.int 0, .int 0, .int 0, .int 0, .int 0])) := ⟨_, rfl⟩
    replace hW : gw_P G.1 vwCl G.2.2.2 M8 H := by rw [eM8]; exact hW
    have hf_x : M8 (A 0) = some (1, .inr (0, [.int lim, .int sc, .int E, .ref (A 1), .ref (A 3), .ref (A 4), .ref (A 5), .ref (A 6), .int (nI gco1)])) := by rw [eM8]; exact gw_keepN hf_x hq6
    have hf_row : M8 (A 1) = some (2, .inr (1, [.ref (A 2), .int (nI rs)])) := by rw [eM8]; exact gw_keepN hf_row hq6
    have hf_nums : M8 (A 2) = some (3, .inl (G.2.1 0, 256, .inl f3o1)) := by rw [eM8]; exact gw_keepN hf_nums hq6
    have hf_gone : M8 (A 6) = some (8, .inl (G.2.1 0, 512, .inl f8o1)) := by rw [eM8]; exact gw_keepN hf_gone hq6
    have hf_u4 : M8 r2 = some (9, .inr (2, [.int u4v0, .int u4v1, .int u4v2, .int u4v3, .int u4v4])) := by rw [eM8]; exact gw_keepN hf_u4 hq6
    have hf_q5 : M8 q5 = some (9, .inr (2, [.int 0, .int 0, .int 0, .int 0, .int 0])) := by rw [eM8]; exact gw_up_self _ _ _ _
    rw [← eM8] at hF7
    rw [← eM8] at hXn hPn
    replace hX := hXn
    replace hw3 := hPn _ _ hw3
    clear hXn hPn
    have hp_q5 : gp_R M8 9 q5 := ⟨_, hf_q5⟩
    refine lv_dup hx hb d_X_placeFor_17 rfl ?_
    refine lv_iload_n hx hb d_X_placeFor_18 rfl (lv_at hl 2 rfl) ?_
    refine gw_callv hS (va_runIN (As := [.int k]) (rest := [.ref q5]) ⟨hx, hb, hml, hown, hts⟩ (v_genInit l G M8 A lim sc E j n rs hX q5 k hp_q5 ) ⟨va_cnB 1 hts (gw_g1 mw155) rfl rfl rfl (hE.nw mw156) (hts _ mw21) (by decide +kernel) ⟨Nat.le_of_ble_eq_true rfl, Nat.le_of_ble_eq_true rfl⟩, rfl, hts _ mw157⟩ (gw_ps hE hB hS hW) rfl rfl hl.1 rfl (lv_room (Nat.le_of_ble_eq_true rfl)) d_X_placeFor_19 ⟨Nat.le_of_ble_eq_true rfl, Nat.le_of_ble_eq_true rfl⟩) (fun M10 H locs hw11 hW hS => ?_)
    obtain ⟨hX, hfr12⟩ := hw11
    have hF13 : gw_fg (gw_out [1, 2, 3, 4, 5, 6, 7, 8, 9, 10, 11]) M M10 := gw_fg.tr hF7 (gw_fg.wk hfr12 (by decide))
    replace hw3 := hfr12.2 _ _ hw3
    replace hp_q5 := hfr12.2 _ _ hp_q5
    clear hfr12
    refine lv_astore_n (lv' := [(2, .ref q5), (0, .ref (A 0)), (1, .int k)]) hx hb d_X_placeFor_22 rfl hl (by decide) rfl (fun ls hl => ?_)
    refine lv_aload_n hx hb d_X_placeFor_23 rfl (lv_at hl 1 rfl) ?_
    obtain ⟨gco14, f3o14, f8o14, hf_x, hf_row, hf_nums, hf_gone, hgco14, hrso14, -, -, -, -⟩ := id hX
    refine gw_get (ci := 0) (fs := [.int lim, .int sc, .int E, .ref (A 1), .ref (A 3), .ref (A 4), .ref (A 5), .ref (A 6), .int (nI gco14)]) hx hb hts in_X hown hE.K hW hf_x rfl 5 (by decide) (hts _ mw23) (fun _ h9 => h9) rfl d_X_placeFor_24 ?_
    refine lv_aload_n hx hb d_X_placeFor_27 rfl (lv_at hl 0 rfl) ?_
    obtain ⟨u15v0, u15v1, u15v2, u15v3, u15v4, hf_u15⟩ := hX.g9 hp_q5
    obtain ⟨_, hc16⟩ := hX.known.cell
    refine gw_calli hS (va_runV (As := [.ref q5]) (rest := []) ⟨hx, hb, hml, hown, hts⟩ (s_addK l G M10 (A 4) n q5 u15v0 u15v1 u15v2 u15v3 u15v4 hX.known (by omega) (fun a e q => by obtain ⟨_, _, _, _, _, rfl⟩ := hX.z.1 a e q; exact ⟨_, rfl⟩) hf_u15) (cwV 1 hts (gw_gv mw159 mw160 mw161 mw14 mw158) rfl rfl rfl (by decide +kernel) ⟨Nat.le_of_ble_eq_true rfl, Nat.le_of_ble_eq_true rfl⟩) (gw_pv hE hB hS hW rfl hc16) rfl rfl hl.1 rfl (lv_room (Nat.le_of_ble_eq_true rfl)) d_X_placeFor_28 ⟨Nat.le_of_ble_eq_true rfl, Nat.le_of_ble_eq_true rfl⟩) (fun r17 M18 H locs hw19 hW hS => ?_)
    refine W.widen (k := 2) (n := 1005) (Nat.le_refl _) (Nat.le_refl _) ?_
    obtain ⟨rfl, hL21, hfr20⟩ := hw19
    replace hX : gx_V G A lim sc E j (n + 1) rs M18 := hX.addK hfr20.1 hfr20.2 hL21
    have hF22 : gw_fg (gw_out [1, 2, 3, 4, 5, 6, 7, 8, 9, 10, 11]) M M18 := gw_fg.tr hF13 (gw_fg.wk hfr20 (by decide))
    replace hw3 := hfr20.2 _ _ hw3
    replace hp_q5 := hfr20.2 _ _ hp_q5
    clear hfr20 hL21
    refine lv_pop hx hb d_X_placeFor_31 rfl ?_
    refine lv_aload_n hx hb d_X_placeFor_32 rfl (lv_at hl 0 rfl) ?_
    exact gw_aret hx hb hr hlocks (Or.inl ⟨_, rfl⟩) hS hW (Nat.le_of_ble_eq_true rfl) (Nat.le_of_ble_eq_true rfl) d_X_placeFor_33 ⟨n + 1, (by omega), hp_q5, hX, hF22⟩

set_option maxHeartbeats 4000000 in
set_option maxRecDepth 100000 in
theorem v_catalogue (l : Launch) (G : gw_G) (M : gw_M) (A : Nat → Nat) (lim sc E : Int32) (j n rs : Nat) (hX : gx_V G A lim sc E j n rs M) (k : Int32) (lm : Nat) (hlm : lim = nI lm) (hl1 : 1 ≤ lm) (hl2 : lm ≤ 255) (h255 : rs ≤ 255) (hn6 : n ≤ 600) : Met l y_X_catalogue [.code y_X_catalogue b_X_catalogue 3 (some .int)] ({ frames := 8, cells := 2, slots := 1005, locals := 243 }) (gw_Pc G M [.ref (A 0), .int k]) (gw_Qi G (fun r M2 => ∃ n2 : Nat, ∃ rs2 : Nat, n2 ≤ n + 1 ∧ rs2 ≤ 255 ∧ gx_V G A lim sc E j n2 rs2 M2 ∧ gw_fg (gw_out [1, 2, 3, 4, 5, 6, 7, 8, 9, 10, 11]) M M2)) 2 1005 (gw_A G) := by
  refine gw_start (by decide) (Nat.le_of_ble_eq_true rfl) (fun p9 e9 s m b9 mt9 c9 hx hb hr hml hown hlocks hin hE hB hW ls hl => ?_)
  have hts := hE.ts ([.ref (A 0), .int k] : List Value).toArray
  have hl : lv_has ls 3 [(0, .ref (A 0)), (1, .int k)] := hl
  have hown : s.vm.findClass "Generations" = some m.cls := hown
  have hj9 := hX.jobs.le
  have hn9 := hX.known.le
  have hr9 := hX.rs256
  refine gw_gen (I := fun z => gx_V G A lim sc E j n rs z) (P := gw_out [1, 2, 3, 4, 5, 6, 7, 8, 9, 10, 11]) hX hW (fun H locs Mw hW hS hX hF => ?_)
  have hX : gx_V G A lim sc E j n rs Mw := hX
  refine lv_iload_n hx hb d_X_catalogue_0 rfl (lv_at hl 1 rfl) ?_
  refine gr_calli (va_runS (As := [.int k]) (rest := []) ⟨hx, hb, hml, hown, hts⟩ (r_isNumber l G Mw k  ) (cwS 1 hts (gw_gs mw59 mw60 mw42 mw58) rfl rfl rfl (by decide +kernel) ⟨Nat.le_of_ble_eq_true rfl, Nat.le_of_ble_eq_true rfl⟩) (gw_ps hE hB hS hW) rfl rfl hl.1 rfl (lv_room (Nat.le_of_ble_eq_true rfl)) d_X_catalogue_1 ⟨Nat.le_of_ble_eq_true rfl, Nat.le_of_ble_eq_true rfl⟩) (fun r1 hw2 => ?_)
  refine lv_if_ne (tgt := 9) hx hb d_X_catalogue_4 (by decide) (fun c4 => ?_) (fun c4 => ?_)
  · refine lv_aload_n hx hb d_X_catalogue_9 rfl (lv_at hl 0 rfl) ?_
    refine lv_iload_n hx hb d_X_catalogue_10 rfl (lv_at hl 1 rfl) ?_
    obtain ⟨gco3, f3o3, f8o3, hf_x, hf_row, hf_nums, hf_gone, hgco3, hrso3, -, -, -, -⟩ := id hX
    refine gr_callr (va_runV (As := [.int k]) (rest := []) ⟨hx, hb, hml, hown, hts⟩ (r_find l G Mw A lim sc E j n hX.w k  ) (cwV 1 hts (gw_gv mw54 mw55 mw56 mw42 mw53) rfl rfl rfl (by decide +kernel) ⟨Nat.le_of_ble_eq_true rfl, Nat.le_of_ble_eq_true rfl⟩) (gw_pv hE hB hS hW rfl hf_x) rfl rfl hl.1 rfl (lv_room (Nat.le_of_ble_eq_true rfl)) d_X_catalogue_11 ⟨Nat.le_of_ble_eq_true rfl, Nat.le_of_ble_eq_true rfl⟩) (fun r4 hw5 => ?_)
    refine lv_astore_n (lv' := [(2, .ref r4), (0, .ref (A 0)), (1, .int k)]) hx hb d_X_catalogue_14 rfl hl (by decide) rfl (fun ls hl => ?_)
    refine lv_aload_n hx hb d_X_catalogue_15 rfl (lv_at hl 0 rfl) ?_
    obtain ⟨u6v0, u6v1, u6v2, u6v3, u6v4, hf_u6⟩ := hX.g9 hw5
    refine gw_getN (ci := 2) (fs := [.int u6v0, .int u6v1, .int u6v2, .int u6v3, .int u6v4]) hx hb hts in_Gen hown hE.K hW hf_u6 rfl 1 (by decide) (hts _ mw36) (fun _ h9 => h9) rfl d_X_catalogue_16 ?_
    refine lv_iconst (v := 1) hx hb d_X_catalogue_19 (by decide) ?_
    refine lv_icmp_eq (tgt := 30) hx hb d_X_catalogue_20 (by decide) (fun c20 => ?_) (fun c20 => ?_)
    · refine lv_iconst (v := -1) hx hb d_X_catalogue_30 (by decide) ?_
      exact gw_iret hx hb hr hlocks hS hW (Nat.le_of_ble_eq_true rfl) (Nat.le_of_ble_eq_true rfl) d_X_catalogue_31 ⟨n, rs, (by omega), (by omega), hX, hF⟩
    · refine lv_aload_n hx hb d_X_catalogue_23 rfl (lv_at hl 0 rfl) ?_
      refine gr_calli (va_runVN (As := []) (rest := []) ⟨hx, hb, hml, hown, hts⟩ (r_isDeferred l G Mw r4 u6v0 u6v1 u6v2 u6v3 u6v4 hf_u6 ) ⟨va_cnB 0 hts (gw_g1 mw17) rfl rfl rfl (hE.nw mw162) (hts _ mw21) (by decide +kernel) ⟨Nat.le_of_ble_eq_true rfl, Nat.le_of_ble_eq_true rfl⟩, hts _ mw19, hts _ mw20⟩ (gw_pv hE hB hS hW rfl hf_u6) rfl rfl hl.1 rfl (lv_room (Nat.le_of_ble_eq_true rfl)) d_X_catalogue_24 ⟨Nat.le_of_ble_eq_true rfl, Nat.le_of_ble_eq_true rfl⟩) (fun r7 hw8 => ?_)
      refine lv_if_eq (tgt := 32) hx hb d_X_catalogue_27 (by decide) (fun c27 => ?_) (fun c27 => ?_)
      · refine lv_aload_n hx hb d_X_catalogue_32 rfl (lv_at hl 0 rfl) ?_
        refine gw_getN (ci := 2) (fs := [.int u6v0, .int u6v1, .int u6v2, .int u6v3, .int u6v4]) hx hb hts in_Gen hown hE.K hW hf_u6 rfl 1 (by decide) (hts _ mw36) (fun _ h9 => h9) rfl d_X_catalogue_33 ?_
        refine lv_if_ne (tgt := 50) hx hb d_X_catalogue_36 (by decide) (fun c36 => ?_) (fun c36 => ?_)
        · refine lv_aload_n hx hb d_X_catalogue_50 rfl (lv_at hl 1 rfl) ?_
          refine lv_aload_n hx hb d_X_catalogue_51 rfl (lv_at hl 0 rfl) ?_
          refine gw_callv hS (va_runV (As := [.ref r4]) (rest := []) ⟨hx, hb, hml, hown, hts⟩ (v_bring l G Mw A lim sc E j n rs hX r4 lm hw5 hlm (by omega) (by omega) (by omega)) (cwV 1 hts (gw_gv mw164 mw165 mw166 mw42 mw163) rfl rfl rfl (by decide +kernel) ⟨Nat.le_of_ble_eq_true rfl, Nat.le_of_ble_eq_true rfl⟩) (gw_pv hE hB hS hW rfl hf_x) rfl rfl hl.1 rfl (lv_room (Nat.le_of_ble_eq_true rfl)) d_X_catalogue_52 ⟨Nat.le_of_ble_eq_true rfl, Nat.le_of_ble_eq_true rfl⟩) (fun M10 H locs hw11 hW hS => ?_)
          obtain ⟨rs213, hb14, hX, hfr12⟩ := hw11
          have hF15 : gw_fg (gw_out [1, 2, 3, 4, 5, 6, 7, 8, 9, 10, 11]) M M10 := gw_fg.tr hF (gw_fg.wk hfr12 (by decide))
          replace hw5 := hfr12.2 _ _ hw5
          clear hfr12
          refine lv_aload_n hx hb d_X_catalogue_55 rfl (lv_at hl 1 rfl) ?_
          obtain ⟨gco16, f3o16, f8o16, hf_x, hf_row, hf_nums, hf_gone, hgco16, hrso16, -, -, -, -⟩ := id hX
          refine gw_get (ci := 0) (fs := [.int lim, .int sc, .int E, .ref (A 1), .ref (A 3), .ref (A 4), .ref (A 5), .ref (A 6), .int (nI gco16)]) hx hb hts in_X hown hE.K hW hf_x rfl 3 (by decide) (hts _ mw45) (fun _ h9 => h9) rfl d_X_catalogue_56 ?_
          refine gw_getN (ci := 1) (fs := [.ref (A 2), .int (nI rs213)]) hx hb hts in_Row hown hE.K hW hf_row rfl 1 (by decide) (hts _ mw61) (fun _ h9 => h9) rfl d_X_catalogue_59 ?_
          exact gw_iret hx hb hr hlocks hS hW (Nat.le_of_ble_eq_true rfl) (Nat.le_of_ble_eq_true rfl) d_X_catalogue_62 ⟨n, rs213, (by omega), (by omega), hX, hF15⟩
        · refine lv_aload_n hx hb d_X_catalogue_39 rfl (lv_at hl 1 rfl) ?_
          refine lv_iload_n hx hb d_X_catalogue_40 rfl (lv_at hl 2 rfl) ?_
          refine gw_callr hS (va_runV (As := [.int k]) (rest := []) ⟨hx, hb, hml, hown, hts⟩ (v_placeFor l G Mw A lim sc E j n rs hX k  (by omega)) (cwV 1 hts (gw_gv mw168 mw169 mw170 mw42 mw167) rfl rfl rfl (by decide +kernel) ⟨Nat.le_of_ble_eq_true rfl, Nat.le_of_ble_eq_true rfl⟩) (gw_pv hE hB hS hW rfl hf_x) rfl rfl hl.1 rfl (lv_room (Nat.le_of_ble_eq_true rfl)) d_X_catalogue_41 ⟨Nat.le_of_ble_eq_true rfl, Nat.le_of_ble_eq_true rfl⟩) (fun r17 M18 H locs hw19 hW hS => ?_)
          refine W.widen (k := 2) (n := 1005) (Nat.le_refl _) (Nat.le_refl _) ?_
          obtain ⟨n221, hb22, hp_23, hX, hfr20⟩ := hw19
          have hF24 : gw_fg (gw_out [1, 2, 3, 4, 5, 6, 7, 8, 9, 10, 11]) M M18 := gw_fg.tr hF (gw_fg.wk hfr20 (by decide))
          replace hw5 := hfr20.2 _ _ hw5
          clear hfr20
          refine lv_astore_n (lv' := [(2, .ref r17), (0, .ref (A 0)), (1, .int k)]) hx hb d_X_catalogue_44 rfl hl (by decide) rfl (fun ls hl => ?_)
          refine lv_aload_n hx hb d_X_catalogue_45 rfl (lv_at hl 0 rfl) ?_
          refine lv_iconst (v := 0) hx hb d_X_catalogue_46 (by decide) ?_
          obtain ⟨u25v0, u25v1, u25v2, u25v3, u25v4, hf_u25⟩ := hX.g9 hp_23
          refine gw_callv hS (va_runVN (As := [.int 0]) (rest := []) ⟨hx, hb, hml, hown, hts⟩ (v_beginAnew l G M18 A lim sc E j n221 rs hX r17 0 hp_23 ) ⟨va_cnB 1 hts (gw_g1 mw171) rfl rfl rfl (hE.nw mw172) (hts _ mw21) (by decide +kernel) ⟨Nat.le_of_ble_eq_true rfl, Nat.le_of_ble_eq_true rfl⟩, hts _ mw173, hts _ mw174⟩ (gw_pv hE hB hS hW rfl hf_u25) rfl rfl hl.1 rfl (lv_room (Nat.le_of_ble_eq_true rfl)) d_X_catalogue_47 ⟨Nat.le_of_ble_eq_true rfl, Nat.le_of_ble_eq_true rfl⟩) (fun M27 H locs hw28 hW hS => ?_)
          obtain ⟨hX, hfr29⟩ := hw28
          have hF30 : gw_fg (gw_out [1, 2, 3, 4, 5, 6, 7, 8, 9, 10, 11]) M M27 := gw_fg.tr hF24 (gw_fg.wk hfr29 (by decide))
          replace hw5 := hfr29.2 _ _ hw5
          replace hp_23 := hfr29.2 _ _ hp_23
          clear hfr29
          refine lv_aload_n hx hb d_X_catalogue_50 rfl (lv_at hl 1 rfl) ?_
          refine lv_aload_n hx hb d_X_catalogue_51 rfl (lv_at hl 0 rfl) ?_
          obtain ⟨gco31, f3o31, f8o31, hf_x, hf_row, hf_nums, hf_gone, hgco31, hrso31, -, -, -, -⟩ := id hX
          refine gw_callv hS (va_runV (As := [.ref r17]) (rest := []) ⟨hx, hb, hml, hown, hts⟩ (v_bring l G M27 A lim sc E j n221 rs hX r17 lm hp_23 hlm (by omega) (by omega) (by omega)) (cwV 1 hts (gw_gv mw164 mw165 mw166 mw42 mw163) rfl rfl rfl (by decide +kernel) ⟨Nat.le_of_ble_eq_true rfl, Nat.le_of_ble_eq_true rfl⟩) (gw_pv hE hB hS hW rfl hf_x) rfl rfl hl.1 rfl (lv_room (Nat.le_of_ble_eq_true rfl)) d_X_catalogue_52 ⟨Nat.le_of_ble_eq_true rfl, Nat.le_of_ble_eq_true rfl⟩) (fun M33 H locs hw34 hW hS => ?_)
          obtain ⟨rs236, hb37, hX, hfr35⟩ := hw34
          have hF38 : gw_fg (gw_out [1, 2, 3, 4, 5, 6, 7, 8, 9, 10, 11]) M M33 := gw_fg.tr hF30 (gw_fg.wk hfr35 (by decide))
          replace hw5 := hfr35.2 _ _ hw5
          replace hp_23 := hfr35.2 _ _ hp_23
          clear hfr35
          refine lv_aload_n hx hb d_X_catalogue_55 rfl (lv_at hl 1 rfl) ?_
          obtain ⟨gco39, f3o39, f8o39, hf_x, hf_row, hf_nums, hf_gone, hgco39, hrso39, -, -, -, -⟩ := id hX
          refine gw_get (ci := 0) (fs := [.int lim, .int sc, .int E, .ref (A 1), .ref (A 3), .ref (A 4), .ref (A 5), .ref (A 6), .int (nI gco39)]) hx hb hts in_X hown hE.K hW hf_x rfl 3 (by decide) (hts _ mw45) (fun _ h9 => h9) rfl d_X_catalogue_56 ?_
          refine gw_getN (ci := 1) (fs := [.ref (A 2), .int (nI rs236)]) hx hb hts in_Row hown hE.K hW hf_row rfl 1 (by decide) (hts _ mw61) (fun _ h9 => h9) rfl d_X_catalogue_59 ?_
          exact gw_iret hx hb hr hlocks hS hW (Nat.le_of_ble_eq_true rfl) (Nat.le_of_ble_eq_true rfl) d_X_catalogue_62 ⟨n221, rs236, (by omega), (by omega), hX, hF38⟩
      · refine lv_iconst (v := -1) hx hb d_X_catalogue_30 (by decide) ?_
        exact gw_iret hx hb hr hlocks hS hW (Nat.le_of_ble_eq_true rfl) (Nat.le_of_ble_eq_true rfl) d_X_catalogue_31 ⟨n, rs, (by omega), (by omega), hX, hF⟩
  · refine lv_iconst (v := -1) hx hb d_X_catalogue_7 (by decide) ?_
    exact gw_iret hx hb hr hlocks hS hW (Nat.le_of_ble_eq_true rfl) (Nat.le_of_ble_eq_true rfl) d_X_catalogue_8 ⟨n, rs, (by omega), (by omega), hX, hF⟩

set_option maxHeartbeats 4000000 in
set_option maxRecDepth 100000 in
theorem v_reclaim (l : Launch) (G : gw_G) (M : gw_M) (A : Nat → Nat) (lim sc E : Int32) (j n rs : Nat) (hX : gx_V G A lim sc E j n rs M) (k : Int32) (lm : Nat) (hlm : lim = nI lm) (hl1 : 1 ≤ lm) (hl2 : lm ≤ 255) (h255 : rs ≤ 255) : Met l y_X_reclaim [.code y_X_reclaim b_X_reclaim 3 (some .int)] ({ frames := 7, cells := 0, slots := 0, locals := 152 }) (gw_Pc G M [.ref (A 0), .int k]) (gw_Qi G (fun r M2 => ∃ rs2 : Nat, rs2 ≤ 255 ∧ gx_V G A lim sc E j n rs2 M2 ∧ gw_fg (gw_out [1, 2, 3, 4, 5, 6, 7, 8, 9, 10, 11]) M M2)) 0 0 (gw_A G) := by
  refine gw_start (by decide) (Nat.le_of_ble_eq_true rfl) (fun p9 e9 s m b9 mt9 c9 hx hb hr hml hown hlocks hin hE hB hW ls hl => ?_)
  have hts := hE.ts ([.ref (A 0), .int k] : List Value).toArray
  have hl : lv_has ls 3 [(0, .ref (A 0)), (1, .int k)] := hl
  have hown : s.vm.findClass "Generations" = some m.cls := hown
  have hj9 := hX.jobs.le
  have hn9 := hX.known.le
  have hr9 := hX.rs256
  refine gw_gen (I := fun z => gx_V G A lim sc E j n rs z) (P := gw_out [1, 2, 3, 4, 5, 6, 7, 8, 9, 10, 11]) hX hW (fun H locs Mw hW hS hX hF => ?_)
  have hX : gx_V G A lim sc E j n rs Mw := hX
  refine lv_aload_n hx hb d_X_reclaim_0 rfl (lv_at hl 0 rfl) ?_
  refine lv_iload_n hx hb d_X_reclaim_1 rfl (lv_at hl 1 rfl) ?_
  obtain ⟨gco1, f3o1, f8o1, hf_x, hf_row, hf_nums, hf_gone, hgco1, hrso1, -, -, -, -⟩ := id hX
  refine gr_callr (va_runV (As := [.int k]) (rest := []) ⟨hx, hb, hml, hown, hts⟩ (r_find l G Mw A lim sc E j n hX.w k  ) (cwV 1 hts (gw_gv mw54 mw55 mw56 mw42 mw53) rfl rfl rfl (by decide +kernel) ⟨Nat.le_of_ble_eq_true rfl, Nat.le_of_ble_eq_true rfl⟩) (gw_pv hE hB hS hW rfl hf_x) rfl rfl hl.1 rfl (lv_room (Nat.le_of_ble_eq_true rfl)) d_X_reclaim_2 ⟨Nat.le_of_ble_eq_true rfl, Nat.le_of_ble_eq_true rfl⟩) (fun r2 hw3 => ?_)
  refine lv_astore_n (lv' := [(2, .ref r2), (0, .ref (A 0)), (1, .int k)]) hx hb d_X_reclaim_5 rfl hl (by decide) rfl (fun ls hl => ?_)
  refine lv_aload_n hx hb d_X_reclaim_6 rfl (lv_at hl 0 rfl) ?_
  obtain ⟨u4v0, u4v1, u4v2, u4v3, u4v4, hf_u4⟩ := hX.g9 hw3
  refine gw_getN (ci := 2) (fs := [.int u4v0, .int u4v1, .int u4v2, .int u4v3, .int u4v4]) hx hb hts in_Gen hown hE.K hW hf_u4 rfl 1 (by decide) (hts _ mw36) (fun _ h9 => h9) rfl d_X_reclaim_7 ?_
  refine lv_iconst (v := 3) hx hb d_X_reclaim_10 (by decide) ?_
  refine lv_icmp_eq (tgt := 24) hx hb d_X_reclaim_11 (by decide) (fun c11 => ?_) (fun c11 => ?_)
  · refine lv_aload_n hx hb d_X_reclaim_24 rfl (lv_at hl 0 rfl) ?_
    refine lv_dup hx hb d_X_reclaim_25 rfl ?_
    refine gw_getN (ci := 2) (fs := [.int u4v0, .int u4v1, .int u4v2, .int u4v3, .int u4v4]) hx hb hts in_Gen hown hE.K hW hf_u4 rfl 2 (by decide) (hts _ mw57) (fun _ h9 => h9) rfl d_X_reclaim_26 ?_
    refine lv_iconst (v := 1) hx hb d_X_reclaim_29 (by decide) ?_
    refine lv_iadd hx hb d_X_reclaim_30 ?_
    refine gw_putN (ci := 2) (fs := [.int u4v0, .int u4v1, .int u4v2, .int u4v3, .int u4v4]) (v := .int (u4v2 + 1)) (ty := .int) hx hb hts in_Gen t_Gen t_Gen_ok n_Gen hown hE.K hW hS hf_u4 rfl 2 (by decide) (hts _ mw57) (fun _ h9 => h9) rfl (by decide +kernel) rfl rfl (Nat.le_of_ble_eq_true rfl) d_X_reclaim_31 (fun H locs hW hS => ?_)
    have hXn : gx_V G A lim sc E j n rs (gw_up Mw r2 9 (.inr (2, [.int u4v0, .int u4v1, .int (u4v2 + 1), .int u4v3, .int u4v4]))) := hX.up9 hf_u4
    have hPn : gp_S Mw (gw_up Mw r2 9 (.inr (2, [.int u4v0, .int u4v1, .int (u4v2 + 1), .int u4v3, .int u4v4]))) := gp_up hf_u4
    have hF5 : gw_fg (gw_out [1, 2, 3, 4, 5, 6, 7, 8, 9, 10, 11]) M (gw_up Mw r2 9 (.inr (2, [.int u4v0, .int u4v1, .int (u4v2 + 1), .int u4v3, .int u4v4]))) := gw_fg.up hF hf_u4 (show ¬ ((gw_out [1, 2, 3, 4, 5, 6, 7, 8, 9, 10, 11]) 9) by decide) (show ¬ ((gw_out [1, 2, 3, 4, 5, 6, 7, 8, 9, 10, 11]) 9) by decide)
    obtain ⟨M6, eM6⟩ : ∃ z, z = gw_up Mw r2 9 (.inr (2, [.int u4v0, .int u4v1, .int (u4v2 + 1), .int u4v3, .int u4v4])) := ⟨_, rfl⟩
    replace hW : gw_P G.1 vwCl G.2.2.2 M6 H := by rw [eM6]; exact hW
    have hf_x : M6 (A 0) = some (1, .inr (0, [.int lim, .int sc, .int E, .ref (A 1), .ref (A 3), .ref (A 4), .ref (A 5), .ref (A 6), .int (nI gco1)])) := by rw [eM6]; exact gw_keep hf_x hf_u4 (by decide)
    have hf_row : M6 (A 1) = some (2, .inr (1, [.ref (A 2), .int (nI rs)])) := by rw [eM6]; exact gw_keep hf_row hf_u4 (by decide)
    have hf_nums : M6 (A 2) = some (3, .inl (G.2.1 0, 256, .inl f3o1)) := by rw [eM6]; exact gw_keep hf_nums hf_u4 (by decide)
    have hf_gone : M6 (A 6) = some (8, .inl (G.2.1 0, 512, .inl f8o1)) := by rw [eM6]; exact gw_keep hf_gone hf_u4 (by decide)
    have hf_u4 : M6 r2 = some (9, .inr (2, [.int u4v0, .int u4v1, .int (u4v2 + 1), .int u4v3, .int u4v4])) := by rw [eM6]; exact gw_up_self _ _ _ _
    rw [← eM6] at hF5
    rw [← eM6] at hXn hPn
    replace hX := hXn
    replace hw3 := hPn _ _ hw3
    clear hXn hPn
    refine lv_aload_n hx hb d_X_reclaim_34 rfl (lv_at hl 1 rfl) ?_
    refine lv_aload_n hx hb d_X_reclaim_35 rfl (lv_at hl 0 rfl) ?_
    refine gw_callv hS (va_runV (As := [.ref r2]) (rest := []) ⟨hx, hb, hml, hown, hts⟩ (v_bring l G M6 A lim sc E j n rs hX r2 lm hw3 hlm (by omega) (by omega) (by omega)) (cwV 1 hts (gw_gv mw164 mw165 mw166 mw42 mw163) rfl rfl rfl (by decide +kernel) ⟨Nat.le_of_ble_eq_true rfl, Nat.le_of_ble_eq_true rfl⟩) (gw_pv hE hB hS hW rfl hf_x) rfl rfl hl.1 rfl (lv_room (Nat.le_of_ble_eq_true rfl)) d_X_reclaim_36 ⟨Nat.le_of_ble_eq_true rfl, Nat.le_of_ble_eq_true rfl⟩) (fun M8 H locs hw9 hW hS => ?_)
    obtain ⟨rs211, hb12, hX, hfr10⟩ := hw9
    have hF13 : gw_fg (gw_out [1, 2, 3, 4, 5, 6, 7, 8, 9, 10, 11]) M M8 := gw_fg.tr hF5 (gw_fg.wk hfr10 (by decide))
    replace hw3 := hfr10.2 _ _ hw3
    clear hfr10
    refine lv_iconst (v := 1) hx hb d_X_reclaim_39 (by decide) ?_
    exact gw_iret hx hb hr hlocks hS hW (Nat.le_of_ble_eq_true rfl) (Nat.le_of_ble_eq_true rfl) d_X_reclaim_40 ⟨rs211, (by omega), hX, hF13⟩
  · refine lv_aload_n hx hb d_X_reclaim_14 rfl (lv_at hl 0 rfl) ?_
    refine gw_getN (ci := 2) (fs := [.int u4v0, .int u4v1, .int u4v2, .int u4v3, .int u4v4]) hx hb hts in_Gen hown hE.K hW hf_u4 rfl 1 (by decide) (hts _ mw36) (fun _ h9 => h9) rfl d_X_reclaim_15 ?_
    refine lv_iconst (v := 4) hx hb d_X_reclaim_18 (by decide) ?_
    refine lv_icmp_eq (tgt := 24) hx hb d_X_reclaim_19 (by decide) (fun c19 => ?_) (fun c19 => ?_)
    · refine lv_aload_n hx hb d_X_reclaim_24 rfl (lv_at hl 0 rfl) ?_
      refine lv_dup hx hb d_X_reclaim_25 rfl ?_
      refine gw_getN (ci := 2) (fs := [.int u4v0, .int u4v1, .int u4v2, .int u4v3, .int u4v4]) hx hb hts in_Gen hown hE.K hW hf_u4 rfl 2 (by decide) (hts _ mw57) (fun _ h9 => h9) rfl d_X_reclaim_26 ?_
      refine lv_iconst (v := 1) hx hb d_X_reclaim_29 (by decide) ?_
      refine lv_iadd hx hb d_X_reclaim_30 ?_
      refine gw_putN (ci := 2) (fs := [.int u4v0, .int u4v1, .int u4v2, .int u4v3, .int u4v4]) (v := .int (u4v2 + 1)) (ty := .int) hx hb hts in_Gen t_Gen t_Gen_ok n_Gen hown hE.K hW hS hf_u4 rfl 2 (by decide) (hts _ mw57) (fun _ h9 => h9) rfl (by decide +kernel) rfl rfl (Nat.le_of_ble_eq_true rfl) d_X_reclaim_31 (fun H locs hW hS => ?_)
      have hXn : gx_V G A lim sc E j n rs (gw_up Mw r2 9 (.inr (2, [.int u4v0, .int u4v1, .int (u4v2 + 1), .int u4v3, .int u4v4]))) := hX.up9 hf_u4
      have hPn : gp_S Mw (gw_up Mw r2 9 (.inr (2, [.int u4v0, .int u4v1, .int (u4v2 + 1), .int u4v3, .int u4v4]))) := gp_up hf_u4
      have hF14 : gw_fg (gw_out [1, 2, 3, 4, 5, 6, 7, 8, 9, 10, 11]) M (gw_up Mw r2 9 (.inr (2, [.int u4v0, .int u4v1, .int (u4v2 + 1), .int u4v3, .int u4v4]))) := gw_fg.up hF hf_u4 (show ¬ ((gw_out [1, 2, 3, 4, 5, 6, 7, 8, 9, 10, 11]) 9) by decide) (show ¬ ((gw_out [1, 2, 3, 4, 5, 6, 7, 8, 9, 10, 11]) 9) by decide)
      obtain ⟨M15, eM15⟩ : ∃ z, z = gw_up Mw r2 9 (.inr (2, [.int u4v0, .int u4v1, .int (u4v2 + 1), .int u4v3, .int u4v4])) := ⟨_, rfl⟩
      replace hW : gw_P G.1 vwCl G.2.2.2 M15 H := by rw [eM15]; exact hW
      have hf_x : M15 (A 0) = some (1, .inr (0, [.int lim, .int sc, .int E, .ref (A 1), .ref (A 3), .ref (A 4), .ref (A 5), .ref (A 6), .int (nI gco1)])) := by rw [eM15]; exact gw_keep hf_x hf_u4 (by decide)
      have hf_row : M15 (A 1) = some (2, .inr (1, [.ref (A 2), .int (nI rs)])) := by rw [eM15]; exact gw_keep hf_row hf_u4 (by decide)
      have hf_nums : M15 (A 2) = some (3, .inl (G.2.1 0, 256, .inl f3o1)) := by rw [eM15]; exact gw_keep hf_nums hf_u4 (by decide)
      have hf_gone : M15 (A 6) = some (8, .inl (G.2.1 0, 512, .inl f8o1)) := by rw [eM15]; exact gw_keep hf_gone hf_u4 (by decide)
      have hf_u4 : M15 r2 = some (9, .inr (2, [.int u4v0, .int u4v1, .int (u4v2 + 1), .int u4v3, .int u4v4])) := by rw [eM15]; exact gw_up_self _ _ _ _
      rw [← eM15] at hF14
      rw [← eM15] at hXn hPn
      replace hX := hXn
      replace hw3 := hPn _ _ hw3
      clear hXn hPn
      refine lv_aload_n hx hb d_X_reclaim_34 rfl (lv_at hl 1 rfl) ?_
      refine lv_aload_n hx hb d_X_reclaim_35 rfl (lv_at hl 0 rfl) ?_
      refine gw_callv hS (va_runV (As := [.ref r2]) (rest := []) ⟨hx, hb, hml, hown, hts⟩ (v_bring l G M15 A lim sc E j n rs hX r2 lm hw3 hlm (by omega) (by omega) (by omega)) (cwV 1 hts (gw_gv mw164 mw165 mw166 mw42 mw163) rfl rfl rfl (by decide +kernel) ⟨Nat.le_of_ble_eq_true rfl, Nat.le_of_ble_eq_true rfl⟩) (gw_pv hE hB hS hW rfl hf_x) rfl rfl hl.1 rfl (lv_room (Nat.le_of_ble_eq_true rfl)) d_X_reclaim_36 ⟨Nat.le_of_ble_eq_true rfl, Nat.le_of_ble_eq_true rfl⟩) (fun M17 H locs hw18 hW hS => ?_)
      obtain ⟨rs220, hb21, hX, hfr19⟩ := hw18
      have hF22 : gw_fg (gw_out [1, 2, 3, 4, 5, 6, 7, 8, 9, 10, 11]) M M17 := gw_fg.tr hF14 (gw_fg.wk hfr19 (by decide))
      replace hw3 := hfr19.2 _ _ hw3
      clear hfr19
      refine lv_iconst (v := 1) hx hb d_X_reclaim_39 (by decide) ?_
      exact gw_iret hx hb hr hlocks hS hW (Nat.le_of_ble_eq_true rfl) (Nat.le_of_ble_eq_true rfl) d_X_reclaim_40 ⟨rs220, (by omega), hX, hF22⟩
    · refine lv_iconst (v := 0) hx hb d_X_reclaim_22 (by decide) ?_
      exact gw_iret hx hb hr hlocks hS hW (Nat.le_of_ble_eq_true rfl) (Nat.le_of_ble_eq_true rfl) d_X_reclaim_23 ⟨rs, (by omega), hX, hF⟩

set_option maxHeartbeats 4000000 in
set_option maxRecDepth 100000 in
theorem v_empty (l : Launch) (G : gw_G) (M : gw_M) (A : Nat → Nat) (lim sc E : Int32) (j n rs : Nat) (hX : gx_V G A lim sc E j n rs M) (on : Int32) (hn_z : narrow .boolean (.int on) = .int on) (hf_z : fits .boolean (.int on) = true) : Met l y_X_empty [.code y_X_empty b_X_empty 3 (some .int)] ({ frames := 0, cells := 0, slots := 0, locals := 0 }) (gw_Pc G M [.ref (A 0), .int on]) (gw_Qi G (fun r M2 => (if E = 0 then 0 else 1) = r ∧ gx_V G A lim sc on j n rs M2 ∧ gw_fg (gw_out [1, 2, 3, 4, 5, 6, 7, 8, 9, 10, 11]) M M2)) 0 0 (gw_A G) := by
  refine gw_start (by decide) (Nat.le_of_ble_eq_true rfl) (fun p9 e9 s m b9 mt9 c9 hx hb hr hml hown hlocks hin hE hB hW ls hl => ?_)
  have hts := hE.ts ([.ref (A 0), .int on] : List Value).toArray
  have hl : lv_has ls 3 [(0, .ref (A 0)), (1, .int on)] := hl
  have hown : s.vm.findClass "Generations" = some m.cls := hown
  have hj9 := hX.jobs.le
  have hn9 := hX.known.le
  have hr9 := hX.rs256
  refine gw_gen (I := fun z => gx_V G A lim sc E j n rs z) (P := gw_out [1, 2, 3, 4, 5, 6, 7, 8, 9, 10, 11]) hX hW (fun H locs Mw hW hS hX hF => ?_)
  have hX : gx_V G A lim sc E j n rs Mw := hX
  refine lv_aload_n hx hb d_X_empty_0 rfl (lv_at hl 0 rfl) ?_
  obtain ⟨gco1, f3o1, f8o1, hf_x, hf_row, hf_nums, hf_gone, hgco1, hrso1, -, -, -, -⟩ := id hX
  refine gw_get (ci := 0) (fs := [.int lim, .int sc, .int E, .ref (A 1), .ref (A 3), .ref (A 4), .ref (A 5), .ref (A 6), .int (nI gco1)]) hx hb hts in_X hown hE.K hW hf_x rfl 2 (by decide) (hts _ mw137) (fun _ h9 => h9) rfl d_X_empty_1 ?_
  refine lv_if_eq (tgt := 11) hx hb d_X_empty_4 (by decide) (fun c4 => ?_) (fun c4 => ?_)
  · refine lv_iconst (v := 0) hx hb d_X_empty_11 (by decide) ?_
    refine lv_istore_n (lv' := [(2, .int 0), (0, .ref (A 0)), (1, .int on)]) hx hb d_X_empty_12 rfl hl (by decide) rfl (fun ls hl => ?_)
    refine lv_aload_n hx hb d_X_empty_13 rfl (lv_at hl 1 rfl) ?_
    refine lv_iload_n hx hb d_X_empty_14 rfl (lv_at hl 2 rfl) ?_
    refine gw_put (ci := 0) (fs := [.int lim, .int sc, .int E, .ref (A 1), .ref (A 3), .ref (A 4), .ref (A 5), .ref (A 6), .int (nI gco1)]) (v := .int on) (ty := .boolean) hx hb hts in_X t_X t_X_ok n_X hown hE.K hW hS hf_x rfl 2 (by decide) (hts _ mw137) (fun _ h9 => h9) rfl (by decide +kernel) hn_z hf_z (Nat.le_of_ble_eq_true rfl) d_X_empty_15 (fun H locs hW hS => ?_)
    have hXn : gx_V G A lim sc on j n rs (gw_up Mw (A 0) 1 (.inr (0, [.int lim, .int sc, .int on, .ref (A 1), .ref (A 3), .ref (A 4), .ref (A 5), .ref (A 6), .int (nI gco1)]))) := hX.up1 hf_x (by omega)
    have hPn : gp_S Mw (gw_up Mw (A 0) 1 (.inr (0, [.int lim, .int sc, .int on, .ref (A 1), .ref (A 3), .ref (A 4), .ref (A 5), .ref (A 6), .int (nI gco1)]))) := gp_up hf_x
    have hF2 : gw_fg (gw_out [1, 2, 3, 4, 5, 6, 7, 8, 9, 10, 11]) M (gw_up Mw (A 0) 1 (.inr (0, [.int lim, .int sc, .int on, .ref (A 1), .ref (A 3), .ref (A 4), .ref (A 5), .ref (A 6), .int (nI gco1)]))) := gw_fg.up hF hf_x (show ¬ ((gw_out [1, 2, 3, 4, 5, 6, 7, 8, 9, 10, 11]) 1) by decide) (show ¬ ((gw_out [1, 2, 3, 4, 5, 6, 7, 8, 9, 10, 11]) 1) by decide)
    obtain ⟨M3, eM3⟩ : ∃ z, z = gw_up Mw (A 0) 1 (.inr (0, [.int lim, .int sc, .int on, .ref (A 1), .ref (A 3), .ref (A 4), .ref (A 5), .ref (A 6), .int (nI gco1)])) := ⟨_, rfl⟩
    replace hW : gw_P G.1 vwCl G.2.2.2 M3 H := by rw [eM3]; exact hW
    have hf_row : M3 (A 1) = some (2, .inr (1, [.ref (A 2), .int (nI rs)])) := by rw [eM3]; exact gw_keep hf_row hf_x (by decide)
    have hf_nums : M3 (A 2) = some (3, .inl (G.2.1 0, 256, .inl f3o1)) := by rw [eM3]; exact gw_keep hf_nums hf_x (by decide)
    have hf_gone : M3 (A 6) = some (8, .inl (G.2.1 0, 512, .inl f8o1)) := by rw [eM3]; exact gw_keep hf_gone hf_x (by decide)
    have hf_x : M3 (A 0) = some (1, .inr (0, [.int lim, .int sc, .int on, .ref (A 1), .ref (A 3), .ref (A 4), .ref (A 5), .ref (A 6), .int (nI gco1)])) := by rw [eM3]; exact gw_up_self _ _ _ _
    rw [← eM3] at hF2
    rw [← eM3] at hXn hPn
    replace hX := hXn
    clear hXn hPn
    refine lv_iload_n hx hb d_X_empty_18 rfl (lv_at hl 0 rfl) ?_
    exact gw_iret hx hb hr hlocks hS hW (Nat.le_of_ble_eq_true rfl) (Nat.le_of_ble_eq_true rfl) d_X_empty_19 ⟨(if_pos c4), hX, hF2⟩
  · refine lv_iconst (v := 1) hx hb d_X_empty_7 (by decide) ?_
    refine lv_goto (tgt := 12) hx hb d_X_empty_8 (by decide) ?_
    refine lv_istore_n (lv' := [(2, .int 1), (0, .ref (A 0)), (1, .int on)]) hx hb d_X_empty_12 rfl hl (by decide) rfl (fun ls hl => ?_)
    refine lv_aload_n hx hb d_X_empty_13 rfl (lv_at hl 1 rfl) ?_
    refine lv_iload_n hx hb d_X_empty_14 rfl (lv_at hl 2 rfl) ?_
    refine gw_put (ci := 0) (fs := [.int lim, .int sc, .int E, .ref (A 1), .ref (A 3), .ref (A 4), .ref (A 5), .ref (A 6), .int (nI gco1)]) (v := .int on) (ty := .boolean) hx hb hts in_X t_X t_X_ok n_X hown hE.K hW hS hf_x rfl 2 (by decide) (hts _ mw137) (fun _ h9 => h9) rfl (by decide +kernel) hn_z hf_z (Nat.le_of_ble_eq_true rfl) d_X_empty_15 (fun H locs hW hS => ?_)
    have hXn : gx_V G A lim sc on j n rs (gw_up Mw (A 0) 1 (.inr (0, [.int lim, .int sc, .int on, .ref (A 1), .ref (A 3), .ref (A 4), .ref (A 5), .ref (A 6), .int (nI gco1)]))) := hX.up1 hf_x (by omega)
    have hPn : gp_S Mw (gw_up Mw (A 0) 1 (.inr (0, [.int lim, .int sc, .int on, .ref (A 1), .ref (A 3), .ref (A 4), .ref (A 5), .ref (A 6), .int (nI gco1)]))) := gp_up hf_x
    have hF4 : gw_fg (gw_out [1, 2, 3, 4, 5, 6, 7, 8, 9, 10, 11]) M (gw_up Mw (A 0) 1 (.inr (0, [.int lim, .int sc, .int on, .ref (A 1), .ref (A 3), .ref (A 4), .ref (A 5), .ref (A 6), .int (nI gco1)]))) := gw_fg.up hF hf_x (show ¬ ((gw_out [1, 2, 3, 4, 5, 6, 7, 8, 9, 10, 11]) 1) by decide) (show ¬ ((gw_out [1, 2, 3, 4, 5, 6, 7, 8, 9, 10, 11]) 1) by decide)
    obtain ⟨M5, eM5⟩ : ∃ z, z = gw_up Mw (A 0) 1 (.inr (0, [.int lim, .int sc, .int on, .ref (A 1), .ref (A 3), .ref (A 4), .ref (A 5), .ref (A 6), .int (nI gco1)])) := ⟨_, rfl⟩
    replace hW : gw_P G.1 vwCl G.2.2.2 M5 H := by rw [eM5]; exact hW
    have hf_row : M5 (A 1) = some (2, .inr (1, [.ref (A 2), .int (nI rs)])) := by rw [eM5]; exact gw_keep hf_row hf_x (by decide)
    have hf_nums : M5 (A 2) = some (3, .inl (G.2.1 0, 256, .inl f3o1)) := by rw [eM5]; exact gw_keep hf_nums hf_x (by decide)
    have hf_gone : M5 (A 6) = some (8, .inl (G.2.1 0, 512, .inl f8o1)) := by rw [eM5]; exact gw_keep hf_gone hf_x (by decide)
    have hf_x : M5 (A 0) = some (1, .inr (0, [.int lim, .int sc, .int on, .ref (A 1), .ref (A 3), .ref (A 4), .ref (A 5), .ref (A 6), .int (nI gco1)])) := by rw [eM5]; exact gw_up_self _ _ _ _
    rw [← eM5] at hF4
    rw [← eM5] at hXn hPn
    replace hX := hXn
    clear hXn hPn
    refine lv_iload_n hx hb d_X_empty_18 rfl (lv_at hl 0 rfl) ?_
    exact gw_iret hx hb hr hlocks hS hW (Nat.le_of_ble_eq_true rfl) (Nat.le_of_ble_eq_true rfl) d_X_empty_19 ⟨(if_neg c4), hX, hF4⟩
